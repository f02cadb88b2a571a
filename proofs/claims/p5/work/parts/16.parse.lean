/-! ===== the reader of tokens ===== -/
def mP (r : zRr) : Prop := (r 105 0).toInt ≤ (r 104 0).toInt ∧ (r 104 0).toInt ≤ (r 103 0).toInt ∧ (r 106 0 = 0 ∨ (r 105 0).toInt < (r 104 0).toInt)
def msg (r : zRr) (k : Int32) : Int32 := if k < r 103 0 then r 0 (zn k) else 0
theorem msg_in {r : zRr} {k : Int32} (h : k < r 103 0) : msg r k = r 0 (zn k) := if_pos h
theorem msg_lt {r : zRr} {k u : Int32} (e : u = msg r k) (h : 1 ≤ u.toInt) : k < r 103 0 := by
  by_cases hk : k < r 103 0
  · exact hk
  · rw [e] at h
    unfold msg at h
    rw [if_neg hk] at h
    have e0 : (0 : Int32).toInt = 0 := by decide
    omega
theorem msg_congr {r r1 : zRr} {k : Int32} (h0 : r1 0 = r 0) (h1 : r1 103 = r 103) : msg r1 k = msg r k := by
  unfold msg; rw [h0, h1]
theorem ltI {x y : Int32} (h : x < y) : x.toInt < y.toInt := Int32.lt_iff_toInt_lt.mp h
theorem leI {x y : Int32} (h : x ≤ y) : x.toInt ≤ y.toInt := Int32.le_iff_toInt_le.mp h
theorem neI {x y : Int32} (h : ¬ x = y) : x.toInt ≠ y.toInt := fun e => h (Int32.toInt_inj.mp e)
theorem mtold {t u : Int32} (ht : zI 0 999 t) (hu : zI 48 57 u) : (t * 10 + u - 48).toInt = t.toInt * 10 + u.toInt - 48 := by
  obtain ⟨h1, h2⟩ := ht
  obtain ⟨h3, h4⟩ := hu
  have c10 : (10 : Int32).toInt = 10 := by decide
  have c48 : (48 : Int32).toInt = 48 := by decide
  have e1 : (t * 10).toInt = t.toInt * 10 := by rw [Jvm.Kit.i32_mul (by rw [c10]; omega) (by rw [c10]; omega), c10]
  have e2 : (t * 10 + u).toInt = t.toInt * 10 + u.toInt := by rw [Jvm.Kit.i32_add (by rw [e1]; omega) (by rw [e1]; omega), e1]
  rw [Jvm.Kit.i32_sub (by rw [e2, c48]; omega) (by rw [e2, c48]; omega), e2, c48]
theorem i32_d {x y : Int32} {a b c d : Int} (hx : zI a b x) (hy : zI c d y) (k : -2147483648 ≤ a - d ∧ b - c ≤ 2147483647) : (x - y).toInt = x.toInt - y.toInt := by
  obtain ⟨h1, h2⟩ := hx
  obtain ⟨h3, h4⟩ := hy
  rw [Jvm.Kit.i32_sub (by omega) (by omega)]
theorem i32_a {x y : Int32} {a b c d : Int} (hx : zI a b x) (hy : zI c d y) (k : -2147483648 ≤ a + c ∧ b + d ≤ 2147483647) : (x + y).toInt = x.toInt + y.toInt := by
  obtain ⟨h1, h2⟩ := hx
  obtain ⟨h3, h4⟩ := hy
  rw [Jvm.Kit.i32_add (by omega) (by omega)]
theorem zI.un6 {x : Int32} (h : zI 6 11 (6 + x)) (hx : zI 0 6 x) : zI 0 5 x := by
  have c6 : (6 : Int32).toInt = 6 := by decide
  have e := i32_a (zI.lit (a := 6) (b := 6) (c := 6) (by decide)) hx (by decide)
  obtain ⟨h1, h2⟩ := h
  obtain ⟨h3, h4⟩ := hx
  constructor <;> omega
theorem mP.b {B : Int} {r : zRr} (h : mP r) (hI : mI B r) (ht : ¬ r 106 0 = 0) : zI 0 999 (r 105 0) := by
  obtain ⟨h1, h2, h3⟩ := h
  have h4 : zI 0 1000 (r 103 0) := hI 103 0
  have h5 : zI 0 1000 (r 105 0) := hI 105 0
  have h6 := h3.resolve_left ht
  have := h4.2; have := h5.1
  constructor <;> omega
theorem msg_out {r : zRr} {k : Int32} (h : r 103 0 ≤ k) : 0 = msg r k := by
  unfold msg
  rw [if_neg (fun h2 => by have := ltI h2; have := leI h; omega)]
theorem mP.fr {r r1 : zRr} (h : mP r) (e3 : r1 103 = r 103) (e4 : r1 104 = r 104) (e5 : r1 105 = r 105) (e6 : r1 106 = r 106) : mP r1 := by
  unfold mP
  rw [e3, e4, e5, e6]; exact h
theorem tkne {x : Int32} {a b : Int} (h : zI a b x) (k : 1 ≤ a) : ¬ x = 0 := by
  intro e
  have h1 := h.1
  rw [e] at h1
  have e0 : (0 : Int32).toInt = 0 := by decide
  omega
theorem zI.eq0 {x : Int32} (h : zI 0 0 x) : x = 0 := by
  obtain ⟨h1, h2⟩ := h
  exact Int32.toInt_inj.mp (by have e0 : (0 : Int32).toInt = 0 := (by decide); omega)
