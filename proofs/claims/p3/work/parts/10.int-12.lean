/-! ===== intervals of ints ===== -/
noncomputable def zI (lo hi : Int) (v : Int32) : Prop := lo ≤ v.toInt ∧ v.toInt ≤ hi
noncomputable def zn (v : Int32) : Nat := v.toInt.toNat
theorem zI.w {a b c d : Int} {v : Int32} (h : zI a b v) (k : c ≤ a ∧ b ≤ d) : zI c d v := ⟨Int.le_trans k.1 h.1, Int.le_trans h.2 k.2⟩
theorem zI.top (v : Int32) : zI (-2147483648) 2147483647 v := by
  have h1 := Int32.le_toInt v
  have h2 := Int32.toInt_lt v
  constructor <;> omega
theorem zI.abs {a b : Int} {v : Int32} {P : Prop} (h : zI a b v) (k : b < a) : P := absurd (Int.le_trans h.1 h.2) (by omega)
theorem zI.ix {a b : Int} {v : Int32} {n : Nat} (h : zI a b v) (k : 0 ≤ a ∧ b < (n : Int) ∧ n < 2147483648) : v = nI (zn v) ∧ zn v < n := by
  obtain ⟨h1, h2⟩ := h
  have e : zn v < n := by unfold zn; omega
  refine ⟨Int32.toInt_inj.mp ?_, e⟩
  rw [nI_toInt (by omega)]
  unfold zn; omega
theorem zI.nn {a b : Int} {v : Int32} (h : zI a b v) (k : 0 ≤ a) : a ≤ (zn v : Int) ∧ (zn v : Int) ≤ b := by
  obtain ⟨h1, h2⟩ := h
  unfold zn; omega
theorem zI.add {a b c d lo hi : Int} {x y : Int32} (hx : zI a b x) (hy : zI c d y) (k : lo ≤ a + c ∧ b + d ≤ hi ∧ -2147483648 ≤ a + c ∧ b + d ≤ 2147483647) : zI lo hi (x + y) := by
  obtain ⟨h1, h2⟩ := hx
  obtain ⟨h3, h4⟩ := hy
  obtain ⟨k1, k2, k3, k4⟩ := k
  constructor <;> rw [Jvm.Kit.i32_add (by omega) (by omega)] <;> omega
theorem zI.sub {a b c d lo hi : Int} {x y : Int32} (hx : zI a b x) (hy : zI c d y) (k : lo ≤ a - d ∧ b - c ≤ hi ∧ -2147483648 ≤ a - d ∧ b - c ≤ 2147483647) : zI lo hi (x - y) := by
  obtain ⟨h1, h2⟩ := hx
  obtain ⟨h3, h4⟩ := hy
  obtain ⟨k1, k2, k3, k4⟩ := k
  constructor <;> rw [Jvm.Kit.i32_sub (by omega) (by omega)] <;> omega
theorem zI.mul {a b c d lo hi : Int} {x y : Int32} (hx : zI a b x) (hy : zI c d y) (k : 0 ≤ a ∧ 0 ≤ c ∧ lo ≤ a * c ∧ b * d ≤ hi ∧ b * d ≤ 2147483647) : zI lo hi (x * y) := by
  obtain ⟨h1, h2⟩ := hx
  obtain ⟨h3, h4⟩ := hy
  obtain ⟨k0, k1, k2, k3, k4⟩ := k
  have e1 : x.toInt * y.toInt ≤ b * d := Int.mul_le_mul h2 h4 (Int.le_trans k1 h3) (Int.le_trans (Int.le_trans k0 h1) h2)
  have e2 : a * c ≤ x.toInt * y.toInt := Int.mul_le_mul h1 h3 k1 (Int.le_trans k0 h1)
  have e0 : 0 ≤ a * c := Int.mul_nonneg k0 k1
  constructor <;> rw [Jvm.Kit.i32_mul (by omega) (by omega)] <;> omega
theorem zI.ltU {a b c d lo hi : Int} {x y : Int32} (h : x < y) (hx : zI a b x) (hy : zI c d y) (k : lo ≤ a ∧ d - 1 ≤ hi) : zI lo hi x := by
  have h := Int32.lt_iff_toInt_lt.mp h
  obtain ⟨h1, h2⟩ := hx
  obtain ⟨h3, h4⟩ := hy
  constructor <;> omega
theorem zI.ltD {a b c d lo hi : Int} {x y : Int32} (h : x < y) (hx : zI a b x) (hy : zI c d y) (k : lo ≤ a + 1 ∧ d ≤ hi) : zI lo hi y := by
  have h := Int32.lt_iff_toInt_lt.mp h
  obtain ⟨h1, h2⟩ := hx
  obtain ⟨h3, h4⟩ := hy
  constructor <;> omega
theorem zI.leU {a b c d lo hi : Int} {x y : Int32} (h : x ≤ y) (hx : zI a b x) (hy : zI c d y) (k : lo ≤ a ∧ d ≤ hi) : zI lo hi x := by
  have h := Int32.le_iff_toInt_le.mp h
  obtain ⟨h1, h2⟩ := hx
  obtain ⟨h3, h4⟩ := hy
  constructor <;> omega
theorem zI.leD {a b c d lo hi : Int} {x y : Int32} (h : x ≤ y) (hx : zI a b x) (hy : zI c d y) (k : lo ≤ a ∧ d ≤ hi) : zI lo hi y := by
  have h := Int32.le_iff_toInt_le.mp h
  obtain ⟨h1, h2⟩ := hx
  obtain ⟨h3, h4⟩ := hy
  constructor <;> omega
theorem zI.eqq {c d : Int} {x y : Int32} (h : x = y) (hy : zI c d y) : zI c d x := h ▸ hy
theorem zI.neD {a b c lo hi : Int} {x y : Int32} (h : ¬ x = y) (hx : zI a b x) (hy : zI c c y) (k : c = a ∧ lo ≤ a + 1 ∧ b ≤ hi) : zI lo hi x := by
  obtain ⟨h1, h2⟩ := hx
  obtain ⟨h3, h4⟩ := hy
  have h5 : x.toInt ≠ y.toInt := fun e => h (Int32.toInt_inj.mp e)
  constructor <;> omega
theorem zI.neU {a b c lo hi : Int} {x y : Int32} (h : ¬ x = y) (hx : zI a b x) (hy : zI c c y) (k : c = b ∧ lo ≤ a ∧ b - 1 ≤ hi) : zI lo hi x := by
  obtain ⟨h1, h2⟩ := hx
  obtain ⟨h3, h4⟩ := hy
  have h5 : x.toInt ≠ y.toInt := fun e => h (Int32.toInt_inj.mp e)
  constructor <;> omega
theorem zI.or {a b c d lo hi : Int} {x y : Int32} (n : Nat) (hx : zI a b x) (hy : zI c d y) (k : 0 ≤ a ∧ 0 ≤ c ∧ b < 2 ^ n ∧ d < 2 ^ n ∧ n ≤ 31 ∧ lo ≤ 0 ∧ (2 : Int) ^ n - 1 ≤ hi) : zI lo hi (x ||| y) := by
  obtain ⟨k0, k1, k2, k3, k4, k5, k6⟩ := k
  have ex := zI.top x
  obtain ⟨h1, h2⟩ := hx
  obtain ⟨h3, h4⟩ := hy
  have e1 : x.toInt = (x.toBitVec.toNat : Int) := by
    rw [← Int32.toInt_toBitVec, BitVec.toInt_eq_toNat_of_lt]
    have := x.toBitVec.isLt
    have h9 : 0 ≤ x.toBitVec.toInt := by rw [Int32.toInt_toBitVec]; omega
    rw [BitVec.toInt_eq_toNat_cond] at h9
    split at h9 <;> omega
  have e2 : y.toInt = (y.toBitVec.toNat : Int) := by
    rw [← Int32.toInt_toBitVec, BitVec.toInt_eq_toNat_of_lt]
    have := y.toBitVec.isLt
    have h9 : 0 ≤ y.toBitVec.toInt := by rw [Int32.toInt_toBitVec]; omega
    rw [BitVec.toInt_eq_toNat_cond] at h9
    split at h9 <;> omega
  have l1 : x.toBitVec.toNat < 2 ^ n := by exact_mod_cast (show (x.toBitVec.toNat : Int) < (2 : Int) ^ n by omega)
  have l2 : y.toBitVec.toNat < 2 ^ n := by exact_mod_cast (show (y.toBitVec.toNat : Int) < (2 : Int) ^ n by omega)
  have l3 : x.toBitVec.toNat ||| y.toBitVec.toNat < 2 ^ n := Nat.or_lt_two_pow l1 l2
  have e3 : (x ||| y).toBitVec.toNat = x.toBitVec.toNat ||| y.toBitVec.toNat := by rw [Int32.toBitVec_or, BitVec.toNat_or]
  have l4 : (2 : Nat) ^ n ≤ 2 ^ 31 := Nat.pow_le_pow_right (by decide) k4
  have e4 : (x ||| y).toInt = ((x.toBitVec.toNat ||| y.toBitVec.toNat : Nat) : Int) := by
    rw [← Int32.toInt_toBitVec, BitVec.toInt_eq_toNat_of_lt (by rw [e3]; omega), e3]
  have l5 : ((x.toBitVec.toNat ||| y.toBitVec.toNat : Nat) : Int) < (2 : Int) ^ n := by exact_mod_cast l3
  constructor <;> rw [e4] <;> omega
theorem zI.and {c d lo hi : Int} {x y : Int32} (hy : zI c d y) (k : 0 ≤ c ∧ lo ≤ 0 ∧ d ≤ hi) : zI lo hi (x &&& y) := by
  obtain ⟨k0, k1, k2⟩ := k
  obtain ⟨h3, h4⟩ := hy
  have hb := y.toBitVec.isLt
  have e2 : y.toInt = (y.toBitVec.toNat : Int) ∧ y.toBitVec.toNat < 2 ^ 31 := by
    have h9 : 0 ≤ y.toBitVec.toInt := by rw [Int32.toInt_toBitVec]; omega
    rw [← Int32.toInt_toBitVec]
    rw [BitVec.toInt_eq_toNat_cond] at h9 ⊢
    split at h9 <;> omega
  have e3 : (x &&& y).toBitVec.toNat = x.toBitVec.toNat &&& y.toBitVec.toNat := by rw [Int32.toBitVec_and, BitVec.toNat_and]
  have l3 : x.toBitVec.toNat &&& y.toBitVec.toNat ≤ y.toBitVec.toNat := Nat.and_le_right
  have e4 : (x &&& y).toInt = ((x.toBitVec.toNat &&& y.toBitVec.toNat : Nat) : Int) := by
    rw [← Int32.toInt_toBitVec, BitVec.toInt_eq_toNat_of_lt (by rw [e3]; omega), e3]
  constructor <;> rw [e4] <;> omega
theorem zI.shl {a b lo hi : Int} {t : Int32} (ht : zI a b t) (n : Nat) (k : 0 ≤ a ∧ b ≤ (n : Int) ∧ n ≤ 30 ∧ lo ≤ 1 ∧ (2 : Int) ^ n ≤ hi) : zI lo hi ((1 : Int32) <<< (t &&& 31)) := by
  obtain ⟨k0, k1, k2, k3, k4⟩ := k
  have hi' := zI.ix (n := n + 1) ht ⟨k0, by omega, by omega⟩
  obtain ⟨e, hk⟩ := hi'
  have key : ∀ j : Fin 31, ((1 : Int32) <<< (nI j.val &&& 31)).toInt = (2 : Int) ^ j.val := by decide +kernel
  have h5 : ((1 : Int32) <<< (nI (zn t) &&& 31)).toInt = (2 : Int) ^ (zn t) := key ⟨zn t, by omega⟩
  rw [e]
  have hp : (2 : Int) ^ (zn t) ≤ (2 : Int) ^ n := by
    have : (2 : Nat) ^ (zn t) ≤ 2 ^ n := Nat.pow_le_pow_right (by decide) (by omega)
    exact_mod_cast this
  have hq : (1 : Int) ≤ (2 : Int) ^ (zn t) := by
    have : (1 : Nat) ≤ 2 ^ (zn t) := Nat.one_le_two_pow
    exact_mod_cast this
  constructor <;> rw [h5] <;> omega
theorem zI.shr {a b lo hi : Int} {x t : Int32} (hx : zI a b x) (k : 0 ≤ a ∧ lo ≤ 0 ∧ b ≤ hi) : zI lo hi (x >>> (t &&& 31)) := by
  obtain ⟨k0, k1, k2⟩ := k
  obtain ⟨h1, h2⟩ := hx
  obtain ⟨j, hj⟩ : ∃ j : Nat, ((t &&& 31).toBitVec.smod 32).toNat = j := ⟨_, rfl⟩
  have e := Jvm.Kit.i32_shr x (t &&& 31) hj
  have hp : (0 : Int) < 2 ^ j := by
    have : (0 : Nat) < 2 ^ j := Nat.two_pow_pos j
    exact_mod_cast this
  have q1 : 0 ≤ x.toInt / 2 ^ j := Int.ediv_nonneg (by omega) (by omega)
  have q2 : x.toInt / 2 ^ j ≤ x.toInt := Int.ediv_le_self _ (by omega)
  constructor <;> rw [e] <;> omega
theorem zI.div {a b c lo hi : Int} {x y : Int32} (hx : zI a b x) (hy : zI c c y) (k : 0 ≤ a ∧ 0 < c ∧ lo ≤ a / c ∧ b / c ≤ hi) : zI lo hi (x / y) := by
  obtain ⟨k0, k1, k2, k3⟩ := k
  obtain ⟨h1, h2⟩ := hx
  have hc : y.toInt = c := by obtain ⟨h3, h4⟩ := hy; omega
  have e : (x / y).toInt = x.toInt / c := by
    rw [Jvm.Kit.i32_div (by omega), hc, Int.tdiv_eq_ediv_of_nonneg (by omega)]
  have q1 : a / c ≤ x.toInt / c := Int.ediv_le_ediv k1 h1
  have q2 : x.toInt / c ≤ b / c := Int.ediv_le_ediv k1 h2
  constructor <;> rw [e] <;> omega
theorem zI.rem {a b c d lo hi : Int} {x y : Int32} (hx : zI a b x) (hy : zI c d y) (k : 0 ≤ a ∧ 0 < c ∧ lo ≤ 0 ∧ d - 1 ≤ hi) : zI lo hi (x - x / y * y) := by
  obtain ⟨k0, k1, k2, k3⟩ := k
  obtain ⟨h1, h2⟩ := hx
  obtain ⟨h3, h4⟩ := hy
  have e : (x - x / y * y).toInt = x.toInt % y.toInt := by
    rw [rem_toInt, Int.tmod_eq_emod_of_nonneg (by omega)]
  have q1 := Int.emod_nonneg x.toInt (show y.toInt ≠ 0 by omega)
  have q2 := Int.emod_lt_of_pos x.toInt (show 0 < y.toInt by omega)
  constructor <;> rw [e] <;> omega
theorem zI.ite {a b : Int} {x y : Int32} {P : Prop} [Decidable P] (hx : zI a b x) (hy : zI a b y) : zI a b (if P then x else y) := by
  split
  · exact hx
  · exact hy
/-- a counter goes up by one: what is left gets less -/
theorem zI.up {a b hi : Int} {v : Int32} {n : Nat} (h : zI a b v) (k : b < 2147483647 ∧ -2147483648 ≤ a) (hm : hi - v.toInt < ((n + 1 : Nat) : Int)) : hi - (v + 1).toInt < (n : Int) := by
  obtain ⟨h1, h2⟩ := h
  have e1 : (1 : Int32).toInt = 1 := by decide
  rw [Jvm.Kit.i32_add (by rw [e1]; omega) (by rw [e1]; omega), e1]
  omega
theorem zI.down {a b lo : Int} {v : Int32} {n : Nat} (h : zI a b v) (k : -2147483648 < a) (hm : v.toInt - lo < ((n + 1 : Nat) : Int)) : (v + (-1)).toInt - lo < (n : Int) := by
  obtain ⟨h1, h2⟩ := h
  have e1 : (-1 : Int32).toInt = -1 := by decide
  have h3 := Int32.toInt_lt v
  rw [Jvm.Kit.i32_add (by rw [e1]; omega) (by rw [e1]; omega), e1]
  omega
/-! ===== a state as rows of ints ===== -/
noncomputable abbrev zRr : Type := Nat → Nat → Int32
noncomputable abbrev zRq : Type := Nat → Nat → Int64
noncomputable def zset {α : Type} (r : Nat → α) (k : Nat) (g : α) : Nat → α := fun a => if a = k then g else r a
section
/-! ===== the reference: its state, what each cell may hold, its world ===== -/
noncomputable def mslo (j : Nat) : Int := if j < 1 then (-2147483648) else if j < 7 then 0 else if j < 13 then (-2147483648) else if j < 19 then 0 else if j < 25 then (-2147483648) else if j < 31 then 0 else (-2147483648)
noncomputable def mllo (j : Nat) : Int := if j < 1 then 0 else if j < 2 then 0 else if j < 4 then (-2147483648) else if j < 5 then 0 else if j < 6 then 0 else (-2147483648)
noncomputable def mclo (j : Nat) : Int := if j < 1 then 0 else if j < 2 then 0 else (-2147483648)
noncomputable def mshi (B : Int) (j : Nat) : Int := if j < 1 then 2147483647 else if j < 7 then 5 else if j < 13 then 2147483647 else if j < 19 then B else if j < 25 then 2147483647 else if j < 31 then 63 else 2147483647
noncomputable def mlhi (j : Nat) : Int := if j < 1 then 6 else if j < 2 then 6 else if j < 4 then 2147483647 else if j < 5 then 6 else if j < 6 then 6 else 2147483647
noncomputable def mchi (j : Nat) : Int := if j < 1 then 1000 else if j < 2 then 2000 else 2147483647
noncomputable def mlo (k j : Nat) : Int := match k with
  | 1 => mllo j
  | 7 => 0
  | 10 => mclo j
  | 11 => mclo j
  | 14 => 0
  | 25 => 0
  | 27 => 0
  | 28 => 0
  | 29 => 0
  | 30 => 0
  | 31 => 0
  | 32 => mslo j
  | 33 => mslo j
  | 34 => mslo j
  | 35 => mslo (j % 31)
  | 36 => mslo (j % 31)
  | 37 => 0
  | 38 => 0
  | 101 => 0
  | 103 => 0
  | 104 => 0
  | 105 => 0
  | 106 => 0
  | 108 => 0
  | 122 => 0
  | 136 => (-1)
  | 151 => 0
  | _ => (-2147483648)
noncomputable def mhi (B : Int) (k j : Nat) : Int := match k with
  | 1 => mlhi j
  | 7 => 5
  | 10 => mchi j
  | 11 => mchi j
  | 14 => 1
  | 25 => 40
  | 27 => 5
  | 28 => 9999
  | 29 => 8
  | 30 => 5
  | 31 => 1
  | 32 => mshi B j
  | 33 => mshi 20 j
  | 34 => mshi 20 j
  | 35 => mshi 20 (j % 31)
  | 36 => mshi 20 (j % 31)
  | 37 => 1
  | 38 => 1
  | 101 => 1000
  | 103 => 1000
  | 104 => 1000
  | 105 => 1000
  | 106 => 4
  | 108 => 9999
  | 122 => 2000
  | 136 => 9999
  | 151 => 16
  | _ => 2147483647
noncomputable def mI (B : Int) (r : zRr) : Prop := ∀ k j : Nat, zI (mlo k j) (mhi B k j) (r k j)
noncomputable def mF (y : Nat → Nat) (r : zRr) (q : zRq) : List Value := [.int (r 100 0), .int (r 101 0), .ref (y 0), .int (r 103 0), .int (r 104 0), .int (r 105 0), .int (r 106 0), .long (q 107 0), .int (r 108 0), .int (r 109 0), .ref (y 1), .ref (y 2), .ref (y 3), .ref (y 4), .ref (y 5), .ref (y 6), .ref (y 7), .ref (y 8), .ref (y 9), .ref (y 10), .ref (y 11), .ref (y 12), .int (r 122 0), .int (r 123 0), .ref (y 13), .ref (y 14), .ref (y 15), .ref (y 16), .ref (y 17), .ref (y 18), .ref (y 19), .ref (y 20), .ref (y 21), .ref (y 22), .ref (y 23), .ref (y 24), .int (r 136 0), .long (q 137 0), .ref (y 25), .ref (y 26), .ref (y 27), .ref (y 28), .ref (y 29), .ref (y 30), .ref (y 31), .ref (y 32), .ref (y 33), .ref (y 34), .ref (y 35), .ref (y 36), .ref (y 37), .int (r 151 0), .int (r 152 0), .ref (y 38), .long (q 154 0), .int (r 155 0), .int (r 156 0)]
noncomputable def mW (ct : Nat → ClassId) (h0 : Nat) (y : Nat → Nat) (r : zRr) (q : zRq) : va_W := [(h0, .inr (11, mF y r q)), (y 0, .inl (ct 0, 1000, .inl (r 0))), (y 1, .inl (ct 0, 8, .inl (r 1))), (y 2, .inl (ct 1, 12, .inr (.inl (q 2)))), (y 3, .inl (ct 1, 12, .inr (.inl (q 3)))), (y 4, .inl (ct 0, 12, .inl (r 4))), (y 5, .inl (ct 0, 12, .inl (r 5))), (y 6, .inl (ct 0, 12, .inl (r 6))), (y 7, .inl (ct 0, 12, .inl (r 7))), (y 8, .inl (ct 0, 12, .inl (r 8))), (y 9, .inl (ct 0, 12, .inl (r 9))), (y 10, .inl (ct 0, 2, .inl (r 10))), (y 11, .inl (ct 0, 2, .inl (r 11))), (y 12, .inl (ct 0, 2000, .inl (r 12))), (y 13, .inl (ct 0, 7, .inl (r 13))), (y 14, .inl (ct 3, 7, .inl (r 14))), (y 15, .inl (ct 0, 7, .inl (r 15))), (y 16, .inl (ct 0, 7, .inl (r 16))), (y 17, .inl (ct 0, 7, .inl (r 17))), (y 18, .inl (ct 0, 7, .inl (r 18))), (y 19, .inl (ct 0, 7, .inl (r 19))), (y 20, .inl (ct 0, 7, .inl (r 20))), (y 21, .inl (ct 0, 7, .inl (r 21))), (y 22, .inl (ct 0, 7, .inl (r 22))), (y 23, .inl (ct 0, 7, .inl (r 23))), (y 24, .inl (ct 0, 20, .inl (r 24))), (y 25, .inl (ct 0, 6, .inl (r 25))), (y 26, .inl (ct 0, 240, .inl (r 26))), (y 27, .inl (ct 0, 240, .inl (r 27))), (y 28, .inl (ct 0, 240, .inl (r 28))), (y 29, .inl (ct 0, 5, .inl (r 29))), (y 30, .inl (ct 0, 40, .inl (r 30))), (y 31, .inl (ct 3, 40, .inl (r 31))), (y 32, .inl (ct 0, 31, .inl (r 32))), (y 33, .inl (ct 0, 31, .inl (r 33))), (y 34, .inl (ct 0, 31, .inl (r 34))), (y 35, .inl (ct 0, 124, .inl (r 35))), (y 36, .inl (ct 0, 496, .inl (r 36))), (y 37, .inl (ct 3, 4, .inl (r 37))), (y 38, .inl (ct 3, 384, .inl (r 38)))]
theorem mWo {ct : Nat → ClassId} {h0 : Nat} {y : Nat → Nat} {r : zRr} {q : zRq} : (mW ct h0 y r q)[0]? = some (h0, .inr (11, mF y r q)) := rfl
theorem mWg0 {ct : Nat → ClassId} {h0 : Nat} {y : Nat → Nat} {r : zRr} {q : zRq} : (mW ct h0 y r q)[1]? = some (y 0, .inl (ct 0, 1000, .inl (r 0))) := rfl
theorem mWg1 {ct : Nat → ClassId} {h0 : Nat} {y : Nat → Nat} {r : zRr} {q : zRq} : (mW ct h0 y r q)[2]? = some (y 1, .inl (ct 0, 8, .inl (r 1))) := rfl
theorem mWs1 {ct : Nat → ClassId} {h0 : Nat} {y : Nat → Nat} {r : zRr} {q : zRq} {g : Nat → Int32} : (mW ct h0 y r q).set 2 (y 1, .inl (ct 0, 8, .inl g)) = mW ct h0 y (zset r 1 g) q := rfl
theorem mWg2 {ct : Nat → ClassId} {h0 : Nat} {y : Nat → Nat} {r : zRr} {q : zRq} : (mW ct h0 y r q)[3]? = some (y 2, .inl (ct 1, 12, .inr (.inl (q 2)))) := rfl
theorem mWs2 {ct : Nat → ClassId} {h0 : Nat} {y : Nat → Nat} {r : zRr} {q : zRq} {g : Nat → Int64} : (mW ct h0 y r q).set 3 (y 2, .inl (ct 1, 12, .inr (.inl g))) = mW ct h0 y r (zset q 2 g) := rfl
theorem mWg3 {ct : Nat → ClassId} {h0 : Nat} {y : Nat → Nat} {r : zRr} {q : zRq} : (mW ct h0 y r q)[4]? = some (y 3, .inl (ct 1, 12, .inr (.inl (q 3)))) := rfl
theorem mWs3 {ct : Nat → ClassId} {h0 : Nat} {y : Nat → Nat} {r : zRr} {q : zRq} {g : Nat → Int64} : (mW ct h0 y r q).set 4 (y 3, .inl (ct 1, 12, .inr (.inl g))) = mW ct h0 y r (zset q 3 g) := rfl
theorem mWg4 {ct : Nat → ClassId} {h0 : Nat} {y : Nat → Nat} {r : zRr} {q : zRq} : (mW ct h0 y r q)[5]? = some (y 4, .inl (ct 0, 12, .inl (r 4))) := rfl
theorem mWs4 {ct : Nat → ClassId} {h0 : Nat} {y : Nat → Nat} {r : zRr} {q : zRq} {g : Nat → Int32} : (mW ct h0 y r q).set 5 (y 4, .inl (ct 0, 12, .inl g)) = mW ct h0 y (zset r 4 g) q := rfl
theorem mWg5 {ct : Nat → ClassId} {h0 : Nat} {y : Nat → Nat} {r : zRr} {q : zRq} : (mW ct h0 y r q)[6]? = some (y 5, .inl (ct 0, 12, .inl (r 5))) := rfl
theorem mWs5 {ct : Nat → ClassId} {h0 : Nat} {y : Nat → Nat} {r : zRr} {q : zRq} {g : Nat → Int32} : (mW ct h0 y r q).set 6 (y 5, .inl (ct 0, 12, .inl g)) = mW ct h0 y (zset r 5 g) q := rfl
theorem mWg6 {ct : Nat → ClassId} {h0 : Nat} {y : Nat → Nat} {r : zRr} {q : zRq} : (mW ct h0 y r q)[7]? = some (y 6, .inl (ct 0, 12, .inl (r 6))) := rfl
theorem mWs6 {ct : Nat → ClassId} {h0 : Nat} {y : Nat → Nat} {r : zRr} {q : zRq} {g : Nat → Int32} : (mW ct h0 y r q).set 7 (y 6, .inl (ct 0, 12, .inl g)) = mW ct h0 y (zset r 6 g) q := rfl
theorem mWg7 {ct : Nat → ClassId} {h0 : Nat} {y : Nat → Nat} {r : zRr} {q : zRq} : (mW ct h0 y r q)[8]? = some (y 7, .inl (ct 0, 12, .inl (r 7))) := rfl
theorem mWs7 {ct : Nat → ClassId} {h0 : Nat} {y : Nat → Nat} {r : zRr} {q : zRq} {g : Nat → Int32} : (mW ct h0 y r q).set 8 (y 7, .inl (ct 0, 12, .inl g)) = mW ct h0 y (zset r 7 g) q := rfl
theorem mWg8 {ct : Nat → ClassId} {h0 : Nat} {y : Nat → Nat} {r : zRr} {q : zRq} : (mW ct h0 y r q)[9]? = some (y 8, .inl (ct 0, 12, .inl (r 8))) := rfl
theorem mWs8 {ct : Nat → ClassId} {h0 : Nat} {y : Nat → Nat} {r : zRr} {q : zRq} {g : Nat → Int32} : (mW ct h0 y r q).set 9 (y 8, .inl (ct 0, 12, .inl g)) = mW ct h0 y (zset r 8 g) q := rfl
theorem mWg9 {ct : Nat → ClassId} {h0 : Nat} {y : Nat → Nat} {r : zRr} {q : zRq} : (mW ct h0 y r q)[10]? = some (y 9, .inl (ct 0, 12, .inl (r 9))) := rfl
theorem mWs9 {ct : Nat → ClassId} {h0 : Nat} {y : Nat → Nat} {r : zRr} {q : zRq} {g : Nat → Int32} : (mW ct h0 y r q).set 10 (y 9, .inl (ct 0, 12, .inl g)) = mW ct h0 y (zset r 9 g) q := rfl
theorem mWg10 {ct : Nat → ClassId} {h0 : Nat} {y : Nat → Nat} {r : zRr} {q : zRq} : (mW ct h0 y r q)[11]? = some (y 10, .inl (ct 0, 2, .inl (r 10))) := rfl
theorem mWs10 {ct : Nat → ClassId} {h0 : Nat} {y : Nat → Nat} {r : zRr} {q : zRq} {g : Nat → Int32} : (mW ct h0 y r q).set 11 (y 10, .inl (ct 0, 2, .inl g)) = mW ct h0 y (zset r 10 g) q := rfl
theorem mWg11 {ct : Nat → ClassId} {h0 : Nat} {y : Nat → Nat} {r : zRr} {q : zRq} : (mW ct h0 y r q)[12]? = some (y 11, .inl (ct 0, 2, .inl (r 11))) := rfl
theorem mWs11 {ct : Nat → ClassId} {h0 : Nat} {y : Nat → Nat} {r : zRr} {q : zRq} {g : Nat → Int32} : (mW ct h0 y r q).set 12 (y 11, .inl (ct 0, 2, .inl g)) = mW ct h0 y (zset r 11 g) q := rfl
theorem mWg12 {ct : Nat → ClassId} {h0 : Nat} {y : Nat → Nat} {r : zRr} {q : zRq} : (mW ct h0 y r q)[13]? = some (y 12, .inl (ct 0, 2000, .inl (r 12))) := rfl
theorem mWs12 {ct : Nat → ClassId} {h0 : Nat} {y : Nat → Nat} {r : zRr} {q : zRq} {g : Nat → Int32} : (mW ct h0 y r q).set 13 (y 12, .inl (ct 0, 2000, .inl g)) = mW ct h0 y (zset r 12 g) q := rfl
theorem mWg13 {ct : Nat → ClassId} {h0 : Nat} {y : Nat → Nat} {r : zRr} {q : zRq} : (mW ct h0 y r q)[14]? = some (y 13, .inl (ct 0, 7, .inl (r 13))) := rfl
theorem mWs13 {ct : Nat → ClassId} {h0 : Nat} {y : Nat → Nat} {r : zRr} {q : zRq} {g : Nat → Int32} : (mW ct h0 y r q).set 14 (y 13, .inl (ct 0, 7, .inl g)) = mW ct h0 y (zset r 13 g) q := rfl
theorem mWg14 {ct : Nat → ClassId} {h0 : Nat} {y : Nat → Nat} {r : zRr} {q : zRq} : (mW ct h0 y r q)[15]? = some (y 14, .inl (ct 3, 7, .inl (r 14))) := rfl
theorem mWs14 {ct : Nat → ClassId} {h0 : Nat} {y : Nat → Nat} {r : zRr} {q : zRq} {g : Nat → Int32} : (mW ct h0 y r q).set 15 (y 14, .inl (ct 3, 7, .inl g)) = mW ct h0 y (zset r 14 g) q := rfl
theorem mWg15 {ct : Nat → ClassId} {h0 : Nat} {y : Nat → Nat} {r : zRr} {q : zRq} : (mW ct h0 y r q)[16]? = some (y 15, .inl (ct 0, 7, .inl (r 15))) := rfl
theorem mWs15 {ct : Nat → ClassId} {h0 : Nat} {y : Nat → Nat} {r : zRr} {q : zRq} {g : Nat → Int32} : (mW ct h0 y r q).set 16 (y 15, .inl (ct 0, 7, .inl g)) = mW ct h0 y (zset r 15 g) q := rfl
theorem mWg16 {ct : Nat → ClassId} {h0 : Nat} {y : Nat → Nat} {r : zRr} {q : zRq} : (mW ct h0 y r q)[17]? = some (y 16, .inl (ct 0, 7, .inl (r 16))) := rfl
theorem mWs16 {ct : Nat → ClassId} {h0 : Nat} {y : Nat → Nat} {r : zRr} {q : zRq} {g : Nat → Int32} : (mW ct h0 y r q).set 17 (y 16, .inl (ct 0, 7, .inl g)) = mW ct h0 y (zset r 16 g) q := rfl
theorem mWg17 {ct : Nat → ClassId} {h0 : Nat} {y : Nat → Nat} {r : zRr} {q : zRq} : (mW ct h0 y r q)[18]? = some (y 17, .inl (ct 0, 7, .inl (r 17))) := rfl
theorem mWs17 {ct : Nat → ClassId} {h0 : Nat} {y : Nat → Nat} {r : zRr} {q : zRq} {g : Nat → Int32} : (mW ct h0 y r q).set 18 (y 17, .inl (ct 0, 7, .inl g)) = mW ct h0 y (zset r 17 g) q := rfl
theorem mWg18 {ct : Nat → ClassId} {h0 : Nat} {y : Nat → Nat} {r : zRr} {q : zRq} : (mW ct h0 y r q)[19]? = some (y 18, .inl (ct 0, 7, .inl (r 18))) := rfl
theorem mWs18 {ct : Nat → ClassId} {h0 : Nat} {y : Nat → Nat} {r : zRr} {q : zRq} {g : Nat → Int32} : (mW ct h0 y r q).set 19 (y 18, .inl (ct 0, 7, .inl g)) = mW ct h0 y (zset r 18 g) q := rfl
theorem mWg19 {ct : Nat → ClassId} {h0 : Nat} {y : Nat → Nat} {r : zRr} {q : zRq} : (mW ct h0 y r q)[20]? = some (y 19, .inl (ct 0, 7, .inl (r 19))) := rfl
theorem mWs19 {ct : Nat → ClassId} {h0 : Nat} {y : Nat → Nat} {r : zRr} {q : zRq} {g : Nat → Int32} : (mW ct h0 y r q).set 20 (y 19, .inl (ct 0, 7, .inl g)) = mW ct h0 y (zset r 19 g) q := rfl
theorem mWg20 {ct : Nat → ClassId} {h0 : Nat} {y : Nat → Nat} {r : zRr} {q : zRq} : (mW ct h0 y r q)[21]? = some (y 20, .inl (ct 0, 7, .inl (r 20))) := rfl
theorem mWs20 {ct : Nat → ClassId} {h0 : Nat} {y : Nat → Nat} {r : zRr} {q : zRq} {g : Nat → Int32} : (mW ct h0 y r q).set 21 (y 20, .inl (ct 0, 7, .inl g)) = mW ct h0 y (zset r 20 g) q := rfl
theorem mWg21 {ct : Nat → ClassId} {h0 : Nat} {y : Nat → Nat} {r : zRr} {q : zRq} : (mW ct h0 y r q)[22]? = some (y 21, .inl (ct 0, 7, .inl (r 21))) := rfl
theorem mWs21 {ct : Nat → ClassId} {h0 : Nat} {y : Nat → Nat} {r : zRr} {q : zRq} {g : Nat → Int32} : (mW ct h0 y r q).set 22 (y 21, .inl (ct 0, 7, .inl g)) = mW ct h0 y (zset r 21 g) q := rfl
theorem mWg22 {ct : Nat → ClassId} {h0 : Nat} {y : Nat → Nat} {r : zRr} {q : zRq} : (mW ct h0 y r q)[23]? = some (y 22, .inl (ct 0, 7, .inl (r 22))) := rfl
theorem mWs22 {ct : Nat → ClassId} {h0 : Nat} {y : Nat → Nat} {r : zRr} {q : zRq} {g : Nat → Int32} : (mW ct h0 y r q).set 23 (y 22, .inl (ct 0, 7, .inl g)) = mW ct h0 y (zset r 22 g) q := rfl
theorem mWg23 {ct : Nat → ClassId} {h0 : Nat} {y : Nat → Nat} {r : zRr} {q : zRq} : (mW ct h0 y r q)[24]? = some (y 23, .inl (ct 0, 7, .inl (r 23))) := rfl
theorem mWs23 {ct : Nat → ClassId} {h0 : Nat} {y : Nat → Nat} {r : zRr} {q : zRq} {g : Nat → Int32} : (mW ct h0 y r q).set 24 (y 23, .inl (ct 0, 7, .inl g)) = mW ct h0 y (zset r 23 g) q := rfl
theorem mWg24 {ct : Nat → ClassId} {h0 : Nat} {y : Nat → Nat} {r : zRr} {q : zRq} : (mW ct h0 y r q)[25]? = some (y 24, .inl (ct 0, 20, .inl (r 24))) := rfl
theorem mWs24 {ct : Nat → ClassId} {h0 : Nat} {y : Nat → Nat} {r : zRr} {q : zRq} {g : Nat → Int32} : (mW ct h0 y r q).set 25 (y 24, .inl (ct 0, 20, .inl g)) = mW ct h0 y (zset r 24 g) q := rfl
theorem mWg25 {ct : Nat → ClassId} {h0 : Nat} {y : Nat → Nat} {r : zRr} {q : zRq} : (mW ct h0 y r q)[26]? = some (y 25, .inl (ct 0, 6, .inl (r 25))) := rfl
theorem mWs25 {ct : Nat → ClassId} {h0 : Nat} {y : Nat → Nat} {r : zRr} {q : zRq} {g : Nat → Int32} : (mW ct h0 y r q).set 26 (y 25, .inl (ct 0, 6, .inl g)) = mW ct h0 y (zset r 25 g) q := rfl
theorem mWg26 {ct : Nat → ClassId} {h0 : Nat} {y : Nat → Nat} {r : zRr} {q : zRq} : (mW ct h0 y r q)[27]? = some (y 26, .inl (ct 0, 240, .inl (r 26))) := rfl
theorem mWs26 {ct : Nat → ClassId} {h0 : Nat} {y : Nat → Nat} {r : zRr} {q : zRq} {g : Nat → Int32} : (mW ct h0 y r q).set 27 (y 26, .inl (ct 0, 240, .inl g)) = mW ct h0 y (zset r 26 g) q := rfl
theorem mWg27 {ct : Nat → ClassId} {h0 : Nat} {y : Nat → Nat} {r : zRr} {q : zRq} : (mW ct h0 y r q)[28]? = some (y 27, .inl (ct 0, 240, .inl (r 27))) := rfl
theorem mWs27 {ct : Nat → ClassId} {h0 : Nat} {y : Nat → Nat} {r : zRr} {q : zRq} {g : Nat → Int32} : (mW ct h0 y r q).set 28 (y 27, .inl (ct 0, 240, .inl g)) = mW ct h0 y (zset r 27 g) q := rfl
theorem mWg28 {ct : Nat → ClassId} {h0 : Nat} {y : Nat → Nat} {r : zRr} {q : zRq} : (mW ct h0 y r q)[29]? = some (y 28, .inl (ct 0, 240, .inl (r 28))) := rfl
theorem mWs28 {ct : Nat → ClassId} {h0 : Nat} {y : Nat → Nat} {r : zRr} {q : zRq} {g : Nat → Int32} : (mW ct h0 y r q).set 29 (y 28, .inl (ct 0, 240, .inl g)) = mW ct h0 y (zset r 28 g) q := rfl
theorem mWg29 {ct : Nat → ClassId} {h0 : Nat} {y : Nat → Nat} {r : zRr} {q : zRq} : (mW ct h0 y r q)[30]? = some (y 29, .inl (ct 0, 5, .inl (r 29))) := rfl
theorem mWs29 {ct : Nat → ClassId} {h0 : Nat} {y : Nat → Nat} {r : zRr} {q : zRq} {g : Nat → Int32} : (mW ct h0 y r q).set 30 (y 29, .inl (ct 0, 5, .inl g)) = mW ct h0 y (zset r 29 g) q := rfl
theorem mWg30 {ct : Nat → ClassId} {h0 : Nat} {y : Nat → Nat} {r : zRr} {q : zRq} : (mW ct h0 y r q)[31]? = some (y 30, .inl (ct 0, 40, .inl (r 30))) := rfl
theorem mWs30 {ct : Nat → ClassId} {h0 : Nat} {y : Nat → Nat} {r : zRr} {q : zRq} {g : Nat → Int32} : (mW ct h0 y r q).set 31 (y 30, .inl (ct 0, 40, .inl g)) = mW ct h0 y (zset r 30 g) q := rfl
theorem mWg31 {ct : Nat → ClassId} {h0 : Nat} {y : Nat → Nat} {r : zRr} {q : zRq} : (mW ct h0 y r q)[32]? = some (y 31, .inl (ct 3, 40, .inl (r 31))) := rfl
theorem mWs31 {ct : Nat → ClassId} {h0 : Nat} {y : Nat → Nat} {r : zRr} {q : zRq} {g : Nat → Int32} : (mW ct h0 y r q).set 32 (y 31, .inl (ct 3, 40, .inl g)) = mW ct h0 y (zset r 31 g) q := rfl
theorem mWg32 {ct : Nat → ClassId} {h0 : Nat} {y : Nat → Nat} {r : zRr} {q : zRq} : (mW ct h0 y r q)[33]? = some (y 32, .inl (ct 0, 31, .inl (r 32))) := rfl
theorem mWs32 {ct : Nat → ClassId} {h0 : Nat} {y : Nat → Nat} {r : zRr} {q : zRq} {g : Nat → Int32} : (mW ct h0 y r q).set 33 (y 32, .inl (ct 0, 31, .inl g)) = mW ct h0 y (zset r 32 g) q := rfl
theorem mWg33 {ct : Nat → ClassId} {h0 : Nat} {y : Nat → Nat} {r : zRr} {q : zRq} : (mW ct h0 y r q)[34]? = some (y 33, .inl (ct 0, 31, .inl (r 33))) := rfl
theorem mWs33 {ct : Nat → ClassId} {h0 : Nat} {y : Nat → Nat} {r : zRr} {q : zRq} {g : Nat → Int32} : (mW ct h0 y r q).set 34 (y 33, .inl (ct 0, 31, .inl g)) = mW ct h0 y (zset r 33 g) q := rfl
theorem mWg34 {ct : Nat → ClassId} {h0 : Nat} {y : Nat → Nat} {r : zRr} {q : zRq} : (mW ct h0 y r q)[35]? = some (y 34, .inl (ct 0, 31, .inl (r 34))) := rfl
theorem mWs34 {ct : Nat → ClassId} {h0 : Nat} {y : Nat → Nat} {r : zRr} {q : zRq} {g : Nat → Int32} : (mW ct h0 y r q).set 35 (y 34, .inl (ct 0, 31, .inl g)) = mW ct h0 y (zset r 34 g) q := rfl
theorem mWg35 {ct : Nat → ClassId} {h0 : Nat} {y : Nat → Nat} {r : zRr} {q : zRq} : (mW ct h0 y r q)[36]? = some (y 35, .inl (ct 0, 124, .inl (r 35))) := rfl
theorem mWs35 {ct : Nat → ClassId} {h0 : Nat} {y : Nat → Nat} {r : zRr} {q : zRq} {g : Nat → Int32} : (mW ct h0 y r q).set 36 (y 35, .inl (ct 0, 124, .inl g)) = mW ct h0 y (zset r 35 g) q := rfl
theorem mWg36 {ct : Nat → ClassId} {h0 : Nat} {y : Nat → Nat} {r : zRr} {q : zRq} : (mW ct h0 y r q)[37]? = some (y 36, .inl (ct 0, 496, .inl (r 36))) := rfl
theorem mWs36 {ct : Nat → ClassId} {h0 : Nat} {y : Nat → Nat} {r : zRr} {q : zRq} {g : Nat → Int32} : (mW ct h0 y r q).set 37 (y 36, .inl (ct 0, 496, .inl g)) = mW ct h0 y (zset r 36 g) q := rfl
theorem mWg37 {ct : Nat → ClassId} {h0 : Nat} {y : Nat → Nat} {r : zRr} {q : zRq} : (mW ct h0 y r q)[38]? = some (y 37, .inl (ct 3, 4, .inl (r 37))) := rfl
theorem mWs37 {ct : Nat → ClassId} {h0 : Nat} {y : Nat → Nat} {r : zRr} {q : zRq} {g : Nat → Int32} : (mW ct h0 y r q).set 38 (y 37, .inl (ct 3, 4, .inl g)) = mW ct h0 y (zset r 37 g) q := rfl
theorem mWg38 {ct : Nat → ClassId} {h0 : Nat} {y : Nat → Nat} {r : zRr} {q : zRq} : (mW ct h0 y r q)[39]? = some (y 38, .inl (ct 3, 384, .inl (r 38))) := rfl
theorem mWs38 {ct : Nat → ClassId} {h0 : Nat} {y : Nat → Nat} {r : zRr} {q : zRq} {g : Nat → Int32} : (mW ct h0 y r q).set 39 (y 38, .inl (ct 3, 384, .inl g)) = mW ct h0 y (zset r 38 g) q := rfl
theorem mWf0 {ct : Nat → ClassId} {h0 : Nat} {y : Nat → Nat} {r : zRr} {q : zRq} {v : Int32} : (mW ct h0 y r q).set 0 (h0, .inr (11, (mF y r q).set 0 (.int v))) = mW ct h0 y (zset r 100 (fun _ => v)) q := rfl
theorem mWf1 {ct : Nat → ClassId} {h0 : Nat} {y : Nat → Nat} {r : zRr} {q : zRq} {v : Int32} : (mW ct h0 y r q).set 0 (h0, .inr (11, (mF y r q).set 1 (.int v))) = mW ct h0 y (zset r 101 (fun _ => v)) q := rfl
theorem mWf3 {ct : Nat → ClassId} {h0 : Nat} {y : Nat → Nat} {r : zRr} {q : zRq} {v : Int32} : (mW ct h0 y r q).set 0 (h0, .inr (11, (mF y r q).set 3 (.int v))) = mW ct h0 y (zset r 103 (fun _ => v)) q := rfl
theorem mWf4 {ct : Nat → ClassId} {h0 : Nat} {y : Nat → Nat} {r : zRr} {q : zRq} {v : Int32} : (mW ct h0 y r q).set 0 (h0, .inr (11, (mF y r q).set 4 (.int v))) = mW ct h0 y (zset r 104 (fun _ => v)) q := rfl
theorem mWf5 {ct : Nat → ClassId} {h0 : Nat} {y : Nat → Nat} {r : zRr} {q : zRq} {v : Int32} : (mW ct h0 y r q).set 0 (h0, .inr (11, (mF y r q).set 5 (.int v))) = mW ct h0 y (zset r 105 (fun _ => v)) q := rfl
theorem mWf6 {ct : Nat → ClassId} {h0 : Nat} {y : Nat → Nat} {r : zRr} {q : zRq} {v : Int32} : (mW ct h0 y r q).set 0 (h0, .inr (11, (mF y r q).set 6 (.int v))) = mW ct h0 y (zset r 106 (fun _ => v)) q := rfl
theorem mWf7 {ct : Nat → ClassId} {h0 : Nat} {y : Nat → Nat} {r : zRr} {q : zRq} {v : Int64} : (mW ct h0 y r q).set 0 (h0, .inr (11, (mF y r q).set 7 (.long v))) = mW ct h0 y r (zset q 107 (fun _ => v)) := rfl
theorem mWf8 {ct : Nat → ClassId} {h0 : Nat} {y : Nat → Nat} {r : zRr} {q : zRq} {v : Int32} : (mW ct h0 y r q).set 0 (h0, .inr (11, (mF y r q).set 8 (.int v))) = mW ct h0 y (zset r 108 (fun _ => v)) q := rfl
theorem mWf9 {ct : Nat → ClassId} {h0 : Nat} {y : Nat → Nat} {r : zRr} {q : zRq} {v : Int32} : (mW ct h0 y r q).set 0 (h0, .inr (11, (mF y r q).set 9 (.int v))) = mW ct h0 y (zset r 109 (fun _ => v)) q := rfl
theorem mWf22 {ct : Nat → ClassId} {h0 : Nat} {y : Nat → Nat} {r : zRr} {q : zRq} {v : Int32} : (mW ct h0 y r q).set 0 (h0, .inr (11, (mF y r q).set 22 (.int v))) = mW ct h0 y (zset r 122 (fun _ => v)) q := rfl
theorem mWf23 {ct : Nat → ClassId} {h0 : Nat} {y : Nat → Nat} {r : zRr} {q : zRq} {v : Int32} : (mW ct h0 y r q).set 0 (h0, .inr (11, (mF y r q).set 23 (.int v))) = mW ct h0 y (zset r 123 (fun _ => v)) q := rfl
theorem mWf36 {ct : Nat → ClassId} {h0 : Nat} {y : Nat → Nat} {r : zRr} {q : zRq} {v : Int32} : (mW ct h0 y r q).set 0 (h0, .inr (11, (mF y r q).set 36 (.int v))) = mW ct h0 y (zset r 136 (fun _ => v)) q := rfl
theorem mWf37 {ct : Nat → ClassId} {h0 : Nat} {y : Nat → Nat} {r : zRr} {q : zRq} {v : Int64} : (mW ct h0 y r q).set 0 (h0, .inr (11, (mF y r q).set 37 (.long v))) = mW ct h0 y r (zset q 137 (fun _ => v)) := rfl
theorem mWf51 {ct : Nat → ClassId} {h0 : Nat} {y : Nat → Nat} {r : zRr} {q : zRq} {v : Int32} : (mW ct h0 y r q).set 0 (h0, .inr (11, (mF y r q).set 51 (.int v))) = mW ct h0 y (zset r 151 (fun _ => v)) q := rfl
theorem mWf52 {ct : Nat → ClassId} {h0 : Nat} {y : Nat → Nat} {r : zRr} {q : zRq} {v : Int32} : (mW ct h0 y r q).set 0 (h0, .inr (11, (mF y r q).set 52 (.int v))) = mW ct h0 y (zset r 152 (fun _ => v)) q := rfl
theorem mWf54 {ct : Nat → ClassId} {h0 : Nat} {y : Nat → Nat} {r : zRr} {q : zRq} {v : Int64} : (mW ct h0 y r q).set 0 (h0, .inr (11, (mF y r q).set 54 (.long v))) = mW ct h0 y r (zset q 154 (fun _ => v)) := rfl
theorem mWf55 {ct : Nat → ClassId} {h0 : Nat} {y : Nat → Nat} {r : zRr} {q : zRq} {v : Int32} : (mW ct h0 y r q).set 0 (h0, .inr (11, (mF y r q).set 55 (.int v))) = mW ct h0 y (zset r 155 (fun _ => v)) q := rfl
theorem mWf56 {ct : Nat → ClassId} {h0 : Nat} {y : Nat → Nat} {r : zRr} {q : zRq} {v : Int32} : (mW ct h0 y r q).set 0 (h0, .inr (11, (mF y r q).set 56 (.int v))) = mW ct h0 y (zset r 156 (fun _ => v)) q := rfl
/-- the signs of an E, one behind another: which levels are open, and which of them by a NOT -/
noncomputable def mst (c : Int32) (g : List Bool) : List Bool :=
  if c = 28 then false :: g else if c = 30 then true :: g
  else if c = 20 ∨ c = 21 ∨ c = 22 ∨ c = 24 ∨ c = 25 ∨ c = 26 ∨ c = 27 then g
  else if c = 29 then g.tail.dropWhile id else g.dropWhile id
noncomputable def mrun (f : Nat → Int32) (a : Nat) : Nat → List Bool
  | 0 => []
  | n + 1 => mst (f (a + n)) (mrun f a n)
noncomputable def mok (c : Int32) (g : List Bool) : Prop := (c = 28 ∨ c = 30 → g.length ≤ 4) ∧ (c = 29 → 1 ≤ g.length) ∧ 0 ≤ c.toInt
noncomputable def mDf (f : Nat → Int32) (a b : Nat) : Prop := ∀ n, a + n < b → mok (f (a + n)) (mrun f a n)
noncomputable def mD (r : zRr) : Prop := mDf (r 12) (zn (r 10 0)) (zn (r 11 0))
noncomputable def mL (r : zRr) : Prop := ∀ b j : Nat, j < 40 → (j : Int) < (r 25 b).toInt → r 26 (40 * b + j) = 0 → zI 0 5 (r 28 (40 * b + j))
noncomputable def mT (r : zRr) : Prop := 0 < (r 1 1).toInt → 0 < (r 1 0).toInt
noncomputable def mJ (B : Int) (r : zRr) : Prop := 20 ≤ B ∧ B ≤ 41 ∧ mI B r ∧ mD r ∧ mL r ∧ mT r
theorem mJ.i {B : Int} {r : zRr} (h : mJ B r) : mI B r := h.2.2.1
theorem mJ.b {B : Int} {r : zRr} (h : mJ B r) : 20 ≤ B ∧ B ≤ 41 := ⟨h.1, h.2.1⟩
noncomputable def mfree (k : Nat) : Bool := !([12, 10, 11, 1, 25, 26, 28].contains k)
theorem mJ.free {B : Int} {r r1 : zRr} (h : mJ B r) (hI : mI B r1) (k : Nat) (hk : mfree k = true) (e : ∀ a, a ≠ k → r1 a = r a) : mJ B r1 := by
  have n : ∀ a, a ∈ [12, 10, 11, 1, 25, 26, 28] → r1 a = r a := fun a ha => e a (fun e2 => by subst e2; simp only [mfree, Bool.not_eq_true'] at hk; rw [List.contains_iff_mem.mpr ha] at hk; cases hk)
  obtain ⟨h1, h2, h3, h4, h5, h6⟩ := h
  refine ⟨h1, h2, hI, ?_, ?_, ?_⟩
  · show mDf _ _ _
    rw [n 12 (by decide), n 10 (by decide), n 11 (by decide)]; exact h4
  · intro b j
    rw [n 25 (by decide), n 26 (by decide), n 28 (by decide)]; exact h5 b j
  · show _ → _
    rw [n 1 (by decide)]; exact h6
theorem zset_ne {α : Type} {r : Nat → α} {k a : Nat} {g : α} (h : a ≠ k) : zset r k g a = r a := if_neg h
theorem zset_eq {α : Type} {r : Nat → α} {k : Nat} {g : α} : zset r k g k = g := if_pos rfl
theorem mI.setr {B : Int} {r : zRr} (h : mI B r) {k : Nat} {g : Nat → Int32} (hv : ∀ j, zI (mlo k j) (mhi B k j) (g j)) : mI B (zset r k g) := by
  intro a b
  by_cases e : a = k
  · subst e; rw [zset_eq]; exact hv b
  · rw [zset_ne e]; exact h a b
theorem mI.set {B : Int} {r : zRr} (h : mI B r) {k j : Nat} {v : Int32} (hv : zI (mlo k j) (mhi B k j) v) : mI B (zset r k (upd (r k) j v)) := by
  refine h.setr (fun b => ?_)
  by_cases e2 : b = j
  · subst e2; rw [pk_us]; exact hv
  · rw [pk_un e2]; exact h k b
theorem mJ.set {B : Int} {r : zRr} (h : mJ B r) {k j : Nat} {v : Int32} (hk : mfree k = true) (hv : zI (mlo k j) (mhi B k j) v) : mJ B (zset r k (upd (r k) j v)) := h.free (h.i.set hv) k hk (fun _ e => zset_ne e)
theorem mJ.setr {B : Int} {r : zRr} (h : mJ B r) {k : Nat} {g : Nat → Int32} (hk : mfree k = true) (hv : ∀ j, zI (mlo k j) (mhi B k j) (g j)) : mJ B (zset r k g) := h.free (h.i.setr hv) k hk (fun _ e => zset_ne e)
theorem mJ.setc {B : Int} {r : zRr} (h : mJ B r) {k : Nat} {v : Int32} (hk : mfree k = true) (hv : ∀ j, zI (mlo k j) (mhi B k j) v) : mJ B (zset r k (fun _ => v)) := h.setr hk hv
/-- what is left as it was -/
noncomputable def zFr (M : List Nat) (r r1 : zRr) : Prop := ∀ k, M.contains k = false → r1 k = r k
theorem zFr.refl {M : List Nat} {r : zRr} : zFr M r r := fun _ _ => rfl
theorem zFr.set {M : List Nat} {r r1 : zRr} (h : zFr M r r1) {k : Nat} {g : Nat → Int32} (hk : M.contains k = true) : zFr M r (zset r1 k g) := by
  intro a ha
  rw [zset_ne (fun e => by rw [e, hk] at ha; cases ha)]; exact h a ha
theorem zFr.tr {M M1 : List Nat} {r r1 r2 : zRr} (h : zFr M r r1) (h1 : zFr M1 r1 r2) (hk : M1.all (fun k => M.contains k) = true) : zFr M r r2 := by
  intro a ha
  rw [h1 a ?_]; · exact h a ha
  cases e : M1.contains a with
  | false => rfl
  | true =>
    have := List.all_eq_true.mp hk a (List.contains_iff_mem.mp e)
    rw [ha] at this; cases this
theorem zFr.up {M M1 : List Nat} {r r1 : zRr} (h1 : zFr M1 r r1) (hk : M1.all (fun k => M.contains k) = true) : zFr M r r1 := zFr.refl.tr h1 hk
theorem zFr.at {M : List Nat} {r r1 : zRr} (h : zFr M r r1) {k j : Nat} {a b : Int} (g : zI a b (r k j)) (hk : M.contains k = false) : zI a b (r1 k j) := by rw [h k hk]; exact g
theorem zs_at {r r1 : zRr} {k0 k j : Nat} {g : Nat → Int32} {a b : Int} (e : r1 = zset r k0 g) (h : zI a b (r k j)) (hk : k ≠ k0) : zI a b (r1 k j) := by rw [e, zset_ne hk]; exact h
theorem zs_in {r r1 : zRr} {k j : Nat} {g : Nat → Int32} {a b : Int} (e : r1 = zset r k g) (h : zI a b (g j)) : zI a b (r1 k j) := by rw [e, zset_eq]; exact h
theorem zu_in {f : Nat → Int32} {j : Nat} {v : Int32} {a b : Int} (h : zI a b v) : zI a b (upd f j v j) := by rw [pk_us]; exact h
theorem zu_at {f : Nat → Int32} {i j : Nat} {v : Int32} {a b : Int} (h : zI a b (f j)) (hk : j ≠ i) : zI a b (upd f i v j) := by rw [pk_un hk]; exact h
theorem zI.lit {a b : Int} {c : Int32} (k : a ≤ c.toInt ∧ c.toInt ≤ b) : zI a b c := k
theorem zI.nb {v : Int32} (h : zI 0 1 v) : v = 0 ∨ v = 1 := by
  obtain ⟨h1, h2⟩ := h
  rcases (show v.toInt = 0 ∨ v.toInt = 1 by omega) with e | e
  · exact Or.inl (Int32.toInt_inj.mp e)
  · exact Or.inr (Int32.toInt_inj.mp e)
theorem zI.bn {v : Int32} (h : zI 0 1 v) : vp_nar .boolean v = v := by rcases h.nb with rfl | rfl <;> rfl
theorem zI.rn {v : Int32} (h : zI 0 1 v) : narrow .boolean (.int v) = .int v := by rcases h.nb with rfl | rfl <;> rfl
theorem mF_w {a b B : Int} {v : Int32} (h : zI a b v) (hB : 20 ≤ B ∧ B ≤ 41) (k : 0 ≤ a ∧ b ≤ 20) : zI 0 B v := ⟨by have := h.1; omega, by have := h.2; omega⟩
theorem mF_r {B : Int} {v : Int32} (h : zI 0 B v) (hB : 20 ≤ B ∧ B ≤ 41) : zI 0 41 v := h.w ⟨by decide, hB.2⟩

theorem ms_1 {B : Int} {r : zRr} (h : mJ B r) {i : Int32} (hi : zI 1 6 i) : zI 0 5 (r 32 (zn i)) := by
  have h9 := hi.nn (by decide)
  rcases (show zn i = 1 ∨ zn i = 2 ∨ zn i = 3 ∨ zn i = 4 ∨ zn i = 5 ∨ zn i = 6 by omega) with e | e | e | e | e | e <;> rw [e] <;> exact h.i 32 _
theorem ms_1w {B : Int} {i : Int32} {v : Int32} (hi : zI 1 6 i) (hv : zI 0 5 v) : zI (mlo 32 (zn i)) (mhi B 32 (zn i)) v := by
  have h9 := hi.nn (by decide)
  rcases (show zn i = 1 ∨ zn i = 2 ∨ zn i = 3 ∨ zn i = 4 ∨ zn i = 5 ∨ zn i = 6 by omega) with e | e | e | e | e | e <;> rw [e] <;> exact hv
theorem ms_13 {B : Int} {r : zRr} (h : mJ B r) {i : Int32} (hi : zI 13 18 i) : zI 0 41 (r 32 (zn i)) := by
  have h9 := hi.nn (by decide)
  rcases (show zn i = 13 ∨ zn i = 14 ∨ zn i = 15 ∨ zn i = 16 ∨ zn i = 17 ∨ zn i = 18 by omega) with e | e | e | e | e | e <;> rw [e] <;> exact mF_r (h.i 32 _) h.b
theorem ms_13w {B : Int} {i : Int32} {v : Int32} (hi : zI 13 18 i) (hv : zI 0 B v) : zI (mlo 32 (zn i)) (mhi B 32 (zn i)) v := by
  have h9 := hi.nn (by decide)
  rcases (show zn i = 13 ∨ zn i = 14 ∨ zn i = 15 ∨ zn i = 16 ∨ zn i = 17 ∨ zn i = 18 by omega) with e | e | e | e | e | e <;> rw [e] <;> exact hv
theorem ms_25 {B : Int} {r : zRr} (h : mJ B r) {i : Int32} (hi : zI 25 30 i) : zI 0 63 (r 32 (zn i)) := by
  have h9 := hi.nn (by decide)
  rcases (show zn i = 25 ∨ zn i = 26 ∨ zn i = 27 ∨ zn i = 28 ∨ zn i = 29 ∨ zn i = 30 by omega) with e | e | e | e | e | e <;> rw [e] <;> exact h.i 32 _
theorem ms_25w {B : Int} {i : Int32} {v : Int32} (hi : zI 25 30 i) (hv : zI 0 63 v) : zI (mlo 32 (zn i)) (mhi B 32 (zn i)) v := by
  have h9 := hi.nn (by decide)
  rcases (show zn i = 25 ∨ zn i = 26 ∨ zn i = 27 ∨ zn i = 28 ∨ zn i = 29 ∨ zn i = 30 by omega) with e | e | e | e | e | e <;> rw [e] <;> exact hv
theorem ms_7w {B : Int} {i : Int32} {v : Int32} (hi : zI 7 12 i) : zI (mlo 32 (zn i)) (mhi B 32 (zn i)) v := by
  have h9 := hi.nn (by decide)
  rcases (show zn i = 7 ∨ zn i = 8 ∨ zn i = 9 ∨ zn i = 10 ∨ zn i = 11 ∨ zn i = 12 by omega) with e | e | e | e | e | e <;> rw [e] <;> exact zI.top v
theorem ms_19w {B : Int} {i : Int32} {v : Int32} (hi : zI 19 24 i) : zI (mlo 32 (zn i)) (mhi B 32 (zn i)) v := by
  have h9 := hi.nn (by decide)
  rcases (show zn i = 19 ∨ zn i = 20 ∨ zn i = 21 ∨ zn i = 22 ∨ zn i = 23 ∨ zn i = 24 by omega) with e | e | e | e | e | e <;> rw [e] <;> exact zI.top v
theorem zrange (ws : va_W) : (List.range ws.length).map (fun i => ws[i]?) = ws.map some := by
  apply List.ext_getElem?
  intro k
  rw [List.getElem?_map, List.getElem?_map]
  by_cases h : k < ws.length
  · simp [h]
  · rw [List.getElem?_eq_none (by simpa using h), List.getElem?_eq_none (by simpa using h)]; rfl
section ZF
variable {p : Program} {l : Launch} {e : Env} {R : Room} {s : State} {m : MethodId} {args : Array Value} {below : List Frame} {meth : Method} {c : Code} {H : Heap} {locs : List Loc} {cells slots : Nat} {Q : State → Prop}
variable {cc : ByteArray} {pc : Nat} {ls : Array Slot} {rest st0 : List Value} {D : va_G} {ct : Nat → ClassId} {A : Nat → Prop} {a : Nat} {ws w0 wr : va_W}
noncomputable abbrev zKf (p : Program) (l : Launch) (e : Env) (R : Room) (s : State) (m : MethodId) (args : Array Value) (below : List Frame) (meth : Method) (c : Code) (Q : State → Prop) (D : va_G) (A : Nat → Prop) (pc nL : Nat) (st : List Value) (w : va_W) (lc : List (Nat × Value)) : Prop :=
  ∀ (H : Heap) (locs : List Loc) (ls : Array Slot), zPD D A w H → va_S A s.heap H locs → lv_has ls nL lc → W p l e R s m args below meth c H locs 0 0 Q (F0 m pc ls st)
theorem zcallF {S : Type} {rv : S → Option Value} {post : S → Prop} {B : S → va_W} {mc ms : Nat} {a9 : Array Value} (hr : va_Run p l e R s m args below meth c H locs cells slots mc ms (F0 m pc ls st0) rest (zQ D (va_A w0 H.size) rv post B a9) (va_A w0 H.size)) (hw : zPD D A w0 H) (hS : va_S A s.heap H locs) (hA : ∀ q, s.heap.size ≤ q → A q)
    (kk : ∀ (u : S) (H1 : Heap) (locs1 : List Loc), post u → zPD D A (B u) H1 → va_S A s.heap H1 locs1 → W p l e R s m args below meth c H1 locs1 (cells + mc) (slots + ms) Q (F0 m (pc + 3) ls ((rv u).toList ++ rest))) : W p l e R s m args below meth c H locs cells slots Q (F0 m pc ls st0) :=
  zcall (wr := []) hr hw hS hA (List.range w0.length) [] (zrange w0) rfl rfl (fun _ h => nomatch h) kk
theorem zcall0 {S : Type} {rv : S → Option Value} {post : S → Prop} {mc ms : Nat} {a9 : Array Value} (hr : va_Run p l e R s m args below meth c H locs cells slots mc ms (F0 m pc ls st0) rest (zQ D (va_A [] H.size) rv post (fun _ => []) a9) (va_A [] H.size)) (hw : zPD D A ws H) (hS : va_S A s.heap H locs) (hA : ∀ q, s.heap.size ≤ q → A q) (hn : va_nd (List.range ws.length) = true)
    (kk : ∀ (u : S) (H1 : Heap) (locs1 : List Loc), post u → zPD D A ws H1 → va_S A s.heap H1 locs1 → W p l e R s m args below meth c H1 locs1 (cells + mc) (slots + ms) Q (F0 m (pc + 3) ls ((rv u).toList ++ rest))) : W p l e R s m args below meth c H locs cells slots Q (F0 m pc ls st0) :=
  zcall (wr := ws) hr hw hS hA [] (List.range ws.length) rfl (zrange ws) hn (fun _ _ h => nomatch h) (fun u H1 l1 h1 h2 h3 => kk u H1 l1 h1 (by rw [List.append_nil] at h2; exact h2) h3)
theorem mWn {h0 : Nat} {y : Nat → Nat} {r : zRr} {q : zRq} : va_nd (List.range (mW ct h0 y r q).length) = true := rfl
end ZF
end
section
/-! ===== the walk: rows for a state that is only known by its bounds ===== -/
theorem zofQ {l : Launch} {y : MethodName} {ws ws' : List Cond} {rm : Room} {D : va_G} {ct : Nat → ClassId} {zs : List (String × Nat)} {As : List Value} {w0 : va_W} {S : Type} {rv : S → Option Value} {post : S → Prop} {B : S → va_W} (cc : ByteArray) (maxL : Nat) (ret : Option FieldType) (hy : plainName y.cls = true) (hw : ws = Cond.code y cc maxL ret :: ws') (hlen : (lg_sl As).length ≤ maxL)
    (body : ∀ (p : Program) (e : Env) (s : State) (m : MethodId) (below : List Frame) (meth : Method) (c : Code) (A : Nat → Prop) (a9 : Array Value) (Q : State → Prop), a9 = As.toArray → p.tables.exec = Jvm.exec → c.code = cc → meth.sig.returnType = ret → c.maxLocals = maxL → (∀ w ∈ ws, w.before a9 s = true) → s.vm.findClass y.cls = some m.cls → meth.locks = false → meth.name = y.name → va_K D vwCl (zT ct) s → (∀ q, s.heap.size ≤ q → A q) → zZ zs A s s.heap → zN s → Q = MQ below (zQ D A rv post B) a9 s 0 0 A →
      ∀ (H : Heap) (locs : List Loc), zPD D A w0 H → va_S A s.heap H locs → ∀ ls : Array Slot, lv_has ls maxL (lv_args 0 As) → W p l e rm s m a9 below meth c H locs 0 0 Q (F0 m 0 ls [])) : zC l y ws rm D ct zs As w0 rv post B 0 0 :=
  zofW cc maxL ret hy hw hlen (fun p e s m below meth c A h1 h2 h3 h4 h5 h6 h7 h8 h9 h10 h11 h12 H locs hw hS ls hl => body p e s m below meth c A _ _ rfl h1 h2 h3 h4 h5 h6 h7 h8 h9 h10 h11 h12 rfl H locs hw hS ls hl)
section ZG
variable {p : Program} {l : Launch} {e : Env} {R : Room} {s : State} {m : MethodId} {args : Array Value} {below : List Frame} {meth : Method} {c : Code} {H : Heap} {locs : List Loc} {cells slots : Nat} {Q : State → Prop}
variable {cc : ByteArray} {pc : Nat} {ls : Array Slot} {rest st0 : List Value} {D : va_G} {ct : Nat → ClassId} {zs : List (String × Nat)} {A : Nat → Prop} {a : Nat} {ws w0 wr : va_W}
theorem zgen {lo hi : Int} {x : Int32} (h : zI lo hi x) (k : ∀ v : Int32, zI lo hi v → W p l e R s m args below meth c H locs cells slots Q (F0 m pc ls (.int v :: rest))) : W p l e R s m args below meth c H locs cells slots Q (F0 m pc ls (.int x :: rest)) := k x h
theorem zgenE {lo hi : Int} {x : Int32} (h : zI lo hi x) (k : ∀ v : Int32, v = x → zI lo hi v → W p l e R s m args below meth c H locs cells slots Q (F0 m pc ls (.int v :: rest))) : W p l e R s m args below meth c H locs cells slots Q (F0 m pc ls (.int x :: rest)) := k x rfl h
theorem zgenL {x : Int64} (k : ∀ v : Int64, W p l e R s m args below meth c H locs cells slots Q (F0 m pc ls (.long v :: rest))) : W p l e R s m args below meth c H locs cells slots Q (F0 m pc ls (.long x :: rest)) := k x
section ZR
variable {S : Type} {rv : S → Option Value} {post : S → Prop} {B : S → va_W} {mc ms : Nat}
theorem zvretQ (hQ : Q = MQ below (zQ D A rv post B) args s 0 0 A) (hx : p.tables.exec = Jvm.exec) (hb : c.code = cc) (hr : meth.sig.returnType = none) (hlocks : meth.locks = false) (u : S) (hv : rv u = none) (hp : post u) (hw : zPD D A (B u) H) (hS : va_S A s.heap H locs) (hdg : decode cc pc = .ok (.return_, 1)) :
    W p l e R s m args below meth c H locs 0 0 Q (F0 m pc ls []) := by
  subst hQ
  exact W.vret hx hb hr (fun t ht hW => ⟨⟨u, by rw [hv], hp, by rw [ht]; exact hw⟩, hS.F ht⟩) hS.2.2 hdg hlocks
theorem ziretQ {v : Int32} (hQ : Q = MQ below (zQ D A rv post B) args s 0 0 A) (hx : p.tables.exec = Jvm.exec) (hb : c.code = cc) {ty : FieldType} (hr : meth.sig.returnType = some ty) (hnar : narrow ty (.int v) = .int v) (hlocks : meth.locks = false) (u : S) (hv : rv u = some (.int v)) (hp : post u) (hw : zPD D A (B u) H) (hS : va_S A s.heap H locs) (hdg : decode cc pc = .ok (.ireturn, 1)) :
    W p l e R s m args below meth c H locs 0 0 Q (F0 m pc ls [.int v]) := by
  subst hQ
  exact W.zret hx hb hr hnar (fun t ht hW => ⟨⟨u, by rw [hv], hp, by rw [ht]; exact hw⟩, hS.F ht⟩) hS.2.2 hdg hlocks
end ZR
/-- a call over the whole world -/
theorem zcallW {S : Type} {rv : S → Option Value} {post : S → Prop} {B : S → va_W} {a9 : Array Value} (hr : va_Run p l e R s m args below meth c H locs 0 0 0 0 (F0 m pc ls st0) rest (zQ D (va_A w0 H.size) rv post B a9) (va_A w0 H.size)) (hw : zPD D A w0 H) (hS : va_S A s.heap H locs) (hA : ∀ q, s.heap.size ≤ q → A q) (pc2 : Nat) (h2 : pc + 3 = pc2)
    (kk : ∀ (u : S) (H1 : Heap) (locs1 : List Loc), post u → zPD D A (B u) H1 → va_S A s.heap H1 locs1 → W p l e R s m args below meth c H1 locs1 0 0 Q (F0 m pc2 ls ((rv u).toList ++ rest))) : W p l e R s m args below meth c H locs 0 0 Q (F0 m pc ls st0) := by
  subst h2
  exact zcallF hr hw hS hA kk
theorem zcallE {S : Type} {rv : S → Option Value} {post : S → Prop} {a9 : Array Value} (hr : va_Run p l e R s m args below meth c H locs 0 0 0 0 (F0 m pc ls st0) rest (zQ D (va_A [] H.size) rv post (fun _ => []) a9) (va_A [] H.size)) (hw : zPD D A ws H) (hS : va_S A s.heap H locs) (hA : ∀ q, s.heap.size ≤ q → A q) (hn : va_nd (List.range ws.length) = true) (pc2 : Nat) (h2 : pc + 3 = pc2)
    (kk : ∀ (u : S) (H1 : Heap) (locs1 : List Loc), post u → zPD D A ws H1 → va_S A s.heap H1 locs1 → W p l e R s m args below meth c H1 locs1 0 0 Q (F0 m pc2 ls ((rv u).toList ++ rest))) : W p l e R s m args below meth c H locs 0 0 Q (F0 m pc ls st0) := by
  subst h2
  exact zcall0 hr hw hS hA hn kk
section ZM
variable {h0 : Nat} {y : Nat → Nat} {r : zRr} {q : zRq}
theorem mget (hx : p.tables.exec = Jvm.exec) (hb : c.code = cc) {index : Nat} {Ts : List Cond} (hts : ∀ w ∈ Ts, w.before args s = true) (hin : ∀ w ∈ wsX120, w ∈ Ts) (hown : s.vm.findClass RX12 = some m.cls) (hK : va_K D vwCl (zT ct) s) (hw : zPD D A (mW ct h0 y r q) H) (k : Nat) (hk : k < 57) (hlink : (Cond.fieldLink RX12 index RX12 (TX12 k).2.1 (TX12 k).2.2.1).before args s = true) (h1 : (TX12 k).1 = RX12) {v : Value} (hv : (mF y r q)[k]? = some v) (hdg : decode cc pc = .ok (.getfield index, 3))
    (kk : W p l e R s m args below meth c H locs cells slots Q (F0 m (pc + 3) ls (v :: rest))) : W p l e R s m args below meth c H locs cells slots Q (F0 m pc ls (.ref h0 :: rest)) :=
  va_get (D := D) (ci := 11) hx hb hts hin hown hK hw.1 0 mWo rfl k hk hlink (fun _ h9 => by rw [h1] at h9; exact h9) hv hdg kk
theorem mput (hx : p.tables.exec = Jvm.exec) (hb : c.code = cc) {index : Nat} {Ts : List Cond} (hts : ∀ w ∈ Ts, w.before args s = true) (hin : ∀ w ∈ wsX120, w ∈ Ts) (hown : s.vm.findClass RX12 = some m.cls) (hK : va_K D vwCl (zT ct) s) (hw : zPD D A (mW ct h0 y r q) H) (hS : va_S A s.heap H locs) (k : Nat) (hk : k < 57) (hlink : (Cond.fieldLink RX12 index RX12 (TX12 k).2.1 (TX12 k).2.2.1).before args s = true) (h1 : (TX12 k).1 = RX12) (hfin : (TX12 k).2.2.2 = false) {ty : FieldType} {v : Value} (hd : parseFieldDescriptor (TX12 k).2.2.1 = some ty) (hn : narrow ty v = v) (hfit : fits ty v = true) (hdg : decode cc pc = .ok (.putfield index, 3)) (r1 : zRr) (q1 : zRq) (hw2 : (mW ct h0 y r q).set 0 (h0, .inr (11, (mF y r q).set k v)) = mW ct h0 y r1 q1)
    (kk : ∀ (H1 : Heap) (locs1 : List Loc), zPD D A (mW ct h0 y r1 q1) H1 → va_S A s.heap H1 locs1 → W p l e R s m args below meth c H1 locs1 cells slots Q (F0 m (pc + 3) ls rest)) : W p l e R s m args below meth c H locs cells slots Q (F0 m pc ls (v :: .ref h0 :: rest)) :=
  zput (D := D) (ci := 11) hx hb hts hin tyX12 tyX12_ok nmX12 hown hK hw hS 0 mWo rfl k hk hlink (fun _ h9 => by rw [h1] at h9; exact h9) hfin hd hn hfit hk hdg _ hw2 kk
theorem miald (hx : p.tables.exec = Jvm.exec) (hb : c.code = cc) (hK : va_K D vwCl (zT ct) s) (hw : zPD D A ws H) (q0 : Nat) {n : Nat} {f : Nat → Int32} (ha : ws[q0]? = some (a, .inl (ct 0, n, .inl f))) {i : Int32} {lo hi : Int} (h : zI lo hi i) (hk : 0 ≤ lo ∧ hi < (n : Int) ∧ n < 2147483648) (hdg : decode cc pc = .ok (.iaload, 1))
    (kk : W p l e R s m args below meth c H locs cells slots Q (F0 m (pc + 1) ls (.int (f (zn i)) :: rest))) : W p l e R s m args below meth c H locs cells slots Q (F0 m pc ls (.int i :: .ref a :: rest)) :=
  ziald hx hb hK hw q0 ha (zn i) (h.ix hk).1 (h.ix hk).2 hk.2.2 hdg kk
theorem mzald (hx : p.tables.exec = Jvm.exec) (hb : c.code = cc) (hK : va_K D vwCl (zT ct) s) (hw : zPD D A ws H) (q0 : Nat) {n : Nat} {f : Nat → Int32} (ha : ws[q0]? = some (a, .inl (ct 3, n, .inl f))) {i : Int32} {lo hi : Int} (h : zI lo hi i) (hk : 0 ≤ lo ∧ hi < (n : Int) ∧ n < 2147483648) (hdg : decode cc pc = .ok (.baload, 1))
    (kk : W p l e R s m args below meth c H locs cells slots Q (F0 m (pc + 1) ls (.int (f (zn i)) :: rest))) : W p l e R s m args below meth c H locs cells slots Q (F0 m pc ls (.int i :: .ref a :: rest)) :=
  zzald hx hb hK hw q0 ha (zn i) (h.ix hk).1 (h.ix hk).2 hk.2.2 hdg kk
theorem mlald (hx : p.tables.exec = Jvm.exec) (hb : c.code = cc) (hK : va_K D vwCl (zT ct) s) (hw : zPD D A ws H) (q0 : Nat) {n : Nat} {f : Nat → Int64} (ha : ws[q0]? = some (a, .inl (ct 1, n, .inr (.inl f)))) {i : Int32} {lo hi : Int} (h : zI lo hi i) (hk : 0 ≤ lo ∧ hi < (n : Int) ∧ n < 2147483648) (hdg : decode cc pc = .ok (.laload, 1))
    (kk : W p l e R s m args below meth c H locs cells slots Q (F0 m (pc + 1) ls (.long (f (zn i)) :: rest))) : W p l e R s m args below meth c H locs cells slots Q (F0 m pc ls (.int i :: .ref a :: rest)) :=
  zlald hx hb hK hw q0 ha (zn i) (h.ix hk).1 (h.ix hk).2 hk.2.2 hdg kk
theorem miast (hx : p.tables.exec = Jvm.exec) (hb : c.code = cc) (hK : va_K D vwCl (zT ct) s) (hw : zPD D A ws H) (hS : va_S A s.heap H locs) (q0 : Nat) {n : Nat} {f : Nat → Int32} (ha : ws[q0]? = some (a, .inl (ct 0, n, .inl f))) {i x : Int32} {lo hi : Int} (h : zI lo hi i) (hk : 0 ≤ lo ∧ hi < (n : Int) ∧ n < 2147483648) (hdg : decode cc pc = .ok (.iastore, 1)) (w2 : va_W) (hw2 : ws.set q0 (a, .inl (ct 0, n, .inl (upd f (zn i) x))) = w2)
    (kk : ∀ (H1 : Heap) (locs1 : List Loc), zPD D A w2 H1 → va_S A s.heap H1 locs1 → W p l e R s m args below meth c H1 locs1 cells slots Q (F0 m (pc + 1) ls rest)) : W p l e R s m args below meth c H locs cells slots Q (F0 m pc ls (.int x :: .int i :: .ref a :: rest)) :=
  ziast hx hb hK hw hS q0 ha (zn i) (h.ix hk).1 (h.ix hk).2 hk.2.2 hdg w2 hw2 kk
theorem mzast (hx : p.tables.exec = Jvm.exec) (hb : c.code = cc) (hK : va_K D vwCl (zT ct) s) (hw : zPD D A ws H) (hS : va_S A s.heap H locs) (q0 : Nat) {n : Nat} {f : Nat → Int32} (ha : ws[q0]? = some (a, .inl (ct 3, n, .inl f))) {i x : Int32} {lo hi : Int} (h : zI lo hi i) (hk : 0 ≤ lo ∧ hi < (n : Int) ∧ n < 2147483648) (hv : zI 0 1 x) (hdg : decode cc pc = .ok (.bastore, 1)) (w2 : va_W) (hw2 : ws.set q0 (a, .inl (ct 3, n, .inl (upd f (zn i) x))) = w2)
    (kk : ∀ (H1 : Heap) (locs1 : List Loc), zPD D A w2 H1 → va_S A s.heap H1 locs1 → W p l e R s m args below meth c H1 locs1 cells slots Q (F0 m (pc + 1) ls rest)) : W p l e R s m args below meth c H locs cells slots Q (F0 m pc ls (.int x :: .int i :: .ref a :: rest)) :=
  zzast hx hb hK hw hS q0 ha (zn i) (h.ix hk).1 (h.ix hk).2 hk.2.2 x hv.bn hdg w2 hw2 kk
theorem mlast (hx : p.tables.exec = Jvm.exec) (hb : c.code = cc) (hK : va_K D vwCl (zT ct) s) (hw : zPD D A ws H) (hS : va_S A s.heap H locs) (q0 : Nat) {n : Nat} {f : Nat → Int64} (ha : ws[q0]? = some (a, .inl (ct 1, n, .inr (.inl f)))) {i : Int32} {x : Int64} {lo hi : Int} (h : zI lo hi i) (hk : 0 ≤ lo ∧ hi < (n : Int) ∧ n < 2147483648) (hdg : decode cc pc = .ok (.lastore, 1)) (w2 : va_W) (hw2 : ws.set q0 (a, .inl (ct 1, n, .inr (.inl (vp_updL f (zn i) x)))) = w2)
    (kk : ∀ (H1 : Heap) (locs1 : List Loc), zPD D A w2 H1 → va_S A s.heap H1 locs1 → W p l e R s m args below meth c H1 locs1 cells slots Q (F0 m (pc + 1) ls rest)) : W p l e R s m args below meth c H locs cells slots Q (F0 m pc ls (.long x :: .int i :: .ref a :: rest)) :=
  zlast hx hb hK hw hS q0 ha (zn i) (h.ix hk).1 (h.ix hk).2 hk.2.2 hdg w2 hw2 kk
theorem mgen {P : zRr → Prop} {G : Prop} {r2 : zRr} (hw : zPD D A (mW ct h0 y r2 q) H) (hp : P r2) (k : ∀ r1 : zRr, r1 = r2 → zPD D A (mW ct h0 y r1 q) H → P r1 → G) : G := k r2 rfl hw hp
theorem mqgen {G : Prop} {q2 : zRq} (hw : zPD D A (mW ct h0 y r q2) H) (k : ∀ q1 : zRq, q1 = q2 → zPD D A (mW ct h0 y r q1) H → G) : G := k q2 rfl hw
end ZM
end ZG
theorem zI.m0 {a b hi N : Int} {v : Int32} (h : zI a b v) (k : hi - a < N) : hi - v.toInt < N := by have := h.1; omega
theorem zI.m1 {a b lo N : Int} {v : Int32} (h : zI a b v) (k : b - lo < N) : v.toInt - lo < N := by have := h.2; omega
theorem zI.no {a b hi : Int} {v : Int32} {G : Prop} (h : zI a b v) (k : b ≤ hi) (hm : hi - v.toInt < ((0 : Nat) : Int)) : G := absurd hm (by have := h.2; omega)
theorem zI.no1 {a b lo : Int} {v : Int32} {G : Prop} (h : zI a b v) (k : lo ≤ a) (hm : v.toInt - lo < ((0 : Nat) : Int)) : G := absurd hm (by have := h.1; omega)
theorem zI.nlt {x y : Int32} (h : ¬ x < y) : y ≤ x := by
  rw [Int32.le_iff_toInt_le]; rw [Int32.lt_iff_toInt_lt] at h; omega
theorem zI.nle {x y : Int32} (h : ¬ x ≤ y) : y < x := by
  rw [Int32.lt_iff_toInt_lt]; rw [Int32.le_iff_toInt_le] at h; omega
end
