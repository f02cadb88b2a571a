/-! ===== bounds alone; what is drawn; towns still unseen; lines laid aside ===== -/
def mN (B : Int) (r : zRr) : Prop := 20 ≤ B ∧ B ≤ 41 ∧ mI B r
theorem mJ.n {B : Int} {r : zRr} (h : mJ B r) : mN B r := ⟨h.1, h.2.1, h.2.2.1⟩
theorem mN.i {B : Int} {r : zRr} (h : mN B r) : mI B r := h.2.2
theorem mN.b {B : Int} {r : zRr} (h : mN B r) : 20 ≤ B ∧ B ≤ 41 := ⟨h.1, h.2.1⟩
theorem mN.set {B : Int} {r : zRr} (h : mN B r) {k j : Nat} {v : Int32} (_ : 0 = 0) (hv : zI (mlo k j) (mhi B k j) v) : mN B (zset r k (upd (r k) j v)) := ⟨h.1, h.2.1, h.i.set hv⟩
theorem mN.setr {B : Int} {r : zRr} (h : mN B r) {k : Nat} {g : Nat → Int32} (_ : 0 = 0) (hv : ∀ j, zI (mlo k j) (mhi B k j) (g j)) : mN B (zset r k g) := ⟨h.1, h.2.1, h.i.setr hv⟩
theorem mN.setc {B : Int} {r : zRr} (h : mN B r) {k : Nat} {v : Int32} (_ : 0 = 0) (hv : ∀ j, zI (mlo k j) (mhi B k j) v) : mN B (zset r k (fun _ => v)) := ⟨h.1, h.2.1, h.i.setr hv⟩
def mQ (g : Int64) : Prop := 0 ≤ g.toInt ∧ g.toInt < 2147483648
theorem mQ.of {x : Int32} {a b : Int} (h : zI a b x) (k : 0 ≤ a) : mQ x.toInt64 := by
  unfold mQ
  rw [Jvm.Kit.i64_of_i32]
  have h1 := Int32.toInt_lt x
  have := h.1
  constructor <;> omega
theorem mQ.step {g : Int64} (h : mQ g) : mQ (g * 1103515245 + 12345 - (g * 1103515245 + 12345) / 2147483648 * 2147483648) := by
  obtain ⟨h1, h2⟩ := h
  have c1 : (1103515245 : Int64).toInt = 1103515245 := by decide
  have c2 : (12345 : Int64).toInt = 12345 := by decide
  have c3 : (2147483648 : Int64).toInt = 2147483648 := by decide
  have e1 : (g * 1103515245).toInt = g.toInt * 1103515245 := by rw [Jvm.Kit.i64_mul (by rw [c1]; omega) (by rw [c1]; omega), c1]
  have e2 : (g * 1103515245 + 12345).toInt = g.toInt * 1103515245 + 12345 := by rw [Jvm.Kit.i64_add (by rw [e1, c2]; omega) (by rw [e1, c2]; omega), e1, c2]
  unfold mQ
  rw [Jvm.Kit.i64_rem_nonneg (by rw [e2]; omega), c3]
  constructor <;> omega
theorem mQ.draw {g : Int64} (h : mQ g) {m : Int32} {a b : Int} (hm : zI a b m) (k : 1 ≤ a) : zI 0 (b - 1) (g / 65536 - g / 65536 / m.toInt64 * m.toInt64).toInt32 := by
  obtain ⟨h1, h2⟩ := h
  obtain ⟨h3, h4⟩ := hm
  have hm32 := Int32.toInt_lt m
  have c1 : (65536 : Int64).toInt = 65536 := by decide
  have em : m.toInt64.toInt = m.toInt := Jvm.Kit.i64_of_i32 m
  have e1 : (g / 65536).toInt = g.toInt / 65536 := by
    rw [Jvm.Kit.i64_div (by rw [c1]; omega), c1, Int.tdiv_eq_ediv_of_nonneg h1]
  have e2 : (g / 65536 - g / 65536 / m.toInt64 * m.toInt64).toInt = g.toInt / 65536 % m.toInt := by
    rw [Jvm.Kit.i64_rem_nonneg (by rw [e1]; omega), e1, em]
  have q1 := Int.emod_nonneg (g.toInt / 65536) (show m.toInt ≠ 0 by omega)
  have q2 := Int.emod_lt_of_pos (g.toInt / 65536) (show 0 < m.toInt by omega)
  have e3 := Jvm.Kit.i32_of_i64 (x := g / 65536 - g / 65536 / m.toInt64 * m.toInt64) (by rw [e2]; omega) (by rw [e2]; omega)
  constructor <;> rw [e3, e2] <;> omega
theorem i64ne {m : Int32} {a b : Int} (hm : zI a b m) (k : 1 ≤ a) : ¬ m.toInt64 = 0 := by
  intro e
  have em : m.toInt64.toInt = m.toInt := Jvm.Kit.i64_of_i32 m
  rw [e] at em
  have c0 : (0 : Int64).toInt = 0 := by decide
  have := hm.1
  omega
/-- how many of the first n cells hold 0 -/
def mz (f : Nat → Int32) : Nat → Nat
  | 0 => 0
  | n + 1 => mz f n + (if f n = 0 then 1 else 0)
theorem mz_le (f : Nat → Int32) : ∀ n, mz f n ≤ n
  | 0 => Nat.le_refl _
  | n + 1 => by have := mz_le f n; show mz f n + (if f n = 0 then 1 else 0) ≤ n + 1; split <;> omega
theorem mz_out {f : Nat → Int32} {j : Nat} {v : Int32} : ∀ n, n ≤ j → mz (upd f j v) n = mz f n
  | 0, _ => rfl
  | n + 1, h => by
    show mz (upd f j v) n + _ = mz f n + _
    rw [mz_out n (by omega), pk_un (by omega)]
theorem mz_set {f : Nat → Int32} {j : Nat} (hf : f j = 0) : ∀ n, j < n → mz (upd f j 1) n + 1 = mz f n
  | 0, h => by omega
  | n + 1, h => by
    show mz (upd f j 1) n + (if upd f j 1 n = 0 then 1 else 0) + 1 = mz f n + (if f n = 0 then 1 else 0)
    by_cases e : j = n
    · subst e
      rw [mz_out j (Nat.le_refl _), pk_us, if_neg (by decide), if_pos hf]
    · have := mz_set hf n (by omega)
      rw [pk_un (fun e2 => e e2.symm)]
      omega
theorem zq_in {q q1 : zRq} {k j : Nat} {g : Nat → Int64} (e : q1 = zset q k g) : q1 k j = g j := by rw [e, zset_eq]
theorem mT_use {B : Int} {r : zRr} (h : mJ B r) {p : Int32} {a b : Int} (hp : zI a b p) (hlt : p < r 1 1) (k : 0 ≤ a) : zI 1 6 (r 1 0) := by
  have h1 := Int32.lt_iff_toInt_lt.mp hlt
  have h2 : mT r := h.2.2.2.2.2
  have h3 := h2 (by have := hp.1; omega)
  have h4 : zI 0 6 (r 1 0) := h.i 1 0
  exact ⟨by omega, h4.2⟩
theorem zn40 {a k : Int32} {b c : Int} (ha : zI 0 b a) (hk : zI 0 c k) (h : b ≤ 10 ∧ c ≤ 40) : zn (40 * a + k) = 40 * zn a + zn k := by
  obtain ⟨h1, h2⟩ := ha
  obtain ⟨h3, h4⟩ := hk
  have c0 : (40 : Int32).toInt = 40 := by decide
  have e1 : (40 * a).toInt = 40 * a.toInt := by rw [Jvm.Kit.i32_mul (by rw [c0]; omega) (by rw [c0]; omega), c0]
  have e2 : (40 * a + k).toInt = 40 * a.toInt + k.toInt := by rw [Jvm.Kit.i32_add (by rw [e1]; omega) (by rw [e1]; omega), e1]
  unfold zn; rw [e2]; omega
theorem ml_step {f g g1 : Nat → Int32} {a b k i j : Nat} (hab : a ≠ b) (hk : k < 40) (h : g = zcp f f (40 * a) (40 * b) k) (hi : i = 40 * a + k) (hj : j = 40 * b + k) (h1 : g1 = upd g j (g i)) : g1 = zcp f f (40 * a) (40 * b) (k + 1) := by
  subst hi hj h1
  have e : g (40 * a + k) = f (40 * a + k) := by
    rw [h]
    show (if 40 * b ≤ 40 * a + k ∧ 40 * a + k < 40 * b + k then f (40 * a + (40 * a + k - 40 * b)) else f (40 * a + k)) = _
    rw [if_neg (by omega)]
  rw [e, h, zcp_s]
theorem ml_end {B : Int} {r r1 : zRr} (h : mJ B r) (hn : mN B r1) (hf : zFr [25, 26, 27, 28] r r1) {a b : Nat} (ha : a < 6) (h25 : r1 25 = upd (r 25) b (r 25 a)) (h26 : r1 26 = zcp (r 26) (r 26) (40 * a) (40 * b) 40) (h28 : r1 28 = zcp (r 28) (r 28) (40 * a) (40 * b) 40) : mJ B r1 := by
  obtain ⟨b1, b2, b3, b4, b5, b6⟩ := h
  refine ⟨b1, b2, hn.i, ?_, ?_, ?_⟩
  · show mDf _ _ _
    rw [hf 12 rfl, hf 10 rfl, hf 11 rfl]; exact b4
  · intro c j hj h1 h2
    rw [h25] at h1
    rw [h26] at h2
    rw [h28]
    by_cases hc : c = b
    · subst hc
      rw [pk_us] at h1
      have e : ∀ f : Nat → Int32, zcp f f (40 * a) (40 * c) 40 (40 * c + j) = f (40 * a + j) := by
        intro f
        show (if 40 * c ≤ 40 * c + j ∧ 40 * c + j < 40 * c + 40 then f (40 * a + (40 * c + j - 40 * c)) else _) = _
        rw [if_pos (by omega), show 40 * c + j - 40 * c = j by omega]
      rw [e] at h2 ⊢
      exact b5 a j hj h1 h2
    · rw [pk_un hc] at h1
      have e : ∀ f : Nat → Int32, zcp f f (40 * a) (40 * b) 40 (40 * c + j) = f (40 * c + j) := by
        intro f
        show (if 40 * b ≤ 40 * c + j ∧ 40 * c + j < 40 * b + 40 then _ else f (40 * c + j)) = _
        rw [if_neg (by omega)]
      rw [e] at h2 ⊢
      exact b5 c j hj h1 h2
  · show _ → _
    rw [hf 1 rfl]; exact b6
