/-! ===== intervals of ints ===== -/
def zI (lo hi : Int) (v : Int32) : Prop := lo ≤ v.toInt ∧ v.toInt ≤ hi
def zn (v : Int32) : Nat := v.toInt.toNat
theorem zI.w {a b c d : Int} {v : Int32} (h : zI a b v) (k : c ≤ a ∧ b ≤ d) : zI c d v := ⟨Int.le_trans k.1 h.1, Int.le_trans h.2 k.2⟩
theorem zI.top (v : Int32) : zI (-2147483648) 2147483647 v := by
  have h1 := Int32.le_toInt v
  have h2 := Int32.toInt_lt v
  constructor <;> omega
theorem zI.abs {a b : Int} {v : Int32} {P : Prop} (h : zI a b v) (k : b < a) : P := absurd (Int.le_trans h.1 h.2) (by omega)
theorem zI.ix {a b : Int} {v : Int32} {n : Nat} (h : zI a b v) (k : 0 ≤ a ∧ b < (n : Int) ∧ n < 2147483648) : v = nI (zn v) ∧ zn v < n := by
  obtain ⟨h1, h2⟩ := h
  have e : zn v < n := by unfold zn; omega
  refine ⟨Int32.toInt_inj.mp ?_, e⟩
  rw [nI_toInt (by omega)]
  unfold zn; omega
theorem zI.nn {a b : Int} {v : Int32} (h : zI a b v) (k : 0 ≤ a) : a ≤ (zn v : Int) ∧ (zn v : Int) ≤ b := by
  obtain ⟨h1, h2⟩ := h
  unfold zn; omega
theorem zI.add {a b c d lo hi : Int} {x y : Int32} (hx : zI a b x) (hy : zI c d y) (k : lo ≤ a + c ∧ b + d ≤ hi ∧ -2147483648 ≤ a + c ∧ b + d ≤ 2147483647) : zI lo hi (x + y) := by
  obtain ⟨h1, h2⟩ := hx
  obtain ⟨h3, h4⟩ := hy
  obtain ⟨k1, k2, k3, k4⟩ := k
  constructor <;> rw [Jvm.Kit.i32_add (by omega) (by omega)] <;> omega
theorem zI.sub {a b c d lo hi : Int} {x y : Int32} (hx : zI a b x) (hy : zI c d y) (k : lo ≤ a - d ∧ b - c ≤ hi ∧ -2147483648 ≤ a - d ∧ b - c ≤ 2147483647) : zI lo hi (x - y) := by
  obtain ⟨h1, h2⟩ := hx
  obtain ⟨h3, h4⟩ := hy
  obtain ⟨k1, k2, k3, k4⟩ := k
  constructor <;> rw [Jvm.Kit.i32_sub (by omega) (by omega)] <;> omega
theorem zI.mul {a b c d lo hi : Int} {x y : Int32} (hx : zI a b x) (hy : zI c d y) (k : 0 ≤ a ∧ 0 ≤ c ∧ lo ≤ a * c ∧ b * d ≤ hi ∧ b * d ≤ 2147483647) : zI lo hi (x * y) := by
  obtain ⟨h1, h2⟩ := hx
  obtain ⟨h3, h4⟩ := hy
  obtain ⟨k0, k1, k2, k3, k4⟩ := k
  have e1 : x.toInt * y.toInt ≤ b * d := Int.mul_le_mul h2 h4 (Int.le_trans k1 h3) (Int.le_trans (Int.le_trans k0 h1) h2)
  have e2 : a * c ≤ x.toInt * y.toInt := Int.mul_le_mul h1 h3 k1 (Int.le_trans k0 h1)
  have e0 : 0 ≤ a * c := Int.mul_nonneg k0 k1
  constructor <;> rw [Jvm.Kit.i32_mul (by omega) (by omega)] <;> omega
theorem zI.neg {a b lo hi : Int} {x : Int32} (hx : zI a b x) (k : -2147483647 ≤ a ∧ lo ≤ -b ∧ -a ≤ hi) : zI lo hi (-x) := by
  obtain ⟨h1, h2⟩ := hx
  constructor <;> rw [Jvm.Kit.i32_neg (by omega)] <;> omega
theorem zI.ltU {a b c d lo hi : Int} {x y : Int32} (h : x < y) (hx : zI a b x) (hy : zI c d y) (k : lo ≤ a ∧ d - 1 ≤ hi) : zI lo hi x := by
  have h := Int32.lt_iff_toInt_lt.mp h
  obtain ⟨h1, h2⟩ := hx
  obtain ⟨h3, h4⟩ := hy
  constructor <;> omega
theorem zI.ltD {a b c d lo hi : Int} {x y : Int32} (h : x < y) (hx : zI a b x) (hy : zI c d y) (k : lo ≤ a + 1 ∧ d ≤ hi) : zI lo hi y := by
  have h := Int32.lt_iff_toInt_lt.mp h
  obtain ⟨h1, h2⟩ := hx
  obtain ⟨h3, h4⟩ := hy
  constructor <;> omega
theorem zI.leU {a b c d lo hi : Int} {x y : Int32} (h : x ≤ y) (hx : zI a b x) (hy : zI c d y) (k : lo ≤ a ∧ d ≤ hi) : zI lo hi x := by
  have h := Int32.le_iff_toInt_le.mp h
  obtain ⟨h1, h2⟩ := hx
  obtain ⟨h3, h4⟩ := hy
  constructor <;> omega
theorem zI.leD {a b c d lo hi : Int} {x y : Int32} (h : x ≤ y) (hx : zI a b x) (hy : zI c d y) (k : lo ≤ a ∧ d ≤ hi) : zI lo hi y := by
  have h := Int32.le_iff_toInt_le.mp h
  obtain ⟨h1, h2⟩ := hx
  obtain ⟨h3, h4⟩ := hy
  constructor <;> omega
theorem zI.eqq {c d : Int} {x y : Int32} (h : x = y) (hy : zI c d y) : zI c d x := h ▸ hy
theorem zI.neD {a b c lo hi : Int} {x y : Int32} (h : ¬ x = y) (hx : zI a b x) (hy : zI c c y) (k : c = a ∧ lo ≤ a + 1 ∧ b ≤ hi) : zI lo hi x := by
  obtain ⟨h1, h2⟩ := hx
  obtain ⟨h3, h4⟩ := hy
  have h5 : x.toInt ≠ y.toInt := fun e => h (Int32.toInt_inj.mp e)
  constructor <;> omega
theorem zI.neU {a b c lo hi : Int} {x y : Int32} (h : ¬ x = y) (hx : zI a b x) (hy : zI c c y) (k : c = b ∧ lo ≤ a ∧ b - 1 ≤ hi) : zI lo hi x := by
  obtain ⟨h1, h2⟩ := hx
  obtain ⟨h3, h4⟩ := hy
  have h5 : x.toInt ≠ y.toInt := fun e => h (Int32.toInt_inj.mp e)
  constructor <;> omega
theorem zI.or {a b c d lo hi : Int} {x y : Int32} (n : Nat) (hx : zI a b x) (hy : zI c d y) (k : 0 ≤ a ∧ 0 ≤ c ∧ b < 2 ^ n ∧ d < 2 ^ n ∧ n ≤ 31 ∧ lo ≤ 0 ∧ (2 : Int) ^ n - 1 ≤ hi) : zI lo hi (x ||| y) := by
  obtain ⟨k0, k1, k2, k3, k4, k5, k6⟩ := k
  have ex := zI.top x
  obtain ⟨h1, h2⟩ := hx
  obtain ⟨h3, h4⟩ := hy
  have e1 : x.toInt = (x.toBitVec.toNat : Int) := by
    rw [← Int32.toInt_toBitVec, BitVec.toInt_eq_toNat_of_lt]
    have := x.toBitVec.isLt
    have h9 : 0 ≤ x.toBitVec.toInt := by rw [Int32.toInt_toBitVec]; omega
    rw [BitVec.toInt_eq_toNat_cond] at h9
    split at h9 <;> omega
  have e2 : y.toInt = (y.toBitVec.toNat : Int) := by
    rw [← Int32.toInt_toBitVec, BitVec.toInt_eq_toNat_of_lt]
    have := y.toBitVec.isLt
    have h9 : 0 ≤ y.toBitVec.toInt := by rw [Int32.toInt_toBitVec]; omega
    rw [BitVec.toInt_eq_toNat_cond] at h9
    split at h9 <;> omega
  have l1 : x.toBitVec.toNat < 2 ^ n := by exact_mod_cast (show (x.toBitVec.toNat : Int) < (2 : Int) ^ n by omega)
  have l2 : y.toBitVec.toNat < 2 ^ n := by exact_mod_cast (show (y.toBitVec.toNat : Int) < (2 : Int) ^ n by omega)
  have l3 : x.toBitVec.toNat ||| y.toBitVec.toNat < 2 ^ n := Nat.or_lt_two_pow l1 l2
  have e3 : (x ||| y).toBitVec.toNat = x.toBitVec.toNat ||| y.toBitVec.toNat := by rw [Int32.toBitVec_or, BitVec.toNat_or]
  have l4 : (2 : Nat) ^ n ≤ 2 ^ 31 := Nat.pow_le_pow_right (by decide) k4
  have e4 : (x ||| y).toInt = ((x.toBitVec.toNat ||| y.toBitVec.toNat : Nat) : Int) := by
    rw [← Int32.toInt_toBitVec, BitVec.toInt_eq_toNat_of_lt (by rw [e3]; omega), e3]
  have l5 : ((x.toBitVec.toNat ||| y.toBitVec.toNat : Nat) : Int) < (2 : Int) ^ n := by exact_mod_cast l3
  constructor <;> rw [e4] <;> omega
theorem zI.and {c d lo hi : Int} {x y : Int32} (hy : zI c d y) (k : 0 ≤ c ∧ lo ≤ 0 ∧ d ≤ hi) : zI lo hi (x &&& y) := by
  obtain ⟨k0, k1, k2⟩ := k
  obtain ⟨h3, h4⟩ := hy
  have hb := y.toBitVec.isLt
  have e2 : y.toInt = (y.toBitVec.toNat : Int) ∧ y.toBitVec.toNat < 2 ^ 31 := by
    have h9 : 0 ≤ y.toBitVec.toInt := by rw [Int32.toInt_toBitVec]; omega
    rw [← Int32.toInt_toBitVec]
    rw [BitVec.toInt_eq_toNat_cond] at h9 ⊢
    split at h9 <;> omega
  have e3 : (x &&& y).toBitVec.toNat = x.toBitVec.toNat &&& y.toBitVec.toNat := by rw [Int32.toBitVec_and, BitVec.toNat_and]
  have l3 : x.toBitVec.toNat &&& y.toBitVec.toNat ≤ y.toBitVec.toNat := Nat.and_le_right
  have e4 : (x &&& y).toInt = ((x.toBitVec.toNat &&& y.toBitVec.toNat : Nat) : Int) := by
    rw [← Int32.toInt_toBitVec, BitVec.toInt_eq_toNat_of_lt (by rw [e3]; omega), e3]
  constructor <;> rw [e4] <;> omega
theorem zI.andL {c d lo hi : Int} {x y : Int32} (hx : zI c d x) (k : 0 ≤ c ∧ lo ≤ 0 ∧ d ≤ hi) : zI lo hi (x &&& y) := by
  rw [Int32.and_comm]
  exact zI.and hx k
theorem zI.shl {a b lo hi : Int} {t : Int32} (ht : zI a b t) (n : Nat) (k : 0 ≤ a ∧ b ≤ (n : Int) ∧ n ≤ 30 ∧ lo ≤ 1 ∧ (2 : Int) ^ n ≤ hi) : zI lo hi ((1 : Int32) <<< (t &&& 31)) := by
  obtain ⟨k0, k1, k2, k3, k4⟩ := k
  have hi' := zI.ix (n := n + 1) ht ⟨k0, by omega, by omega⟩
  obtain ⟨e, hk⟩ := hi'
  have key : ∀ j : Fin 31, ((1 : Int32) <<< (nI j.val &&& 31)).toInt = (2 : Int) ^ j.val := by decide +kernel
  have h5 : ((1 : Int32) <<< (nI (zn t) &&& 31)).toInt = (2 : Int) ^ (zn t) := key ⟨zn t, by omega⟩
  rw [e]
  have hp : (2 : Int) ^ (zn t) ≤ (2 : Int) ^ n := by
    have : (2 : Nat) ^ (zn t) ≤ 2 ^ n := Nat.pow_le_pow_right (by decide) (by omega)
    exact_mod_cast this
  have hq : (1 : Int) ≤ (2 : Int) ^ (zn t) := by
    have : (1 : Nat) ≤ 2 ^ (zn t) := Nat.one_le_two_pow
    exact_mod_cast this
  constructor <;> rw [h5] <;> omega
theorem zI.shr {a b lo hi : Int} {x t : Int32} (hx : zI a b x) (k : 0 ≤ a ∧ lo ≤ 0 ∧ b ≤ hi) : zI lo hi (x >>> (t &&& 31)) := by
  obtain ⟨k0, k1, k2⟩ := k
  obtain ⟨h1, h2⟩ := hx
  obtain ⟨j, hj⟩ : ∃ j : Nat, ((t &&& 31).toBitVec.smod 32).toNat = j := ⟨_, rfl⟩
  have e := Jvm.Kit.i32_shr x (t &&& 31) hj
  have hp : (0 : Int) < 2 ^ j := by
    have : (0 : Nat) < 2 ^ j := Nat.two_pow_pos j
    exact_mod_cast this
  have q1 : 0 ≤ x.toInt / 2 ^ j := Int.ediv_nonneg (by omega) (by omega)
  have q2 : x.toInt / 2 ^ j ≤ x.toInt := Int.ediv_le_self _ (by omega)
  constructor <;> rw [e] <;> omega
theorem zI.div {a b c lo hi : Int} {x y : Int32} (hx : zI a b x) (hy : zI c c y) (k : 0 ≤ a ∧ 0 < c ∧ lo ≤ a / c ∧ b / c ≤ hi) : zI lo hi (x / y) := by
  obtain ⟨k0, k1, k2, k3⟩ := k
  obtain ⟨h1, h2⟩ := hx
  have hc : y.toInt = c := by obtain ⟨h3, h4⟩ := hy; omega
  have e : (x / y).toInt = x.toInt / c := by
    rw [Jvm.Kit.i32_div (by omega), hc, Int.tdiv_eq_ediv_of_nonneg (by omega)]
  have q1 : a / c ≤ x.toInt / c := Int.ediv_le_ediv k1 h1
  have q2 : x.toInt / c ≤ b / c := Int.ediv_le_ediv k1 h2
  constructor <;> rw [e] <;> omega
theorem zI.rem {a b c d lo hi : Int} {x y : Int32} (hx : zI a b x) (hy : zI c d y) (k : 0 ≤ a ∧ 0 < c ∧ lo ≤ 0 ∧ d - 1 ≤ hi) : zI lo hi (x - x / y * y) := by
  obtain ⟨k0, k1, k2, k3⟩ := k
  obtain ⟨h1, h2⟩ := hx
  obtain ⟨h3, h4⟩ := hy
  have e : (x - x / y * y).toInt = x.toInt % y.toInt := by
    rw [rem_toInt, Int.tmod_eq_emod_of_nonneg (by omega)]
  have q1 := Int.emod_nonneg x.toInt (show y.toInt ≠ 0 by omega)
  have q2 := Int.emod_lt_of_pos x.toInt (show 0 < y.toInt by omega)
  constructor <;> rw [e] <;> omega
theorem zI.ite {a b : Int} {x y : Int32} {P : Prop} [Decidable P] (hx : zI a b x) (hy : zI a b y) : zI a b (if P then x else y) := by
  split
  · exact hx
  · exact hy
/-- a counter goes up by one: what is left gets less -/
theorem zI.up {a b hi : Int} {v : Int32} {n : Nat} (h : zI a b v) (k : b < 2147483647 ∧ -2147483648 ≤ a) (hm : hi - v.toInt < ((n + 1 : Nat) : Int)) : hi - (v + 1).toInt < (n : Int) := by
  obtain ⟨h1, h2⟩ := h
  have e1 : (1 : Int32).toInt = 1 := by decide
  rw [Jvm.Kit.i32_add (by rw [e1]; omega) (by rw [e1]; omega), e1]
  omega
theorem zI.down {a b lo : Int} {v : Int32} {n : Nat} (h : zI a b v) (k : -2147483648 < a) (hm : v.toInt - lo < ((n + 1 : Nat) : Int)) : (v + (-1)).toInt - lo < (n : Int) := by
  obtain ⟨h1, h2⟩ := h
  have e1 : (-1 : Int32).toInt = -1 := by decide
  have h3 := Int32.toInt_lt v
  rw [Jvm.Kit.i32_add (by rw [e1]; omega) (by rw [e1]; omega), e1]
  omega
/-! ===== a state as rows of ints ===== -/
abbrev zRr : Type := Nat → Nat → Int32
abbrev zRq : Type := Nat → Nat → Int64
def zset {α : Type} (r : Nat → α) (k : Nat) (g : α) : Nat → α := fun a => if a = k then g else r a
def zov {α : Type} (r : Nat → α) (M : List Nat) (u : Nat → α) : Nat → α := fun a => if M.contains a then u a else r a
