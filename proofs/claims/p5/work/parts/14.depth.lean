/-! ===== how deep an E is while it is worked ===== -/
def lev (b : Nat → Int32) : List Bool → Prop
  | [] => True
  | x :: g => (b (g.length + 1) = 1 ↔ x = true) ∧ lev b g
theorem lev.congr {b b' : Nat → Int32} : ∀ {g : List Bool}, (∀ i, i ≤ g.length → b' i = b i) → lev b g → lev b' g
  | [], _, _ => trivial
  | x :: g, h, hl => by
    refine ⟨?_, lev.congr (fun i hi => h i (by simp only [List.length_cons]; omega)) hl.2⟩
    rw [h (g.length + 1) (by simp)]; exact hl.1
def mG (b : Nat → Int32) (d : Int32) (g : List Bool) : Prop := (0 ≤ d.toInt ∧ zn d = g.length ∧ g.length ≤ 5) ∧ lev b g
theorem mG.nil {b : Nat → Int32} : mG b 0 [] := ⟨⟨by decide, by decide, by decide⟩, trivial⟩
theorem mG.row {b b' : Nat → Int32} {d : Int32} {g : List Bool} (h : mG b d g) (e : b' = b) : mG b' d g := e ▸ h
theorem mG.to {b : Nat → Int32} {d : Int32} {g g' : List Bool} (h : mG b d g) (e : g' = g) : mG b d g' := e ▸ h
theorem zn_s {k : Int32} {a b : Int} (h : zI a b k) (hk : 0 ≤ a ∧ b < 2147483647) : zn (k + 1) = zn k + 1 := by
  obtain ⟨h1, h2⟩ := h
  have e1 : (1 : Int32).toInt = 1 := by decide
  unfold zn
  rw [Jvm.Kit.i32_add (by rw [e1]; omega) (by rw [e1]; omega), e1]; omega
theorem mG.b4 {b : Nat → Int32} {d : Int32} {g : List Bool} (h : mG b d g) (hl : g.length ≤ 4) : zI 0 4 d := by
  obtain ⟨⟨h1, h2, h3⟩, -⟩ := h
  unfold zn at h2; constructor <;> omega
theorem mG.b1 {b : Nat → Int32} {d : Int32} {g : List Bool} (h : mG b d g) (hl : 1 ≤ g.length) : zI 1 5 d := by
  obtain ⟨⟨h1, h2, h3⟩, -⟩ := h
  unfold zn at h2; constructor <;> omega
theorem mG.push {b : Nat → Int32} {d : Int32} {g : List Bool} (h : mG b d g) (hl : g.length ≤ 4) {v : Int32} {x : Bool} (hx : v = 1 ↔ x = true) : mG (upd b (zn (d + 1)) v) (d + 1) (x :: g) := by
  have e := zn_s (h.b4 hl) (by decide)
  obtain ⟨⟨h1, h2, h3⟩, h4⟩ := h
  have e2 : zn (d + 1) = g.length + 1 := by omega
  refine ⟨⟨?_, ?_, ?_⟩, ?_, ?_⟩
  · unfold zn at e2; omega
  · rw [e2]; rfl
  · simp only [List.length_cons]; omega
  · rw [e2, pk_us]; exact hx
  · exact lev.congr (fun i hi => pk_un (by omega)) h4
theorem mG.pop1 {b : Nat → Int32} {d : Int32} {g : List Bool} (h : mG b d g) (hl : 1 ≤ g.length) : mG b (d + (-1)) g.tail := by
  have h5 := h.b1 hl
  obtain ⟨⟨h1, h2, h3⟩, h4⟩ := h
  have e1 : (-1 : Int32).toInt = -1 := by decide
  have e : (d + (-1)).toInt = d.toInt - 1 := by
    obtain ⟨q1, q2⟩ := h5
    rw [Jvm.Kit.i32_add (by rw [e1]; omega) (by rw [e1]; omega), e1]; omega
  cases g with
  | nil => simp at hl
  | cons x g =>
    simp only [List.length_cons] at h2 h3
    unfold zn at h2
    refine ⟨⟨by omega, ?_, ?_⟩, h4.2⟩
    · unfold zn; rw [e]; simp only [List.tail_cons]; omega
    · simp only [List.tail_cons]; omega
theorem xG.back {b : Nat → Int32} {d : Int32} {T : List Bool} (h : ∃ g, mG b d g ∧ g.dropWhile id = T) (h0 : (0 : Int32) < d) (h1 : b (zn d) = 1) : ∃ g, mG b (d + (-1)) g ∧ g.dropWhile id = T := by
  obtain ⟨g, hg, ht⟩ := h
  have hd := Int32.lt_iff_toInt_lt.mp h0
  have e0 : (0 : Int32).toInt = 0 := by decide
  have h2 := hg.1.2.1
  cases g with
  | nil => simp only [List.length_nil] at h2; unfold zn at h2; omega
  | cons x g =>
    refine ⟨g, hg.pop1 (by simp), ?_⟩
    rw [h2] at h1
    have hx : x = true := hg.2.1.mp h1
    rw [← ht, hx]; rfl
theorem xG.exit0 {b : Nat → Int32} {d : Int32} {T : List Bool} (h : ∃ g, mG b d g ∧ g.dropWhile id = T) (h0 : d ≤ (0 : Int32)) : mG b d T := by
  obtain ⟨g, hg, ht⟩ := h
  have hd := Int32.le_iff_toInt_le.mp h0
  have e0 : (0 : Int32).toInt = 0 := by decide
  have h2 := hg.1.2.1
  cases g with
  | nil => rw [← ht]; exact hg
  | cons x g => simp only [List.length_cons] at h2; unfold zn at h2; omega
theorem xG.exit1 {b : Nat → Int32} {d : Int32} {T : List Bool} (h : ∃ g, mG b d g ∧ g.dropWhile id = T) (h1 : ¬ b (zn d) = 1) : mG b d T := by
  obtain ⟨g, hg, ht⟩ := h
  have h2 := hg.1.2.1
  cases g with
  | nil => rw [← ht]; exact hg
  | cons x g =>
    rw [h2] at h1
    have hx : x = false := by
      cases x with
      | false => rfl
      | true => exact absurd (hg.2.1.mpr rfl) h1
    rw [← ht, hx]; rw [hx] at hg; exact hg
def mgt (r : zRr) (k : Nat) : List Bool := mrun (r 12) (zn (r 10 0)) (k - zn (r 10 0))
theorem mgt_0 {r : zRr} {k : Nat} (h : k = zn (r 10 0)) : mgt r k = [] := by
  subst h; unfold mgt; rw [Nat.sub_self]; rfl
theorem mgt_s {r : zRr} {k : Nat} (h : zn (r 10 0) ≤ k) : mgt r (k + 1) = mst (r 12 k) (mgt r k) := by
  unfold mgt
  have e : k + 1 - zn (r 10 0) = (k - zn (r 10 0)) + 1 := by omega
  rw [e]
  show mst (r 12 (zn (r 10 0) + (k - zn (r 10 0)))) _ = _
  rw [show zn (r 10 0) + (k - zn (r 10 0)) = k by omega]
theorem mgt_ok {B : Int} {r : zRr} (h : mJ B r) {k : Nat} (h1 : zn (r 10 0) ≤ k) (h2 : k < zn (r 11 0)) : mok (r 12 k) (mgt r k) := by
  have h3 : mD r := h.2.2.2.1
  have h4 := h3 (k - zn (r 10 0)) (by omega)
  rw [show zn (r 10 0) + (k - zn (r 10 0)) = k by omega] at h4
  exact h4
theorem zn_lt {x y : Int32} (h : x < y) {a b : Int} (hx : zI a b x) (k : 0 ≤ a) : zn x < zn y := by
  have h := Int32.lt_iff_toInt_lt.mp h
  obtain ⟨h1, h2⟩ := hx
  unfold zn; omega
theorem mst_28 {c : Int32} {g : List Bool} (h : c = 28) : mst c g = false :: g := by unfold mst; rw [if_pos h]
theorem mst_30 {c : Int32} {g : List Bool} (h : c = 30) : mst c g = true :: g := by subst h; rfl
theorem mst_k {c : Int32} {g : List Bool} (h : c = 20 ∨ c = 21 ∨ c = 22 ∨ c = 24 ∨ c = 25 ∨ c = 26 ∨ c = 27) : mst c g = g := by
  rcases h with h | h | h | h | h | h | h <;> subst h <;> rfl
theorem mst_29 {c : Int32} {g : List Bool} (h : c = 29) : mst c g = g.tail.dropWhile id := by subst h; rfl
theorem mst_v {c : Int32} {g : List Bool} (h1 : ¬ c = 28) (h2 : ¬ c = 30) (h3 : ¬ c = 20) (h4 : ¬ c = 21) (h5 : ¬ c = 22) (h6 : ¬ c = 24) (h7 : ¬ c = 25) (h8 : ¬ c = 26) (h9 : ¬ c = 27) (h10 : ¬ c = 29) : mst c g = g.dropWhile id := by
  unfold mst
  rw [if_neg h1, if_neg h2, if_neg (by rintro (h | h | h | h | h | h | h) <;> contradiction), if_neg h10]
theorem zs_row {r r1 : zRr} {k0 k : Nat} {g : Nat → Int32} (e : r1 = zset r k0 g) (hk : k ≠ k0) : r1 k = r k := by rw [e, zset_ne hk]
theorem zs_self {r r1 : zRr} {k : Nat} {g : Nat → Int32} (e : r1 = zset r k g) : r1 k = g := by rw [e, zset_eq]
theorem mJ.bto {B B1 : Int} {r : zRr} (h : mJ B r) (e : B1 = B) : mJ B1 r := e ▸ h
theorem i32_s {w : Int32} {a b : Int} (h : zI a b w) (k : b < 2147483647) : (w + 1).toInt = w.toInt + 1 := by
  obtain ⟨h1, h2⟩ := h
  have e1 : (1 : Int32).toInt = 1 := by decide
  have h3 := Int32.le_toInt w
  rw [Jvm.Kit.i32_add (by rw [e1]; omega) (by rw [e1]; omega), e1]
theorem mJ.nx {w : Int32} {r : zRr} {a b : Int} (h : mJ (20 + w.toInt + 1) r) (hw : zI a b w) (k : b < 2147483647) : mJ (20 + (w + 1).toInt) r := h.bto (by rw [i32_s hw k]; omega)
theorem mJ.inc {B : Int} {r : zRr} (h : mJ B r) (hB : B ≤ 40) {i : Int32} (hi : zI 13 18 i) : mJ (B + 1) (zset r 32 (upd (r 32) (zn i) (r 32 (zn i) + 1))) := by
  have e : ∀ c j, c ≠ 32 → mhi (B + 1) c j = mhi B c j := by
    intro c j hc
    unfold mhi
    split <;> first | rfl | exact absurd rfl hc
  have h9 := hi.nn (by decide)
  have hm : ∀ j, mshi B j ≤ mshi (B + 1) j := by
    intro j
    unfold mshi
    repeat' split
    all_goals omega
  have hv : zI 0 (B + 1) (r 32 (zn i) + 1) := by
    have h8 : zI 0 B (r 32 (zn i)) := by
      rcases (show zn i = 13 ∨ zn i = 14 ∨ zn i = 15 ∨ zn i = 16 ∨ zn i = 17 ∨ zn i = 18 by omega) with e | e | e | e | e | e <;> rw [e] <;> exact h.i 32 _
    have e2 := i32_s (h8.w (c := 0) (d := 41) ⟨by decide, h.b.2⟩) (by decide)
    obtain ⟨q1, q2⟩ := h8
    constructor <;> omega
  obtain ⟨b1, b2, b3, b4, b5, b6⟩ := h
  have n : ∀ c, c ≠ 32 → zset r 32 (upd (r 32) (zn i) (r 32 (zn i) + 1)) c = r c := fun c hc => zset_ne hc
  refine ⟨by omega, by omega, ?_, ?_, ?_, ?_⟩
  · intro c j
    by_cases hc : c = 32
    · subst hc
      rw [zset_eq]
      by_cases hj : j = zn i
      · subst hj
        rw [pk_us]
        rcases (show zn i = 13 ∨ zn i = 14 ∨ zn i = 15 ∨ zn i = 16 ∨ zn i = 17 ∨ zn i = 18 by omega) with e | e | e | e | e | e <;> rw [e] at hv ⊢ <;> exact hv
      · rw [pk_un hj]
        exact (b3 32 j).w ⟨Int.le_refl _, hm j⟩
    · rw [n c hc, e c j hc]; exact b3 c j
  · show mDf _ _ _
    rw [n 12 (by decide), n 10 (by decide), n 11 (by decide)]; exact b4
  · intro b j
    rw [n 25 (by decide), n 26 (by decide), n 28 (by decide)]; exact b5 b j
  · show _ → _
    rw [n 1 (by decide)]; exact b6
theorem mL_use {B : Int} {r : zRr} (h : mJ B r) {k : Int32} (hk : zI 0 39 k) (hl : k.toInt < (r 25 0).toInt) (hw : r 26 (zn k) = 0) : zI 0 5 (r 28 (zn k)) := by
  have h5 : mL r := h.2.2.2.2.1
  have h9 := hk.nn (by decide)
  have e : (zn k : Int) = k.toInt := by have := hk.1; unfold zn; omega
  have h6 := h5 0 (zn k) (by omega) (by omega)
  rw [show 40 * 0 + zn k = zn k by omega] at h6
  exact h6 hw
theorem zn_ne {i j : Int32} {a b c d : Int} (hi : zI a b i) (hj : zI c d j) (k : 0 ≤ a ∧ 0 ≤ c ∧ (b < c ∨ d < a)) : zn i ≠ zn j := by
  have h1 := hi.nn k.1
  have h2 := hj.nn k.2.1
  omega
theorem zI.orle {x y : Int32} {a b c d : Int} (hx : zI a b x) (hy : zI c d y) (k : 0 ≤ a ∧ 0 ≤ c) : x.toInt ≤ (x ||| y).toInt := by
  obtain ⟨h1, h2⟩ := hx
  obtain ⟨h3, h4⟩ := hy
  have l : ∀ z : Int32, 0 ≤ z.toInt → z.toInt = (z.toBitVec.toNat : Int) ∧ z.toBitVec.toNat < 2 ^ 31 := by
    intro z hz
    have hb := z.toBitVec.isLt
    have h9 : 0 ≤ z.toBitVec.toInt := by rw [Int32.toInt_toBitVec]; omega
    rw [← Int32.toInt_toBitVec]
    rw [BitVec.toInt_eq_toNat_cond] at h9 ⊢
    split at h9 <;> omega
  obtain ⟨e1, l1⟩ := l x (by omega)
  obtain ⟨e2, l2⟩ := l y (by omega)
  have e3 : (x ||| y).toBitVec.toNat = x.toBitVec.toNat ||| y.toBitVec.toNat := by rw [Int32.toBitVec_or, BitVec.toNat_or]
  have l3 : x.toBitVec.toNat ||| y.toBitVec.toNat < 2 ^ 31 := Nat.or_lt_two_pow l1 l2
  have e4 : (x ||| y).toInt = ((x.toBitVec.toNat ||| y.toBitVec.toNat : Nat) : Int) := by
    rw [← Int32.toInt_toBitVec, BitVec.toInt_eq_toNat_of_lt (by rw [e3]; omega), e3]
  rw [e1, e4]
  exact_mod_cast Nat.left_le_or
theorem ms_z {B : Int} (hB : 20 ≤ B ∧ B ≤ 41) (j : Nat) : zI (mlo 32 j) (mhi B 32 j) 0 := by
  show zI (mslo j) (mshi B j) 0
  have e0 : (0 : Int32).toInt = 0 := by decide
  constructor
  · rw [e0]; unfold mslo; repeat' split
    all_goals decide
  · rw [e0]; unfold mshi; repeat' split
    all_goals omega
