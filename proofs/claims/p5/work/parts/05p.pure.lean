/-! ===== plain facts of rows and numbers ===== -/
def zfl (f : Nat → Int32) (v : Int32) (i : Nat) : Nat → Int32 := fun j => if j < i then v else f j
theorem zfl_0 (f : Nat → Int32) (v : Int32) : zfl f v 0 = f := by funext j; simp [zfl]
theorem zfl_s (f : Nat → Int32) (v : Int32) (i : Nat) : upd (zfl f v i) i v = zfl f v (i + 1) := by
  funext j
  by_cases h : j = i
  · subst h; rw [pk_us]; simp [zfl]
  · rw [pk_un h]; simp only [zfl]
    by_cases h1 : j < i
    · rw [if_pos h1, if_pos (by omega)]
    · rw [if_neg h1, if_neg (by omega)]
def zsf (f : Nat → Int32) (n i : Nat) : Nat → Int32 := fun j => if j < i then f (n + j) else f j
theorem zsf_0 (f : Nat → Int32) (n : Nat) : zsf f n 0 = f := by funext j; simp [zsf]
theorem zsf_s (f : Nat → Int32) {n i : Nat} (hi : i < n) : upd (zsf f n i) i (zsf f n i (n + i)) = zsf f n (i + 1) := by
  funext j
  have e1 : zsf f n i (n + i) = f (n + i) := by simp only [zsf]; rw [if_neg (by omega)]
  by_cases h : j = i
  · subst h; rw [pk_us, e1]; simp [zsf]
  · rw [pk_un h]; simp only [zsf]
    by_cases h1 : j < i
    · rw [if_pos h1, if_pos (by omega)]
    · rw [if_neg h1, if_neg (by omega)]
def zsL (f : Nat → Int64) (n i : Nat) : Nat → Int64 := fun j => if j < i then f (n + j) else f j
theorem zsL_0 (f : Nat → Int64) (n : Nat) : zsL f n 0 = f := by funext j; simp [zsL]
theorem zsL_s (f : Nat → Int64) {n i : Nat} (hi : i < n) : vp_updL (zsL f n i) i (zsL f n i (n + i)) = zsL f n (i + 1) := by
  funext j
  have e1 : zsL f n i (n + i) = f (n + i) := by simp only [zsL]; rw [if_neg (by omega)]
  by_cases h : j = i
  · subst h; rw [pk_uLs, e1]; simp [zsL]
  · rw [pk_uLn h]; simp only [zsL]
    by_cases h1 : j < i
    · rw [if_pos h1, if_pos (by omega)]
    · rw [if_neg h1, if_neg (by omega)]
def zcp (f g : Nat → Int32) (a b i : Nat) : Nat → Int32 := fun j => if b ≤ j ∧ j < b + i then f (a + (j - b)) else g j
theorem zcp_0 (f g : Nat → Int32) (a b : Nat) : zcp f g a b 0 = g := by
  funext j; simp only [zcp]; rw [if_neg (by omega)]
theorem zcp_s (f g : Nat → Int32) (a b i : Nat) : upd (zcp f g a b i) (b + i) (f (a + i)) = zcp f g a b (i + 1) := by
  funext j
  by_cases h : j = b + i
  · subst h; rw [pk_us]; simp only [zcp]; rw [if_pos (by omega), Nat.add_sub_cancel_left]
  · rw [pk_un h]; simp only [zcp]
    by_cases h1 : b ≤ j ∧ j < b + i
    · rw [if_pos h1, if_pos (by omega)]
    · rw [if_neg h1, if_neg (by omega)]
/-- within(v, a, b), as a number -/
def zwi (v a b : Int32) : Int32 := if v < a then 0 else if b < v then 0 else 1
/-! the signs of a word -/
def zsh (j : Nat) : Int32 := 56 - 8 * nI j
theorem zsh_in : ∀ j, j < 8 → ¬ zsh j < 0 := by decide
theorem zsh_8 : zsh 8 < 0 := by decide
theorem zsh_s : ∀ j, j < 8 → zsh j + (-8) = zsh (j + 1) := by decide
theorem zsh_r : ∀ k, k < 24 → (56 : Int32) - 8 * (nI k &&& 7) = zsh (k % 8) := by decide
def zsg (w : Int64) (j : Nat) : Int32 := ((w.toUInt64 >>> ((zsh j).toInt64.toUInt64 &&& Int64.toUInt64 63)).toInt64 &&& 255).toInt32
def zstep (x : Int32) (t : Nat × (Nat → Int32)) : Nat × (Nat → Int32) := if x = 10 ∨ (32 ≤ x ∧ x ≤ 126) then (if t.1 < 1000 then (t.1 + 1, upd t.2 t.1 x) else t) else t
def ztp (w : Int64) : Nat → Nat × (Nat → Int32) → Nat × (Nat → Int32)
  | 0, t => t
  | j + 1, t => zstep (zsg w j) (ztp w j t)
def zwd (a b c : Int64) (k : Nat) : Int64 := if k < 8 then a else if k < 16 then b else c
def ztp3 (a b c : Int64) : Nat → Nat × (Nat → Int32) → Nat × (Nat → Int32)
  | 0, t => t
  | k + 1, t => zstep (zsg (zwd a b c k) (k % 8)) (ztp3 a b c k t)
theorem ztp3_24 (a b c : Int64) (t : Nat × (Nat → Int32)) : ztp3 a b c 24 t = ztp c 8 (ztp b 8 (ztp a 8 t)) := rfl
theorem zstep_le {x : Int32} {t : Nat × (Nat → Int32)} (h : t.1 ≤ 1000) : (zstep x t).1 ≤ 1000 := by
  unfold zstep
  by_cases h1 : x = 10 ∨ (32 ≤ x ∧ x ≤ 126)
  · rw [if_pos h1]
    by_cases h2 : t.1 < 1000
    · rw [if_pos h2]; show t.1 + 1 ≤ 1000; omega
    · rw [if_neg h2]; exact h
  · rw [if_neg h1]; exact h
theorem ztp_le {w : Int64} {j : Nat} {t : Nat × (Nat → Int32)} (h : t.1 ≤ 1000) : (ztp w j t).1 ≤ 1000 := by
  induction j with
  | zero => exact h
  | succ j ih => exact zstep_le ih
theorem ztp3_le {a b c : Int64} {j : Nat} {t : Nat × (Nat → Int32)} (h : t.1 ≤ 1000) : (ztp3 a b c j t).1 ≤ 1000 := by
  induction j with
  | zero => exact h
  | succ j ih => exact zstep_le ih
theorem zstep_in {x : Int32} {t : Nat × (Nat → Int32)} (h1 : x = 10 ∨ (32 ≤ x ∧ x ≤ 126)) (h2 : t.1 < 1000) : zstep x t = (t.1 + 1, upd t.2 t.1 x) := by
  unfold zstep; rw [if_pos h1, if_pos h2]
theorem zstep_full {x : Int32} {t : Nat × (Nat → Int32)} (h2 : ¬ t.1 < 1000) : zstep x t = t := by
  unfold zstep
  by_cases h1 : x = 10 ∨ (32 ≤ x ∧ x ≤ 126)
  · rw [if_pos h1, if_neg h2]
  · rw [if_neg h1]
theorem zstep_no {x : Int32} {t : Nat × (Nat → Int32)} (h1 : ¬ (x = 10 ∨ (32 ≤ x ∧ x ≤ 126))) : zstep x t = t := by
  unfold zstep; rw [if_neg h1]
theorem zchar {x : Int32} (h : x = 10 ∨ (32 ≤ x ∧ x ≤ 126)) : vp_nar .char (x.toUInt32 % 65536).toInt32 = x := by
  have h0 : 0 ≤ x.toInt ∧ x.toInt < 128 := by
    rcases h with h | ⟨h, h'⟩
    · subst h; decide
    · have a1 := Int32.le_iff_toInt_le.mp h
      have a2 := Int32.le_iff_toInt_le.mp h'
      have b1 : (32 : Int32).toInt = 32 := by decide
      have b2 : (126 : Int32).toInt = 126 := by decide
      omega
  obtain ⟨j, hj, rfl⟩ : ∃ j : Nat, j < 128 ∧ x = nI j := by
    refine ⟨x.toInt.toNat, by omega, ?_⟩
    apply Int32.toInt_inj.mp
    rw [nI_toInt (by omega)]
    omega
  exact (show ∀ j : Nat, j < 128 → vp_nar .char ((nI j).toUInt32 % 65536).toInt32 = nI j by decide) j hj
theorem zwi_out {v a b : Int32} {lo hi : Int} (h : v.toInt < lo ∨ hi < v.toInt) (ha : a.toInt = lo) (hb : b.toInt = hi) : zwi v a b = 0 := by
  unfold zwi
  rcases h with h | h
  · rw [if_pos (Int32.lt_iff_toInt_lt.mpr (by omega))]
  · by_cases h1 : v < a
    · rw [if_pos h1]
    · rw [if_neg h1, if_pos (Int32.lt_iff_toInt_lt.mpr (by omega))]
/-- what a question with a number answers on a new object -/
def zjd (q : Int32) : Int32 := if q.toInt < 0 ∨ 2 < q.toInt then -2 else if q = 2 then 0 else -1
def zln (q : Int32) : Int32 := if q.toInt < 0 ∨ 2 < q.toInt then -1 else if q = 0 then 31 else if q = 1 then 0 else 30
def zct (q : Int32) : Int32 := if q.toInt < 0 ∨ 11 < q.toInt then -1 else if q = 2 then 1 else if q = 3 then 2 else 0
def zyr (sd wk q : Int32) : Int32 := if zwi sd 0 9999 = 0 then -1 else if zwi wk 1 99 = 0 then -1 else if zwi q 0 2 = 0 then -1 else 0
theorem znat {x M : Int32} {n : Nat} (hM : M.toInt = n) (h : ¬ x < 1) (h5 : ¬ M < x) : ∃ j : Nat, (1 ≤ j ∧ j ≤ n) ∧ x = nI j := by
  have h1 : (1 : Int32).toInt = 1 := by decide
  have a1 : 1 ≤ x.toInt := by
    rcases Int.lt_or_le x.toInt 1 with q | q
    · exact absurd (Int32.lt_iff_toInt_lt.mpr (by omega)) h
    · exact q
  have a2 : x.toInt ≤ n := by
    rcases Int.lt_or_le (n : Int) x.toInt with q | q
    · exact absurd (Int32.lt_iff_toInt_lt.mpr (by omega)) h5
    · exact q
  have a3 : x.toInt < 2 ^ 31 := by have := x.toInt_lt; omega
  refine ⟨x.toInt.toNat, by omega, ?_⟩
  apply Int32.toInt_inj.mp
  rw [nI_toInt (by omega)]
  omega
theorem zm_out {x : Int32} (hm : x.toInt < 0 ∨ 3 < x.toInt) (h : ¬ x < 0) : ¬ x < 4 := by
  intro h2
  have h0 : (0 : Int32).toInt = 0 := by decide
  have h4 : (4 : Int32).toInt = 4 := by decide
  have b := Int32.lt_iff_toInt_lt.mp h2
  rcases hm with q | q
  · exact h (Int32.lt_iff_toInt_lt.mpr (by omega))
  · omega
