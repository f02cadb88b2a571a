/-! ===== what land answers; the tapes alike ===== -/
theorem xl79 : ∀ (n i : Nat) (r : zRr) (q : zRq), i ≤ 4 → 4 < n + i → (Gk_land_79 n (nI i) r q).1 = 0 := by
  intro n
  induction n with
  | zero => intro i r q h1 h2; omega
  | succ n ih =>
    intro i r q h1 h2
    have e0 : Gk_land_79 (n + 1) (nI i) r q = Bk_land_79 (Gk_land_79 n) (nI i) r q := rfl
    rw [e0]
    unfold Bk_land_79
    simp only [zifQ, zletQ, xzn (show i < 2 ^ 31 by omega), nI_1]
    by_cases h4 : 4 ≤ i
    · have c4 : (4 : Int32) ≤ nI i := (nI_leI (a := 4) (by omega) (by omega)).mpr h4
      rw [if_pos c4]
    · have c4 : ¬ (4 : Int32) ≤ nI i := fun h => h4 ((nI_leI (a := 4) (by omega) (by omega)).mp h)
      rw [if_neg c4]
      rcases (show i = 0 ∨ i = 1 ∨ i = 2 ∨ i = 3 by omega) with rfl | rfl | rfl | rfl
      · rw [if_pos rfl]; exact ih 1 _ _ (by omega) (by omega)
      · rw [if_neg (by decide), if_pos rfl]; exact ih 2 _ _ (by omega) (by omega)
      · rw [if_neg (by decide), if_neg (by decide), if_pos rfl]; exact ih 3 _ _ (by omega) (by omega)
      · rw [if_neg (by decide), if_neg (by decide), if_neg (by decide), if_pos rfl]; exact ih 4 _ _ (by omega) (by omega)
theorem xm46 : ∀ (n i : Nat) (r : zRr) (q : zRq), i ≤ 4 → 4 < n + i → (Gm_land_46 n (nI i) r q).1 = 0 := by
  intro n
  induction n with
  | zero => intro i r q h1 h2; omega
  | succ n ih =>
    intro i r q h1 h2
    have e0 : Gm_land_46 (n + 1) (nI i) r q = Bm_land_46 (Gm_land_46 n) (nI i) r q := rfl
    rw [e0]
    unfold Bm_land_46
    simp only [zifQ, zletQ, nI_1]
    by_cases h4 : 4 ≤ i
    · have c4 : (4 : Int32) ≤ nI i := (nI_leI (a := 4) (by omega) (by omega)).mpr h4
      rw [if_pos c4]
    · have c4 : ¬ (4 : Int32) ≤ nI i := fun h => h4 ((nI_leI (a := 4) (by omega) (by omega)).mp h)
      rw [if_neg c4]
      exact ih (i + 1) _ _ (by omega) (by omega)
theorem xlA {r : zRr} {q : zRq} : (Gk_land r q).1 = if (Gk_readL r q).1 = 0 then (Gk_readL r q).2.1 196 7 else 0 := by
  unfold Gk_land
  generalize Gk_readL r q = o
  obtain ⟨v, r15, q16⟩ := o
  rw [xcvrq (r := r15)]
  simp only [zletQ, zifnQ]
  by_cases hv : v = 0
  · rw [if_pos hv, if_pos hv]
    show (zset r15 196 (upd (r15 196) 1 0)) 196 7 = r15 196 7
    rw [zset_eq, pk_un (by decide)]
  · rw [if_neg hv, if_neg hv]
    exact xl79 5 0 _ _ (by omega) (by omega)
theorem xmA {r : zRr} {q : zRq} : (Gm_land r q).1 = if (Gm_readsAll (zset r 100 (fun _ => 0)) q).1 = 0 then (Gm_readsAll (zset r 100 (fun _ => 0)) q).2.1 109 0 else 0 := by
  unfold Gm_land
  simp only [zletQ]
  generalize Gm_readsAll (zset r 100 (fun _ => 0)) q = o
  obtain ⟨v, r9, q10⟩ := o
  rw [xcvrq (r := r9)]
  simp only [zletQ, zifnQ]
  by_cases hv : v = 0
  · rw [if_pos hv, if_pos hv]
  · rw [if_neg hv, if_neg hv, zc_rqQ]
    exact xm46 5 0 _ _ (by omega) (by omega)
theorem xLandA {L : Nat} {r : zRr} {q : zRq} {rm : zRr} {qm : zRq} (h : xTp L r rm) : (Gk_land r q).1 = (Gm_land rm qm).1 := by
  obtain ⟨_, _, k⟩ := xland (q := q) (qm := qm) (show xTp L r (zset rm 100 (fun _ => 0)) from h)
  rw [xlA, xmA]
  rcases k with ⟨a1, a2, a3⟩ | ⟨a1, a2, _⟩
  · rw [if_pos a1, if_pos a2]; exact a3
  · rw [if_neg (by rw [a1]; decide), if_neg (by rw [a2]; decide)]
/-- the two tapes hold the same -/
def lT (r rm : zRr) : Prop := r 196 1 = rm 101 0 ∧ ∀ i, i < zn (rm 101 0) → r 197 i = rm 0 i
theorem lT.p {r rm : zRr} {B : Int} (h : lT r rm) (hM : mJ B rm) : xTp (zn (rm 101 0)) r rm := by
  obtain ⟨e1, e2⟩ := (show zI 0 1000 (rm 101 0) from hM.i 101 0).ix (n := 1001) (by decide)
  exact ⟨h.1.trans e1, e1, by omega, h.2⟩
theorem lT.k {r r1 rm : zRr} (h : lT r rm) (f : r1 196 = r 196 ∧ r1 197 = r 197) : lT r1 rm := by
  unfold lT at h ⊢
  rw [f.1, f.2]; exact h
theorem lT.m {r rm rm1 : zRr} (h : lT r rm) (f0 : rm1 0 = rm 0) (f1 : rm1 101 = rm 101) : lT r rm1 := by
  unfold lT at h ⊢
  rw [f0, f1]; exact h
theorem lT.z {r rm : zRr} (h : r 196 1 = 0) (hm : rm 101 0 = 0) : lT r rm := ⟨h.trans hm.symm, fun i hi => by rw [hm] at hi; exact absurd hi (Nat.not_lt_zero _)⟩
theorem zstep_ag {x : Int32} {t t' : Nat × (Nat → Int32)} (h : t.1 = t'.1 ∧ ∀ i, i < t.1 → t.2 i = t'.2 i) : (zstep x t).1 = (zstep x t').1 ∧ ∀ i, i < (zstep x t).1 → (zstep x t).2 i = (zstep x t').2 i := by
  obtain ⟨h, k⟩ := h
  unfold zstep
  by_cases h1 : x = 10 ∨ (32 ≤ x ∧ x ≤ 126)
  · by_cases h2 : t.1 < 1000
    · rw [if_pos h1, if_pos h2, if_pos h1, if_pos (h ▸ h2)]
      refine ⟨congrArg (· + 1) h, fun i hi => ?_⟩
      show upd t.2 t.1 x i = upd t'.2 t'.1 x i
      rw [← h]
      by_cases e : i = t.1
      · subst e; rw [pk_us, pk_us]
      · rw [pk_un e, pk_un e]; exact k i (by have hi : i < t.1 + 1 := hi; omega)
    · rw [if_pos h1, if_neg h2, if_pos h1, if_neg (h ▸ h2)]; exact ⟨h, k⟩
  · rw [if_neg h1, if_neg h1]; exact ⟨h, k⟩
theorem ztp3_ag {a b c : Int64} {j : Nat} {t t' : Nat × (Nat → Int32)} (h : t.1 = t'.1 ∧ ∀ i, i < t.1 → t.2 i = t'.2 i) : (ztp3 a b c j t).1 = (ztp3 a b c j t').1 ∧ ∀ i, i < (ztp3 a b c j t).1 → (ztp3 a b c j t).2 i = (ztp3 a b c j t').2 i := by
  induction j with
  | zero => exact h
  | succ j ih => exact zstep_ag ih
