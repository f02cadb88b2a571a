theorem zn_lt {k : Nat} (hk : k ≤ 1000) (h : ¬ (1000 : Int32) ≤ nI k) : k < 1000 := by
  rcases Nat.lt_or_ge k 1000 with q | q
  · exact q
  · exact absurd (nI_le (a := 1000) q (by omega)) h
theorem zn_ge {k : Nat} (hk : k ≤ 1000) (h : (1000 : Int32) ≤ nI k) : ¬ k < 1000 := fun q => nI_ge (b := 1000) q (by decide) h
theorem zfit_in {x : Int32} (h1 : ¬ x < 32) (h2 : ¬ 126 < x) : x = 10 ∨ (32 ≤ x ∧ x ≤ 126) := Or.inr ⟨Int32.not_lt.mp h1, Int32.not_lt.mp h2⟩
theorem zno1 {x : Int32} (h : ¬ x = 10) (h1 : x < 32) : ¬ (x = 10 ∨ (32 ≤ x ∧ x ≤ 126)) := by
  rintro (q | ⟨q, -⟩)
  · exact h q
  · exact Int32.not_lt.mpr q h1
theorem zno2 {x : Int32} (h : ¬ x = 10) (h1 : 126 < x) : ¬ (x = 10 ∨ (32 ≤ x ∧ x ≤ 126)) := by
  rintro (q | ⟨-, q⟩)
  · exact h q
  · exact Int32.not_lt.mpr q h1
theorem zf1 {a b c : Int64} {i : Nat} (hi : i < 24) (c1 : ¬ (8 : Int32) ≤ nI i) : (((a.toUInt64 >>> (((56 : Int32) - 8 * (nI i &&& 7)).toInt64.toUInt64 &&& Int64.toUInt64 63)).toInt64) &&& 255).toInt32 = zsg (zwd a b c i) (i % 8) := by
  have h : i < 8 := by
    rcases Nat.lt_or_ge i 8 with q | q
    · exact q
    · exact absurd (nI_le (a := 8) q (by omega)) c1
  unfold zsg zwd
  rw [if_pos h, zsh_r i hi]
theorem zf2 {a b c : Int64} {i : Nat} (hi : i < 24) (c1 : (8 : Int32) ≤ nI i) (c2 : ¬ (16 : Int32) ≤ nI i) : (((b.toUInt64 >>> (((56 : Int32) - 8 * (nI i &&& 7)).toInt64.toUInt64 &&& Int64.toUInt64 63)).toInt64) &&& 255).toInt32 = zsg (zwd a b c i) (i % 8) := by
  have h1 : ¬ i < 8 := fun q => nI_ge (b := 8) q (by decide) c1
  have h : i < 16 := by
    rcases Nat.lt_or_ge i 16 with q | q
    · exact q
    · exact absurd (nI_le (a := 16) q (by omega)) c2
  unfold zsg zwd
  rw [if_neg h1, if_pos h, zsh_r i hi]
theorem zf3 {a b c : Int64} {i : Nat} (hi : i < 24) (c1 : (8 : Int32) ≤ nI i) (c2 : (16 : Int32) ≤ nI i) : (((c.toUInt64 >>> (((56 : Int32) - 8 * (nI i &&& 7)).toInt64.toUInt64 &&& Int64.toUInt64 63)).toInt64) &&& 255).toInt32 = zsg (zwd a b c i) (i % 8) := by
  have h1 : ¬ i < 8 := fun q => nI_ge (b := 8) q (by decide) c1
  have h : ¬ i < 16 := fun q => nI_ge (b := 16) q (by decide) c2
  unfold zsg zwd
  rw [if_neg h1, if_neg h, zsh_r i hi]
theorem zwi_in {k : Nat} (hk : k < 4) : zwi (nI k) 0 3 = 1 := (show ∀ k : Nat, k < 4 → zwi (nI k) 0 3 = 1 by decide) k hk
theorem zwi_nat {x a b : Int32} {n : Nat} (ha : a = 1) (hb : b.toInt = n) (h : ¬ zwi x a b = 0) : ∃ j : Nat, (1 ≤ j ∧ j ≤ n) ∧ x = nI j := by
  subst ha
  unfold zwi at h
  by_cases h1 : x < 1
  · rw [if_pos h1] at h; exact absurd rfl h
  · rw [if_neg h1] at h
    by_cases h2 : b < x
    · rw [if_pos h2] at h; exact absurd rfl h
    · exact znat hb h1 h2
