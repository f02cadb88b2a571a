/-! ===== what a reader asks of a token, on both sides ===== -/
theorem xeB_inj : ∀ i, i < 29 → ∀ j, j < 29 → eB.getD i [] = eB.getD j [] → i = j := by decide +kernel
theorem xfi_get {l : List Int32} (h : xfi l < 29) : eB.getD (xfi l) [] = l := by
  have l29 : (eB.take 29).length = 29 := by decide
  have hf2 : (eB.take 29).findIdx (fun x => x == l) < (eB.take 29).length := by rw [l29]; exact h
  have hgt : ∀ t, t < 29 → (eB.take 29)[t]? = some (eB.getD t []) := by decide +kernel
  have h5 := List.findIdx_getElem (xs := eB.take 29) (p := fun x => x == l) (w := hf2)
  have h6 := hgt (xfi l) h
  unfold xfi at h6 ⊢
  rw [List.getElem?_eq_getElem hf2] at h6
  rw [Option.some.inj h6] at h5
  exact eq_of_beq h5
theorem xfi_iff {l : List Int32} {i : Nat} (hi : i < 29) : xfi l = i ↔ l = eB.getD i [] := by
  constructor
  · intro e
    have := xfi_get (l := l) (by omega)
    rw [e] at this
    exact this.symm
  · intro e
    have l29 : (eB.take 29).length = 29 := by decide
    have hgt : ∀ t, t < 29 → (eB.take 29)[t]? = some (eB.getD t []) := by decide +kernel
    have hm : eB.getD i [] ∈ eB.take 29 := List.mem_of_getElem? (hgt i hi)
    have h1 := List.findIdx_lt_length_of_exists (p := fun x => x == l) ⟨_, hm, by rw [e]; simp⟩
    rw [l29] at h1
    have h2 := xfi_get (l := l) h1
    exact xeB_inj (xfi l) h1 _ hi (h2.trans e)
theorem xwk : ∀ i, i < 21 → xW (eB.getD i []) := by decide +kernel
theorem xwf : ∀ i, i < 37 → 33 ≤ i → xW (eB.getD i []) := by decide +kernel
theorem xnl' : ∀ i, i < 29 → 21 ≤ i → ¬ xW (eB.getD i []) := by decide +kernel
theorem xw_or {l : List Int32} (h : xW l) : xfi l < 21 ∨ xfi l = 29 := by
  have h1 := xfi_le (l := l)
  rcases Nat.lt_or_ge (xfi l) 21 with h2 | h2
  · exact Or.inl h2
  · rcases Nat.lt_or_ge (xfi l) 29 with h3 | h3
    · have := xfi_get h3
      exact absurd (by rw [this]; exact h) (xnl' _ h3 h2)
    · exact Or.inr (by omega)
section XF
variable {L b e : Nat} {r : zRr} {q : zRq} {rm : zRr} {qm : zRq}
theorem xTok.sort_lt (h : xTok L b e r q rm qm) : ∃ k, k ≤ 32 ∧ r 196 4 = nI k := by
  rcases h.k with ⟨h1, _, _⟩ | ⟨_, ⟨_, _, h1, _⟩ | ⟨_, h1, _⟩ | ⟨_, _, _, h2, h1⟩ | ⟨_, h1⟩⟩
  · exact ⟨31, by omega, h1⟩
  · have := xfi_le (l := xsg (r 197) b (e - b)); exact ⟨_, by omega, h1⟩
  · exact ⟨30, by omega, h1⟩
  · exact ⟨_, by omega, h1⟩
  · exact ⟨32, by omega, h1⟩
/-- a word that is kept -/
theorem xTok.word (h : xTok L b e r q rm qm) {C : Int64} (i : Nat) (hi : i < 21) (hC : C = xe27 (eB.getD i [])) : Gm_isWord C rm qm = if r 196 4 = nI i then 1 else 0 := by
  simp only [Gm_isWord, zlet, zifn]
  rcases h.k with ⟨h1, h2, _⟩ | ⟨_, ⟨h2, hw, h1, _, h3⟩ | ⟨h2, h1, _⟩ | ⟨h2, _, h4, h3, h1⟩ | ⟨h2, h1⟩⟩
  · rw [h2, h1, if_neg (by decide), if_neg (fun e => by have := (nI_eq (a := 31) (by omega) (by omega)).mp e; omega)]
  · rw [h2, if_pos rfl, h3, h1, hC]
    have k : xe27 (xsg (r 197) b (e - b)) = xe27 (eB.getD i []) ↔ xfi (xsg (r 197) b (e - b)) = i := (xe27_inj hw (xwk i hi)).trans (xfi_iff (by omega)).symm
    have := xfi_le (l := xsg (r 197) b (e - b))
    by_cases e1 : xfi (xsg (r 197) b (e - b)) = i
    · rw [if_pos (xcmp.mpr (k.mpr e1)), if_pos (by rw [e1])]
    · rw [if_neg (fun e2 => e1 (k.mp (xcmp.mp e2))), if_neg (fun e2 => e1 ((nI_eq (by omega) (by omega)).mp e2))]
  · rw [h2, h1, if_neg (by decide), if_neg (fun e => by have := (nI_eq (a := 30) (by omega) (by omega)).mp e; omega)]
  · rw [h2, h1, if_neg (by decide), if_neg (fun e => by have := (nI_eq (by omega) (by omega)).mp e; omega)]
  · rw [h2, h1, if_neg (by decide), if_neg (fun e => by have := (nI_eq (a := 32) (by omega) (by omega)).mp e; omega)]
/-- a sign -/
theorem xTok.sign (h : xTok L b e r q rm qm) {s : Int32} (i : Nat) (hi : 21 ≤ i ∧ i < 29) (hs : [s] = eB.getD i []) : Gm_isSign s rm qm = if r 196 4 = nI i then 1 else 0 := by
  simp only [Gm_isSign, zlet, zifn]
  have hL := h.P.hL; have hp := h.P.hp
  rcases h.k with ⟨h1, h2, _⟩ | ⟨hbe, ⟨h2, hw, h1, _, h3⟩ | ⟨h2, h1, _⟩ | ⟨h2, h5, h4, h3, h1⟩ | ⟨h2, h1⟩⟩
  · rw [h2, h1, if_neg (by decide), if_neg (fun e => by have := (nI_eq (a := 31) (by omega) (by omega)).mp e; omega)]
  · have h9 := xw_or hw
    rw [h2, h1, if_neg (by decide), if_neg (fun e => by have := (nI_eq (by omega) (by omega)).mp e; omega)]
  · rw [h2, h1, if_neg (by decide), if_neg (fun e => by have := (nI_eq (a := 30) (by omega) (by omega)).mp e; omega)]
  · rw [h2, if_pos rfl, h.B.b2, xzn (by omega), ← h.P.cell b (by omega), h1]
    have k : r 197 b = s ↔ xfi [r 197 b] = i := by
      rw [xfi_iff hi.2, ← hs]
      exact ⟨fun e => by rw [e], fun e => (List.cons.inj e).1⟩
    by_cases e1 : r 197 b = s
    · rw [if_pos e1, if_pos (by rw [k.mp e1])]
    · rw [if_neg e1, if_neg (fun e2 => e1 (k.mpr ((nI_eq (by omega) (by omega)).mp e2)))]
  · rw [h2, h1, if_neg (by decide), if_neg (fun e => by have := (nI_eq (a := 32) (by omega) (by omega)).mp e; omega)]
theorem xTok.end_ (h : xTok L b e r q rm qm) : rm 106 0 = 0 ↔ r 196 4 = 31 := by
  rcases h.k with ⟨h1, h2, _⟩ | ⟨_, ⟨h2, hw, h1, _, h3⟩ | ⟨h2, h1, _⟩ | ⟨h2, _, h4, h3, h1⟩ | ⟨h2, h1⟩⟩
  · rw [h1, h2]; simp
  · have := xfi_le (l := xsg (r 197) b (e - b))
    rw [h1, h2]; exact ⟨fun e => absurd e (by decide), fun e => by have := (nI_eq (b := 31) (by omega) (by omega)).mp e; omega⟩
  · rw [h1, h2]; decide
  · rw [h1, h2]; exact ⟨fun e => absurd e (by decide), fun e => by have := (nI_eq (b := 31) (by omega) (by omega)).mp e; omega⟩
  · rw [h1, h2]; decide
theorem xTok.num (h : xTok L b e r q rm qm) : rm 106 0 = 2 ↔ r 196 4 = 30 := by
  rcases h.k with ⟨h1, h2, _⟩ | ⟨_, ⟨h2, hw, h1, _, h3⟩ | ⟨h2, h1, _⟩ | ⟨h2, _, h4, h3, h1⟩ | ⟨h2, h1⟩⟩
  · rw [h1, h2]; decide
  · have := xw_or hw
    rw [h1, h2]; exact ⟨fun e => absurd e (by decide), fun e => by have := (nI_eq (b := 30) (by omega) (by omega)).mp e; omega⟩
  · rw [h1, h2]; simp
  · rw [h1, h2]; exact ⟨fun e => absurd e (by decide), fun e => by have := (nI_eq (b := 30) (by omega) (by omega)).mp e; omega⟩
  · rw [h1, h2]; decide
theorem xTok.number (h : xTok L b e r q rm qm) (hs : r 196 4 = 30) : r 196 5 = rm 108 0 ∧ zI 0 9999 (rm 108 0) := by
  have h0 := h.num.mpr hs
  rcases h.k with ⟨h1, h2, _⟩ | ⟨_, ⟨h2, _⟩ | ⟨_, _, h1⟩ | ⟨h2, _⟩ | ⟨h2, h1⟩⟩
  · rw [h0] at h2; exact absurd h2 (by decide)
  · rw [h0] at h2; exact absurd h2 (by decide)
  · exact h1
  · rw [h0] at h2; exact absurd h2 (by decide)
  · rw [h0] at h2; exact absurd h2 (by decide)
/-- a name: the word that it is -/
theorem xTok.name (h : xTok L b e r q rm qm) (hs : r 196 4 = 29) : xW (xsg (r 197) b (e - b)) ∧ q 196 6 = xe5 (xsg (r 197) b (e - b)) ∧ qm 107 0 = xe27 (xsg (r 197) b (e - b)) ∧ rm 106 0 = 1 ∧ xfi (xsg (r 197) b (e - b)) = 29 := by
  rcases h.k with ⟨h1, h2, _⟩ | ⟨_, ⟨h2, hw, h1, h4, h3⟩ | ⟨_, h1, _⟩ | ⟨h2, _, _, h3, h1⟩ | ⟨h2, h1⟩⟩
  · rw [hs] at h1; exact absurd h1 (by decide)
  · have := xfi_le (l := xsg (r 197) b (e - b))
    rw [hs] at h1
    exact ⟨hw, h4, h3, h2, ((nI_eq (a := 29) (by omega) (by omega)).mp h1).symm⟩
  · rw [hs] at h1; exact absurd h1 (by decide)
  · rw [hs] at h1; have := (nI_eq (a := 29) (by omega) (by omega)).mp h1; omega
  · rw [hs] at h1; exact absurd h1 (by decide)
theorem xTok.nm (h : xTok L b e r q rm qm) (hs : r 196 4 = 29) : xN (q 196 6) (qm 107 0) := by
  obtain ⟨h1, h2, h3, _⟩ := h.name hs
  exact ⟨_, h1, h2, h3⟩
theorem xkept (n : Nat) (h : n < 21 ∨ n = 29) : (if n = 0 then (1 : Int32) else if n = 1 then 1 else if n = 2 then 1 else if n = 3 then 1 else if n = 4 then 1 else if n = 5 then 1 else if n = 6 then 1 else if n = 7 then 1 else if n = 8 then 1 else if n = 9 then 1 else if n = 10 then 1 else if n = 11 then 1 else if n = 12 then 1 else if n = 13 then 1 else if n = 14 then 1 else if n = 15 then 1 else if n = 16 then 1 else if n = 17 then 1 else if n = 18 then 1 else if n = 19 then 1 else if n = 20 then 1 else 0) = if nI n = 29 then 0 else 1 := by
  have k : ∀ n, n < 30 → n < 21 ∨ n = 29 → (if n = 0 then (1 : Int32) else if n = 1 then 1 else if n = 2 then 1 else if n = 3 then 1 else if n = 4 then 1 else if n = 5 then 1 else if n = 6 then 1 else if n = 7 then 1 else if n = 8 then 1 else if n = 9 then 1 else if n = 10 then 1 else if n = 11 then 1 else if n = 12 then 1 else if n = 13 then 1 else if n = 14 then 1 else if n = 15 then 1 else if n = 16 then 1 else if n = 17 then 1 else if n = 18 then 1 else if n = 19 then 1 else if n = 20 then 1 else 0) = if nI n = 29 then 0 else 1 := by decide +kernel
  exact k n (by omega) h
theorem xif {α : Type} {p p' : Prop} [Decidable p] [Decidable p'] {a b b' : α} (h : p ↔ p') (hb : b = b') : (if p then a else b) = if p' then a else b' := by
  subst hb
  by_cases h1 : p
  · rw [if_pos h1, if_pos (h.mp h1)]
  · rw [if_neg h1, if_neg (fun h2 => h1 (h.mpr h2))]
theorem xTok.kept (h : xTok L b e r q rm qm) : Gm_isKept rm qm = if r 196 4 = 29 then 0 else 1 := by
  by_cases ht : rm 106 0 = 1
  · have hk : xW (xsg (r 197) b (e - b)) ∧ r 196 4 = nI (xfi (xsg (r 197) b (e - b))) ∧ qm 107 0 = xe27 (xsg (r 197) b (e - b)) := by
      rcases h.k with ⟨h1, h2, _⟩ | ⟨_, ⟨h2, hw, h1, h4, h3⟩ | ⟨h2, _⟩ | ⟨h2, _⟩ | ⟨h2, _⟩⟩
      · rw [ht] at h2; exact absurd h2 (by decide)
      · exact ⟨hw, h1, h3⟩
      · rw [ht] at h2; exact absurd h2 (by decide)
      · rw [ht] at h2; exact absurd h2 (by decide)
      · rw [ht] at h2; exact absurd h2 (by decide)
    obtain ⟨hw, h1, h3⟩ := hk
    unfold Gm_isKept
    simp only [zlet, zif, zifn]
    rw [if_pos ht, h3, h1, ← xkept _ (xw_or hw)]
    have k : ∀ (i : Nat) (C : Int64), i < 21 → C = xe27 (eB.getD i []) → (lg_cmp (xe27 (xsg (r 197) b (e - b))) C = 0 ↔ xfi (xsg (r 197) b (e - b)) = i) := by
      intro i C hi hC
      rw [xcmp, hC]
      exact (xe27_inj hw (xwk i hi)).trans (xfi_iff (by omega)).symm
    exact xif (k 0 _ (by decide) (by decide)) (xif (k 1 _ (by decide) (by decide)) (xif (k 2 _ (by decide) (by decide)) (xif (k 3 _ (by decide) (by decide)) (xif (k 4 _ (by decide) (by decide)) (xif (k 5 _ (by decide) (by decide)) (xif (k 6 _ (by decide) (by decide)) (xif (k 7 _ (by decide) (by decide)) (xif (k 8 _ (by decide) (by decide)) (xif (k 9 _ (by decide) (by decide)) (xif (k 10 _ (by decide) (by decide)) (xif (k 11 _ (by decide) (by decide)) (xif (k 12 _ (by decide) (by decide)) (xif (k 13 _ (by decide) (by decide)) (xif (k 14 _ (by decide) (by decide)) (xif (k 15 _ (by decide) (by decide)) (xif (k 16 _ (by decide) (by decide)) (xif (k 17 _ (by decide) (by decide)) (xif (k 18 _ (by decide) (by decide)) (xif (k 19 _ (by decide) (by decide)) (xif (k 20 _ (by decide) (by decide)) rfl))))))))))))))))))))
  · unfold Gm_isKept
    simp only [zlet, zif, zifn]
    rw [if_neg ht, if_neg (fun e => ht (h.name e).2.2.2.1)]
end XF
