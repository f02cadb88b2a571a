/-! ===== a person ===== -/
section XBO
variable {L b e t p : Nat} {r : zRr} {q : zRq} {rm : zRr} {qm : zRq}
/-- a word, and a number behind it -/
theorem xboth (h : xTok L b e r q rm qm) {C : Int64} {i : Nat} {lo hi : Int32} (hi21 : i < 21) (hC : C = xe27 (eB.getD i [])) (hlo : 0 ≤ lo.toInt) :
    (∃ r1 q1 rm1 qm1, Gk_take (nI i) r q = (0, r1, q1) ∧ Gm_needsBoth C lo hi rm qm = (0, rm1, qm1) ∧ r1 196 7 = rm1 109 0 ∧ xFk r q r1 q1 ∧ xFm9 rm qm rm1 qm1) ∨
    (∃ r1 q1, Gk_take (nI i) r q = (1, r1, q1) ∧ xFk r q r1 q1 ∧
      ((∃ r2 q2 rm2 qm2, Gk_takeNumber lo hi r1 q1 = (-1, r2, q2) ∧ Gm_needsBoth C lo hi rm qm = (0, rm2, qm2) ∧ r2 196 7 = rm2 109 0 ∧ xFk r1 q1 r2 q2 ∧ xFm9 rm qm rm2 qm2) ∨
       (∃ v r2 q2 rm2 qm2 b' e', Gk_takeNumber lo hi r1 q1 = (v, r2, q2) ∧ zI lo.toInt hi.toInt v ∧ Gm_needsBoth C lo hi rm qm = (1, rm2, qm2) ∧ rm2 136 0 = v ∧ b < b' ∧ xTok L b' e' r2 q2 rm2 qm2 ∧ xFk r1 q1 r2 q2 ∧ xFm9 rm qm rm2 qm2))) := by
  unfold Gm_needsBoth
  simp only [zifQ]
  have k1 := xtakeW (C := C) h (i := i) hi21 hC
  generalize Gk_take (nI i) r q = o at k1 ⊢
  generalize Gm_needsWord C rm qm = om at k1 ⊢
  obtain ⟨v, r1, q1⟩ := o
  obtain ⟨w, rm1, qm1⟩ := om
  obtain ⟨fk1, fm1, k1⟩ := k1
  have fk1 : xFk r q r1 q1 := fk1
  have fm1 : xFm9 rm qm rm1 qm1 := fm1
  rw [xcvrq (r := rm1)]
  rcases k1 with ⟨a1, a2, a3⟩ | ⟨a1, a2, b3, e3, a3, hT4⟩
  · have a1 : v = 0 := a1
    have a2 : w = 0 := a2
    rw [a1, if_pos a2]
    exact Or.inl ⟨r1, q1, rm1, qm1, rfl, rfl, a3, fk1, fm1⟩
  · have a1 : v = 1 := a1
    have a2 : w = 1 := a2
    rw [a1, if_neg (show ¬ w = 0 by rw [a2]; decide)]
    refine Or.inr ⟨r1, q1, rfl, fk1, ?_⟩
    have k2 := xnum hT4 (lo := lo) (hi := hi) hlo
    have e1 : Gk_takeNumber lo hi ((v, r1, q1) : Int32 × zRr × zRq).2.1 ((v, r1, q1) : Int32 × zRr × zRq).2.2 = Gk_takeNumber lo hi r1 q1 := rfl
    have e2 : Gm_needsNumber lo hi ((w, rm1, qm1) : Int32 × zRr × zRq).2.1 ((w, rm1, qm1) : Int32 × zRr × zRq).2.2 = Gm_needsNumber lo hi rm1 qm1 := rfl
    rw [e1, e2] at k2
    generalize Gk_takeNumber lo hi r1 q1 = o at k2 ⊢
    generalize Gm_needsNumber lo hi rm1 qm1 = om at k2 ⊢
    obtain ⟨v2, r2, q2⟩ := o
    obtain ⟨w2, rm2, qm2⟩ := om
    obtain ⟨fk4, fm4, k2⟩ := k2
    have fk4 : xFk r1 q1 r2 q2 := fk4
    have fm4 : xFm9 rm1 qm1 rm2 qm2 := fm4
    rw [xcvrq (r := rm2)]
    rcases k2 with ⟨c1, c2, c3⟩ | ⟨c1, c2, c3, b4, e4', c4, hT5⟩
    · have c1 : v2 = -1 := c1
      have c2 : w2 = 0 := c2
      rw [c1, if_pos c2]
      exact Or.inl ⟨r2, q2, rm2, qm2, rfl, rfl, c3, fk4, fm1.tr fm4⟩
    · have c1 : w2 = 1 := c1
      rw [if_neg (show ¬ w2 = 0 by rw [c1]; decide)]
      exact Or.inr ⟨v2, r2, q2, rm2, qm2, b4, e4', rfl, c3, rfl, c2.symm, by omega, hT5, fk4, fm1.tr fm4⟩
theorem xkind (h : xTok L b e r q rm qm) {R : zRr} {nm : Int64} : ∃ kd : Int32, Gk_kindHere r q = kd ∧ (zif (Gm_isWord 8740238 rm qm = 0) (zif (Gm_isWord 279844694 rm qm = 0) (zif (Gm_isWord 33861013 rm qm = 0) (zif (Gm_isWord 151063 rm qm = 0) (Gm_readsPerson_102 R nm (-1) rm qm) (Gm_readsPerson_102 R nm 3 rm qm)) (Gm_readsPerson_102 R nm 2 rm qm)) (Gm_readsPerson_102 R nm 1 rm qm)) (Gm_readsPerson_102 R nm 0 rm qm)) = Gm_readsPerson_102 R nm kd rm qm ∧ (kd = -1 ∨ (0 ≤ kd ∧ ¬ kd = -1 ∧ ¬ r 196 4 = 31)) := by
  have w14 := h.word (C := 8740238) 14 (by decide) (by decide)
  have w15 := h.word (C := 279844694) 15 (by decide) (by decide)
  have w16 := h.word (C := 33861013) 16 (by decide) (by decide)
  have w17 := h.word (C := 151063) 17 (by decide) (by decide)
  have n14 : nI 14 = (14 : Int32) := rfl
  have n15 : nI 15 = (15 : Int32) := rfl
  have n16 : nI 16 = (16 : Int32) := rfl
  have n17 : nI 17 = (17 : Int32) := rfl
  rw [n14] at w14; rw [n15] at w15; rw [n16] at w16; rw [n17] at w17
  unfold Gk_kindHere
  simp only [zifQ, zifnQ, zletQ, w14, w15, w16, w17]
  by_cases c1 : r 196 4 = 14
  · exact ⟨0, if_pos c1, by rw [if_pos c1, if_neg (show ¬ (1 : Int32) = 0 by decide)], Or.inr ⟨by decide, by decide, by rw [c1]; decide⟩⟩
  · rw [if_neg c1, if_neg c1, if_pos rfl]
    by_cases c2 : r 196 4 = 15
    · exact ⟨1, if_pos c2, by rw [if_pos c2, if_neg (show ¬ (1 : Int32) = 0 by decide)], Or.inr ⟨by decide, by decide, by rw [c2]; decide⟩⟩
    · rw [if_neg c2, if_neg c2, if_pos rfl]
      by_cases c3 : r 196 4 = 16
      · exact ⟨2, if_pos c3, by rw [if_pos c3, if_neg (show ¬ (1 : Int32) = 0 by decide)], Or.inr ⟨by decide, by decide, by rw [c3]; decide⟩⟩
      · rw [if_neg c3, if_neg c3, if_pos rfl]
        by_cases c4 : r 196 4 = 17
        · exact ⟨3, if_pos c4, by rw [if_pos c4, if_neg (show ¬ (1 : Int32) = 0 by decide)], Or.inr ⟨by decide, by decide, by rw [c4]; decide⟩⟩
        · rw [if_neg c4, if_neg c4, if_pos rfl]
          exact ⟨-1, rfl, rfl, Or.inl rfl⟩
end XBO
