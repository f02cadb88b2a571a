/-! ===== grows, inch ===== -/
section XON
variable {L b e t p : Nat} {r : zRr} {q : zRq} {rm : zRr} {qm : zRq}
theorem xlGrows (h : xTok L b e r q rm qm) (hD : xD t p r q rm qm) (hs : ¬ r 196 4 = 31) : xLo L b r q rm qm (xCL (Gk_readGrows r q)) (Gm_readsOne2 0 5 rm qm) := by
  have hlt := h.lt hs
  have hD0 := hD
  obtain ⟨hDt, hDp, ⟨f1, f2, g, i, hg, hi, f3, f4, f5⟩, hDl⟩ := hD
  have hbit : (nI (4 * g + 8 * i) >>> (2 &&& 31)) &&& 1 = nI g := by
    rcases (show (g = 0 ∧ i = 0) ∨ (g = 0 ∧ i = 1) ∨ (g = 1 ∧ i = 0) ∨ (g = 1 ∧ i = 1) by omega) with ⟨rfl, rfl⟩ | ⟨rfl, rfl⟩ | ⟨rfl, rfl⟩ | ⟨rfl, rfl⟩ <;> decide
  unfold Gk_readGrows Gm_readsOne2
  simp only [zifQ, zifnQ, zletQ, xfr, xfm, xeta]
  rw [f3, f5, hbit]
  rcases (show g = 0 ∨ g = 1 by omega) with rfl | rfl
  · rw [if_pos (show nI 0 = (0 : Int32) from rfl), if_neg (show ¬ nI 0 = (1 : Int32) by decide)]
    have hor : nI (4 * 0 + 8 * i) ||| 4 = nI (4 * 1 + 8 * i) := by
      rcases (show i = 0 ∨ i = 1 by omega) with rfl | rfl <;> decide
    rw [hor]
    have fA : zFr [198] r (zset r 198 (upd (r 198) 0 1)) := zFr.refl.set rfl
    have fB : zFr [123] rm (zset rm 123 (fun _ => nI (4 * 1 + 8 * i))) := zFr.refl.set rfl
    have hT1 := h.row (r1 := zset r 198 (upd (r 198) 0 1)) (q1 := q) (rm1 := zset rm 123 (fun _ => nI (4 * 1 + 8 * i))) (qm1 := qm) rfl rfl rfl rfl rfl rfl rfl rfl rfl rfl
    have hD1 : xD t p (zset r 198 (upd (r 198) 0 1)) q (zset rm 123 (fun _ => nI (4 * 1 + 8 * i))) qm := ⟨hDt.fr rfl rfl rfl rfl rfl rfl rfl rfl, hDp.fr rfl rfl rfl rfl rfl rfl rfl rfl rfl rfl rfl rfl, ⟨f1, f2, 1, i, by omega, hi, rfl, f4, rfl⟩, hDl.fr rfl rfl rfl rfl rfl rfl rfl⟩
    have GK1 : xGk r q (zset r 198 (upd (r 198) 0 1)) q := xGk.refl.set (by decide)
    have GM1 : xGm rm qm (zset rm 123 (fun _ => nI (4 * 1 + 8 * i))) qm := xGm.refl.fld (by decide) (by decide)
    generalize zset r 198 (upd (r 198) 0 1) = ra at hT1 hD1 GK1 ⊢
    generalize zset rm 123 (fun _ => nI (4 * 1 + 8 * i)) = rma at hT1 hD1 GM1 ⊢
    obtain ⟨b1, e1, r6, q7, rm10, qm11, s1, s2, hT2, hb1, fk1, fm1⟩ := hT1.next
    have hD2 := hD1.tok fk1 (xFm9.m fm1)
    have GK2 := GK1.k fk1
    have GM2 := GM1.m (xFm9.m fm1)
    rw [s1, s2, xcrq, xcrq]
    have k2 := xnum hT2 (lo := 0) (hi := 5) (by decide)
    generalize Gk_takeNumber 0 5 r6 q7 = o at k2 ⊢
    generalize Gm_needsNumber 0 5 rm10 qm11 = om at k2 ⊢
    obtain ⟨v, r24, q25⟩ := o
    obtain ⟨w, rm17, qm18⟩ := om
    obtain ⟨fk4, fm4, k2⟩ := k2
    have fk4 : xFk r6 q7 r24 q25 := fk4
    have fm4 : xFm9 rm10 qm11 rm17 qm18 := fm4
    have GK4 := GK2.k fk4
    have GM4 := GM2.m fm4
    rw [xcvrq (r := r24), xcvrq (r := rm17)]
    rcases k2 with ⟨c1, c2, c3⟩ | ⟨c1, c2, c3, b4, e4', c4, hT5⟩
    · have c1 : v = -1 := c1
      have c2 : w = 0 := c2
      rw [if_pos (show (zset r24 183 (upd (r24 183) 11 v)) 183 11 = -1 by rw [zset_eq, pk_us]; exact c1), if_pos c2]
      exact xLo.fail (GK4.set (by decide)) GM4 c3
    · have c1 : w = 1 := c1
      have c2 : v = rm17 136 0 := c2
      have c3 : zI 0 5 v := c3
      rw [if_neg (show ¬ (zset r24 183 (upd (r24 183) 11 v)) 183 11 = -1 by rw [zset_eq, pk_us]; intro h9; rw [h9] at c3; exact absurd c3.1 (by decide)), if_neg (show ¬ w = 0 by rw [c1]; decide), ← c2]
      obtain ⟨d1, d2, ⟨u1, u2, u3⟩, d4⟩ := hD2.tok fk4 fm4
      exact xLo.close (b1 := b4) (e1 := e4') (t := t) (p := p) (hT5.row rfl rfl rfl rfl rfl rfl rfl rfl rfl rfl) (by omega) ⟨d1.fr rfl rfl rfl rfl rfl rfl rfl rfl, d2.fr rfl rfl rfl rfl rfl rfl rfl rfl rfl rfl rfl rfl, ⟨(show upd (r24 183) 11 v 11 = upd (rm17 1) 6 v 6 by rw [pk_us, pk_us]), u2, u3⟩, d4.fr rfl rfl rfl rfl rfl rfl rfl⟩ (GK4.set (by decide)) (GM4.cell (by decide) (by omega) (by omega) (by omega) (by omega))
  · rw [if_neg (show ¬ nI 1 = (0 : Int32) by decide), if_pos (show nI 1 = (1 : Int32) from rfl)]
    obtain ⟨r1, rm1, h1, h2, h3, h4, h5⟩ := h.fails 3
    rw [h1, h2]
    exact xLo.fail (xGk.refl.k ⟨h4, xFq.refl⟩) (xGm.refl.m ⟨h5.up rfl, xFq.refl⟩) h3
theorem xlInch (h : xTok L b e r q rm qm) (hD : xD t p r q rm qm) (hs : ¬ r 196 4 = 31) : xLo L b r q rm qm (xCL (Gk_readInch r q)) (Gm_readsOne3 1 9 rm qm) := by
  have hlt := h.lt hs
  have hD0 := hD
  obtain ⟨hDt, hDp, ⟨f1, f2, g, i, hg, hi, f3, f4, f5⟩, hDl⟩ := hD
  have hbit : (nI (4 * g + 8 * i) >>> (3 &&& 31)) &&& 1 = nI i := by
    rcases (show (g = 0 ∧ i = 0) ∨ (g = 0 ∧ i = 1) ∨ (g = 1 ∧ i = 0) ∨ (g = 1 ∧ i = 1) by omega) with ⟨rfl, rfl⟩ | ⟨rfl, rfl⟩ | ⟨rfl, rfl⟩ | ⟨rfl, rfl⟩ <;> decide
  unfold Gk_readInch Gm_readsOne3
  simp only [zifQ, zifnQ, zletQ, xfr, xfm, xeta]
  rw [f4, f5, hbit]
  rcases (show i = 0 ∨ i = 1 by omega) with rfl | rfl
  · rw [if_pos (show nI 0 = (0 : Int32) from rfl), if_neg (show ¬ nI 0 = (1 : Int32) by decide)]
    have hor : nI (4 * g + 8 * 0) ||| 8 = nI (4 * g + 8 * 1) := by
      rcases (show g = 0 ∨ g = 1 by omega) with rfl | rfl <;> decide
    rw [hor]
    have fA : zFr [198] r (zset r 198 (upd (r 198) 1 1)) := zFr.refl.set rfl
    have fB : zFr [123] rm (zset rm 123 (fun _ => nI (4 * g + 8 * 1))) := zFr.refl.set rfl
    have hT1 := h.row (r1 := zset r 198 (upd (r 198) 1 1)) (q1 := q) (rm1 := zset rm 123 (fun _ => nI (4 * g + 8 * 1))) (qm1 := qm) rfl rfl rfl rfl rfl rfl rfl rfl rfl rfl
    have hD1 : xD t p (zset r 198 (upd (r 198) 1 1)) q (zset rm 123 (fun _ => nI (4 * g + 8 * 1))) qm := ⟨hDt.fr rfl rfl rfl rfl rfl rfl rfl rfl, hDp.fr rfl rfl rfl rfl rfl rfl rfl rfl rfl rfl rfl rfl, ⟨f1, f2, g, 1, hg, by omega, f3, rfl, rfl⟩, hDl.fr rfl rfl rfl rfl rfl rfl rfl⟩
    have GK1 : xGk r q (zset r 198 (upd (r 198) 1 1)) q := xGk.refl.set (by decide)
    have GM1 : xGm rm qm (zset rm 123 (fun _ => nI (4 * g + 8 * 1))) qm := xGm.refl.fld (by decide) (by decide)
    generalize zset r 198 (upd (r 198) 1 1) = ra at hT1 hD1 GK1 ⊢
    generalize zset rm 123 (fun _ => nI (4 * g + 8 * 1)) = rma at hT1 hD1 GM1 ⊢
    obtain ⟨b1, e1, r6, q7, rm10, qm11, s1, s2, hT2, hb1, fk1, fm1⟩ := hT1.next
    have hD2 := hD1.tok fk1 (xFm9.m fm1)
    have GK2 := GK1.k fk1
    have GM2 := GM1.m (xFm9.m fm1)
    rw [s1, s2, xcrq, xcrq]
    have k2 := xnum hT2 (lo := 1) (hi := 9) (by decide)
    generalize Gk_takeNumber 1 9 r6 q7 = o at k2 ⊢
    generalize Gm_needsNumber 1 9 rm10 qm11 = om at k2 ⊢
    obtain ⟨v, r24, q25⟩ := o
    obtain ⟨w, rm17, qm18⟩ := om
    obtain ⟨fk4, fm4, k2⟩ := k2
    have fk4 : xFk r6 q7 r24 q25 := fk4
    have fm4 : xFm9 rm10 qm11 rm17 qm18 := fm4
    have GK4 := GK2.k fk4
    have GM4 := GM2.m fm4
    rw [xcvrq (r := r24), xcvrq (r := rm17)]
    rcases k2 with ⟨c1, c2, c3⟩ | ⟨c1, c2, c3, b4, e4', c4, hT5⟩
    · have c1 : v = -1 := c1
      have c2 : w = 0 := c2
      rw [if_pos (show (zset r24 183 (upd (r24 183) 12 v)) 183 12 = -1 by rw [zset_eq, pk_us]; exact c1), if_pos c2]
      exact xLo.fail (GK4.set (by decide)) GM4 c3
    · have c1 : w = 1 := c1
      have c2 : v = rm17 136 0 := c2
      have c3 : zI 1 9 v := c3
      rw [if_neg (show ¬ (zset r24 183 (upd (r24 183) 12 v)) 183 12 = -1 by rw [zset_eq, pk_us]; intro h9; rw [h9] at c3; exact absurd c3.1 (by decide)), if_neg (show ¬ w = 0 by rw [c1]; decide), ← c2]
      obtain ⟨d1, d2, ⟨u1, u2, u3⟩, d4⟩ := hD2.tok fk4 fm4
      exact xLo.close (b1 := b4) (e1 := e4') (t := t) (p := p) (hT5.row rfl rfl rfl rfl rfl rfl rfl rfl rfl rfl) (by omega) ⟨d1.fr rfl rfl rfl rfl rfl rfl rfl rfl, d2.fr rfl rfl rfl rfl rfl rfl rfl rfl rfl rfl rfl rfl, ⟨u1, (show upd (r24 183) 12 v 12 = upd (rm17 1) 7 v 7 by rw [pk_us, pk_us]), u3⟩, d4.fr rfl rfl rfl rfl rfl rfl rfl⟩ (GK4.set (by decide)) (GM4.cell (by decide) (by omega) (by omega) (by omega) (by omega))
  · rw [if_neg (show ¬ nI 1 = (0 : Int32) by decide), if_pos (show nI 1 = (1 : Int32) from rfl)]
    obtain ⟨r1, rm1, h1, h2, h3, h4, h5⟩ := h.fails 3
    rw [h1, h2]
    exact xLo.fail (xGk.refl.k ⟨h4, xFq.refl⟩) (xGm.refl.m ⟨h5.up rfl, xFq.refl⟩) h3
end XON
