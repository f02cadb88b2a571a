/-! ===== a line of a LAND, on both sides: a town ===== -/
noncomputable def xCL (o : Int32 × zRr × zRq) : Int32 × zRr × zRq := zc_vrq o (fun v r8 q9 => zif (v = 0) (0, r8, q9) (zc_vrq (Gk_take 28 r8 q9) (fun v r15 q16 => zifn (v = 0) (1, r15, q16) (0, r15, q16))))
def xLo (L b : Nat) (r : zRr) (q : zRq) (rm : zRr) (qm : zRq) (o om : Int32 × zRr × zRq) : Prop :=
  xGk r q o.2.1 o.2.2 ∧ xGm rm qm om.2.1 om.2.2 ∧ ((o.1 = 0 ∧ om.1 = 0 ∧ o.2.1 196 7 = om.2.1 109 0) ∨ (o.1 = 1 ∧ om.1 = 1 ∧ ∃ b' e' t p, b < b' ∧ xTok L b' e' o.2.1 o.2.2 om.2.1 om.2.2 ∧ xD t p o.2.1 o.2.2 om.2.1 om.2.2))
theorem xeta {α : Type} {o : α × zRr × zRq} : zc_vrq o (fun v r q => (v, r, q)) = o := rfl
theorem xcvrq {α β : Type} {v : α} {r : zRr} {q : zRq} {K : α → zRr → zRq → β} : zc_vrq (v, r, q) K = K v r q := zc_vrqQ _ _
theorem xcvr {α β : Type} {v : α} {r : zRr} {K : α → zRr → β} : zc_vr (v, r) K = K v r := zc_vrQ _ _
theorem xcrq {β : Type} {r : zRr} {q : zRq} {K : zRr → zRq → β} : zc_rq (r, q) K = K r q := zc_rqQ _ _
section XLO
variable {L b : Nat} {r r1 : zRr} {q q1 : zRq} {rm rm1 : zRr} {qm qm1 : zRq}
theorem xCL0 : xCL (0, r, q) = (0, r, q) := by
  unfold xCL; rw [xcvrq, zifQ, if_pos rfl]
theorem xCL1 : xCL (1, r, q) = zc_vrq (Gk_take 28 r q) (fun v r15 q16 => zifn (v = 0) (1, r15, q16) (0, r15, q16)) := by
  unfold xCL; rw [xcvrq, zifQ, if_neg (by decide)]
theorem xLo.fail (hk : xGk r q r1 q1) (hm : xGm rm qm rm1 qm1) (h : r1 196 7 = rm1 109 0) : xLo L b r q rm qm (xCL (0, r1, q1)) (0, rm1, qm1) := by
  rw [xCL0]; exact ⟨hk, hm, Or.inl ⟨rfl, rfl, h⟩⟩
theorem xLo.close {b1 e1 t p : Nat} (h : xTok L b1 e1 r1 q1 rm1 qm1) (hb : b < b1) (hD : xD t p r1 q1 rm1 qm1) (hk : xGk r q r1 q1) (hm : xGm rm qm rm1 qm1) : xLo L b r q rm qm (xCL (1, r1, q1)) (Gm_closes rm1 qm1) := by
  rw [xCL1]
  have k := xclose h
  generalize Gk_take 28 r1 q1 = o at k ⊢
  generalize Gm_closes rm1 qm1 = om at k ⊢
  obtain ⟨v, r2, q2⟩ := o
  obtain ⟨w, rm2, qm2⟩ := om
  obtain ⟨fk, fm, k⟩ := k
  rw [xcvrq, zifnQ]
  rcases k with ⟨a1, a2, a3⟩ | ⟨a1, a2, b', e', a3, a4⟩
  · have a1 : v = 0 := a1
    have a2 : w = 0 := a2
    rw [if_pos a1, a2]
    exact ⟨hk.k fk, hm.m fm, Or.inl ⟨rfl, rfl, a3⟩⟩
  · have a1 : v = 1 := a1
    have a2 : w = 1 := a2
    rw [if_neg (by rw [a1]; decide), a2]
    exact ⟨hk.k fk, hm.m fm, Or.inr ⟨rfl, rfl, b', e', t, p, by omega, a4, hD.tok fk fm⟩⟩
end XLO
section XT
variable {L b e t p : Nat} {r : zRr} {q : zRq} {rm : zRr} {qm : zRq}
theorem xDt.nm {r1 : zRr} {q1 : zRq} {rm1 : zRr} {qm1 : zRq} (h : xDt t r q rm qm) {j : Nat} {w : Int64} (hj : t ≤ j) : xDt t r (zset q 186 (vp_updL (q 186) j w)) rm qm := by
  obtain ⟨h1, h2, h3, h4, h5⟩ := h
  refine ⟨h1, h2, h3, fun i hi => ?_, h5⟩
  obtain ⟨k1, k2, k3⟩ := h4 i hi
  refine ⟨k1, k2, ?_⟩
  rw [zset_eq, show vp_updL (q 186) j w i = q 186 i from if_neg (by omega)]
  exact k3
theorem xlTown (h : xTok L b e r q rm qm) (hD : xD t p r q rm qm) (hs : ¬ r 196 4 = 31) : xLo L b r q rm qm (xCL (Gk_readTown r q)) (Gm_readsTown rm qm) := by
  have hD0 := hD
  obtain ⟨hDt, hDp, hDn, hDl⟩ := hD
  have e9 : r 183 9 = nI t := hDt.1
  have e4 : rm 1 4 = nI t := hDt.2.1
  have ht6 : t ≤ 6 := hDt.2.2.1
  have e6 : (6 : Int32) + nI t = nI (6 + t) := nI_add 6 t
  unfold Gk_readTown Gm_readsTown
  simp only [zifQ, zifnQ, zletQ, xfr, xfm, xeta, e9, e4, e6, xzn (show 6 + t < 2 ^ 31 by omega), xzn (show t < 2 ^ 31 by omega)]
  by_cases ht : t < 6
  · have c1 : nI t < 6 := (nI_ltI (b := 6) (by omega) (by omega)).mpr ht
    have c2 : ¬ nI (6 + t) = 12 := fun h9 => by have := (nI_eq (b := 12) (by omega) (by omega)).mp h9; omega
    rw [if_pos c1, if_neg c2]
    obtain ⟨b1, e1, r4, q5, rm6, qm7, s1, s2, hT1, hb1, fk1, fm1⟩ := h.next
    have hlt := h.lt hs
    have hD1 := hD0.tok fk1 (xFm9.m fm1)
    have GK1 : xGk r q r4 q5 := xGk.refl.k fk1
    have GM1 : xGm rm qm rm6 qm7 := xGm.refl.m (xFm9.m fm1)
    rw [s1, s2, xcrq, xcrq]
    rcases xnew hT1 hD1 with ⟨r8, rm8, n1, n2, n3, n4, n5⟩ | ⟨n1, n2, n3⟩
    · rw [n1, n2, xcvr, xcvrq (r := rm8), if_pos rfl, if_pos rfl]
      exact xLo.fail (GK1.k ⟨n4, xFq.refl⟩) (GM1.m ⟨n5.up rfl, xFq.refl⟩) n3
    · rw [n1, n2, xcvr, if_neg (show ¬ (1 : Int32) = 0 by decide)]
      have hT2 : xTok L b1 e1 r4 (zset q5 186 (vp_updL (q5 186) t (q5 196 6))) rm6 (zset qm7 137 (fun _ => qm7 107 0)) := hT1.row rfl rfl (zset_ne (by decide)) rfl rfl rfl rfl rfl rfl (zset_ne (by decide))
      obtain ⟨b2, e2, r14, q15, rm10, qm11, s3, s4, hT3, hb2, fk2, fm2⟩ := hT2.next
      have hD2 : xD t p r14 q15 rm10 qm11 := by
        refine xD.tok (r := r4) (q := zset q5 186 (vp_updL (q5 186) t (q5 196 6))) (rm := rm6) (qm := zset qm7 137 (fun _ => qm7 107 0)) ?_ fk2 (xFm9.m fm2)
        obtain ⟨d1, d2, d3, d4⟩ := hD1
        exact ⟨(d1.nm (r1 := r) (q1 := q) (rm1 := rm) (qm1 := qm) (Nat.le_refl t)).fr rfl rfl rfl rfl rfl rfl rfl (zset_ne (by decide)), d2.fr rfl rfl rfl rfl rfl (zset_ne (by decide)) rfl rfl rfl rfl rfl (zset_ne (by decide)), d3, d4⟩
      have GK2 : xGk r q r14 q15 := (GK1.setq (k := 186) (by decide)).k fk2
      have GM2 : xGm rm qm rm10 qm11 := (GM1.fldq).m (xFm9.m fm2)
      have qn : q15 186 t = q5 196 6 := by rw [fk2.2 186 rfl, zset_eq]; exact if_pos rfl
      have qf : qm11 137 0 = qm7 107 0 := by rw [fm2.2 137 rfl, zset_eq]
      have hN := hT1.nm n3
      rw [s3, s4, xcrq, xcrq, xcvrq (r := rm10), if_neg (show ¬ (1 : Int32) = 0 by decide)]
      unfold Gm_needsBoth
      simp only [zifQ]
      have k1 := xtakeW (C := 33850) hT3 (i := 1) (by decide) (by decide)
      rw [show nI 1 = (1 : Int32) from rfl] at k1
      generalize Gk_take 1 r14 q15 = o at k1 ⊢
      generalize Gm_needsWord 33850 rm10 qm11 = om at k1 ⊢
      obtain ⟨v, r18, q19⟩ := o
      obtain ⟨w, rm11, qm12⟩ := om
      obtain ⟨fk3, fm3, k1⟩ := k1
      have fk3 : xFk r14 q15 r18 q19 := fk3
      have fm3 : xFm9 rm10 qm11 rm11 qm12 := fm3
      have GK3 := GK2.k fk3
      have GM3 := GM2.m fm3
      rw [xcvrq (r := r18), xcvrq (r := rm11)]
      rcases k1 with ⟨a1, a2, a3⟩ | ⟨a1, a2, b3, e3, a3, hT4⟩
      · have a1 : v = 0 := a1
        have a2 : w = 0 := a2
        rw [if_pos a1, if_pos a2, xcvrq (r := rm11), if_pos rfl]
        exact xLo.fail GK3 GM3 a3
      · have a1 : v = 1 := a1
        have a2 : w = 1 := a2
        have hD3 := hD2.tok fk3 fm3
        rw [if_neg (show ¬ v = 0 by rw [a1]; decide), if_neg (show ¬ w = 0 by rw [a2]; decide)]
        have k2 := xnum hT4 (lo := 0) (hi := 30) (by decide)
        generalize Gk_takeNumber 0 30 r18 q19 = o at k2 ⊢
        generalize Gm_needsNumber 0 30 rm11 qm12 = om at k2 ⊢
        obtain ⟨v, r24, q25⟩ := o
        obtain ⟨w, rm17, qm18⟩ := om
        obtain ⟨fk4, fm4, k2⟩ := k2
        have fk4 : xFk r18 q19 r24 q25 := fk4
        have fm4 : xFm9 rm11 qm12 rm17 qm18 := fm4
        have GK4 := GK3.k fk4
        have GM4 := GM3.m fm4
        rw [xcvrq (r := r24), xcvrq (r := rm17)]
        rcases k2 with ⟨c1, c2, c3⟩ | ⟨c1, c2, c3, b4, e4', c4, hT5⟩
        · have c1 : v = -1 := c1
          have c2 : w = 0 := c2
          rw [if_pos c2, xcvrq (r := rm17), if_pos rfl]
          rw [if_pos (show (zset (zset r24 184 (upd (r24 184) t v)) 183 (upd (zset r24 184 (upd (r24 184) t v) 183) 9 (zset r24 184 (upd (r24 184) t v) 183 9 + 1))) 184 t = -1 by
            rw [zset_ne (by decide), zset_eq, pk_us]; exact c1)]
          exact xLo.fail ((GK4.set (by decide)).set (by decide)) GM4 c3
        · have c1 : w = 1 := c1
          have c2 : v = rm17 136 0 := c2
          have c3 : zI 0 30 v := c3
          have hD4 := hD3.tok fk4 fm4
          have qn4 : q25 186 t = q5 196 6 := by rw [fk4.2 186 rfl, fk3.2 186 rfl]; exact qn
          have qf4 : qm18 137 0 = qm7 107 0 := by rw [fm4.2 137 rfl, fm3.2 137 rfl]; exact qf
          rw [if_neg (show ¬ w = 0 by rw [c1]; decide), xcvrq (r := rm17), if_neg (show ¬ (1 : Int32) = 0 by decide), ← c2]
          rw [if_neg (show ¬ (zset (zset r24 184 (upd (r24 184) t v)) 183 (upd (zset r24 184 (upd (r24 184) t v) 183) 9 (zset r24 184 (upd (r24 184) t v) 183 9 + 1))) 184 t = -1 by
            rw [zset_ne (by decide), zset_eq, pk_us]; intro h9; rw [h9] at c3; exact absurd c3.1 (by decide))]
          obtain ⟨d1, d2, d3, d4⟩ := hD4
          obtain ⟨t1, t2, t3, t4, t5⟩ := d1
          refine xLo.close (b1 := b4) (e1 := e4') (t := t + 1) (p := p) (hT5.row rfl rfl rfl rfl rfl rfl rfl rfl rfl (zset_ne (by decide))) (by omega) ⟨⟨?_, ?_, by omega, fun i hi => ?_, fun i hi hi6 => ?_⟩, ?_, ?_, ?_⟩ ((GK4.set (by decide)).set (by decide)) ?_
          · show r24 183 9 + 1 = _
            rw [t1, nI_1]
          · show rm17 1 4 + 1 = _
            rw [t2, nI_1]
          · show upd (r24 184) t v i = upd (rm17 4) (6 + t) v (6 + i) ∧ (r24 185 i = upd (rm17 5) (6 + t) 0 (6 + i) ∧ ∃ m, m < 2 ^ (t + 1) ∧ r24 185 i = nI m) ∧ xN (q25 186 i) (vp_updL (qm18 2) (6 + t) (qm18 137 0) (6 + i))
            by_cases e : i = t
            · subst e
              rw [pk_us, pk_us, pk_us, show vp_updL (qm18 2) (6 + i) (qm18 137 0) (6 + i) = qm18 137 0 from if_pos rfl, qn4, qf4]
              exact ⟨rfl, ⟨t5 i (Nat.le_refl _) ht, 0, Nat.two_pow_pos _, (t5 i (Nat.le_refl _) ht).trans nI_0.symm⟩, hN⟩
            · rw [pk_un e, pk_un (by omega), pk_un (by omega), show vp_updL (qm18 2) (6 + t) (qm18 137 0) (6 + i) = qm18 2 (6 + i) from if_neg (by omega)]
              obtain ⟨k1, ⟨k2, m, hm, em⟩, k3⟩ := t4 i (by omega)
              exact ⟨k1, ⟨k2, m, Nat.lt_of_lt_of_le hm (Nat.pow_le_pow_right (by decide) (by omega)), em⟩, k3⟩
          · exact t5 i (by omega) hi6
          · exact xDp.mono (d2.fr rfl rfl rfl rfl rfl rfl rfl rfl rfl rfl rfl (zset_ne (by decide)))
          · exact d3.fr rfl rfl rfl rfl rfl rfl rfl
          · exact d4.fr rfl rfl rfl rfl rfl rfl rfl
          · exact (((GM4.cell (by decide) (by omega) (by omega) (by omega) (by omega)).cell (by decide) (by omega) (by omega) (by omega) (by omega)).cellq (Or.inl rfl) (by omega)).cell (by decide) (by omega) (by omega) (by omega) (by omega)
  · have h6 : t = 6 := by omega
    subst h6
    rw [if_neg (by decide), if_pos (by decide)]
    obtain ⟨r1, rm1, h1, h2, h3, h4, h5⟩ := h.fails 5
    rw [h1, h2]
    exact xLo.fail (xGk.refl.k ⟨h4, xFq.refl⟩) (xGm.refl.m ⟨h5.up rfl, xFq.refl⟩) h3
end XT
