section
/-! ===== a person ===== -/
section XBO
variable {L b e t p : Nat} {r : zRr} {q : zRq} {rm : zRr} {qm : zRq}
/-- a word, and a number behind it -/
theorem xboth (h : xTok L b e r q rm qm) {C : Int64} {i : Nat} {lo hi : Int32} (hi21 : i < 21) (hC : C = xe27 (eB.getD i [])) (hlo : 0 ≤ lo.toInt) :
    (∃ r1 q1 rm1 qm1, Gk_take (nI i) r q = (0, r1, q1) ∧ Gm_needsBoth C lo hi rm qm = (0, rm1, qm1) ∧ r1 196 7 = rm1 109 0 ∧ xFk r q r1 q1 ∧ xFm9 rm qm rm1 qm1) ∨
    (∃ r1 q1, Gk_take (nI i) r q = (1, r1, q1) ∧ xFk r q r1 q1 ∧
      ((∃ r2 q2 rm2 qm2, Gk_takeNumber lo hi r1 q1 = (-1, r2, q2) ∧ Gm_needsBoth C lo hi rm qm = (0, rm2, qm2) ∧ r2 196 7 = rm2 109 0 ∧ xFk r1 q1 r2 q2 ∧ xFm9 rm qm rm2 qm2) ∨
       (∃ v r2 q2 rm2 qm2 b' e', Gk_takeNumber lo hi r1 q1 = (v, r2, q2) ∧ zI lo.toInt hi.toInt v ∧ Gm_needsBoth C lo hi rm qm = (1, rm2, qm2) ∧ rm2 136 0 = v ∧ b < b' ∧ xTok L b' e' r2 q2 rm2 qm2 ∧ xFk r1 q1 r2 q2 ∧ xFm9 rm qm rm2 qm2))) := by
  unfold Gm_needsBoth
  simp only [zifQ]
  have k1 := xtakeW (C := C) h (i := i) hi21 hC
  generalize Gk_take (nI i) r q = o at k1 ⊢
  generalize Gm_needsWord C rm qm = om at k1 ⊢
  obtain ⟨v, r1, q1⟩ := o
  obtain ⟨w, rm1, qm1⟩ := om
  obtain ⟨fk1, fm1, k1⟩ := k1
  have fk1 : xFk r q r1 q1 := fk1
  have fm1 : xFm9 rm qm rm1 qm1 := fm1
  rw [xcvrq (r := rm1)]
  rcases k1 with ⟨a1, a2, a3⟩ | ⟨a1, a2, b3, e3, a3, hT4⟩
  · have a1 : v = 0 := a1
    have a2 : w = 0 := a2
    rw [a1, if_pos a2]
    exact Or.inl ⟨r1, q1, rm1, qm1, rfl, rfl, a3, fk1, fm1⟩
  · have a1 : v = 1 := a1
    have a2 : w = 1 := a2
    rw [a1, if_neg (show ¬ w = 0 by rw [a2]; decide)]
    refine Or.inr ⟨r1, q1, rfl, fk1, ?_⟩
    have k2 := xnum hT4 (lo := lo) (hi := hi) hlo
    have e1 : Gk_takeNumber lo hi ((v, r1, q1) : Int32 × zRr × zRq).2.1 ((v, r1, q1) : Int32 × zRr × zRq).2.2 = Gk_takeNumber lo hi r1 q1 := rfl
    have e2 : Gm_needsNumber lo hi ((w, rm1, qm1) : Int32 × zRr × zRq).2.1 ((w, rm1, qm1) : Int32 × zRr × zRq).2.2 = Gm_needsNumber lo hi rm1 qm1 := rfl
    rw [e1, e2] at k2
    generalize Gk_takeNumber lo hi r1 q1 = o at k2 ⊢
    generalize Gm_needsNumber lo hi rm1 qm1 = om at k2 ⊢
    obtain ⟨v2, r2, q2⟩ := o
    obtain ⟨w2, rm2, qm2⟩ := om
    obtain ⟨fk4, fm4, k2⟩ := k2
    have fk4 : xFk r1 q1 r2 q2 := fk4
    have fm4 : xFm9 rm1 qm1 rm2 qm2 := fm4
    rw [xcvrq (r := rm2)]
    rcases k2 with ⟨c1, c2, c3⟩ | ⟨c1, c2, c3, b4, e4', c4, hT5⟩
    · have c1 : v2 = -1 := c1
      have c2 : w2 = 0 := c2
      rw [c1, if_pos c2]
      exact Or.inl ⟨r2, q2, rm2, qm2, rfl, rfl, c3, fk4, fm1.tr fm4⟩
    · have c1 : w2 = 1 := c1
      rw [if_neg (show ¬ w2 = 0 by rw [c1]; decide)]
      exact Or.inr ⟨v2, r2, q2, rm2, qm2, b4, e4', rfl, c3, rfl, c2.symm, by omega, hT5, fk4, fm1.tr fm4⟩
theorem xkind (h : xTok L b e r q rm qm) {R : zRr} {nm : Int64} : ∃ kd : Int32, Gk_kindHere r q = kd ∧ (zif (Gm_isWord 8740238 rm qm = 0) (zif (Gm_isWord 279844694 rm qm = 0) (zif (Gm_isWord 33861013 rm qm = 0) (zif (Gm_isWord 151063 rm qm = 0) (Gm_readsPerson_102 R nm (-1) rm qm) (Gm_readsPerson_102 R nm 3 rm qm)) (Gm_readsPerson_102 R nm 2 rm qm)) (Gm_readsPerson_102 R nm 1 rm qm)) (Gm_readsPerson_102 R nm 0 rm qm)) = Gm_readsPerson_102 R nm kd rm qm ∧ (kd = -1 ∨ (0 ≤ kd ∧ ¬ kd = -1 ∧ ¬ r 196 4 = 31)) := by
  have w14 := h.word (C := 8740238) 14 (by decide) (by decide)
  have w15 := h.word (C := 279844694) 15 (by decide) (by decide)
  have w16 := h.word (C := 33861013) 16 (by decide) (by decide)
  have w17 := h.word (C := 151063) 17 (by decide) (by decide)
  have n14 : nI 14 = (14 : Int32) := rfl
  have n15 : nI 15 = (15 : Int32) := rfl
  have n16 : nI 16 = (16 : Int32) := rfl
  have n17 : nI 17 = (17 : Int32) := rfl
  rw [n14] at w14; rw [n15] at w15; rw [n16] at w16; rw [n17] at w17
  unfold Gk_kindHere
  simp only [zifQ, zifnQ, zletQ, w14, w15, w16, w17]
  by_cases c1 : r 196 4 = 14
  · exact ⟨0, if_pos c1, by rw [if_pos c1, if_neg (show ¬ (1 : Int32) = 0 by decide)], Or.inr ⟨by decide, by decide, by rw [c1]; decide⟩⟩
  · rw [if_neg c1, if_neg c1, if_pos rfl]
    by_cases c2 : r 196 4 = 15
    · exact ⟨1, if_pos c2, by rw [if_pos c2, if_neg (show ¬ (1 : Int32) = 0 by decide)], Or.inr ⟨by decide, by decide, by rw [c2]; decide⟩⟩
    · rw [if_neg c2, if_neg c2, if_pos rfl]
      by_cases c3 : r 196 4 = 16
      · exact ⟨2, if_pos c3, by rw [if_pos c3, if_neg (show ¬ (1 : Int32) = 0 by decide)], Or.inr ⟨by decide, by decide, by rw [c3]; decide⟩⟩
      · rw [if_neg c3, if_neg c3, if_pos rfl]
        by_cases c4 : r 196 4 = 17
        · exact ⟨3, if_pos c4, by rw [if_pos c4, if_neg (show ¬ (1 : Int32) = 0 by decide)], Or.inr ⟨by decide, by decide, by rw [c4]; decide⟩⟩
        · rw [if_neg c4, if_neg c4, if_pos rfl]
          exact ⟨-1, rfl, rfl, Or.inl rfl⟩
end XBO
end
section
/-! ===== a person's line ===== -/
noncomputable def xPL (r : zRr) (q : zRq) : Int32 × zRr × zRq := zc_vrq (Gk_readPerson r q) (fun v39 r40 q41 => zif (v39 = 0) (0, r40, q41) (zlet (r40 183 10 - 1) (fun v45 => zc_vrq (Gk_readGoods v45 r40 q41) (fun v47 r48 q49 => zif (v47 = 0) (0, r48, q49) (1, r48, q49)))))
section XPE
variable {L b e t p : Nat} {r : zRr} {q : zRq} {rm : zRr} {qm : zRq}
theorem xDp.nm (h : xDp t p r q rm qm) {j : Nat} {w : Int64} (hj : p ≤ j) : xDp t p r (zset q 191 (vp_updL (q 191) j w)) rm qm := by
  obtain ⟨h1, h2, h3, h4⟩ := h
  refine ⟨h1, h2, h3, fun i hi => ?_⟩
  obtain ⟨k1, k2, k3, k4, k5⟩ := h4 i hi
  refine ⟨k1, k2, k3, k4, ?_⟩
  rw [zset_eq, show vp_updL (q 191) j w i = q 191 i from if_neg (by omega)]
  exact k5
theorem xDp.kd (h : xDp t p r q rm qm) {v : Int32} : xDp t p (zset r 187 (upd (r 187) p v)) q (zset rm 6 (upd (rm 6) (6 + p) v)) qm := by
  obtain ⟨h1, h2, h3, h4⟩ := h
  refine ⟨h1, h2, h3, fun i hi => ?_⟩
  obtain ⟨k1, k2, k3, k4, k5⟩ := h4 i hi
  refine ⟨?_, k2, k3, k4, k5⟩
  show upd (r 187) p v i = upd (rm 6) (6 + p) v (6 + i)
  rw [pk_un (by omega), pk_un (show 6 + i ≠ 6 + p by omega)]; exact k1
theorem xlPerson (h : xTok L b e r q rm qm) (hD : xD t p r q rm qm) (hs : ¬ r 196 4 = 31) : xLo L b r q rm qm (xCL (xPL r q)) (Gm_readsPerson rm qm) := by
  have hD0 := hD
  have hlt := h.lt hs
  obtain ⟨hDt, hDp, hDn, hDl⟩ := hD
  have e9 : r 183 10 = nI p := hDp.1
  have e5 : rm 1 5 = nI p := hDp.2.1
  have hp6 : p ≤ 6 := hDp.2.2.1
  have ht6 : t ≤ 6 := hDt.2.2.1
  have e6 : (6 : Int32) + nI p = nI (6 + p) := nI_add 6 p
  unfold xPL Gk_readPerson Gm_readsPerson
  simp only [zifnQ, zletQ, xfr, xfm, xeta, e9, e5, e6, xzn (show 6 + p < 2 ^ 31 by omega), xzn (show p < 2 ^ 31 by omega)]
  by_cases hp : p < 6
  · have c1 : nI p < 6 := (nI_ltI (b := 6) (by omega) (by omega)).mpr hp
    have c2 : ¬ nI (6 + p) = 12 := fun h9 => by have := (nI_eq (b := 12) (by omega) (by omega)).mp h9; omega
    rw [zifQ, if_pos c1, if_neg c2]
    obtain ⟨b1, e1, r4, q5, rm6, qm7, s1, s2, hT1, hb1, fk1, fm1⟩ := h.next
    have hD1 := hD0.tok fk1 (xFm9.m fm1)
    have GK1 : xGk r q r4 q5 := xGk.refl.k fk1
    have GM1 : xGm rm qm rm6 qm7 := xGm.refl.m (xFm9.m fm1)
    rw [s1, s2, xcrq (r := r4), xcrq (r := rm6)]
    rcases xnew hT1 hD1 with ⟨r8, rm8, n1, n2, n3, n4, n5⟩ | ⟨n1, n2, n3⟩
    · rw [n1, n2, xcvr (r := r8), xcvrq (r := rm8), if_pos rfl, if_pos rfl, xcvrq (r := r8), zifQ, if_pos rfl]
      exact xLo.fail (GK1.k ⟨n4, xFq.refl⟩) (GM1.m ⟨n5.up rfl, xFq.refl⟩) n3
    · rw [n1, n2, xcvr (r := r4), if_neg (show ¬ (1 : Int32) = 0 by decide)]
      have hN := hT1.nm n3
      have hT2 : xTok L b1 e1 r4 (zset q5 191 (vp_updL (q5 191) p (q5 196 6))) rm6 (zset qm7 137 (fun _ => qm7 107 0)) := hT1.row rfl rfl (zset_ne (by decide)) rfl rfl rfl rfl rfl rfl (zset_ne (by decide))
      obtain ⟨b2, e2, r14, q15, rm10, qm11, s3, s4, hT3, hb2, fk2, fm2⟩ := hT2.next
      have hD2 : xD t p r14 q15 rm10 qm11 := by
        refine xD.tok (r := r4) (q := zset q5 191 (vp_updL (q5 191) p (q5 196 6))) (rm := rm6) (qm := zset qm7 137 (fun _ => qm7 107 0)) ?_ fk2 (xFm9.m fm2)
        obtain ⟨d1, d2, d3, d4⟩ := hD1
        exact ⟨d1.fr rfl rfl rfl (zset_ne (by decide)) rfl rfl rfl (zset_ne (by decide)), (d2.nm (Nat.le_refl p)).fr rfl rfl rfl rfl rfl rfl rfl rfl rfl rfl rfl (zset_ne (by decide)), d3, d4⟩
      have GK2 : xGk r q r14 q15 := (GK1.setq (k := 191) (by decide)).k fk2
      have GM2 : xGm rm qm rm10 qm11 := (GM1.fldq).m (xFm9.m fm2)
      have qn : q15 191 p = q5 196 6 := by rw [fk2.2 191 rfl, zset_eq]; exact if_pos rfl
      have qf : qm11 137 0 = qm7 107 0 := by rw [fm2.2 137 rfl, zset_eq]
      rw [s3, s4, xcrq (r := r14), xcrq (r := rm10), xcvrq (r := rm10), if_neg (show ¬ (1 : Int32) = 0 by decide), qf]
      obtain ⟨kd, k1, k2, k3⟩ := xkind hT3 (R := rm) (nm := qm7 107 0)
      rw [k1, k2]
      unfold Gm_readsPerson_102
      simp only [zletQ, zifnQ, xfm, xeta, e5, e6, xzn (show 6 + p < 2 ^ 31 by omega), zset_eq, pk_us]
      rw [zifQ]
      have GK3 : xGk r q (zset r14 187 (upd (r14 187) p kd)) q15 := GK2.set (by decide)
      have GM3 : xGm rm qm (zset rm10 6 (upd (rm10 6) (6 + p) kd)) qm11 := GM2.cell (by decide) (by omega) (by omega) (by omega) (by omega)
      have hT4 := hT3.row (r1 := zset r14 187 (upd (r14 187) p kd)) (q1 := q15) (rm1 := zset rm10 6 (upd (rm10 6) (6 + p) kd)) (qm1 := qm11) rfl rfl rfl rfl rfl rfl rfl rfl rfl rfl
      have hD3 : xD t p (zset r14 187 (upd (r14 187) p kd)) q15 (zset rm10 6 (upd (rm10 6) (6 + p) kd)) qm11 := by
        obtain ⟨d1, d2, d3, d4⟩ := hD2
        exact ⟨d1.fr rfl rfl rfl rfl rfl rfl rfl rfl, d2.kd, d3.fr rfl rfl rfl rfl rfl rfl rfl, d4.fr rfl rfl rfl rfl rfl rfl rfl⟩
      have v187 : (zset r14 187 (upd (r14 187) p kd)) 187 p = kd := by rw [zset_eq, pk_us]
      have v6 : (zset rm10 6 (upd (rm10 6) (6 + p) kd)) 6 (6 + p) = kd := by rw [zset_eq, pk_us]
      have hs3 : kd = -1 ∨ (0 ≤ kd ∧ ¬ kd = -1 ∧ ¬ (zset r14 187 (upd (r14 187) p kd)) 196 4 = 31) := k3
      generalize zset r14 187 (upd (r14 187) p kd) = r18 at GK3 hT4 hD3 v187 hs3 ⊢
      generalize zset rm10 6 (upd (rm10 6) (6 + p) kd) = rk at GM3 hT4 hD3 v6 ⊢
      rcases hs3 with hk | ⟨hk1, hk2, hk3⟩
      · obtain ⟨r1, rm1, h1, h2, h3, h4, h5⟩ := hT4.fails 1
        rw [if_pos hk, if_neg (show ¬ 0 ≤ kd by rw [hk]; decide), h1, h2, xcvrq (r := r1), zifQ, if_pos rfl]
        exact xLo.fail (GK3.k ⟨h4, xFq.refl⟩) (GM3.m ⟨h5.up rfl, xFq.refl⟩) h3
      · rw [if_neg hk2, if_pos hk1]
        have hlt4 := hT4.lt hk3
        obtain ⟨b3, e3, r22, q23, rm11, qm12, s5, s6, hT5, hb3, fk3, fm3⟩ := hT4.next
        have hD4 := hD3.tok fk3 (xFm9.m fm3)
        have GK4 := GK3.k fk3
        have GM4 := GM3.m (xFm9.m fm3)
        rw [s5, s6, xcrq (r := r22), xcrq (r := rm11)]
        have ka := xtakeW (C := 47) hT5 (i := 4) (by decide) (by decide)
        rw [show nI 4 = (4 : Int32) from rfl] at ka
        generalize Gk_take 4 r22 q23 = o at ka ⊢
        generalize Gm_needsWord 47 rm11 qm12 = om at ka ⊢
        obtain ⟨v, r26, q27⟩ := o
        obtain ⟨w, rm12, qm13⟩ := om
        obtain ⟨fk4, fm4, ka⟩ := ka
        have fk4 : xFk r22 q23 r26 q27 := fk4
        have fm4 : xFm9 rm11 qm12 rm12 qm13 := fm4
        have GK5 := GK4.k fk4
        have GM5 := GM4.m fm4
        rw [xcvrq (r := r26), xcvrq (r := rm12)]
        rcases ka with ⟨a1, a2, a3⟩ | ⟨a1, a2, b4, e4, a3, hT6⟩
        · have a1 : v = 0 := a1
          have a2 : w = 0 := a2
          rw [if_pos a1, zifQ, if_pos a2, xcvrq (r := r26), zifQ, if_pos rfl]
          exact xLo.fail GK5 GM5 a3
        · have a1 : v = 1 := a1
          have a2 : w = 1 := a2
          have hT6 : xTok L b4 e4 r26 q27 rm12 qm13 := hT6
          have hD5 := hD4.tok fk4 fm4
          rw [if_neg (show ¬ v = 0 by rw [a1]; decide), zifQ, if_neg (show ¬ w = 0 by rw [a2]; decide)]
          rcases xhere hT6 hD5 with ⟨r9, rm9, m1, m2, m3, m4, m5⟩ | ⟨j, hj, m1, m2, m3⟩
          · rw [m1, m2, xcvr (r := r9), xcvr (r := rm9), if_pos rfl, if_pos rfl, xcvrq (r := zset r9 188 (upd (r9 188) p (-1))), zifQ, if_pos rfl]
            exact xLo.fail ((GK5.k ⟨m4, xFq.refl⟩).set (by decide)) (GM5.m ⟨m5.up rfl, xFq.refl⟩) m3
          · have nj := (xnn (j := j) (by omega)).2.2
            rw [m1, m2, xcvr (r := r26), xcvr (r := zset rm12 136 (fun _ => nI j)), if_neg nj, if_neg (show ¬ (1 : Int32) = 0 by decide)]
            have g1 : (zset rm12 136 (fun _ => nI j)) 136 0 = nI j := rfl
            rw [g1]
            have hlt6 : b4 < e4 := hT6.lt (by rw [m3]; decide)
            have GK6 : xGk r q (zset r26 188 (upd (r26 188) p (nI j))) q27 := GK5.set (by decide)
            have GM6 : xGm rm qm (zset (zset rm12 136 (fun _ => nI j)) 7 (upd (zset rm12 136 (fun _ => nI j) 7) (6 + p) (nI j))) qm13 := (GM5.fld (by decide) (by decide)).cell (by decide) (by omega) (by omega) (by omega) (by omega)
            have hT7 := hT6.row (r1 := zset r26 188 (upd (r26 188) p (nI j))) (q1 := q27) (rm1 := zset (zset rm12 136 (fun _ => nI j)) 7 (upd (zset rm12 136 (fun _ => nI j) 7) (6 + p) (nI j))) (qm1 := qm13) rfl rfl rfl rfl rfl rfl rfl rfl rfl rfl
            have FK6 : zFr [188] r26 (zset r26 188 (upd (r26 188) p (nI j))) := zFr.refl.set rfl
            have FM6 : zFr [7, 136] rm12 (zset (zset rm12 136 (fun _ => nI j)) 7 (upd (zset rm12 136 (fun _ => nI j) 7) (6 + p) (nI j))) := (zFr.refl.set rfl).set rfl
            have x188 : (zset r26 188 (upd (r26 188) p (nI j))) 188 = upd (r26 188) p (nI j) := zset_eq
            have x7 : (zset (zset rm12 136 (fun _ => nI j)) 7 (upd (zset rm12 136 (fun _ => nI j) 7) (6 + p) (nI j))) 7 = upd (rm12 7) (6 + p) (nI j) := by rw [zset_eq, zset_ne (by decide)]
            generalize zset r26 188 (upd (r26 188) p (nI j)) = r33 at GK6 hT7 FK6 x188 ⊢
            generalize zset (zset rm12 136 (fun _ => nI j)) 7 (upd (zset rm12 136 (fun _ => nI j) 7) (6 + p) (nI j)) = rm20 at GM6 hT7 FM6 x7 ⊢
            obtain ⟨b5, e5', r38, q39, rm22, qm23, s7, s8, hT8, hb5, fk5, fm5⟩ := hT7.next
            have k10 : r38 183 10 = nI p := by rw [fk5.1 183 rfl, FK6 183 rfl]; exact hD5.2.1.1
            rw [s7, s8, xcrq (r := r38), xcrq (r := rm22), k10, nI_1, xcvrq (r := zset r38 183 (upd (r38 183) 10 (nI (p + 1)))), zifQ, if_neg (show ¬ (1 : Int32) = 0 by decide), show (zset r38 183 (upd (r38 183) 10 (nI (p + 1)))) 183 10 = nI (p + 1) by rw [zset_eq, pk_us], nI_pred]
            have GK7 : xGk r q (zset r38 183 (upd (r38 183) 10 (nI (p + 1)))) q39 := (GK6.k fk5).set (by decide)
            have GM7 := GM6.m (xFm9.m fm5)
            have hT9 := hT8.row (r1 := zset r38 183 (upd (r38 183) 10 (nI (p + 1)))) (q1 := q39) (rm1 := rm22) (qm1 := qm23) rfl rfl rfl rfl rfl rfl rfl rfl rfl rfl
            have FK7 : zFr [183, 188, 196] r26 (zset r38 183 (upd (r38 183) 10 (nI (p + 1)))) := ((FK6.up rfl).tr fk5.1 rfl).set rfl
            have y188 : (zset r38 183 (upd (r38 183) 10 (nI (p + 1)))) 188 = upd (r26 188) p (nI j) := by rw [zset_ne (by decide), fk5.1 188 rfl]; exact x188
            have y183 : (zset r38 183 (upd (r38 183) 10 (nI (p + 1)))) 183 = upd (r26 183) 10 (nI (p + 1)) := by rw [zset_eq, fk5.1 183 rfl, FK6 183 rfl]
            have FM7 : zFr [7, 104, 105, 106, 108, 109, 136] rm12 rm22 := (FM6.up rfl).tr fm5.1 rfl
            have y7 : rm22 7 = upd (rm12 7) (6 + p) (nI j) := (fm5.1 7 rfl).trans x7
            have QK7 : xFq [196] q27 q39 := fk5.2
            have QM7 : xFq [107] qm13 qm23 := fm5.2
            generalize zset r38 183 (upd (r38 183) 10 (nI (p + 1))) = r41 at GK7 hT9 FK7 y188 y183 ⊢
            unfold Gk_readGoods
            simp only [zletQ, zifnQ, xzn (show p < 2 ^ 31 by omega), zset_eq, pk_us]
            rcases xboth hT9 (C := 1162516) (i := 5) (lo := 0) (hi := 30) (by decide) (by decide) (by decide) with ⟨ra, qa, ma, qma, u1, u2, u3, u4, u5⟩ | ⟨ra, qa, u1, u2, u3⟩
            · rw [show nI 5 = (5 : Int32) from rfl] at u1
              rw [u1, u2, xcvrq (r := ra), xcvrq (r := ma), if_pos rfl, if_pos rfl, xcvrq (r := ra), zifQ, if_pos rfl]
              exact xLo.fail (GK7.k u4) (GM7.m u5) u3
            · rw [show nI 5 = (5 : Int32) from rfl] at u1
              rw [u1, xcvrq (r := ra), if_neg (show ¬ (1 : Int32) = 0 by decide)]
              rcases u3 with ⟨r2, q2, m2', qm2, w1, w2, w3, w4, w5⟩ | ⟨vb, r2, q2, m2', qm2, b6, e6', w1, wz, w2, w3, wb, hTa, w4, w5⟩
              · rw [w1, w2, xcvrq (r := r2), xcvrq (r := m2'), if_pos rfl, zifQ, if_pos rfl, xcvrq (r := zset r2 189 (upd (r2 189) p (-1))), zifQ, if_pos rfl]
                exact xLo.fail (((GK7.k u2).k w4).set (by decide)) (GM7.m w5) w3
              · have nv : ¬ vb = -1 := fun h9 => by rw [h9] at wz; exact absurd wz.1 (by decide)
                rw [w1, w2, xcvrq (r := r2), xcvrq (r := m2'), if_neg (show ¬ (1 : Int32) = 0 by decide), zifQ, if_neg nv, w3]
                have GK8 : xGk r q (zset r2 189 (upd (r2 189) p vb)) q2 := ((GK7.k u2).k w4).set (by decide)
                have GM8 : xGm rm qm (zset m2' 8 (upd (m2' 8) (6 + p) vb)) qm2 := (GM7.m w5).cell (by decide) (by omega) (by omega) (by omega) (by omega)
                have hTb := hTa.row (r1 := zset r2 189 (upd (r2 189) p vb)) (q1 := q2) (rm1 := zset m2' 8 (upd (m2' 8) (6 + p) vb)) (qm1 := qm2) rfl rfl rfl rfl rfl rfl rfl rfl rfl rfl
                have FK8 : zFr [183, 188, 189, 196] r26 (zset r2 189 (upd (r2 189) p vb)) := (((FK7.up rfl).tr u2.1 rfl).tr w4.1 rfl).set rfl
                have z188 : (zset r2 189 (upd (r2 189) p vb)) 188 = upd (r26 188) p (nI j) := by rw [zset_ne (by decide), w4.1 188 rfl, u2.1 188 rfl]; exact y188
                have z183 : (zset r2 189 (upd (r2 189) p vb)) 183 = upd (r26 183) 10 (nI (p + 1)) := by rw [zset_ne (by decide), w4.1 183 rfl, u2.1 183 rfl]; exact y183
                have z189 : (zset r2 189 (upd (r2 189) p vb)) 189 = upd (r26 189) p vb := by rw [zset_eq, w4.1 189 rfl, u2.1 189 rfl, FK7 189 rfl]
                have FM8 : zFr [7, 8, 104, 105, 106, 108, 109, 136] rm12 (zset m2' 8 (upd (m2' 8) (6 + p) vb)) := ((FM7.up rfl).tr w5.1 rfl).set rfl
                have z7 : (zset m2' 8 (upd (m2' 8) (6 + p) vb)) 7 = upd (rm12 7) (6 + p) (nI j) := by rw [zset_ne (by decide), w5.1 7 rfl]; exact y7
                have z8 : (zset m2' 8 (upd (m2' 8) (6 + p) vb)) 8 = upd (rm12 8) (6 + p) vb := by rw [zset_eq, w5.1 8 rfl, FM7 8 rfl]
                have QK8 : xFq [196] q27 q2 := (QK7.tr u2.2 rfl).tr w4.2 rfl
                have QM8 : xFq [107] qm13 qm2 := QM7.tr w5.2 rfl
                generalize zset r2 189 (upd (r2 189) p vb) = r11 at GK8 hTb FK8 z188 z183 z189 ⊢
                generalize zset m2' 8 (upd (m2' 8) (6 + p) vb) = rm30 at GM8 hTb FM8 z7 z8 ⊢
                rcases xboth hTb (C := 8930039) (i := 6) (lo := 0) (hi := 99) (by decide) (by decide) (by decide) with ⟨rc, qc, mc, qmc, u1, u2', u3, u4, u5⟩ | ⟨rc, qc, u1, u2', u3⟩
                · rw [show nI 6 = (6 : Int32) from rfl] at u1
                  rw [u1, u2', xcvrq (r := rc), xcvrq (r := mc), if_pos rfl, if_pos rfl, xcvrq (r := rc), zifQ, if_pos rfl]
                  exact xLo.fail (GK8.k u4) (GM8.m u5) u3
                · rw [show nI 6 = (6 : Int32) from rfl] at u1
                  rw [u1, xcvrq (r := rc), if_neg (show ¬ (1 : Int32) = 0 by decide)]
                  rcases u3 with ⟨r3, q3, m3', qm3, w1, w2, w3, w4', w5'⟩ | ⟨vp, r3, q3, m3', qm3, b7, e7', w1, wz2, w2, w3, wb2, hTc, w4', w5'⟩
                  · rw [w1, w2, xcvrq (r := r3), xcvrq (r := m3'), if_pos rfl, zifQ, if_pos rfl, xcvrq (r := zset r3 190 (upd (r3 190) p (-1))), zifQ, if_pos rfl]
                    exact xLo.fail (((GK8.k u2').k w4').set (by decide)) (GM8.m w5') w3
                  · have nv2 : ¬ vp = -1 := fun h9 => by rw [h9] at wz2; exact absurd wz2.1 (by decide)
                    rw [w1, w2, xcvrq (r := r3), xcvrq (r := m3'), if_neg (show ¬ (1 : Int32) = 0 by decide), zifQ, if_neg nv2, w3, xcvrq (r := zset r3 190 (upd (r3 190) p vp)), zifQ, if_neg (show ¬ (1 : Int32) = 0 by decide)]
                    have KA : ∀ a, [183, 188, 189, 190, 196].contains a = false → (zset r3 190 (upd (r3 190) p vp)) a = r26 a := (((FK8.up (M := [183, 188, 189, 190, 196]) rfl).tr u2'.1 rfl).tr w4'.1 rfl).set rfl
                    have a183 : r3 183 = upd (r26 183) 10 (nI (p + 1)) := by rw [w4'.1 183 rfl, u2'.1 183 rfl]; exact z183
                    have a188 : r3 188 = upd (r26 188) p (nI j) := by rw [w4'.1 188 rfl, u2'.1 188 rfl]; exact z188
                    have a189 : r3 189 = upd (r26 189) p vb := by rw [w4'.1 189 rfl, u2'.1 189 rfl]; exact z189
                    have a190 : r3 190 = r26 190 := by rw [w4'.1 190 rfl, u2'.1 190 rfl, FK8 190 rfl]
                    have MA : ∀ a, [7, 8, 104, 105, 106, 108, 109, 136].contains a = false → m3' a = rm12 a := (FM8.up (M := [7, 8, 104, 105, 106, 108, 109, 136]) rfl).tr w5'.1 rfl
                    have b7' : m3' 7 = upd (rm12 7) (6 + p) (nI j) := by rw [w5'.1 7 rfl]; exact z7
                    have b8' : m3' 8 = upd (rm12 8) (6 + p) vb := by rw [w5'.1 8 rfl]; exact z8
                    have QA : xFq [196] q27 q3 := (QK8.tr u2'.2 rfl).tr w4'.2 rfl
                    have QB : xFq [107] qm13 qm3 := QM8.tr w5'.2 rfl
                    obtain ⟨d1, d2, d3, d4⟩ := hD5
                    obtain ⟨p1, p2, p3, p4⟩ := d2
                    have k187 : r26 187 p = kd := by rw [fk4.1 187 rfl, fk3.1 187 rfl]; exact v187
                    have m6 : rm12 6 (6 + p) = kd := by rw [fm4.1 6 rfl, fm3.1 6 rfl]; exact v6
                    have qnm : q27 191 p = q5 196 6 := by rw [fk4.2 191 rfl, fk3.2 191 rfl]; exact qn
                    have bs : b < b7 := by omega
                    refine xLo.close (b1 := b7) (e1 := e7') (t := t) (p := p + 1) (hTc.row rfl rfl rfl rfl rfl rfl rfl rfl rfl (zset_ne (by decide))) bs ⟨?_, ⟨?_, ?_, by omega, fun i hi => ?_⟩, ?_, ?_⟩ (((GK8.k u2').k w4').set (by decide)) ?_
                    · refine d1.fr ?_ (KA 184 rfl) (KA 185 rfl) (QA 186 rfl) ?_ (MA 4 rfl) (MA 5 rfl) ?_
                      · show r3 183 9 = _; rw [a183, pk_un (by decide)]
                      · show m3' 1 4 = _; rw [MA 1 rfl]
                      · rw [zset_ne (by decide)]; exact QB 2 rfl
                    · show r3 183 10 = _; rw [a183, pk_us]
                    · show m3' 1 5 + 1 = _; rw [MA 1 rfl, p2, nI_1]
                    · rw [KA 187 rfl, show (zset r3 190 (upd (r3 190) p vp)) 188 = r3 188 from rfl, show (zset r3 190 (upd (r3 190) p vp)) 189 = r3 189 from rfl, show (zset r3 190 (upd (r3 190) p vp)) 190 = upd (r3 190) p vp from rfl, a188, a189, a190, QA 191 rfl]
                      show r26 187 i = m3' 6 (6 + i) ∧ (upd (r26 188) p (nI j) i = m3' 7 (6 + i) ∧ ∃ a, a < t ∧ upd (r26 188) p (nI j) i = nI a) ∧ upd (r26 189) p vb i = m3' 8 (6 + i) ∧ upd (r26 190) p vp i = upd (m3' 9) (6 + p) vp (6 + i) ∧ xN (q27 191 i) (vp_updL (qm3 3) (6 + p) (qm7 107 0) (6 + i))
                      rw [MA 6 rfl, b7', b8', MA 9 rfl, QB 3 rfl]
                      by_cases e : i = p
                      · subst e
                        rw [pk_us, pk_us, pk_us, pk_us, pk_us, pk_us, k187, m6, qnm, show vp_updL (qm13 3) (6 + i) (qm7 107 0) (6 + i) = qm7 107 0 from if_pos rfl]
                        exact ⟨rfl, ⟨rfl, j, hj, rfl⟩, rfl, rfl, hN⟩
                      · have ne6 : 6 + i ≠ 6 + p := by omega
                        rw [pk_un e, pk_un e, pk_un e, pk_un ne6, pk_un ne6, pk_un ne6, show vp_updL (qm13 3) (6 + p) (qm7 107 0) (6 + i) = qm13 3 (6 + i) from if_neg ne6]
                        exact p4 i (by omega)
                    · refine d3.fr ?_ ?_ ?_ ?_ ?_ ?_ (MA 123 rfl)
                      · show r3 183 11 = _; rw [a183, pk_un (by decide)]
                      · show r3 183 12 = _; rw [a183, pk_un (by decide)]
                      · rw [KA 198 rfl]
                      · rw [KA 198 rfl]
                      · show m3' 1 6 = _; rw [MA 1 rfl]
                      · show m3' 1 7 = _; rw [MA 1 rfl]
                    · exact d4.fr (by rw [KA 198 rfl]) (KA 192 rfl) (KA 193 rfl) (MA 10 rfl) (MA 11 rfl) (MA 12 rfl) (MA 122 rfl)
                    · exact (((GM8.m w5').cell (by decide) (by omega) (by omega) (by omega) (by omega)).cellq (Or.inr rfl) (by omega)).cell (by decide) (by omega) (by omega) (by omega) (by omega)
  · have h6 : p = 6 := by omega
    subst h6
    rw [zifQ, if_neg (by decide), if_pos (by decide)]
    obtain ⟨r1, rm1, h1, h2, h3, h4, h5⟩ := h.fails 5
    rw [h1, h2, xcvrq (r := r1), zifQ, if_pos rfl]
    exact xLo.fail (xGk.refl.k ⟨h4, xFq.refl⟩) (xGm.refl.m ⟨h5.up rfl, xFq.refl⟩) h3
end XPE
end
section
/-! ===== all lines of a LAND ===== -/
section XAL
variable {L b e t p : Nat} {r : zRr} {q : zRq} {rm : zRr} {qm : zRq}
/-- a line, whichever it is -/
theorem xline (h : xTok L b e r q rm qm) (hD : xD t p r q rm qm) (hs : ¬ r 196 4 = 31) : ∃ om, xLo L b r q rm qm (xCL (Gk_readLineL r q)) om ∧ ∀ ih, Bm_readsAll_64 ih rm qm = zc_vrq om (fun v r q => zifn (v = 0) (ih r q) (0, r, q)) := by
  have hne : ¬ rm 106 0 = 0 := fun h9 => hs (h.end_.mp h9)
  have w0 := h.word (C := 405230) 0 (by decide) (by decide)
  have w2 := h.word (C := 365260) 2 (by decide) (by decide)
  have w3 := h.word (C := 232608281) 3 (by decide) (by decide)
  have w7 := h.word (C := 4085956) 7 (by decide) (by decide)
  have w8 := h.word (C := 187442) 8 (by decide) (by decide)
  have w9 := h.word (C := 9665209) 9 (by decide) (by decide)
  rw [show nI 0 = (0 : Int32) from rfl] at w0
  rw [show nI 2 = (2 : Int32) from rfl] at w2
  rw [show nI 3 = (3 : Int32) from rfl] at w3
  rw [show nI 7 = (7 : Int32) from rfl] at w7
  rw [show nI 8 = (8 : Int32) from rfl] at w8
  rw [show nI 9 = (9 : Int32) from rfl] at w9
  unfold Gk_readLineL Bm_readsAll_64
  simp only [zifQ, zifnQ, zletQ, xfr, xeta, w0, w2, w3, w7, w8, w9, if_neg hne]
  by_cases c0 : r 196 4 = 0
  · simp only [if_pos c0, x10, if_false]
    exact ⟨_, xlTown h hD hs, fun ih => rfl⟩
  · simp only [if_neg c0, if_true]
    by_cases c2 : r 196 4 = 2
    · simp only [if_pos c2, x10, if_false]
      exact ⟨_, xlRoad h hD hs, fun ih => rfl⟩
    · simp only [if_neg c2, if_true]
      by_cases c3 : r 196 4 = 3
      · simp only [if_pos c3, x10, if_false]
        refine ⟨_, ?_, fun ih => rfl⟩
        have k := xlPerson h hD hs
        unfold xPL at k
        simp only [zifQ, zletQ] at k
        exact k
      · simp only [if_neg c3, if_true]
        by_cases c7 : r 196 4 = 7
        · simp only [if_pos c7, x10, if_false]
          exact ⟨_, xlGrows h hD hs, fun ih => rfl⟩
        · simp only [if_neg c7, if_true]
          by_cases c8 : r 196 4 = 8
          · simp only [if_pos c8, x10, if_false]
            exact ⟨_, xlInch h hD hs, fun ih => rfl⟩
          · simp only [if_neg c8, if_true]
            by_cases c9 : r 196 4 = 9
            · simp only [if_pos c9, x10, if_false]
              refine ⟨_, ?_, fun ih => rfl⟩
              have k := xlReads h hD hs
              unfold xRL at k
              simp only [zifQ] at k
              exact k
            · simp only [if_neg c9, if_true]
              obtain ⟨r1, rm1, h1, h2, h3, h4, h5⟩ := h.fails 1
              rw [h1, h2]
              exact ⟨(0, rm1, qm), xLo.fail (xGk.refl.k ⟨h4, xFq.refl⟩) (xGm.refl.m ⟨h5.up rfl, xFq.refl⟩) h3, fun ih => by rw [xcvr (r := rm1), xcvrq (r := rm1), if_pos rfl, if_pos rfl]⟩
end XAL
noncomputable def xAll (r : zRr) (q : zRq) (rm : zRr) (qm : zRq) (o om : Int32 × zRr × zRq) : Prop :=
  xGk r q o.2.1 o.2.2 ∧ xGm rm qm om.2.1 om.2.2 ∧ ((o.1 = 0 ∧ om.1 = 0 ∧ o.2.1 196 7 = om.2.1 109 0) ∨ (o.1 = 1 ∧ om.1 = 1 ∧ ∃ t p, xD t p o.2.1 o.2.2 om.2.1 om.2.2))
theorem xlines : ∀ (m i L b e n t p : Nat) (r : zRr) (q : zRq) (rm : zRr) (qm : zRq), xTok L b e r q rm qm → xD t p r q rm qm → m + i = 1001 → i ≤ b → 1001 < n + b → xAll r q rm qm (Gk_readL_25 m (nI i) r q) (Gm_readsAll_64 n rm qm) := by
  intro m
  induction m with
  | zero =>
    intro i L b e n t p r q rm qm hT hD hm hi hn
    have := hT.P.hp; have := hT.P.hL; have := hT.hb
    omega
  | succ m ih =>
    intro i L b e n t p r q rm qm hT hD hm hi hn
    have hp := hT.P.hp; have hL := hT.P.hL; have hb := hT.hb
    obtain ⟨n0, rfl⟩ : ∃ n0, n = n0 + 1 := ⟨n - 1, by omega⟩
    have e0 : Gk_readL_25 (m + 1) (nI i) r q = Bk_readL_25 (Gk_readL_25 m) (nI i) r q := rfl
    have e1 : Gm_readsAll_64 (n0 + 1) rm qm = Bm_readsAll_64 (Gm_readsAll_64 n0) rm qm := rfl
    rw [e0, e1]
    by_cases h31 : r 196 4 = 31
    · have ek : Bk_readL_25 (Gk_readL_25 m) (nI i) r q = (1, r, q) := by
        unfold Bk_readL_25
        simp only [zifQ, zletQ, if_pos h31, ite_self]
      have em : Bm_readsAll_64 (Gm_readsAll_64 n0) rm qm = (1, rm, qm) := by
        unfold Bm_readsAll_64
        rw [zifQ, if_pos (hT.end_.mpr h31)]
      rw [ek, em]
      exact ⟨xGk.refl, xGm.refl, Or.inr ⟨rfl, rfl, t, p, hD⟩⟩
    · have hlt := hT.lt h31
      have hi1 : i < 1000 := by omega
      obtain ⟨om, hLo, hom⟩ := xline hT hD h31
      rw [hom]
      have ek : Bk_readL_25 (Gk_readL_25 m) (nI i) r q = zc_vrq (xCL (Gk_readLineL r q)) (fun v r q => zifn (v = 0) (Gk_readL_25 m (nI i + 1) r q) (0, r, q)) := by
        unfold Bk_readL_25 xCL
        simp only [zifQ, zifnQ, zletQ, if_neg (x1000n hi1), if_neg h31]
        generalize Gk_readLineL r q = o
        obtain ⟨v, r8, q9⟩ := o
        rw [xcvrq (r := r8), xcvrq (r := r8)]
        by_cases hv : v = 0
        · rw [if_pos hv, if_pos hv, xcvrq (r := r8), if_pos rfl]
        · rw [if_neg hv, if_neg hv]
          generalize Gk_take 28 r8 q9 = o2
          obtain ⟨v2, r15, q16⟩ := o2
          rw [xcvrq (r := r15), xcvrq (r := r15)]
          by_cases hv2 : v2 = 0
          · rw [if_pos hv2, if_pos hv2, xcvrq (r := r15), if_pos rfl]
          · rw [if_neg hv2, if_neg hv2, xcvrq (r := r15), if_neg (show ¬ (1 : Int32) = 0 by decide)]
      rw [ek, nI_1]
      generalize xCL (Gk_readLineL r q) = o at hLo ⊢
      obtain ⟨v, r8, q9⟩ := o
      obtain ⟨w, rm8, qm9⟩ := om
      obtain ⟨gk, gm, hLo⟩ := hLo
      have gk : xGk r q r8 q9 := gk
      have gm : xGm rm qm rm8 qm9 := gm
      rw [xcvrq (r := r8), xcvrq (r := rm8), zifnQ, zifnQ]
      rcases hLo with ⟨a1, a2, a3⟩ | ⟨a1, a2, b', e', t', p', a3, a4, a5⟩
      · have a1 : v = 0 := a1
        have a2 : w = 0 := a2
        rw [if_pos a1, if_pos a2]
        exact ⟨gk, gm, Or.inl ⟨rfl, rfl, a3⟩⟩
      · have a1 : v = 1 := a1
        have a2 : w = 1 := a2
        rw [if_neg (show ¬ v = 0 by rw [a1]; decide), if_neg (show ¬ w = 0 by rw [a2]; decide)]
        obtain ⟨k1, k2, k3⟩ := ih (i + 1) L b' e' n0 t' p' r8 q9 rm8 qm9 a4 a5 (by omega) (by omega) (by omega)
        exact ⟨gk.tr k1, gm.tr k2, k3⟩
/-- the tapes are alike -/
noncomputable def xTp (L : Nat) (r rm : zRr) : Prop := r 196 1 = nI L ∧ rm 101 0 = nI L ∧ L ≤ 1000 ∧ ∀ i, i < L → r 197 i = rm 0 i
theorem xuntold {r rm : zRr} {q : zRq} (h : xsg (rm 12) 1000 0 = []) (h122 : rm 122 0 = nI 1000) : xCod [-1, -3, -8, -5] [] (Gk_untold r q) rm ∧ zFr [192, 193] r (Gk_untold r q) := by
  unfold Gk_untold
  simp only [zletQ]
  have c0 : xCod [] [] (zset r 192 (upd (r 192) 2 0)) rm := ⟨by show upd (r 192) 2 0 2 = _; rw [pk_us]; rfl, rfl, h122, rfl⟩
  have f0 : zFr [192, 193] r (zset r 192 (upd (r 192) 2 0)) := zFr.refl.set rfl
  generalize zset r 192 (upd (r 192) 2 0) = ra at c0 f0 ⊢
  obtain ⟨c1, f1⟩ := xadd (a := -1) (q := q) c0 (by decide)
  generalize Gk_add (-1) ra q = rb at c1 f1 ⊢
  obtain ⟨c2, f2⟩ := xadd (a := -3) (q := q) c1 (by decide)
  generalize Gk_add (-3) rb q = rc at c2 f2 ⊢
  obtain ⟨c3, f3⟩ := xadd (a := -8) (q := q) c2 (by decide)
  generalize Gk_add (-8) rc q = rd at c3 f3 ⊢
  obtain ⟨c4, f4⟩ := xadd (a := -5) (q := q) c3 (by decide)
  exact ⟨c4, (((f0.tr f1 rfl).tr f2 rfl).tr f3 rfl).tr f4 rfl⟩
noncomputable def xs (r : zRr) (k j : Nat) (v : Int32) : zRr := zset r k (upd (r k) j v)
/-- the class before its first token, the reference before its -/
noncomputable def xRa (u : zRr) : zRr := xs (xs (xs (xs (xs u 198 0 0) 198 1 0) 198 2 0) 196 3 0) 196 7 0
noncomputable def xMa (rm : zRr) : zRr := zset (zset (xs (xs (xs (xs (xs (xs rm 1 4 0) 1 5 0) 1 6 1) 1 7 2) 10 1 1000) 11 1 1000) 123 (fun _ => 0)) 122 (fun _ => 1000)
noncomputable def xMb (rm : zRr) : zRr := zset (zset (zset (xMa rm) 103 (fun _ => xMa rm 101 0)) 101 (fun _ => 0)) 104 (fun _ => 0)
theorem xreadL {r : zRr} {q : zRq} : Gk_readL r q = zc_rq (Gk_step (xRa (Gk_clear r q)) q) (fun a b => Gk_readL_25 1001 0 a b) := by
  unfold Gk_readL Gk_begin xRa
  simp only [zletQ, zc_rqQ, xs]
theorem xreadM {rm : zRr} {qm : zRq} : Gm_readsAll rm qm = zc_rq (Gm_nextToken (xMb rm) qm) (fun a b => Gm_readsAll_64 1002 a b) := by
  unfold Gm_readsAll Gm_begins xMb xMa
  simp only [zletQ, zc_rqQ, xs]
theorem xclear {r rm : zRr} {q : zRq} (h122 : rm 122 0 = nI 1000) : Gk_clear r q 183 9 = 0 ∧ Gk_clear r q 183 10 = 0 ∧ Gk_clear r q 183 11 = 1 ∧ Gk_clear r q 183 12 = 2 ∧ (∀ i, i < 6 → Gk_clear r q 185 i = 0) ∧ Gk_clear r q 196 = r 196 ∧ Gk_clear r q 197 = r 197 ∧ xCod [-1, -3, -8, -5] [] (Gk_clear r q) rm ∧ zFr [183, 185, 192, 193] r (Gk_clear r q) := by
  unfold Gk_clear
  simp only [zletQ]
  have k : ∀ X : zRr, X 183 9 = 0 → X 183 10 = 0 → X 183 11 = 1 → X 183 12 = 2 → (∀ i, i < 6 → X 185 i = 0) → zFr [183, 185] r X → Gk_untold X q 183 9 = 0 ∧ Gk_untold X q 183 10 = 0 ∧ Gk_untold X q 183 11 = 1 ∧ Gk_untold X q 183 12 = 2 ∧ (∀ i, i < 6 → Gk_untold X q 185 i = 0) ∧ Gk_untold X q 196 = r 196 ∧ Gk_untold X q 197 = r 197 ∧ xCod [-1, -3, -8, -5] [] (Gk_untold X q) rm ∧ zFr [183, 185, 192, 193] r (Gk_untold X q) := by
    intro X a1 a2 a3 a4 a5 f
    obtain ⟨c, g⟩ := xuntold (r := X) (q := q) (rm := rm) rfl h122
    refine ⟨by rw [g 183 rfl]; exact a1, by rw [g 183 rfl]; exact a2, by rw [g 183 rfl]; exact a3, by rw [g 183 rfl]; exact a4, fun i hi => by rw [g 185 rfl]; exact a5 i hi, by rw [g 196 rfl, f 196 rfl], by rw [g 197 rfl, f 197 rfl], c, (f.up rfl).tr g rfl⟩
  refine k _ rfl rfl rfl rfl (fun i hi => ?_) (((((zFr.refl.set rfl).set rfl).set rfl).set rfl).set rfl)
  show zfl _ 0 6 i = 0
  exact if_pos hi
/-- a LAND is read: the same fault on both sides, or none and the same is told -/
theorem xland {L : Nat} {r : zRr} {q : zRq} {rm : zRr} {qm : zRq} (h : xTp L r rm) : xAll (xRa (Gk_clear r q)) q (xMb rm) qm (Gk_readL r q) (Gm_readsAll rm qm) := by
  obtain ⟨h1, h2, h3, h4⟩ := h
  obtain ⟨c1, c2, c3, c4, c5, c6, c7, c8, c9⟩ := xclear (r := r) (q := q) (rm := xMb rm) (show xMb rm 122 0 = nI 1000 from rfl)
  rw [xreadL, xreadM]
  generalize Gk_clear r q = u at c1 c2 c3 c4 c5 c6 c7 c8 c9 ⊢
  have hP : xP L 0 (xRa u) (xMb rm) := by
    refine ⟨?_, ?_, rfl, rfl, fun i hi => ?_, h3, Nat.zero_le _⟩
    · show u 196 1 = _
      rw [c6]; exact h1
    · show rm 101 0 = _
      exact h2
    · show u 197 i = rm 0 i
      rw [c7]; exact h4 i hi
  have hD : xD 0 0 (xRa u) q (xMb rm) qm := by
    refine ⟨⟨?_, rfl, by decide, fun i hi => by omega, fun i _ hi => ?_⟩, ⟨?_, rfl, by decide, fun i hi => by omega⟩, ⟨?_, ?_, 0, 0, by decide, by decide, rfl, rfl, rfl⟩, rfl, Or.inl ⟨rfl, rfl, ?_⟩⟩
    · show u 183 9 = _
      rw [c1]; rfl
    · show u 185 i = 0
      exact c5 i hi
    · show u 183 10 = _
      rw [c2]; rfl
    · show u 183 11 = _
      rw [c3]; rfl
    · show u 183 12 = _
      rw [c4]; rfl
    · exact ⟨c8.c1, c8.c2, rfl, rfl⟩
  obtain ⟨b1, e1, r1, q1, rm1, qm1, s1, s2, hT, hb, fk, fm⟩ := xstep (q := q) (qm := qm) hP
  have hD1 := hD.tok fk (xFm9.m fm)
  rw [xrw s1, xrw s2, ← nI_0]
  obtain ⟨k1, k2, k3⟩ := xlines 1001 0 L b1 e1 1002 0 0 r1 q1 rm1 qm1 hT hD1 rfl (Nat.zero_le _) (by omega)
  exact ⟨(xGk.refl.k fk).tr k1, (xGm.refl.m (xFm9.m fm)).tr k2, k3⟩
end
section
/-! ===== the LAND that is told, on both sides ===== -/
/-- the law by which guards read: not told, or told -/
noncomputable def xLw (r rm : zRr) : Prop := rm 10 0 = 0 ∧ ((rm 11 0 = 0 ∧ r 180 2 = nI 4 ∧ xsg (r 181) 0 4 = [-1, -3, -8, -5]) ∨ ∃ C F, xEq 4 5 C F ∧ 1 ≤ F.length ∧ F.length ≤ 1000 ∧ C.length ≤ 1000 ∧ rm 11 0 = nI F.length ∧ xsg (rm 12) 0 F.length = F ∧ r 180 2 = nI C.length ∧ xsg (r 181) 0 C.length = C)
noncomputable def xTd (t p : Nat) (r : zRr) (q : zRq) (rm : zRr) (qm : zRq) : Prop :=
  (r 171 9 = nI t ∧ rm 1 0 = nI t ∧ t ≤ 6) ∧ (r 171 10 = nI p ∧ rm 1 1 = nI p ∧ p ≤ 6) ∧ (r 171 11 = rm 1 2 ∧ r 171 12 = rm 1 3) ∧
  (∀ i, i < t → r 172 i = rm 4 i ∧ (r 173 i = rm 5 i ∧ ∃ m, m < 2 ^ t ∧ r 173 i = nI m) ∧ xN (q 174 i) (qm 2 i)) ∧
  (∀ i, i < p → r 175 i = rm 6 i ∧ (r 176 i = rm 7 i ∧ ∃ a, a < t ∧ r 176 i = nI a) ∧ r 177 i = rm 8 i ∧ r 178 i = rm 9 i ∧ xN (q 179 i) (qm 3 i)) ∧ xLw r rm
/-- what the class keeps of it, what the reference does -/
noncomputable def xKk (r : zRr) (q : zRq) (r1 : zRr) (q1 : zRq) : Prop := (∀ a, 171 ≤ a → a ≤ 181 → r1 a = r a) ∧ q1 174 = q 174 ∧ q1 179 = q 179
section XTD
variable {t p : Nat} {r r1 : zRr} {q q1 : zRq} {rm rm1 : zRr} {qm qm1 : zRq}
theorem xTd.fr (h : xTd t p r q rm qm) (k : xKk r q r1 q1) (m : xLow rm qm rm1 qm1) : xTd t p r1 q1 rm1 qm1 := by
  obtain ⟨⟨a1, a2, a3⟩, ⟨b1, b2, b3⟩, ⟨c1, c2⟩, d, e, f⟩ := h
  obtain ⟨k1, k2, k3⟩ := k
  obtain ⟨m1, m2, m3, m4, m5, m6, m7⟩ := m
  have e171 := k1 171 (by omega) (by omega)
  refine ⟨⟨by rw [e171]; exact a1, by rw [m1 0 (by omega)]; exact a2, a3⟩, ⟨by rw [e171]; exact b1, by rw [m1 1 (by omega)]; exact b2, b3⟩, ⟨by rw [e171, m1 2 (by omega)]; exact c1, by rw [e171, m1 3 (by omega)]; exact c2⟩, fun i hi => ?_, fun i hi => ?_, ?_⟩
  · rw [k1 172 (by omega) (by omega), k1 173 (by omega) (by omega), k2, m2 4 i (by omega) (by omega) (by omega), m2 5 i (by omega) (by omega) (by omega), m6 i (by omega)]
    exact d i hi
  · rw [k1 175 (by omega) (by omega), k1 176 (by omega) (by omega), k1 177 (by omega) (by omega), k1 178 (by omega) (by omega), k3, m2 6 i (by omega) (by omega) (by omega), m2 7 i (by omega) (by omega) (by omega), m2 8 i (by omega) (by omega) (by omega), m2 9 i (by omega) (by omega) (by omega), m7 i (by omega)]
    exact e i hi
  · obtain ⟨f1, f2⟩ := f
    refine ⟨m3.trans f1, ?_⟩
    rw [k1 180 (by omega) (by omega), k1 181 (by omega) (by omega), m4]
    rcases f2 with f2 | ⟨C, F, g1, g2, g3, g4, g5, g6, g7⟩
    · exact Or.inl f2
    · refine Or.inr ⟨C, F, g1, g2, g3, g4, g5, ?_, g7⟩
      rw [xsg_congr (g := rm 12) (fun j hj => m5 (0 + j) (by omega))]
      exact g6
theorem xcpy {α : Type} {f g : Nat → α} {n i : Nat} (h : i < n) : va_cpy f g 0 0 n i = f i := by
  show (if 0 ≤ i ∧ i < 0 + n then f (0 + (i - 0)) else g i) = f i
  rw [if_pos ⟨Nat.zero_le _, by omega⟩, Nat.zero_add, Nat.sub_zero]
theorem xzsf {f : Nat → Int32} {n i j : Nat} (h : j < i) : zsf f n i j = f (n + j) := if_pos h
theorem xzsL {f : Nat → Int64} {n i j : Nat} (h : j < i) : zsL f n i j = f (n + j) := if_pos h
theorem xm1000 {n : Nat} (h : n ≤ 1000) : nI (1000 + n) - 1000 = nI n := by
  rw [show (1000 : Int32) = nI 1000 from rfl, xsub (by omega), show 1000 + n - 1000 = n by omega]
/-- a draft is laid down -/
theorem xtell (h : xD t p r q rm qm) (e171 : r1 171 = upd (upd (upd (upd (r 171) 9 (r 183 9)) 10 (r 183 10)) 11 (r 183 11)) 12 (r 183 12)) (e172 : ∀ a, 172 ≤ a → a ≤ 178 → a ≠ 174 → r1 a = va_cpy (r (a + 12)) (r a) 0 0 6) (e180 : r1 180 2 = r 192 2) (e181 : r1 181 = va_cpy (r 193) (r 181) 0 0 (zn (r 192 2))) (q174 : q1 174 = va_cpy (q 186) (q 174) 0 0 6) (q179 : q1 179 = va_cpy (q 191) (q 179) 0 0 6)
    (m1 : rm1 1 = zsf (rm 1) 4 4) (m4 : ∀ a, 4 ≤ a → a ≤ 9 → rm1 a = zsf (rm a) 6 6) (m12 : rm1 12 = zsf (rm 12) 1000 1000) (m10 : rm1 10 0 = rm 10 1 - 1000) (m11 : rm1 11 0 = rm 11 1 - 1000) (n2 : qm1 2 = zsL (qm 2) 6 6) (n3 : qm1 3 = zsL (qm 3) 6 6) : xTd t p r1 q1 rm1 qm1 := by
  obtain ⟨⟨a1, a2, a3, a4, a5⟩, ⟨b1, b2, b3, b4⟩, ⟨c1, c2, _⟩, d1, d2⟩ := h
  refine ⟨⟨?_, ?_, a3⟩, ⟨?_, ?_, b3⟩, ⟨?_, ?_⟩, fun i hi => ?_, fun i hi => ?_, ?_, ?_⟩
  · rw [e171, pk_un (by decide), pk_un (by decide), pk_un (by decide), pk_us]; exact a1
  · rw [m1, xzsf (by decide)]; exact a2
  · rw [e171, pk_un (by decide), pk_un (by decide), pk_us]; exact b1
  · rw [m1, xzsf (by decide)]; exact b2
  · rw [e171, pk_un (by decide), pk_us, m1, xzsf (by decide)]; exact c1
  · rw [e171, pk_us, m1, xzsf (by decide)]; exact c2
  · rw [e172 172 (by omega) (by omega) (by omega), e172 173 (by omega) (by omega) (by omega), q174, xcpy (by omega), xcpy (by omega), xcpy (by omega), m4 4 (by omega) (by omega), m4 5 (by omega) (by omega), n2, xzsf (by omega), xzsf (by omega), xzsL (by omega)]
    exact a4 i hi
  · rw [e172 175 (by omega) (by omega) (by omega), e172 176 (by omega) (by omega) (by omega), e172 177 (by omega) (by omega) (by omega), e172 178 (by omega) (by omega) (by omega), q179, xcpy (by omega), xcpy (by omega), xcpy (by omega), xcpy (by omega), xcpy (by omega), m4 6 (by omega) (by omega), m4 7 (by omega) (by omega), m4 8 (by omega) (by omega), m4 9 (by omega) (by omega), n3, xzsf (by omega), xzsf (by omega), xzsf (by omega), xzsf (by omega), xzsL (by omega)]
    exact b4 i hi
  · rw [m10, d1]; decide
  · rcases d2 with ⟨_, g2, g3⟩ | ⟨_, C, F, g1, g2, g3, g4, g5, g6⟩
    · left
      have e4 : r 192 2 = nI 4 := g3.c1
      refine ⟨by rw [m11, g2]; decide, by rw [e180]; exact e4, ?_⟩
      rw [e181, e4, xzn (by decide), xsg_congr (g := r 193) (fun j hj => by rw [Nat.zero_add]; exact xcpy hj)]
      exact g3.c2
    · right
      have ec : r 192 2 = nI C.length := g6.c1
      refine ⟨C, F, g1, g2, g3, g4, by rw [m11, g5]; exact xm1000 g3, ?_, by rw [e180]; exact ec, ?_⟩
      · rw [m12, show xsg (zsf (rm 12) 1000 1000) 0 F.length = xsg (rm 12) 1000 F.length from ?_]
        · exact g6.f2
        · unfold xsg
          exact List.map_congr_left (fun j hj => by
            have hj := List.mem_range.mp hj
            rw [Nat.zero_add]; exact xzsf (by omega))
      · rw [e181, ec, xzn (by omega), xsg_congr (g := r 193) (fun j hj => by rw [Nat.zero_add]; exact xcpy hj)]
        exact g6.c2
end XTD
/-- a name among those told: the class's search, the reference's -/
theorem xnamed0 {t : Nat} {a : Int64} {w : Int64} {r : zRr} {q : zRq} {rm : zRr} {qm : zRq} (ht : t ≤ 6) (h1 : r 171 9 = nI t) (h2 : rm 1 0 = nI t) (hn : ∀ i, i < t → xN (q 174 i) (qm 2 i)) (hw : qm 107 0 = w) (ha : xN a w) : ∀ n i : Nat, i ≤ t → t < n + i → Gk_townNamed_2 a r q n (nI i) = Gm_townNamed0_5 rm qm n (nI i) ∧ (Gk_townNamed_2 a r q n (nI i) = -1 ∨ ∃ j, j < t ∧ Gk_townNamed_2 a r q n (nI i) = nI j) := by
  intro n
  induction n with
  | zero => intro i h3 h4; omega
  | succ n ih =>
    intro i h3 h4
    have e0 : Gk_townNamed_2 a r q (n + 1) (nI i) = Bk_townNamed_2 a r q (Gk_townNamed_2 a r q n) (nI i) := rfl
    have e1 : Gm_townNamed0_5 rm qm (n + 1) (nI i) = Bm_townNamed0_5 rm qm (Gm_townNamed0_5 rm qm n) (nI i) := rfl
    rw [e0, e1]
    unfold Bk_townNamed_2 Bm_townNamed0_5
    simp only [zifQ, zifnQ, zletQ, h1, h2, hw]
    rw [show (0 : Int32) + nI t = nI t by rw [Int32.zero_add]]
    by_cases hi : t ≤ i
    · have c1 : nI t ≤ nI i := (nI_leI (by omega) (by omega)).mpr hi
      rw [if_pos c1, if_pos c1]
      exact ⟨rfl, Or.inl rfl⟩
    · have c1 : ¬ nI t ≤ nI i := fun h => hi ((nI_leI (by omega) (by omega)).mp h)
      rw [if_neg c1, if_neg c1, xzn (show i < 2 ^ 31 by omega)]
      have k := (hn i (by omega)).eq ha
      by_cases hq : q 174 i = a
      · rw [if_pos (xcmp.mpr hq), if_pos (xcmp.mpr (k.mp hq)), Int32.sub_zero]
        exact ⟨rfl, Or.inr ⟨i, by omega, rfl⟩⟩
      · rw [if_neg (fun h => hq (xcmp.mp h)), if_neg (fun h => hq (k.mpr (xcmp.mp h))), nI_1]
        exact ih (i + 1) (by omega) (by omega)
theorem xnamedP0 {t : Nat} {a : Int64} {w : Int64} {r : zRr} {q : zRq} {rm : zRr} {qm : zRq} (ht : t ≤ 6) (h1 : r 171 10 = nI t) (h2 : rm 1 1 = nI t) (hn : ∀ i, i < t → xN (q 179 i) (qm 3 i)) (hw : qm 107 0 = w) (ha : xN a w) : ∀ n i : Nat, i ≤ t → t < n + i → Gk_personNamed_2 a r q n (nI i) = Gm_personNamed0_5 rm qm n (nI i) ∧ (Gk_personNamed_2 a r q n (nI i) = -1 ∨ ∃ j, j < t ∧ Gk_personNamed_2 a r q n (nI i) = nI j) := by
  intro n
  induction n with
  | zero => intro i h3 h4; omega
  | succ n ih =>
    intro i h3 h4
    have e0 : Gk_personNamed_2 a r q (n + 1) (nI i) = Bk_personNamed_2 a r q (Gk_personNamed_2 a r q n) (nI i) := rfl
    have e1 : Gm_personNamed0_5 rm qm (n + 1) (nI i) = Bm_personNamed0_5 rm qm (Gm_personNamed0_5 rm qm n) (nI i) := rfl
    rw [e0, e1]
    unfold Bk_personNamed_2 Bm_personNamed0_5
    simp only [zifQ, zifnQ, zletQ, h1, h2, hw]
    rw [show (0 : Int32) + nI t = nI t by rw [Int32.zero_add]]
    by_cases hi : t ≤ i
    · have c1 : nI t ≤ nI i := (nI_leI (by omega) (by omega)).mpr hi
      rw [if_pos c1, if_pos c1]
      exact ⟨rfl, Or.inl rfl⟩
    · have c1 : ¬ nI t ≤ nI i := fun h => hi ((nI_leI (by omega) (by omega)).mp h)
      rw [if_neg c1, if_neg c1, xzn (show i < 2 ^ 31 by omega)]
      have k := (hn i (by omega)).eq ha
      by_cases hq : q 179 i = a
      · rw [if_pos (xcmp.mpr hq), if_pos (xcmp.mpr (k.mp hq)), Int32.sub_zero]
        exact ⟨rfl, Or.inr ⟨i, by omega, rfl⟩⟩
      · rw [if_neg (fun h => hq (xcmp.mp h)), if_neg (fun h => hq (k.mpr (xcmp.mp h))), nI_1]
        exact ih (i + 1) (by omega) (by omega)
section XWJ
variable {L b e t p : Nat} {r : zRr} {q : zRq} {rm : zRr} {qm : zRq}
/-- a TOWN of the LAND -/
theorem xhereT (h : xTok L b e r q rm qm) (hD : xTd t p r q rm qm) :
    (∃ r1 rm1, Gk_townHere r q = (-1, r1) ∧ Gm_needsTown0 rm qm = (0, rm1) ∧ r1 196 7 = rm1 109 0 ∧ zFr [196] r r1 ∧ zFr [109, 136] rm rm1) ∨
    (∃ j, j < t ∧ Gk_townHere r q = (nI j, r) ∧ Gm_needsTown0 rm qm = (1, zset rm 136 (fun _ => nI j)) ∧ r 196 4 = 29) := by
  unfold Gk_townHere Gm_needsTown0 Gk_townHere_22 Gk_townHere_44
  simp only [zifQ, zifnQ, zletQ, h.kept]
  by_cases hs : r 196 4 = 29
  · obtain ⟨a1, a2⟩ : Gk_townNamed (q 196 6) r q = Gm_townNamed0 rm qm ∧ (Gk_townNamed (q 196 6) r q = -1 ∨ ∃ j, j < t ∧ Gk_townNamed (q 196 6) r q = nI j) := xnamed0 (n := 7) (i := 0) hD.1.2.2 hD.1.1 hD.1.2.1 (fun i hi => (hD.2.2.2.1 i hi).2.2) rfl (h.nm hs) (by omega) (by have := hD.1.2.2; omega)
    simp only [if_pos hs, x00, if_true, ← a1]
    rcases a2 with e1 | ⟨j, hj, e1⟩
    · left
      have hT := h.pre (rm1 := zset rm 136 (fun _ => (-1 : Int32))) (M := [136]) (zFr.refl.set rfl) (by decide)
      obtain ⟨r1, rm1, h1, h2, h3, h4, h5⟩ := hT.fails 2
      rw [e1, if_pos rfl, h1]
      refine ⟨r1, rm1, rfl, ?_, h3, h4, (zFr.refl.set rfl).tr h5 rfl⟩
      rw [show (zset rm 136 (fun _ => (-1 : Int32))) 136 0 = -1 from rfl, if_neg (by decide), h2]
      rfl
    · right
      have ht6 := hD.1.2.2
      obtain ⟨n1, n2, n3⟩ := xnn (j := j) (by omega)
      rw [e1, if_neg n3]
      refine ⟨j, hj, rfl, ?_, hs⟩
      rw [show (zset rm 136 (fun _ => nI j)) 136 0 = nI j from rfl, if_pos n1]
  · left
    obtain ⟨r1, rm1, h1, h2, h3, h4, h5⟩ := h.fails 1
    simp only [if_neg hs, x10, if_true, if_false, h1, h2]
    exact ⟨r1, rm1, rfl, rfl, h3, h4, h5.up rfl⟩
/-- a PERSON of the LAND -/
theorem xhereP (h : xTok L b e r q rm qm) (hD : xTd t p r q rm qm) :
    (∃ r1 rm1, Gk_personHere r q = (-1, r1) ∧ Gm_needsPerson rm qm = (0, rm1) ∧ r1 196 7 = rm1 109 0 ∧ zFr [196] r r1 ∧ zFr [109, 136] rm rm1) ∨
    (∃ j, j < p ∧ Gk_personHere r q = (nI j, r) ∧ Gm_needsPerson rm qm = (1, zset rm 136 (fun _ => nI j)) ∧ r 196 4 = 29) := by
  unfold Gk_personHere Gm_needsPerson Gk_personHere_22 Gk_personHere_44
  simp only [zifQ, zifnQ, zletQ, h.kept]
  by_cases hs : r 196 4 = 29
  · obtain ⟨a1, a2⟩ : Gk_personNamed (q 196 6) r q = Gm_personNamed0 rm qm ∧ (Gk_personNamed (q 196 6) r q = -1 ∨ ∃ j, j < p ∧ Gk_personNamed (q 196 6) r q = nI j) := xnamedP0 (n := 7) (i := 0) hD.2.1.2.2 hD.2.1.1 hD.2.1.2.1 (fun i hi => (hD.2.2.2.2.1 i hi).2.2.2.2) rfl (h.nm hs) (by omega) (by have := hD.2.1.2.2; omega)
    simp only [if_pos hs, x00, if_true, ← a1]
    rcases a2 with e1 | ⟨j, hj, e1⟩
    · left
      have hT := h.pre (rm1 := zset rm 136 (fun _ => (-1 : Int32))) (M := [136]) (zFr.refl.set rfl) (by decide)
      obtain ⟨r1, rm1, h1, h2, h3, h4, h5⟩ := hT.fails 2
      rw [e1, if_pos rfl, h1]
      refine ⟨r1, rm1, rfl, ?_, h3, h4, (zFr.refl.set rfl).tr h5 rfl⟩
      rw [show (zset rm 136 (fun _ => (-1 : Int32))) 136 0 = -1 from rfl, if_neg (by decide), h2]
      rfl
    · right
      have ht6 := hD.2.1.2.2
      obtain ⟨n1, n2, n3⟩ := xnn (j := j) (by omega)
      rw [e1, if_neg n3]
      refine ⟨j, hj, rfl, ?_, hs⟩
      rw [show (zset rm 136 (fun _ => nI j)) 136 0 = nI j from rfl, if_pos n1]
  · left
    obtain ⟨r1, rm1, h1, h2, h3, h4, h5⟩ := h.fails 1
    simp only [if_neg hs, x10, if_true, if_false, h1, h2]
    exact ⟨r1, rm1, rfl, rfl, h3, h4, h5.up rfl⟩
end XWJ
end
section
/-! ===== a line of a JOURNEY, on both sides ===== -/
/-- a line's bounds -/
noncomputable def xBd (t p : Nat) (a b c : Int32) : Prop := (a = 0 ∨ a = 1 ∨ a = 2 ∨ a = 3) ∧ (¬ a = 3 → ∃ j, j < p ∧ b = nI j) ∧ (a = 0 → ∃ i, i < t ∧ c = nI i) ∧ (a = 1 → ∃ m, 1 ≤ m ∧ m ≤ 20 ∧ c = nI m)
/-- the lines so far -/
noncomputable def xPd (t p n : Nat) (r rm : zRr) : Prop := r 142 3 = nI n ∧ rm 25 5 = nI n ∧ n ≤ 40 ∧ ∀ k, k < n → r 143 k = rm 26 (200 + k) ∧ (¬ r 143 k = 3 → r 144 k = rm 27 (200 + k)) ∧ (r 143 k = 0 ∨ r 143 k = 1 → r 145 k = rm 28 (200 + k)) ∧ xBd t p (r 143 k) (r 144 k) (r 145 k)
noncomputable def xJk (r : zRr) (q : zRq) (r1 : zRr) (q1 : zRq) : Prop := zFr [142, 143, 144, 145, 196] r r1 ∧ xFq [196] q q1
noncomputable def xJw (rm rm1 : zRr) : Prop := (∀ j, j ≠ 5 → rm1 25 j = rm 25 j) ∧ ∀ k j, 26 ≤ k → k ≤ 28 → j < 200 → rm1 k j = rm k j
noncomputable def xJm (rm : zRr) (qm : zRq) (rm1 : zRr) (qm1 : zRq) : Prop := zFr [25, 26, 27, 28, 104, 105, 106, 108, 109, 136] rm rm1 ∧ xFq [107] qm qm1 ∧ xJw rm rm1
section XJF
variable {r r1 r2 : zRr} {q q1 q2 : zRq}
theorem xJk.refl : xJk r q r q := ⟨zFr.refl, xFq.refl⟩
theorem xJk.tr (h : xJk r q r1 q1) (k : xJk r1 q1 r2 q2) : xJk r q r2 q2 := ⟨h.1.tr k.1 (by decide), h.2.tr k.2 (by decide)⟩
theorem xJk.k (h : xJk r q r1 q1) (k : xFk r1 q1 r2 q2) : xJk r q r2 q2 := ⟨h.1.tr k.1 (by decide), h.2.tr k.2 (by decide)⟩
theorem xJk.set (h : xJk r q r1 q1) {k : Nat} {g : Nat → Int32} (hk : [142, 143, 144, 145, 196].contains k = true) : xJk r q (zset r1 k g) q1 := ⟨h.1.set hk, h.2⟩
theorem xJw.refl : xJw r r := ⟨fun _ _ => rfl, fun _ _ _ _ _ => rfl⟩
theorem xJw.tr (h : xJw r r1) (k : xJw r1 r2) : xJw r r2 := ⟨fun j hj => (k.1 j hj).trans (h.1 j hj), fun a j h1 h2 h3 => (k.2 a j h1 h2 h3).trans (h.2 a j h1 h2 h3)⟩
theorem xJm.refl : xJm r q r q := ⟨zFr.refl, xFq.refl, xJw.refl⟩
theorem xJm.tr (h : xJm r q r1 q1) (k : xJm r1 q1 r2 q2) : xJm r q r2 q2 := ⟨h.1.tr k.1 (by decide), h.2.1.tr k.2.1 (by decide), h.2.2.tr k.2.2⟩
theorem xJm.m (h : xJm r q r1 q1) (k : xFm9 r1 q1 r2 q2) : xJm r q r2 q2 := by
  refine ⟨h.1.tr k.1 (by decide), h.2.1.tr k.2 (by decide), h.2.2.tr ⟨fun j _ => by rw [k.1 25 rfl], fun a j h1 h2 _ => ?_⟩⟩
  rcases (show a = 26 ∨ a = 27 ∨ a = 28 by omega) with rfl | rfl | rfl
  · rw [k.1 26 rfl]
  · rw [k.1 27 rfl]
  · rw [k.1 28 rfl]
theorem xJm.cell (h : xJm r q r1 q1) {k j : Nat} {v : Int32} (hk : 26 ≤ k ∧ k ≤ 28) (hj : 200 ≤ j) : xJm r q (zset r1 k (upd (r1 k) j v)) q1 := by
  refine ⟨h.1.set (by rcases (show k = 26 ∨ k = 27 ∨ k = 28 by omega) with rfl | rfl | rfl <;> decide), h.2.1, h.2.2.tr ⟨fun i _ => by rw [zset_ne (by omega)], fun a i h1 h2 h3 => ?_⟩⟩
  by_cases e : a = k
  · subst e; rw [zset_eq, pk_un (by omega)]
  · rw [zset_ne e]
theorem xJm.cnt (h : xJm r q r1 q1) {v : Int32} : xJm r q (zset r1 25 (upd (r1 25) 5 v)) q1 :=
  ⟨h.1.set (by decide), h.2.1, h.2.2.tr ⟨fun i hi => by rw [zset_eq, pk_un hi], fun a i h1 h2 _ => by rw [zset_ne (by omega)]⟩⟩
end XJF
section XJT
variable {t p n : Nat} {r r1 : zRr} {q q1 : zRq} {rm rm1 : zRr} {qm qm1 : zRq}
theorem xTd.j (h : xTd t p r q rm qm) (k : xJk r q r1 q1) (m : xJm rm qm rm1 qm1) : xTd t p r1 q1 rm1 qm1 := by
  refine h.fr ⟨fun a h1 h2 => k.1 a ?_, k.2 174 rfl, k.2 179 rfl⟩ (xLow.of (m.1 1 rfl) (fun a h1 h2 => m.1 a ?_) (m.2.1 2 rfl) (m.2.1 3 rfl))
  · rcases (show a = 171 ∨ a = 172 ∨ a = 173 ∨ a = 174 ∨ a = 175 ∨ a = 176 ∨ a = 177 ∨ a = 178 ∨ a = 179 ∨ a = 180 ∨ a = 181 by omega) with rfl | rfl | rfl | rfl | rfl | rfl | rfl | rfl | rfl | rfl | rfl <;> rfl
  · rcases (show a = 4 ∨ a = 5 ∨ a = 6 ∨ a = 7 ∨ a = 8 ∨ a = 9 ∨ a = 10 ∨ a = 11 ∨ a = 12 by omega) with rfl | rfl | rfl | rfl | rfl | rfl | rfl | rfl | rfl <;> rfl
theorem xPd.tok (h : xPd t p n r rm) (fk : xFk r q r1 q1) (fm : xFm9 rm qm rm1 qm1) : xPd t p n r1 rm1 := by
  unfold xPd at h ⊢
  rw [fk.1 142 rfl, fk.1 143 rfl, fk.1 144 rfl, fk.1 145 rfl, fm.1 25 rfl, fm.1 26 rfl, fm.1 27 rfl, fm.1 28 rfl]
  exact h
end XJT
/-- what a line of a JOURNEY comes to, on both sides -/
noncomputable def xJo (t p L b : Nat) (r : zRr) (q : zRq) (rm : zRr) (qm : zRq) (o om : Int32 × zRr × zRq) : Prop :=
  xJk r q o.2.1 o.2.2 ∧ xJm rm qm om.2.1 om.2.2 ∧ ((o.1 = 0 ∧ om.1 = 0 ∧ o.2.1 196 7 = om.2.1 109 0) ∨ (o.1 = 1 ∧ om.1 = 1 ∧ ∃ b' e' n, b < b' ∧ xTok L b' e' o.2.1 o.2.2 om.2.1 om.2.2 ∧ xPd t p n o.2.1 om.2.1))
section XJO
variable {t p L b : Nat} {r r1 : zRr} {q q1 : zRq} {rm rm1 : zRr} {qm qm1 : zRq}
theorem xJo.fail (hk : xJk r q r1 q1) (hm : xJm rm qm rm1 qm1) (h : r1 196 7 = rm1 109 0) : xJo t p L b r q rm qm (xCL (0, r1, q1)) (0, rm1, qm1) := by
  rw [xCL0]; exact ⟨hk, hm, Or.inl ⟨rfl, rfl, h⟩⟩
theorem xJo.close {b1 e1 n : Nat} (h : xTok L b1 e1 r1 q1 rm1 qm1) (hb : b < b1) (hD : xPd t p n r1 rm1) (hk : xJk r q r1 q1) (hm : xJm rm qm rm1 qm1) : xJo t p L b r q rm qm (xCL (1, r1, q1)) (Gm_closes rm1 qm1) := by
  rw [xCL1]
  have k := xclose h
  generalize Gk_take 28 r1 q1 = o at k ⊢
  generalize Gm_closes rm1 qm1 = om at k ⊢
  obtain ⟨v, r2, q2⟩ := o
  obtain ⟨w, rm2, qm2⟩ := om
  obtain ⟨fk, fm, k⟩ := k
  have fk : xFk r1 q1 r2 q2 := fk
  have fm : xFm9 rm1 qm1 rm2 qm2 := fm
  rw [xcvrq (r := r2), zifnQ]
  rcases k with ⟨a1, a2, a3⟩ | ⟨a1, a2, b', e', a3, a4⟩
  · have a1 : v = 0 := a1
    have a2 : w = 0 := a2
    rw [if_pos a1, a2]
    exact ⟨hk.k fk, hm.m fm, Or.inl ⟨rfl, rfl, a3⟩⟩
  · have a1 : v = 1 := a1
    have a2 : w = 1 := a2
    rw [if_neg (show ¬ v = 0 by rw [a1]; decide), a2]
    exact ⟨hk.k fk, hm.m fm, Or.inr ⟨rfl, rfl, b', e', n, by omega, a4, hD.tok fk fm⟩⟩
end XJO
end
