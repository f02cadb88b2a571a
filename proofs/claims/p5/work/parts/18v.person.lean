/-! ===== a person's line ===== -/
noncomputable def xPL (r : zRr) (q : zRq) : Int32 × zRr × zRq := zc_vrq (Gk_readPerson r q) (fun v39 r40 q41 => zif (v39 = 0) (0, r40, q41) (zlet (r40 183 10 - 1) (fun v45 => zc_vrq (Gk_readGoods v45 r40 q41) (fun v47 r48 q49 => zif (v47 = 0) (0, r48, q49) (1, r48, q49)))))
section XPE
variable {L b e t p : Nat} {r : zRr} {q : zRq} {rm : zRr} {qm : zRq}
theorem xDp.nm (h : xDp t p r q rm qm) {j : Nat} {w : Int64} (hj : p ≤ j) : xDp t p r (zset q 191 (vp_updL (q 191) j w)) rm qm := by
  obtain ⟨h1, h2, h3, h4⟩ := h
  refine ⟨h1, h2, h3, fun i hi => ?_⟩
  obtain ⟨k1, k2, k3, k4, k5⟩ := h4 i hi
  refine ⟨k1, k2, k3, k4, ?_⟩
  rw [zset_eq, show vp_updL (q 191) j w i = q 191 i from if_neg (by omega)]
  exact k5
theorem xDp.kd (h : xDp t p r q rm qm) {v : Int32} : xDp t p (zset r 187 (upd (r 187) p v)) q (zset rm 6 (upd (rm 6) (6 + p) v)) qm := by
  obtain ⟨h1, h2, h3, h4⟩ := h
  refine ⟨h1, h2, h3, fun i hi => ?_⟩
  obtain ⟨k1, k2, k3, k4, k5⟩ := h4 i hi
  refine ⟨?_, k2, k3, k4, k5⟩
  show upd (r 187) p v i = upd (rm 6) (6 + p) v (6 + i)
  rw [pk_un (by omega), pk_un (show 6 + i ≠ 6 + p by omega)]; exact k1
theorem xlPerson (h : xTok L b e r q rm qm) (hD : xD t p r q rm qm) (hs : ¬ r 196 4 = 31) : xLo L b r q rm qm (xCL (xPL r q)) (Gm_readsPerson rm qm) := by
  have hD0 := hD
  have hlt := h.lt hs
  obtain ⟨hDt, hDp, hDn, hDl⟩ := hD
  have e9 : r 183 10 = nI p := hDp.1
  have e5 : rm 1 5 = nI p := hDp.2.1
  have hp6 : p ≤ 6 := hDp.2.2.1
  have ht6 : t ≤ 6 := hDt.2.2.1
  have e6 : (6 : Int32) + nI p = nI (6 + p) := nI_add 6 p
  unfold xPL Gk_readPerson Gm_readsPerson
  simp only [zifnQ, zletQ, xfr, xfm, xeta, e9, e5, e6, xzn (show 6 + p < 2 ^ 31 by omega), xzn (show p < 2 ^ 31 by omega)]
  by_cases hp : p < 6
  · have c1 : nI p < 6 := (nI_ltI (b := 6) (by omega) (by omega)).mpr hp
    have c2 : ¬ nI (6 + p) = 12 := fun h9 => by have := (nI_eq (b := 12) (by omega) (by omega)).mp h9; omega
    rw [zifQ, if_pos c1, if_neg c2]
    obtain ⟨b1, e1, r4, q5, rm6, qm7, s1, s2, hT1, hb1, fk1, fm1⟩ := h.next
    have hD1 := hD0.tok fk1 (xFm9.m fm1)
    have GK1 : xGk r q r4 q5 := xGk.refl.k fk1
    have GM1 : xGm rm qm rm6 qm7 := xGm.refl.m (xFm9.m fm1)
    rw [s1, s2, xcrq (r := r4), xcrq (r := rm6)]
    rcases xnew hT1 hD1 with ⟨r8, rm8, n1, n2, n3, n4, n5⟩ | ⟨n1, n2, n3⟩
    · rw [n1, n2, xcvr (r := r8), xcvrq (r := rm8), if_pos rfl, if_pos rfl, xcvrq (r := r8), zifQ, if_pos rfl]
      exact xLo.fail (GK1.k ⟨n4, xFq.refl⟩) (GM1.m ⟨n5.up rfl, xFq.refl⟩) n3
    · rw [n1, n2, xcvr (r := r4), if_neg (show ¬ (1 : Int32) = 0 by decide)]
      have hN := hT1.nm n3
      have hT2 : xTok L b1 e1 r4 (zset q5 191 (vp_updL (q5 191) p (q5 196 6))) rm6 (zset qm7 137 (fun _ => qm7 107 0)) := hT1.row rfl rfl (zset_ne (by decide)) rfl rfl rfl rfl rfl rfl (zset_ne (by decide))
      obtain ⟨b2, e2, r14, q15, rm10, qm11, s3, s4, hT3, hb2, fk2, fm2⟩ := hT2.next
      have hD2 : xD t p r14 q15 rm10 qm11 := by
        refine xD.tok (r := r4) (q := zset q5 191 (vp_updL (q5 191) p (q5 196 6))) (rm := rm6) (qm := zset qm7 137 (fun _ => qm7 107 0)) ?_ fk2 (xFm9.m fm2)
        obtain ⟨d1, d2, d3, d4⟩ := hD1
        exact ⟨d1.fr rfl rfl rfl (zset_ne (by decide)) rfl rfl rfl (zset_ne (by decide)), (d2.nm (Nat.le_refl p)).fr rfl rfl rfl rfl rfl rfl rfl rfl rfl rfl rfl (zset_ne (by decide)), d3, d4⟩
      have GK2 : xGk r q r14 q15 := (GK1.setq (k := 191) (by decide)).k fk2
      have GM2 : xGm rm qm rm10 qm11 := (GM1.fldq).m (xFm9.m fm2)
      have qn : q15 191 p = q5 196 6 := by rw [fk2.2 191 rfl, zset_eq]; exact if_pos rfl
      have qf : qm11 137 0 = qm7 107 0 := by rw [fm2.2 137 rfl, zset_eq]
      rw [s3, s4, xcrq (r := r14), xcrq (r := rm10), xcvrq (r := rm10), if_neg (show ¬ (1 : Int32) = 0 by decide), qf]
      obtain ⟨kd, k1, k2, k3⟩ := xkind hT3 (R := rm) (nm := qm7 107 0)
      rw [k1, k2]
      unfold Gm_readsPerson_102
      simp only [zletQ, zifnQ, xfm, xeta, e5, e6, xzn (show 6 + p < 2 ^ 31 by omega), zset_eq, pk_us]
      rw [zifQ]
      have GK3 : xGk r q (zset r14 187 (upd (r14 187) p kd)) q15 := GK2.set (by decide)
      have GM3 : xGm rm qm (zset rm10 6 (upd (rm10 6) (6 + p) kd)) qm11 := GM2.cell (by decide) (by omega) (by omega) (by omega) (by omega)
      have hT4 := hT3.row (r1 := zset r14 187 (upd (r14 187) p kd)) (q1 := q15) (rm1 := zset rm10 6 (upd (rm10 6) (6 + p) kd)) (qm1 := qm11) rfl rfl rfl rfl rfl rfl rfl rfl rfl rfl
      have hD3 : xD t p (zset r14 187 (upd (r14 187) p kd)) q15 (zset rm10 6 (upd (rm10 6) (6 + p) kd)) qm11 := by
        obtain ⟨d1, d2, d3, d4⟩ := hD2
        exact ⟨d1.fr rfl rfl rfl rfl rfl rfl rfl rfl, d2.kd, d3.fr rfl rfl rfl rfl rfl rfl rfl, d4.fr rfl rfl rfl rfl rfl rfl rfl⟩
      have v187 : (zset r14 187 (upd (r14 187) p kd)) 187 p = kd := by rw [zset_eq, pk_us]
      have v6 : (zset rm10 6 (upd (rm10 6) (6 + p) kd)) 6 (6 + p) = kd := by rw [zset_eq, pk_us]
      have hs3 : kd = -1 ∨ (0 ≤ kd ∧ ¬ kd = -1 ∧ ¬ (zset r14 187 (upd (r14 187) p kd)) 196 4 = 31) := k3
      generalize zset r14 187 (upd (r14 187) p kd) = r18 at GK3 hT4 hD3 v187 hs3 ⊢
      generalize zset rm10 6 (upd (rm10 6) (6 + p) kd) = rk at GM3 hT4 hD3 v6 ⊢
      rcases hs3 with hk | ⟨hk1, hk2, hk3⟩
      · obtain ⟨r1, rm1, h1, h2, h3, h4, h5⟩ := hT4.fails 1
        rw [if_pos hk, if_neg (show ¬ 0 ≤ kd by rw [hk]; decide), h1, h2, xcvrq (r := r1), zifQ, if_pos rfl]
        exact xLo.fail (GK3.k ⟨h4, xFq.refl⟩) (GM3.m ⟨h5.up rfl, xFq.refl⟩) h3
      · rw [if_neg hk2, if_pos hk1]
        have hlt4 := hT4.lt hk3
        obtain ⟨b3, e3, r22, q23, rm11, qm12, s5, s6, hT5, hb3, fk3, fm3⟩ := hT4.next
        have hD4 := hD3.tok fk3 (xFm9.m fm3)
        have GK4 := GK3.k fk3
        have GM4 := GM3.m (xFm9.m fm3)
        rw [s5, s6, xcrq (r := r22), xcrq (r := rm11)]
        have ka := xtakeW (C := 47) hT5 (i := 4) (by decide) (by decide)
        rw [show nI 4 = (4 : Int32) from rfl] at ka
        generalize Gk_take 4 r22 q23 = o at ka ⊢
        generalize Gm_needsWord 47 rm11 qm12 = om at ka ⊢
        obtain ⟨v, r26, q27⟩ := o
        obtain ⟨w, rm12, qm13⟩ := om
        obtain ⟨fk4, fm4, ka⟩ := ka
        have fk4 : xFk r22 q23 r26 q27 := fk4
        have fm4 : xFm9 rm11 qm12 rm12 qm13 := fm4
        have GK5 := GK4.k fk4
        have GM5 := GM4.m fm4
        rw [xcvrq (r := r26), xcvrq (r := rm12)]
        rcases ka with ⟨a1, a2, a3⟩ | ⟨a1, a2, b4, e4, a3, hT6⟩
        · have a1 : v = 0 := a1
          have a2 : w = 0 := a2
          rw [if_pos a1, zifQ, if_pos a2, xcvrq (r := r26), zifQ, if_pos rfl]
          exact xLo.fail GK5 GM5 a3
        · have a1 : v = 1 := a1
          have a2 : w = 1 := a2
          have hT6 : xTok L b4 e4 r26 q27 rm12 qm13 := hT6
          have hD5 := hD4.tok fk4 fm4
          rw [if_neg (show ¬ v = 0 by rw [a1]; decide), zifQ, if_neg (show ¬ w = 0 by rw [a2]; decide)]
          rcases xhere hT6 hD5 with ⟨r9, rm9, m1, m2, m3, m4, m5⟩ | ⟨j, hj, m1, m2, m3⟩
          · rw [m1, m2, xcvr (r := r9), xcvr (r := rm9), if_pos rfl, if_pos rfl, xcvrq (r := zset r9 188 (upd (r9 188) p (-1))), zifQ, if_pos rfl]
            exact xLo.fail ((GK5.k ⟨m4, xFq.refl⟩).set (by decide)) (GM5.m ⟨m5.up rfl, xFq.refl⟩) m3
          · have nj := (xnn (j := j) (by omega)).2.2
            rw [m1, m2, xcvr (r := r26), xcvr (r := zset rm12 136 (fun _ => nI j)), if_neg nj, if_neg (show ¬ (1 : Int32) = 0 by decide)]
            have g1 : (zset rm12 136 (fun _ => nI j)) 136 0 = nI j := rfl
            rw [g1]
            have hlt6 : b4 < e4 := hT6.lt (by rw [m3]; decide)
            have GK6 : xGk r q (zset r26 188 (upd (r26 188) p (nI j))) q27 := GK5.set (by decide)
            have GM6 : xGm rm qm (zset (zset rm12 136 (fun _ => nI j)) 7 (upd (zset rm12 136 (fun _ => nI j) 7) (6 + p) (nI j))) qm13 := (GM5.fld (by decide) (by decide)).cell (by decide) (by omega) (by omega) (by omega) (by omega)
            have hT7 := hT6.row (r1 := zset r26 188 (upd (r26 188) p (nI j))) (q1 := q27) (rm1 := zset (zset rm12 136 (fun _ => nI j)) 7 (upd (zset rm12 136 (fun _ => nI j) 7) (6 + p) (nI j))) (qm1 := qm13) rfl rfl rfl rfl rfl rfl rfl rfl rfl rfl
            have FK6 : zFr [188] r26 (zset r26 188 (upd (r26 188) p (nI j))) := zFr.refl.set rfl
            have FM6 : zFr [7, 136] rm12 (zset (zset rm12 136 (fun _ => nI j)) 7 (upd (zset rm12 136 (fun _ => nI j) 7) (6 + p) (nI j))) := (zFr.refl.set rfl).set rfl
            have x188 : (zset r26 188 (upd (r26 188) p (nI j))) 188 = upd (r26 188) p (nI j) := zset_eq
            have x7 : (zset (zset rm12 136 (fun _ => nI j)) 7 (upd (zset rm12 136 (fun _ => nI j) 7) (6 + p) (nI j))) 7 = upd (rm12 7) (6 + p) (nI j) := by rw [zset_eq, zset_ne (by decide)]
            generalize zset r26 188 (upd (r26 188) p (nI j)) = r33 at GK6 hT7 FK6 x188 ⊢
            generalize zset (zset rm12 136 (fun _ => nI j)) 7 (upd (zset rm12 136 (fun _ => nI j) 7) (6 + p) (nI j)) = rm20 at GM6 hT7 FM6 x7 ⊢
            obtain ⟨b5, e5', r38, q39, rm22, qm23, s7, s8, hT8, hb5, fk5, fm5⟩ := hT7.next
            have k10 : r38 183 10 = nI p := by rw [fk5.1 183 rfl, FK6 183 rfl]; exact hD5.2.1.1
            rw [s7, s8, xcrq (r := r38), xcrq (r := rm22), k10, nI_1, xcvrq (r := zset r38 183 (upd (r38 183) 10 (nI (p + 1)))), zifQ, if_neg (show ¬ (1 : Int32) = 0 by decide), show (zset r38 183 (upd (r38 183) 10 (nI (p + 1)))) 183 10 = nI (p + 1) by rw [zset_eq, pk_us], nI_pred]
            have GK7 : xGk r q (zset r38 183 (upd (r38 183) 10 (nI (p + 1)))) q39 := (GK6.k fk5).set (by decide)
            have GM7 := GM6.m (xFm9.m fm5)
            have hT9 := hT8.row (r1 := zset r38 183 (upd (r38 183) 10 (nI (p + 1)))) (q1 := q39) (rm1 := rm22) (qm1 := qm23) rfl rfl rfl rfl rfl rfl rfl rfl rfl rfl
            have FK7 : zFr [183, 188, 196] r26 (zset r38 183 (upd (r38 183) 10 (nI (p + 1)))) := ((FK6.up rfl).tr fk5.1 rfl).set rfl
            have y188 : (zset r38 183 (upd (r38 183) 10 (nI (p + 1)))) 188 = upd (r26 188) p (nI j) := by rw [zset_ne (by decide), fk5.1 188 rfl]; exact x188
            have y183 : (zset r38 183 (upd (r38 183) 10 (nI (p + 1)))) 183 = upd (r26 183) 10 (nI (p + 1)) := by rw [zset_eq, fk5.1 183 rfl, FK6 183 rfl]
            have FM7 : zFr [7, 104, 105, 106, 108, 109, 136] rm12 rm22 := (FM6.up rfl).tr fm5.1 rfl
            have y7 : rm22 7 = upd (rm12 7) (6 + p) (nI j) := (fm5.1 7 rfl).trans x7
            have QK7 : xFq [196] q27 q39 := fk5.2
            have QM7 : xFq [107] qm13 qm23 := fm5.2
            generalize zset r38 183 (upd (r38 183) 10 (nI (p + 1))) = r41 at GK7 hT9 FK7 y188 y183 ⊢
            unfold Gk_readGoods
            simp only [zletQ, zifnQ, xzn (show p < 2 ^ 31 by omega), zset_eq, pk_us]
            rcases xboth hT9 (C := 1162516) (i := 5) (lo := 0) (hi := 30) (by decide) (by decide) (by decide) with ⟨ra, qa, ma, qma, u1, u2, u3, u4, u5⟩ | ⟨ra, qa, u1, u2, u3⟩
            · rw [show nI 5 = (5 : Int32) from rfl] at u1
              rw [u1, u2, xcvrq (r := ra), xcvrq (r := ma), if_pos rfl, if_pos rfl, xcvrq (r := ra), zifQ, if_pos rfl]
              exact xLo.fail (GK7.k u4) (GM7.m u5) u3
            · rw [show nI 5 = (5 : Int32) from rfl] at u1
              rw [u1, xcvrq (r := ra), if_neg (show ¬ (1 : Int32) = 0 by decide)]
              rcases u3 with ⟨r2, q2, m2', qm2, w1, w2, w3, w4, w5⟩ | ⟨vb, r2, q2, m2', qm2, b6, e6', w1, wz, w2, w3, wb, hTa, w4, w5⟩
              · rw [w1, w2, xcvrq (r := r2), xcvrq (r := m2'), if_pos rfl, zifQ, if_pos rfl, xcvrq (r := zset r2 189 (upd (r2 189) p (-1))), zifQ, if_pos rfl]
                exact xLo.fail (((GK7.k u2).k w4).set (by decide)) (GM7.m w5) w3
              · have nv : ¬ vb = -1 := fun h9 => by rw [h9] at wz; exact absurd wz.1 (by decide)
                rw [w1, w2, xcvrq (r := r2), xcvrq (r := m2'), if_neg (show ¬ (1 : Int32) = 0 by decide), zifQ, if_neg nv, w3]
                have GK8 : xGk r q (zset r2 189 (upd (r2 189) p vb)) q2 := ((GK7.k u2).k w4).set (by decide)
                have GM8 : xGm rm qm (zset m2' 8 (upd (m2' 8) (6 + p) vb)) qm2 := (GM7.m w5).cell (by decide) (by omega) (by omega) (by omega) (by omega)
                have hTb := hTa.row (r1 := zset r2 189 (upd (r2 189) p vb)) (q1 := q2) (rm1 := zset m2' 8 (upd (m2' 8) (6 + p) vb)) (qm1 := qm2) rfl rfl rfl rfl rfl rfl rfl rfl rfl rfl
                have FK8 : zFr [183, 188, 189, 196] r26 (zset r2 189 (upd (r2 189) p vb)) := (((FK7.up rfl).tr u2.1 rfl).tr w4.1 rfl).set rfl
                have z188 : (zset r2 189 (upd (r2 189) p vb)) 188 = upd (r26 188) p (nI j) := by rw [zset_ne (by decide), w4.1 188 rfl, u2.1 188 rfl]; exact y188
                have z183 : (zset r2 189 (upd (r2 189) p vb)) 183 = upd (r26 183) 10 (nI (p + 1)) := by rw [zset_ne (by decide), w4.1 183 rfl, u2.1 183 rfl]; exact y183
                have z189 : (zset r2 189 (upd (r2 189) p vb)) 189 = upd (r26 189) p vb := by rw [zset_eq, w4.1 189 rfl, u2.1 189 rfl, FK7 189 rfl]
                have FM8 : zFr [7, 8, 104, 105, 106, 108, 109, 136] rm12 (zset m2' 8 (upd (m2' 8) (6 + p) vb)) := ((FM7.up rfl).tr w5.1 rfl).set rfl
                have z7 : (zset m2' 8 (upd (m2' 8) (6 + p) vb)) 7 = upd (rm12 7) (6 + p) (nI j) := by rw [zset_ne (by decide), w5.1 7 rfl]; exact y7
                have z8 : (zset m2' 8 (upd (m2' 8) (6 + p) vb)) 8 = upd (rm12 8) (6 + p) vb := by rw [zset_eq, w5.1 8 rfl, FM7 8 rfl]
                have QK8 : xFq [196] q27 q2 := (QK7.tr u2.2 rfl).tr w4.2 rfl
                have QM8 : xFq [107] qm13 qm2 := QM7.tr w5.2 rfl
                generalize zset r2 189 (upd (r2 189) p vb) = r11 at GK8 hTb FK8 z188 z183 z189 ⊢
                generalize zset m2' 8 (upd (m2' 8) (6 + p) vb) = rm30 at GM8 hTb FM8 z7 z8 ⊢
                rcases xboth hTb (C := 8930039) (i := 6) (lo := 0) (hi := 99) (by decide) (by decide) (by decide) with ⟨rc, qc, mc, qmc, u1, u2', u3, u4, u5⟩ | ⟨rc, qc, u1, u2', u3⟩
                · rw [show nI 6 = (6 : Int32) from rfl] at u1
                  rw [u1, u2', xcvrq (r := rc), xcvrq (r := mc), if_pos rfl, if_pos rfl, xcvrq (r := rc), zifQ, if_pos rfl]
                  exact xLo.fail (GK8.k u4) (GM8.m u5) u3
                · rw [show nI 6 = (6 : Int32) from rfl] at u1
                  rw [u1, xcvrq (r := rc), if_neg (show ¬ (1 : Int32) = 0 by decide)]
                  rcases u3 with ⟨r3, q3, m3', qm3, w1, w2, w3, w4', w5'⟩ | ⟨vp, r3, q3, m3', qm3, b7, e7', w1, wz2, w2, w3, wb2, hTc, w4', w5'⟩
                  · rw [w1, w2, xcvrq (r := r3), xcvrq (r := m3'), if_pos rfl, zifQ, if_pos rfl, xcvrq (r := zset r3 190 (upd (r3 190) p (-1))), zifQ, if_pos rfl]
                    exact xLo.fail (((GK8.k u2').k w4').set (by decide)) (GM8.m w5') w3
                  · have nv2 : ¬ vp = -1 := fun h9 => by rw [h9] at wz2; exact absurd wz2.1 (by decide)
                    rw [w1, w2, xcvrq (r := r3), xcvrq (r := m3'), if_neg (show ¬ (1 : Int32) = 0 by decide), zifQ, if_neg nv2, w3, xcvrq (r := zset r3 190 (upd (r3 190) p vp)), zifQ, if_neg (show ¬ (1 : Int32) = 0 by decide)]
                    have KA : ∀ a, [183, 188, 189, 190, 196].contains a = false → (zset r3 190 (upd (r3 190) p vp)) a = r26 a := (((FK8.up (M := [183, 188, 189, 190, 196]) rfl).tr u2'.1 rfl).tr w4'.1 rfl).set rfl
                    have a183 : r3 183 = upd (r26 183) 10 (nI (p + 1)) := by rw [w4'.1 183 rfl, u2'.1 183 rfl]; exact z183
                    have a188 : r3 188 = upd (r26 188) p (nI j) := by rw [w4'.1 188 rfl, u2'.1 188 rfl]; exact z188
                    have a189 : r3 189 = upd (r26 189) p vb := by rw [w4'.1 189 rfl, u2'.1 189 rfl]; exact z189
                    have a190 : r3 190 = r26 190 := by rw [w4'.1 190 rfl, u2'.1 190 rfl, FK8 190 rfl]
                    have MA : ∀ a, [7, 8, 104, 105, 106, 108, 109, 136].contains a = false → m3' a = rm12 a := (FM8.up (M := [7, 8, 104, 105, 106, 108, 109, 136]) rfl).tr w5'.1 rfl
                    have b7' : m3' 7 = upd (rm12 7) (6 + p) (nI j) := by rw [w5'.1 7 rfl]; exact z7
                    have b8' : m3' 8 = upd (rm12 8) (6 + p) vb := by rw [w5'.1 8 rfl]; exact z8
                    have QA : xFq [196] q27 q3 := (QK8.tr u2'.2 rfl).tr w4'.2 rfl
                    have QB : xFq [107] qm13 qm3 := QM8.tr w5'.2 rfl
                    obtain ⟨d1, d2, d3, d4⟩ := hD5
                    obtain ⟨p1, p2, p3, p4⟩ := d2
                    have k187 : r26 187 p = kd := by rw [fk4.1 187 rfl, fk3.1 187 rfl]; exact v187
                    have m6 : rm12 6 (6 + p) = kd := by rw [fm4.1 6 rfl, fm3.1 6 rfl]; exact v6
                    have qnm : q27 191 p = q5 196 6 := by rw [fk4.2 191 rfl, fk3.2 191 rfl]; exact qn
                    have bs : b < b7 := by omega
                    refine xLo.close (b1 := b7) (e1 := e7') (t := t) (p := p + 1) (hTc.row rfl rfl rfl rfl rfl rfl rfl rfl rfl (zset_ne (by decide))) bs ⟨?_, ⟨?_, ?_, by omega, fun i hi => ?_⟩, ?_, ?_⟩ (((GK8.k u2').k w4').set (by decide)) ?_
                    · refine d1.fr ?_ (KA 184 rfl) (KA 185 rfl) (QA 186 rfl) ?_ (MA 4 rfl) (MA 5 rfl) ?_
                      · show r3 183 9 = _; rw [a183, pk_un (by decide)]
                      · show m3' 1 4 = _; rw [MA 1 rfl]
                      · rw [zset_ne (by decide)]; exact QB 2 rfl
                    · show r3 183 10 = _; rw [a183, pk_us]
                    · show m3' 1 5 + 1 = _; rw [MA 1 rfl, p2, nI_1]
                    · rw [KA 187 rfl, show (zset r3 190 (upd (r3 190) p vp)) 188 = r3 188 from rfl, show (zset r3 190 (upd (r3 190) p vp)) 189 = r3 189 from rfl, show (zset r3 190 (upd (r3 190) p vp)) 190 = upd (r3 190) p vp from rfl, a188, a189, a190, QA 191 rfl]
                      show r26 187 i = m3' 6 (6 + i) ∧ (upd (r26 188) p (nI j) i = m3' 7 (6 + i) ∧ ∃ a, a < t ∧ upd (r26 188) p (nI j) i = nI a) ∧ upd (r26 189) p vb i = m3' 8 (6 + i) ∧ upd (r26 190) p vp i = upd (m3' 9) (6 + p) vp (6 + i) ∧ xN (q27 191 i) (vp_updL (qm3 3) (6 + p) (qm7 107 0) (6 + i))
                      rw [MA 6 rfl, b7', b8', MA 9 rfl, QB 3 rfl]
                      by_cases e : i = p
                      · subst e
                        rw [pk_us, pk_us, pk_us, pk_us, pk_us, pk_us, k187, m6, qnm, show vp_updL (qm13 3) (6 + i) (qm7 107 0) (6 + i) = qm7 107 0 from if_pos rfl]
                        exact ⟨rfl, ⟨rfl, j, hj, rfl⟩, rfl, rfl, hN⟩
                      · have ne6 : 6 + i ≠ 6 + p := by omega
                        rw [pk_un e, pk_un e, pk_un e, pk_un ne6, pk_un ne6, pk_un ne6, show vp_updL (qm13 3) (6 + p) (qm7 107 0) (6 + i) = qm13 3 (6 + i) from if_neg ne6]
                        exact p4 i (by omega)
                    · refine d3.fr ?_ ?_ ?_ ?_ ?_ ?_ (MA 123 rfl)
                      · show r3 183 11 = _; rw [a183, pk_un (by decide)]
                      · show r3 183 12 = _; rw [a183, pk_un (by decide)]
                      · rw [KA 198 rfl]
                      · rw [KA 198 rfl]
                      · show m3' 1 6 = _; rw [MA 1 rfl]
                      · show m3' 1 7 = _; rw [MA 1 rfl]
                    · exact d4.fr (by rw [KA 198 rfl]) (KA 192 rfl) (KA 193 rfl) (MA 10 rfl) (MA 11 rfl) (MA 12 rfl) (MA 122 rfl)
                    · exact (((GM8.m w5').cell (by decide) (by omega) (by omega) (by omega) (by omega)).cellq (Or.inr rfl) (by omega)).cell (by decide) (by omega) (by omega) (by omega) (by omega)
  · have h6 : p = 6 := by omega
    subst h6
    rw [zifQ, if_neg (by decide), if_pos (by decide)]
    obtain ⟨r1, rm1, h1, h2, h3, h4, h5⟩ := h.fails 5
    rw [h1, h2, xcvrq (r := r1), zifQ, if_pos rfl]
    exact xLo.fail (xGk.refl.k ⟨h4, xFq.refl⟩) (xGm.refl.m ⟨h5.up rfl, xFq.refl⟩) h3
end XPE
