/-! ===== a road; what grows, what an inch costs ===== -/
theorem xbit (x : Int32) : x &&& 1 = 0 ∨ x &&& 1 = 1 := by
  have h : zI 0 1 (x &&& 1) := zI.and (c := 1) (d := 1) (show zI 1 1 (1 : Int32) from ⟨by decide, by decide⟩) (by decide)
  obtain ⟨h1, h2⟩ := h
  rcases (show (x &&& 1).toInt = 0 ∨ (x &&& 1).toInt = 1 by omega) with e | e
  · exact Or.inl (Int32.toInt_inj.mp e)
  · exact Or.inr (Int32.toInt_inj.mp e)
section XRD
variable {L b e t p : Nat} {r : zRr} {q : zRq} {rm : zRr} {qm : zRq}
theorem xor6 : ∀ (m : Fin 64) (j : Fin 6), nI m.val ||| ((1 : Int32) <<< (nI j.val &&& 31)) = nI (m.val ||| 2 ^ j.val) := by decide +kernel
theorem xorI {x : Int32} {j t : Nat} (h : ∃ m, m < 2 ^ t ∧ x = nI m) (hj : j < t) (ht : t ≤ 6) : ∃ m, m < 2 ^ t ∧ x ||| ((1 : Int32) <<< (nI j &&& 31)) = nI m := by
  obtain ⟨m, hm, e⟩ := h
  have h6 : 2 ^ t ≤ 2 ^ 6 := Nat.pow_le_pow_right (by decide) ht
  have e6 : (2 : Nat) ^ 6 = 64 := by decide
  refine ⟨m ||| 2 ^ j, Nat.or_lt_two_pow hm (Nat.pow_lt_pow_right (by decide) hj), ?_⟩
  rw [e]; exact xor6 ⟨m, by omega⟩ ⟨j, by omega⟩
theorem xlRoad (h : xTok L b e r q rm qm) (hD : xD t p r q rm qm) (hs : ¬ r 196 4 = 31) : xLo L b r q rm qm (xCL (Gk_readRoad r q)) (Gm_readsRoad rm qm) := by
  have hlt := h.lt hs
  obtain ⟨b1, e1, r5, q6, rm2, qm3, s1, s2, hT1, hb1, fk1, fm1⟩ := h.next
  have hD1 := hD.tok fk1 (xFm9.m fm1)
  have GK1 : xGk r q r5 q6 := xGk.refl.k fk1
  have GM1 : xGm rm qm rm2 qm3 := xGm.refl.m (xFm9.m fm1)
  unfold Gk_readRoad Gm_readsRoad Gk_readRoad_56
  simp only [zifQ, zifnQ, zletQ, xfr, xfm, xeta]
  rw [s1, s2, xcrq, xcrq]
  rcases xhere hT1 hD1 with ⟨r9, rm9, n1, n2, n3, n4, n5⟩ | ⟨j1, hj1, n1, n2, n3⟩
  · rw [n1, n2, xcvr, xcvr, if_pos rfl, if_pos rfl]
    exact xLo.fail (GK1.k ⟨n4, xFq.refl⟩) (GM1.m ⟨n5.up rfl, xFq.refl⟩) n3
  · have ht6 : t ≤ 6 := hD.1.2.2.1
    have nj1 := (xnn (j := j1) (by omega)).2.2
    rw [n1, n2, xcvr, xcvr, if_neg nj1, if_neg (show ¬ (1 : Int32) = 0 by decide)]
    have fA : zFr [136] rm2 (zset rm2 136 (fun _ => nI j1)) := zFr.refl.set rfl
    have hT2 := hT1.pre fA (by decide)
    have hD2 : xD t p r5 q6 (zset rm2 136 (fun _ => nI j1)) qm3 := hD1.tok xFk.refl ⟨fA.up rfl, xFq.refl⟩
    have GM2 : xGm rm qm (zset rm2 136 (fun _ => nI j1)) qm3 := GM1.m ⟨fA.up rfl, xFq.refl⟩
    have g1 : (zset rm2 136 (fun _ => nI j1)) 136 0 = nI j1 := rfl
    rw [g1]
    generalize zset rm2 136 (fun _ => nI j1) = rm6 at hT2 hD2 GM2 g1 ⊢
    obtain ⟨b2, e2, r13, q14, rm10, qm11, s3, s4, hT3, hb2, fk2, fm2⟩ := hT2.next
    have hD3 := hD2.tok fk2 (xFm9.m fm2)
    have GK3 := GK1.k fk2
    have GM3 := GM2.m (xFm9.m fm2)
    rw [s3, s4, xcrq, xcrq]
    rcases xhere hT3 hD3 with ⟨r9, rm9, n1, n2, n3, n4, n5⟩ | ⟨j2, hj2, n1, n2, n3⟩
    · rw [n1, n2, xcvr, xcvr, if_pos rfl, if_pos rfl]
      exact xLo.fail (GK3.k ⟨n4, xFq.refl⟩) (GM3.m ⟨n5.up rfl, xFq.refl⟩) n3
    · have nj2 := (xnn (j := j2) (by omega)).2.2
      rw [n1, n2, xcvr, xcvr, if_neg nj2, if_neg (show ¬ (1 : Int32) = 0 by decide)]
      have fB : zFr [136] rm10 (zset rm10 136 (fun _ => nI j2)) := zFr.refl.set rfl
      have hT4 := hT3.pre fB (by decide)
      have hD4 : xD t p r13 q14 (zset rm10 136 (fun _ => nI j2)) qm11 := hD3.tok xFk.refl ⟨fB.up rfl, xFq.refl⟩
      have GM4 : xGm rm qm (zset rm10 136 (fun _ => nI j2)) qm11 := GM3.m ⟨fB.up rfl, xFq.refl⟩
      have g2 : (zset rm10 136 (fun _ => nI j2)) 136 0 = nI j2 := rfl
      rw [g2]
      generalize zset rm10 136 (fun _ => nI j2) = rm14 at hT4 hD4 GM4 g2 ⊢
      have bad : xLo L b r q rm qm (xCL (0, (Gk_wrong 3 r13 q14).2, q14)) (0, (Gm_fails 3 rm14 qm11).2, qm11) := by
        obtain ⟨r1, rm1, h1, h2, h3, h4, h5⟩ := hT4.fails 3
        rw [h1, h2]
        exact xLo.fail (GK3.k ⟨h4, xFq.refl⟩) (GM4.m ⟨h5.up rfl, xFq.refl⟩) h3
      have e61 : (6 : Int32) + nI j1 = nI (6 + j1) := nI_add 6 j1
      by_cases hjj : j1 = j2
      · have c1 : nI j1 = nI j2 := by rw [hjj]
        rw [if_pos c1, if_pos c1.symm]
        exact bad
      · have c1 : ¬ nI j1 = nI j2 := fun h9 => hjj ((nI_eq (by omega) (by omega)).mp h9)
        have c1' : ¬ nI j2 = nI j1 := fun h9 => c1 h9.symm
        have hro : r13 185 j1 = rm14 5 (6 + j1) := (hD4.1.2.2.2.1 j1 hj1).2.1.1
        rw [if_neg c1, if_neg c1', e61, xzn (show j1 < 2 ^ 31 by omega), xzn (show 6 + j1 < 2 ^ 31 by omega), ← hro]
        unfold Gk_has
        simp only [zifQ, zletQ]
        rcases xbit (r13 185 j1 >>> (nI j2 &&& 31)) with hb | hb
        · rw [hb]
          simp only [x00, if_true]
          rw [if_neg (show ¬ (0 : Int32) = 1 by decide)]
          have cong : ∀ (R : zRr), R 5 = upd (rm14 5) (6 + j1) (r13 185 j1 ||| 1 <<< (nI j2 &&& 31)) → R 136 0 = nI j2 → (6 : Int32) + R 136 0 = nI (6 + j2) := fun R _ h2 => by rw [h2]; exact nI_add 6 j2
          have g3 : (zset rm14 5 (upd (rm14 5) (6 + j1) (r13 185 j1 ||| 1 <<< (nI j2 &&& 31)))) 136 0 = nI j2 := g2
          rw [cong _ zset_eq g3, xzn (show 6 + j2 < 2 ^ 31 by omega), xzn (show j2 < 2 ^ 31 by omega), zset_eq]
          have fC : zFr [5] rm14 (zset (zset rm14 5 (upd (rm14 5) (6 + j1) (r13 185 j1 ||| 1 <<< (nI j2 &&& 31)))) 5 (upd (upd (rm14 5) (6 + j1) (r13 185 j1 ||| 1 <<< (nI j2 &&& 31))) (6 + j2) (upd (rm14 5) (6 + j1) (r13 185 j1 ||| 1 <<< (nI j2 &&& 31)) (6 + j2) ||| 1 <<< (nI j1 &&& 31)))) := (zFr.refl.set rfl).set rfl
          have hT5 := hT4.row (r1 := r13) (q1 := q14) (qm1 := qm11) rfl rfl rfl (fC 0 rfl) (fC 103 rfl) (fC 104 rfl) (fC 105 rfl) (fC 106 rfl) (fC 108 rfl) rfl
          have GM5 := (GM4.cell (k := 5) (j := 6 + j1) (v := r13 185 j1 ||| 1 <<< (nI j2 &&& 31)) (by decide) (by omega) (by omega) (by omega) (by omega)).cell (k := 5) (j := 6 + j2) (v := upd (rm14 5) (6 + j1) (r13 185 j1 ||| 1 <<< (nI j2 &&& 31)) (6 + j2) ||| 1 <<< (nI j1 &&& 31)) (by decide) (by omega) (by omega) (by omega) (by omega)
          rw [zset_eq] at GM5
          have m5 : (zset (zset rm14 5 (upd (rm14 5) (6 + j1) (r13 185 j1 ||| 1 <<< (nI j2 &&& 31)))) 5 (upd (upd (rm14 5) (6 + j1) (r13 185 j1 ||| 1 <<< (nI j2 &&& 31))) (6 + j2) (upd (rm14 5) (6 + j1) (r13 185 j1 ||| 1 <<< (nI j2 &&& 31)) (6 + j2) ||| 1 <<< (nI j1 &&& 31)))) 5 = upd (upd (rm14 5) (6 + j1) (r13 185 j1 ||| 1 <<< (nI j2 &&& 31))) (6 + j2) (upd (rm14 5) (6 + j1) (r13 185 j1 ||| 1 <<< (nI j2 &&& 31)) (6 + j2) ||| 1 <<< (nI j1 &&& 31)) := zset_eq
          generalize zset (zset rm14 5 (upd (rm14 5) (6 + j1) (r13 185 j1 ||| 1 <<< (nI j2 &&& 31)))) 5 (upd (upd (rm14 5) (6 + j1) (r13 185 j1 ||| 1 <<< (nI j2 &&& 31))) (6 + j2) (upd (rm14 5) (6 + j1) (r13 185 j1 ||| 1 <<< (nI j2 &&& 31)) (6 + j2) ||| 1 <<< (nI j1 &&& 31))) = rmr at fC hT5 GM5 m5 ⊢
          obtain ⟨b3, e3, r27, q28, rm38, qm39, s5, s6, hT6, hb3, fk3, fm3⟩ := hT5.next
          rw [s5, s6, xcrq, xcrq]
          have GK6 := GK3.k fk3
          have GM6 := GM5.m (xFm9.m fm3)
          have k185 : r27 185 = r13 185 := fk3.1 185 rfl
          rw [k185, zset_eq]
          obtain ⟨d1, d2, d3, d4⟩ := hD4
          obtain ⟨t1, t2, t3, t4, t5⟩ := d1
          refine xLo.close (b1 := b3) (e1 := e3) (t := t) (p := p) (hT6.row rfl rfl rfl rfl rfl rfl rfl rfl rfl rfl) (by omega) ⟨⟨?_, ?_, ht6, fun i hi => ?_, fun i hi hi6 => ?_⟩, ?_, ?_, ?_⟩ ((GK6.set (by decide)).set (by decide)) GM6
          · show r27 183 9 = _
            rw [fk3.1 183 rfl]; exact t1
          · rw [fm3.1 1 rfl, fC 1 rfl]; exact t2
          · have m5b : rm38 5 = _ := (fm3.1 5 rfl).trans m5
            rw [fm3.1 4 rfl, fC 4 rfl, m5b, fm3.2 2 rfl]
            show r27 184 i = _ ∧ (upd (upd (r13 185) j1 (r13 185 j1 ||| 1 <<< (nI j2 &&& 31))) j2 (upd (r13 185) j1 (r13 185 j1 ||| 1 <<< (nI j2 &&& 31)) j2 ||| 1 <<< (nI j1 &&& 31)) i = _ ∧ ∃ m, m < 2 ^ t ∧ upd (upd (r13 185) j1 (r13 185 j1 ||| 1 <<< (nI j2 &&& 31))) j2 (upd (r13 185) j1 (r13 185 j1 ||| 1 <<< (nI j2 &&& 31)) j2 ||| 1 <<< (nI j1 &&& 31)) i = nI m) ∧ xN (q28 186 i) _
            rw [fk3.1 184 rfl, fk3.2 186 rfl]
            obtain ⟨u1, ⟨u2, u4⟩, u3⟩ := t4 i hi
            refine ⟨u1, ⟨?_, ?_⟩, u3⟩
            rotate_left
            · by_cases ei : i = j2
              · subst ei
                rw [pk_us, pk_un (by omega)]
                exact xorI u4 (by omega) ht6
              · rw [pk_un ei]
                by_cases ej : i = j1
                · subst ej; rw [pk_us]; exact xorI u4 (by omega) ht6
                · rw [pk_un ej]; exact u4
            have w2 : r13 185 j2 = rm14 5 (6 + j2) := (t4 j2 hj2).2.1.1
            by_cases ei : i = j2
            · subst ei
              rw [pk_us, pk_us, pk_un (by omega), pk_un (by omega), w2]
            · rw [pk_un ei, pk_un (show 6 + i ≠ 6 + j2 by omega)]
              by_cases ej : i = j1
              · subst ej; rw [pk_us, pk_us]
              · rw [pk_un ej, pk_un (show 6 + i ≠ 6 + j1 by omega)]; exact u2
          · show upd (upd (r13 185) j1 (r13 185 j1 ||| 1 <<< (nI j2 &&& 31))) j2 (upd (r13 185) j1 (r13 185 j1 ||| 1 <<< (nI j2 &&& 31)) j2 ||| 1 <<< (nI j1 &&& 31)) i = 0
            rw [pk_un (by omega), pk_un (by omega)]
            exact t5 i hi hi6
          · refine d2.fr ?_ (fk3.1 187 rfl) (fk3.1 188 rfl) (fk3.1 189 rfl) (fk3.1 190 rfl) (fk3.2 191 rfl) ?_ ((fm3.1 6 rfl).trans (fC 6 rfl)) ((fm3.1 7 rfl).trans (fC 7 rfl)) ((fm3.1 8 rfl).trans (fC 8 rfl)) ((fm3.1 9 rfl).trans (fC 9 rfl)) (fm3.2 3 rfl)
            · show r27 183 10 = _; rw [fk3.1 183 rfl]
            · rw [fm3.1 1 rfl, fC 1 rfl]
          · refine d3.fr ?_ ?_ ?_ ?_ ?_ ?_ ((fm3.1 123 rfl).trans (fC 123 rfl))
            · show r27 183 11 = _; rw [fk3.1 183 rfl]
            · show r27 183 12 = _; rw [fk3.1 183 rfl]
            · show r27 198 0 = _; rw [fk3.1 198 rfl]
            · show r27 198 1 = _; rw [fk3.1 198 rfl]
            · rw [fm3.1 1 rfl, fC 1 rfl]
            · rw [fm3.1 1 rfl, fC 1 rfl]
          · refine d4.fr ?_ (fk3.1 192 rfl) (fk3.1 193 rfl) ((fm3.1 10 rfl).trans (fC 10 rfl)) ((fm3.1 11 rfl).trans (fC 11 rfl)) ((fm3.1 12 rfl).trans (fC 12 rfl)) ((fm3.1 122 rfl).trans (fC 122 rfl))
            show r27 198 2 = _; rw [fk3.1 198 rfl]
        · rw [hb, if_neg (show ¬ (1 : Int32) = 0 by decide), if_neg (show ¬ (1 : Int32) = 0 by decide), if_pos rfl]
          exact bad
end XRD
