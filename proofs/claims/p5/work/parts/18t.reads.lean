/-! ===== the line of reads ===== -/
theorem xRel_ne : ∀ (n lev d : Nat) (C F : List Int32), xRel n lev d C F → 1 ≤ F.length
  | 0, _, _, _, _, h => absurd h (fun h => h)
  | n + 1, lev, d, C, F, h => by
    rcases h with ⟨_, v, _, _, rfl⟩ | ⟨_, k, _, _, _, rfl⟩ | ⟨_, d', C', F', _, _, _, rfl⟩ | ⟨_, d', F', _, _, rfl⟩ | ⟨l, _, h2⟩ | ⟨k, C1, F1, C2, F2, l1, l2, _, _, _, _, rfl⟩
    · exact Nat.le_refl _
    · exact Nat.le_refl _
    · simp only [List.length_cons]; omega
    · simp only [List.length_cons]; omega
    · exact xRel_ne n l d C F h2
    · simp only [List.length_append, List.length_cons]; omega
noncomputable def xRL (r : zRr) (q : zRq) : Int32 × zRr × zRq := zc_vrq (Gk_beginReads r q) (fun v17 r18 q19 => zif (v17 = 0) (0, r18, q19) (zc_vrq (Gk_readWhole0 r18 q19) (fun v24 r25 q26 => zif (v24 = 0) (0, r25, q26) (1, r25, q26))))
section XRE
variable {L b e t p : Nat} {r : zRr} {q : zRq} {rm : zRr} {qm : zRq}
theorem xlReads (h : xTok L b e r q rm qm) (hD : xD t p r q rm qm) (hs : ¬ r 196 4 = 31) : xLo L b r q rm qm (xCL (xRL r q)) (Gm_readsReads rm qm) := by
  have hlt := h.lt hs
  have hL := h.P.hL
  obtain ⟨hDt, hDp, hDn, m10, hl⟩ := hD
  unfold xRL Gk_beginReads Gm_readsReads
  simp only [zifQ, zifnQ, zletQ, xfr, xfm, xeta]
  rcases hl with ⟨f2, m11, hC⟩ | ⟨f2, C, F, hE, hF1, hF2, hC2, m11, hC⟩
  · rw [f2, m10, m11]
    simp only [x00, if_true]
    rw [if_pos (show (1000 : Int32) ≤ 1000 by decide)]
    have hT1 := h.row (r1 := zset r 198 (upd (r 198) 2 1)) (q1 := q) (rm1 := rm) (qm1 := qm) rfl rfl rfl rfl rfl rfl rfl rfl rfl rfl
    have GK1 : xGk r q (zset r 198 (upd (r 198) 2 1)) q := xGk.refl.set (by decide)
    obtain ⟨b1, e1, r6, q7, rm5, qm6, s1, s2, hT2, hb1, fk1, fm1⟩ := hT1.next
    rw [s1, s2, xcrq, xcrq, xcvrq (r := zset r6 192 (upd (r6 192) 2 0)), if_neg (show ¬ (1 : Int32) = 0 by decide)]
    have GK2 := (GK1.k fk1).set (k := 192) (g := upd (r6 192) 2 0) (by decide)
    have GM2 : xGm rm qm rm5 qm6 := xGm.refl.m (xFm9.m fm1)
    have e122 : rm5 122 0 = nI 1000 := by rw [fm1.1 122 rfl]; exact hC.f1
    unfold Gm_reads
    simp only [zletQ]
    rw [e122]
    have fB : zFr [10, 14] rm5 (zset (zset rm5 10 (upd (rm5 10) 1 (nI 1000))) 14 (upd (zset rm5 10 (upd (rm5 10) 1 (nI 1000)) 14) 0 0)) := (zFr.refl.set rfl).set rfl
    have GM3 : xGm rm qm (zset (zset rm5 10 (upd (rm5 10) 1 (nI 1000))) 14 (upd (zset rm5 10 (upd (rm5 10) 1 (nI 1000)) 14) 0 0)) qm6 := (GM2.cell (by decide) (by omega) (by omega) (by omega) (by omega)).fld (by decide) (by decide)
    have x10b : (zset (zset rm5 10 (upd (rm5 10) 1 (nI 1000))) 14 (upd (zset rm5 10 (upd (rm5 10) 1 (nI 1000)) 14) 0 0)) 10 1 = 1000 := by
      rw [zset_ne (by decide), zset_eq, pk_us]; rfl
    have x14 : (zset (zset rm5 10 (upd (rm5 10) 1 (nI 1000))) 14 (upd (zset rm5 10 (upd (rm5 10) 1 (nI 1000)) 14) 0 0)) 14 0 = 0 := by
      rw [zset_eq, pk_us]
    have hT3 := hT2.row (r1 := zset r6 192 (upd (r6 192) 2 0)) (q1 := q7) (rm1 := zset (zset rm5 10 (upd (rm5 10) 1 (nI 1000))) 14 (upd (zset rm5 10 (upd (rm5 10) 1 (nI 1000)) 14) 0 0)) (qm1 := qm6) rfl rfl rfl (fB 0 rfl) (fB 103 rfl) (fB 104 rfl) (fB 105 rfl) (fB 106 rfl) (fB 108 rfl) rfl
    have hC3 : xCod [] [] (zset r6 192 (upd (r6 192) 2 0)) (zset (zset rm5 10 (upd (rm5 10) 1 (nI 1000))) 14 (upd (zset rm5 10 (upd (rm5 10) 1 (nI 1000)) 14) 0 0)) := ⟨rfl, rfl, by rw [fB 122 rfl]; exact e122, rfl⟩
    have hDt3 := hDt.fr (r1 := zset r6 192 (upd (r6 192) 2 0)) (q1 := q7) (rm1 := zset (zset rm5 10 (upd (rm5 10) 1 (nI 1000))) 14 (upd (zset rm5 10 (upd (rm5 10) 1 (nI 1000)) 14) 0 0)) (qm1 := qm6) (by show r6 183 9 = _; rw [fk1.1 183 rfl]; rfl) (fk1.1 184 rfl) (fk1.1 185 rfl) (fk1.2 186 rfl) (by rw [fB 1 rfl, fm1.1 1 rfl]) ((fB 4 rfl).trans (fm1.1 4 rfl)) ((fB 5 rfl).trans (fm1.1 5 rfl)) (fm1.2 2 rfl)
    have hDp3 := hDp.fr (r1 := zset r6 192 (upd (r6 192) 2 0)) (q1 := q7) (rm1 := zset (zset rm5 10 (upd (rm5 10) 1 (nI 1000))) 14 (upd (zset rm5 10 (upd (rm5 10) 1 (nI 1000)) 14) 0 0)) (qm1 := qm6) (by show r6 183 10 = _; rw [fk1.1 183 rfl]; rfl) (fk1.1 187 rfl) (fk1.1 188 rfl) (fk1.1 189 rfl) (fk1.1 190 rfl) (fk1.2 191 rfl) (by rw [fB 1 rfl, fm1.1 1 rfl]) ((fB 6 rfl).trans (fm1.1 6 rfl)) ((fB 7 rfl).trans (fm1.1 7 rfl)) ((fB 8 rfl).trans (fm1.1 8 rfl)) ((fB 9 rfl).trans (fm1.1 9 rfl)) (fm1.2 3 rfl)
    have hDn3 := hDn.fr (r1 := zset r6 192 (upd (r6 192) 2 0)) (rm1 := zset (zset rm5 10 (upd (rm5 10) 1 (nI 1000))) 14 (upd (zset rm5 10 (upd (rm5 10) 1 (nI 1000)) 14) 0 0)) (by show r6 183 11 = _; rw [fk1.1 183 rfl]; rfl) (by show r6 183 12 = _; rw [fk1.1 183 rfl]; rfl) (by show r6 198 0 = _; rw [fk1.1 198 rfl]; rfl) (by show r6 198 1 = _; rw [fk1.1 198 rfl]; rfl) (by rw [fB 1 rfl, fm1.1 1 rfl]) (by rw [fB 1 rfl, fm1.1 1 rfl]) ((fB 123 rfl).trans (fm1.1 123 rfl))
    have k198 : (zset r6 192 (upd (r6 192) 2 0)) 198 2 = 1 := by rw [zset_ne (by decide), fk1.1 198 rfl, zset_eq, pk_us]
    generalize zset (zset rm5 10 (upd (rm5 10) 1 (nI 1000))) 14 (upd (zset rm5 10 (upd (rm5 10) 1 (nI 1000)) 14) 0 0) = rmx at GM3 x10b x14 hT3 hC3 hDt3 hDp3 hDn3 ⊢
    generalize zset r6 192 (upd (r6 192) 2 0) = rx at GK2 hT3 hC3 hDt3 hDp3 hDn3 k198 ⊢
    have k := xW0 L b1 e1 1002 rx q7 rmx qm6 [] [] hT3 hC3 (Nat.zero_le _) (Nat.zero_le _) (by omega) rfl (fun _ => x14)
    rw [nI_0] at k
    generalize Gk_readWhole0 rx q7 = o at k ⊢
    obtain ⟨v, r25, q26⟩ := o
    obtain ⟨hfe, k⟩ := k
    have hfe : xFe rx q7 r25 q26 := hfe
    have GK4 := GK2.e hfe
    rw [xcvrq (r := r25)]
    rcases k with ⟨a1, a2, a3, a4⟩ | ⟨a0, b', e', n', rm1, qm1, CE, FE, a1, a2, a3, a4, a5, a6, a7, a8, a9, a10, a11⟩
    · have a1 : v = 0 := a1
      rw [if_pos a1]
      generalize Gm_reads_11 1002 0 1 rmx qm6 = om at a2 a3 a4 ⊢
      obtain ⟨w, rm9, qm9⟩ := om
      have a2 : w = 0 := a2
      rw [xcvrq (r := rm9), if_pos a2]
      exact xLo.fail GK4 (GM3.l a4) a3
    · have a0 : v = 1 := a0
      have a4 : xTok L b' e' r25 q26 rm1 qm1 := a4
      have a8 : xCod CE FE r25 rm1 := a8
      rw [if_neg (show ¬ v = 0 by rw [a0]; decide), a1]
      have hp' := a4.P.hp; have hb' := a4.hb
      have hn' : 1001 < n' + b' := a3
      obtain ⟨n0, rfl⟩ : ∃ n0, n' = n0 + 1 := ⟨n' - 1, by omega⟩
      have GM4 := GM3.l a5
      rw [xCL1]
      by_cases h28 : r25 196 4 = nI 28
      · have h28' : r25 196 4 = 28 := h28
        rw [nI_0, xhStop a4 h28]
        obtain ⟨b2, e2, r29, q30, rm29, qm30, t1, t2, hT5, hb2, fk2, fm2⟩ := a4.next
        have ht : Gk_take 28 r25 q26 = (1, r29, q30) := by
          unfold Gk_take
          simp only [zifQ, zletQ]
          rw [if_pos h28']
          exact xrw t1
        rw [ht, t2, xcrq, xcvrq (r := r29), xcvrq (r := rm29), if_neg (show ¬ (1 : Int32) = 0 by decide), zifnQ, if_neg (show ¬ (1 : Int32) = 0 by decide)]
        have hlt2 : b' < e' := a4.lt (by rw [h28]; decide)
        have hC5 : xCod CE FE r29 rm29 := a8.row (fk2.1 192 rfl) (fk2.1 193 rfl) (fm2.1 122 rfl) (fm2.1 12 rfl)
        have l1 : CE.length + b1 ≤ b' + 0 := a9
        have l2 : FE.length + b1 ≤ b' + 0 := a10
        obtain ⟨n9, a7'⟩ := a7
        have hne := xRel_ne _ _ _ _ _ a7'
        have kk : ∀ a, [192, 193, 196].contains a = false → r29 a = rx a := fun a ha => (fk2.1 a (by
          cases e9 : [196].contains a with
          | false => rfl
          | true => have := List.contains_iff_mem.mp e9; simp at this; subst this; exact absurd ha (by decide))).trans (hfe.1 a ha)
        have mm : ∀ a, [12, 13, 14, 104, 105, 106, 108, 109, 122].contains a = false → rm29 a = rmx a := fun a ha => (fm2.1 a (by
          cases e9 : [104, 105, 106, 108].contains a with
          | false => rfl
          | true =>
            have h9 := List.contains_iff_mem.mp e9
            have : a ∈ [12, 13, 14, 104, 105, 106, 108, 109, 122] := by
              simp only [List.mem_cons, List.not_mem_nil, or_false] at h9 ⊢
              omega
            rw [List.contains_iff_mem.mpr this] at ha; cases ha)).trans (a5.1 a ha)
        have qk : ∀ a, [196].contains a = false → q30 a = q7 a := fun a ha => (fk2.2 a ha).trans (hfe.2 a ha)
        have qmm : ∀ a, [107].contains a = false → qm30 a = qm6 a := fun a ha => (fm2.2 a ha).trans (a5.2.1 a ha)
        refine ⟨GK4.k fk2, (GM4.m (xFm9.m fm2)).cell (by decide) (by omega) (by omega) (by omega) (by omega), Or.inr ⟨rfl, rfl, b2, e2, t, p, by omega, hT5.row rfl rfl rfl rfl rfl rfl rfl rfl rfl rfl, ?_, ?_, ?_, ?_⟩⟩
        · exact hDt3.fr (by show r29 183 9 = _; rw [kk 183 rfl]) (kk 184 rfl) (kk 185 rfl) (qk 186 rfl) (by show rm29 1 4 = _; rw [mm 1 rfl]) (mm 4 rfl) (mm 5 rfl) (qmm 2 rfl)
        · exact hDp3.fr (by show r29 183 10 = _; rw [kk 183 rfl]) (kk 187 rfl) (kk 188 rfl) (kk 189 rfl) (kk 190 rfl) (qk 191 rfl) (by show rm29 1 5 = _; rw [mm 1 rfl]) (mm 6 rfl) (mm 7 rfl) (mm 8 rfl) (mm 9 rfl) (qmm 3 rfl)
        · exact hDn3.fr (by show r29 183 11 = _; rw [kk 183 rfl]) (by show r29 183 12 = _; rw [kk 183 rfl]) (by show r29 198 0 = _; rw [kk 198 rfl]) (by show r29 198 1 = _; rw [kk 198 rfl]) (by show rm29 1 6 = _; rw [mm 1 rfl]) (by show rm29 1 7 = _; rw [mm 1 rfl]) (mm 123 rfl)
        · refine ⟨?_, Or.inr ⟨?_, CE, FE, ⟨n9, a7'⟩, hne, by omega, by omega, ?_, hC5⟩⟩
          · show rm29 10 1 = _
            rw [mm 10 rfl]; exact x10b
          · show r29 198 2 = 1
            rw [kk 198 rfl]; exact k198
          · show upd (rm29 11) 1 (rm29 122 0) 1 = _
            rw [pk_us]; exact hC5.f1
      · have h28' : ¬ r25 196 4 = 28 := h28
        obtain ⟨g1, g2, g3, g4⟩ := a11
        have hbad := xhBad (n := n0) a4 (d := 0) (by omega) (g2 (by omega)).1 (g2 (by omega)).2 (g1 (by omega)) (g3 (by omega)) (g4 (by omega)).1 (g4 (by omega)).2 (fun _ => rfl) (fun h9 => absurd h9 h28)
        have ht : Gk_take 28 r25 q26 = (0, (Gk_wrong 1 r25 q26).2, q26) := by
          unfold Gk_take
          simp only [zifQ, zletQ]
          rw [if_neg h28']
          rfl
        obtain ⟨r1, rm9, h1, h2, h3, h4, h5⟩ := a4.fails 1
        rw [ht, hbad, h1, h2, xcvrq (r := r1), xcvrq (r := rm9), if_pos rfl, zifnQ, if_pos rfl]
        exact ⟨GK4.k ⟨h4, xFq.refl⟩, GM4.m ⟨h5.up rfl, xFq.refl⟩, Or.inl ⟨rfl, rfl, h3⟩⟩
  · have hgt : ¬ nI (1000 + F.length) ≤ (1000 : Int32) := fun h9 => by have := (nI_leI (b := 1000) (by omega) (by omega)).mp h9; omega
    rw [f2, m10, m11, if_neg (show ¬ (1 : Int32) = 0 by decide), if_neg hgt]
    obtain ⟨r1, rm1, h1, h2, h3, h4, h5⟩ := h.fails 3
    rw [h1, h2, xcvrq (r := r1), if_pos rfl]
    exact xLo.fail (xGk.refl.k ⟨h4, xFq.refl⟩) (xGm.refl.m ⟨h5.up rfl, xFq.refl⟩) h3
end XRE
