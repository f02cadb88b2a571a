/-! ===== a TEST, a PART, on both sides ===== -/
theorem xtest {w : Nat} (hw : w ≤ 5) {K K' T : zRr → zRq → Int32 × zRr × zRq} (hK : xSim 2 w (w + 1) K)
    (hT0 : ∀ r q, ¬ r 196 4 = nI 23 → ¬ r 196 4 = nI 24 → T r q = (1, r, q))
    (hT1 : ∀ r q k, (k = 2 ∨ k = 3) → r 196 4 = nI (21 + k) → T r q = zc_rq (Gk_step r q) (fun r2 q3 => zc_vrq (K r2 q3) (fun v r6 q7 => zifn (v = 0) (1, Gk_add (xok k) r6 q7, q7) (0, r6, q7))))
    (hK' : ∀ r q, K' r q = zc_vrq (K r q) (fun v r1 q1 => zifn (v = 0) (T r1 q1) (0, r1, q1))) : xSim 3 w w K' := by
  intro L b e n r q rm qm C F hT hC hCl hFl hn hbs h3
  have h14 : rm 14 w = 0 := h3 (Nat.le_refl _)
  have h := hK L b e n r q rm qm C F hT hC hCl hFl hn hbs (fun h9 => by omega)
  rw [hK']
  generalize K r q = o at h ⊢
  obtain ⟨v, r11, q12⟩ := o
  obtain ⟨hfe, h⟩ := h
  rcases h with ⟨a1, a2, a3, a4⟩ | ⟨a0, b', e', n', rm1, qm1, CE, FE, a1, a2, a3, a4, a5, a6, a7, a8, a9, a10, a11⟩
  · have a1 : v = 0 := a1
    rw [show zc_vrq (v, r11, q12) (fun v r1 q1 => zifn (v = 0) (T r1 q1) ((0 : Int32), r1, q1)) = (0, r11, q12) from if_pos a1]
    exact ⟨hfe, Or.inl ⟨rfl, a2, a3, a4⟩⟩
  · have a0 : v = 1 := a0
    rw [show zc_vrq (v, r11, q12) (fun v r1 q1 => zifn (v = 0) (T r1 q1) ((0 : Int32), r1, q1)) = T r11 q12 from if_neg (fun h9 => absurd (a0.symm.trans h9) (by decide)), a1]
    have hp' := a4.P.hp; have hb' := a4.hb; have hL := a4.P.hL
    have h14b : rm1 14 w = 0 := by rw [a6.2 w (by omega)]; exact h14
    have hbs1 : xbs (rm1 13) w = w := by rw [xbs_c w (fun j hj => a6.1 j hj)]; exact hbs
    have len2 : (C ++ CE).length = C.length + CE.length := List.length_append
    have lenF : (F ++ FE).length = F.length + FE.length := List.length_append
    have a4 : xTok L b' e' r11 q12 rm1 qm1 := a4
    have a8 : xCod (C ++ CE) (F ++ FE) r11 rm1 := a8
    obtain ⟨e1, e2, e3, e4⟩ := a11
    by_cases hs : ∃ k, (k = 2 ∨ k = 3) ∧ r11 196 4 = nI (21 + k)
    · obtain ⟨k, hk, hs⟩ := hs
      have hlt : b' < e' := a4.lt (by rw [hs]; intro h9; have := (nI_eq (b := 31) (by omega) (by omega)).mp h9; omega)
      obtain ⟨n0, rfl⟩ : ∃ n0, n' = n0 + 1 := ⟨n' - 1, by omega⟩
      have ez : zn (nI w) = w := xzn (by omega)
      have hd := xhCmp (n := n0) (d := nI w) a4 hk hs (by rw [ez]; exact h14b)
      rw [ez] at hd
      rw [hT1 r11 q12 k hk hs, hd]
      obtain ⟨p1, p2, p3⟩ := xputs (a := xom k) (qm := qm1) a8 (by omega)
      generalize Gm_puts (xom k) rm1 qm1 = rp at p1 p2 p3 ⊢
      have p2b : zFr [12, 14, 122] rm1 (zset rp 14 (upd (rp 14) w 1)) := (p2.up rfl).set rfl
      have hT1' := a4.pre (rm1 := zset rp 14 (upd (rp 14) w 1)) p2b (by decide)
      obtain ⟨b1, e1', r7, q8, rm7, qm8, s1, s2, hT7, hb1, fk, fm⟩ := hT1'.next
      unfold xNx
      rw [xrw s1, xrw s2]
      have hC7 : xCod (C ++ CE) (F ++ FE ++ [xom k]) r7 rm7 := p1.row (fk.1 192 rfl) (fk.1 193 rfl) (fm.1 122 rfl) (fm.1 12 rfl)
      have f13 : rm7 13 = rm1 13 := (fm.1 13 rfl).trans (p2 13 rfl)
      have f14 : rm7 14 = upd (rp 14) w 1 := fm.1 14 rfl
      have hbs7 : xbs (rm7 13) w = w := by rw [f13]; exact hbs1
      have h2 := hK L b1 e1' n0 r7 q8 rm7 qm8 (C ++ CE) (F ++ FE ++ [xom k]) hT7 hC7 (by omega) (by rw [List.length_append]; show _ + 1 ≤ _; omega) (by omega) hbs7 (fun h9 => by omega)
      have FK : xFe r q r7 q8 := hfe.tr (xFe.k fk)
      have FM : xRl rm qm rm7 qm8 := a5.tr ((show xRl rm1 qm1 (zset rp 14 (upd (rp 14) w 1)) qm1 from ⟨p2b.up rfl, xFq.refl, p3⟩).tr (xRl.m fm))
      have FF : xRf w w rm rm7 := (a6.w ⟨Nat.le_refl _, by omega⟩).tr ⟨fun j _ => by rw [f13], fun j hj => by rw [f14, pk_un (by omega), p2 14 rfl]⟩
      generalize K r7 q8 = o at h2 ⊢
      obtain ⟨v2, r8, q9⟩ := o
      obtain ⟨hfe2, h2⟩ := h2
      rcases h2 with ⟨c1, c2, c3, c4⟩ | ⟨c0, b2, e2', n2, rm2, qm2, CE2, FE2, c1, c2, c3, c4, c5, c6, c7, c8, c9, c10, c11⟩
      · have c1 : v2 = 0 := c1
        rw [show zc_vrq (v2, r8, q9) (fun v r6 q7 => zifn (v = 0) ((1 : Int32), Gk_add (xok k) r6 q7, q7) ((0 : Int32), r6, q7)) = (0, r8, q9) from if_pos c1]
        exact ⟨FK.tr hfe2, Or.inl ⟨rfl, c2, c3, FM.tr c4⟩⟩
      · have c0 : v2 = 1 := c0
        rw [show zc_vrq (v2, r8, q9) (fun v r6 q7 => zifn (v = 0) ((1 : Int32), Gk_add (xok k) r6 q7, q7) ((0 : Int32), r6, q7)) = (1, Gk_add (xok k) r8 q9, q9) from if_neg (fun h9 => absurd (c0.symm.trans h9) (by decide)), c1]
        have hp2 := c4.P.hp; have hb2 := c4.hb
        have len3 : (C ++ CE ++ CE2).length = (C ++ CE).length + CE2.length := List.length_append
        obtain ⟨d1, d2⟩ := xadd (a := xok k) (q := q9) c8 (by omega)
        generalize Gk_add (xok k) r8 q9 = r12 at d1 d2 ⊢
        have eC : C ++ CE ++ CE2 ++ [xok k] = C ++ (CE ++ CE2 ++ [xok k]) := by simp only [List.append_assoc]
        have eF : F ++ FE ++ [xom k] ++ FE2 = F ++ (FE ++ xom k :: FE2) := by simp only [List.append_assoc, List.singleton_append]
        rw [eC, eF] at d1
        have lC2 : (CE ++ CE2 ++ [xok k]).length = CE.length + CE2.length + 1 := by simp only [List.length_append, List.length_cons, List.length_nil]
        have lF2 : (FE ++ xom k :: FE2).length = FE.length + 1 + FE2.length := by simp only [List.length_append, List.length_cons]; omega
        have h14c : rm2 14 w = 1 := by rw [c6.2 w (by omega), f14, pk_us]
        refine ⟨(FK.tr hfe2).tr (xFe.of d2 rfl), Or.inr ⟨rfl, b2, e2', n2, rm2, qm2, CE ++ CE2 ++ [xok k], FE ++ xom k :: FE2, rfl, by omega, c3, c4.row (d2 196 rfl) (d2 197 rfl) rfl rfl rfl rfl rfl rfl rfl rfl, FM.tr c5, FF.tr (c6.w ⟨Nat.le_refl _, by omega⟩), xEq.bin (l1 := 2) (l2 := 2) (by omega) a7 c7, d1, by omega, by omega, ?_⟩⟩
        obtain ⟨g1, g2, g3, g4⟩ := c11
        have e196 : r12 196 = r8 196 := d2 196 rfl
        refine ⟨fun h => ?_, fun h => ?_, fun _ h => ?_, fun h => by omega⟩
        · show ¬ r12 196 4 = _; rw [e196]; exact g1 (by omega)
        · show ¬ r12 196 4 = _ ∧ ¬ r12 196 4 = _; rw [e196]; exact g2 (by omega)
        · rw [h14c] at h; exact absurd h (by decide)
    · have n23 : ¬ r11 196 4 = nI 23 := fun h9 => hs ⟨2, Or.inl rfl, h9⟩
      have n24 : ¬ r11 196 4 = nI 24 := fun h9 => hs ⟨3, Or.inr rfl, h9⟩
      rw [hT0 r11 q12 n23 n24]
      exact ⟨hfe, Or.inr ⟨rfl, b', e', n', rm1, qm1, CE, FE, rfl, a2, a3, a4, a5, a6.w ⟨Nat.le_refl _, by omega⟩, a7.up, a8, by omega, by omega, ⟨fun _ => e1 (by omega), fun _ => e2 (by omega), fun _ _ => ⟨n23, n24⟩, fun h => by omega⟩⟩⟩
theorem xzif1 {β : Type} {r : zRr} {q : zRq} {A B : zRr → zRq → β} : zc_vrq ((1 : Int32), r, q) (fun v r q => zif (v = 0) (A r q) (B r q)) = B r q := (zc_vrqQ _ _).trans ((zifQ _ _ _).trans (if_neg (fun h => absurd h (show ¬ (1 : Int32) = 0 by decide))))
theorem xzif0 {β : Type} {r : zRr} {q : zRq} {A B : zRr → zRq → β} : zc_vrq ((0 : Int32), r, q) (fun v r q => zif (v = 0) (A r q) (B r q)) = A r q := (zc_vrqQ _ _).trans ((zifQ _ _ _).trans (if_pos rfl))
theorem xEnd.zero {w : Nat} {r rm : zRr} : xEnd 0 w r rm := ⟨fun h => by omega, fun h => by omega, fun h => by omega, fun h => by omega⟩
/-- a PART -/
theorem xpart {w : Nat} (hw : w ≤ 4) {K KP KW : zRr → zRq → Int32 × zRr × zRq} (hP : xSimP (w + 1) KP) (hW : xSim 4 (w + 1) (w + 1) KW)
    (hB : ∀ r q, ¬ r 196 4 = nI 18 → ¬ r 196 4 = nI 21 → Gk_valueHere r q = -13 → K r q = (0, (Gk_wrong 1 r q).2, q))
    (hV : ∀ r q, ¬ r 196 4 = nI 18 → ¬ r 196 4 = nI 21 → ¬ Gk_valueHere r q = -13 → K r q = zc_rq (Gk_step r q) (fun r5 q6 => (1, Gk_add (Gk_valueHere r q) r5 q6, q6)))
    (hN : ∀ r q, r 196 4 = nI 18 → K r q = zc_rq (Gk_step r q) (fun r5 q6 => zc_vrq (KP r5 q6) (fun v r14 q15 => zifn (v = 0) (1, Gk_add (-5) r14 q15, q15) (0, r14, q15))))
    (hO : ∀ r q, r 196 4 = nI 21 → K r q = zc_rq (Gk_step r q) (fun r5 q6 => zc_vrq (KW r5 q6) (fun v r22 q23 => zif (v = 0) (0, r22, q23) (zc_vrq (Gk_take 22 r22 q23) (fun v r29 q30 => zif (v = 0) (0, r29, q30) (1, r29, q30)))))) : xSimP w K := by
  intro L b e n r q rm qm C F hT hC hCl hFl hn
  have hp := hT.P.hp; have hL := hT.P.hL; have hb := hT.hb
  obtain ⟨n0, rfl⟩ : ∃ n0, n = n0 + 1 := ⟨n - 1, by omega⟩
  have w5 : ¬ nI w = 5 := fun h9 => by have := (nI_eq (b := 5) (by omega) (by omega)).mp h9; omega
  have ez : zn (nI (w + 1)) = w + 1 := xzn (by omega)
  have lt31 : ∀ s, s < 31 → r 196 4 = nI s → b < e := fun s hs h9 => hT.lt (by rw [h9]; intro h8; have := (nI_eq (b := 31) (by omega) (by omega)).mp h8; omega)
  by_cases h18 : r 196 4 = nI 18
  · -- not
    have hlt := lt31 18 (by decide) h18
    have hF1 : F.length < 1000 := by omega
    have hw1 := hT.wd1 (C := 10631) 18 (by decide) (by decide) h18
    obtain ⟨p1, p2, p3⟩ := xputs (a := 30) (qm := qm) hC hF1
    have hR : Gm_reads_11 (n0 + 1) (nI w) 1 rm qm = xNx n0 (nI (w + 1)) 1 (zset (zset (Gm_puts 30 rm qm) 13 (upd (Gm_puts 30 rm qm 13) (w + 1) 1)) 14 (upd (Gm_puts 30 rm qm 14) (w + 1) 0)) qm := by
      rw [xwGo hT (Or.inr (Or.inl h18)), hw1]
      unfold Gm_reads_65 Gm_reads_172 xNx
      simp only [zifQ, zifnQ, zletQ, if_neg w5, x10, if_false, ez, nI_1]
      rw [zset_ne (r := Gm_puts 30 rm qm) (k := 13) (a := 14) (by decide)]
    rw [hN r q h18, hR]
    generalize Gm_puts 30 rm qm = rp at p1 p2 p3 ⊢
    have p2b : zFr [12, 13, 14, 122] rm (zset (zset rp 13 (upd (rp 13) (w + 1) 1)) 14 (upd (rp 14) (w + 1) 0)) := ((p2.up rfl).set rfl).set rfl
    have hT1 := hT.pre p2b (by decide)
    obtain ⟨b1, e1, r5, q6, rm5, qm6, s1, s2, hT5, hb1, fk, fm⟩ := hT1.next
    unfold xNx
    rw [xrw s1, xrw s2]
    have hC5 : xCod C (F ++ [30]) r5 rm5 := p1.row (fk.1 192 rfl) (fk.1 193 rfl) (fm.1 122 rfl) (fm.1 12 rfl)
    have f13 : rm5 13 = upd (rp 13) (w + 1) 1 := fm.1 13 rfl
    have f14 : rm5 14 = upd (rp 14) (w + 1) 0 := fm.1 14 rfl
    have h := hP L b1 e1 n0 r5 q6 rm5 qm6 C (F ++ [30]) hT5 hC5 (by omega) (by rw [List.length_append]; show _ + 1 ≤ _; omega) (by omega)
    have hd : xbs (rm5 13) (w + 1) = xbs (rm 13) w := by
      show (if rm5 13 (w + 1) = 1 then xbs (rm5 13) w else w + 1) = _
      rw [if_pos (by rw [f13, pk_us])]
      exact xbs_c w (fun j hj => by rw [f13, pk_un (by omega), p2 13 rfl])
    rw [hd] at h
    have FK : xFe r q r5 q6 := xFe.k fk
    have FM : xRl rm qm rm5 qm6 := (show xRl rm qm _ qm from ⟨p2b.up rfl, xFq.refl, p3⟩).tr (xRl.m fm)
    have FF : xRf w (w + 1) rm rm5 := ⟨fun j hj => by rw [f13, pk_un (by omega), p2 13 rfl], fun j hj => by rw [f14, pk_un (by omega), p2 14 rfl]⟩
    generalize KP r5 q6 = o at h ⊢
    obtain ⟨v, r14, q15⟩ := o
    obtain ⟨hfe, h⟩ := h
    rcases h with ⟨a1, a2, a3, a4⟩ | ⟨a0, b', e', n', rm1, qm1, CE, FE, a1, a2, a3, a4, a5, a6, a7, a8, a9, a10, a11⟩
    · have a1 : v = 0 := a1
      rw [show zc_vrq (v, r14, q15) (fun v r14 q15 => zifn (v = 0) ((1 : Int32), Gk_add (-5) r14 q15, q15) ((0 : Int32), r14, q15)) = (0, r14, q15) from if_pos a1]
      exact ⟨FK.tr hfe, Or.inl ⟨rfl, a2, a3, FM.tr a4⟩⟩
    · have a0 : v = 1 := a0
      rw [show zc_vrq (v, r14, q15) (fun v r14 q15 => zifn (v = 0) ((1 : Int32), Gk_add (-5) r14 q15, q15) ((0 : Int32), r14, q15)) = (1, Gk_add (-5) r14 q15, q15) from if_neg (fun h9 => absurd (a0.symm.trans h9) (by decide)), a1]
      have hp' := a4.P.hp; have hb' := a4.hb
      have len2 : (C ++ CE).length = C.length + CE.length := List.length_append
      obtain ⟨d1, d2⟩ := xadd (a := -5) (q := q15) a8 (by omega)
      generalize Gk_add (-5) r14 q15 = r12 at d1 d2 ⊢
      rw [List.append_assoc] at d1
      have eF : F ++ [30] ++ FE = F ++ (30 :: FE) := by simp only [List.append_assoc, List.singleton_append]
      rw [eF] at d1
      have l1 : (CE ++ [-5]).length = CE.length + 1 := by rw [List.length_append]; rfl
      have l2 : (30 :: FE : List Int32).length = FE.length + 1 := rfl
      have hE := a7.nt
      rw [show 5 - (w + 1) + 1 = 5 - w by omega] at hE
      exact ⟨(FK.tr hfe).tr (xFe.of d2 rfl), Or.inr ⟨rfl, b', e', n', rm1, qm1, CE ++ [-5], 30 :: FE, rfl, by omega, a3, a4.row (d2 196 rfl) (d2 197 rfl) rfl rfl rfl rfl rfl rfl rfl rfl, FM.tr a5, FF.tr (a6.w ⟨by omega, by omega⟩), hE, d1, by omega, by omega, xEnd.zero⟩⟩
  · by_cases h21 : r 196 4 = nI 21
    · -- (
      have hlt := lt31 21 (by decide) h21
      have hF1 : F.length < 1000 := by omega
      have hw0 := hT.wd0 (C := 10631) 18 (by decide) (by decide) h18
      have hs1 := hT.sg1 (s := 40) 21 (by decide) rfl h21
      obtain ⟨p1, p2, p3⟩ := xputs (a := 28) (qm := qm) hC hF1
      have hR : Gm_reads_11 (n0 + 1) (nI w) 1 rm qm = xNx n0 (nI (w + 1)) 1 (zset (zset (Gm_puts 28 rm qm) 13 (upd (Gm_puts 28 rm qm 13) (w + 1) 2)) 14 (upd (Gm_puts 28 rm qm 14) (w + 1) 0)) qm := by
        rw [xwGo hT (Or.inr (Or.inr h21)), hw0, hs1]
        unfold Gm_reads_65 Gm_reads_172 xNx
        simp only [zifQ, zifnQ, zletQ, if_neg w5, x10, x00, if_false, if_true, ez, nI_1]
        rw [zset_ne (r := Gm_puts 28 rm qm) (k := 13) (a := 14) (by decide)]
      rw [hO r q h21, hR]
      generalize Gm_puts 28 rm qm = rp at p1 p2 p3 ⊢
      have p2b : zFr [12, 13, 14, 122] rm (zset (zset rp 13 (upd (rp 13) (w + 1) 2)) 14 (upd (rp 14) (w + 1) 0)) := ((p2.up rfl).set rfl).set rfl
      have hT1 := hT.pre p2b (by decide)
      obtain ⟨b1, e1, r5, q6, rm5, qm6, s1, s2, hT5, hb1, fk, fm⟩ := hT1.next
      unfold xNx
      rw [xrw s1, xrw s2]
      have hC5 : xCod C (F ++ [28]) r5 rm5 := p1.row (fk.1 192 rfl) (fk.1 193 rfl) (fm.1 122 rfl) (fm.1 12 rfl)
      have f13 : rm5 13 = upd (rp 13) (w + 1) 2 := fm.1 13 rfl
      have f14 : rm5 14 = upd (rp 14) (w + 1) 0 := fm.1 14 rfl
      have hbs5 : xbs (rm5 13) (w + 1) = w + 1 := by
        show (if rm5 13 (w + 1) = 1 then xbs (rm5 13) w else w + 1) = _
        rw [if_neg (by rw [f13, pk_us]; decide)]
      have h := hW L b1 e1 n0 r5 q6 rm5 qm6 C (F ++ [28]) hT5 hC5 (by omega) (by rw [List.length_append]; show _ + 1 ≤ _; omega) (by omega) hbs5 (fun _ => by rw [f14, pk_us])
      have FK : xFe r q r5 q6 := xFe.k fk
      have FM : xRl rm qm rm5 qm6 := (show xRl rm qm _ qm from ⟨p2b.up rfl, xFq.refl, p3⟩).tr (xRl.m fm)
      have FF : xRf w (w + 1) rm rm5 := ⟨fun j hj => by rw [f13, pk_un (by omega), p2 13 rfl], fun j hj => by rw [f14, pk_un (by omega), p2 14 rfl]⟩
      generalize KW r5 q6 = o at h ⊢
      obtain ⟨v, r22, q23⟩ := o
      obtain ⟨hfe, h⟩ := h
      rcases h with ⟨a1, a2, a3, a4⟩ | ⟨a0, b', e', n', rm1, qm1, CE, FE, a1, a2, a3, a4, a5, a6, a7, a8, a9, a10, a11⟩
      · have a1 : v = 0 := a1
        rw [show zc_vrq (v, r22, q23) (fun v r22 q23 => zif (v = 0) ((0 : Int32), r22, q23) (zc_vrq (Gk_take 22 r22 q23) (fun v r29 q30 => zif (v = 0) ((0 : Int32), r29, q30) ((1 : Int32), r29, q30)))) = (0, r22, q23) from if_pos a1]
        exact ⟨FK.tr hfe, Or.inl ⟨rfl, a2, a3, FM.tr a4⟩⟩
      · have a0 : v = 1 := a0
        rw [show zc_vrq (v, r22, q23) (fun v r22 q23 => zif (v = 0) ((0 : Int32), r22, q23) (zc_vrq (Gk_take 22 r22 q23) (fun v r29 q30 => zif (v = 0) ((0 : Int32), r29, q30) ((1 : Int32), r29, q30)))) = zc_vrq (Gk_take 22 r22 q23) (fun v r29 q30 => zif (v = 0) ((0 : Int32), r29, q30) ((1 : Int32), r29, q30)) from if_neg (fun h9 => absurd (a0.symm.trans h9) (by decide)), a1]
        have a4 : xTok L b' e' r22 q23 rm1 qm1 := a4
        have a8 : xCod (C ++ CE) (F ++ [28] ++ FE) r22 rm1 := a8
        have hp' := a4.P.hp; have hb' := a4.hb
        obtain ⟨n1, rfl⟩ : ∃ n1, n' = n1 + 1 := ⟨n' - 1, by omega⟩
        have len2 : (C ++ CE).length = C.length + CE.length := List.length_append
        have lenF : (F ++ [28] ++ FE).length = F.length + 1 + FE.length := by simp only [List.length_append, List.length_cons, List.length_nil]
        by_cases h22 : r22 196 4 = nI 22
        · have hlt2 : b' < e' := a4.lt (by rw [h22]; decide)
          rw [xhClose a4 (by omega) h22]
          obtain ⟨m1, m2, m3⟩ := xputs (a := 29) (qm := qm1) a8 (by omega)
          generalize Gm_puts 29 rm1 qm1 = rp2 at m1 m2 m3 ⊢
          have hT2 := a4.pre (rm1 := rp2) m2 (by decide)
          obtain ⟨b2, e2, r29, q30, rm29, qm30, t1, t2, hT29, hb2, fk2, fm2⟩ := hT2.next
          have ht : Gk_take 22 r22 q23 = (1, r29, q30) := by
            unfold Gk_take
            simp only [zifQ, zletQ]
            rw [if_pos (by rw [h22]; rfl)]
            exact xrw t1
          unfold xNx
          rw [ht, xrw t2, xzif1]
          have f13b : rm29 13 = rm1 13 := (fm2.1 13 rfl).trans (m2 13 rfl)
          have f14b : rm29 14 = rm1 14 := (fm2.1 14 rfl).trans (m2 14 rfl)
          have hd : xbs (rp2 13) w = xbs (rm 13) w := xbs_c w (fun j hj => by rw [m2 13 rfl, a6.1 j (by omega)]; exact FF.1 j hj)
          rw [hd]
          have hC9 : xCod (C ++ CE) (F ++ [28] ++ FE ++ [29]) r29 rm29 := m1.row (fk2.1 192 rfl) (fk2.1 193 rfl) (fm2.1 122 rfl) (fm2.1 12 rfl)
          have eF : F ++ [28] ++ FE ++ [29] = F ++ (28 :: (FE ++ [29])) := by simp only [List.append_assoc, List.singleton_append, List.cons_append, List.nil_append]
          rw [eF] at hC9
          have l2 : (28 :: (FE ++ [29]) : List Int32).length = FE.length + 2 := by simp only [List.length_append, List.length_cons, List.length_nil]
          have hE := a7.par
          rw [show 5 - (w + 1) + 1 = 5 - w by omega] at hE
          refine ⟨(FK.tr hfe).tr (xFe.k fk2), Or.inr ⟨rfl, b2, e2, n1, rm29, qm30, CE, 28 :: (FE ++ [29]), rfl, by omega, by omega, hT29, FM.tr (a5.tr ((xRl.puts m2 m3).tr (xRl.m fm2))), FF.tr ⟨fun j hj => ?_, fun j hj => ?_⟩, hE, hC9, by omega, by omega, xEnd.zero⟩⟩
          · rw [f13b, a6.1 j (by omega)]
          · rw [f14b, a6.2 j hj]
        · obtain ⟨g1, g2, g3, g4⟩ := a11
          have ht : Gk_take 22 r22 q23 = (0, (Gk_wrong 1 r22 q23).2, q23) := by
            unfold Gk_take
            simp only [zifQ, zletQ]
            rw [if_neg (fun h9 => h22 (h9.trans rfl))]
            rfl
          have hbad := xhBad (n := n1) a4 (d := w + 1) (by omega) (g2 (by omega)).1 (g2 (by omega)).2 (g1 (by omega)) (g3 (by omega)) (g4 (by omega)).1 (g4 (by omega)).2 (fun h9 => absurd h9 h22) (fun _ => by omega)
          rw [ht, hbad, xzif0]
          exact (xEo.bad (w := w) (d := xbs (rm 13) w) (c := w + 1) (lev := 0) (z := 0) (zF := 0) (C0 := C) (F0 := F) a4 1).pre (by omega) (by omega) (FK.tr hfe) (FM.tr a5) (FF.tr (a6.w ⟨by omega, by omega⟩))
    · by_cases hv : Gk_valueHere r q = -13
      · rw [hB r q h18 h21 hv, xwBad hT hv h18 h21]
        exact xEo.bad hT 1
      · -- a value
        have hw0 := hT.wd0 (C := 10631) 18 (by decide) (by decide) h18
        have hs0 := hT.sg0 (s := 40) 21 (by decide) rfl h21
        have go : ∀ (a : Int32) (CE FE : List Int32), b < e → Gm_reads_11 (n0 + 1) (nI w) 1 rm qm = zc_rq (Gm_nextToken (Gm_puts a rm qm) qm) (fun r q => Gm_reads_11 n0 (nI (xbs (Gm_puts a rm qm 13) w)) 0 r q) → CE = [Gk_valueHere r q] → FE = [a] → xEq 0 (5 - w) CE FE → xEo L b w (xbs (rm 13) w) (w + 1) 0 0 0 C F r q rm qm (K r q) (Gm_reads_11 (n0 + 1) (nI w) 1 rm qm) := by
          intro a CE FE hlt hR eC eF hE
          subst eC; subst eF
          obtain ⟨p1, p2, p3⟩ := xputs (a := a) (qm := qm) hC (show F.length < 1000 by omega)
          rw [hV r q h18 h21 hv, hR]
          generalize Gm_puts a rm qm = rp at p1 p2 p3 ⊢
          have hT1 := hT.pre (rm1 := rp) p2 (by decide)
          obtain ⟨b1, e1, r5, q6, rm5, qm6, s1, s2, hT5, hb1, fk, fm⟩ := hT1.next
          rw [xrw s1, xrw s2]
          have hC5 : xCod C (F ++ [a]) r5 rm5 := p1.row (fk.1 192 rfl) (fk.1 193 rfl) (fm.1 122 rfl) (fm.1 12 rfl)
          have hp5 := hT5.P.hp; have hb5 := hT5.hb
          obtain ⟨d1, d2⟩ := xadd (a := Gk_valueHere r q) (q := q6) hC5 (by omega)
          generalize Gk_add (Gk_valueHere r q) r5 q6 = r12 at d1 d2 ⊢
          have hd : xbs (rp 13) w = xbs (rm 13) w := by rw [p2 13 rfl]
          rw [hd]
          have f13 : rm5 13 = rm 13 := (fm.1 13 rfl).trans (p2 13 rfl)
          have f14 : rm5 14 = rm 14 := (fm.1 14 rfl).trans (p2 14 rfl)
          exact ⟨(xFe.k fk).tr (xFe.of d2 rfl), Or.inr ⟨rfl, b1, e1, n0, rm5, qm6, _, _, rfl, by omega, by omega, hT5.row (d2 196 rfl) (d2 197 rfl) rfl rfl rfl rfl rfl rfl rfl rfl, (xRl.puts p2 p3).tr (xRl.m fm), xRf.row f13 f14, hE, d1, by show 1 + b ≤ _; omega, by show 1 + b ≤ _; omega, xEnd.zero⟩⟩
        have hG := xwGo (n := n0) (d := nI w) hT (Or.inl hv)
        rw [hw0, hs0] at hG
        rcases xfactV hT with ⟨h1, _⟩ | ⟨h30, f0, _, hval, hz⟩ | ⟨h29, k, k1, k4, hf, hval⟩
        · exact absurd h1 hv
        · refine go (100 + rm 108 0) _ _ (lt31 30 (by decide) h30) ?_ rfl rfl (by rw [hval]; exact xEq.num hz)
          rw [hG, f0]
          unfold Gm_reads_65
          simp only [zifQ, zifnQ, zletQ, if_neg w5, x00, if_true, if_pos (show (0 : Int32) ≤ 0 by decide), xpop152 5 w (show w < 5 by omega) (show w ≤ 5 by omega)]
        · refine go (nI k) _ _ (lt31 29 (by decide) h29) ?_ rfl rfl (by rw [hval]; exact xEq.fact ⟨k1, k4⟩)
          have hk0 : ¬ nI k ≤ 0 := by
            rw [show (0 : Int32) = nI 0 from nI_0.symm]; intro h2; have := (nI_leI (by omega) (by omega)).mp h2; omega
          rw [hG, hf]
          unfold Gm_reads_65
          simp only [zifQ, zifnQ, zletQ, if_neg w5, x00, if_true, if_neg hk0, xpop152 5 w (show w < 5 by omega) (show w ≤ 5 by omega)]
/-- a PART within five others: none may stand there -/
theorem xpart5 {K : zRr → zRq → Int32 × zRr × zRq}
    (hB : ∀ r q, ¬ r 196 4 = nI 18 → ¬ r 196 4 = nI 21 → Gk_valueHere r q = -13 → K r q = (0, (Gk_wrong 1 r q).2, q))
    (hG : ∀ r q, (¬ Gk_valueHere r q = -13 ∨ r 196 4 = nI 18 ∨ r 196 4 = nI 21) → K r q = (0, (Gk_wrong 5 r q).2, q)) : xSimP 5 K := by
  intro L b e n r q rm qm C F hT hC hCl hFl hn
  have hp := hT.P.hp; have hL := hT.P.hL; have hb := hT.hb
  obtain ⟨n0, rfl⟩ : ∃ n0, n = n0 + 1 := ⟨n - 1, by omega⟩
  by_cases hv : ¬ Gk_valueHere r q = -13 ∨ r 196 4 = nI 18 ∨ r 196 4 = nI 21
  · rw [hG r q hv, xwGo hT hv]
    have e5 : Gm_reads_65 (nI 5) 1 rm qm (Gm_reads_11 n0) (Gm_fact rm qm) (Gm_isWord 10631 rm qm) (Gm_isSign 40 rm qm) = (0, (Gm_fails 5 rm qm).2, qm) := by
      unfold Gm_reads_65
      simp only [zifnQ]
      rw [if_pos (show nI 5 = 5 from rfl)]
      exact Prod.ext rfl rfl
    rw [e5]
    exact xEo.bad hT 5
  · have h1 : Gk_valueHere r q = -13 := Classical.byContradiction (fun h => hv (Or.inl h))
    have h2 : ¬ r 196 4 = nI 18 := fun h => hv (Or.inr (Or.inl h))
    have h3 : ¬ r 196 4 = nI 21 := fun h => hv (Or.inr (Or.inr h))
    rw [hB r q h2 h3 h1, xwBad hT h1 h2 h3]
    exact xEo.bad hT 1
/-! ===== the readers of an E at each level ===== -/
theorem xJ1s {s k : Nat} (h : xJ 1 s = some k) : s = 27 ∧ k = 6 := by
  unfold xJ at h; rw [if_pos rfl] at h
  by_cases h1 : s = 27
  · rw [if_pos h1] at h; cases h; exact ⟨h1, rfl⟩
  · rw [if_neg h1] at h; cases h
theorem xJ1n {s : Nat} (h : xJ 1 s = none) : s ≠ 27 := by
  intro h1; unfold xJ at h; rw [if_pos rfl, if_pos h1] at h; cases h
theorem xJ2s {s k : Nat} (h : xJ 2 s = some k) : (s = 25 ∧ k = 4) ∨ (s = 26 ∧ k = 5) := by
  unfold xJ at h; rw [if_neg (by decide), if_pos rfl] at h
  by_cases h1 : s = 25
  · rw [if_pos h1] at h; cases h; exact Or.inl ⟨h1, rfl⟩
  · rw [if_neg h1] at h
    by_cases h2 : s = 26
    · rw [if_pos h2] at h; cases h; exact Or.inr ⟨h2, rfl⟩
    · rw [if_neg h2] at h; cases h
theorem xJ2n {s : Nat} (h : xJ 2 s = none) : s ≠ 25 ∧ s ≠ 26 := by
  unfold xJ at h; rw [if_neg (by decide), if_pos rfl] at h
  refine ⟨fun h1 => ?_, fun h1 => ?_⟩
  · rw [if_pos h1] at h; cases h
  · rw [if_neg (by omega), if_pos h1] at h; cases h
theorem xJ4s {s k : Nat} (h : xJ 4 s = some k) : (s = 19 ∧ k = 0) ∨ (s = 20 ∧ k = 1) := by
  unfold xJ at h; rw [if_neg (by decide), if_neg (by decide)] at h
  by_cases h1 : s = 19
  · rw [if_pos h1] at h; cases h; exact Or.inl ⟨h1, rfl⟩
  · rw [if_neg h1] at h
    by_cases h2 : s = 20
    · rw [if_pos h2] at h; cases h; exact Or.inr ⟨h2, rfl⟩
    · rw [if_neg h2] at h; cases h
theorem xJ4n {s : Nat} (h : xJ 4 s = none) : s ≠ 19 ∧ s ≠ 20 := by
  unfold xJ at h; rw [if_neg (by decide), if_neg (by decide)] at h
  refine ⟨fun h1 => ?_, fun h1 => ?_⟩
  · rw [if_pos h1] at h; cases h
  · rw [if_neg (by omega), if_pos h1] at h; cases h
theorem x1000 {i : Nat} (h : 1000 ≤ i ∧ i ≤ 1001) : (1000 : Int32) ≤ nI i := (nI_leI (a := 1000) (by omega) (by omega)).mpr h.1
theorem x1000n {i : Nat} (h : i < 1000) : ¬ (1000 : Int32) ≤ nI i := fun h2 => by have := (nI_leI (a := 1000) (by omega) (by omega)).mp h2; omega
theorem x513 : ((-5 : Int32) = -13) = False := eq_false (by decide)
theorem xP5 : xSimP 5 Gk_readPart5 := by
  refine xpart5 ?_ ?_
  · intro r q h18 h21 hv
    have h18 : ¬ r 196 4 = 18 := h18
    have h21 : ¬ r 196 4 = 21 := h21
    unfold Gk_readPart5 Gk_readPart5_15 Gk_readPart5_31 Gk_readPart5_47 Gk_readPart5_66
    simp only [zifQ, zifnQ, zletQ, if_neg h18, if_neg h21, hv, x00, if_true]
    exact Prod.ext rfl rfl
  · intro r q hv
    by_cases h21 : r 196 4 = 21
    · have h18 : ¬ r 196 4 = 18 := by rw [h21]; decide
      unfold Gk_readPart5 Gk_readPart5_15 Gk_readPart5_31 Gk_readPart5_47 Gk_readPart5_66
      simp only [zifQ, zifnQ, zletQ, if_neg h18, if_pos h21, x00, x10, if_true, if_false]
      exact Prod.ext rfl rfl
    · by_cases h18 : r 196 4 = 18
      · unfold Gk_readPart5 Gk_readPart5_15 Gk_readPart5_31 Gk_readPart5_47 Gk_readPart5_66
        simp only [zifQ, zifnQ, zletQ, if_pos h18, if_neg h21, x00, x10, x513, if_true, if_false]
        exact Prod.ext rfl rfl
      · have hv : ¬ Gk_valueHere r q = -13 := by
          rcases hv with h | h | h
          · exact h
          · exact absurd h h18
          · exact absurd h h21
        unfold Gk_readPart5 Gk_readPart5_15 Gk_readPart5_31 Gk_readPart5_47 Gk_readPart5_66
        simp only [zifQ, zifnQ, zletQ, if_neg h18, if_neg h21, if_neg hv, x00, if_true]
        exact Prod.ext rfl rfl
theorem xR5 : xSim 1 5 6 Gk_readProduct5 := by
  refine xlevel (lev := 1) (w := 5) (c := 6) (Or.inl rfl) (by decide) (fun h => absurd h (by decide)) (K := Gk_readPart5) (loop := Gk_readProduct5_13) xP5.s ?_ ?_ ?_ ?_
  · intro m i r q h
    show Bk_readProduct5_13 (Gk_readProduct5_13 m) (nI i) r q = _
    unfold Bk_readProduct5_13
    simp only [zifQ, if_pos (x1000 h)]
  · intro m i s r q hi hs h32 hj
    have h27 : ¬ r 196 4 = 27 := xne hs (xJ1n hj) (by omega) (b := 27) (by omega)
    show Bk_readProduct5_13 (Gk_readProduct5_13 m) (nI i) r q = _
    unfold Bk_readProduct5_13
    simp only [zifQ, zifnQ, zletQ, if_neg (x1000n hi), if_neg h27]
  · intro m i s k r q hi hs h32 hj
    obtain ⟨rfl, rfl⟩ := xJ1s hj
    have h27 : r 196 4 = 27 := hs
    show Bk_readProduct5_13 (Gk_readProduct5_13 m) (nI i) r q = _
    unfold Bk_readProduct5_13
    simp only [zifQ, zifnQ, zletQ, if_neg (x1000n hi), if_pos h27, nI_1, show xok 6 = -12 from rfl]
  · intro r q
    unfold Gk_readProduct5
    simp only [zifnQ, nI_0]
theorem xZ5 : xSim 2 5 6 Gk_readSum5 := by
  refine xlevel (lev := 2) (w := 5) (c := 6) (Or.inr (Or.inl rfl)) (by decide) (fun h => absurd h (by decide)) (K := Gk_readProduct5) (loop := Gk_readSum5_13) xR5 ?_ ?_ ?_ ?_
  · intro m i r q h
    show Bk_readSum5_13 (Gk_readSum5_13 m) (nI i) r q = _
    unfold Bk_readSum5_13
    simp only [zifQ, if_pos (x1000 h)]
  · intro m i s r q hi hs h32 hj
    have h1 : ¬ r 196 4 = 25 := xne hs (xJ2n hj).1 (by omega) (b := 25) (by omega)
    have h2 : ¬ r 196 4 = 26 := xne hs (xJ2n hj).2 (by omega) (b := 26) (by omega)
    show Bk_readSum5_13 (Gk_readSum5_13 m) (nI i) r q = _
    unfold Bk_readSum5_13
    simp only [zifQ, zifnQ, zletQ, if_neg (x1000n hi), if_neg h1, if_neg h2]
  · intro m i s k r q hi hs h32 hj
    rcases xJ2s hj with ⟨rfl, rfl⟩ | ⟨rfl, rfl⟩
    · have h1 : r 196 4 = 25 := hs
      show Bk_readSum5_13 (Gk_readSum5_13 m) (nI i) r q = _
      unfold Bk_readSum5_13 Gk_readSum5_40 Gk_readSum5_57
      simp only [zifQ, zifnQ, zletQ, if_neg (x1000n hi), if_pos h1, nI_1, show xok 4 = -10 from rfl]
    · have h1 : r 196 4 = 26 := hs
      have h2 : ¬ r 196 4 = 25 := by rw [h1]; decide
      show Bk_readSum5_13 (Gk_readSum5_13 m) (nI i) r q = _
      unfold Bk_readSum5_13 Gk_readSum5_40 Gk_readSum5_57
      simp only [zifQ, zifnQ, zletQ, if_neg (x1000n hi), if_pos h1, if_neg h2, nI_1, show xok 5 = -11 from rfl]
  · intro r q
    unfold Gk_readSum5
    simp only [zifnQ, nI_0]
noncomputable def xT5 (r : zRr) (q : zRq) : Int32 × zRr × zRq := zif (r 196 4 = 23) (Gk_readTest5_33 r q) (zif (r 196 4 = 24) (Gk_readTest5_33 r q) (1, r, q))
theorem xY5 : xSim 3 5 5 Gk_readTest5 := by
  refine xtest (w := 5) (by decide) (K := Gk_readSum5) (T := xT5) xZ5 ?_ ?_ ?_
  · intro r q h1 h2
    have h1 : ¬ r 196 4 = 23 := h1
    have h2 : ¬ r 196 4 = 24 := h2
    unfold xT5
    simp only [zifQ, if_neg h1, if_neg h2]
  · intro r q k hk hs
    rcases hk with rfl | rfl
    · have h1 : r 196 4 = 23 := hs
      unfold xT5 Gk_readTest5_33 Gk_readTest5_50
      simp only [zifQ, zifnQ, zletQ, if_pos h1, show xok 2 = -8 from rfl]
    · have h1 : r 196 4 = 24 := hs
      have h2 : ¬ r 196 4 = 23 := by rw [h1]; decide
      unfold xT5 Gk_readTest5_33 Gk_readTest5_50
      simp only [zifQ, zifnQ, zletQ, if_pos h1, if_neg h2, show xok 3 = -9 from rfl]
  · intro r q
    unfold Gk_readTest5 xT5
    simp only [zletQ]
theorem xW5 : xSim 4 5 5 Gk_readWhole5 := by
  refine xlevel (lev := 4) (w := 5) (c := 5) (Or.inr (Or.inr rfl)) (by decide) (fun h => rfl) (K := Gk_readTest5) (loop := Gk_readWhole5_13) xY5 ?_ ?_ ?_ ?_
  · intro m i r q h
    show Bk_readWhole5_13 (Gk_readWhole5_13 m) (nI i) r q = _
    unfold Bk_readWhole5_13
    simp only [zifQ, if_pos (x1000 h)]
  · intro m i s r q hi hs h32 hj
    have h1 : ¬ r 196 4 = 19 := xne hs (xJ4n hj).1 (by omega) (b := 19) (by omega)
    have h2 : ¬ r 196 4 = 20 := xne hs (xJ4n hj).2 (by omega) (b := 20) (by omega)
    show Bk_readWhole5_13 (Gk_readWhole5_13 m) (nI i) r q = _
    unfold Bk_readWhole5_13
    simp only [zifQ, zifnQ, zletQ, if_neg (x1000n hi), if_neg h1, if_neg h2]
  · intro m i s k r q hi hs h32 hj
    rcases xJ4s hj with ⟨rfl, rfl⟩ | ⟨rfl, rfl⟩
    · have h1 : r 196 4 = 19 := hs
      show Bk_readWhole5_13 (Gk_readWhole5_13 m) (nI i) r q = _
      unfold Bk_readWhole5_13 Gk_readWhole5_40 Gk_readWhole5_57
      simp only [zifQ, zifnQ, zletQ, if_neg (x1000n hi), if_pos h1, nI_1, show xok 0 = -6 from rfl]
    · have h1 : r 196 4 = 20 := hs
      have h2 : ¬ r 196 4 = 19 := by rw [h1]; decide
      show Bk_readWhole5_13 (Gk_readWhole5_13 m) (nI i) r q = _
      unfold Bk_readWhole5_13 Gk_readWhole5_40 Gk_readWhole5_57
      simp only [zifQ, zifnQ, zletQ, if_neg (x1000n hi), if_pos h1, if_neg h2, nI_1, show xok 1 = -7 from rfl]
  · intro r q
    unfold Gk_readWhole5
    simp only [zifnQ, nI_0]
theorem xP4 : xSimP 4 Gk_readPart4 := by
  refine xpart (w := 4) (by decide) xP5 xW5 ?_ ?_ ?_ ?_
  · intro r q h18 h21 hv
    have h18 : ¬ r 196 4 = 18 := h18
    have h21 : ¬ r 196 4 = 21 := h21
    unfold Gk_readPart4 Gk_readPart4_15 Gk_readPart4_31 Gk_readPart4_47 Gk_readPart4_66
    simp only [zifQ, zifnQ, zletQ, if_neg h18, if_neg h21, hv, x00, if_true]
    exact Prod.ext rfl rfl
  · intro r q h18 h21 hv
    have h18 : ¬ r 196 4 = 18 := h18
    have h21 : ¬ r 196 4 = 21 := h21
    unfold Gk_readPart4 Gk_readPart4_15 Gk_readPart4_31 Gk_readPart4_47 Gk_readPart4_66 Gk_readPart4_130
    simp only [zifQ, zifnQ, zletQ, if_neg h18, if_neg h21, if_neg hv, x00, if_true]
  · intro r q h18
    have h18 : r 196 4 = 18 := h18
    have h21 : ¬ r 196 4 = 21 := by rw [h18]; decide
    unfold Gk_readPart4 Gk_readPart4_15 Gk_readPart4_31 Gk_readPart4_47 Gk_readPart4_66 Gk_readPart4_130
    simp only [zifQ, zifnQ, zletQ, if_pos h18, if_neg h21, x00, x10, x513, if_true, if_false]
  · intro r q h21
    have h21 : r 196 4 = 21 := h21
    have h18 : ¬ r 196 4 = 18 := by rw [h21]; decide
    unfold Gk_readPart4 Gk_readPart4_15 Gk_readPart4_31 Gk_readPart4_47 Gk_readPart4_66
    simp only [zifQ, zifnQ, zletQ, if_pos h21, if_neg h18, x00, x10, if_true, if_false]
theorem xR4 : xSim 1 4 5 Gk_readProduct4 := by
  refine xlevel (lev := 1) (w := 4) (c := 5) (Or.inl rfl) (by decide) (fun h => absurd h (by decide)) (K := Gk_readPart4) (loop := Gk_readProduct4_13) xP4.s ?_ ?_ ?_ ?_
  · intro m i r q h
    show Bk_readProduct4_13 (Gk_readProduct4_13 m) (nI i) r q = _
    unfold Bk_readProduct4_13
    simp only [zifQ, if_pos (x1000 h)]
  · intro m i s r q hi hs h32 hj
    have h27 : ¬ r 196 4 = 27 := xne hs (xJ1n hj) (by omega) (b := 27) (by omega)
    show Bk_readProduct4_13 (Gk_readProduct4_13 m) (nI i) r q = _
    unfold Bk_readProduct4_13
    simp only [zifQ, zifnQ, zletQ, if_neg (x1000n hi), if_neg h27]
  · intro m i s k r q hi hs h32 hj
    obtain ⟨rfl, rfl⟩ := xJ1s hj
    have h27 : r 196 4 = 27 := hs
    show Bk_readProduct4_13 (Gk_readProduct4_13 m) (nI i) r q = _
    unfold Bk_readProduct4_13
    simp only [zifQ, zifnQ, zletQ, if_neg (x1000n hi), if_pos h27, nI_1, show xok 6 = -12 from rfl]
  · intro r q
    unfold Gk_readProduct4
    simp only [zifnQ, nI_0]
theorem xZ4 : xSim 2 4 5 Gk_readSum4 := by
  refine xlevel (lev := 2) (w := 4) (c := 5) (Or.inr (Or.inl rfl)) (by decide) (fun h => absurd h (by decide)) (K := Gk_readProduct4) (loop := Gk_readSum4_13) xR4 ?_ ?_ ?_ ?_
  · intro m i r q h
    show Bk_readSum4_13 (Gk_readSum4_13 m) (nI i) r q = _
    unfold Bk_readSum4_13
    simp only [zifQ, if_pos (x1000 h)]
  · intro m i s r q hi hs h32 hj
    have h1 : ¬ r 196 4 = 25 := xne hs (xJ2n hj).1 (by omega) (b := 25) (by omega)
    have h2 : ¬ r 196 4 = 26 := xne hs (xJ2n hj).2 (by omega) (b := 26) (by omega)
    show Bk_readSum4_13 (Gk_readSum4_13 m) (nI i) r q = _
    unfold Bk_readSum4_13
    simp only [zifQ, zifnQ, zletQ, if_neg (x1000n hi), if_neg h1, if_neg h2]
  · intro m i s k r q hi hs h32 hj
    rcases xJ2s hj with ⟨rfl, rfl⟩ | ⟨rfl, rfl⟩
    · have h1 : r 196 4 = 25 := hs
      show Bk_readSum4_13 (Gk_readSum4_13 m) (nI i) r q = _
      unfold Bk_readSum4_13 Gk_readSum4_40 Gk_readSum4_57
      simp only [zifQ, zifnQ, zletQ, if_neg (x1000n hi), if_pos h1, nI_1, show xok 4 = -10 from rfl]
    · have h1 : r 196 4 = 26 := hs
      have h2 : ¬ r 196 4 = 25 := by rw [h1]; decide
      show Bk_readSum4_13 (Gk_readSum4_13 m) (nI i) r q = _
      unfold Bk_readSum4_13 Gk_readSum4_40 Gk_readSum4_57
      simp only [zifQ, zifnQ, zletQ, if_neg (x1000n hi), if_pos h1, if_neg h2, nI_1, show xok 5 = -11 from rfl]
  · intro r q
    unfold Gk_readSum4
    simp only [zifnQ, nI_0]
noncomputable def xT4 (r : zRr) (q : zRq) : Int32 × zRr × zRq := zif (r 196 4 = 23) (Gk_readTest4_33 r q) (zif (r 196 4 = 24) (Gk_readTest4_33 r q) (1, r, q))
theorem xY4 : xSim 3 4 4 Gk_readTest4 := by
  refine xtest (w := 4) (by decide) (K := Gk_readSum4) (T := xT4) xZ4 ?_ ?_ ?_
  · intro r q h1 h2
    have h1 : ¬ r 196 4 = 23 := h1
    have h2 : ¬ r 196 4 = 24 := h2
    unfold xT4
    simp only [zifQ, if_neg h1, if_neg h2]
  · intro r q k hk hs
    rcases hk with rfl | rfl
    · have h1 : r 196 4 = 23 := hs
      unfold xT4 Gk_readTest4_33 Gk_readTest4_50
      simp only [zifQ, zifnQ, zletQ, if_pos h1, show xok 2 = -8 from rfl]
    · have h1 : r 196 4 = 24 := hs
      have h2 : ¬ r 196 4 = 23 := by rw [h1]; decide
      unfold xT4 Gk_readTest4_33 Gk_readTest4_50
      simp only [zifQ, zifnQ, zletQ, if_pos h1, if_neg h2, show xok 3 = -9 from rfl]
  · intro r q
    unfold Gk_readTest4 xT4
    simp only [zletQ]
theorem xW4 : xSim 4 4 4 Gk_readWhole4 := by
  refine xlevel (lev := 4) (w := 4) (c := 4) (Or.inr (Or.inr rfl)) (by decide) (fun h => rfl) (K := Gk_readTest4) (loop := Gk_readWhole4_13) xY4 ?_ ?_ ?_ ?_
  · intro m i r q h
    show Bk_readWhole4_13 (Gk_readWhole4_13 m) (nI i) r q = _
    unfold Bk_readWhole4_13
    simp only [zifQ, if_pos (x1000 h)]
  · intro m i s r q hi hs h32 hj
    have h1 : ¬ r 196 4 = 19 := xne hs (xJ4n hj).1 (by omega) (b := 19) (by omega)
    have h2 : ¬ r 196 4 = 20 := xne hs (xJ4n hj).2 (by omega) (b := 20) (by omega)
    show Bk_readWhole4_13 (Gk_readWhole4_13 m) (nI i) r q = _
    unfold Bk_readWhole4_13
    simp only [zifQ, zifnQ, zletQ, if_neg (x1000n hi), if_neg h1, if_neg h2]
  · intro m i s k r q hi hs h32 hj
    rcases xJ4s hj with ⟨rfl, rfl⟩ | ⟨rfl, rfl⟩
    · have h1 : r 196 4 = 19 := hs
      show Bk_readWhole4_13 (Gk_readWhole4_13 m) (nI i) r q = _
      unfold Bk_readWhole4_13 Gk_readWhole4_40 Gk_readWhole4_57
      simp only [zifQ, zifnQ, zletQ, if_neg (x1000n hi), if_pos h1, nI_1, show xok 0 = -6 from rfl]
    · have h1 : r 196 4 = 20 := hs
      have h2 : ¬ r 196 4 = 19 := by rw [h1]; decide
      show Bk_readWhole4_13 (Gk_readWhole4_13 m) (nI i) r q = _
      unfold Bk_readWhole4_13 Gk_readWhole4_40 Gk_readWhole4_57
      simp only [zifQ, zifnQ, zletQ, if_neg (x1000n hi), if_pos h1, if_neg h2, nI_1, show xok 1 = -7 from rfl]
  · intro r q
    unfold Gk_readWhole4
    simp only [zifnQ, nI_0]
theorem xP3 : xSimP 3 Gk_readPart3 := by
  refine xpart (w := 3) (by decide) xP4 xW4 ?_ ?_ ?_ ?_
  · intro r q h18 h21 hv
    have h18 : ¬ r 196 4 = 18 := h18
    have h21 : ¬ r 196 4 = 21 := h21
    unfold Gk_readPart3 Gk_readPart3_15 Gk_readPart3_31 Gk_readPart3_47 Gk_readPart3_66
    simp only [zifQ, zifnQ, zletQ, if_neg h18, if_neg h21, hv, x00, if_true]
    exact Prod.ext rfl rfl
  · intro r q h18 h21 hv
    have h18 : ¬ r 196 4 = 18 := h18
    have h21 : ¬ r 196 4 = 21 := h21
    unfold Gk_readPart3 Gk_readPart3_15 Gk_readPart3_31 Gk_readPart3_47 Gk_readPart3_66 Gk_readPart3_130
    simp only [zifQ, zifnQ, zletQ, if_neg h18, if_neg h21, if_neg hv, x00, if_true]
  · intro r q h18
    have h18 : r 196 4 = 18 := h18
    have h21 : ¬ r 196 4 = 21 := by rw [h18]; decide
    unfold Gk_readPart3 Gk_readPart3_15 Gk_readPart3_31 Gk_readPart3_47 Gk_readPart3_66 Gk_readPart3_130
    simp only [zifQ, zifnQ, zletQ, if_pos h18, if_neg h21, x00, x10, x513, if_true, if_false]
  · intro r q h21
    have h21 : r 196 4 = 21 := h21
    have h18 : ¬ r 196 4 = 18 := by rw [h21]; decide
    unfold Gk_readPart3 Gk_readPart3_15 Gk_readPart3_31 Gk_readPart3_47 Gk_readPart3_66
    simp only [zifQ, zifnQ, zletQ, if_pos h21, if_neg h18, x00, x10, if_true, if_false]
theorem xR3 : xSim 1 3 4 Gk_readProduct3 := by
  refine xlevel (lev := 1) (w := 3) (c := 4) (Or.inl rfl) (by decide) (fun h => absurd h (by decide)) (K := Gk_readPart3) (loop := Gk_readProduct3_13) xP3.s ?_ ?_ ?_ ?_
  · intro m i r q h
    show Bk_readProduct3_13 (Gk_readProduct3_13 m) (nI i) r q = _
    unfold Bk_readProduct3_13
    simp only [zifQ, if_pos (x1000 h)]
  · intro m i s r q hi hs h32 hj
    have h27 : ¬ r 196 4 = 27 := xne hs (xJ1n hj) (by omega) (b := 27) (by omega)
    show Bk_readProduct3_13 (Gk_readProduct3_13 m) (nI i) r q = _
    unfold Bk_readProduct3_13
    simp only [zifQ, zifnQ, zletQ, if_neg (x1000n hi), if_neg h27]
  · intro m i s k r q hi hs h32 hj
    obtain ⟨rfl, rfl⟩ := xJ1s hj
    have h27 : r 196 4 = 27 := hs
    show Bk_readProduct3_13 (Gk_readProduct3_13 m) (nI i) r q = _
    unfold Bk_readProduct3_13
    simp only [zifQ, zifnQ, zletQ, if_neg (x1000n hi), if_pos h27, nI_1, show xok 6 = -12 from rfl]
  · intro r q
    unfold Gk_readProduct3
    simp only [zifnQ, nI_0]
theorem xZ3 : xSim 2 3 4 Gk_readSum3 := by
  refine xlevel (lev := 2) (w := 3) (c := 4) (Or.inr (Or.inl rfl)) (by decide) (fun h => absurd h (by decide)) (K := Gk_readProduct3) (loop := Gk_readSum3_13) xR3 ?_ ?_ ?_ ?_
  · intro m i r q h
    show Bk_readSum3_13 (Gk_readSum3_13 m) (nI i) r q = _
    unfold Bk_readSum3_13
    simp only [zifQ, if_pos (x1000 h)]
  · intro m i s r q hi hs h32 hj
    have h1 : ¬ r 196 4 = 25 := xne hs (xJ2n hj).1 (by omega) (b := 25) (by omega)
    have h2 : ¬ r 196 4 = 26 := xne hs (xJ2n hj).2 (by omega) (b := 26) (by omega)
    show Bk_readSum3_13 (Gk_readSum3_13 m) (nI i) r q = _
    unfold Bk_readSum3_13
    simp only [zifQ, zifnQ, zletQ, if_neg (x1000n hi), if_neg h1, if_neg h2]
  · intro m i s k r q hi hs h32 hj
    rcases xJ2s hj with ⟨rfl, rfl⟩ | ⟨rfl, rfl⟩
    · have h1 : r 196 4 = 25 := hs
      show Bk_readSum3_13 (Gk_readSum3_13 m) (nI i) r q = _
      unfold Bk_readSum3_13 Gk_readSum3_40 Gk_readSum3_57
      simp only [zifQ, zifnQ, zletQ, if_neg (x1000n hi), if_pos h1, nI_1, show xok 4 = -10 from rfl]
    · have h1 : r 196 4 = 26 := hs
      have h2 : ¬ r 196 4 = 25 := by rw [h1]; decide
      show Bk_readSum3_13 (Gk_readSum3_13 m) (nI i) r q = _
      unfold Bk_readSum3_13 Gk_readSum3_40 Gk_readSum3_57
      simp only [zifQ, zifnQ, zletQ, if_neg (x1000n hi), if_pos h1, if_neg h2, nI_1, show xok 5 = -11 from rfl]
  · intro r q
    unfold Gk_readSum3
    simp only [zifnQ, nI_0]
noncomputable def xT3 (r : zRr) (q : zRq) : Int32 × zRr × zRq := zif (r 196 4 = 23) (Gk_readTest3_33 r q) (zif (r 196 4 = 24) (Gk_readTest3_33 r q) (1, r, q))
theorem xY3 : xSim 3 3 3 Gk_readTest3 := by
  refine xtest (w := 3) (by decide) (K := Gk_readSum3) (T := xT3) xZ3 ?_ ?_ ?_
  · intro r q h1 h2
    have h1 : ¬ r 196 4 = 23 := h1
    have h2 : ¬ r 196 4 = 24 := h2
    unfold xT3
    simp only [zifQ, if_neg h1, if_neg h2]
  · intro r q k hk hs
    rcases hk with rfl | rfl
    · have h1 : r 196 4 = 23 := hs
      unfold xT3 Gk_readTest3_33 Gk_readTest3_50
      simp only [zifQ, zifnQ, zletQ, if_pos h1, show xok 2 = -8 from rfl]
    · have h1 : r 196 4 = 24 := hs
      have h2 : ¬ r 196 4 = 23 := by rw [h1]; decide
      unfold xT3 Gk_readTest3_33 Gk_readTest3_50
      simp only [zifQ, zifnQ, zletQ, if_pos h1, if_neg h2, show xok 3 = -9 from rfl]
  · intro r q
    unfold Gk_readTest3 xT3
    simp only [zletQ]
theorem xW3 : xSim 4 3 3 Gk_readWhole3 := by
  refine xlevel (lev := 4) (w := 3) (c := 3) (Or.inr (Or.inr rfl)) (by decide) (fun h => rfl) (K := Gk_readTest3) (loop := Gk_readWhole3_13) xY3 ?_ ?_ ?_ ?_
  · intro m i r q h
    show Bk_readWhole3_13 (Gk_readWhole3_13 m) (nI i) r q = _
    unfold Bk_readWhole3_13
    simp only [zifQ, if_pos (x1000 h)]
  · intro m i s r q hi hs h32 hj
    have h1 : ¬ r 196 4 = 19 := xne hs (xJ4n hj).1 (by omega) (b := 19) (by omega)
    have h2 : ¬ r 196 4 = 20 := xne hs (xJ4n hj).2 (by omega) (b := 20) (by omega)
    show Bk_readWhole3_13 (Gk_readWhole3_13 m) (nI i) r q = _
    unfold Bk_readWhole3_13
    simp only [zifQ, zifnQ, zletQ, if_neg (x1000n hi), if_neg h1, if_neg h2]
  · intro m i s k r q hi hs h32 hj
    rcases xJ4s hj with ⟨rfl, rfl⟩ | ⟨rfl, rfl⟩
    · have h1 : r 196 4 = 19 := hs
      show Bk_readWhole3_13 (Gk_readWhole3_13 m) (nI i) r q = _
      unfold Bk_readWhole3_13 Gk_readWhole3_40 Gk_readWhole3_57
      simp only [zifQ, zifnQ, zletQ, if_neg (x1000n hi), if_pos h1, nI_1, show xok 0 = -6 from rfl]
    · have h1 : r 196 4 = 20 := hs
      have h2 : ¬ r 196 4 = 19 := by rw [h1]; decide
      show Bk_readWhole3_13 (Gk_readWhole3_13 m) (nI i) r q = _
      unfold Bk_readWhole3_13 Gk_readWhole3_40 Gk_readWhole3_57
      simp only [zifQ, zifnQ, zletQ, if_neg (x1000n hi), if_pos h1, if_neg h2, nI_1, show xok 1 = -7 from rfl]
  · intro r q
    unfold Gk_readWhole3
    simp only [zifnQ, nI_0]
theorem xP2 : xSimP 2 Gk_readPart2 := by
  refine xpart (w := 2) (by decide) xP3 xW3 ?_ ?_ ?_ ?_
  · intro r q h18 h21 hv
    have h18 : ¬ r 196 4 = 18 := h18
    have h21 : ¬ r 196 4 = 21 := h21
    unfold Gk_readPart2 Gk_readPart2_15 Gk_readPart2_31 Gk_readPart2_47 Gk_readPart2_66
    simp only [zifQ, zifnQ, zletQ, if_neg h18, if_neg h21, hv, x00, if_true]
    exact Prod.ext rfl rfl
  · intro r q h18 h21 hv
    have h18 : ¬ r 196 4 = 18 := h18
    have h21 : ¬ r 196 4 = 21 := h21
    unfold Gk_readPart2 Gk_readPart2_15 Gk_readPart2_31 Gk_readPart2_47 Gk_readPart2_66 Gk_readPart2_130
    simp only [zifQ, zifnQ, zletQ, if_neg h18, if_neg h21, if_neg hv, x00, if_true]
  · intro r q h18
    have h18 : r 196 4 = 18 := h18
    have h21 : ¬ r 196 4 = 21 := by rw [h18]; decide
    unfold Gk_readPart2 Gk_readPart2_15 Gk_readPart2_31 Gk_readPart2_47 Gk_readPart2_66 Gk_readPart2_130
    simp only [zifQ, zifnQ, zletQ, if_pos h18, if_neg h21, x00, x10, x513, if_true, if_false]
  · intro r q h21
    have h21 : r 196 4 = 21 := h21
    have h18 : ¬ r 196 4 = 18 := by rw [h21]; decide
    unfold Gk_readPart2 Gk_readPart2_15 Gk_readPart2_31 Gk_readPart2_47 Gk_readPart2_66
    simp only [zifQ, zifnQ, zletQ, if_pos h21, if_neg h18, x00, x10, if_true, if_false]
theorem xR2 : xSim 1 2 3 Gk_readProduct2 := by
  refine xlevel (lev := 1) (w := 2) (c := 3) (Or.inl rfl) (by decide) (fun h => absurd h (by decide)) (K := Gk_readPart2) (loop := Gk_readProduct2_13) xP2.s ?_ ?_ ?_ ?_
  · intro m i r q h
    show Bk_readProduct2_13 (Gk_readProduct2_13 m) (nI i) r q = _
    unfold Bk_readProduct2_13
    simp only [zifQ, if_pos (x1000 h)]
  · intro m i s r q hi hs h32 hj
    have h27 : ¬ r 196 4 = 27 := xne hs (xJ1n hj) (by omega) (b := 27) (by omega)
    show Bk_readProduct2_13 (Gk_readProduct2_13 m) (nI i) r q = _
    unfold Bk_readProduct2_13
    simp only [zifQ, zifnQ, zletQ, if_neg (x1000n hi), if_neg h27]
  · intro m i s k r q hi hs h32 hj
    obtain ⟨rfl, rfl⟩ := xJ1s hj
    have h27 : r 196 4 = 27 := hs
    show Bk_readProduct2_13 (Gk_readProduct2_13 m) (nI i) r q = _
    unfold Bk_readProduct2_13
    simp only [zifQ, zifnQ, zletQ, if_neg (x1000n hi), if_pos h27, nI_1, show xok 6 = -12 from rfl]
  · intro r q
    unfold Gk_readProduct2
    simp only [zifnQ, nI_0]
theorem xZ2 : xSim 2 2 3 Gk_readSum2 := by
  refine xlevel (lev := 2) (w := 2) (c := 3) (Or.inr (Or.inl rfl)) (by decide) (fun h => absurd h (by decide)) (K := Gk_readProduct2) (loop := Gk_readSum2_13) xR2 ?_ ?_ ?_ ?_
  · intro m i r q h
    show Bk_readSum2_13 (Gk_readSum2_13 m) (nI i) r q = _
    unfold Bk_readSum2_13
    simp only [zifQ, if_pos (x1000 h)]
  · intro m i s r q hi hs h32 hj
    have h1 : ¬ r 196 4 = 25 := xne hs (xJ2n hj).1 (by omega) (b := 25) (by omega)
    have h2 : ¬ r 196 4 = 26 := xne hs (xJ2n hj).2 (by omega) (b := 26) (by omega)
    show Bk_readSum2_13 (Gk_readSum2_13 m) (nI i) r q = _
    unfold Bk_readSum2_13
    simp only [zifQ, zifnQ, zletQ, if_neg (x1000n hi), if_neg h1, if_neg h2]
  · intro m i s k r q hi hs h32 hj
    rcases xJ2s hj with ⟨rfl, rfl⟩ | ⟨rfl, rfl⟩
    · have h1 : r 196 4 = 25 := hs
      show Bk_readSum2_13 (Gk_readSum2_13 m) (nI i) r q = _
      unfold Bk_readSum2_13 Gk_readSum2_40 Gk_readSum2_57
      simp only [zifQ, zifnQ, zletQ, if_neg (x1000n hi), if_pos h1, nI_1, show xok 4 = -10 from rfl]
    · have h1 : r 196 4 = 26 := hs
      have h2 : ¬ r 196 4 = 25 := by rw [h1]; decide
      show Bk_readSum2_13 (Gk_readSum2_13 m) (nI i) r q = _
      unfold Bk_readSum2_13 Gk_readSum2_40 Gk_readSum2_57
      simp only [zifQ, zifnQ, zletQ, if_neg (x1000n hi), if_pos h1, if_neg h2, nI_1, show xok 5 = -11 from rfl]
  · intro r q
    unfold Gk_readSum2
    simp only [zifnQ, nI_0]
noncomputable def xT2 (r : zRr) (q : zRq) : Int32 × zRr × zRq := zif (r 196 4 = 23) (Gk_readTest2_33 r q) (zif (r 196 4 = 24) (Gk_readTest2_33 r q) (1, r, q))
theorem xY2 : xSim 3 2 2 Gk_readTest2 := by
  refine xtest (w := 2) (by decide) (K := Gk_readSum2) (T := xT2) xZ2 ?_ ?_ ?_
  · intro r q h1 h2
    have h1 : ¬ r 196 4 = 23 := h1
    have h2 : ¬ r 196 4 = 24 := h2
    unfold xT2
    simp only [zifQ, if_neg h1, if_neg h2]
  · intro r q k hk hs
    rcases hk with rfl | rfl
    · have h1 : r 196 4 = 23 := hs
      unfold xT2 Gk_readTest2_33 Gk_readTest2_50
      simp only [zifQ, zifnQ, zletQ, if_pos h1, show xok 2 = -8 from rfl]
    · have h1 : r 196 4 = 24 := hs
      have h2 : ¬ r 196 4 = 23 := by rw [h1]; decide
      unfold xT2 Gk_readTest2_33 Gk_readTest2_50
      simp only [zifQ, zifnQ, zletQ, if_pos h1, if_neg h2, show xok 3 = -9 from rfl]
  · intro r q
    unfold Gk_readTest2 xT2
    simp only [zletQ]
theorem xW2 : xSim 4 2 2 Gk_readWhole2 := by
  refine xlevel (lev := 4) (w := 2) (c := 2) (Or.inr (Or.inr rfl)) (by decide) (fun h => rfl) (K := Gk_readTest2) (loop := Gk_readWhole2_13) xY2 ?_ ?_ ?_ ?_
  · intro m i r q h
    show Bk_readWhole2_13 (Gk_readWhole2_13 m) (nI i) r q = _
    unfold Bk_readWhole2_13
    simp only [zifQ, if_pos (x1000 h)]
  · intro m i s r q hi hs h32 hj
    have h1 : ¬ r 196 4 = 19 := xne hs (xJ4n hj).1 (by omega) (b := 19) (by omega)
    have h2 : ¬ r 196 4 = 20 := xne hs (xJ4n hj).2 (by omega) (b := 20) (by omega)
    show Bk_readWhole2_13 (Gk_readWhole2_13 m) (nI i) r q = _
    unfold Bk_readWhole2_13
    simp only [zifQ, zifnQ, zletQ, if_neg (x1000n hi), if_neg h1, if_neg h2]
  · intro m i s k r q hi hs h32 hj
    rcases xJ4s hj with ⟨rfl, rfl⟩ | ⟨rfl, rfl⟩
    · have h1 : r 196 4 = 19 := hs
      show Bk_readWhole2_13 (Gk_readWhole2_13 m) (nI i) r q = _
      unfold Bk_readWhole2_13 Gk_readWhole2_40 Gk_readWhole2_57
      simp only [zifQ, zifnQ, zletQ, if_neg (x1000n hi), if_pos h1, nI_1, show xok 0 = -6 from rfl]
    · have h1 : r 196 4 = 20 := hs
      have h2 : ¬ r 196 4 = 19 := by rw [h1]; decide
      show Bk_readWhole2_13 (Gk_readWhole2_13 m) (nI i) r q = _
      unfold Bk_readWhole2_13 Gk_readWhole2_40 Gk_readWhole2_57
      simp only [zifQ, zifnQ, zletQ, if_neg (x1000n hi), if_pos h1, if_neg h2, nI_1, show xok 1 = -7 from rfl]
  · intro r q
    unfold Gk_readWhole2
    simp only [zifnQ, nI_0]
theorem xP1 : xSimP 1 Gk_readPart1 := by
  refine xpart (w := 1) (by decide) xP2 xW2 ?_ ?_ ?_ ?_
  · intro r q h18 h21 hv
    have h18 : ¬ r 196 4 = 18 := h18
    have h21 : ¬ r 196 4 = 21 := h21
    unfold Gk_readPart1 Gk_readPart1_15 Gk_readPart1_31 Gk_readPart1_47 Gk_readPart1_66
    simp only [zifQ, zifnQ, zletQ, if_neg h18, if_neg h21, hv, x00, if_true]
    exact Prod.ext rfl rfl
  · intro r q h18 h21 hv
    have h18 : ¬ r 196 4 = 18 := h18
    have h21 : ¬ r 196 4 = 21 := h21
    unfold Gk_readPart1 Gk_readPart1_15 Gk_readPart1_31 Gk_readPart1_47 Gk_readPart1_66 Gk_readPart1_130
    simp only [zifQ, zifnQ, zletQ, if_neg h18, if_neg h21, if_neg hv, x00, if_true]
  · intro r q h18
    have h18 : r 196 4 = 18 := h18
    have h21 : ¬ r 196 4 = 21 := by rw [h18]; decide
    unfold Gk_readPart1 Gk_readPart1_15 Gk_readPart1_31 Gk_readPart1_47 Gk_readPart1_66 Gk_readPart1_130
    simp only [zifQ, zifnQ, zletQ, if_pos h18, if_neg h21, x00, x10, x513, if_true, if_false]
  · intro r q h21
    have h21 : r 196 4 = 21 := h21
    have h18 : ¬ r 196 4 = 18 := by rw [h21]; decide
    unfold Gk_readPart1 Gk_readPart1_15 Gk_readPart1_31 Gk_readPart1_47 Gk_readPart1_66
    simp only [zifQ, zifnQ, zletQ, if_pos h21, if_neg h18, x00, x10, if_true, if_false]
theorem xR1 : xSim 1 1 2 Gk_readProduct1 := by
  refine xlevel (lev := 1) (w := 1) (c := 2) (Or.inl rfl) (by decide) (fun h => absurd h (by decide)) (K := Gk_readPart1) (loop := Gk_readProduct1_13) xP1.s ?_ ?_ ?_ ?_
  · intro m i r q h
    show Bk_readProduct1_13 (Gk_readProduct1_13 m) (nI i) r q = _
    unfold Bk_readProduct1_13
    simp only [zifQ, if_pos (x1000 h)]
  · intro m i s r q hi hs h32 hj
    have h27 : ¬ r 196 4 = 27 := xne hs (xJ1n hj) (by omega) (b := 27) (by omega)
    show Bk_readProduct1_13 (Gk_readProduct1_13 m) (nI i) r q = _
    unfold Bk_readProduct1_13
    simp only [zifQ, zifnQ, zletQ, if_neg (x1000n hi), if_neg h27]
  · intro m i s k r q hi hs h32 hj
    obtain ⟨rfl, rfl⟩ := xJ1s hj
    have h27 : r 196 4 = 27 := hs
    show Bk_readProduct1_13 (Gk_readProduct1_13 m) (nI i) r q = _
    unfold Bk_readProduct1_13
    simp only [zifQ, zifnQ, zletQ, if_neg (x1000n hi), if_pos h27, nI_1, show xok 6 = -12 from rfl]
  · intro r q
    unfold Gk_readProduct1
    simp only [zifnQ, nI_0]
theorem xZ1 : xSim 2 1 2 Gk_readSum1 := by
  refine xlevel (lev := 2) (w := 1) (c := 2) (Or.inr (Or.inl rfl)) (by decide) (fun h => absurd h (by decide)) (K := Gk_readProduct1) (loop := Gk_readSum1_13) xR1 ?_ ?_ ?_ ?_
  · intro m i r q h
    show Bk_readSum1_13 (Gk_readSum1_13 m) (nI i) r q = _
    unfold Bk_readSum1_13
    simp only [zifQ, if_pos (x1000 h)]
  · intro m i s r q hi hs h32 hj
    have h1 : ¬ r 196 4 = 25 := xne hs (xJ2n hj).1 (by omega) (b := 25) (by omega)
    have h2 : ¬ r 196 4 = 26 := xne hs (xJ2n hj).2 (by omega) (b := 26) (by omega)
    show Bk_readSum1_13 (Gk_readSum1_13 m) (nI i) r q = _
    unfold Bk_readSum1_13
    simp only [zifQ, zifnQ, zletQ, if_neg (x1000n hi), if_neg h1, if_neg h2]
  · intro m i s k r q hi hs h32 hj
    rcases xJ2s hj with ⟨rfl, rfl⟩ | ⟨rfl, rfl⟩
    · have h1 : r 196 4 = 25 := hs
      show Bk_readSum1_13 (Gk_readSum1_13 m) (nI i) r q = _
      unfold Bk_readSum1_13 Gk_readSum1_40 Gk_readSum1_57
      simp only [zifQ, zifnQ, zletQ, if_neg (x1000n hi), if_pos h1, nI_1, show xok 4 = -10 from rfl]
    · have h1 : r 196 4 = 26 := hs
      have h2 : ¬ r 196 4 = 25 := by rw [h1]; decide
      show Bk_readSum1_13 (Gk_readSum1_13 m) (nI i) r q = _
      unfold Bk_readSum1_13 Gk_readSum1_40 Gk_readSum1_57
      simp only [zifQ, zifnQ, zletQ, if_neg (x1000n hi), if_pos h1, if_neg h2, nI_1, show xok 5 = -11 from rfl]
  · intro r q
    unfold Gk_readSum1
    simp only [zifnQ, nI_0]
noncomputable def xT1 (r : zRr) (q : zRq) : Int32 × zRr × zRq := zif (r 196 4 = 23) (Gk_readTest1_33 r q) (zif (r 196 4 = 24) (Gk_readTest1_33 r q) (1, r, q))
theorem xY1 : xSim 3 1 1 Gk_readTest1 := by
  refine xtest (w := 1) (by decide) (K := Gk_readSum1) (T := xT1) xZ1 ?_ ?_ ?_
  · intro r q h1 h2
    have h1 : ¬ r 196 4 = 23 := h1
    have h2 : ¬ r 196 4 = 24 := h2
    unfold xT1
    simp only [zifQ, if_neg h1, if_neg h2]
  · intro r q k hk hs
    rcases hk with rfl | rfl
    · have h1 : r 196 4 = 23 := hs
      unfold xT1 Gk_readTest1_33 Gk_readTest1_50
      simp only [zifQ, zifnQ, zletQ, if_pos h1, show xok 2 = -8 from rfl]
    · have h1 : r 196 4 = 24 := hs
      have h2 : ¬ r 196 4 = 23 := by rw [h1]; decide
      unfold xT1 Gk_readTest1_33 Gk_readTest1_50
      simp only [zifQ, zifnQ, zletQ, if_pos h1, if_neg h2, show xok 3 = -9 from rfl]
  · intro r q
    unfold Gk_readTest1 xT1
    simp only [zletQ]
theorem xW1 : xSim 4 1 1 Gk_readWhole1 := by
  refine xlevel (lev := 4) (w := 1) (c := 1) (Or.inr (Or.inr rfl)) (by decide) (fun h => rfl) (K := Gk_readTest1) (loop := Gk_readWhole1_13) xY1 ?_ ?_ ?_ ?_
  · intro m i r q h
    show Bk_readWhole1_13 (Gk_readWhole1_13 m) (nI i) r q = _
    unfold Bk_readWhole1_13
    simp only [zifQ, if_pos (x1000 h)]
  · intro m i s r q hi hs h32 hj
    have h1 : ¬ r 196 4 = 19 := xne hs (xJ4n hj).1 (by omega) (b := 19) (by omega)
    have h2 : ¬ r 196 4 = 20 := xne hs (xJ4n hj).2 (by omega) (b := 20) (by omega)
    show Bk_readWhole1_13 (Gk_readWhole1_13 m) (nI i) r q = _
    unfold Bk_readWhole1_13
    simp only [zifQ, zifnQ, zletQ, if_neg (x1000n hi), if_neg h1, if_neg h2]
  · intro m i s k r q hi hs h32 hj
    rcases xJ4s hj with ⟨rfl, rfl⟩ | ⟨rfl, rfl⟩
    · have h1 : r 196 4 = 19 := hs
      show Bk_readWhole1_13 (Gk_readWhole1_13 m) (nI i) r q = _
      unfold Bk_readWhole1_13 Gk_readWhole1_40 Gk_readWhole1_57
      simp only [zifQ, zifnQ, zletQ, if_neg (x1000n hi), if_pos h1, nI_1, show xok 0 = -6 from rfl]
    · have h1 : r 196 4 = 20 := hs
      have h2 : ¬ r 196 4 = 19 := by rw [h1]; decide
      show Bk_readWhole1_13 (Gk_readWhole1_13 m) (nI i) r q = _
      unfold Bk_readWhole1_13 Gk_readWhole1_40 Gk_readWhole1_57
      simp only [zifQ, zifnQ, zletQ, if_neg (x1000n hi), if_pos h1, if_neg h2, nI_1, show xok 1 = -7 from rfl]
  · intro r q
    unfold Gk_readWhole1
    simp only [zifnQ, nI_0]
theorem xP0 : xSimP 0 Gk_readPart0 := by
  refine xpart (w := 0) (by decide) xP1 xW1 ?_ ?_ ?_ ?_
  · intro r q h18 h21 hv
    have h18 : ¬ r 196 4 = 18 := h18
    have h21 : ¬ r 196 4 = 21 := h21
    unfold Gk_readPart0 Gk_readPart0_15 Gk_readPart0_31 Gk_readPart0_47 Gk_readPart0_66
    simp only [zifQ, zifnQ, zletQ, if_neg h18, if_neg h21, hv, x00, if_true]
    exact Prod.ext rfl rfl
  · intro r q h18 h21 hv
    have h18 : ¬ r 196 4 = 18 := h18
    have h21 : ¬ r 196 4 = 21 := h21
    unfold Gk_readPart0 Gk_readPart0_15 Gk_readPart0_31 Gk_readPart0_47 Gk_readPart0_66 Gk_readPart0_130
    simp only [zifQ, zifnQ, zletQ, if_neg h18, if_neg h21, if_neg hv, x00, if_true]
  · intro r q h18
    have h18 : r 196 4 = 18 := h18
    have h21 : ¬ r 196 4 = 21 := by rw [h18]; decide
    unfold Gk_readPart0 Gk_readPart0_15 Gk_readPart0_31 Gk_readPart0_47 Gk_readPart0_66 Gk_readPart0_130
    simp only [zifQ, zifnQ, zletQ, if_pos h18, if_neg h21, x00, x10, x513, if_true, if_false]
  · intro r q h21
    have h21 : r 196 4 = 21 := h21
    have h18 : ¬ r 196 4 = 18 := by rw [h21]; decide
    unfold Gk_readPart0 Gk_readPart0_15 Gk_readPart0_31 Gk_readPart0_47 Gk_readPart0_66
    simp only [zifQ, zifnQ, zletQ, if_pos h21, if_neg h18, x00, x10, if_true, if_false]
theorem xR0 : xSim 1 0 1 Gk_readProduct0 := by
  refine xlevel (lev := 1) (w := 0) (c := 1) (Or.inl rfl) (by decide) (fun h => absurd h (by decide)) (K := Gk_readPart0) (loop := Gk_readProduct0_13) xP0.s ?_ ?_ ?_ ?_
  · intro m i r q h
    show Bk_readProduct0_13 (Gk_readProduct0_13 m) (nI i) r q = _
    unfold Bk_readProduct0_13
    simp only [zifQ, if_pos (x1000 h)]
  · intro m i s r q hi hs h32 hj
    have h27 : ¬ r 196 4 = 27 := xne hs (xJ1n hj) (by omega) (b := 27) (by omega)
    show Bk_readProduct0_13 (Gk_readProduct0_13 m) (nI i) r q = _
    unfold Bk_readProduct0_13
    simp only [zifQ, zifnQ, zletQ, if_neg (x1000n hi), if_neg h27]
  · intro m i s k r q hi hs h32 hj
    obtain ⟨rfl, rfl⟩ := xJ1s hj
    have h27 : r 196 4 = 27 := hs
    show Bk_readProduct0_13 (Gk_readProduct0_13 m) (nI i) r q = _
    unfold Bk_readProduct0_13
    simp only [zifQ, zifnQ, zletQ, if_neg (x1000n hi), if_pos h27, nI_1, show xok 6 = -12 from rfl]
  · intro r q
    unfold Gk_readProduct0
    simp only [zifnQ, nI_0]
theorem xZ0 : xSim 2 0 1 Gk_readSum0 := by
  refine xlevel (lev := 2) (w := 0) (c := 1) (Or.inr (Or.inl rfl)) (by decide) (fun h => absurd h (by decide)) (K := Gk_readProduct0) (loop := Gk_readSum0_13) xR0 ?_ ?_ ?_ ?_
  · intro m i r q h
    show Bk_readSum0_13 (Gk_readSum0_13 m) (nI i) r q = _
    unfold Bk_readSum0_13
    simp only [zifQ, if_pos (x1000 h)]
  · intro m i s r q hi hs h32 hj
    have h1 : ¬ r 196 4 = 25 := xne hs (xJ2n hj).1 (by omega) (b := 25) (by omega)
    have h2 : ¬ r 196 4 = 26 := xne hs (xJ2n hj).2 (by omega) (b := 26) (by omega)
    show Bk_readSum0_13 (Gk_readSum0_13 m) (nI i) r q = _
    unfold Bk_readSum0_13
    simp only [zifQ, zifnQ, zletQ, if_neg (x1000n hi), if_neg h1, if_neg h2]
  · intro m i s k r q hi hs h32 hj
    rcases xJ2s hj with ⟨rfl, rfl⟩ | ⟨rfl, rfl⟩
    · have h1 : r 196 4 = 25 := hs
      show Bk_readSum0_13 (Gk_readSum0_13 m) (nI i) r q = _
      unfold Bk_readSum0_13 Gk_readSum0_40 Gk_readSum0_57
      simp only [zifQ, zifnQ, zletQ, if_neg (x1000n hi), if_pos h1, nI_1, show xok 4 = -10 from rfl]
    · have h1 : r 196 4 = 26 := hs
      have h2 : ¬ r 196 4 = 25 := by rw [h1]; decide
      show Bk_readSum0_13 (Gk_readSum0_13 m) (nI i) r q = _
      unfold Bk_readSum0_13 Gk_readSum0_40 Gk_readSum0_57
      simp only [zifQ, zifnQ, zletQ, if_neg (x1000n hi), if_pos h1, if_neg h2, nI_1, show xok 5 = -11 from rfl]
  · intro r q
    unfold Gk_readSum0
    simp only [zifnQ, nI_0]
noncomputable def xT0 (r : zRr) (q : zRq) : Int32 × zRr × zRq := zif (r 196 4 = 23) (Gk_readTest0_33 r q) (zif (r 196 4 = 24) (Gk_readTest0_33 r q) (1, r, q))
theorem xY0 : xSim 3 0 0 Gk_readTest0 := by
  refine xtest (w := 0) (by decide) (K := Gk_readSum0) (T := xT0) xZ0 ?_ ?_ ?_
  · intro r q h1 h2
    have h1 : ¬ r 196 4 = 23 := h1
    have h2 : ¬ r 196 4 = 24 := h2
    unfold xT0
    simp only [zifQ, if_neg h1, if_neg h2]
  · intro r q k hk hs
    rcases hk with rfl | rfl
    · have h1 : r 196 4 = 23 := hs
      unfold xT0 Gk_readTest0_33 Gk_readTest0_50
      simp only [zifQ, zifnQ, zletQ, if_pos h1, show xok 2 = -8 from rfl]
    · have h1 : r 196 4 = 24 := hs
      have h2 : ¬ r 196 4 = 23 := by rw [h1]; decide
      unfold xT0 Gk_readTest0_33 Gk_readTest0_50
      simp only [zifQ, zifnQ, zletQ, if_pos h1, if_neg h2, show xok 3 = -9 from rfl]
  · intro r q
    unfold Gk_readTest0 xT0
    simp only [zletQ]
theorem xW0 : xSim 4 0 0 Gk_readWhole0 := by
  refine xlevel (lev := 4) (w := 0) (c := 0) (Or.inr (Or.inr rfl)) (by decide) (fun h => rfl) (K := Gk_readTest0) (loop := Gk_readWhole0_13) xY0 ?_ ?_ ?_ ?_
  · intro m i r q h
    show Bk_readWhole0_13 (Gk_readWhole0_13 m) (nI i) r q = _
    unfold Bk_readWhole0_13
    simp only [zifQ, if_pos (x1000 h)]
  · intro m i s r q hi hs h32 hj
    have h1 : ¬ r 196 4 = 19 := xne hs (xJ4n hj).1 (by omega) (b := 19) (by omega)
    have h2 : ¬ r 196 4 = 20 := xne hs (xJ4n hj).2 (by omega) (b := 20) (by omega)
    show Bk_readWhole0_13 (Gk_readWhole0_13 m) (nI i) r q = _
    unfold Bk_readWhole0_13
    simp only [zifQ, zifnQ, zletQ, if_neg (x1000n hi), if_neg h1, if_neg h2]
  · intro m i s k r q hi hs h32 hj
    rcases xJ4s hj with ⟨rfl, rfl⟩ | ⟨rfl, rfl⟩
    · have h1 : r 196 4 = 19 := hs
      show Bk_readWhole0_13 (Gk_readWhole0_13 m) (nI i) r q = _
      unfold Bk_readWhole0_13 Gk_readWhole0_40 Gk_readWhole0_57
      simp only [zifQ, zifnQ, zletQ, if_neg (x1000n hi), if_pos h1, nI_1, show xok 0 = -6 from rfl]
    · have h1 : r 196 4 = 20 := hs
      have h2 : ¬ r 196 4 = 19 := by rw [h1]; decide
      show Bk_readWhole0_13 (Gk_readWhole0_13 m) (nI i) r q = _
      unfold Bk_readWhole0_13 Gk_readWhole0_40 Gk_readWhole0_57
      simp only [zifQ, zifnQ, zletQ, if_neg (x1000n hi), if_pos h1, if_neg h2, nI_1, show xok 1 = -7 from rfl]
  · intro r q
    unfold Gk_readWhole0
    simp only [zifnQ, nI_0]
