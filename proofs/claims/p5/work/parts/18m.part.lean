/-! ===== a TEST, a PART, on both sides ===== -/
theorem xtest {w : Nat} (hw : w ≤ 5) {K K' T : zRr → zRq → Int32 × zRr × zRq} (hK : xSim 2 w (w + 1) K)
    (hT0 : ∀ r q, ¬ r 196 4 = nI 23 → ¬ r 196 4 = nI 24 → T r q = (1, r, q))
    (hT1 : ∀ r q k, (k = 2 ∨ k = 3) → r 196 4 = nI (21 + k) → T r q = zc_rq (Gk_step r q) (fun r2 q3 => zc_vrq (K r2 q3) (fun v r6 q7 => zifn (v = 0) (1, Gk_add (xok k) r6 q7, q7) (0, r6, q7))))
    (hK' : ∀ r q, K' r q = zc_vrq (K r q) (fun v r1 q1 => zifn (v = 0) (T r1 q1) (0, r1, q1))) : xSim 3 w w K' := by
  intro L b e n r q rm qm C F hT hC hCl hFl hn hbs h3
  have h14 : rm 14 w = 0 := h3 (Nat.le_refl _)
  have h := hK L b e n r q rm qm C F hT hC hCl hFl hn hbs (fun h9 => by omega)
  rw [hK']
  generalize K r q = o at h ⊢
  obtain ⟨v, r11, q12⟩ := o
  obtain ⟨hfe, h⟩ := h
  rcases h with ⟨a1, a2, a3, a4⟩ | ⟨a0, b', e', n', rm1, qm1, CE, FE, a1, a2, a3, a4, a5, a6, a7, a8, a9, a10, a11⟩
  · have a1 : v = 0 := a1
    rw [show zc_vrq (v, r11, q12) (fun v r1 q1 => zifn (v = 0) (T r1 q1) ((0 : Int32), r1, q1)) = (0, r11, q12) from if_pos a1]
    exact ⟨hfe, Or.inl ⟨rfl, a2, a3, a4⟩⟩
  · have a0 : v = 1 := a0
    rw [show zc_vrq (v, r11, q12) (fun v r1 q1 => zifn (v = 0) (T r1 q1) ((0 : Int32), r1, q1)) = T r11 q12 from if_neg (fun h9 => absurd (a0.symm.trans h9) (by decide)), a1]
    have hp' := a4.P.hp; have hb' := a4.hb; have hL := a4.P.hL
    have h14b : rm1 14 w = 0 := by rw [a6.2 w (by omega)]; exact h14
    have hbs1 : xbs (rm1 13) w = w := by rw [xbs_c w (fun j hj => a6.1 j hj)]; exact hbs
    have len2 : (C ++ CE).length = C.length + CE.length := List.length_append
    have lenF : (F ++ FE).length = F.length + FE.length := List.length_append
    have a4 : xTok L b' e' r11 q12 rm1 qm1 := a4
    have a8 : xCod (C ++ CE) (F ++ FE) r11 rm1 := a8
    obtain ⟨e1, e2, e3, e4⟩ := a11
    by_cases hs : ∃ k, (k = 2 ∨ k = 3) ∧ r11 196 4 = nI (21 + k)
    · obtain ⟨k, hk, hs⟩ := hs
      have hlt : b' < e' := a4.lt (by rw [hs]; intro h9; have := (nI_eq (b := 31) (by omega) (by omega)).mp h9; omega)
      obtain ⟨n0, rfl⟩ : ∃ n0, n' = n0 + 1 := ⟨n' - 1, by omega⟩
      have ez : zn (nI w) = w := xzn (by omega)
      have hd := xhCmp (n := n0) (d := nI w) a4 hk hs (by rw [ez]; exact h14b)
      rw [ez] at hd
      rw [hT1 r11 q12 k hk hs, hd]
      obtain ⟨p1, p2, p3⟩ := xputs (a := xom k) (qm := qm1) a8 (by omega)
      generalize Gm_puts (xom k) rm1 qm1 = rp at p1 p2 p3 ⊢
      have p2b : zFr [12, 14, 122] rm1 (zset rp 14 (upd (rp 14) w 1)) := (p2.up rfl).set rfl
      have hT1' := a4.pre (rm1 := zset rp 14 (upd (rp 14) w 1)) p2b (by decide)
      obtain ⟨b1, e1', r7, q8, rm7, qm8, s1, s2, hT7, hb1, fk, fm⟩ := hT1'.next
      unfold xNx
      rw [xrw s1, xrw s2]
      have hC7 : xCod (C ++ CE) (F ++ FE ++ [xom k]) r7 rm7 := p1.row (fk.1 192 rfl) (fk.1 193 rfl) (fm.1 122 rfl) (fm.1 12 rfl)
      have f13 : rm7 13 = rm1 13 := (fm.1 13 rfl).trans (p2 13 rfl)
      have f14 : rm7 14 = upd (rp 14) w 1 := fm.1 14 rfl
      have hbs7 : xbs (rm7 13) w = w := by rw [f13]; exact hbs1
      have h2 := hK L b1 e1' n0 r7 q8 rm7 qm8 (C ++ CE) (F ++ FE ++ [xom k]) hT7 hC7 (by omega) (by rw [List.length_append]; show _ + 1 ≤ _; omega) (by omega) hbs7 (fun h9 => by omega)
      have FK : xFe r q r7 q8 := hfe.tr (xFe.k fk)
      have FM : xRl rm qm rm7 qm8 := a5.tr ((show xRl rm1 qm1 (zset rp 14 (upd (rp 14) w 1)) qm1 from ⟨p2b.up rfl, xFq.refl, p3⟩).tr (xRl.m fm))
      have FF : xRf w w rm rm7 := (a6.w ⟨Nat.le_refl _, by omega⟩).tr ⟨fun j _ => by rw [f13], fun j hj => by rw [f14, pk_un (by omega), p2 14 rfl]⟩
      generalize K r7 q8 = o at h2 ⊢
      obtain ⟨v2, r8, q9⟩ := o
      obtain ⟨hfe2, h2⟩ := h2
      rcases h2 with ⟨c1, c2, c3, c4⟩ | ⟨c0, b2, e2', n2, rm2, qm2, CE2, FE2, c1, c2, c3, c4, c5, c6, c7, c8, c9, c10, c11⟩
      · have c1 : v2 = 0 := c1
        rw [show zc_vrq (v2, r8, q9) (fun v r6 q7 => zifn (v = 0) ((1 : Int32), Gk_add (xok k) r6 q7, q7) ((0 : Int32), r6, q7)) = (0, r8, q9) from if_pos c1]
        exact ⟨FK.tr hfe2, Or.inl ⟨rfl, c2, c3, FM.tr c4⟩⟩
      · have c0 : v2 = 1 := c0
        rw [show zc_vrq (v2, r8, q9) (fun v r6 q7 => zifn (v = 0) ((1 : Int32), Gk_add (xok k) r6 q7, q7) ((0 : Int32), r6, q7)) = (1, Gk_add (xok k) r8 q9, q9) from if_neg (fun h9 => absurd (c0.symm.trans h9) (by decide)), c1]
        have hp2 := c4.P.hp; have hb2 := c4.hb
        have len3 : (C ++ CE ++ CE2).length = (C ++ CE).length + CE2.length := List.length_append
        obtain ⟨d1, d2⟩ := xadd (a := xok k) (q := q9) c8 (by omega)
        generalize Gk_add (xok k) r8 q9 = r12 at d1 d2 ⊢
        have eC : C ++ CE ++ CE2 ++ [xok k] = C ++ (CE ++ CE2 ++ [xok k]) := by simp only [List.append_assoc]
        have eF : F ++ FE ++ [xom k] ++ FE2 = F ++ (FE ++ xom k :: FE2) := by simp only [List.append_assoc, List.singleton_append]
        rw [eC, eF] at d1
        have lC2 : (CE ++ CE2 ++ [xok k]).length = CE.length + CE2.length + 1 := by simp only [List.length_append, List.length_cons, List.length_nil]
        have lF2 : (FE ++ xom k :: FE2).length = FE.length + 1 + FE2.length := by simp only [List.length_append, List.length_cons]; omega
        have h14c : rm2 14 w = 1 := by rw [c6.2 w (by omega), f14, pk_us]
        refine ⟨(FK.tr hfe2).tr (xFe.of d2 rfl), Or.inr ⟨rfl, b2, e2', n2, rm2, qm2, CE ++ CE2 ++ [xok k], FE ++ xom k :: FE2, rfl, by omega, c3, c4.row (d2 196 rfl) (d2 197 rfl) rfl rfl rfl rfl rfl rfl rfl rfl, FM.tr c5, FF.tr (c6.w ⟨Nat.le_refl _, by omega⟩), xEq.bin (l1 := 2) (l2 := 2) (by omega) a7 c7, d1, by omega, by omega, ?_⟩⟩
        obtain ⟨g1, g2, g3, g4⟩ := c11
        have e196 : r12 196 = r8 196 := d2 196 rfl
        refine ⟨fun h => ?_, fun h => ?_, fun _ h => ?_, fun h => by omega⟩
        · show ¬ r12 196 4 = _; rw [e196]; exact g1 (by omega)
        · show ¬ r12 196 4 = _ ∧ ¬ r12 196 4 = _; rw [e196]; exact g2 (by omega)
        · rw [h14c] at h; exact absurd h (by decide)
    · have n23 : ¬ r11 196 4 = nI 23 := fun h9 => hs ⟨2, Or.inl rfl, h9⟩
      have n24 : ¬ r11 196 4 = nI 24 := fun h9 => hs ⟨3, Or.inr rfl, h9⟩
      rw [hT0 r11 q12 n23 n24]
      exact ⟨hfe, Or.inr ⟨rfl, b', e', n', rm1, qm1, CE, FE, rfl, a2, a3, a4, a5, a6.w ⟨Nat.le_refl _, by omega⟩, a7.up, a8, by omega, by omega, ⟨fun _ => e1 (by omega), fun _ => e2 (by omega), fun _ _ => ⟨n23, n24⟩, fun h => by omega⟩⟩⟩
theorem xzif1 {β : Type} {r : zRr} {q : zRq} {A B : zRr → zRq → β} : zc_vrq ((1 : Int32), r, q) (fun v r q => zif (v = 0) (A r q) (B r q)) = B r q := (zc_vrqQ _ _).trans ((zifQ _ _ _).trans (if_neg (fun h => absurd h (show ¬ (1 : Int32) = 0 by decide))))
theorem xzif0 {β : Type} {r : zRr} {q : zRq} {A B : zRr → zRq → β} : zc_vrq ((0 : Int32), r, q) (fun v r q => zif (v = 0) (A r q) (B r q)) = A r q := (zc_vrqQ _ _).trans ((zifQ _ _ _).trans (if_pos rfl))
theorem xEnd.zero {w : Nat} {r rm : zRr} : xEnd 0 w r rm := ⟨fun h => by omega, fun h => by omega, fun h => by omega, fun h => by omega⟩
/-- a PART -/
theorem xpart {w : Nat} (hw : w ≤ 4) {K KP KW : zRr → zRq → Int32 × zRr × zRq} (hP : xSimP (w + 1) KP) (hW : xSim 4 (w + 1) (w + 1) KW)
    (hB : ∀ r q, ¬ r 196 4 = nI 18 → ¬ r 196 4 = nI 21 → Gk_valueHere r q = -13 → K r q = (0, (Gk_wrong 1 r q).2, q))
    (hV : ∀ r q, ¬ r 196 4 = nI 18 → ¬ r 196 4 = nI 21 → ¬ Gk_valueHere r q = -13 → K r q = zc_rq (Gk_step r q) (fun r5 q6 => (1, Gk_add (Gk_valueHere r q) r5 q6, q6)))
    (hN : ∀ r q, r 196 4 = nI 18 → K r q = zc_rq (Gk_step r q) (fun r5 q6 => zc_vrq (KP r5 q6) (fun v r14 q15 => zifn (v = 0) (1, Gk_add (-5) r14 q15, q15) (0, r14, q15))))
    (hO : ∀ r q, r 196 4 = nI 21 → K r q = zc_rq (Gk_step r q) (fun r5 q6 => zc_vrq (KW r5 q6) (fun v r22 q23 => zif (v = 0) (0, r22, q23) (zc_vrq (Gk_take 22 r22 q23) (fun v r29 q30 => zif (v = 0) (0, r29, q30) (1, r29, q30)))))) : xSimP w K := by
  intro L b e n r q rm qm C F hT hC hCl hFl hn
  have hp := hT.P.hp; have hL := hT.P.hL; have hb := hT.hb
  obtain ⟨n0, rfl⟩ : ∃ n0, n = n0 + 1 := ⟨n - 1, by omega⟩
  have w5 : ¬ nI w = 5 := fun h9 => by have := (nI_eq (b := 5) (by omega) (by omega)).mp h9; omega
  have ez : zn (nI (w + 1)) = w + 1 := xzn (by omega)
  have lt31 : ∀ s, s < 31 → r 196 4 = nI s → b < e := fun s hs h9 => hT.lt (by rw [h9]; intro h8; have := (nI_eq (b := 31) (by omega) (by omega)).mp h8; omega)
  by_cases h18 : r 196 4 = nI 18
  · -- not
    have hlt := lt31 18 (by decide) h18
    have hF1 : F.length < 1000 := by omega
    have hw1 := hT.wd1 (C := 10631) 18 (by decide) (by decide) h18
    obtain ⟨p1, p2, p3⟩ := xputs (a := 30) (qm := qm) hC hF1
    have hR : Gm_reads_11 (n0 + 1) (nI w) 1 rm qm = xNx n0 (nI (w + 1)) 1 (zset (zset (Gm_puts 30 rm qm) 13 (upd (Gm_puts 30 rm qm 13) (w + 1) 1)) 14 (upd (Gm_puts 30 rm qm 14) (w + 1) 0)) qm := by
      rw [xwGo hT (Or.inr (Or.inl h18)), hw1]
      unfold Gm_reads_65 Gm_reads_172 xNx
      simp only [zifQ, zifnQ, zletQ, if_neg w5, x10, if_false, ez, nI_1]
      rw [zset_ne (r := Gm_puts 30 rm qm) (k := 13) (a := 14) (by decide)]
    rw [hN r q h18, hR]
    generalize Gm_puts 30 rm qm = rp at p1 p2 p3 ⊢
    have p2b : zFr [12, 13, 14, 122] rm (zset (zset rp 13 (upd (rp 13) (w + 1) 1)) 14 (upd (rp 14) (w + 1) 0)) := ((p2.up rfl).set rfl).set rfl
    have hT1 := hT.pre p2b (by decide)
    obtain ⟨b1, e1, r5, q6, rm5, qm6, s1, s2, hT5, hb1, fk, fm⟩ := hT1.next
    unfold xNx
    rw [xrw s1, xrw s2]
    have hC5 : xCod C (F ++ [30]) r5 rm5 := p1.row (fk.1 192 rfl) (fk.1 193 rfl) (fm.1 122 rfl) (fm.1 12 rfl)
    have f13 : rm5 13 = upd (rp 13) (w + 1) 1 := fm.1 13 rfl
    have f14 : rm5 14 = upd (rp 14) (w + 1) 0 := fm.1 14 rfl
    have h := hP L b1 e1 n0 r5 q6 rm5 qm6 C (F ++ [30]) hT5 hC5 (by omega) (by rw [List.length_append]; show _ + 1 ≤ _; omega) (by omega)
    have hd : xbs (rm5 13) (w + 1) = xbs (rm 13) w := by
      show (if rm5 13 (w + 1) = 1 then xbs (rm5 13) w else w + 1) = _
      rw [if_pos (by rw [f13, pk_us])]
      exact xbs_c w (fun j hj => by rw [f13, pk_un (by omega), p2 13 rfl])
    rw [hd] at h
    have FK : xFe r q r5 q6 := xFe.k fk
    have FM : xRl rm qm rm5 qm6 := (show xRl rm qm _ qm from ⟨p2b.up rfl, xFq.refl, p3⟩).tr (xRl.m fm)
    have FF : xRf w (w + 1) rm rm5 := ⟨fun j hj => by rw [f13, pk_un (by omega), p2 13 rfl], fun j hj => by rw [f14, pk_un (by omega), p2 14 rfl]⟩
    generalize KP r5 q6 = o at h ⊢
    obtain ⟨v, r14, q15⟩ := o
    obtain ⟨hfe, h⟩ := h
    rcases h with ⟨a1, a2, a3, a4⟩ | ⟨a0, b', e', n', rm1, qm1, CE, FE, a1, a2, a3, a4, a5, a6, a7, a8, a9, a10, a11⟩
    · have a1 : v = 0 := a1
      rw [show zc_vrq (v, r14, q15) (fun v r14 q15 => zifn (v = 0) ((1 : Int32), Gk_add (-5) r14 q15, q15) ((0 : Int32), r14, q15)) = (0, r14, q15) from if_pos a1]
      exact ⟨FK.tr hfe, Or.inl ⟨rfl, a2, a3, FM.tr a4⟩⟩
    · have a0 : v = 1 := a0
      rw [show zc_vrq (v, r14, q15) (fun v r14 q15 => zifn (v = 0) ((1 : Int32), Gk_add (-5) r14 q15, q15) ((0 : Int32), r14, q15)) = (1, Gk_add (-5) r14 q15, q15) from if_neg (fun h9 => absurd (a0.symm.trans h9) (by decide)), a1]
      have hp' := a4.P.hp; have hb' := a4.hb
      have len2 : (C ++ CE).length = C.length + CE.length := List.length_append
      obtain ⟨d1, d2⟩ := xadd (a := -5) (q := q15) a8 (by omega)
      generalize Gk_add (-5) r14 q15 = r12 at d1 d2 ⊢
      rw [List.append_assoc] at d1
      have eF : F ++ [30] ++ FE = F ++ (30 :: FE) := by simp only [List.append_assoc, List.singleton_append]
      rw [eF] at d1
      have l1 : (CE ++ [-5]).length = CE.length + 1 := by rw [List.length_append]; rfl
      have l2 : (30 :: FE : List Int32).length = FE.length + 1 := rfl
      have hE := a7.nt
      rw [show 5 - (w + 1) + 1 = 5 - w by omega] at hE
      exact ⟨(FK.tr hfe).tr (xFe.of d2 rfl), Or.inr ⟨rfl, b', e', n', rm1, qm1, CE ++ [-5], 30 :: FE, rfl, by omega, a3, a4.row (d2 196 rfl) (d2 197 rfl) rfl rfl rfl rfl rfl rfl rfl rfl, FM.tr a5, FF.tr (a6.w ⟨by omega, by omega⟩), hE, d1, by omega, by omega, xEnd.zero⟩⟩
  · by_cases h21 : r 196 4 = nI 21
    · -- (
      have hlt := lt31 21 (by decide) h21
      have hF1 : F.length < 1000 := by omega
      have hw0 := hT.wd0 (C := 10631) 18 (by decide) (by decide) h18
      have hs1 := hT.sg1 (s := 40) 21 (by decide) rfl h21
      obtain ⟨p1, p2, p3⟩ := xputs (a := 28) (qm := qm) hC hF1
      have hR : Gm_reads_11 (n0 + 1) (nI w) 1 rm qm = xNx n0 (nI (w + 1)) 1 (zset (zset (Gm_puts 28 rm qm) 13 (upd (Gm_puts 28 rm qm 13) (w + 1) 2)) 14 (upd (Gm_puts 28 rm qm 14) (w + 1) 0)) qm := by
        rw [xwGo hT (Or.inr (Or.inr h21)), hw0, hs1]
        unfold Gm_reads_65 Gm_reads_172 xNx
        simp only [zifQ, zifnQ, zletQ, if_neg w5, x10, x00, if_false, if_true, ez, nI_1]
        rw [zset_ne (r := Gm_puts 28 rm qm) (k := 13) (a := 14) (by decide)]
      rw [hO r q h21, hR]
      generalize Gm_puts 28 rm qm = rp at p1 p2 p3 ⊢
      have p2b : zFr [12, 13, 14, 122] rm (zset (zset rp 13 (upd (rp 13) (w + 1) 2)) 14 (upd (rp 14) (w + 1) 0)) := ((p2.up rfl).set rfl).set rfl
      have hT1 := hT.pre p2b (by decide)
      obtain ⟨b1, e1, r5, q6, rm5, qm6, s1, s2, hT5, hb1, fk, fm⟩ := hT1.next
      unfold xNx
      rw [xrw s1, xrw s2]
      have hC5 : xCod C (F ++ [28]) r5 rm5 := p1.row (fk.1 192 rfl) (fk.1 193 rfl) (fm.1 122 rfl) (fm.1 12 rfl)
      have f13 : rm5 13 = upd (rp 13) (w + 1) 2 := fm.1 13 rfl
      have f14 : rm5 14 = upd (rp 14) (w + 1) 0 := fm.1 14 rfl
      have hbs5 : xbs (rm5 13) (w + 1) = w + 1 := by
        show (if rm5 13 (w + 1) = 1 then xbs (rm5 13) w else w + 1) = _
        rw [if_neg (by rw [f13, pk_us]; decide)]
      have h := hW L b1 e1 n0 r5 q6 rm5 qm6 C (F ++ [28]) hT5 hC5 (by omega) (by rw [List.length_append]; show _ + 1 ≤ _; omega) (by omega) hbs5 (fun _ => by rw [f14, pk_us])
      have FK : xFe r q r5 q6 := xFe.k fk
      have FM : xRl rm qm rm5 qm6 := (show xRl rm qm _ qm from ⟨p2b.up rfl, xFq.refl, p3⟩).tr (xRl.m fm)
      have FF : xRf w (w + 1) rm rm5 := ⟨fun j hj => by rw [f13, pk_un (by omega), p2 13 rfl], fun j hj => by rw [f14, pk_un (by omega), p2 14 rfl]⟩
      generalize KW r5 q6 = o at h ⊢
      obtain ⟨v, r22, q23⟩ := o
      obtain ⟨hfe, h⟩ := h
      rcases h with ⟨a1, a2, a3, a4⟩ | ⟨a0, b', e', n', rm1, qm1, CE, FE, a1, a2, a3, a4, a5, a6, a7, a8, a9, a10, a11⟩
      · have a1 : v = 0 := a1
        rw [show zc_vrq (v, r22, q23) (fun v r22 q23 => zif (v = 0) ((0 : Int32), r22, q23) (zc_vrq (Gk_take 22 r22 q23) (fun v r29 q30 => zif (v = 0) ((0 : Int32), r29, q30) ((1 : Int32), r29, q30)))) = (0, r22, q23) from if_pos a1]
        exact ⟨FK.tr hfe, Or.inl ⟨rfl, a2, a3, FM.tr a4⟩⟩
      · have a0 : v = 1 := a0
        rw [show zc_vrq (v, r22, q23) (fun v r22 q23 => zif (v = 0) ((0 : Int32), r22, q23) (zc_vrq (Gk_take 22 r22 q23) (fun v r29 q30 => zif (v = 0) ((0 : Int32), r29, q30) ((1 : Int32), r29, q30)))) = zc_vrq (Gk_take 22 r22 q23) (fun v r29 q30 => zif (v = 0) ((0 : Int32), r29, q30) ((1 : Int32), r29, q30)) from if_neg (fun h9 => absurd (a0.symm.trans h9) (by decide)), a1]
        have a4 : xTok L b' e' r22 q23 rm1 qm1 := a4
        have a8 : xCod (C ++ CE) (F ++ [28] ++ FE) r22 rm1 := a8
        have hp' := a4.P.hp; have hb' := a4.hb
        obtain ⟨n1, rfl⟩ : ∃ n1, n' = n1 + 1 := ⟨n' - 1, by omega⟩
        have len2 : (C ++ CE).length = C.length + CE.length := List.length_append
        have lenF : (F ++ [28] ++ FE).length = F.length + 1 + FE.length := by simp only [List.length_append, List.length_cons, List.length_nil]
        by_cases h22 : r22 196 4 = nI 22
        · have hlt2 : b' < e' := a4.lt (by rw [h22]; decide)
          rw [xhClose a4 (by omega) h22]
          obtain ⟨m1, m2, m3⟩ := xputs (a := 29) (qm := qm1) a8 (by omega)
          generalize Gm_puts 29 rm1 qm1 = rp2 at m1 m2 m3 ⊢
          have hT2 := a4.pre (rm1 := rp2) m2 (by decide)
          obtain ⟨b2, e2, r29, q30, rm29, qm30, t1, t2, hT29, hb2, fk2, fm2⟩ := hT2.next
          have ht : Gk_take 22 r22 q23 = (1, r29, q30) := by
            unfold Gk_take
            simp only [zifQ, zletQ]
            rw [if_pos (by rw [h22]; rfl)]
            exact xrw t1
          unfold xNx
          rw [ht, xrw t2, xzif1]
          have f13b : rm29 13 = rm1 13 := (fm2.1 13 rfl).trans (m2 13 rfl)
          have f14b : rm29 14 = rm1 14 := (fm2.1 14 rfl).trans (m2 14 rfl)
          have hd : xbs (rp2 13) w = xbs (rm 13) w := xbs_c w (fun j hj => by rw [m2 13 rfl, a6.1 j (by omega)]; exact FF.1 j hj)
          rw [hd]
          have hC9 : xCod (C ++ CE) (F ++ [28] ++ FE ++ [29]) r29 rm29 := m1.row (fk2.1 192 rfl) (fk2.1 193 rfl) (fm2.1 122 rfl) (fm2.1 12 rfl)
          have eF : F ++ [28] ++ FE ++ [29] = F ++ (28 :: (FE ++ [29])) := by simp only [List.append_assoc, List.singleton_append, List.cons_append, List.nil_append]
          rw [eF] at hC9
          have l2 : (28 :: (FE ++ [29]) : List Int32).length = FE.length + 2 := by simp only [List.length_append, List.length_cons, List.length_nil]
          have hE := a7.par
          rw [show 5 - (w + 1) + 1 = 5 - w by omega] at hE
          refine ⟨(FK.tr hfe).tr (xFe.k fk2), Or.inr ⟨rfl, b2, e2, n1, rm29, qm30, CE, 28 :: (FE ++ [29]), rfl, by omega, by omega, hT29, FM.tr (a5.tr ((xRl.puts m2 m3).tr (xRl.m fm2))), FF.tr ⟨fun j hj => ?_, fun j hj => ?_⟩, hE, hC9, by omega, by omega, xEnd.zero⟩⟩
          · rw [f13b, a6.1 j (by omega)]
          · rw [f14b, a6.2 j hj]
        · obtain ⟨g1, g2, g3, g4⟩ := a11
          have ht : Gk_take 22 r22 q23 = (0, (Gk_wrong 1 r22 q23).2, q23) := by
            unfold Gk_take
            simp only [zifQ, zletQ]
            rw [if_neg (fun h9 => h22 (h9.trans rfl))]
            rfl
          have hbad := xhBad (n := n1) a4 (d := w + 1) (by omega) (g2 (by omega)).1 (g2 (by omega)).2 (g1 (by omega)) (g3 (by omega)) (g4 (by omega)).1 (g4 (by omega)).2 (fun h9 => absurd h9 h22) (fun _ => by omega)
          rw [ht, hbad, xzif0]
          exact (xEo.bad (w := w) (d := xbs (rm 13) w) (c := w + 1) (lev := 0) (z := 0) (zF := 0) (C0 := C) (F0 := F) a4 1).pre (by omega) (by omega) (FK.tr hfe) (FM.tr a5) (FF.tr (a6.w ⟨by omega, by omega⟩))
    · by_cases hv : Gk_valueHere r q = -13
      · rw [hB r q h18 h21 hv, xwBad hT hv h18 h21]
        exact xEo.bad hT 1
      · -- a value
        have hw0 := hT.wd0 (C := 10631) 18 (by decide) (by decide) h18
        have hs0 := hT.sg0 (s := 40) 21 (by decide) rfl h21
        have go : ∀ (a : Int32) (CE FE : List Int32), b < e → Gm_reads_11 (n0 + 1) (nI w) 1 rm qm = zc_rq (Gm_nextToken (Gm_puts a rm qm) qm) (fun r q => Gm_reads_11 n0 (nI (xbs (Gm_puts a rm qm 13) w)) 0 r q) → CE = [Gk_valueHere r q] → FE = [a] → xEq 0 (5 - w) CE FE → xEo L b w (xbs (rm 13) w) (w + 1) 0 0 0 C F r q rm qm (K r q) (Gm_reads_11 (n0 + 1) (nI w) 1 rm qm) := by
          intro a CE FE hlt hR eC eF hE
          subst eC; subst eF
          obtain ⟨p1, p2, p3⟩ := xputs (a := a) (qm := qm) hC (show F.length < 1000 by omega)
          rw [hV r q h18 h21 hv, hR]
          generalize Gm_puts a rm qm = rp at p1 p2 p3 ⊢
          have hT1 := hT.pre (rm1 := rp) p2 (by decide)
          obtain ⟨b1, e1, r5, q6, rm5, qm6, s1, s2, hT5, hb1, fk, fm⟩ := hT1.next
          rw [xrw s1, xrw s2]
          have hC5 : xCod C (F ++ [a]) r5 rm5 := p1.row (fk.1 192 rfl) (fk.1 193 rfl) (fm.1 122 rfl) (fm.1 12 rfl)
          have hp5 := hT5.P.hp; have hb5 := hT5.hb
          obtain ⟨d1, d2⟩ := xadd (a := Gk_valueHere r q) (q := q6) hC5 (by omega)
          generalize Gk_add (Gk_valueHere r q) r5 q6 = r12 at d1 d2 ⊢
          have hd : xbs (rp 13) w = xbs (rm 13) w := by rw [p2 13 rfl]
          rw [hd]
          have f13 : rm5 13 = rm 13 := (fm.1 13 rfl).trans (p2 13 rfl)
          have f14 : rm5 14 = rm 14 := (fm.1 14 rfl).trans (p2 14 rfl)
          exact ⟨(xFe.k fk).tr (xFe.of d2 rfl), Or.inr ⟨rfl, b1, e1, n0, rm5, qm6, _, _, rfl, by omega, by omega, hT5.row (d2 196 rfl) (d2 197 rfl) rfl rfl rfl rfl rfl rfl rfl rfl, (xRl.puts p2 p3).tr (xRl.m fm), xRf.row f13 f14, hE, d1, by show 1 + b ≤ _; omega, by show 1 + b ≤ _; omega, xEnd.zero⟩⟩
        have hG := xwGo (n := n0) (d := nI w) hT (Or.inl hv)
        rw [hw0, hs0] at hG
        rcases xfactV hT with ⟨h1, _⟩ | ⟨h30, f0, _, hval, hz⟩ | ⟨h29, k, k1, k4, hf, hval⟩
        · exact absurd h1 hv
        · refine go (100 + rm 108 0) _ _ (lt31 30 (by decide) h30) ?_ rfl rfl (by rw [hval]; exact xEq.num hz)
          rw [hG, f0]
          unfold Gm_reads_65
          simp only [zifQ, zifnQ, zletQ, if_neg w5, x00, if_true, if_pos (show (0 : Int32) ≤ 0 by decide), xpop152 5 w (show w < 5 by omega) (show w ≤ 5 by omega)]
        · refine go (nI k) _ _ (lt31 29 (by decide) h29) ?_ rfl rfl (by rw [hval]; exact xEq.fact ⟨k1, k4⟩)
          have hk0 : ¬ nI k ≤ 0 := by
            rw [show (0 : Int32) = nI 0 from nI_0.symm]; intro h2; have := (nI_leI (by omega) (by omega)).mp h2; omega
          rw [hG, hf]
          unfold Gm_reads_65
          simp only [zifQ, zifnQ, zletQ, if_neg w5, x00, if_true, if_neg hk0, xpop152 5 w (show w < 5 by omega) (show w ≤ 5 by omega)]
/-- a PART within five others: none may stand there -/
theorem xpart5 {K : zRr → zRq → Int32 × zRr × zRq}
    (hB : ∀ r q, ¬ r 196 4 = nI 18 → ¬ r 196 4 = nI 21 → Gk_valueHere r q = -13 → K r q = (0, (Gk_wrong 1 r q).2, q))
    (hG : ∀ r q, (¬ Gk_valueHere r q = -13 ∨ r 196 4 = nI 18 ∨ r 196 4 = nI 21) → K r q = (0, (Gk_wrong 5 r q).2, q)) : xSimP 5 K := by
  intro L b e n r q rm qm C F hT hC hCl hFl hn
  have hp := hT.P.hp; have hL := hT.P.hL; have hb := hT.hb
  obtain ⟨n0, rfl⟩ : ∃ n0, n = n0 + 1 := ⟨n - 1, by omega⟩
  by_cases hv : ¬ Gk_valueHere r q = -13 ∨ r 196 4 = nI 18 ∨ r 196 4 = nI 21
  · rw [hG r q hv, xwGo hT hv]
    have e5 : Gm_reads_65 (nI 5) 1 rm qm (Gm_reads_11 n0) (Gm_fact rm qm) (Gm_isWord 10631 rm qm) (Gm_isSign 40 rm qm) = (0, (Gm_fails 5 rm qm).2, qm) := by
      unfold Gm_reads_65
      simp only [zifnQ]
      rw [if_pos (show nI 5 = 5 from rfl)]
      exact Prod.ext rfl rfl
    rw [e5]
    exact xEo.bad hT 5
  · have h1 : Gk_valueHere r q = -13 := Classical.byContradiction (fun h => hv (Or.inl h))
    have h2 : ¬ r 196 4 = nI 18 := fun h => hv (Or.inr (Or.inl h))
    have h3 : ¬ r 196 4 = nI 21 := fun h => hv (Or.inr (Or.inr h))
    rw [hB r q h2 h3 h1, xwBad hT h1 h2 h3]
    exact xEo.bad hT 1
