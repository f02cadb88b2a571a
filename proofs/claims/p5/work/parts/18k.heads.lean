/-! ===== the reference's reader of an E, one token at a time ===== -/
theorem x10 : ((1 : Int32) = 0) = False := eq_false (by decide)
theorem x00 : ((0 : Int32) = 0) = True := eq_true rfl
section XH
variable {L b e n : Nat} {r : zRr} {q : zRq} {rm : zRr} {qm : zRq}
theorem xne {a b : Nat} {x : Int32} (h : x = nI a) (hab : a ≠ b) (ha : a ≤ 40) (hb : b ≤ 40) : ¬ x = nI b := fun e => hab ((nI_eq (by omega) (by omega)).mp (h.symm.trans e))
theorem xTok.sg0 (h : xTok L b e r q rm qm) {s : Int32} (i : Nat) (hi : 21 ≤ i ∧ i < 29) (hs : [s] = eB.getD i []) (hn : ¬ r 196 4 = nI i) : Gm_isSign s rm qm = 0 := (h.sign i hi hs).trans (if_neg hn)
theorem xTok.sg1 (h : xTok L b e r q rm qm) {s : Int32} (i : Nat) (hi : 21 ≤ i ∧ i < 29) (hs : [s] = eB.getD i []) (hn : r 196 4 = nI i) : Gm_isSign s rm qm = 1 := (h.sign i hi hs).trans (if_pos hn)
theorem xTok.wd0 (h : xTok L b e r q rm qm) {C : Int64} (i : Nat) (hi : i < 21) (hC : C = xe27 (eB.getD i [])) (hn : ¬ r 196 4 = nI i) : Gm_isWord C rm qm = 0 := (h.word i hi hC).trans (if_neg hn)
theorem xTok.wd1 (h : xTok L b e r q rm qm) {C : Int64} (i : Nat) (hi : i < 21) (hC : C = xe27 (eB.getD i [])) (hn : r 196 4 = nI i) : Gm_isWord C rm qm = 1 := (h.word i hi hC).trans (if_pos hn)
noncomputable def xNx (n : Nat) (d w : Int32) (rm : zRr) (qm : zRq) : Int32 × zRr × zRq := zc_rq (Gm_nextToken rm qm) (fun r q => Gm_reads_11 n d w r q)
/-- a sign between two PARTS: 4 +, 5 -, 6 * -/
theorem xhOp (h : xTok L b e r q rm qm) {d : Int32} {k : Nat} (hk : 4 ≤ k ∧ k ≤ 6) (hs : r 196 4 = nI (21 + k)) : Gm_reads_11 (n + 1) d 0 rm qm = xNx n d 1 (Gm_puts (xom k) rm qm) qm := by
  have e0 : Gm_reads_11 (n + 1) d 0 rm qm = Bm_reads_11 (Gm_reads_11 n) d 0 rm qm := rfl
  rw [e0]
  unfold Bm_reads_11 Gm_reads_206 Gm_reads_424
  simp only [zifQ, zifnQ, zletQ]
  rcases (show k = 4 ∨ k = 5 ∨ k = 6 by omega) with rfl | rfl | rfl
  · rw [h.sg1 25 (by decide) rfl hs]
    simp only [x10, x00, if_true, if_false, xNx, xom, List.getD_cons_succ, List.getD_cons_zero]
  · rw [h.sg0 25 (by decide) rfl (xne hs (by decide) (by decide) (by decide)), h.sg1 26 (by decide) rfl hs]
    simp only [x10, x00, if_true, if_false, xNx, xom, List.getD_cons_succ, List.getD_cons_zero]
  · rw [h.sg0 25 (by decide) rfl (xne hs (by decide) (by decide) (by decide)), h.sg0 26 (by decide) rfl (xne hs (by decide) (by decide) (by decide)), h.sg1 27 (by decide) rfl hs]
    simp only [x10, x00, if_true, if_false, xNx, xom, List.getD_cons_succ, List.getD_cons_zero]
/-- < or = : 2, 3 -/
theorem xhCmp (h : xTok L b e r q rm qm) {d : Int32} {k : Nat} (hk : k = 2 ∨ k = 3) (hs : r 196 4 = nI (21 + k)) (hc : rm 14 (zn d) = 0) : Gm_reads_11 (n + 1) d 0 rm qm = xNx n d 1 (zset (Gm_puts (xom k) rm qm) 14 (upd (Gm_puts (xom k) rm qm 14) (zn d) 1)) qm := by
  have e0 : Gm_reads_11 (n + 1) d 0 rm qm = Bm_reads_11 (Gm_reads_11 n) d 0 rm qm := rfl
  rw [e0]
  unfold Bm_reads_11 Gm_reads_263 Gm_reads_424
  simp only [zifQ, zifnQ, zletQ]
  rcases hk with rfl | rfl
  · rw [h.sg0 25 (by decide) rfl (xne hs (by decide) (by decide) (by decide)), h.sg0 26 (by decide) rfl (xne hs (by decide) (by decide) (by decide)), h.sg0 27 (by decide) rfl (xne hs (by decide) (by decide) (by decide)), h.sg1 23 (by decide) rfl hs, hc]
    simp only [x10, x00, if_true, if_false, xNx, xom, List.getD_cons_succ, List.getD_cons_zero]
  · rw [h.sg0 25 (by decide) rfl (xne hs (by decide) (by decide) (by decide)), h.sg0 26 (by decide) rfl (xne hs (by decide) (by decide) (by decide)), h.sg0 27 (by decide) rfl (xne hs (by decide) (by decide) (by decide)), h.sg0 23 (by decide) rfl (xne hs (by decide) (by decide) (by decide)), h.sg1 24 (by decide) rfl hs, hc]
    simp only [x10, x00, if_true, if_false, xNx, xom, List.getD_cons_succ, List.getD_cons_zero]
/-- and, or: 0, 1 -/
theorem xhJoin (h : xTok L b e r q rm qm) {d : Int32} {k : Nat} (hk : k = 0 ∨ k = 1) (hs : r 196 4 = nI (19 + k)) : Gm_reads_11 (n + 1) d 0 rm qm = xNx n d 1 (zset (Gm_puts (xom k) rm qm) 14 (upd (Gm_puts (xom k) rm qm 14) (zn d) 0)) qm := by
  have e0 : Gm_reads_11 (n + 1) d 0 rm qm = Bm_reads_11 (Gm_reads_11 n) d 0 rm qm := rfl
  rw [e0]
  unfold Bm_reads_11 Gm_reads_304 Gm_reads_324 Gm_reads_424
  simp only [zifQ, zifnQ, zletQ]
  rcases hk with rfl | rfl
  · rw [h.sg0 25 (by decide) rfl (xne hs (by decide) (by decide) (by decide)), h.sg0 26 (by decide) rfl (xne hs (by decide) (by decide) (by decide)), h.sg0 27 (by decide) rfl (xne hs (by decide) (by decide) (by decide)), h.sg0 23 (by decide) rfl (xne hs (by decide) (by decide) (by decide)), h.sg0 24 (by decide) rfl (xne hs (by decide) (by decide) (by decide)), h.wd1 19 (by decide) (by decide) hs]
    simp only [x10, x00, if_true, if_false, xNx, xom, List.getD_cons_succ, List.getD_cons_zero]
  · rw [h.sg0 25 (by decide) rfl (xne hs (by decide) (by decide) (by decide)), h.sg0 26 (by decide) rfl (xne hs (by decide) (by decide) (by decide)), h.sg0 27 (by decide) rfl (xne hs (by decide) (by decide) (by decide)), h.sg0 23 (by decide) rfl (xne hs (by decide) (by decide) (by decide)), h.sg0 24 (by decide) rfl (xne hs (by decide) (by decide) (by decide)), h.wd0 19 (by decide) (by decide) (xne hs (by decide) (by decide) (by decide)), h.wd1 20 (by decide) (by decide) hs]
    simp only [x10, x00, if_true, if_false, xNx, xom, List.getD_cons_succ, List.getD_cons_zero]
/-- ) at a level -/
theorem xhClose (h : xTok L b e r q rm qm) {d : Nat} (hd : d ≤ 4) (hs : r 196 4 = nI 22) : Gm_reads_11 (n + 1) (nI (d + 1)) 0 rm qm = xNx n (nI (xbs (Gm_puts 29 rm qm 13) d)) 0 (Gm_puts 29 rm qm) qm := by
  have e0 : Gm_reads_11 (n + 1) (nI (d + 1)) 0 rm qm = Bm_reads_11 (Gm_reads_11 n) (nI (d + 1)) 0 rm qm := rfl
  have hd0 : ¬ nI (d + 1) ≤ 0 := by
    rw [show (0 : Int32) = nI 0 from nI_0.symm]; intro h2; have := (nI_leI (by omega) (by omega)).mp h2; omega
  rw [e0]
  unfold Bm_reads_11 Gm_reads_304
  simp only [zifQ, zifnQ, zletQ]
  rw [h.sg0 25 (by decide) rfl (xne hs (by decide) (by decide) (by decide)), h.sg0 26 (by decide) rfl (xne hs (by decide) (by decide) (by decide)), h.sg0 27 (by decide) rfl (xne hs (by decide) (by decide) (by decide)), h.sg0 23 (by decide) rfl (xne hs (by decide) (by decide) (by decide)), h.sg0 24 (by decide) rfl (xne hs (by decide) (by decide) (by decide)), h.wd0 19 (by decide) (by decide) (xne hs (by decide) (by decide) (by decide)), h.wd0 20 (by decide) (by decide) (xne hs (by decide) (by decide) (by decide)), h.sg1 22 (by decide) rfl hs]
  simp only [x10, x00, if_true, if_false, if_neg hd0, xdec, xpop379 5 d (show d < 5 by omega) (show d ≤ 5 by omega), xNx]
/-- ; at the end -/
theorem xhStop (h : xTok L b e r q rm qm) (hs : r 196 4 = nI 28) : Gm_reads_11 (n + 1) 0 0 rm qm = zc_rq (Gm_nextToken rm qm) (fun r q => ((1 : Int32), r, q)) := by
  have e0 : Gm_reads_11 (n + 1) 0 0 rm qm = Bm_reads_11 (Gm_reads_11 n) 0 0 rm qm := rfl
  rw [e0]
  unfold Bm_reads_11 Gm_reads_304 Gm_reads_399
  simp only [zifQ, zifnQ, zletQ]
  rw [h.sg0 25 (by decide) rfl (xne hs (by decide) (by decide) (by decide)), h.sg0 26 (by decide) rfl (xne hs (by decide) (by decide) (by decide)), h.sg0 27 (by decide) rfl (xne hs (by decide) (by decide) (by decide)), h.sg0 23 (by decide) rfl (xne hs (by decide) (by decide) (by decide)), h.sg0 24 (by decide) rfl (xne hs (by decide) (by decide) (by decide)), h.wd0 19 (by decide) (by decide) (xne hs (by decide) (by decide) (by decide)), h.wd0 20 (by decide) (by decide) (xne hs (by decide) (by decide) (by decide)), h.sg0 22 (by decide) rfl (xne hs (by decide) (by decide) (by decide)), h.sg1 28 (by decide) rfl hs]
  simp only [x10, x00, if_true, if_false]
/-- what can't stand there -/
theorem xhBad (h : xTok L b e r q rm qm) {d : Nat} (hd : d ≤ 5) (h25 : ¬ r 196 4 = nI 25) (h26 : ¬ r 196 4 = nI 26) (h27 : ¬ r 196 4 = nI 27) (hc : rm 14 d = 0 → ¬ r 196 4 = nI 23 ∧ ¬ r 196 4 = nI 24) (h19 : ¬ r 196 4 = nI 19) (h20 : ¬ r 196 4 = nI 20) (h22 : r 196 4 = nI 22 → d = 0) (h28 : r 196 4 = nI 28 → ¬ d = 0) : Gm_reads_11 (n + 1) (nI d) 0 rm qm = (0, (Gm_fails 1 rm qm).2, qm) := by
  have e0 : Gm_reads_11 (n + 1) (nI d) 0 rm qm = Bm_reads_11 (Gm_reads_11 n) (nI d) 0 rm qm := rfl
  have e1 : (0 : Int32) = nI 0 := nI_0.symm
  have h418 : Gm_reads_418 rm qm = (0, (Gm_fails 1 rm qm).2, qm) := rfl
  have h399 : Gm_reads_399 (nI d) rm qm = (0, (Gm_fails 1 rm qm).2, qm) := by
    unfold Gm_reads_399
    simp only [zifQ, zifnQ, zletQ]
    by_cases hd0 : d = 0
    · rw [h.sg0 28 (by decide) rfl (fun e => h28 e hd0), h418]
      by_cases h9 : nI d = 0
      · rw [if_pos h9, if_pos rfl]
      · rw [if_neg h9]
    · rw [if_neg (by rw [e1]; intro h9; exact hd0 ((nI_eq (by omega) (by omega)).mp h9)), h418]
  have h304 : Gm_reads_304 (nI d) 0 rm qm (Gm_reads_11 n) = (0, (Gm_fails 1 rm qm).2, qm) := by
    unfold Gm_reads_304
    simp only [zifQ, zifnQ, zletQ]
    rw [h.wd0 19 (by decide) (by decide) h19, h.wd0 20 (by decide) (by decide) h20, if_pos rfl, if_pos rfl, h399]
    by_cases h9 : r 196 4 = nI 22
    · rw [h.sg1 22 (by decide) rfl h9, if_neg (by decide), if_pos (by rw [h22 h9]; decide)]
    · rw [h.sg0 22 (by decide) rfl h9, if_pos rfl]
  rw [e0]
  unfold Bm_reads_11 Gm_reads_263
  simp only [zifQ, zifnQ, zletQ, xzn (show d < 2 ^ 31 by omega)]
  rw [h.sg0 25 (by decide) rfl h25, h.sg0 26 (by decide) rfl h26, h.sg0 27 (by decide) rfl h27, h304]
  simp only [x00, if_true]
  by_cases h9 : rm 14 d = 0
  · obtain ⟨h23, h24⟩ := hc h9
    rw [h.sg0 23 (by decide) rfl h23, h.sg0 24 (by decide) rfl h24, if_pos rfl, if_pos rfl]
  · rw [if_neg h9]
    simp only [ite_self]
/-- a PART is wanted: what the fact is -/
theorem xfactV (h : xTok L b e r q rm qm) : (Gk_valueHere r q = -13 ∧ Gm_fact rm qm = 0 ∧ ¬ rm 106 0 = 2) ∨ (r 196 4 = nI 30 ∧ Gm_fact rm qm = 0 ∧ rm 106 0 = 2 ∧ Gk_valueHere r q = rm 108 0 ∧ zI 0 9999 (rm 108 0)) ∨ (r 196 4 = nI 29 ∧ ∃ k, 1 ≤ k ∧ k ≤ 4 ∧ Gm_fact rm qm = nI k ∧ Gk_valueHere r q = -(nI k)) := by
  have hL := h.P.hL; have hp := h.P.hp; have hbe := h.hb
  unfold Gk_valueHere
  simp only [zifQ, zifnQ, zletQ]
  by_cases h30 : r 196 4 = 30
  · right; left
    have h2 := h.num.mpr h30
    obtain ⟨h3, h4⟩ := h.number h30
    refine ⟨h30, ?_, h2, ?_, h4⟩
    · unfold Gm_fact; simp only [zifQ, zletQ]; rw [if_neg (by rw [h2]; decide)]
    · rw [if_pos h30]; exact h3
  · have h2 : ¬ rm 106 0 = 2 := fun e => h30 (h.num.mp e)
    rw [if_neg h30]
    by_cases h29 : r 196 4 = 29
    · obtain ⟨w1, w2, w3, w4, w5⟩ := h.name h29
      have hs : ∀ t, t < 37 → Gk_spells t r q = if xsg (r 197) b (e - b) = eB.getD t [] then 1 else 0 := fun t ht => xspells ht h.B.b1 (by rw [h.P.p1]; congr 1; omega) h.P.l1 (by omega) hL
      have hf : Gm_fact rm qm = if xsg (r 197) b (e - b) = eB.getD 33 [] then 1 else if xsg (r 197) b (e - b) = eB.getD 34 [] then 2 else if xsg (r 197) b (e - b) = eB.getD 35 [] then 3 else if xsg (r 197) b (e - b) = eB.getD 36 [] then 4 else 0 := by
        have k : ∀ (t : Nat) (C : Int64), t < 37 → 33 ≤ t → C = xe27 (eB.getD t []) → (lg_cmp (xe27 (xsg (r 197) b (e - b))) C = 0 ↔ xsg (r 197) b (e - b) = eB.getD t []) := by
          intro t C h1 h2 hC
          rw [xcmp, hC]
          exact xe27_inj w1 (xwf t h1 h2)
        unfold Gm_fact
        simp only [zifQ, zifnQ, zletQ]
        rw [if_pos w4, w3]
        exact xif (k 33 _ (by decide) (by decide) (by decide)) (xif (k 34 _ (by decide) (by decide) (by decide)) (xif (k 35 _ (by decide) (by decide) (by decide)) (xif (k 36 _ (by decide) (by decide) (by decide)) rfl)))
      rw [if_pos h29, hs 33 (by decide), hs 34 (by decide), hs 35 (by decide), hs 36 (by decide), hf]
      by_cases c1 : xsg (r 197) b (e - b) = eB.getD 33 []
      · right; right
        refine ⟨h29, 1, by omega, by omega, ?_, ?_⟩
        · rw [if_pos c1]; rfl
        · rw [if_pos c1]; rfl
      · rw [if_neg c1, if_neg c1]
        by_cases c2 : xsg (r 197) b (e - b) = eB.getD 34 []
        · right; right
          refine ⟨h29, 2, by omega, by omega, ?_, ?_⟩
          · rw [if_pos c2]; rfl
          · rw [if_pos c2]; rfl
        · rw [if_neg c2, if_neg c2]
          by_cases c3 : xsg (r 197) b (e - b) = eB.getD 35 []
          · right; right
            refine ⟨h29, 3, by omega, by omega, ?_, ?_⟩
            · rw [if_pos c3]; rfl
            · rw [if_pos c3]; rfl
          · rw [if_neg c3, if_neg c3]
            by_cases c4 : xsg (r 197) b (e - b) = eB.getD 36 []
            · right; right
              refine ⟨h29, 4, by omega, by omega, ?_, ?_⟩
              · rw [if_pos c4]; rfl
              · rw [if_pos c4]; rfl
            · rw [if_neg c4, if_neg c4]
              left
              exact ⟨rfl, rfl, h2⟩
    · left
      refine ⟨by rw [if_neg h29], ?_, h2⟩
      unfold Gm_fact
      simp only [zifQ, zifnQ, zletQ]
      by_cases h1 : rm 106 0 = 1
      · have hk : xW (xsg (r 197) b (e - b)) ∧ r 196 4 = nI (xfi (xsg (r 197) b (e - b))) ∧ qm 107 0 = xe27 (xsg (r 197) b (e - b)) := by
          rcases h.k with ⟨k1, k2, _⟩ | ⟨_, ⟨k2, hw, k1, k4, k3⟩ | ⟨k2, _⟩ | ⟨k2, _⟩ | ⟨k2, _⟩⟩
          · rw [h1] at k2; exact absurd k2 (by decide)
          · exact ⟨hw, k1, k3⟩
          · rw [h1] at k2; exact absurd k2 (by decide)
          · rw [h1] at k2; exact absurd k2 (by decide)
          · rw [h1] at k2; exact absurd k2 (by decide)
        obtain ⟨hw, k1, k3⟩ := hk
        have hlt : xfi (xsg (r 197) b (e - b)) < 21 := by
          rcases xw_or hw with h9 | h9
          · exact h9
          · exact absurd (by rw [k1, h9]; rfl) h29
        have hg := xfi_get (l := xsg (r 197) b (e - b)) (by omega)
        have hd : ∀ i, i < 21 → ∀ t, t < 37 → 33 ≤ t → ¬ eB.getD i [] = eB.getD t [] := by decide +kernel
        have k : ∀ (t : Nat) (C : Int64), t < 37 → 33 ≤ t → C = xe27 (eB.getD t []) → ¬ lg_cmp (xe27 (xsg (r 197) b (e - b))) C = 0 := by
          intro t C h1 h2 hC h9
          rw [xcmp, hC, xe27_inj hw (xwf t h1 h2)] at h9
          exact hd _ hlt t h1 h2 (hg.trans h9)
        rw [if_pos h1, k3, if_neg (k 33 _ (by decide) (by decide) (by decide)), if_neg (k 34 _ (by decide) (by decide) (by decide)), if_neg (k 35 _ (by decide) (by decide) (by decide)), if_neg (k 36 _ (by decide) (by decide) (by decide))]
      · rw [if_neg h1]
/-- a PART is wanted, and none begins there -/
theorem xwBad (h : xTok L b e r q rm qm) {d : Int32} (hv : Gk_valueHere r q = -13) (h18 : ¬ r 196 4 = nI 18) (h21 : ¬ r 196 4 = nI 21) : Gm_reads_11 (n + 1) d 1 rm qm = (0, (Gm_fails 1 rm qm).2, qm) := by
  have e0 : Gm_reads_11 (n + 1) d 1 rm qm = Bm_reads_11 (Gm_reads_11 n) d 1 rm qm := rfl
  have hf : Gm_fact rm qm = 0 ∧ ¬ rm 106 0 = 2 := by
    rcases xfactV h with ⟨_, h1, h2⟩ | ⟨_, _, _, h1, h2⟩ | ⟨_, k, h1, h2, _, h3⟩
    · exact ⟨h1, h2⟩
    · rw [hv] at h1; rw [← h1] at h2; exact absurd h2.1 (by decide)
    · rw [hv] at h3
      rcases (show k = 1 ∨ k = 2 ∨ k = 3 ∨ k = 4 by omega) with rfl | rfl | rfl | rfl <;> exact absurd h3 (by decide)
  rw [e0]
  unfold Bm_reads_11
  simp only [zifQ, zifnQ, zletQ]
  rw [hf.1, h.wd0 18 (by decide) (by decide) h18, h.sg0 21 (by decide) rfl h21, if_neg (by decide), if_pos rfl, if_pos rfl, if_pos rfl, if_neg hf.2]
  exact Prod.ext rfl rfl
/-- a PART begins there -/
theorem xwGo (h : xTok L b e r q rm qm) {d : Int32} (hv : ¬ Gk_valueHere r q = -13 ∨ r 196 4 = nI 18 ∨ r 196 4 = nI 21) : Gm_reads_11 (n + 1) d 1 rm qm = Gm_reads_65 d 1 rm qm (Gm_reads_11 n) (Gm_fact rm qm) (Gm_isWord 10631 rm qm) (Gm_isSign 40 rm qm) := by
  have e0 : Gm_reads_11 (n + 1) d 1 rm qm = Bm_reads_11 (Gm_reads_11 n) d 1 rm qm := rfl
  rw [e0]
  unfold Bm_reads_11
  simp only [zifQ, zifnQ, zletQ]
  rw [if_neg (by decide)]
  rcases hv with hv | hv | hv
  · rcases xfactV h with ⟨h1, _⟩ | ⟨_, _, h1, _⟩ | ⟨_, k, h1, h2, h3, _⟩
    · exact absurd h1 hv
    · simp only [if_pos h1, ite_self]
    · rw [if_neg (by rw [h3, show (0 : Int32) = nI 0 from nI_0.symm]; intro h9; have := (nI_eq (by omega) (by omega)).mp h9; omega)]
  · have h1 := h.wd1 (C := 10631) 18 (by decide) (by decide) hv
    by_cases h9 : Gm_fact rm qm = 0
    · rw [if_pos h9, if_neg (by rw [h1]; decide)]
    · rw [if_neg h9]
  · have h1 := h.sg1 (s := 40) 21 (by decide) rfl hv
    by_cases h9 : Gm_fact rm qm = 0
    · rw [if_pos h9]
      by_cases h8 : Gm_isWord 10631 rm qm = 0
      · rw [if_pos h8, if_neg (by rw [h1]; decide)]
      · rw [if_neg h8]
    · rw [if_neg h9]
end XH
