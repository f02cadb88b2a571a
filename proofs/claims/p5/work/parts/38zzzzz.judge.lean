/-! ===== judged: the loop ===== -/
def xWo (w : Int32) : Prop := w = -1 ∨ ∃ i, i ≤ 1000 ∧ w = nI i
theorem xWo.nn {w : Int32} (h : xWo w) : (0 : Int32) ≤ w ↔ ¬ w = -1 := by
  rcases h with rfl | ⟨i, hi, rfl⟩
  · exact ⟨fun h => absurd h (by decide), fun h => absurd rfl h⟩
  · exact ⟨fun _ => nIm1 hi, fun _ => nI_leP (a := 0) (by omega) (by omega) (by omega)⟩
def xLs (t p n : Nat) (r rm : zRr) : Prop := r 138 3 = nI n ∧ rm 25 0 = nI n ∧ ∀ k, k < n → r 139 k = rm 26 k ∧ (¬ r 139 k = 3 → r 140 k = rm 27 k) ∧ (r 139 k = 0 ∨ r 139 k = 1 → r 141 k = rm 28 k) ∧ xBd t p (r 139 k) (r 140 k) (r 141 k)
theorem xLs.fr {t p n : Nat} {r r1 rm rm1 : zRr} (h : xLs t p n r rm) (f : zFr [12, 13, 14, 15, 16, 17, 182] r r1) (g : zFr [15, 16, 17, 18, 19, 20, 21, 22, 23, 24, 32] rm rm1) : xLs t p n r1 rm1 := by
  unfold xLs at h ⊢
  rw [f 138 rfl, f 139 rfl, f 140 rfl, f 141 rfl, g 25 rfl, g 26 rfl, g 27 rfl, g 28 rfl]
  exact h
section XJL2
variable {Lf : xLT} {t p : Nat} {E : Nat → Nat → Int32} {q qm : zRq}
theorem xJlp {n : Nat} (hn : n ≤ 40) {a MA : Int32} (hA : ∀ rm, xMe Lf t p E 0 rm → Gm_mostAsked rm qm = MA) : ∀ (m k : Nat) (w2 w3 : Int32) (r rm : zRr) (S : Nat → Nat → Int32), k ≤ n → n < m + k → xCe Lf t p E r → xMe Lf t p E 0 rm → (∀ j, j < p → r 178 j = E 6 j) → xCs t p 12 S r → xMs t p S (rm 32) → xZr p (rm 32) → sQ p S → xLs t p n r rm → xWo w2 → xWo w3 → ((a.toInt < 0 ∨ 2 < a.toInt) → (Gk_judged_27 a q m w2 w3 MA (nI k) r).1 = -2) ∧ (¬ (a.toInt < 0 ∨ 2 < a.toInt) → (Gk_judged_27 a q m w2 w3 MA (nI k) r).1 = (Gm_judged_49 a qm m (sSm (E 6) p) w2 w3 (nI k) rm).1) := by
  intro m
  induction m with
  | zero => intro k w2 w3 r rm S h1 h2; omega
  | succ m ih =>
    intro k w2 w3 r rm S h1 h2 hE hM h178 hS hSm hz hq hL hw2 hw3
    have hp := hE.2.1.2
    have e0 : Gk_judged_27 a q (m + 1) w2 w3 MA (nI k) r = Bk_judged_27 a q (Gk_judged_27 a q m) w2 w3 MA (nI k) r := rfl
    have e1 : Gm_judged_49 a qm (m + 1) (sSm (E 6) p) w2 w3 (nI k) rm = Bm_judged_49 a qm (Gm_judged_49 a qm m) (sSm (E 6) p) w2 w3 (nI k) rm := rfl
    rw [e0, e1]
    unfold Bk_judged_27 Bm_judged_49
    simp only [zletQ, zifQ, zifnQ]
    rw [hL.1, hL.2.1]
    by_cases e : k = n
    · subst e
      rw [if_pos (nI_leP (by omega) (by omega) (by omega)), if_pos (nI_leP (by omega) (by omega) (by omega))]
      refine ⟨fun c => by rw [if_pos c], fun c => ?_⟩
      rw [if_neg c]
      by_cases a0 : a = 0
      · rw [if_pos a0, if_pos a0]
      rw [if_neg a0, if_neg a0]
      by_cases a1 : a = 1
      · rw [if_pos a1, if_pos a1]
      rw [if_neg a1, if_neg a1]
      have a2 : a = 2 := by
        apply Int32.toInt_inj.mp
        have n0 : ¬ a.toInt = 0 := fun h => a0 (Int32.toInt_inj.mp (by rw [h]; decide))
        have n1 : ¬ a.toInt = 1 := fun h => a1 (Int32.toInt_inj.mp (by rw [h]; decide))
        rw [show (2 : Int32).toInt = 2 by decide]
        omega
      rw [if_pos a2, kSa (f := E 6) hp hE.1.2.1 h178, kSd (f := S 4) hp hE.1.2.1 (fun j hj => (hS.2 j hj).2.2.2.2.1), mSm hp hSm hz]
    · rw [if_neg (nI_leN (by omega) (by omega) (by omega)), if_neg (nI_leN (by omega) (by omega) (by omega))]
      obtain ⟨l1, l2, l3, l4⟩ := hL.2.2 k (by omega)
      obtain ⟨v, r1, rm1, S1, p1, p2, s1, s2, s3, s4, f1, f2⟩ := xJst (q := q) (qm := qm) hE hM hS hSm hz hq (show k < 40 by omega) l1 l2 l3 l4
      have hE1 : xCe Lf t p E r1 := hE.fr f1 (by decide)
      have hM1 : xMe Lf t p E 0 rm1 := hM.fr f2 (by decide)
      have hL1 := hL.fr f1 f2
      have h1781 : ∀ j, j < p → r1 178 j = E 6 j := by rw [f1 178 rfl]; exact h178
      have wk : xWo (nI k) := Or.inr ⟨k, by omega, rfl⟩
      have go := fun w2' w3' (g2 : xWo w2') (g3 : xWo w3') => ih (k + 1) w2' w3' r1 rm1 S1 (by omega) (by omega) hE1 hM1 h1781 s1 s2 s3 s4 hL1 g2 g3
      rw [p1, p2, xcvr (r := r1), xcvr (r := rm1)]
      unfold Gk_judged_70 Gm_judged_80 Gk_judged_117 Gm_judged_123 Gk_goesTo
      simp only [zletQ, zifQ, zifnQ, nI_1, xzn (show k < 2 ^ 31 by omega), hA rm1 hM1]
      by_cases c : v = 0
      · rw [if_pos c, if_pos c]
        by_cases d : w2 = -1
        · rw [if_pos d, if_neg (fun h => hw2.nn.mp h d), if_pos c]
          exact go _ _ wk hw3
        · rw [if_neg d, if_pos (hw2.nn.mpr d), if_pos c]
          exact go _ _ hw2 hw3
      · rw [if_neg c, if_neg c, if_neg c]
        by_cases d : w3 = -1
        · rw [if_pos d, if_neg (fun h => hw3.nn.mp h d)]
          obtain ⟨l1, l2, l3, l4⟩ := hL1.2.2 k (by omega)
          rw [← l1]
          by_cases g : r1 139 k = 0
          · obtain ⟨i, hi, ei⟩ := l4.2.2.1 g
            rw [if_pos g, if_pos g, ← l3 (Or.inl g), ei, if_neg (nIm1 (by have := hE.2.1.1; omega)), xzn (show i < 2 ^ 31 by have := hE.2.1.1; omega), (hE1.2.2.1 i hi).1, (hM1.2.2.1 i hi).1]
            by_cases x : E 0 i = MA
            · rw [if_pos x, if_pos x]; exact go _ _ hw2 wk
            · rw [if_neg x, if_neg x]; exact go _ _ hw2 hw3
          · rw [if_neg g, if_neg g, if_pos rfl]; exact go _ _ hw2 hw3
        · rw [if_neg d, if_pos (hw3.nn.mpr d)]
          have q1 := go _ _ hw2 hw3
          by_cases g : rm1 26 k = 0
          · rw [if_pos g]; exact q1
          · rw [if_neg g]; exact q1
end XJL2
theorem xJudgedW {t p : Nat} {a : Int32} {r rm : zRr} {q qm : zRq} (h : xHow t p r q rm qm) : (Gk_judged a r q).1 = (Gm_judged a rm qm).1 := by
  have h1 := h.z100
  have ht := h.le.1
  have hp := h.le.2
  obtain ⟨hE, hE', hC, hH⟩ := xCe.of h1.1
  rw [h1.2.2.2.2.2] at hE'
  obtain ⟨n, hn, l1, l2, l3⟩ := h.2.2.2.2.1
  obtain ⟨k1, k2⟩ := kBgT (q := q) hE hC
  have f33 : zFr [33, 100] rm (zset (zset rm 100 (fun _ => 0)) 33 (zcp ((zset rm 100 (fun _ => 0)) 32) ((zset rm 100 (fun _ => 0)) 33) 0 0 31)) := (zFr.refl.set rfl).set rfl
  have hM3 : xMe (sL r) t p (sE r) 0 (zset (zset rm 100 (fun _ => 0)) 33 (zcp ((zset rm 100 (fun _ => 0)) 32) ((zset rm 100 (fun _ => 0)) 33) 0 0 31)) := hE'.fr (M := [33]) (zFr.refl.set rfl) (by decide)
  have hH3 : xMh t p (sE r) (zset (zset rm 100 (fun _ => 0)) 33 (zcp ((zset rm 100 (fun _ => 0)) 32) ((zset rm 100 (fun _ => 0)) 33) 0 0 31)) := fun j hj => by
    rw [zset_ne (by decide), zset_ne (by decide), zset_ne (by decide)]; exact hH j hj
  obtain ⟨m1, m2, m3⟩ := mBg (q := qm) hM3 hH3
  have hEb : xCe (sL r) t p (sE r) (Gk_begin8T r q) := hE.fr k2 (by decide)
  have hMb := hM3.fr m3 (by decide)
  have hL : xLs t p n (Gk_begin8T r q) (Gm_fresh0 (zset (zset rm 100 (fun _ => 0)) 33 (zcp ((zset rm 100 (fun _ => 0)) 32) ((zset rm 100 (fun _ => 0)) 33) 0 0 31)) qm) := by
    unfold xLs
    rw [k2 138 rfl, k2 139 rfl, k2 140 rfl, k2 141 rfl, m3 25 rfl, m3 26 rfl, m3 27 rfl, m3 28 rfl, f33 25 rfl, f33 26 rfl, f33 27 rfl, f33 28 rfl]
    refine ⟨l1, l2, fun k hk => ?_⟩
    have := l3 k hk
    rw [show 40 * 0 + k = k by omega] at this
    exact this
  have key := xJlp (q := q) (qm := qm) (a := a) hn (MA := Gk_mostAsked r q) (fun rm1 hm => (xMA (q := q) (qm := qm) hE hm).symm) 41 0 (-1) (-1) _ _ (sBg (sE r)) (by omega) (by omega) hEb hMb (fun j hj => by rw [k2 178 rfl]; exact (hC j hj).2.2.2) k1 m1 m2 (fun j _ => show zI 0 20 0 from ⟨by decide, by decide⟩) hL (Or.inl rfl) (Or.inl rfl)
  have c2 : (2 : Int32).toInt = 2 := by decide
  have c0 : (0 : Int32).toInt = 0 := by decide
  unfold Gk_judged Gm_judged Gm_within
  simp only [zletQ, zifQ, zifnQ]
  by_cases x1 : a < 0
  · rw [if_pos x1, if_pos rfl]
    rw [Int32.lt_iff_toInt_lt, c0] at x1
    exact key.1 (Or.inl x1)
  rw [if_neg x1]
  by_cases x2 : 2 < a
  · rw [if_pos x2, if_pos rfl]
    rw [Int32.lt_iff_toInt_lt, c2] at x2
    exact key.1 (Or.inr x2)
  rw [if_neg x2, if_neg (show ¬ (1 : Int32) = 0 by decide), mSm hp m1 m2]
  rw [Int32.lt_iff_toInt_lt, c0] at x1
  rw [Int32.lt_iff_toInt_lt, c2] at x2
  exact key.2 (by omega)
