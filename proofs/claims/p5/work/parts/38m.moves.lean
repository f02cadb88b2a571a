/-! ===== how it is: moves, a razor, a forger, weeks ===== -/
section XMVN
variable {Lf : xLT} {t p : Nat} {E S : Nat → Nat → Int32} {r : zRr} {q : zRq}
theorem kMvN (hS : xCs t p 6 S r) {j i : Nat} (hj : j < p) (hp : p ≤ 6) (hi : i < t) : xCs t p 6 (sMv S j i) (Gk_arriveN (nI j) (nI i) r q) ∧ zFr [7, 11] r (Gk_arriveN (nI j) (nI i) r q) := by
  have e : r 11 j = S 5 j := (hS.2 j hj).2.2.2.2.2
  have e2 : zset r 7 (upd (r 7) j (nI i)) 11 j = S 5 j := by rw [zset_ne (by decide)]; exact e
  unfold Gk_arriveN sMv
  simp only [zletQ, xzn (show j < 2 ^ 31 by omega)]
  rw [e2]
  exact ⟨(hS.set (k := 1) (j := j) (v := nI i) ⟨by decide, by decide⟩ (fun _ => ⟨i, hi, rfl⟩)).set (k := 5) ⟨by decide, by decide⟩ (fun h => absurd h (by decide)), (zFr.refl.set rfl).set rfl⟩
theorem kRzN (hS : xCs t p 6 S r) {j : Nat} (hj : j < p) (hp : p ≤ 6) : xCs t p 6 (sRz S j) (Gk_loseBeardN (nI j) r q) ∧ zFr [8, 9] r (Gk_loseBeardN (nI j) r q) := by
  unfold Gk_loseBeardN sRz
  simp only [zletQ, xzn (show j < 2 ^ 31 by omega)]
  exact ⟨(hS.set (k := 2) (j := j) (v := 0) ⟨by decide, by decide⟩ (fun h => absurd h (by decide))).set (k := 3) ⟨by decide, by decide⟩ (fun h => absurd h (by decide)), (zFr.refl.set rfl).set rfl⟩
theorem kFgN (hE : xCe Lf t p E r) (hS : xCs t p 6 S r) {j : Nat} {v : Int32} (hj : j < p) : xCs t p 6 (sFg E S j v) (Gk_sellN (nI j) v r q) ∧ zFr [9, 10] r (Gk_sellN (nI j) v r q) := by
  have hp : p ≤ 6 := hE.2.1.2
  have e3 : r 9 j = S 3 j := (hS.2 j hj).2.2.2.1
  have e4 : r 10 j = S 4 j := (hS.2 j hj).2.2.2.2.1
  have e1 : r 171 12 = E 3 1 := hE.1.2.2.2
  unfold Gk_sellN sFg
  simp only [zletQ, xzn (show j < 2 ^ 31 by omega), e3]
  have k4 : zset r 9 (upd (r 9) j (S 3 j + v)) 10 j = S 4 j := by rw [zset_ne (by decide)]; exact e4
  have k1 : zset r 9 (upd (r 9) j (S 3 j + v)) 171 12 = E 3 1 := by rw [zset_ne (by decide)]; exact e1
  rw [k4, k1]
  exact ⟨(hS.set (k := 3) (j := j) (v := S 3 j + v) ⟨by decide, by decide⟩ (fun h => absurd h (by decide))).set (k := 4) ⟨by decide, by decide⟩ (fun h => absurd h (by decide)), (zFr.refl.set rfl).set rfl⟩
theorem kBgN (hE : xCe Lf t p E r) (hH : xCh t p E r) : xCs t p 6 (sBg E) (Gk_begin8N r q) ∧ zFr [6, 7, 8, 9, 10, 11] r (Gk_begin8N r q) := by
  have hp : p ≤ 6 := hE.2.1.2
  unfold Gk_begin8N
  rw [zletQ]
  have f0 : zFr [6, 7, 8, 9, 10, 11] r (zset r 6 (upd (r 6) 5 0)) := zFr.refl.set rfl
  have k := xLpS (p := p) (G := Gk_begin8N_7) (I := fun i r1 => zFr [6, 7, 8, 9, 10, 11] r r1 ∧ r1 6 5 = 0 ∧ xCs t i 6 (sBg E) r1) (Q := fun r1 => zFr [6, 7, 8, 9, 10, 11] r r1 ∧ xCs t p 6 (sBg E) r1) (by
    intro n i r2 hi ⟨f2, w2, c2⟩
    have e0 : Gk_begin8N_7 (n + 1) (nI i) r2 = Bk_begin8N_7 (Gk_begin8N_7 n) (nI i) r2 := rfl
    obtain ⟨ha, h6, h7, h8⟩ := hH i hi
    have k10 : r2 171 10 = nI p := by rw [f2 171 rfl]; exact hE.1.2.1
    have k6 : r2 176 i = E 4 i := by rw [f2 176 rfl]; exact h6
    have k7 : r2 177 i = E 5 i := by rw [f2 177 rfl]; exact h7
    have k8 : r2 178 i = E 6 i := by rw [f2 178 rfl]; exact h8
    have k7' : ∀ x y, zset r2 7 x 177 y = r2 177 y := fun x y => by rw [zset_ne (by decide)]
    have k8' : ∀ x1 x2 x3 y, zset (zset (zset r2 7 x1) 8 x2) 9 x3 178 y = r2 178 y := fun x1 x2 x3 y => by rw [zset_ne (by decide), zset_ne (by decide), zset_ne (by decide)]
    have k6' : ∀ x1 x2 x3 x4 y, zset (zset (zset (zset r2 7 x1) 8 x2) 9 x3) 10 x4 176 y = r2 176 y := fun x1 x2 x3 x4 y => by rw [zset_ne (by decide), zset_ne (by decide), zset_ne (by decide), zset_ne (by decide)]
    refine ⟨xs (xs (xs (xs (xs r2 7 i (E 4 i)) 8 i (E 5 i)) 9 i 0) 10 i (E 6 i)) 11 i ((1 : Int32) <<< (E 4 i &&& 31)), ⟨?_, ?_, ?_⟩, ?_⟩
    · exact ((((f2.set rfl).set rfl).set rfl).set rfl).set rfl
    · exact w2
    · refine ⟨w2, fun j hj => ?_⟩
      obtain ⟨a, ha1, ha2⟩ := ha
      by_cases e : j = i
      · subst e
        refine ⟨⟨a, ha1, ha2⟩, ?_, ?_, ?_, ?_, ?_⟩
        all_goals unfold xs
        · rw [zset_ne (by decide), zset_ne (by decide), zset_ne (by decide), zset_ne (by decide), zset_eq, pk_us]; rfl
        · rw [zset_ne (by decide), zset_ne (by decide), zset_ne (by decide), zset_eq, pk_us]; rfl
        · rw [zset_ne (by decide), zset_ne (by decide), zset_eq, pk_us]; rfl
        · rw [zset_ne (by decide), zset_eq, pk_us]; rfl
        · rw [zset_eq, pk_us]; rfl
      · obtain ⟨g1, g2, g3, g4, g5, g6⟩ := c2.2 j (by omega)
        refine ⟨g1, ?_, ?_, ?_, ?_, ?_⟩
        all_goals unfold xs
        · rw [zset_ne (by decide), zset_ne (by decide), zset_ne (by decide), zset_ne (by decide), zset_eq, pk_un e]; exact g2
        · rw [zset_ne (by decide), zset_ne (by decide), zset_ne (by decide), zset_eq, pk_un e, zset_ne (by decide)]; exact g3
        · rw [zset_ne (by decide), zset_ne (by decide), zset_eq, pk_un e, zset_ne (by decide), zset_ne (by decide)]; exact g4
        · rw [zset_ne (by decide), zset_eq, pk_un e, zset_ne (by decide), zset_ne (by decide), zset_ne (by decide)]; exact g5
        · rw [zset_eq, pk_un e, zset_ne (by decide), zset_ne (by decide), zset_ne (by decide), zset_ne (by decide)]; exact g6
    · rw [e0]
      unfold Bk_begin8N_7
      simp only [zletQ, zifQ, k10, nI_1, xzn (show i < 2 ^ 31 by omega), k7', k8', k6', k6, k7, k8]
      rw [if_neg (nI_leN (by omega) (by omega) (by omega))]
      rfl) (by
    intro n r2 ⟨f2, w2, c2⟩
    have e0 : Gk_begin8N_7 (n + 1) (nI p) r2 = Bk_begin8N_7 (Gk_begin8N_7 n) (nI p) r2 := rfl
    have k10 : r2 171 10 = nI p := by rw [f2 171 rfl]; exact hE.1.2.1
    rw [e0]
    unfold Bk_begin8N_7
    simp only [zifQ, k10]
    rw [if_pos (nI_leP (by omega) (by omega) (by omega))]
    exact ⟨f2, c2⟩) 7 0 (zset r 6 (upd (r 6) 5 0)) (by omega) (by omega) ⟨f0, by rw [zset_eq, pk_us], by rw [zset_eq, pk_us]; rfl, fun j hj => absurd hj (by omega)⟩
  exact ⟨k.2, k.1⟩
end XMVN
section XMVT
variable {Lf : xLT} {t p : Nat} {E S : Nat → Nat → Int32} {r : zRr} {q : zRq}
theorem kMvT (hS : xCs t p 12 S r) {j i : Nat} (hj : j < p) (hp : p ≤ 6) (hi : i < t) : xCs t p 12 (sMv S j i) (Gk_arriveT (nI j) (nI i) r q) ∧ zFr [13, 17] r (Gk_arriveT (nI j) (nI i) r q) := by
  have e : r 17 j = S 5 j := (hS.2 j hj).2.2.2.2.2
  have e2 : zset r 13 (upd (r 13) j (nI i)) 17 j = S 5 j := by rw [zset_ne (by decide)]; exact e
  unfold Gk_arriveT sMv
  simp only [zletQ, xzn (show j < 2 ^ 31 by omega)]
  rw [e2]
  exact ⟨(hS.set (k := 1) (j := j) (v := nI i) ⟨by decide, by decide⟩ (fun _ => ⟨i, hi, rfl⟩)).set (k := 5) ⟨by decide, by decide⟩ (fun h => absurd h (by decide)), (zFr.refl.set rfl).set rfl⟩
theorem kRzT (hS : xCs t p 12 S r) {j : Nat} (hj : j < p) (hp : p ≤ 6) : xCs t p 12 (sRz S j) (Gk_loseBeardT (nI j) r q) ∧ zFr [14, 15] r (Gk_loseBeardT (nI j) r q) := by
  unfold Gk_loseBeardT sRz
  simp only [zletQ, xzn (show j < 2 ^ 31 by omega)]
  exact ⟨(hS.set (k := 2) (j := j) (v := 0) ⟨by decide, by decide⟩ (fun h => absurd h (by decide))).set (k := 3) ⟨by decide, by decide⟩ (fun h => absurd h (by decide)), (zFr.refl.set rfl).set rfl⟩
theorem kFgT (hE : xCe Lf t p E r) (hS : xCs t p 12 S r) {j : Nat} {v : Int32} (hj : j < p) : xCs t p 12 (sFg E S j v) (Gk_sellT (nI j) v r q) ∧ zFr [15, 16] r (Gk_sellT (nI j) v r q) := by
  have hp : p ≤ 6 := hE.2.1.2
  have e3 : r 15 j = S 3 j := (hS.2 j hj).2.2.2.1
  have e4 : r 16 j = S 4 j := (hS.2 j hj).2.2.2.2.1
  have e1 : r 171 12 = E 3 1 := hE.1.2.2.2
  unfold Gk_sellT sFg
  simp only [zletQ, xzn (show j < 2 ^ 31 by omega), e3]
  have k4 : zset r 15 (upd (r 15) j (S 3 j + v)) 16 j = S 4 j := by rw [zset_ne (by decide)]; exact e4
  have k1 : zset r 15 (upd (r 15) j (S 3 j + v)) 171 12 = E 3 1 := by rw [zset_ne (by decide)]; exact e1
  rw [k4, k1]
  exact ⟨(hS.set (k := 3) (j := j) (v := S 3 j + v) ⟨by decide, by decide⟩ (fun h => absurd h (by decide))).set (k := 4) ⟨by decide, by decide⟩ (fun h => absurd h (by decide)), (zFr.refl.set rfl).set rfl⟩
theorem kBgT (hE : xCe Lf t p E r) (hH : xCh t p E r) : xCs t p 12 (sBg E) (Gk_begin8T r q) ∧ zFr [12, 13, 14, 15, 16, 17] r (Gk_begin8T r q) := by
  have hp : p ≤ 6 := hE.2.1.2
  unfold Gk_begin8T
  rw [zletQ]
  have f0 : zFr [12, 13, 14, 15, 16, 17] r (zset r 12 (upd (r 12) 5 0)) := zFr.refl.set rfl
  have k := xLpS (p := p) (G := Gk_begin8T_7) (I := fun i r1 => zFr [12, 13, 14, 15, 16, 17] r r1 ∧ r1 12 5 = 0 ∧ xCs t i 12 (sBg E) r1) (Q := fun r1 => zFr [12, 13, 14, 15, 16, 17] r r1 ∧ xCs t p 12 (sBg E) r1) (by
    intro n i r2 hi ⟨f2, w2, c2⟩
    have e0 : Gk_begin8T_7 (n + 1) (nI i) r2 = Bk_begin8T_7 (Gk_begin8T_7 n) (nI i) r2 := rfl
    obtain ⟨ha, h6, h7, h8⟩ := hH i hi
    have k10 : r2 171 10 = nI p := by rw [f2 171 rfl]; exact hE.1.2.1
    have k6 : r2 176 i = E 4 i := by rw [f2 176 rfl]; exact h6
    have k7 : r2 177 i = E 5 i := by rw [f2 177 rfl]; exact h7
    have k8 : r2 178 i = E 6 i := by rw [f2 178 rfl]; exact h8
    have k7' : ∀ x y, zset r2 13 x 177 y = r2 177 y := fun x y => by rw [zset_ne (by decide)]
    have k8' : ∀ x1 x2 x3 y, zset (zset (zset r2 13 x1) 14 x2) 15 x3 178 y = r2 178 y := fun x1 x2 x3 y => by rw [zset_ne (by decide), zset_ne (by decide), zset_ne (by decide)]
    have k6' : ∀ x1 x2 x3 x4 y, zset (zset (zset (zset r2 13 x1) 14 x2) 15 x3) 16 x4 176 y = r2 176 y := fun x1 x2 x3 x4 y => by rw [zset_ne (by decide), zset_ne (by decide), zset_ne (by decide), zset_ne (by decide)]
    refine ⟨xs (xs (xs (xs (xs r2 13 i (E 4 i)) 14 i (E 5 i)) 15 i 0) 16 i (E 6 i)) 17 i ((1 : Int32) <<< (E 4 i &&& 31)), ⟨?_, ?_, ?_⟩, ?_⟩
    · exact ((((f2.set rfl).set rfl).set rfl).set rfl).set rfl
    · exact w2
    · refine ⟨w2, fun j hj => ?_⟩
      obtain ⟨a, ha1, ha2⟩ := ha
      by_cases e : j = i
      · subst e
        refine ⟨⟨a, ha1, ha2⟩, ?_, ?_, ?_, ?_, ?_⟩
        all_goals unfold xs
        · rw [zset_ne (by decide), zset_ne (by decide), zset_ne (by decide), zset_ne (by decide), zset_eq, pk_us]; rfl
        · rw [zset_ne (by decide), zset_ne (by decide), zset_ne (by decide), zset_eq, pk_us]; rfl
        · rw [zset_ne (by decide), zset_ne (by decide), zset_eq, pk_us]; rfl
        · rw [zset_ne (by decide), zset_eq, pk_us]; rfl
        · rw [zset_eq, pk_us]; rfl
      · obtain ⟨g1, g2, g3, g4, g5, g6⟩ := c2.2 j (by omega)
        refine ⟨g1, ?_, ?_, ?_, ?_, ?_⟩
        all_goals unfold xs
        · rw [zset_ne (by decide), zset_ne (by decide), zset_ne (by decide), zset_ne (by decide), zset_eq, pk_un e]; exact g2
        · rw [zset_ne (by decide), zset_ne (by decide), zset_ne (by decide), zset_eq, pk_un e, zset_ne (by decide)]; exact g3
        · rw [zset_ne (by decide), zset_ne (by decide), zset_eq, pk_un e, zset_ne (by decide), zset_ne (by decide)]; exact g4
        · rw [zset_ne (by decide), zset_eq, pk_un e, zset_ne (by decide), zset_ne (by decide), zset_ne (by decide)]; exact g5
        · rw [zset_eq, pk_un e, zset_ne (by decide), zset_ne (by decide), zset_ne (by decide), zset_ne (by decide)]; exact g6
    · rw [e0]
      unfold Bk_begin8T_7
      simp only [zletQ, zifQ, k10, nI_1, xzn (show i < 2 ^ 31 by omega), k7', k8', k6', k6, k7, k8]
      rw [if_neg (nI_leN (by omega) (by omega) (by omega))]
      rfl) (by
    intro n r2 ⟨f2, w2, c2⟩
    have e0 : Gk_begin8T_7 (n + 1) (nI p) r2 = Bk_begin8T_7 (Gk_begin8T_7 n) (nI p) r2 := rfl
    have k10 : r2 171 10 = nI p := by rw [f2 171 rfl]; exact hE.1.2.1
    rw [e0]
    unfold Bk_begin8T_7
    simp only [zifQ, k10]
    rw [if_pos (nI_leP (by omega) (by omega) (by omega))]
    exact ⟨f2, c2⟩) 7 0 (zset r 12 (upd (r 12) 5 0)) (by omega) (by omega) ⟨f0, by rw [zset_eq, pk_us], by rw [zset_eq, pk_us]; rfl, fun j hj => absurd hj (by omega)⟩
  exact ⟨k.2, k.1⟩
end XMVT
section XMVm
variable {Lf : xLT} {t p : Nat} {E S : Nat → Nat → Int32} {mo : Int32} {r : zRr} {q : zRq}
theorem mMv (hS : xMs t p S (r 32)) (hz : xZr p (r 32)) {j i : Nat} (hj : j < p) (hp : p ≤ 6) (hi : i < t) : xMs t p (sMv S j i) (Gm_goes (nI j) (nI i) r q 32) ∧ xZr p (Gm_goes (nI j) (nI i) r q 32) ∧ zFr [32] r (Gm_goes (nI j) (nI i) r q) := by
  have e : r 32 (25 + j) = S 5 j := (hS.2 j hj).2.2.2.2.2
  have n1 : (1 : Int32) + nI j = nI (1 + j) := nI_add 1 j
  have n25 : (25 : Int32) + nI j = nI (25 + j) := nI_add 25 j
  unfold Gm_goes sMv
  simp only [zletQ, n1, n25, xzn (show 1 + j < 2 ^ 31 by omega), xzn (show 25 + j < 2 ^ 31 by omega), zset_eq]
  rw [pk_un (show 25 + j ≠ 1 + j by omega), e]
  exact ⟨(hS.set (k := 1) (j := j) (o := 1 + j) (v := nI i) hp ⟨by decide, by decide⟩ (by omega) (by omega) (fun _ => ⟨i, hi, rfl⟩)).set (k := 5) (o := 25 + j) hp ⟨by decide, by decide⟩ (by omega) (by omega) (fun h => absurd h (by decide)), (hz.set (k := 1) (o := 1 + j) hj hp (by omega)).set (k := 5) (o := 25 + j) hj hp (by omega), (zFr.refl.set rfl).set rfl⟩
theorem mRz (hS : xMs t p S (r 32)) (hz : xZr p (r 32)) {j : Nat} (hj : j < p) (hp : p ≤ 6) : xMs t p (sRz S j) (Gm_shaves (nI j) r q 32) ∧ xZr p (Gm_shaves (nI j) r q 32) ∧ zFr [32] r (Gm_shaves (nI j) r q) := by
  have n7 : (7 : Int32) + nI j = nI (7 + j) := nI_add 7 j
  have n13 : (13 : Int32) + nI j = nI (13 + j) := nI_add 13 j
  unfold Gm_shaves sRz
  simp only [zletQ, n7, n13, xzn (show 7 + j < 2 ^ 31 by omega), xzn (show 13 + j < 2 ^ 31 by omega), zset_eq]
  exact ⟨(hS.set (k := 2) (j := j) (o := 7 + j) (v := 0) hp ⟨by decide, by decide⟩ (by omega) (by omega) (fun h => absurd h (by decide))).set (k := 3) (o := 13 + j) hp ⟨by decide, by decide⟩ (by omega) (by omega) (fun h => absurd h (by decide)), (hz.set (k := 2) (o := 7 + j) hj hp (by omega)).set (k := 3) (o := 13 + j) hj hp (by omega), (zFr.refl.set rfl).set rfl⟩
theorem sFg_alt {j : Nat} {v : Int32} : xs (xs S 4 j (S 4 j - v * E 3 1)) 3 j (S 3 j + v) = sFg E S j v := by
  unfold sFg xs
  funext k i
  by_cases h3 : k = 3
  · subst h3; rw [zset_eq, zset_ne (by decide), zset_ne (by decide), zset_eq]
  · by_cases h4 : k = 4
    · subst h4; rw [zset_ne (by decide), zset_eq, zset_eq, zset_ne (by decide)]
    · rw [zset_ne h3, zset_ne h4, zset_ne h4, zset_ne h3]
theorem mFg (hE : xMe Lf t p E mo r) (hS : xMs t p S (r 32)) (hz : xZr p (r 32)) {j : Nat} {v : Int32} (hj : j < p) : xMs t p (sFg E S j v) (Gm_forges (nI j) v r q 32) ∧ xZr p (Gm_forges (nI j) v r q 32) ∧ zFr [32] r (Gm_forges (nI j) v r q) := by
  have hp : p ≤ 6 := hE.2.1.2
  have e3 : r 32 (13 + j) = S 3 j := (hS.2 j hj).2.2.2.1
  have e4 : r 32 (19 + j) = S 4 j := (hS.2 j hj).2.2.2.2.1
  have e1 : r 1 3 = E 3 1 := hE.1.2.2.2
  have n13 : (13 : Int32) + nI j = nI (13 + j) := nI_add 13 j
  have n19 : (19 : Int32) + nI j = nI (19 + j) := nI_add 19 j
  unfold Gm_forges
  rw [← sFg_alt]
  simp only [zletQ, n13, n19, xzn (show 13 + j < 2 ^ 31 by omega), xzn (show 19 + j < 2 ^ 31 by omega), zset_eq, e1, e4]
  rw [pk_un (show 13 + j ≠ 19 + j by omega), e3]
  exact ⟨(hS.set (k := 4) (j := j) (o := 19 + j) hp ⟨by decide, by decide⟩ (by omega) (by omega) (fun h => absurd h (by decide))).set (k := 3) (o := 13 + j) hp ⟨by decide, by decide⟩ (by omega) (by omega) (fun h => absurd h (by decide)), (hz.set (k := 4) (o := 19 + j) hj hp (by omega)).set (k := 3) (o := 13 + j) hj hp (by omega), (zFr.refl.set rfl).set rfl⟩
theorem mWk (hE : xMe Lf t p E mo r) (hS : xMs t p S (r 32)) (hz : xZr p (r 32)) : xMs t p (sWk E S) (Gm_passes r q 32) ∧ xZr p (Gm_passes r q 32) ∧ zFr [32] r (Gm_passes r q) := by
  have hp : p ≤ 6 := hE.2.1.2
  unfold Gm_passes
  have k := xLpS (p := p) (G := Gm_passes_2) (I := fun i r1 => zFr [32] r r1 ∧ ∀ o, r1 32 o = if 7 ≤ o ∧ o < 7 + i then sWk E S 2 (o - 7) else r 32 o) (Q := fun r1 => zFr [32] r r1 ∧ ∀ o, r1 32 o = if o = 0 then S 0 0 + 1 else if 7 ≤ o ∧ o < 7 + p then sWk E S 2 (o - 7) else r 32 o) (by
    intro n i r2 hi ⟨f2, c2⟩
    have e0 : Gm_passes_2 (n + 1) (nI i) r2 = Bm_passes_2 (Gm_passes_2 n) (nI i) r2 := rfl
    have k10 : r2 1 1 = nI p := by rw [f2 1 rfl]; exact hE.1.2.1
    have k11 : r2 1 2 = E 3 0 := by rw [f2 1 rfl]; exact hE.1.2.2.1
    have k5 : r2 6 i = E 2 i := by rw [f2 6 rfl]; exact hE.2.2.2.1 i hi
    have k2 : r2 32 (7 + i) = S 2 i := by rw [c2 (7 + i), if_neg (by omega)]; exact (hS.2 i hi).2.2.1
    have es : sWk E S 2 i = if E 2 i = 1 then S 2 i else sGr (E 3 0) (S 2 i) := rfl
    have n7 : (7 : Int32) + nI i = nI (7 + i) := nI_add 7 i
    rw [e0]
    unfold Bm_passes_2 Gm_passes_52
    simp only [zletQ, zifQ, k10, k11, nI_1, n7, xzn (show i < 2 ^ 31 by omega), xzn (show 7 + i < 2 ^ 31 by omega), k5, k2, sGr_min]
    rw [if_neg (nI_leN (by omega) (by omega) (by omega))]
    by_cases h1 : E 2 i = 1
    · rw [if_pos h1]
      refine ⟨r2, ⟨f2, fun o => ?_⟩, rfl⟩
      by_cases e : o = 7 + i
      · subst e; rw [k2, if_pos (by omega), show 7 + i - 7 = i by omega, es, if_pos h1]
      · rw [c2 o]
        by_cases l : 7 ≤ o ∧ o < 7 + i
        · rw [if_pos l, if_pos (by omega)]
        · rw [if_neg l, if_neg (by omega)]
    · rw [if_neg h1]
      refine ⟨zset r2 32 (upd (r2 32) (7 + i) (sGr (E 3 0) (S 2 i))), ⟨f2.set rfl, fun o => ?_⟩, rfl⟩
      rw [zset_eq]
      by_cases e : o = 7 + i
      · subst e; rw [pk_us, if_pos (by omega), show 7 + i - 7 = i by omega, es, if_neg h1]
      · rw [pk_un e, c2 o]
        by_cases l : 7 ≤ o ∧ o < 7 + i
        · rw [if_pos l, if_pos (by omega)]
        · rw [if_neg l, if_neg (by omega)]) (by
    intro n r2 ⟨f2, c2⟩
    have e0 : Gm_passes_2 (n + 1) (nI p) r2 = Bm_passes_2 (Gm_passes_2 n) (nI p) r2 := rfl
    have k10 : r2 1 1 = nI p := by rw [f2 1 rfl]; exact hE.1.2.1
    rw [e0]
    unfold Bm_passes_2
    simp only [zletQ, zifQ, k10]
    rw [if_pos (nI_leP (by omega) (by omega) (by omega))]
    refine ⟨f2.set rfl, fun o => ?_⟩
    rw [zset_eq]
    by_cases e : o = 0
    · subst e; rw [pk_us, if_pos rfl, c2 0, if_neg (by omega), hS.1]
    · rw [pk_un e, if_neg e]; exact c2 o) 7 0 r (by omega) (by omega) ⟨zFr.refl, fun o => by rw [if_neg (by omega)]⟩
  obtain ⟨f, c⟩ := k
  have c : ∀ o, Gm_passes_2 7 0 r 32 o = if o = 0 then S 0 0 + 1 else if 7 ≤ o ∧ o < 7 + p then sWk E S 2 (o - 7) else r 32 o := c
  have f : zFr [32] r (Gm_passes_2 7 0 r) := f
  generalize Gm_passes_2 7 0 r = r1 at c f ⊢
  refine ⟨⟨by rw [c 0, if_pos rfl]; rfl, fun j hj => ?_⟩, fun j h1 h2 => ?_, f⟩
  · obtain ⟨g1, g2, g3, g4, g5, g6⟩ := hS.2 j hj
    refine ⟨g1, ?_, ?_, ?_, ?_, ?_⟩
    · rw [c (1 + j), if_neg (by omega), if_neg (by omega)]; exact g2
    · rw [c (7 + j), if_neg (by omega), if_pos (by omega), show 7 + j - 7 = j by omega]
    · rw [c (13 + j), if_neg (by omega), if_neg (by omega)]; exact g4
    · rw [c (19 + j), if_neg (by omega), if_neg (by omega)]; exact g5
    · rw [c (25 + j), if_neg (by omega), if_neg (by omega)]; exact g6
  · rw [c (13 + j), c (19 + j), if_neg (by omega), if_neg (by omega), if_neg (by omega), if_neg (by omega)]
    exact hz j h1 h2
end XMVm
