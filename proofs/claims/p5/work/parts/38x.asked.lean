/-! ===== answers: stricter, frontiers, trapped ===== -/
section XST3
variable {Lf : xLT} {t p : Nat} {E S : Nat → Nat → Int32} {mo : Int32} {r0 : zRr} {q : zRq}
/-- whether a town is within reach -/
noncomputable def sIn (Lf : xLT) (t p : Nat) (E S : Nat → Nat → Int32) (mo : Int32) (i j : Nat) : Int32 := if (yI (sT Lf t p E S mo j) t (t - 1) (2 ^ zn (S 1 j))).testBit i = true then 1 else 0
theorem kStr25 (hE : xCe Lf t p E r0) (hS : xCs t p 6 S r0) (hR : xRd t E) {i : Nat} (hi : i < t) : (Gk_stricter_25 (nI i) mo q 7 0 0 r0).1 = yB (sIn Lf t p E S mo i) p := by
  have ht : t ≤ 6 := hE.2.1.1
  have hp : p ≤ 6 := hE.2.1.2
  have k := xLpB (p := p) (M := [182, 202]) (r0 := r0) (f := sIn Lf t p E S mo i) (G := Gk_stricter_25 (nI i) mo q) (by
    intro n a j r2 hj f
    have e0 : Gk_stricter_25 (nI i) mo q (n + 1) a (nI j) r2 = Bk_stricter_25 (nI i) mo q (Gk_stricter_25 (nI i) mo q n) a (nI j) r2 := rfl
    have hE2 := hE.fr f (by decide)
    have hS2 := hS.sN f rfl rfl rfl rfl rfl rfl
    obtain ⟨b, hb, eb⟩ := (hS.2 j hj).1
    obtain ⟨r3, f3, e3⟩ := kRcN (q := q) hE2 hS2 hR (mo := mo) hj hb eb
    refine ⟨r3, f.tr f3 (by decide), ?_⟩
    rw [e0]
    unfold Bk_stricter_25 Gk_stricter_65 sIn
    simp only [zletQ, zifQ, hE2.1.2.1, nI_1, xh0]
    rw [if_neg (nI_leN (by omega) (by omega) (by omega)), e3, xcvr (r := r3), eb, xzn (show b < 2 ^ 31 by omega)]
    have hbit := nBit0 (m := yI (sT Lf t p E S mo j) t (t - 1) (2 ^ b)) (i := i) (p64 ht (yI_lt sT_lt _ _ (Nat.pow_lt_pow_right (by decide) hb))) (by omega)
    by_cases c : (yI (sT Lf t p E S mo j) t (t - 1) (2 ^ b)).testBit i = true
    · rw [if_neg (fun h => hbit.mp h c), if_pos c, if_neg (show ¬ (1 : Int32) = 0 by decide)]
    · rw [if_pos (hbit.mpr c), if_neg c, if_pos (show (0 : Int32) = 0 from rfl)]) (by
    intro n a r2 f
    have e0 : Gk_stricter_25 (nI i) mo q (n + 1) a (nI p) r2 = Bk_stricter_25 (nI i) mo q (Gk_stricter_25 (nI i) mo q n) a (nI p) r2 := rfl
    have hE2 := hE.fr f (by decide)
    rw [e0]
    unfold Bk_stricter_25
    simp only [zletQ, zifQ, hE2.1.2.1]
    rw [if_pos (nI_leP (by omega) (by omega) (by omega))]) 7 0 r0 (by omega) (by omega) zFr.refl
  obtain ⟨r1, _, e1⟩ := k
  have e1 : Gk_stricter_25 (nI i) mo q 7 0 0 r0 = (yB (sIn Lf t p E S mo i) p, r1) := e1
  rw [e1]
theorem mStr35 (hE : xMe Lf t p E mo r0) (hS : xMs t p S (r0 32)) (hR : xRd t E) {i : Nat} (hi : i < t) : ∀ (n j : Nat) (r : zRr), j ≤ p → p < n + j → zFr [15, 16, 17, 18, 19, 20, 21, 22, 23, 24] r0 r → (Gm_stricter_35 (nI i) q n (yB (sIn Lf t p E S mo i) j) (nI j) r).1 = yB (sIn Lf t p E S mo i) p := by
  have ht : t ≤ 6 := hE.2.1.1
  have hp : p ≤ 6 := hE.2.1.2
  intro n
  induction n with
  | zero => intro j r h1 h2; omega
  | succ n ih =>
    intro j r h1 h2 g1
    have e0 : Gm_stricter_35 (nI i) q (n + 1) (yB (sIn Lf t p E S mo i) j) (nI j) r = Bm_stricter_35 (nI i) q (Gm_stricter_35 (nI i) q n) (yB (sIn Lf t p E S mo i) j) (nI j) r := rfl
    have hE2 := hE.fr g1 (by decide)
    have hS2 := hS.fr (g1 32 rfl)
    have n1 : (1 : Int32) + nI j = nI (1 + j) := nI_add 1 j
    rw [e0]
    unfold Bm_stricter_35
    simp only [zletQ, zifQ, hE2.1.2.1, nI_1, n1, xzn (show 1 + j < 2 ^ 31 by omega)]
    by_cases e : j = p
    · subst e; rw [if_pos (nI_leP (by omega) (by omega) (by omega))]
    · have hj : j < p := by omega
      obtain ⟨b, hb, eb⟩ := (hS.2 j hj).1
      have k7 : r 32 (1 + j) = nI b := (hS2.2 j hj).2.1.trans eb
      obtain ⟨r3, f3, e3⟩ := mRch (q := q) hE2 hS2 hR hj (Nat.pow_lt_pow_right (by decide) hb) (two0 b)
      rw [if_neg (nI_leN (by omega) (by omega) (by omega)), k7, nOne (by omega), e3, xcvr (r := r3), nBit (p64 ht (yI_lt sT_lt _ _ (Nat.pow_lt_pow_right (by decide) hb))) (by omega)]
      have hs := yB_s (f := sIn Lf t p E S mo i) (n := j)
      have ein : sIn Lf t p E S mo i j = if (yI (sT Lf t p E S mo j) t (t - 1) (2 ^ b)).testBit i = true then 1 else 0 := by
        unfold sIn; rw [eb, xzn (show b < 2 ^ 31 by omega)]
      have z0 : ∀ x : Fin 6, (0 : Int32) <<< (nI x.val &&& 31) = 0 := by decide
      by_cases c : (yI (sT Lf t p E S mo j) t (t - 1) (2 ^ b)).testBit i = true
      · rw [if_pos c]
        rw [if_pos c] at ein
        rw [ein, if_neg (show ¬ (1 : Int32) = 0 by decide)] at hs
        rw [← hs]
        exact ih (j + 1) r3 (by omega) (by omega) (g1.tr f3 (by decide))
      · rw [if_neg c, z0 ⟨j, by omega⟩, or0]
        rw [if_neg c] at ein
        rw [ein, if_pos (show (0 : Int32) = 0 from rfl)] at hs
        rw [← hs]
        exact ih (j + 1) r3 (by omega) (by omega) (g1.tr f3 (by decide))
end XST3
theorem xMe.mo {Lf : xLT} {t p : Nat} {E : Nat → Nat → Int32} {mo v : Int32} {r : zRr} (h : xMe Lf t p E mo r) : xMe Lf t p E v (zset r 152 (fun _ => v)) := by
  obtain ⟨h1, h2, h3, h4, _, h6⟩ := h
  exact ⟨h1, h2, h3, h4, by rw [zset_eq], fun r1 k1 k2 k3 => h6 r1 k1 k2 k3⟩
theorem xStricterW {t p : Nat} {r rm : zRr} {q qm : zRq} {a b : Int32} (h : xHow t p r q rm qm) : (Gk_stricter a b r q).1 = (Gm_stricter a b rm qm).1 := by
  have ht := h.le.1
  have hp := h.le.2
  have h1 := h.z100
  have hR := h.R
  unfold Gk_stricter Gm_stricter
  simp only [zletQ, zifQ, zifnQ]
  rw [h.isT a]
  by_cases c1 : Gm_isTown a (zset rm 100 (fun _ => 0)) qm = 0
  · rw [if_pos c1, if_pos c1]
  rw [if_neg c1, if_neg c1]
  obtain ⟨i, hi, ea⟩ := h.tI c1
  subst ea
  obtain ⟨hE, hE'⟩ := h1.E
  obtain ⟨S, s1, s2, _⟩ := h1.2.1
  unfold Gm_within
  simp only [zifQ]
  by_cases d1 : b < 0
  · simp only [if_pos d1, if_true]
  · simp only [if_neg d1]
    by_cases d2 : 9 < b
    · have d3 : ¬ b ≤ 9 := fun k => by rw [Int32.lt_iff_toInt_lt] at d2; rw [Int32.le_iff_toInt_le] at k; omega
      simp only [if_neg d3, if_pos d2, if_true]
    · have d3 : b ≤ 9 := by rw [Int32.lt_iff_toInt_lt] at d2; rw [Int32.le_iff_toInt_le]; omega
      simp only [if_pos d3, if_neg d2, if_neg (show ¬ (1 : Int32) = 0 by decide)]
      have k1 := kStr25 (mo := b) (q := q) hE s1 hR hi
      have k2 := mStr35 (q := qm) (r0 := zset (zset rm 100 (fun _ => 0)) 152 (fun _ => b)) (mo := b) hE'.mo s2 hR hi 7 0 _ (by omega) (by omega) zFr.refl
      exact k1.trans k2.symm
/-! ===== frontiers ===== -/
section XFR
variable {Lf : xLT} {t p : Nat} {E S : Nat → Nat → Int32} {r0 rk : zRr} {q qk : zRq}
theorem xFar (hE : xMe Lf t p E 0 r0) (hS : xMs t p S (r0 32)) (hR : xRd t E) {j i x : Nat} (hj : j < p) (hi : i < t) (hx : x < 2 ^ t) (h0 : x ≠ 0) (h9 : rk 171 9 = nI t) (h2 : ∀ i, i < t → rk 202 i = nI (sT Lf t p E S 0 j i)) : ∀ (n k : Nat) (r : zRr), k ≤ 6 → 6 < n + k → zFr [15, 16, 17, 18, 19, 20, 21, 22, 23, 24] r0 r → (k < t ∨ ¬ (yI (sT Lf t p E S 0 j) t (t - 1) x).testBit i = true) → ∃ r1, zFr [15, 16, 17, 18, 19, 20, 21, 22, 23, 24] r0 r1 ∧ Gm_farFrom_8 (nI j) (nI i) q n (nI (yI (sT Lf t p E S 0 j) t k x)) (nI k) r = (if k ≤ t then Gk_distance_7 (nI i) rk qk n (nI (yI (sT Lf t p E S 0 j) t k x)) (nI k) else -1, r1) := by
  have ht := hE.2.1.1
  have hlt : ∀ k, yI (sT Lf t p E S 0 j) t k x < 2 ^ t := fun k => yI_lt sT_lt k x hx
  intro n
  induction n with
  | zero => intro k r h1 h2; omega
  | succ n ih =>
    intro k r h1 h3 g1 hk
    have e0 : Gm_farFrom_8 (nI j) (nI i) q (n + 1) (nI (yI (sT Lf t p E S 0 j) t k x)) (nI k) r = Bm_farFrom_8 (nI j) (nI i) q (Gm_farFrom_8 (nI j) (nI i) q n) (nI (yI (sT Lf t p E S 0 j) t k x)) (nI k) r := rfl
    have e1 : Gk_distance_7 (nI i) rk qk (n + 1) (nI (yI (sT Lf t p E S 0 j) t k x)) (nI k) = Bk_distance_7 (nI i) rk qk (Gk_distance_7 (nI i) rk qk n) (nI (yI (sT Lf t p E S 0 j) t k x)) (nI k) := rfl
    rw [e0, e1]
    unfold Bm_farFrom_8 Bk_distance_7
    simp only [zletQ, zifQ, zifnQ, h9, nI_1, xh0]
    have hb := nBit (m := yI (sT Lf t p E S 0 j) t k x) (i := i) (p64 ht (hlt k)) (by omega)
    have stay : t ≤ k → yI (sT Lf t p E S 0 j) t k x = yI (sT Lf t p E S 0 j) t (t - 1) x := fun h => by
      have := yI_stay (T := sT Lf t p E S 0 j) (x := x) (t := t) (k := t - 1) (yI_fix sT_lt hx h0) (k - (t - 1))
      rw [show t - 1 + (k - (t - 1)) = k by omega] at this
      exact this
    by_cases e6 : k = 6
    · subst e6
      rw [if_pos (show (6 : Int32) ≤ nI 6 from nI_leP (a := 6) (by omega) (by omega) (by omega)), if_pos (nI_leP (a := t) (b := 6) (by omega) (by omega) (by omega))]
      refine ⟨r, g1, ?_⟩
      by_cases c : 6 ≤ t
      · rw [if_pos c]
      · rw [if_neg c]
    · rw [if_neg (show ¬ (6 : Int32) ≤ nI k from nI_leN (a := 6) (by omega) (by omega) (by omega))]
      obtain ⟨r3, f3, e3⟩ := mSpd (q := q) (hE.fr g1 (by decide)) (hS.fr (g1 32 rfl)) hR hj (hlt k)
      by_cases kt : k < t
      · rw [if_pos (show k ≤ t by omega), if_neg (nI_leN (a := t) (b := k) (by omega) (by omega) (by omega))]
        by_cases c : (yI (sT Lf t p E S 0 j) t k x).testBit i = true
        · rw [if_pos c] at hb
          rw [hb, if_pos rfl, if_neg (show ¬ (1 : Int32) = 0 by decide)]
          exact ⟨r, g1, rfl⟩
        · rw [if_neg c] at hb
          rw [hb, if_neg (show ¬ (0 : Int32) = 1 by decide), if_pos rfl, e3, xcvr (r := r3), kWid (q := qk) h9 ht h2 sT_lt (hlt k), ← yI_c]
          have k9 := ih (k + 1) r3 (by omega) (by omega) (g1.tr f3 (by decide)) (by
            by_cases e : k + 1 < t
            · exact Or.inl e
            · exact Or.inr (by rw [show t - 1 = k by omega]; exact c))
          rw [if_pos (show k + 1 ≤ t by omega)] at k9
          exact k9
      · have hnb : ¬ (yI (sT Lf t p E S 0 j) t k x).testBit i = true := by
          rw [stay (by omega)]
          exact hk.resolve_left kt
        rw [if_neg hnb] at hb
        rw [hb, if_neg (show ¬ (0 : Int32) = 1 by decide), e3, xcvr (r := r3), ← yI_c, if_pos (nI_leP (a := t) (b := k) (by omega) (by omega) (by omega))]
        have k9 := ih (k + 1) r3 (by omega) (by omega) (g1.tr f3 (by decide)) (Or.inr (by rw [← stay (by omega)]; exact hnb))
        rw [if_neg (show ¬ k + 1 ≤ t by omega)] at k9
        obtain ⟨r4, f4, e4⟩ := k9
        refine ⟨r4, f4, ?_⟩
        rw [e4]
        by_cases c : k ≤ t
        · rw [if_pos c]
        · rw [if_neg c]
end XFR
theorem xFrontW {t p : Nat} {r rm : zRr} {q qm : zRq} {a b : Int32} (h : xHow t p r q rm qm) : (Gk_frontiers a b r q).1 = (Gm_frontiers a b rm qm).1 := by
  have ht := h.le.1
  have hp := h.le.2
  have h1 := h.z100
  have hR := h.R
  unfold Gk_frontiers Gm_frontiers
  simp only [zletQ, zifQ, zifnQ]
  rw [h.isP a, h.isT b]
  by_cases c1 : Gm_isPerson a (zset rm 100 (fun _ => 0)) qm = 0
  · rw [if_pos c1, if_pos c1]
  rw [if_neg c1, if_neg c1]
  by_cases c2 : Gm_isTown b (zset rm 100 (fun _ => 0)) qm = 0
  · rw [if_pos c2, if_pos c2]
  rw [if_neg c2, if_neg c2]
  obtain ⟨j, hj, ea⟩ := h.pI c1
  obtain ⟨i, hi, eb⟩ := h.tI c2
  subst ea
  subst eb
  obtain ⟨hE, hE'⟩ := h1.E
  obtain ⟨S, s1, s2, _⟩ := h1.2.1
  obtain ⟨k, hk, ek⟩ := (s1.2 j hj).1
  have n1 : (1 : Int32) + nI j = nI (1 + j) := nI_add 1 j
  have k7 : zset rm 100 (fun _ => 0) 32 (1 + j) = nI k := (s2.2 j hj).2.1.trans ek
  obtain ⟨f, c⟩ := kLayN (q := q) hE s1 hR (mo := 0) hj
  rw [n1, xzn (show j < 2 ^ 31 by omega), xzn (show 1 + j < 2 ^ 31 by omega), k7]
  generalize Gk_layN (nI j) 0 r q = r1 at f c ⊢
  have e1 : r1 7 j = nI k := by rw [f 7 rfl, ← ek]; exact (s1.2 j hj).2.1
  have h9 : r1 171 9 = nI t := by rw [f 171 rfl]; exact hE.1.1
  rw [e1]
  unfold Gk_distance Gm_farFrom
  simp only [zletQ, nOne (show k < 6 by omega)]
  obtain ⟨m3, _, e3⟩ := xFar (q := qm) (qk := q) (rk := r1) hE' s2 hR hj hi (Nat.pow_lt_pow_right (by decide) hk) (two0 k) h9 c 7 0 _ (by omega) (by omega) zFr.refl (Or.inl (by omega))
  rw [if_pos (Nat.zero_le t)] at e3
  have e3 : Gm_farFrom_8 (nI j) (nI i) qm 7 (nI (2 ^ k)) 0 (zset rm 100 (fun _ => 0)) = (Gk_distance_7 (nI i) r1 q 7 (nI (2 ^ k)) 0, m3) := e3
  rw [e3, xcvr (r := m3)]
/-! ===== trapped ===== -/
section XTRP
variable {Lf : xLT} {t p : Nat} {E S : Nat → Nat → Int32} {r0 : zRr} {q : zRq}
noncomputable def sTr (Lf : xLT) (t p : Nat) (E S : Nat → Nat → Int32) (j : Nat) : Int32 := if sT Lf t p E S 0 j (zn (S 1 j)) = 0 then 1 else 0
theorem kTrp (hE : xCe Lf t p E r0) (hS : xCs t p 6 S r0) (hR : xRd t E) : (Gk_trapped_4 q 7 0 0 r0).1 = yB (sTr Lf t p E S) p := by
  have ht : t ≤ 6 := hE.2.1.1
  have hp : p ≤ 6 := hE.2.1.2
  have k := xLpB (p := p) (M := [182, 202]) (r0 := r0) (f := sTr Lf t p E S) (G := Gk_trapped_4 q) (by
    intro n a j r2 hj f
    have e0 : Gk_trapped_4 q (n + 1) a (nI j) r2 = Bk_trapped_4 q (Gk_trapped_4 q n) a (nI j) r2 := rfl
    have hE2 := hE.fr f (by decide)
    have hS2 := hS.sN f rfl rfl rfl rfl rfl rfl
    obtain ⟨b, hb, eb⟩ := (hS.2 j hj).1
    obtain ⟨g, c⟩ := kLayN (q := q) hE2 hS2 hR (mo := 0) hj
    rw [e0]
    unfold Bk_trapped_4 Gk_trapped_54 sTr
    simp only [zletQ, zifQ, zifnQ, hE2.1.2.1, nI_1, xzn (show j < 2 ^ 31 by omega)]
    generalize Gk_layN (nI j) 0 r2 q = r3 at g c ⊢
    have e7 : r3 7 j = nI b := by rw [g 7 rfl, ← eb]; exact (hS2.2 j hj).2.1
    refine ⟨r3, f.tr g (by decide), ?_⟩
    rw [if_neg (nI_leN (by omega) (by omega) (by omega)), e7, xzn (show b < 2 ^ 31 by omega), c b hb, eb, xzn (show b < 2 ^ 31 by omega)]
    have h0 := nI0 (m := sT Lf t p E S 0 j b) (p64 ht (sT_lt b))
    by_cases d : sT Lf t p E S 0 j b = 0
    · rw [if_pos (h0.mpr d), if_pos d, if_neg (show ¬ (1 : Int32) = 0 by decide)]
    · rw [if_neg (fun h => d (h0.mp h)), if_neg d, if_pos (show (0 : Int32) = 0 from rfl)]) (by
    intro n a r2 f
    have e0 : Gk_trapped_4 q (n + 1) a (nI p) r2 = Bk_trapped_4 q (Gk_trapped_4 q n) a (nI p) r2 := rfl
    have hE2 := hE.fr f (by decide)
    rw [e0]
    unfold Bk_trapped_4
    simp only [zletQ, zifQ, hE2.1.2.1]
    rw [if_pos (nI_leP (by omega) (by omega) (by omega))]) 7 0 r0 (by omega) (by omega) zFr.refl
  obtain ⟨r1, _, e1⟩ := k
  have e1 : Gk_trapped_4 q 7 0 0 r0 = (yB (sTr Lf t p E S) p, r1) := e1
  rw [e1]
theorem mTrp24 (hE : xMe Lf t p E 0 r0) (hS : xMs t p S (r0 32)) {j b : Nat} (hj : j < p) (hb : b < t) (eb : S 1 j = nI b) {ih9 : Int32 → Int32 → zRr → Int32 × zRr} {v : Int32} : ∀ (n u : Nat) (r : zRr), u ≤ t → t < n + u → zFr [15, 16, 17, 18, 19, 20, 21, 22, 23, 24] r0 r → ∃ r1, zFr [15, 16, 17, 18, 19, 20, 21, 22, 23, 24] r0 r1 ∧ Gm_trapped_24 q v (nI j) ih9 n (if yN (sSp Lf p E S 0 j b) u = 0 then 1 else 0) (nI u) r = ih9 (if sTr Lf t p E S j = 0 then v else v ||| ((1 : Int32) <<< (nI j &&& 31))) (nI (j + 1)) r1 := by
  have ht := hE.2.1.1
  have hp := hE.2.1.2
  have ebn : zn (S 1 j) = b := by rw [eb]; exact xzn (by omega)
  intro n
  induction n with
  | zero => intro u r h1 h2; omega
  | succ n ih =>
    intro u r h1 h2 g1
    have e0 : Gm_trapped_24 q v (nI j) ih9 (n + 1) (if yN (sSp Lf p E S 0 j b) u = 0 then 1 else 0) (nI u) r = Bm_trapped_24 q v (nI j) ih9 (Gm_trapped_24 q v (nI j) ih9 n) (if yN (sSp Lf p E S 0 j b) u = 0 then 1 else 0) (nI u) r := rfl
    have hE2 := hE.fr g1 (by decide)
    have hS2 := hS.fr (g1 32 rfl)
    rw [e0]
    unfold Bm_trapped_24 Gm_trapped_53 Gm_trapped_54 Gm_trapped_73
    simp only [zletQ, zifQ, zifnQ, hE2.1.1, nI_1, or0]
    by_cases e : u = t
    · subst e
      rw [if_pos (nI_leP (by omega) (by omega) (by omega))]
      refine ⟨r, g1, ?_⟩
      have es : sTr Lf u p E S j = if yN (sSp Lf p E S 0 j b) u = 0 then 1 else 0 := by
        unfold sTr; rw [ebn]; rfl
      rw [es]
      by_cases c : yN (sSp Lf p E S 0 j b) u = 0
      · rw [if_pos c, if_neg (show ¬ (1 : Int32) = 0 by decide), if_neg (show ¬ (1 : Int32) = 0 by decide)]
      · rw [if_neg c, if_pos (show (0 : Int32) = 0 from rfl), if_pos (show (0 : Int32) = 0 from rfl)]
    · rw [if_neg (nI_leN (by omega) (by omega) (by omega))]
      have hs := yN_0 (f := sSp Lf p E S 0 j b) (n := u)
      by_cases c : yN (sSp Lf p E S 0 j b) u = 0
      · rw [if_pos c, if_neg (show ¬ (1 : Int32) = 0 by decide)]
        obtain ⟨r3, f3, e3⟩ := mGo (q := q) hE2 hS2 hj (i := u) (by omega)
        have g3 := g1.tr f3 (by decide)
        rw [e3, xcvr (r := r3)]
        have ego : sGo Lf p E S 0 j u = 0 ↔ sSp Lf p E S 0 j b u = 0 := by
          unfold sGo sSp
          rw [ebn, eb]
          by_cases d : (E 1 b >>> (nI u &&& 31)) &&& 1 = 0
          · rw [if_pos d, if_pos d]
          · rw [if_neg d, if_neg d]
            by_cases d2 : sLe Lf p E S 0 (nI b) j u = 0
            · rw [if_pos d2]; exact ⟨fun _ => d2, fun _ => rfl⟩
            · rw [if_neg d2]; exact ⟨fun h => absurd h (by decide), fun h => absurd h d2⟩
        have k9 := ih (u + 1) r3 (by omega) (by omega) g3
        by_cases d : sGo Lf p E S 0 j u = 0
        · rw [if_pos d]
          rw [if_pos (hs.mpr ⟨c, ego.mp d⟩)] at k9
          exact k9
        · rw [if_neg d]
          rw [if_neg (fun h => d (ego.mpr (hs.mp h).2))] at k9
          exact k9
      · rw [if_neg c, if_pos (show (0 : Int32) = 0 from rfl)]
        have k9 := ih (u + 1) r (by omega) (by omega) g1
        rw [if_neg (fun h => c (hs.mp h).1)] at k9
        exact k9
theorem mTrp9 (hE : xMe Lf t p E 0 r0) (hS : xMs t p S (r0 32)) : ∀ (n j : Nat) (r : zRr), j ≤ p → p < n + j → zFr [15, 16, 17, 18, 19, 20, 21, 22, 23, 24] r0 r → (Gm_trapped_9 q n (yB (sTr Lf t p E S) j) (nI j) r).1 = yB (sTr Lf t p E S) p := by
  have ht := hE.2.1.1
  have hp := hE.2.1.2
  intro n
  induction n with
  | zero => intro j r h1 h2; omega
  | succ n ih =>
    intro j r h1 h2 g1
    have e0 : Gm_trapped_9 q (n + 1) (yB (sTr Lf t p E S) j) (nI j) r = Bm_trapped_9 q (Gm_trapped_9 q n) (yB (sTr Lf t p E S) j) (nI j) r := rfl
    have hE2 := hE.fr g1 (by decide)
    rw [e0]
    unfold Bm_trapped_9
    simp only [zletQ, zifQ, hE2.1.2.1]
    by_cases e : j = p
    · subst e; rw [if_pos (nI_leP (by omega) (by omega) (by omega))]
    · rw [if_neg (nI_leN (by omega) (by omega) (by omega))]
      obtain ⟨b, hb, eb⟩ := (hS.2 j (by omega)).1
      obtain ⟨r4, f4, e4⟩ := mTrp24 (q := q) hE hS (j := j) (by omega) hb eb (ih9 := Gm_trapped_9 q n) (v := yB (sTr Lf t p E S) j) 7 0 r (by omega) (by omega) g1
      rw [if_pos (show yN (sSp Lf p E S 0 j b) 0 = 0 from rfl), nI_0, ← yB_s] at e4
      rw [e4]
      exact ih (j + 1) r4 (by omega) (by omega) f4
end XTRP
theorem xTrapW {t p : Nat} {r rm : zRr} {q qm : zRq} (h : xHow t p r q rm qm) : (Gk_trapped r q).1 = (Gm_trapped rm qm).1 := by
  have hp := h.le.2
  have h1 := h.z100
  obtain ⟨hE, hE'⟩ := h1.E
  obtain ⟨S, s1, s2, _⟩ := h1.2.1
  unfold Gk_trapped Gm_trapped
  rw [zletQ]
  exact (kTrp (q := q) hE s1 h.R).trans (mTrp9 (q := qm) hE' s2 7 0 _ (by omega) (by omega) zFr.refl).symm
