/-! ===== answers: guide ===== -/
/-- the first u from k on, c of them, for which P is not 0 -/
noncomputable def yL (P : Nat → Int32) : Nat → Nat → Int32
  | 0, _ => -1
  | c + 1, k => if P k = 0 then yL P c (k + 1) else nI k
theorem yL_s {P : Nat → Int32} {c k : Nat} : yL P (c + 1) k = if P k = 0 then yL P c (k + 1) else nI k := rfl
section XGD
variable {Lf : xLT} {t p : Nat} {E S : Nat → Nat → Int32} {r0 rk : zRr} {q qk : zRq}
/-- how far it is from u, by the class's rows -/
noncomputable def sFar (rk : zRr) (qk : zRq) (i u : Nat) : Int32 := Gk_distance (nI u) (nI i) rk qk
noncomputable def sGd (Lf : xLT) (t p : Nat) (E S : Nat → Nat → Int32) (rk : zRr) (qk : zRq) (j i k : Nat) (d : Int32) (u : Nat) : Int32 := if (sT Lf t p E S 0 j k).testBit u = true then (if sFar rk qk i u = d - 1 then 1 else 0) else 0
theorem mFar (hE : xMe Lf t p E 0 r0) (hS : xMs t p S (r0 32)) (hR : xRd t E) {j i u : Nat} (hj : j < p) (hi : i < t) (hu : u < t) (h9 : rk 171 9 = nI t) (h2 : ∀ i, i < t → rk 202 i = nI (sT Lf t p E S 0 j i)) : ∃ r1, zFr [15, 16, 17, 18, 19, 20, 21, 22, 23, 24] r0 r1 ∧ Gm_farFrom (nI j) (nI u) (nI i) r0 q = (sFar rk qk i u, r1) := by
  have ht := hE.2.1.1
  unfold sFar Gm_farFrom Gk_distance
  simp only [zletQ, nOne (show u < 6 by omega)]
  obtain ⟨m3, f3, e3⟩ := xFar (q := q) (qk := qk) (rk := rk) hE hS hR hj hi (Nat.pow_lt_pow_right (by decide) hu) (two0 u) h9 h2 7 0 r0 (by omega) (by omega) zFr.refl (Or.inl (by omega))
  rw [if_pos (Nat.zero_le t)] at e3
  exact ⟨m3, f3, e3⟩
theorem kGd17 (ht : t ≤ 6) {j i k : Nat} {d : Int32} (hk : k < t) (h9 : rk 171 9 = nI t) (h2 : ∀ i, i < t → rk 202 i = nI (sT Lf t p E S 0 j i)) : ∀ (n u : Nat), u ≤ t → t < n + u → Gk_firstStep_17 (nI k) (nI i) rk qk n d (nI u) = yL (sGd Lf t p E S rk qk j i k d) (t - u) u := by
  intro n
  induction n with
  | zero => intro u h1 h2; omega
  | succ n ih =>
    intro u h1 h3
    have e0 : Gk_firstStep_17 (nI k) (nI i) rk qk (n + 1) d (nI u) = Bk_firstStep_17 (nI k) (nI i) rk qk (Gk_firstStep_17 (nI k) (nI i) rk qk n) d (nI u) := rfl
    rw [e0]
    unfold Bk_firstStep_17 Gk_firstStep_59
    simp only [zletQ, zifQ, zifnQ, h9, nI_1, xzn (show k < 2 ^ 31 by omega), h2 k hk, xh0]
    by_cases e : u = t
    · subst e
      rw [if_pos (nI_leP (by omega) (by omega) (by omega)), Nat.sub_self]; rfl
    · rw [if_neg (nI_leN (by omega) (by omega) (by omega)), show t - u = t - (u + 1) + 1 by omega, yL_s]
      have hb := nBit0 (m := sT Lf t p E S 0 j k) (i := u) (p64 ht (sT_lt k)) (by omega)
      unfold sGd
      by_cases c : (sT Lf t p E S 0 j k).testBit u = true
      · rw [if_neg (fun h => hb.mp h c), if_pos c]
        by_cases g : sFar rk qk i u = d - 1
        · rw [if_pos g, if_pos (show Gk_distance (nI u) (nI i) rk qk = d - 1 from g), if_neg (show ¬ (1 : Int32) = 0 by decide)]
        · rw [if_neg g, if_neg (show ¬ Gk_distance (nI u) (nI i) rk qk = d - 1 from g), if_pos (show (0 : Int32) = 0 from rfl)]
          exact ih (u + 1) (by omega) (by omega)
      · rw [if_pos (hb.mpr c), if_neg c, if_pos (show (0 : Int32) = 0 from rfl)]
        exact ih (u + 1) (by omega) (by omega)
end XGD
theorem sGo_T {Lf : xLT} {t p : Nat} {E S : Nat → Nat → Int32} {j k u : Nat} (hk : k ≤ 1000) (hu : u < t) (ek : S 1 j = nI k) : sGo Lf p E S 0 j u = 0 ↔ ¬ (sT Lf t p E S 0 j k).testBit u = true := by
  have h1 : sGo Lf p E S 0 j u = 0 ↔ sSp Lf p E S 0 j k u = 0 := by
    unfold sGo sSp
    rw [ek, xzn (show k < 2 ^ 31 by omega)]
    by_cases d : (E 1 k >>> (nI u &&& 31)) &&& 1 = 0
    · rw [if_pos d, if_pos d]
    · rw [if_neg d, if_neg d]
      by_cases d2 : sLe Lf p E S 0 (nI k) j u = 0
      · rw [if_pos d2]; exact ⟨fun _ => d2, fun _ => rfl⟩
      · rw [if_neg d2]; exact ⟨fun h => absurd h (by decide), fun h => absurd h d2⟩
  have h2 := yN_bit (f := sSp Lf p E S 0 j k) (i := u) t
  rw [h1]
  constructor
  · intro h c
    exact (h2.mp c).2 h
  · intro h
    by_cases c : sSp Lf p E S 0 j k u = 0
    · exact c
    · exact absurd (h2.mpr ⟨hu, c⟩) h
section XGD2
variable {Lf : xLT} {t p : Nat} {E S : Nat → Nat → Int32} {r0 rk : zRr} {q qk : zRq}
theorem mGd59 (hE : xMe Lf t p E 0 r0) (hS : xMs t p S (r0 32)) (hR : xRd t E) {j i k : Nat} {d : Int32} (hj : j < p) (hi : i < t) (hk : k < t) (ek : S 1 j = nI k) (h9 : rk 171 9 = nI t) (h2 : ∀ i, i < t → rk 202 i = nI (sT Lf t p E S 0 j i)) : ∀ (n u : Nat) (r : zRr), u ≤ t → u < n → zFr [15, 16, 17, 18, 19, 20, 21, 22, 23, 24] r0 r → (Gm_guide_59 (nI j) (nI i) q n d (yL (sGd Lf t p E S rk qk j i k d) (t - u) u) (nI u + (-1)) r).1 = yL (sGd Lf t p E S rk qk j i k d) t 0 := by
  have ht := hE.2.1.1
  intro n
  induction n with
  | zero => intro u r h1 h2; omega
  | succ n ih =>
    intro u r h1 h3 g1
    have e0 : Gm_guide_59 (nI j) (nI i) q (n + 1) d (yL (sGd Lf t p E S rk qk j i k d) (t - u) u) (nI u + (-1)) r = Bm_guide_59 (nI j) (nI i) q (Gm_guide_59 (nI j) (nI i) q n) d (yL (sGd Lf t p E S rk qk j i k d) (t - u) u) (nI u + (-1)) r := rfl
    rw [e0]
    unfold Bm_guide_59 Gm_guide_92
    simp only [zletQ, zifQ, zifnQ]
    cases u with
    | zero =>
      rw [if_pos (show nI 0 + (-1) < 0 by decide), Nat.sub_zero]
    | succ u =>
      rw [xdec, if_neg (xnn (j := u) (by omega)).2.1]
      have hE2 := hE.fr g1 (by decide)
      have hS2 := hS.fr (g1 32 rfl)
      obtain ⟨r3, f3, e3⟩ := mGo (q := q) hE2 hS2 hj (i := u) (by omega)
      have g3 := g1.tr f3 (by decide)
      have hG := sGo_T (Lf := Lf) (p := p) (E := E) (S := S) (j := j) (k := k) (by omega) (show u < t by omega) ek
      have hs := yL_s (P := sGd Lf t p E S rk qk j i k d) (c := t - (u + 1)) (k := u)
      rw [show t - (u + 1) + 1 = t - u by omega] at hs
      rw [e3, xcvr (r := r3)]
      by_cases c : (sT Lf t p E S 0 j k).testBit u = true
      · rw [if_neg (fun h => hG.mp h c)]
        obtain ⟨r5, f5, e5⟩ := mFar (q := q) (qk := qk) (rk := rk) (hE2.fr f3 (by decide)) (hS2.fr (f3 32 rfl)) hR hj hi (u := u) (by omega) h9 h2
        have g5 := g3.tr f5 (by decide)
        rw [e5, xcvr (r := r5)]
        by_cases g : sFar rk qk i u = d - 1
        · have ep : sGd Lf t p E S rk qk j i k d u = 1 := by unfold sGd; rw [if_pos c, if_pos g]
          rw [ep, if_neg (show ¬ (1 : Int32) = 0 by decide)] at hs
          have k9 := ih u r5 (by omega) (by omega) g5
          rw [hs] at k9
          rw [if_pos g]
          exact k9
        · have ep : sGd Lf t p E S rk qk j i k d u = 0 := by unfold sGd; rw [if_pos c, if_neg g]
          rw [ep, if_pos (show (0 : Int32) = 0 from rfl)] at hs
          rw [if_neg g, ← hs]
          exact ih u r5 (by omega) (by omega) g5
      · have ep : sGd Lf t p E S rk qk j i k d u = 0 := by unfold sGd; rw [if_neg c]
        rw [ep, if_pos (show (0 : Int32) = 0 from rfl)] at hs
        rw [if_pos (hG.mpr c), ← hs]
        exact ih u r3 (by omega) (by omega) g3
end XGD2
theorem xGuideW {t p : Nat} {r rm : zRr} {q qm : zRq} {a b : Int32} (h : xHow t p r q rm qm) : (Gk_guide a b r q).1 = (Gm_guide a b rm qm).1 := by
  have ht := h.le.1
  have hp := h.le.2
  have h1 := h.z100
  have hR := h.R
  unfold Gk_guide Gm_guide
  simp only [zletQ, zifQ, zifnQ]
  rw [h.isP a, h.isT b]
  by_cases c1 : Gm_isPerson a (zset rm 100 (fun _ => 0)) qm = 0
  · rw [if_pos c1, if_pos c1]
  rw [if_neg c1, if_neg c1]
  by_cases c2 : Gm_isTown b (zset rm 100 (fun _ => 0)) qm = 0
  · rw [if_pos c2, if_pos c2]
  rw [if_neg c2, if_neg c2]
  obtain ⟨j, hj, ea⟩ := h.pI c1
  obtain ⟨i, hi, eb⟩ := h.tI c2
  subst ea
  subst eb
  obtain ⟨hE, hE'⟩ := h1.E
  obtain ⟨S, s1, s2, _⟩ := h1.2.1
  obtain ⟨k, hk, ek⟩ := (s1.2 j hj).1
  have n1 : (1 : Int32) + nI j = nI (1 + j) := nI_add 1 j
  have k7 : zset rm 100 (fun _ => 0) 32 (1 + j) = nI k := (s2.2 j hj).2.1.trans ek
  obtain ⟨f, c⟩ := kLayN (q := q) hE s1 hR (mo := 0) hj
  rw [n1, xzn (show j < 2 ^ 31 by omega), xzn (show 1 + j < 2 ^ 31 by omega), k7]
  generalize Gk_layN (nI j) 0 r q = r1 at f c ⊢
  have e1 : r1 7 j = nI k := by rw [f 7 rfl, ← ek]; exact (s1.2 j hj).2.1
  have h9 : r1 171 9 = nI t := by rw [f 171 rfl]; exact hE.1.1
  rw [e1]
  obtain ⟨m3, w3, e3⟩ := mFar (q := qm) (qk := q) (rk := r1) hE' s2 hR hj hi hk h9 c
  rw [e3, xcvr (r := m3)]
  unfold Gk_firstStep
  simp only [zletQ, zifQ]
  show (if (1 : Int32) ≤ sFar r1 q i k then Gk_firstStep_17 (nI k) (nI i) r1 q 7 (sFar r1 q i k) 0 else -1) = _
  have c01 : (1 : Int32).toInt = 1 := by decide
  have c00 : (0 : Int32).toInt = 0 := by decide
  by_cases d : (0 : Int32) < sFar r1 q i k
  · have d' : (1 : Int32) ≤ sFar r1 q i k := by
      rw [Int32.lt_iff_toInt_lt, c00] at d
      rw [Int32.le_iff_toInt_le, c01]; omega
    have hE3 := hE'.fr w3 (by decide)
    have t3 : m3 1 0 = nI t := hE3.1.1
    rw [if_pos d', if_pos d, t3, Int32.sub_eq_add_neg]
    have k1 := kGd17 (qk := q) (i := i) (d := sFar r1 q i k) ht hk h9 c 7 0 (by omega) (by omega)
    have k2 := mGd59 (q := qm) (qk := q) (rk := r1) (d := sFar r1 q i k) hE3 (s2.fr (w3 32 rfl)) hR hj hi hk ek h9 c 7 t m3 (by omega) (by omega) zFr.refl
    rw [Nat.sub_self] at k2
    rw [nI_0, Nat.sub_zero] at k1
    exact k1.trans k2.symm
  · have d' : ¬ (1 : Int32) ≤ sFar r1 q i k := fun h9 => by
      rw [Int32.lt_iff_toInt_lt, c00] at d
      rw [Int32.le_iff_toInt_le, c01] at h9; omega
    rw [if_neg d', if_neg d]
