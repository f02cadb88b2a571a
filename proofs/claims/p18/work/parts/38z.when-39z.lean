section
/-! ===== answers: when ===== -/
section XWN
variable {Lf : xLT} {t p : Nat} {E : Nat → Nat → Int32}
end XWN
section XWM
variable {Lf : xLT} {t p : Nat} {E S : Nat → Nat → Int32} {rm0 : zRr} {q : zRq}
end XWM
theorem nIm1 {k : Nat} (h : k ≤ 1000) : ¬ nI k = -1 := fun h9 => by
  have h8 := congrArg Int32.toInt h9
  rw [nI_toInt (by omega)] at h8
  have c : (-1 : Int32).toInt = -1 := by decide
  omega
section XWK3
variable {Lf : xLT} {t p : Nat} {E S : Nat → Nat → Int32} {q : zRq}
end XWK3
section XWF
variable {Lf : xLT} {t p : Nat} {E S : Nat → Nat → Int32} {r : zRr} {q : zRq}
end XWF
end
section
/-! ===== answers: guide ===== -/
/-- the first u from k on, c of them, for which P is not 0 -/
noncomputable def yL (P : Nat → Int32) : Nat → Nat → Int32
  | 0, _ => -1
  | c + 1, k => if P k = 0 then yL P c (k + 1) else nI k
theorem yL_s {P : Nat → Int32} {c k : Nat} : yL P (c + 1) k = if P k = 0 then yL P c (k + 1) else nI k := rfl
section XGD
variable {Lf : xLT} {t p : Nat} {E S : Nat → Nat → Int32} {r0 rk : zRr} {q qk : zRq}
/-- how far it is from u, by the class's rows -/
noncomputable def sFar (rk : zRr) (qk : zRq) (i u : Nat) : Int32 := Gk_distance (nI u) (nI i) rk qk
noncomputable def sGd (Lf : xLT) (t p : Nat) (E S : Nat → Nat → Int32) (rk : zRr) (qk : zRq) (j i k : Nat) (d : Int32) (u : Nat) : Int32 := if (sT Lf t p E S 0 j k).testBit u = true then (if sFar rk qk i u = d - 1 then 1 else 0) else 0
theorem mFar (hE : xMe Lf t p E 0 r0) (hS : xMs t p S (r0 32)) (hR : xRd t E) {j i u : Nat} (hj : j < p) (hi : i < t) (hu : u < t) (h9 : rk 171 9 = nI t) (h2 : ∀ i, i < t → rk 202 i = nI (sT Lf t p E S 0 j i)) : ∃ r1, zFr [15, 16, 17, 18, 19, 20, 21, 22, 23, 24] r0 r1 ∧ Gm_farFrom (nI j) (nI u) (nI i) r0 q = (sFar rk qk i u, r1) := by
  have ht := hE.2.1.1
  unfold sFar Gm_farFrom Gk_distance
  simp only [zletQ, nOne (show u < 6 by omega)]
  obtain ⟨m3, f3, e3⟩ := xFar (q := q) (qk := qk) (rk := rk) hE hS hR hj hi (Nat.pow_lt_pow_right (by decide) hu) (two0 u) h9 h2 7 0 r0 (by omega) (by omega) zFr.refl (Or.inl (by omega))
  rw [if_pos (Nat.zero_le t)] at e3
  exact ⟨m3, f3, e3⟩
theorem kGd17 (ht : t ≤ 6) {j i k : Nat} {d : Int32} (hk : k < t) (h9 : rk 171 9 = nI t) (h2 : ∀ i, i < t → rk 202 i = nI (sT Lf t p E S 0 j i)) : ∀ (n u : Nat), u ≤ t → t < n + u → Gk_firstStep_17 (nI k) (nI i) rk qk n d (nI u) = yL (sGd Lf t p E S rk qk j i k d) (t - u) u := by
  intro n
  induction n with
  | zero => intro u h1 h2; omega
  | succ n ih =>
    intro u h1 h3
    have e0 : Gk_firstStep_17 (nI k) (nI i) rk qk (n + 1) d (nI u) = Bk_firstStep_17 (nI k) (nI i) rk qk (Gk_firstStep_17 (nI k) (nI i) rk qk n) d (nI u) := rfl
    rw [e0]
    unfold Bk_firstStep_17 Gk_firstStep_59
    simp only [zletQ, zifQ, zifnQ, h9, nI_1, xzn (show k < 2 ^ 31 by omega), h2 k hk, xh0]
    by_cases e : u = t
    · subst e
      rw [if_pos (nI_leP (by omega) (by omega) (by omega)), Nat.sub_self]; rfl
    · rw [if_neg (nI_leN (by omega) (by omega) (by omega)), show t - u = t - (u + 1) + 1 by omega, yL_s]
      have hb := nBit0 (m := sT Lf t p E S 0 j k) (i := u) (p64 ht (sT_lt k)) (by omega)
      unfold sGd
      by_cases c : (sT Lf t p E S 0 j k).testBit u = true
      · rw [if_neg (fun h => hb.mp h c), if_pos c]
        by_cases g : sFar rk qk i u = d - 1
        · rw [if_pos g, if_pos (show Gk_distance (nI u) (nI i) rk qk = d - 1 from g), if_neg (show ¬ (1 : Int32) = 0 by decide)]
        · rw [if_neg g, if_neg (show ¬ Gk_distance (nI u) (nI i) rk qk = d - 1 from g), if_pos (show (0 : Int32) = 0 from rfl)]
          exact ih (u + 1) (by omega) (by omega)
      · rw [if_pos (hb.mpr c), if_neg c, if_pos (show (0 : Int32) = 0 from rfl)]
        exact ih (u + 1) (by omega) (by omega)
end XGD
theorem sGo_T {Lf : xLT} {t p : Nat} {E S : Nat → Nat → Int32} {j k u : Nat} (hk : k ≤ 1000) (hu : u < t) (ek : S 1 j = nI k) : sGo Lf p E S 0 j u = 0 ↔ ¬ (sT Lf t p E S 0 j k).testBit u = true := by
  have h1 : sGo Lf p E S 0 j u = 0 ↔ sSp Lf p E S 0 j k u = 0 := by
    unfold sGo sSp
    rw [ek, xzn (show k < 2 ^ 31 by omega)]
    by_cases d : (E 1 k >>> (nI u &&& 31)) &&& 1 = 0
    · rw [if_pos d, if_pos d]
    · rw [if_neg d, if_neg d]
      by_cases d2 : sLe Lf p E S 0 (nI k) j u = 0
      · rw [if_pos d2]; exact ⟨fun _ => d2, fun _ => rfl⟩
      · rw [if_neg d2]; exact ⟨fun h => absurd h (by decide), fun h => absurd h d2⟩
  have h2 := yN_bit (f := sSp Lf p E S 0 j k) (i := u) t
  rw [h1]
  constructor
  · intro h c
    exact (h2.mp c).2 h
  · intro h
    by_cases c : sSp Lf p E S 0 j k u = 0
    · exact c
    · exact absurd (h2.mpr ⟨hu, c⟩) h
section XGD2
variable {Lf : xLT} {t p : Nat} {E S : Nat → Nat → Int32} {r0 rk : zRr} {q qk : zRq}
theorem mGd59 (hE : xMe Lf t p E 0 r0) (hS : xMs t p S (r0 32)) (hR : xRd t E) {j i k : Nat} {d : Int32} (hj : j < p) (hi : i < t) (hk : k < t) (ek : S 1 j = nI k) (h9 : rk 171 9 = nI t) (h2 : ∀ i, i < t → rk 202 i = nI (sT Lf t p E S 0 j i)) : ∀ (n u : Nat) (r : zRr), u ≤ t → u < n → zFr [15, 16, 17, 18, 19, 20, 21, 22, 23, 24] r0 r → (Gm_guide_59 (nI j) (nI i) q n d (yL (sGd Lf t p E S rk qk j i k d) (t - u) u) (nI u + (-1)) r).1 = yL (sGd Lf t p E S rk qk j i k d) t 0 := by
  have ht := hE.2.1.1
  intro n
  induction n with
  | zero => intro u r h1 h2; omega
  | succ n ih =>
    intro u r h1 h3 g1
    have e0 : Gm_guide_59 (nI j) (nI i) q (n + 1) d (yL (sGd Lf t p E S rk qk j i k d) (t - u) u) (nI u + (-1)) r = Bm_guide_59 (nI j) (nI i) q (Gm_guide_59 (nI j) (nI i) q n) d (yL (sGd Lf t p E S rk qk j i k d) (t - u) u) (nI u + (-1)) r := rfl
    rw [e0]
    unfold Bm_guide_59 Gm_guide_92
    simp only [zletQ, zifQ, zifnQ]
    cases u with
    | zero =>
      rw [if_pos (show nI 0 + (-1) < 0 by decide), Nat.sub_zero]
    | succ u =>
      rw [xdec, if_neg (xnn (j := u) (by omega)).2.1]
      have hE2 := hE.fr g1 (by decide)
      have hS2 := hS.fr (g1 32 rfl)
      obtain ⟨r3, f3, e3⟩ := mGo (q := q) hE2 hS2 hj (i := u) (by omega)
      have g3 := g1.tr f3 (by decide)
      have hG := sGo_T (Lf := Lf) (p := p) (E := E) (S := S) (j := j) (k := k) (by omega) (show u < t by omega) ek
      have hs := yL_s (P := sGd Lf t p E S rk qk j i k d) (c := t - (u + 1)) (k := u)
      rw [show t - (u + 1) + 1 = t - u by omega] at hs
      rw [e3, xcvr (r := r3)]
      by_cases c : (sT Lf t p E S 0 j k).testBit u = true
      · rw [if_neg (fun h => hG.mp h c)]
        obtain ⟨r5, f5, e5⟩ := mFar (q := q) (qk := qk) (rk := rk) (hE2.fr f3 (by decide)) (hS2.fr (f3 32 rfl)) hR hj hi (u := u) (by omega) h9 h2
        have g5 := g3.tr f5 (by decide)
        rw [e5, xcvr (r := r5)]
        by_cases g : sFar rk qk i u = d - 1
        · have ep : sGd Lf t p E S rk qk j i k d u = 1 := by unfold sGd; rw [if_pos c, if_pos g]
          rw [ep, if_neg (show ¬ (1 : Int32) = 0 by decide)] at hs
          have k9 := ih u r5 (by omega) (by omega) g5
          rw [hs] at k9
          rw [if_pos g]
          exact k9
        · have ep : sGd Lf t p E S rk qk j i k d u = 0 := by unfold sGd; rw [if_pos c, if_neg g]
          rw [ep, if_pos (show (0 : Int32) = 0 from rfl)] at hs
          rw [if_neg g, ← hs]
          exact ih u r5 (by omega) (by omega) g5
      · have ep : sGd Lf t p E S rk qk j i k d u = 0 := by unfold sGd; rw [if_neg c]
        rw [ep, if_pos (show (0 : Int32) = 0 from rfl)] at hs
        rw [if_pos (hG.mpr c), ← hs]
        exact ih u r3 (by omega) (by omega) g3
end XGD2
theorem xGuideW {t p : Nat} {r rm : zRr} {q qm : zRq} {a b : Int32} (h : xHow t p r q rm qm) : (Gk_guide a b r q).1 = (Gm_guide a b rm qm).1 := by
  have ht := h.le.1
  have hp := h.le.2
  have h1 := h.z100
  have hR := h.R
  unfold Gk_guide Gm_guide
  simp only [zletQ, zifQ, zifnQ]
  rw [h.isP a, h.isT b]
  by_cases c1 : Gm_isPerson a (zset rm 100 (fun _ => 0)) qm = 0
  · rw [if_pos c1, if_pos c1]
  rw [if_neg c1, if_neg c1]
  by_cases c2 : Gm_isTown b (zset rm 100 (fun _ => 0)) qm = 0
  · rw [if_pos c2, if_pos c2]
  rw [if_neg c2, if_neg c2]
  obtain ⟨j, hj, ea⟩ := h.pI c1
  obtain ⟨i, hi, eb⟩ := h.tI c2
  subst ea
  subst eb
  obtain ⟨hE, hE'⟩ := h1.E
  obtain ⟨S, s1, s2, _⟩ := h1.2.1
  obtain ⟨k, hk, ek⟩ := (s1.2 j hj).1
  have n1 : (1 : Int32) + nI j = nI (1 + j) := nI_add 1 j
  have k7 : zset rm 100 (fun _ => 0) 32 (1 + j) = nI k := (s2.2 j hj).2.1.trans ek
  obtain ⟨f, c⟩ := kLayN (q := q) hE s1 hR (mo := 0) hj
  rw [n1, xzn (show j < 2 ^ 31 by omega), xzn (show 1 + j < 2 ^ 31 by omega), k7]
  generalize Gk_layN (nI j) 0 r q = r1 at f c ⊢
  have e1 : r1 7 j = nI k := by rw [f 7 rfl, ← ek]; exact (s1.2 j hj).2.1
  have h9 : r1 171 9 = nI t := by rw [f 171 rfl]; exact hE.1.1
  rw [e1]
  obtain ⟨m3, w3, e3⟩ := mFar (q := qm) (qk := q) (rk := r1) hE' s2 hR hj hi hk h9 c
  rw [e3, xcvr (r := m3)]
  unfold Gk_firstStep
  simp only [zletQ, zifQ]
  show (if (1 : Int32) ≤ sFar r1 q i k then Gk_firstStep_17 (nI k) (nI i) r1 q 7 (sFar r1 q i k) 0 else -1) = _
  have c01 : (1 : Int32).toInt = 1 := by decide
  have c00 : (0 : Int32).toInt = 0 := by decide
  by_cases d : (0 : Int32) < sFar r1 q i k
  · have d' : (1 : Int32) ≤ sFar r1 q i k := by
      rw [Int32.lt_iff_toInt_lt, c00] at d
      rw [Int32.le_iff_toInt_le, c01]; omega
    have hE3 := hE'.fr w3 (by decide)
    have t3 : m3 1 0 = nI t := hE3.1.1
    rw [if_pos d', if_pos d, t3, Int32.sub_eq_add_neg]
    have k1 := kGd17 (qk := q) (i := i) (d := sFar r1 q i k) ht hk h9 c 7 0 (by omega) (by omega)
    have k2 := mGd59 (q := qm) (qk := q) (rk := r1) (d := sFar r1 q i k) hE3 (s2.fr (w3 32 rfl)) hR hj hi hk ek h9 c 7 t m3 (by omega) (by omega) zFr.refl
    rw [Nat.sub_self] at k2
    rw [nI_0, Nat.sub_zero] at k1
    exact k1.trans k2.symm
  · have d' : ¬ (1 : Int32) ≤ sFar r1 q i k := fun h9 => by
      rw [Int32.lt_iff_toInt_lt, c00] at d
      rw [Int32.le_iff_toInt_le, c01] at h9; omega
    rw [if_neg d', if_neg d]
end
section
/-! ===== judged: the loop ===== -/
noncomputable def xWo (w : Int32) : Prop := w = -1 ∨ ∃ i, i ≤ 1000 ∧ w = nI i
theorem xWo.nn {w : Int32} (h : xWo w) : (0 : Int32) ≤ w ↔ ¬ w = -1 := by
  rcases h with rfl | ⟨i, hi, rfl⟩
  · exact ⟨fun h => absurd h (by decide), fun h => absurd rfl h⟩
  · exact ⟨fun _ => nIm1 hi, fun _ => nI_leP (a := 0) (by omega) (by omega) (by omega)⟩
noncomputable def xLs (t p n : Nat) (r rm : zRr) : Prop := r 138 3 = nI n ∧ rm 25 0 = nI n ∧ ∀ k, k < n → r 139 k = rm 26 k ∧ (¬ r 139 k = 3 → r 140 k = rm 27 k) ∧ (r 139 k = 0 ∨ r 139 k = 1 → r 141 k = rm 28 k) ∧ xBd t p (r 139 k) (r 140 k) (r 141 k)
theorem xLs.fr {t p n : Nat} {r r1 rm rm1 : zRr} (h : xLs t p n r rm) (f : zFr [12, 13, 14, 15, 16, 17, 182] r r1) (g : zFr [15, 16, 17, 18, 19, 20, 21, 22, 23, 24, 32] rm rm1) : xLs t p n r1 rm1 := by
  unfold xLs at h ⊢
  rw [f 138 rfl, f 139 rfl, f 140 rfl, f 141 rfl, g 25 rfl, g 26 rfl, g 27 rfl, g 28 rfl]
  exact h
section XJL2
variable {Lf : xLT} {t p : Nat} {E : Nat → Nat → Int32} {q qm : zRq}
end XJL2
end
section
/-! ===== what holds between two calls: the tapes alike, the same LAND told, all as it is on either side ===== -/
noncomputable def lR (r : zRr) (q : zRq) (rm : zRr) (qm : zRq) : Prop := lT r rm ∧ (∃ t p, xHow t p r q rm qm) ∧ lM r rm ∧ lS r rm
section LR
variable {r r1 : zRr} {q : zRq} {rm rm1 : zRr} {qm qm1 : zRq}
theorem lR.w {M : List Nat} (h : lR r q rm qm) (fk : zFt r r1) (fm : zFr M rm rm1) (m32 : zRs rm rm1) (m152 : rm1 152 0 = 0) (hM : ([0, 1, 4, 5, 6, 7, 8, 9, 10, 11, 12, 25, 26, 27, 28, 29, 35, 36, 37, 101, 151].all fun k => !M.contains k) = true) : lR r1 q rm1 qm := by
  have g : ∀ a, [0, 1, 4, 5, 6, 7, 8, 9, 10, 11, 12, 25, 26, 27, 28, 29, 35, 36, 37, 101, 151].contains a = true → M.contains a = false := fun a ha => by
    have := List.all_eq_true.mp hM a (List.contains_iff_mem.mp ha)
    revert this
    cases M.contains a with
    | false => intro _; rfl
    | true => intro h; cases h
  obtain ⟨h1, ⟨t, p, h2⟩, h3, h4⟩ := h
  refine ⟨(h1.k ⟨fk 196 rfl, fk 197 rfl⟩).m (fm 0 (g 0 rfl)) (fm 101 (g 101 rfl)), ⟨t, p, h2.fr (fun a ha => fk a (zK3_in (by omega))) m32 m152 fm ?_⟩, h3.fr (fun k hk => fk _ (zK3_in (by omega))) (fm 37 (g 37 rfl)), h4.fr (fun k hk => fk _ (zK3_in (by omega))) (fm 29 (g 29 rfl))⟩
  rw [List.all_eq_true]
  intro a ha
  have ha : [1, 4, 5, 6, 7, 8, 9, 10, 11, 12, 25, 26, 27, 28, 35, 36, 37, 151].contains a = true := List.contains_iff_mem.mpr ha
  have : [0, 1, 4, 5, 6, 7, 8, 9, 10, 11, 12, 25, 26, 27, 28, 29, 35, 36, 37, 101, 151].contains a = true := by
    have h9 := List.contains_iff_mem.mp ha
    simp only [List.mem_cons, List.not_mem_nil, or_false] at h9
    rw [List.contains_iff_mem]
    simp only [List.mem_cons, List.not_mem_nil, or_false]
    omega
  rw [g a this]; rfl
theorem lR.z (h : lR r q rm qm) : rm 152 0 = 0 := by
  obtain ⟨_, ⟨_, _, h2⟩, _⟩ := h
  exact h2.2.2.2.2.2
theorem lR.s {M : List Nat} (h : lR r q rm qm) (fk : zFt r r1) (fm : zFr M rm rm1) (m32 : zRs rm rm1) (k152 : M.contains 152 = false) (hM : ([0, 1, 4, 5, 6, 7, 8, 9, 10, 11, 12, 25, 26, 27, 28, 29, 35, 36, 37, 101, 151].all fun k => !M.contains k) = true) : lR r1 q rm1 qm := h.w fk fm m32 (by rw [fm 152 k152]; exact h.z) hM
theorem lR.n (h : lR r q rm qm) (n : mNm qm qm1) : lR r q rm qm1 := by
  obtain ⟨h1, ⟨t, p, h2, h3⟩, h4⟩ := h
  exact ⟨h1, ⟨t, p, h2.fr ⟨fun _ _ _ => rfl, rfl, rfl⟩ (xLow.of rfl (fun _ _ _ => rfl) n.1 n.2), h3⟩, h4⟩
theorem mJ.fo (hM : mJ 20 rm) : ∀ j, j < 6 → zI 0 20 (rm 32 (13 + j)) := by
  intro j hj
  rcases (show j = 0 ∨ j = 1 ∨ j = 2 ∨ j = 3 ∨ j = 4 ∨ j = 5 by omega) with rfl | rfl | rfl | rfl | rfl | rfl
  · exact hM.i 32 13
  · exact hM.i 32 14
  · exact hM.i 32 15
  · exact hM.i 32 16
  · exact hM.i 32 17
  · exact hM.i 32 18
/-- what is asked: the standing is back as it was -/
theorem lR.sJ {a : Int32} {um : Int32 × zRr} (em : um = Gm_judged a rm qm) (h : lR r q rm qm) : zRs rm um.2 := by
  obtain ⟨_, ⟨t, p, h2⟩, _⟩ := h
  obtain ⟨n, hn, _, h25, _⟩ := h2.2.2.2.2.1
  rw [em]; exact rs_judged h25 hn h2.1.2.1.2.1 h2.le.2
theorem lR.sN {a b : Int32} {um : Int32 × zRr} (em : um = Gm_need a b rm qm) (hM : mJ 20 rm) (h : lR r q rm qm) : zRs rm um.2 := by
  obtain ⟨_, ⟨t, p, h2⟩, _⟩ := h
  rw [em]; exact rs_need h2.1.2.1.2.1 h2.le.2 hM.fo
theorem lR.sD {a b : Int32} {um : Int32 × zRr} (em : um = Gm_debt a b rm qm) (hM : mJ 20 rm) (h : lR r q rm qm) : zRs rm um.2 := by
  obtain ⟨_, ⟨t, p, h2⟩, _⟩ := h
  rw [em]; exact rs_debt h2.1.2.1.2.1 h2.le.2 hM.fo
theorem lR.sC {a : Int32} {um : Int32 × zRr} (em : um = Gm_cheapest a rm qm) (hM : mJ 20 rm) (h : lR r q rm qm) : zRs rm um.2 := by
  obtain ⟨_, ⟨t, p, h2⟩, _⟩ := h
  rw [em]; exact rs_cheapest h2.1.2.1.2.1 h2.le.2 hM.fo
theorem lR.sT {a b : Int32} {um : Int32 × zRr} (em : um = Gm_stricter a b rm qm) (h : lR r q rm qm) : um.2 152 0 = 0 := by
  have h0 := h.z
  obtain ⟨_, ⟨t, p, h2⟩, _⟩ := h
  rw [em]; exact rs_stricter h0 h2.1.2.1.2.1 h2.le.2
/-- a move -/
theorem lR.mv {M : List Nat} {u um : Int32 × zRr} (h : lR r q rm qm) (k : ∀ t p, xHow t p r q rm qm → u.1 = um.1 ∧ xHow t p u.2 q um.2 qm ∧ xK1 r u.2) (fm : zFr M rm um.2) (hM : ([0, 29, 37, 101].all fun k => !M.contains k) = true) : u.1 = um.1 ∧ lR u.2 q um.2 qm := by
  have g : ∀ a, [0, 29, 37, 101].contains a = true → M.contains a = false := fun a ha => by
    have := List.all_eq_true.mp hM a (List.contains_iff_mem.mp ha)
    revert this
    cases M.contains a with
    | false => intro _; rfl
    | true => intro h; cases h
  obtain ⟨h1, ⟨t, p, h2⟩, h3, h4⟩ := h
  obtain ⟨k1, k2, k3⟩ := k t p h2
  exact ⟨k1, (h1.k ⟨k3 196 (by omega) (by omega) (by omega), k3 197 (by omega) (by omega) (by omega)⟩).m (fm 0 (g 0 rfl)) (fm 101 (g 101 rfl)), ⟨t, p, k2⟩, h3.fr (fun k hk => k3 _ (by omega) (by omega) (by omega)) (fm 37 (g 37 rfl)), h4.fr (fun k hk => k3 _ (by omega) (by omega) (by omega)) (fm 29 (g 29 rfl))⟩
theorem lR.go {a b : Int32} {M : List Nat} {u um : Int32 × zRr} (e : u = Gk_go a b r q) (em : um = Gm_go a b rm qm) (h : lR r q rm qm) (fm : zFr M rm um.2) (hM : ([0, 29, 37, 101].all fun k => !M.contains k) = true) : u.1 = um.1 ∧ lR u.2 q um.2 qm :=
  h.mv (fun t p k => by rw [e, em]; exact xGoW k) fm hM
theorem lR.forge {a b : Int32} {M : List Nat} {u um : Int32 × zRr} (e : u = Gk_forge a b r q) (em : um = Gm_forge a b rm qm) (hJ : mJ 20 rm) (h : lR r q rm qm) (fm : zFr M rm um.2) (hM : ([0, 29, 37, 101].all fun k => !M.contains k) = true) : u.1 = um.1 ∧ lR u.2 q um.2 qm :=
  h.mv (fun t p k => by rw [e, em]; exact xFgW k hJ.fo) fm hM
theorem lR.shave {a : Int32} {M : List Nat} {u um : Int32 × zRr} (e : u = Gk_shave a r q) (em : um = Gm_shave a rm qm) (h : lR r q rm qm) (fm : zFr M rm um.2) (hM : ([0, 29, 37, 101].all fun k => !M.contains k) = true) : u.1 = um.1 ∧ lR u.2 q um.2 qm :=
  h.mv (fun t p k => by rw [e, em]; exact xShW k) fm hM
theorem lR.week {M : List Nat} {u um : Int32 × zRr} (e : u = Gk_week r q) (em : um = Gm_week rm qm) (h : lR r q rm qm) (fm : zFr M rm um.2) (hM : ([0, 29, 37, 101].all fun k => !M.contains k) = true) : u.1 = um.1 ∧ lR u.2 q um.2 qm :=
  h.mv (fun t p k => by rw [e, em]; exact xWkW k) fm hM
theorem lR.undo {M : List Nat} {u um : Int32 × zRr} (e : u = Gk_undo r q) (em : um = Gm_undo rm qm) (h : lR r q rm qm) (fm : zFr M rm um.2) (hM : ([0, 29, 37, 101].all fun k => !M.contains k) = true) : u.1 = um.1 ∧ lR u.2 q um.2 qm :=
  h.mv (fun t p k => by rw [e, em]; exact xUnW k) fm hM
theorem lR.land {B : Int} {u um : Int32 × zRr × zRq} (e : u = Gk_land r q) (em : um = Gm_land rm qm) (hM : mJ B rm) (h : lR r q rm qm) (z : u.2.1 196 1 = 0) (zm : um.2.1 101 0 = 0) : u.1 = um.1 ∧ lR u.2.1 u.2.2 um.2.1 um.2.2 := by
  obtain ⟨h1, ⟨t, p, h2⟩, h3, h4⟩ := h
  have hp := h1.p hM
  have k := xLandM (q := q) (qm := qm) hp h3 h4
  refine ⟨by rw [e, em]; exact xLandA hp, lT.z z zm, ?_, ?_⟩
  · rw [e, em]; exact xLandW hp h2
  · rw [e, em]; exact k
theorem xJourF {L t p : Nat} (h : xTp L r rm) (hD : xTd t p r q rm qm) {a : Nat} (h1 : 146 ≤ a) (h2 : a ≠ 196) : (Gk_journey r q).2.1 a = r a := by
  obtain ⟨⟨hk, k⟩, _⟩ := xjourney h hD
  unfold Gk_journey
  generalize Gk_readJ r q = o at hk k ⊢
  obtain ⟨v, r3, q4⟩ := o
  have hk : xJk (xRj r) q r3 q4 := hk
  have e3 : r3 a = r a := by
    rw [hk.1 a ?_]
    · show xs (xs (xs r 142 3 0) 196 3 0) 196 7 0 a = r a
      unfold xs
      rw [zset_ne h2, zset_ne h2, zset_ne (by omega)]
    · cases e : [142, 143, 144, 145, 196].contains a with
      | false => rfl
      | true =>
        have := List.contains_iff_mem.mp e
        simp only [List.mem_cons, List.not_mem_nil, or_false] at this
        omega
  rw [xcvrq (r := r3)]
  simp only [zletQ, zifnQ]
  by_cases hv : v = 0
  · rw [if_pos hv]
    show zset r3 196 (upd (r3 196) 1 0) a = r a
    rw [zset_ne h2]; exact e3
  · rw [if_neg hv]
    show kcp1 (zset r3 196 (upd (r3 196) 1 0)) 138 142 a = r a
    rw [kcp1_o (by omega), zset_ne h2]; exact e3
theorem lR.jour {B : Int} {M : List Nat} {u um : Int32 × zRr × zRq} (e : u = Gk_journey r q) (em : um = Gm_journey rm qm) (hM : mJ B rm) (h : lR r q rm qm) (z : u.2.1 196 1 = 0) (zm : um.2.1 101 0 = 0) (f : zFr M rm um.2.1) (h3 : M.contains 29 = false) (h4 : M.contains 37 = false) : u.1 = um.1 ∧ lR u.2.1 u.2.2 um.2.1 um.2.2 := by
  obtain ⟨g1, ⟨t, p, g2⟩, g3, g4⟩ := h
  have k := xJourW (g1.p hM) g2
  have kf : ∀ a, 146 ≤ a → a ≠ 196 → u.2.1 a = r a := fun a a1 a2 => by rw [e]; exact xJourF (g1.p hM) g2.1 a1 a2
  refine ⟨by rw [e, em]; exact k.1, lT.z z zm, ⟨t, p, by rw [e, em]; exact k.2⟩, g3.fr (fun k hk => kf _ (by omega) (by omega)) (f 37 h4), g4.fr (fun k hk => kf _ (by omega) (by omega)) (f 29 h3)⟩
theorem xMarkF {a b : Int32} {c : Nat} (h1 : 171 ≤ c) (h2 : c ≠ 195) : (Gk_mark a b r q).2 c = r c := by
  by_cases h0 : a < 0
  · unfold Gk_mark; rw [zifQ, if_pos h0]
  by_cases h4 : a < 4
  · obtain ⟨k, hk, ea⟩ : ∃ k, k < 4 ∧ a = nI k := by
      have hz : zI 0 3 a := by
        rw [Int32.lt_iff_toInt_lt] at h0 h4
        have c0 : (0 : Int32).toInt = 0 := by decide
        have c4 : (4 : Int32).toInt = 4 := by decide
        exact ⟨by omega, by omega⟩
      obtain ⟨e1, e2⟩ := hz.ix (n := 4) (by decide)
      exact ⟨_, e2, e1⟩
    subst ea
    rw [xmarkK hk]
    by_cases hb : b = 0
    · rw [if_pos hb]
      show xLay k r c = r c
      unfold xLay
      rw [zset_ne (by omega), zset_ne (by omega), kcp1_o (by omega), kcp8_o (by omega)]
    · rw [if_neg hb]
      by_cases hz : r (167 + k) 3 = 0
      · rw [if_pos hz]
      · rw [if_neg hz]
        show xBack k r q c = r c
        unfold xBack Gk_forgetPast
        simp only [zletQ]
        rw [zset_ne h2, zset_ne h2, zset_ne (by omega), kcp1_o (by omega), kcp8_o (by omega)]
  · unfold Gk_mark
    simp only [zifQ, if_neg h0, if_neg h4]
theorem lR.mark {a b : Int32} {u um : Int32 × zRr} (e : u = Gk_mark a b r q) (em : um = Gm_mark a b rm qm) (h : lR r q rm qm) (f : zFr [100, 37, 25, 26, 27, 28, 29, 30, 31, 32, 151, 35] rm um.2) : u.1 = um.1 ∧ lR u.2 q um.2 qm := by
  obtain ⟨g1, ⟨t, p, g2⟩, g3, g4⟩ := h
  obtain ⟨k1, k2, k3⟩ := xMark (a := a) (b := b) (q := q) (qm := qm) g3 g4
  have kf : ∀ c, 171 ≤ c → c ≠ 195 → u.2 c = r c := fun c c1 c2 => by rw [e]; exact xMarkF c1 c2
  have kw := xMarkW (a := a) (b := b) (q := q) (qm := qm) g3 g4 g2
  rw [← e, ← em] at k1 k2 k3 kw
  exact ⟨k1, (g1.k ⟨kf 196 (by omega) (by omega), kf 197 (by omega) (by omega)⟩).m (f 0 rfl) (f 101 rfl), ⟨t, p, kw ⟨k1, kf⟩ f⟩, k2, k3⟩
theorem lR.see {a b : Int32} {B : Int} {u um : Int32 × zRr} (e : u = Gk_see a b r q) (em : um = Gm_see a b rm qm) (hM : mJ B rm) (h : lR r q rm qm) : u.1 = um.1 ∧ lR u.2 q um.2 qm := by
  obtain ⟨g1, ⟨t, p, g2⟩, g3, g4⟩ := h
  obtain ⟨k1, k2, k3, k4⟩ := xSee (a := a) (b := b) g2.1 g4 (show zI 0 8 (rm 29 0) from hM.i 29 0)
  rw [← e] at k1 k2 k4
  rw [← em] at k1 k3 k4
  have kf : ∀ a, a ≠ 162 → a ≠ 182 → u.2 a = r a := fun a a1 a2 => k2 a (by
    cases e : [162, 182].contains a with
    | false => rfl
    | true =>
      have := List.contains_iff_mem.mp e
      simp only [List.mem_cons, List.not_mem_nil, or_false] at this
      omega)
  refine ⟨k1, (g1.k ⟨kf 196 (by omega) (by omega), kf 197 (by omega) (by omega)⟩).m (k3 0 (by decide)) (k3 101 (by decide)), ⟨t, p, ?_⟩, g3.fr (fun k hk => kf _ (by omega) (by omega)) (k3 37 (by decide)), k4⟩
  exact (xHow.see g2 kf k3)
end LR
theorem lR.q {r r1 : zRr} {q : zRq} {rm rm1 : zRr} {qm : zRq} {M : List Nat} (h : lR r q rm qm) (fk : zFt r r1) (fm : zFr M rm rm1) (k32 : M.contains 32 = false) (k152 : M.contains 152 = false) (hM : ([0, 1, 4, 5, 6, 7, 8, 9, 10, 11, 12, 25, 26, 27, 28, 29, 35, 36, 37, 101, 151].all fun k => !M.contains k) = true) : lR r1 q rm1 qm := h.w fk fm (fun i _ => by rw [fm 32 k32]) (by rw [fm 152 k152]; exact h.z) hM
end
section
/-! ===== the comparisons ===== -/
section LC
variable {r : zRr} {q : zRq} {rm : zRr} {qm : zRq} {a b : Int32}
theorem lR.cGuide {u um : Int32 × zRr} (e : u = Gk_guide a b r q) (em : um = Gm_guide a b rm qm) (_ : mJ 20 rm) (_ : kJ r) (h : lR r q rm qm) : u.1 = um.1 := by
  obtain ⟨_, ⟨t, p, h2⟩, _⟩ := h
  rw [e, em]; exact xGuideW h2
end LC
end
