section
/-! ===== how it is, all of it, on both sides ===== -/
noncomputable def sL (r : zRr) : xLT := fun a1 a2 a3 a4 => (Gk_passes a1 a2 a3 a4 r (fun _ _ => 0)).1
noncomputable def sE (r : zRr) : Nat → Nat → Int32 := fun k => if k = 0 then r 172 else if k = 1 then r 173 else if k = 2 then r 175 else if k = 3 then (fun i => if i = 0 then r 171 11 else r 171 12) else if k = 4 then r 176 else if k = 5 then r 177 else r 178
noncomputable def xHow (t p : Nat) (r : zRr) (q : zRq) (rm : zRr) (qm : zRq) : Prop := xTd t p r q rm qm ∧ xSt t p 6 r (rm 32) ∧ xPs t p r rm ∧ xMr t p r rm ∧ xPl t p 138 0 r rm ∧ rm 152 0 = 0
section XHW
variable {t p : Nat} {r r1 rm rm1 : zRr} {q q1 qm qm1 : zRq}
theorem xLw.eq (h : xLw r rm) (e1 : r1 180 = r 180) (e2 : r1 181 = r 181) (m1 : rm1 10 = rm 10) (m2 : rm1 11 = rm 11) (m3 : rm1 12 = rm 12) : xLw r1 rm1 := by
  unfold xLw at h ⊢
  rw [e1, e2, m1, m2, m3]; exact h
theorem xCe.of (hD : xTd t p r q rm qm) : xCe (sL r) t p (sE r) r ∧ xMe (sL r) t p (sE r) (rm 152 0) rm ∧ xCh t p (sE r) r ∧ xMh t p (sE r) rm := by
  obtain ⟨⟨a1, a2, a3⟩, ⟨b1, b2, b3⟩, ⟨c1, c2⟩, d, e, f⟩ := hD
  refine ⟨⟨⟨a1, b1, rfl, rfl⟩, ⟨a3, b3⟩, fun i hi => ⟨rfl, rfl⟩, fun j hj => rfl, fun r1 k1 k2 x1 x2 x3 x4 q1 => ?_⟩, ⟨⟨a2, b2, c1.symm, c2.symm⟩, ⟨a3, b3⟩, fun i hi => ⟨(d i hi).1.symm, (d i hi).2.1.1.symm⟩, fun j hj => (e j hj).1.symm, rfl, fun r1 k1 k2 k3 x1 x2 x3 q1 => ?_⟩, fun j hj => ⟨(e j hj).2.1.2, rfl, rfl, rfl⟩, fun j hj => ⟨(e j hj).2.1.2, (e j hj).2.1.1.symm, (e j hj).2.2.1.symm, (e j hj).2.2.2.1.symm⟩⟩
  · have e4 : zset rm 32 (fun _ => x4) 32 0 = x4 := by rw [zset_eq]
    have hL1 : xLw r1 (zset rm 32 (fun _ => x4)) := f.eq k1 k2 rfl rfl rfl
    have hL0 : xLw r (zset rm 32 (fun _ => x4)) := f.eq rfl rfl rfl rfl rfl
    obtain ⟨v1, f1, _⟩ := xLawV (a1 := x1) (a2 := x2) (a3 := x3) (q := q1) (qm := fun _ _ => 0) hL1
    obtain ⟨v0, _, _⟩ := xLawV (a1 := x1) (a2 := x2) (a3 := x3) (q := fun _ _ => 0) (qm := fun _ _ => 0) hL0
    rw [e4] at v1 f1 v0
    exact ⟨v1.trans v0.symm, f1⟩
  · have hL : xLw r r1 := f.eq rfl rfl k1 k2 k3
    obtain ⟨v, _, g⟩ := xLawV (a1 := x1) (a2 := x2) (a3 := x3) (q := fun _ _ => 0) (qm := q1) hL
    exact ⟨v.symm, g⟩
theorem xHow.le (h : xHow t p r q rm qm) : t ≤ 6 ∧ p ≤ 6 := ⟨h.1.1.2.2, h.1.2.1.2.2⟩
theorem xHow.fr {M : List Nat} (h : xHow t p r q rm qm) (k : ∀ a, (6 ≤ a ∧ a < 12) ∨ (18 ≤ a ∧ a < 142) ∨ (146 ≤ a ∧ a < 182) ∨ a = 195 → r1 a = r a) (m32 : zRs rm rm1) (m152 : rm1 152 0 = 0) (m : zFr M rm rm1) (hM : ([1, 4, 5, 6, 7, 8, 9, 10, 11, 12, 25, 26, 27, 28, 35, 36, 37, 151].all fun k => !M.contains k) = true) : xHow t p r1 q rm1 qm := by
  have hp := h.le.2
  have g : ∀ a, [1, 4, 5, 6, 7, 8, 9, 10, 11, 12, 25, 26, 27, 28, 35, 36, 37, 151].contains a = true → rm1 a = rm a := fun a ha => m a (by
    have := List.all_eq_true.mp hM a (List.contains_iff_mem.mp ha)
    revert this
    cases M.contains a with
    | false => intro _; rfl
    | true => intro h; cases h)
  obtain ⟨hD, h6, hP, hR, hL, h0⟩ := h
  have g26 : ∀ c, 26 ≤ c → c ≤ 28 → rm1 c = rm c := fun c c1 c2 => by
    rcases (show c = 26 ∨ c = 27 ∨ c = 28 by omega) with rfl | rfl | rfl <;> exact g _ rfl
  have g4 : ∀ c, 4 ≤ c → c ≤ 12 → rm1 c = rm c := fun c c1 c2 => by
    rcases (show c = 4 ∨ c = 5 ∨ c = 6 ∨ c = 7 ∨ c = 8 ∨ c = 9 ∨ c = 10 ∨ c = 11 ∨ c = 12 by omega) with rfl | rfl | rfl | rfl | rfl | rfl | rfl | rfl | rfl <;> exact g _ rfl
  refine ⟨hD.fr ⟨fun a h1 h2 => k a (by omega), rfl, rfl⟩ (xLow.of (g 1 rfl) g4 rfl rfl), h6.eq hp (fun i hi => k _ (by omega)) m32, hP.fr hp (fun a h1 h2 => k a (by omega)) (k 195 (by omega)) (g 36 rfl) (by rw [g 151 rfl]), hR.fr hp (fun a h1 h2 h3 => k a (by omega)) (g 35 rfl) (g 37 rfl) (fun o _ _ => by rw [g 25 rfl]) (fun c i c1 c2 _ _ => by rw [g26 c c1 c2]), hL.fr (fun i hi => k _ (by omega)) (by rw [g 25 rfl]) (fun c i c1 c2 _ => by rw [g26 c c1 c2]), m152⟩
theorem xHow.f182 (h : xHow t p r q rm qm) (k : zFr [182] r r1) (m : zFr [15, 16, 17, 18, 19, 20, 21, 22, 23, 24, 100] rm rm1) : xHow t p r1 q rm1 qm := by
  refine h.fr (fun a ha => k a ?_) (fun i _ => by rw [m 32 rfl]) (by rw [m 152 rfl]; exact h.2.2.2.2.2) m (by decide)
  cases e : [182].contains a with
  | false => rfl
  | true =>
    have := List.contains_iff_mem.mp e
    simp only [List.mem_cons, List.not_mem_nil, or_false] at this
    omega
theorem xHow.z100 (h : xHow t p r q rm qm) : xHow t p r q (zset rm 100 (fun _ => 0)) qm := h.f182 zFr.refl (zFr.refl.set rfl)
/-- before a change: what is now is kept -/
theorem xHow.rem (h : xHow t p r q rm qm) : ∃ S, (xCs t p 6 S r ∧ xMs t p S (rm 32)) ∧ xCs t p 6 S (Gk_remember r q) ∧ xMs t p S (Gm_keeps rm qm 32) ∧ xZr p (Gm_keeps rm qm 32) := by
  have hp := h.le.2
  obtain ⟨hD, h6, hP, _⟩ := h
  obtain ⟨q1, q2, q3⟩ := xRem (q := q) (qm := qm) h6 hP hp
  obtain ⟨S, s1, s2, s3⟩ := h6
  exact ⟨S, ⟨s1, s2⟩, s1.eq (fun i hi => q2 _ (by omega) (by omega)), s2.fr (q3 32 rfl), by rw [q3 32 rfl]; exact s3⟩
theorem xHow.mv (h : xHow t p r q rm qm) (k : ∀ a, 12 ≤ a → r1 a = Gk_remember r q a) (m : zFr [32] (Gm_keeps rm qm) rm1) (hS : xSt t p 6 r1 (rm1 32)) : xHow t p r1 q rm1 qm := by
  have hp := h.le.2
  obtain ⟨hD, h6, hP, hR, hL, h0⟩ := h
  obtain ⟨q1, q2, q3⟩ := xRem (q := q) (qm := qm) h6 hP hp
  have g : zFr [32, 36, 151] rm rm1 := (q3.up (by decide)).tr m (by decide)
  have k' : ∀ a, 114 ≤ a → a ≠ 195 → r1 a = r a := fun a a1 a2 => (k a (by omega)).trans (q2 a (by omega) a2)
  have g26 : ∀ c, 26 ≤ c → c ≤ 28 → rm1 c = rm c := fun c c1 c2 => by
    rcases (show c = 26 ∨ c = 27 ∨ c = 28 by omega) with rfl | rfl | rfl <;> exact g _ rfl
  refine ⟨hD.fr ⟨fun a h1 h2 => k' a (by omega) (by omega), rfl, rfl⟩ (xLow.of_ g rfl (by decide)), hS, q1.fr hp (fun a a1 a2 => k a (by omega)) (k 195 (by omega)) (m 36 rfl) (by rw [m 151 rfl]), hR.fr hp (fun a h1 h2 h3 => k' a (by omega) (by omega)) (g 35 rfl) (g 37 rfl) (fun o _ _ => by rw [g 25 rfl]) (fun c i c1 c2 _ _ => by rw [g26 c c1 c2]), hL.fr (fun i hi => k' _ (by omega) (by omega)) (by rw [g 25 rfl]) (fun c i c1 c2 _ => by rw [g26 c c1 c2]), by rw [g 152 rfl]; exact h0⟩
theorem xFrHi {M : List Nat} (f : zFr M r r1) (h : (M.all fun k => Nat.ble k 11) = true) : ∀ a, 12 ≤ a → r1 a = r a := fun a ha => f a (by
  cases e : M.contains a with
  | false => rfl
  | true =>
    have := Nat.le_of_ble_eq_true (List.all_eq_true.mp h a (List.contains_iff_mem.mp e))
    omega)
theorem xHow.isP (h : xHow t p r q rm qm) (a : Int32) : Gk_isPerson a r q = Gm_isPerson a (zset rm 100 (fun _ => 0)) qm := xPersK (h.1.2.1.1.trans h.1.2.1.2.1.symm)
theorem xHow.isT (h : xHow t p r q rm qm) (a : Int32) : Gk_isTown a r q = Gm_isTown a (zset rm 100 (fun _ => 0)) qm := xTownK (h.1.1.1.trans h.1.1.2.1.symm)
theorem xHow.pI (h : xHow t p r q rm qm) {a : Int32} (c : ¬ Gm_isPerson a (zset rm 100 (fun _ => 0)) qm = 0) : ∃ j, j < p ∧ a = nI j := xPersI (p := p) c h.1.2.1.2.1 h.le.2
theorem xHow.tI (h : xHow t p r q rm qm) {a : Int32} (c : ¬ Gm_isTown a (zset rm 100 (fun _ => 0)) qm = 0) : ∃ j, j < t ∧ a = nI j := xTownI (t := t) c h.1.1.2.1 h.le.1
theorem xHow.E (h : xHow t p r q rm qm) : xCe (sL r) t p (sE r) r ∧ xMe (sL r) t p (sE r) 0 rm := by
  obtain ⟨k1, k2, _⟩ := xCe.of h.1
  rw [h.2.2.2.2.2] at k2
  exact ⟨k1, k2⟩
/-- what a move leaves -/
noncomputable def xK1 (r r1 : zRr) : Prop := ∀ a, 114 ≤ a → a ≠ 182 → a ≠ 195 → r1 a = r a
theorem xK1.refl : xK1 r r := fun _ _ _ _ => rfl
theorem xK1.of (f : zFr [182] r r1) : xK1 r r1 := fun a a1 a2 _ => f a (by
  cases e : [182].contains a with
  | false => rfl
  | true =>
    have := List.contains_iff_mem.mp e
    simp only [List.mem_cons, List.not_mem_nil, or_false] at this
    omega)
theorem xHow.k1 (h : xHow t p r q rm qm) (k : ∀ a, 12 ≤ a → r1 a = Gk_remember r q a) : xK1 r r1 := by
  obtain ⟨_, q2, _⟩ := xRem (q := q) (qm := qm) h.2.1 h.2.2.1 h.le.2
  exact fun a a1 a2 a3 => (k a (by omega)).trans (q2 a (by omega) a3)
theorem xK1.tr {r2 : zRr} (h : xK1 r r1) (k : xK1 r1 r2) : xK1 r r2 := fun a a1 a2 a3 => (k a a1 a2 a3).trans (h a a1 a2 a3)
/-- go -/
theorem xGoW {a b : Int32} (h : xHow t p r q rm qm) : (Gk_go a b r q).1 = (Gm_go a b rm qm).1 ∧ xHow t p (Gk_go a b r q).2 q (Gm_go a b rm qm).2 qm ∧ xK1 r (Gk_go a b r q).2 := by
  have h1 := h.z100
  unfold Gk_go Gm_go
  simp only [zletQ, zifQ, zifnQ]
  rw [h.isP a, h.isT b]
  by_cases c1 : Gm_isPerson a (zset rm 100 (fun _ => 0)) qm = 0
  · rw [if_pos c1, if_pos c1]; exact ⟨rfl, h1, xK1.refl⟩
  rw [if_neg c1, if_neg c1]
  by_cases c2 : Gm_isTown b (zset rm 100 (fun _ => 0)) qm = 0
  · rw [if_pos c2, if_pos c2]; exact ⟨rfl, h1, xK1.refl⟩
  rw [if_neg c2, if_neg c2]
  obtain ⟨j, hj, ea⟩ := h.pI c1
  obtain ⟨i, hi, eb⟩ := h.tI c2
  subst ea
  subst eb
  obtain ⟨hE, hE'⟩ := h1.E
  obtain ⟨S, s1, s2, _⟩ := h1.2.1
  obtain ⟨r3, f3, e3⟩ := kGoN (q := q) hE s1 hj hi
  obtain ⟨m3, g3, k3⟩ := mGo (q := qm) hE' s2 hj hi
  have h3 : xHow t p r3 q m3 qm := h1.f182 f3 (g3.up (by decide))
  rw [e3, k3, xcvr (r := r3), xcvr (r := m3)]
  by_cases c3 : sGo (sL r) p (sE r) S 0 j i = 0
  · rw [if_pos c3, if_pos c3]; exact ⟨rfl, h3, xK1.of f3⟩
  · rw [if_neg c3, if_neg c3]
    obtain ⟨S3, _, u1, u2, u3⟩ := h3.rem
    obtain ⟨v1, v2⟩ := kMvN (q := q) u1 hj h3.le.2 hi
    obtain ⟨w1, w2, w3⟩ := mMv (r := Gm_keeps m3 qm) (q := qm) u2 u3 hj h3.le.2 hi
    exact ⟨rfl, h3.mv (xFrHi v2 rfl) w3 ⟨_, v1, w1, w2⟩, (xK1.of f3).tr (h3.k1 (xFrHi v2 rfl))⟩
/-- shave -/
theorem xShW {a : Int32} (h : xHow t p r q rm qm) : (Gk_shave a r q).1 = (Gm_shave a rm qm).1 ∧ xHow t p (Gk_shave a r q).2 q (Gm_shave a rm qm).2 qm ∧ xK1 r (Gk_shave a r q).2 := by
  have h1 := h.z100
  unfold Gk_shave Gm_shave
  simp only [zletQ, zifnQ]
  rw [h.isP a]
  by_cases c1 : Gm_isPerson a (zset rm 100 (fun _ => 0)) qm = 0
  · rw [if_pos c1, if_pos c1]; exact ⟨rfl, h1, xK1.refl⟩
  rw [if_neg c1, if_neg c1]
  obtain ⟨j, hj, ea⟩ := h.pI c1
  subst ea
  obtain ⟨S3, _, u1, u2, u3⟩ := h1.rem
  obtain ⟨v1, v2⟩ := kRzN (q := q) u1 hj h1.le.2
  obtain ⟨w1, w2, w3⟩ := mRz (r := Gm_keeps (zset rm 100 (fun _ => 0)) qm) (q := qm) u2 u3 hj h1.le.2
  exact ⟨rfl, h1.mv (xFrHi v2 rfl) w3 ⟨_, v1, w1, w2⟩, h1.k1 (xFrHi v2 rfl)⟩
theorem xCe.rem {Lf : xLT} {E : Nat → Nat → Int32} {n : Nat} (h : xCe Lf t p E r) (k : ∀ a, 114 ≤ a → a ≠ 195 → r1 a = r a) : xCe Lf t p E r1 := by
  obtain ⟨h1, h3, h4, h5, h6⟩ := h
  refine ⟨by rw [k 171 (by omega) (by omega)]; exact h1, h3, fun i hi => ?_, fun j hj => ?_, fun r2 k1 k2 => h6 r2 (by rw [k1, k 180 (by omega) (by omega)]) (by rw [k2, k 181 (by omega) (by omega)])⟩
  · rw [k 172 (by omega) (by omega), k 173 (by omega) (by omega)]; exact h4 i hi
  · rw [k 175 (by omega) (by omega)]; exact h5 j hj
/-- week -/
theorem xWkW (h : xHow t p r q rm qm) : (Gk_week r q).1 = (Gm_week rm qm).1 ∧ xHow t p (Gk_week r q).2 q (Gm_week rm qm).2 qm ∧ xK1 r (Gk_week r q).2 := by
  have h1 := h.z100
  have hp := h.le.2
  unfold Gk_week Gm_week
  simp only [zletQ]
  obtain ⟨S3, _, u1, u2, u3⟩ := h1.rem
  obtain ⟨q1, q2, q3⟩ := xRem (q := q) (qm := qm) h1.2.1 h1.2.2.1 hp
  obtain ⟨hE, hE'⟩ := h1.E
  have hE2 : xCe (sL r) t p (sE r) (Gk_remember r q) := hE.rem (n := 0) (fun a a1 a2 => q2 a (by omega) a2)
  have hE3 : xMe (sL r) t p (sE r) 0 (Gm_keeps (zset rm 100 (fun _ => 0)) qm) := hE'.fr q3 (by decide)
  obtain ⟨v1, v2⟩ := kWkN (q := q) hE2 u1
  obtain ⟨w1, w2, w3⟩ := mWk (q := qm) hE3 u2 u3
  exact ⟨v1.1.trans w1.1.symm, h1.mv (xFrHi v2 rfl) w3 ⟨_, v1, w1, w2⟩, h1.k1 (xFrHi v2 rfl)⟩
/-- undo -/
theorem xUnW (h : xHow t p r q rm qm) : (Gk_undo r q).1 = (Gm_undo rm qm).1 ∧ xHow t p (Gk_undo r q).2 q (Gm_undo rm qm).2 qm ∧ xK1 r (Gk_undo r q).2 := by
  have hp := h.le.2
  obtain ⟨hD, h6, hP, hR, hL, h0⟩ := h
  obtain ⟨k1, k2, k3, k4, k5⟩ := xUn (q := q) (qm := qm) h6 hP hp
  have g26 : ∀ c, 26 ≤ c → c ≤ 28 → (Gm_undo rm qm).2 c = rm c := fun c c1 c2 => by
    rcases (show c = 26 ∨ c = 27 ∨ c = 28 by omega) with rfl | rfl | rfl <;> exact k5 _ rfl
  exact ⟨k1, ⟨hD.fr ⟨fun a h1 h2 => k4 a (by omega) (by omega), rfl, rfl⟩ (xLow.of_ k5 rfl (by decide)), k2, k3, hR.fr hp (fun a h1 h2 h3 => k4 a (by omega) (by omega)) (k5 35 rfl) (k5 37 rfl) (fun o _ _ => by rw [k5 25 rfl]) (fun c i c1 c2 _ _ => by rw [g26 c c1 c2]), hL.fr (fun i hi => k4 _ (by omega) (by omega)) (by rw [k5 25 rfl]) (fun c i c1 c2 _ => by rw [g26 c c1 c2]), by rw [k5 152 rfl]; exact h0⟩, fun a a1 _ a3 => k4 a (by omega) a3⟩
end XHW
section XFG
variable {t p : Nat} {r rm : zRr} {q qm : zRq}
theorem xFgC {K fo pu inch v : Int32} (hf : zI 0 20 fo) : (if K = 1 then (0 : Int32) else if v < 1 then 0 else if 20 - fo < v then 0 else if pu < v * inch then 0 else 1) = if v < 1 then 0 else if 20 < v then 0 else if K = 1 then 0 else if pu < v * inch then 0 else if 20 < fo + v then 0 else 1 := by
  have c1 : (1 : Int32).toInt = 1 := by decide
  have c20 : (20 : Int32).toInt = 20 := by decide
  have f1 := hf.1
  have f2 := hf.2
  have es : (20 - fo).toInt = 20 - fo.toInt := by
    rw [Jvm.Kit.i32_sub (by rw [c20]; omega) (by rw [c20]; omega), c20]
  by_cases h1 : v < 1
  · rw [if_pos h1, if_pos h1]
    by_cases hk : K = 1
    · rw [if_pos hk]
    · rw [if_neg hk]
  · rw [if_neg h1, if_neg h1]
    by_cases h2 : 20 < v
    · have h3 : 20 - fo < v := by
        rw [Int32.lt_iff_toInt_lt] at h2 ⊢
        rw [c20] at h2
        omega
      rw [if_pos h2, if_pos h3]
      by_cases hk : K = 1
      · rw [if_pos hk]
      · rw [if_neg hk]
    · rw [if_neg h2]
      have v1 : 1 ≤ v.toInt := by rw [Int32.lt_iff_toInt_lt, c1] at h1; omega
      have v2 : v.toInt ≤ 20 := by rw [Int32.lt_iff_toInt_lt, c20] at h2; omega
      have ea : (fo + v).toInt = fo.toInt + v.toInt := Jvm.Kit.i32_add (by omega) (by omega)
      have e : (20 - fo < v) ↔ (20 < fo + v) := by
        rw [Int32.lt_iff_toInt_lt, Int32.lt_iff_toInt_lt, es, ea, c20]
        omega
      by_cases hk : K = 1
      · rw [if_pos hk, if_pos hk]
      · rw [if_neg hk, if_neg hk]
        by_cases h3 : 20 - fo < v
        · rw [if_pos h3]
          by_cases h4 : pu < v * inch
          · rw [if_pos h4]
          · rw [if_neg h4, if_pos (e.mp h3)]
        · rw [if_neg h3]
          by_cases h4 : pu < v * inch
          · rw [if_pos h4, if_pos h4]
          · rw [if_neg h4, if_neg h4, if_neg (fun h => h3 (e.mpr h))]
/-- forge -/
theorem xFgW {a b : Int32} (h : xHow t p r q rm qm) (hf : ∀ j, j < 6 → zI 0 20 (rm 32 (13 + j))) : (Gk_forge a b r q).1 = (Gm_forge a b rm qm).1 ∧ xHow t p (Gk_forge a b r q).2 q (Gm_forge a b rm qm).2 qm ∧ xK1 r (Gk_forge a b r q).2 := by
  have h1 := h.z100
  have hp := h.le.2
  unfold Gk_forge Gm_forge
  simp only [zletQ, zifQ, zifnQ]
  rw [h.isP a]
  by_cases c1 : Gm_isPerson a (zset rm 100 (fun _ => 0)) qm = 0
  · rw [if_pos c1, if_pos c1]; exact ⟨rfl, h1, xK1.refl⟩
  rw [if_neg c1, if_neg c1]
  obtain ⟨j, hj, ea⟩ := h.pI c1
  subst ea
  obtain ⟨hE, hE'⟩ := h1.E
  obtain ⟨S, ⟨s1, s2⟩, u1, u2, u3⟩ := h1.rem
  have n13 : (13 : Int32) + nI j = nI (13 + j) := nI_add 13 j
  have n19 : (19 : Int32) + nI j = nI (19 + j) := nI_add 19 j
  have g2 : r 175 j = sE r 2 j := hE.2.2.2.1 j hj
  have g9 : r 9 j = S 3 j := (s1.2 j hj).2.2.2.1
  have g10 : r 10 j = S 4 j := (s1.2 j hj).2.2.2.2.1
  have g12 : r 171 12 = sE r 3 1 := hE.1.2.2.2
  have k2 : zset rm 100 (fun _ => 0) 6 j = sE r 2 j := hE'.2.2.2.1 j hj
  have k9 : zset rm 100 (fun _ => 0) 32 (13 + j) = S 3 j := (s2.2 j hj).2.2.2.1
  have k10 : zset rm 100 (fun _ => 0) 32 (19 + j) = S 4 j := (s2.2 j hj).2.2.2.2.1
  have k12 : zset rm 100 (fun _ => 0) 1 3 = sE r 3 1 := hE'.1.2.2.2
  have hz : zI 0 20 (S 3 j) := by rw [← k9]; exact hf j (by omega)
  have eK : Gk_canForgeN (nI j) b r q = if sE r 2 j = 1 then (0 : Int32) else if b < 1 then 0 else if 20 - S 3 j < b then 0 else if S 4 j < b * sE r 3 1 then 0 else 1 := by
    unfold Gk_canForgeN
    simp only [zifQ, xzn (show j < 2 ^ 31 by omega), g2, g9, g10, g12]
  have eM : Gm_canForge (nI j) b (zset rm 100 (fun _ => 0)) qm = if sE r 2 j = 1 then (0 : Int32) else if S 4 j < b * sE r 3 1 then 0 else if 20 < S 3 j + b then 0 else 1 := by
    unfold Gm_canForge
    simp only [zifQ, n13, n19, xzn (show j < 2 ^ 31 by omega), xzn (show 13 + j < 2 ^ 31 by omega), xzn (show 19 + j < 2 ^ 31 by omega), k2, k9, k10, k12]
  rw [eK, eM, xFgC hz]
  unfold Gm_within
  simp only [zifQ]
  by_cases d1 : b < 1
  · simp only [if_pos d1, if_true]; exact ⟨trivial, h1, xK1.refl⟩
  simp only [if_neg d1]
  by_cases d2 : 20 < b
  · simp only [if_pos d2, if_true]; exact ⟨trivial, h1, xK1.refl⟩
  simp only [if_neg d2, if_neg (show ¬ (1 : Int32) = 0 by decide)]
  by_cases d3 : (if sE r 2 j = 1 then (0 : Int32) else if S 4 j < b * sE r 3 1 then 0 else if 20 < S 3 j + b then 0 else 1) = 0
  · rw [if_pos d3, if_pos d3]; exact ⟨rfl, h1, xK1.refl⟩
  · rw [if_neg d3, if_neg d3]
    obtain ⟨q1, q2, q3⟩ := xRem (q := q) (qm := qm) h1.2.1 h1.2.2.1 hp
    have hE2 : xCe (sL r) t p (sE r) (Gk_remember r q) := hE.rem (n := 0) (fun a a1 a2 => q2 a (by omega) a2)
    have hE3 : xMe (sL r) t p (sE r) 0 (Gm_keeps (zset rm 100 (fun _ => 0)) qm) := hE'.fr q3 (by decide)
    obtain ⟨v1, v2⟩ := kFgN (q := q) (v := b) hE2 u1 hj
    obtain ⟨w1, w2, w3⟩ := mFg (q := qm) (v := b) hE3 u2 u3 hj
    have e1 : Gk_sellN (nI j) b (Gk_remember r q) q 10 j = sFg (sE r) S j b 4 j := (v1.2 j hj).2.2.2.2.1
    have e2 : Gm_forges (nI j) b (Gm_keeps (zset rm 100 (fun _ => 0)) qm) qm 32 (19 + j) = sFg (sE r) S j b 4 j := (w1.2 j hj).2.2.2.2.1
    rw [n19, xzn (show j < 2 ^ 31 by omega), xzn (show 19 + j < 2 ^ 31 by omega)]
    exact ⟨e1.trans e2.symm, h1.mv (xFrHi v2 rfl) w3 ⟨_, v1, w1, w2⟩, h1.k1 (xFrHi v2 rfl)⟩
end XFG
end
section
/-! ===== land, journey, mark, see: how it is then ===== -/
section XLW
variable {t p : Nat} {r rm : zRr} {q qm : zRq}
theorem xTdL {r17 rm9 : zRr} {q16 qm10 : zRq} (hD17 : xD t p r17 q16 rm9 qm10) : xTd t p (kcpL r17 (zn (r17 192 2))) (kcpLq q16) (Gm_lays rm9 qm10).1 (Gm_lays rm9 qm10).2 := by
  obtain ⟨m, em, hm⟩ := hD17.len
  refine xtell hD17 rfl (fun a h1 h2 h3 => ?_) ?_ rfl rfl rfl ?_ (fun a h1 h2 => ?_) ?_ ?_ ?_ ?_ ?_
  · unfold kcpL
    rw [if_neg (by omega), if_neg (by omega), if_neg (by omega), if_pos ⟨h1, h2, h3⟩]
  · show upd (r17 180) 2 (nI (zn (r17 192 2))) 2 = r17 192 2
    rw [pk_us, em, xzn (by omega)]
  all_goals (unfold Gm_lays; simp only [zletQ])
  · rfl
  · rcases (show a = 4 ∨ a = 5 ∨ a = 6 ∨ a = 7 ∨ a = 8 ∨ a = 9 by omega) with rfl | rfl | rfl | rfl | rfl | rfl <;> rfl
  · rfl
  · rfl
  · rfl
  · rfl
  · rfl
theorem xLays152 {rm9 : zRr} {qm10 : zRq} {a : Nat} (ha : [1, 4, 5, 6, 7, 8, 9, 10, 11, 12].contains a = false) : (Gm_lays rm9 qm10).1 a = rm9 a := by
  have f : zFr [1, 4, 5, 6, 7, 8, 9, 10, 11, 12] rm9 (Gm_lays rm9 qm10).1 := by
    unfold Gm_lays
    simp only [zletQ]
    repeat (first | with_reducible exact zFr.refl | with_reducible refine zFr.set ?_ ?_ | decide)
  exact f a ha
theorem xLandW {L : Nat} (h : xTp L r rm) (hW : xHow t p r q rm qm) : ∃ t p, xHow t p (Gk_land r q).2.1 (Gk_land r q).2.2 (Gm_land rm qm).2.1 (Gm_land rm qm).2.2 := by
  rcases xLandC (q := q) (qm := qm) h with ⟨r15, q16, rm9, qm10, gk, gm, ek, em⟩ | ⟨t1, p1, r15, q16, rm9, qm10, r17, gk, gm, e17, hD, ek, em⟩
  · have hp := hW.le.2
    obtain ⟨hD, h6, hP, hR, hL, h0⟩ := hW
    rw [ek, em]
    show ∃ t p, xHow t p (zset r15 196 (upd (r15 196) 1 0)) q16 rm9 qm10
    have k15 : ∀ a, a < 182 ∨ a = 195 → zset r15 196 (upd (r15 196) 1 0) a = r a := by
      intro a h1
      have hk : xKM.contains a = false := by
        cases e : xKM.contains a with
        | false => rfl
        | true =>
          have := List.contains_iff_mem.mp e
          unfold xKM at this
          simp only [List.mem_cons, List.not_mem_nil, or_false] at this
          omega
      rw [zset_ne (by omega), gk.1 a hk, xRak ?_]
      cases e : [183, 185, 192, 193, 196, 198].contains a with
      | false => rfl
      | true =>
        have := List.contains_iff_mem.mp e
        simp only [List.mem_cons, List.not_mem_nil, or_false] at this
        omega
    have m9 : ∀ a, 25 ≤ a → a ≠ 100 → a ≠ 101 → a ≠ 103 → a ≠ 104 → a ≠ 105 → a ≠ 106 → a ≠ 108 → a ≠ 109 → a ≠ 122 → a ≠ 123 → a ≠ 136 → rm9 a = rm a := by
      intro a a0 a1 a2 a3 a4 a5 a6 a7 a8 a9 b1 b2
      have hk : xMM.contains a = false := by
        cases e : xMM.contains a with
        | false => rfl
        | true =>
          have := List.contains_iff_mem.mp e
          unfold xMM at this
          simp only [List.mem_cons, List.not_mem_nil, or_false] at this
          omega
      rw [gm.1 a hk]
      unfold xMb xMa xs
      rw [zset_ne a4, zset_ne a2, zset_ne a3, zset_ne a9, zset_ne b1, zset_ne (by omega), zset_ne (by omega), zset_ne (by omega), zset_ne (by omega), zset_ne (by omega), zset_ne (by omega), zset_ne a1]
    have e26 : ∀ c, 26 ≤ c → c ≤ 28 → rm9 c = rm c := fun c c1 c2 => m9 c (by omega) (by omega) (by omega) (by omega) (by omega) (by omega) (by omega) (by omega) (by omega) (by omega) (by omega) (by omega)
    have me : ∀ a, [25, 32, 35, 36, 37, 151, 152].contains a = true → rm9 a = rm a := fun a ha => by
      have := List.contains_iff_mem.mp ha
      simp only [List.mem_cons, List.not_mem_nil, or_false] at this
      exact m9 a (by omega) (by omega) (by omega) (by omega) (by omega) (by omega) (by omega) (by omega) (by omega) (by omega) (by omega) (by omega)
    obtain ⟨t2, p2, hT2⟩ := xLand (q := q) (qm := qm) h hD
    rw [ek, em] at hT2
    have et : t2 = t := by
      have a1 := hT2.1.1
      have a2 := hD.1.1
      have a3 : zset r15 196 (upd (r15 196) 1 0) 171 9 = r 171 9 := by rw [k15 171 (by omega)]
      exact (nI_eq (by have := hT2.1.2.2; omega) (by have := hD.1.2.2; omega)).mp (a1.symm.trans (a3.trans a2))
    have ep : p2 = p := by
      have a1 := hT2.2.1.1
      have a2 := hD.2.1.1
      have a3 : zset r15 196 (upd (r15 196) 1 0) 171 10 = r 171 10 := by rw [k15 171 (by omega)]
      exact (nI_eq (by have := hT2.2.1.2.2; omega) (by have := hD.2.1.2.2; omega)).mp (a1.symm.trans (a3.trans a2))
    subst et
    subst ep
    refine ⟨t2, p2, hT2, h6.eq hp (fun i hi => k15 _ (by omega)) (fun i _ => by rw [me 32 rfl]), hP.fr hp (fun a a1 a2 => k15 a (by omega)) (k15 195 (by omega)) (me 36 rfl) (by rw [me 151 rfl]), hR.fr hp (fun a a1 a2 a3 => k15 a (by omega)) (me 35 rfl) (me 37 rfl) (fun o _ _ => by rw [me 25 rfl]) (fun c i c1 c2 _ _ => by rw [e26 c c1 c2]), hL.fr (fun i hi => k15 _ (by omega)) (by rw [me 25 rfl]) (fun c i c1 c2 _ => by rw [e26 c c1 c2]), by rw [me 152 rfl]; exact h0⟩
  · have h0 := hW.2.2.2.2.2
    have hp6 : p1 ≤ 6 := hD.2.1.2.2.1
    have hT := xTdL hD
    rw [ek, em]
    have r152 : (Gm_lays rm9 qm10).1 152 0 = 0 := by
      rw [xLays152 rfl, gm.1 152 rfl]
      unfold xMb xMa xs
      rw [zset_ne (by decide), zset_ne (by decide), zset_ne (by decide), zset_ne (by decide), zset_ne (by decide), zset_ne (by decide), zset_ne (by decide), zset_ne (by decide), zset_ne (by decide), zset_ne (by decide), zset_ne (by decide), zset_ne (by decide)]
      exact h0
    generalize kcpLq q16 = q20 at hT ⊢
    generalize kcpL r17 (zn (r17 192 2)) = r21 at hT ⊢
    generalize Gm_lays rm9 qm10 = ol at hT r152 ⊢
    obtain ⟨rm14, qm15⟩ := ol
    have hT : xTd t1 p1 r21 q20 rm14 qm15 := hT
    have r152 : rm14 152 0 = 0 := r152
    obtain ⟨hE, hE', hC, hC'⟩ := xCe.of hT
    obtain ⟨c8, f8⟩ := kBgN (q := q20) hE hC
    obtain ⟨m8, z8, g8⟩ := mBg (q := qm15) hE' hC'
    show ∃ t p, xHow t p (Gk_land_79 5 0 (Gk_forgetPast (Gk_clear6 (zset (Gk_begin8N r21 q20) 138 (upd (Gk_begin8N r21 q20 138) 3 0)) q20) q20) q20).2.1 (Gk_land_79 5 0 (Gk_forgetPast (Gk_clear6 (zset (Gk_begin8N r21 q20) 138 (upd (Gk_begin8N r21 q20 138) 3 0)) q20) q20) q20).2.2 (Gm_land_46 5 0 (zset (zset (zset (Gm_fresh0 rm14 qm15) 25 (upd (Gm_fresh0 rm14 qm15 25) 0 0)) 29 (upd (zset (Gm_fresh0 rm14 qm15) 25 (upd (Gm_fresh0 rm14 qm15 25) 0 0) 29) 0 0)) 151 (fun _ => 0)) qm15).2.1 (Gm_land_46 5 0 (zset (zset (zset (Gm_fresh0 rm14 qm15) 25 (upd (Gm_fresh0 rm14 qm15 25) 0 0)) 29 (upd (zset (Gm_fresh0 rm14 qm15) 25 (upd (Gm_fresh0 rm14 qm15 25) 0 0) 29) 0 0)) 151 (fun _ => 0)) qm15).2.2
    generalize Gk_begin8N r21 q20 = u22 at c8 f8 ⊢
    generalize Gm_fresh0 rm14 qm15 = um at m8 z8 g8 ⊢
    have f6 := xclear6 (r := zset u22 138 (upd (u22 138) 3 0)) (q := q20)
    generalize Gk_clear6 (zset u22 138 (upd (u22 138) 3 0)) q20 = u25 at f6 ⊢
    have f5 := xforget (r := u25) (q := q20)
    have v5 : Gk_forgetPast u25 q20 195 13 = 0 ∧ Gk_forgetPast u25 q20 195 14 = 0 := by
      unfold Gk_forgetPast
      simp only [zletQ]
      rw [zset_eq]
      refine ⟨?_, pk_us⟩
      rw [pk_un (by decide), zset_eq, pk_us]
    generalize Gk_forgetPast u25 q20 = u27 at f5 v5 ⊢
    obtain ⟨f4, f4q⟩ := xl79f 5 0 u27 q20 (by omega) (by omega)
    rw [nI_0] at f4 f4q
    obtain ⟨w4, w4q⟩ := xm46f 5 0 (zset (zset (zset um 25 (upd (um 25) 0 0)) 29 (upd (zset um 25 (upd (um 25) 0 0) 29) 0 0)) 151 (fun _ => 0)) qm15 (by omega) (by omega)
    have v4 := xm46v 5 0 (zset (zset (zset um 25 (upd (um 25) 0 0)) 29 (upd (zset um 25 (upd (um 25) 0 0) 29) 0 0)) 151 (fun _ => 0)) qm15 (by omega) (by omega) (fun j hj => absurd hj (Nat.not_lt_zero _))
    rw [nI_0] at w4 w4q v4
    have b1 : zFr [6, 7, 8, 9, 10, 11, 138, 162, 167, 168, 169, 170, 195] r21 (zset u22 138 (upd (u22 138) 3 0)) := (f8.up (by decide)).set (by decide)
    have b4 := ((b1.tr f6 (by decide)).tr f5 (by decide)).tr f4 (by decide)
    have n4 : zFr [25, 29, 32, 37, 151] rm14 (Gm_land_46 5 0 (zset (zset (zset um 25 (upd (um 25) 0 0)) 29 (upd (zset um 25 (upd (um 25) 0 0) 29) 0 0)) 151 (fun _ => 0)) qm15).2.1 := ((((g8.up (by decide)).set (by decide)).set (by decide)).set (by decide)).tr w4 (by decide)
    have u6 : ∀ i, i < 6 → (Gk_land_79 5 0 u27 q20).2.1 (6 + i) = u22 (6 + i) := fun i hi => by
      rcases (show i = 0 ∨ i = 1 ∨ i = 2 ∨ i = 3 ∨ i = 4 ∨ i = 5 by omega) with rfl | rfl | rfl | rfl | rfl | rfl
      all_goals rw [f4 _ rfl, f5 _ rfl, f6 _ rfl, zset_ne (by decide)]
    refine ⟨t1, p1, hT.fr (xKk.of b4 f4q (by decide)) (xLow.of_ n4 w4q (by decide)), ⟨_, c8.eq u6, m8.fr (by rw [w4 32 rfl]; rfl), by rw [w4 32 rfl]; exact z8⟩, xPs.nil (by rw [f4 195 rfl]; exact v5.1) (by rw [f4 195 rfl]; exact v5.2) (by rw [w4 151 rfl, zset_eq]), fun k hk hz => absurd (v4 k hk) hz, xPl.nil (by rw [f4 138 rfl, f5 138 rfl, f6 138 rfl, zset_eq, pk_us]) (by rw [w4 25 rfl, zset_ne (by decide), zset_ne (by decide), zset_eq, pk_us]), by rw [n4 152 rfl]; exact r152⟩
theorem xJourW {L : Nat} (h : xTp L r rm) (hW : xHow t p r q rm qm) : (Gk_journey r q).1 = (Gm_journey rm qm).1 ∧ xHow t p (Gk_journey r q).2.1 (Gk_journey r q).2.2 (Gm_journey rm qm).2.1 (Gm_journey rm qm).2.2 := by
  have hp := hW.le.2
  obtain ⟨hD, h6, hP, hR, hL, h0⟩ := hW
  obtain ⟨ka, kd⟩ := xJour (q := q) (qm := qm) h hD
  refine ⟨ka, kd, ?_⟩
  obtain ⟨⟨hk, k⟩, _⟩ := xjourney h hD
  have mj : ∀ a, a ≠ 25 → a ≠ 100 → a ≠ 101 → a ≠ 103 → a ≠ 104 → a ≠ 136 → xMk rm a = rm a := fun a a1 a2 a3 a4 a5 a6 => by
    unfold xMk xMj xs
    rw [zset_ne a5, zset_ne a3, zset_ne a4, zset_ne a6, zset_ne a1, zset_ne a2]
  have mj25 : ∀ o, o ≠ 5 → xMk rm 25 o = rm 25 o := fun o ho => by
    unfold xMk xMj xs
    rw [zset_ne (by decide), zset_ne (by decide), zset_ne (by decide), zset_ne (by decide), zset_eq, pk_un ho, zset_ne (by decide)]
  have rj : ∀ a, a ≠ 142 → a ≠ 196 → xRj r a = r a := fun a a1 a2 => by
    unfold xRj xs
    rw [zset_ne a2, zset_ne a2, zset_ne a1]
  unfold Gk_journey
  generalize Gk_readJ r q = o at hk k ⊢
  generalize Gm_journey rm qm = om at k ⊢
  obtain ⟨v, r3, q4⟩ := o
  obtain ⟨w, rm3, qm4⟩ := om
  have hk : xJk (xRj r) q r3 q4 := hk
  have k3 : ∀ a, a < 142 ∨ (146 ≤ a ∧ a < 182) ∨ a = 195 → zset r3 196 (upd (r3 196) 1 0) a = r a := fun a ha => by
    rw [zset_ne (by omega), hk.1 a ?_, rj a (by omega) (by omega)]
    cases e : [142, 143, 144, 145, 196].contains a with
    | false => rfl
    | true =>
      have := List.contains_iff_mem.mp e
      simp only [List.mem_cons, List.not_mem_nil, or_false] at this
      omega
  rw [xcvrq (r := r3)]
  simp only [zletQ, zifnQ]
  rcases k with ⟨g1, g2, g3⟩ | ⟨g1, g2, n, rm1, g3, g4, g5⟩
  · have g1 : v = 0 := g1
    have g2 : xJm (xMk rm) qm rm3 qm4 := g2
    rw [if_pos g1]
    show xSt t p 6 (zset r3 196 (upd (r3 196) 1 0)) (rm3 32) ∧ xPs t p (zset r3 196 (upd (r3 196) 1 0)) rm3 ∧ xMr t p (zset r3 196 (upd (r3 196) 1 0)) rm3 ∧ xPl t p 138 0 (zset r3 196 (upd (r3 196) 1 0)) rm3 ∧ rm3 152 0 = 0
    have me : ∀ a, [32, 35, 36, 37, 151, 152].contains a = true → rm3 a = rm a := fun a ha => by
      have := List.contains_iff_mem.mp ha
      simp only [List.mem_cons, List.not_mem_nil, or_false] at this
      rw [g2.1 a ?_, mj a (by omega) (by omega) (by omega) (by omega) (by omega) (by omega)]
      cases e : [25, 26, 27, 28, 104, 105, 106, 108, 109, 136].contains a with
      | false => rfl
      | true =>
        have := List.contains_iff_mem.mp e
        simp only [List.mem_cons, List.not_mem_nil, or_false] at this
        omega
    have e25 : ∀ o, o ≠ 5 → rm3 25 o = rm 25 o := fun o ho => by rw [g2.2.2.1 o ho, mj25 o ho]
    have e26 : ∀ c i, 26 ≤ c → c ≤ 28 → i < 200 → rm3 c i = rm c i := fun c i c1 c2 hi => by rw [g2.2.2.2 c i c1 c2 hi, mj c (by omega) (by omega) (by omega) (by omega) (by omega) (by omega)]
    exact ⟨h6.eq hp (fun i hi => k3 _ (by omega)) (fun i _ => by rw [me 32 rfl]), hP.fr hp (fun a a1 a2 => k3 a (by omega)) (k3 195 (by omega)) (me 36 rfl) (by rw [me 151 rfl]), hR.fr hp (fun a a1 a2 a3 => k3 a (by omega)) (me 35 rfl) (me 37 rfl) (fun o o1 o2 => e25 o (by omega)) (fun c i c1 c2 _ hi => e26 c i c1 c2 hi), hL.fr (fun i hi => k3 _ (by omega)) (e25 0 (by omega)) (fun c i c1 c2 hi => e26 c _ c1 c2 (by omega)), by rw [me 152 rfl]; exact h0⟩
  · have g1 : v = 1 := g1
    have g3 : xJm (xMk rm) qm rm1 qm4 := g3
    have g4 : rm3 = Gm_laysLines 5 0 rm1 qm4 := g4
    have g5 : xPd t p n r3 rm1 := g5
    rw [if_neg (show ¬ v = 0 by rw [g1]; decide)]
    show xSt t p 6 (kcp1 (zset r3 196 (upd (r3 196) 1 0)) 138 142) (rm3 32) ∧ xPs t p (kcp1 (zset r3 196 (upd (r3 196) 1 0)) 138 142) rm3 ∧ xMr t p (kcp1 (zset r3 196 (upd (r3 196) 1 0)) 138 142) rm3 ∧ xPl t p 138 0 (kcp1 (zset r3 196 (upd (r3 196) 1 0)) 138 142) rm3 ∧ rm3 152 0 = 0
    have lf := xlaysL (a := 5) (b := 0) (r := rm1) (q := qm4)
    obtain ⟨l1, l2, l3, l4⟩ := xlaysX2 (a := 5) (b := 0) (r := rm1) (q := qm4) (by omega) (by omega) (by omega)
    rw [show nI 0 = (0 : Int32) from nI_0, show nI 5 = (5 : Int32) from rfl] at l1 l2 l3 l4
    rw [← g4] at lf l1 l2 l3 l4
    have me : ∀ a, [32, 35, 36, 37, 151, 152].contains a = true → rm3 a = rm a := fun a ha => by
      have := List.contains_iff_mem.mp ha
      simp only [List.mem_cons, List.not_mem_nil, or_false] at this
      rw [lf a ?_, g3.1 a ?_, mj a (by omega) (by omega) (by omega) (by omega) (by omega) (by omega)]
      · cases e : [25, 26, 27, 28, 104, 105, 106, 108, 109, 136].contains a with
        | false => rfl
        | true =>
          have := List.contains_iff_mem.mp e
          simp only [List.mem_cons, List.not_mem_nil, or_false] at this
          omega
      · cases e : [25, 26, 27, 28].contains a with
        | false => rfl
        | true =>
          have := List.contains_iff_mem.mp e
          simp only [List.mem_cons, List.not_mem_nil, or_false] at this
          omega
    have e25 : ∀ o, o ≠ 5 → o ≠ 0 → rm3 25 o = rm 25 o := fun o ho h0 => by rw [l1 o h0, g3.2.2.1 o ho, mj25 o ho]
    have e26 : ∀ o c i, o ≠ 0 → o < 5 → 26 ≤ c → c ≤ 28 → i < 40 → rm3 c (40 * o + i) = rm c (40 * o + i) := fun o c i o1 o2 c1 c2 hi => by rw [l4 o c i o1 c1 c2 hi, g3.2.2.2 c _ c1 c2 (by omega), mj c (by omega) (by omega) (by omega) (by omega) (by omega) (by omega)]
    have kr : ∀ a, a < 138 ∨ (146 ≤ a ∧ a < 182) ∨ a = 195 → kcp1 (zset r3 196 (upd (r3 196) 1 0)) 138 142 a = r a := fun a ha => by
      rw [kcp1_o (by omega)]; exact k3 a (by omega)
    have hPl : xPl t p 142 5 (zset r3 196 (upd (r3 196) 1 0)) rm1 := by
      obtain ⟨p1, p2, p3, p4⟩ := g5
      refine ⟨n, p3, by rw [zset_ne (by decide)]; exact p1, p2, fun k hk => ?_⟩
      exact p4 k hk
    refine ⟨h6.eq hp (fun i hi => kr _ (by omega)) (fun i _ => by rw [me 32 rfl]), hP.fr hp (fun a a1 a2 => kr a (by omega)) (kr 195 (by omega)) (me 36 rfl) (by rw [me 151 rfl]), hR.fr hp (fun a a1 a2 a3 => kr a (by omega)) (me 35 rfl) (me 37 rfl) (fun o o1 o2 => e25 o (by omega) (by omega)) (fun c i c1 c2 i1 i2 => ?_), hPl.cp (n := 138) (b := 0) l2 l3, by rw [me 152 rfl]; exact h0⟩
    have := e26 (i / 40) c (i % 40) (by omega) (by omega) c1 c2 (by omega)
    rw [show 40 * (i / 40) + i % 40 = i by omega] at this
    exact this
theorem xMarkW {a b : Int32} (hM : lM r rm) (hS : lS r rm) (hW : xHow t p r q rm qm) : (Gk_mark a b r q).1 = (Gm_mark a b rm qm).1 ∧ (∀ c, 171 ≤ c → c ≠ 195 → (Gk_mark a b r q).2 c = r c) → zFr [100, 37, 25, 26, 27, 28, 29, 30, 31, 32, 151, 35] rm (Gm_mark a b rm qm).2 → xHow t p (Gk_mark a b r q).2 q (Gm_mark a b rm qm).2 qm := by
  intro ⟨_, hk⟩ f
  have hp := hW.le.2
  obtain ⟨hD, h6, hP, hR, hL, h0⟩ := hW
  obtain ⟨k1, k2, k3, k4⟩ := xMarkR (a := a) (b := b) (q := q) (qm := qm) hp hM h6 hP hR hL
  exact ⟨hD.fr ⟨fun c c1 c2 => hk c c1 (by omega), rfl, rfl⟩ (xLow.of_ f rfl (by decide)), k1, k2, k3, k4, by rw [f 152 rfl]; exact h0⟩
end XLW
theorem xHow.see {t p : Nat} {r r1 rm rm1 : zRr} {q qm : zRq} (h : xHow t p r q rm qm) (k : ∀ a, a ≠ 162 → a ≠ 182 → r1 a = r a) (m : zFr [29, 30, 31, 100] rm rm1) : xHow t p r1 q rm1 qm := by
  have hp := h.le.2
  obtain ⟨hD, h6, hP, hR, hL, h0⟩ := h
  exact ⟨hD.fr ⟨fun a h1 h2 => k a (by omega) (by omega), rfl, rfl⟩ (xLow.of_ m rfl (by decide)), h6.eq hp (fun i hi => k _ (by omega) (by omega)) (fun i _ => by rw [m 32 rfl]), hP.fr hp (fun a a1 a2 => k a (by omega) (by omega)) (k 195 (by omega) (by omega)) (m 36 rfl) (by rw [m 151 rfl]), hR.fr hp (fun a a1 a2 a3 => k a (by omega) (by omega)) (m 35 rfl) (m 37 rfl) (fun o _ _ => by rw [m 25 rfl]) (fun c i c1 c2 _ _ => by rcases (show c = 26 ∨ c = 27 ∨ c = 28 by omega) with rfl | rfl | rfl <;> rw [m _ rfl]), hL.fr (fun i hi => k _ (by omega) (by omega)) (by rw [m 25 rfl]) (fun c i c1 c2 _ => by rcases (show c = 26 ∨ c = 27 ∨ c = 28 by omega) with rfl | rfl | rfl <;> rw [m _ rfl]), by rw [m 152 rfl]; exact h0⟩
end
section
/-! ===== answers: person, town, speakers, count ===== -/
noncomputable def xSm (f : Nat → Int32) : Nat → Int32
  | 0 => 0
  | n + 1 => xSm f n + f n
theorem xSm_s {f : Nat → Int32} {n : Nat} : xSm f (n + 1) = xSm f n + f n := rfl
theorem xSm.congr {f g : Nat → Int32} : ∀ n, (∀ i, i < n → f i = g i) → xSm f n = xSm g n := by
  intro n
  induction n with
  | zero => intro _; rfl
  | succ n ih => intro h; rw [xSm_s, xSm_s, ih (fun i hi => h i (by omega)), h n (by omega)]
theorem xSm.zero {f : Nat → Int32} {p : Nat} : ∀ k, (∀ i, p ≤ i → i < p + k → f i = 0) → xSm f (p + k) = xSm f p := by
  intro k
  induction k with
  | zero => intro _; rfl
  | succ k ih =>
    intro h
    rw [show p + (k + 1) = p + k + 1 by omega, xSm_s, ih (fun i h1 h2 => h i h1 (by omega)), h (p + k) (by omega) (by omega), Int32.add_zero]
section XAS
variable {t p : Nat} {r rm : zRr} {q qm : zRq}
end XAS
end
/-! ===== whither one can come: sets of towns as numbers ===== -/
noncomputable def yN (f : Nat → Int32) : Nat → Nat
  | 0 => 0
  | n + 1 => if f n = 0 then yN f n else yN f n ||| 2 ^ n
section
/-! ===== whither one can come ===== -/
noncomputable def sSp (Lf : xLT) (p : Nat) (E S : Nat → Nat → Int32) (mo : Int32) (j i u : Nat) : Int32 := if (E 1 i >>> (nI u &&& 31)) &&& 1 = 0 then 0 else sLe Lf p E S mo (nI i) j u
noncomputable def sT (Lf : xLT) (t p : Nat) (E S : Nat → Nat → Int32) (mo : Int32) (j i : Nat) : Nat := yN (sSp Lf p E S mo j i) t
section XWD
variable {t : Nat} {r : zRr} {q : zRq} {T : Nat → Nat}
end XWD
section XLYA
variable {Lf : xLT} {t p : Nat} {E S : Nat → Nat → Int32} {r : zRr} {q : zRq}
end XLYA
section XLYN
variable {Lf : xLT} {t p : Nat} {E S : Nat → Nat → Int32} {r : zRr} {q : zRq}
end XLYN
section XLYT
variable {Lf : xLT} {t p : Nat} {E S : Nat → Nat → Int32} {r : zRr} {q : zRq}
end XLYT
section XSPM
variable {Lf : xLT} {t p : Nat} {E S : Nat → Nat → Int32} {mo : Int32} {r0 : zRr} {q : zRq}
end XSPM
end
section
/-! ===== answers: when ===== -/
section XWN
variable {Lf : xLT} {t p : Nat} {E : Nat → Nat → Int32}
end XWN
section XWM
variable {Lf : xLT} {t p : Nat} {E S : Nat → Nat → Int32} {rm0 : zRr} {q : zRq}
end XWM
theorem nIm1 {k : Nat} (h : k ≤ 1000) : ¬ nI k = -1 := fun h9 => by
  have h8 := congrArg Int32.toInt h9
  rw [nI_toInt (by omega)] at h8
  have c : (-1 : Int32).toInt = -1 := by decide
  omega
section XWK3
variable {Lf : xLT} {t p : Nat} {E S : Nat → Nat → Int32} {q : zRq}
end XWK3
section XWF
variable {Lf : xLT} {t p : Nat} {E S : Nat → Nat → Int32} {r : zRr} {q : zRq}
end XWF
end
section
/-! ===== judged: the loop ===== -/
noncomputable def xWo (w : Int32) : Prop := w = -1 ∨ ∃ i, i ≤ 1000 ∧ w = nI i
theorem xWo.nn {w : Int32} (h : xWo w) : (0 : Int32) ≤ w ↔ ¬ w = -1 := by
  rcases h with rfl | ⟨i, hi, rfl⟩
  · exact ⟨fun h => absurd h (by decide), fun h => absurd rfl h⟩
  · exact ⟨fun _ => nIm1 hi, fun _ => nI_leP (a := 0) (by omega) (by omega) (by omega)⟩
noncomputable def xLs (t p n : Nat) (r rm : zRr) : Prop := r 138 3 = nI n ∧ rm 25 0 = nI n ∧ ∀ k, k < n → r 139 k = rm 26 k ∧ (¬ r 139 k = 3 → r 140 k = rm 27 k) ∧ (r 139 k = 0 ∨ r 139 k = 1 → r 141 k = rm 28 k) ∧ xBd t p (r 139 k) (r 140 k) (r 141 k)
theorem xLs.fr {t p n : Nat} {r r1 rm rm1 : zRr} (h : xLs t p n r rm) (f : zFr [12, 13, 14, 15, 16, 17, 182] r r1) (g : zFr [15, 16, 17, 18, 19, 20, 21, 22, 23, 24, 32] rm rm1) : xLs t p n r1 rm1 := by
  unfold xLs at h ⊢
  rw [f 138 rfl, f 139 rfl, f 140 rfl, f 141 rfl, g 25 rfl, g 26 rfl, g 27 rfl, g 28 rfl]
  exact h
section XJL2
variable {Lf : xLT} {t p : Nat} {E : Nat → Nat → Int32} {q qm : zRq}
end XJL2
end
section
/-! ===== what holds between two calls: the tapes alike, the same LAND told, all as it is on either side ===== -/
noncomputable def lR (r : zRr) (q : zRq) (rm : zRr) (qm : zRq) : Prop := lT r rm ∧ (∃ t p, xHow t p r q rm qm) ∧ lM r rm ∧ lS r rm
section LR
variable {r r1 : zRr} {q : zRq} {rm rm1 : zRr} {qm qm1 : zRq}
theorem lR.w {M : List Nat} (h : lR r q rm qm) (fk : zFt r r1) (fm : zFr M rm rm1) (m32 : zRs rm rm1) (m152 : rm1 152 0 = 0) (hM : ([0, 1, 4, 5, 6, 7, 8, 9, 10, 11, 12, 25, 26, 27, 28, 29, 35, 36, 37, 101, 151].all fun k => !M.contains k) = true) : lR r1 q rm1 qm := by
  have g : ∀ a, [0, 1, 4, 5, 6, 7, 8, 9, 10, 11, 12, 25, 26, 27, 28, 29, 35, 36, 37, 101, 151].contains a = true → M.contains a = false := fun a ha => by
    have := List.all_eq_true.mp hM a (List.contains_iff_mem.mp ha)
    revert this
    cases M.contains a with
    | false => intro _; rfl
    | true => intro h; cases h
  obtain ⟨h1, ⟨t, p, h2⟩, h3, h4⟩ := h
  refine ⟨(h1.k ⟨fk 196 rfl, fk 197 rfl⟩).m (fm 0 (g 0 rfl)) (fm 101 (g 101 rfl)), ⟨t, p, h2.fr (fun a ha => fk a (zK3_in (by omega))) m32 m152 fm ?_⟩, h3.fr (fun k hk => fk _ (zK3_in (by omega))) (fm 37 (g 37 rfl)), h4.fr (fun k hk => fk _ (zK3_in (by omega))) (fm 29 (g 29 rfl))⟩
  rw [List.all_eq_true]
  intro a ha
  have ha : [1, 4, 5, 6, 7, 8, 9, 10, 11, 12, 25, 26, 27, 28, 35, 36, 37, 151].contains a = true := List.contains_iff_mem.mpr ha
  have : [0, 1, 4, 5, 6, 7, 8, 9, 10, 11, 12, 25, 26, 27, 28, 29, 35, 36, 37, 101, 151].contains a = true := by
    have h9 := List.contains_iff_mem.mp ha
    simp only [List.mem_cons, List.not_mem_nil, or_false] at h9
    rw [List.contains_iff_mem]
    simp only [List.mem_cons, List.not_mem_nil, or_false]
    omega
  rw [g a this]; rfl
theorem lR.z (h : lR r q rm qm) : rm 152 0 = 0 := by
  obtain ⟨_, ⟨_, _, h2⟩, _⟩ := h
  exact h2.2.2.2.2.2
theorem lR.s {M : List Nat} (h : lR r q rm qm) (fk : zFt r r1) (fm : zFr M rm rm1) (m32 : zRs rm rm1) (k152 : M.contains 152 = false) (hM : ([0, 1, 4, 5, 6, 7, 8, 9, 10, 11, 12, 25, 26, 27, 28, 29, 35, 36, 37, 101, 151].all fun k => !M.contains k) = true) : lR r1 q rm1 qm := h.w fk fm m32 (by rw [fm 152 k152]; exact h.z) hM
theorem lR.n (h : lR r q rm qm) (n : mNm qm qm1) : lR r q rm qm1 := by
  obtain ⟨h1, ⟨t, p, h2, h3⟩, h4⟩ := h
  exact ⟨h1, ⟨t, p, h2.fr ⟨fun _ _ _ => rfl, rfl, rfl⟩ (xLow.of rfl (fun _ _ _ => rfl) n.1 n.2), h3⟩, h4⟩
theorem mJ.fo (hM : mJ 20 rm) : ∀ j, j < 6 → zI 0 20 (rm 32 (13 + j)) := by
  intro j hj
  rcases (show j = 0 ∨ j = 1 ∨ j = 2 ∨ j = 3 ∨ j = 4 ∨ j = 5 by omega) with rfl | rfl | rfl | rfl | rfl | rfl
  · exact hM.i 32 13
  · exact hM.i 32 14
  · exact hM.i 32 15
  · exact hM.i 32 16
  · exact hM.i 32 17
  · exact hM.i 32 18
/-- what is asked: the standing is back as it was -/
theorem lR.sJ {a : Int32} {um : Int32 × zRr} (em : um = Gm_judged a rm qm) (h : lR r q rm qm) : zRs rm um.2 := by
  obtain ⟨_, ⟨t, p, h2⟩, _⟩ := h
  obtain ⟨n, hn, _, h25, _⟩ := h2.2.2.2.2.1
  rw [em]; exact rs_judged h25 hn h2.1.2.1.2.1 h2.le.2
theorem lR.sN {a b : Int32} {um : Int32 × zRr} (em : um = Gm_need a b rm qm) (hM : mJ 20 rm) (h : lR r q rm qm) : zRs rm um.2 := by
  obtain ⟨_, ⟨t, p, h2⟩, _⟩ := h
  rw [em]; exact rs_need h2.1.2.1.2.1 h2.le.2 hM.fo
theorem lR.sD {a b : Int32} {um : Int32 × zRr} (em : um = Gm_debt a b rm qm) (hM : mJ 20 rm) (h : lR r q rm qm) : zRs rm um.2 := by
  obtain ⟨_, ⟨t, p, h2⟩, _⟩ := h
  rw [em]; exact rs_debt h2.1.2.1.2.1 h2.le.2 hM.fo
theorem lR.sC {a : Int32} {um : Int32 × zRr} (em : um = Gm_cheapest a rm qm) (hM : mJ 20 rm) (h : lR r q rm qm) : zRs rm um.2 := by
  obtain ⟨_, ⟨t, p, h2⟩, _⟩ := h
  rw [em]; exact rs_cheapest h2.1.2.1.2.1 h2.le.2 hM.fo
theorem lR.sT {a b : Int32} {um : Int32 × zRr} (em : um = Gm_stricter a b rm qm) (h : lR r q rm qm) : um.2 152 0 = 0 := by
  have h0 := h.z
  obtain ⟨_, ⟨t, p, h2⟩, _⟩ := h
  rw [em]; exact rs_stricter h0 h2.1.2.1.2.1 h2.le.2
/-- a move -/
theorem lR.mv {M : List Nat} {u um : Int32 × zRr} (h : lR r q rm qm) (k : ∀ t p, xHow t p r q rm qm → u.1 = um.1 ∧ xHow t p u.2 q um.2 qm ∧ xK1 r u.2) (fm : zFr M rm um.2) (hM : ([0, 29, 37, 101].all fun k => !M.contains k) = true) : u.1 = um.1 ∧ lR u.2 q um.2 qm := by
  have g : ∀ a, [0, 29, 37, 101].contains a = true → M.contains a = false := fun a ha => by
    have := List.all_eq_true.mp hM a (List.contains_iff_mem.mp ha)
    revert this
    cases M.contains a with
    | false => intro _; rfl
    | true => intro h; cases h
  obtain ⟨h1, ⟨t, p, h2⟩, h3, h4⟩ := h
  obtain ⟨k1, k2, k3⟩ := k t p h2
  exact ⟨k1, (h1.k ⟨k3 196 (by omega) (by omega) (by omega), k3 197 (by omega) (by omega) (by omega)⟩).m (fm 0 (g 0 rfl)) (fm 101 (g 101 rfl)), ⟨t, p, k2⟩, h3.fr (fun k hk => k3 _ (by omega) (by omega) (by omega)) (fm 37 (g 37 rfl)), h4.fr (fun k hk => k3 _ (by omega) (by omega) (by omega)) (fm 29 (g 29 rfl))⟩
theorem lR.go {a b : Int32} {M : List Nat} {u um : Int32 × zRr} (e : u = Gk_go a b r q) (em : um = Gm_go a b rm qm) (h : lR r q rm qm) (fm : zFr M rm um.2) (hM : ([0, 29, 37, 101].all fun k => !M.contains k) = true) : u.1 = um.1 ∧ lR u.2 q um.2 qm :=
  h.mv (fun t p k => by rw [e, em]; exact xGoW k) fm hM
theorem lR.forge {a b : Int32} {M : List Nat} {u um : Int32 × zRr} (e : u = Gk_forge a b r q) (em : um = Gm_forge a b rm qm) (hJ : mJ 20 rm) (h : lR r q rm qm) (fm : zFr M rm um.2) (hM : ([0, 29, 37, 101].all fun k => !M.contains k) = true) : u.1 = um.1 ∧ lR u.2 q um.2 qm :=
  h.mv (fun t p k => by rw [e, em]; exact xFgW k hJ.fo) fm hM
theorem lR.shave {a : Int32} {M : List Nat} {u um : Int32 × zRr} (e : u = Gk_shave a r q) (em : um = Gm_shave a rm qm) (h : lR r q rm qm) (fm : zFr M rm um.2) (hM : ([0, 29, 37, 101].all fun k => !M.contains k) = true) : u.1 = um.1 ∧ lR u.2 q um.2 qm :=
  h.mv (fun t p k => by rw [e, em]; exact xShW k) fm hM
theorem lR.week {M : List Nat} {u um : Int32 × zRr} (e : u = Gk_week r q) (em : um = Gm_week rm qm) (h : lR r q rm qm) (fm : zFr M rm um.2) (hM : ([0, 29, 37, 101].all fun k => !M.contains k) = true) : u.1 = um.1 ∧ lR u.2 q um.2 qm :=
  h.mv (fun t p k => by rw [e, em]; exact xWkW k) fm hM
theorem lR.undo {M : List Nat} {u um : Int32 × zRr} (e : u = Gk_undo r q) (em : um = Gm_undo rm qm) (h : lR r q rm qm) (fm : zFr M rm um.2) (hM : ([0, 29, 37, 101].all fun k => !M.contains k) = true) : u.1 = um.1 ∧ lR u.2 q um.2 qm :=
  h.mv (fun t p k => by rw [e, em]; exact xUnW k) fm hM
theorem lR.land {B : Int} {u um : Int32 × zRr × zRq} (e : u = Gk_land r q) (em : um = Gm_land rm qm) (hM : mJ B rm) (h : lR r q rm qm) (z : u.2.1 196 1 = 0) (zm : um.2.1 101 0 = 0) : u.1 = um.1 ∧ lR u.2.1 u.2.2 um.2.1 um.2.2 := by
  obtain ⟨h1, ⟨t, p, h2⟩, h3, h4⟩ := h
  have hp := h1.p hM
  have k := xLandM (q := q) (qm := qm) hp h3 h4
  refine ⟨by rw [e, em]; exact xLandA hp, lT.z z zm, ?_, ?_⟩
  · rw [e, em]; exact xLandW hp h2
  · rw [e, em]; exact k
theorem xJourF {L t p : Nat} (h : xTp L r rm) (hD : xTd t p r q rm qm) {a : Nat} (h1 : 146 ≤ a) (h2 : a ≠ 196) : (Gk_journey r q).2.1 a = r a := by
  obtain ⟨⟨hk, k⟩, _⟩ := xjourney h hD
  unfold Gk_journey
  generalize Gk_readJ r q = o at hk k ⊢
  obtain ⟨v, r3, q4⟩ := o
  have hk : xJk (xRj r) q r3 q4 := hk
  have e3 : r3 a = r a := by
    rw [hk.1 a ?_]
    · show xs (xs (xs r 142 3 0) 196 3 0) 196 7 0 a = r a
      unfold xs
      rw [zset_ne h2, zset_ne h2, zset_ne (by omega)]
    · cases e : [142, 143, 144, 145, 196].contains a with
      | false => rfl
      | true =>
        have := List.contains_iff_mem.mp e
        simp only [List.mem_cons, List.not_mem_nil, or_false] at this
        omega
  rw [xcvrq (r := r3)]
  simp only [zletQ, zifnQ]
  by_cases hv : v = 0
  · rw [if_pos hv]
    show zset r3 196 (upd (r3 196) 1 0) a = r a
    rw [zset_ne h2]; exact e3
  · rw [if_neg hv]
    show kcp1 (zset r3 196 (upd (r3 196) 1 0)) 138 142 a = r a
    rw [kcp1_o (by omega), zset_ne h2]; exact e3
theorem lR.jour {B : Int} {M : List Nat} {u um : Int32 × zRr × zRq} (e : u = Gk_journey r q) (em : um = Gm_journey rm qm) (hM : mJ B rm) (h : lR r q rm qm) (z : u.2.1 196 1 = 0) (zm : um.2.1 101 0 = 0) (f : zFr M rm um.2.1) (h3 : M.contains 29 = false) (h4 : M.contains 37 = false) : u.1 = um.1 ∧ lR u.2.1 u.2.2 um.2.1 um.2.2 := by
  obtain ⟨g1, ⟨t, p, g2⟩, g3, g4⟩ := h
  have k := xJourW (g1.p hM) g2
  have kf : ∀ a, 146 ≤ a → a ≠ 196 → u.2.1 a = r a := fun a a1 a2 => by rw [e]; exact xJourF (g1.p hM) g2.1 a1 a2
  refine ⟨by rw [e, em]; exact k.1, lT.z z zm, ⟨t, p, by rw [e, em]; exact k.2⟩, g3.fr (fun k hk => kf _ (by omega) (by omega)) (f 37 h4), g4.fr (fun k hk => kf _ (by omega) (by omega)) (f 29 h3)⟩
theorem xMarkF {a b : Int32} {c : Nat} (h1 : 171 ≤ c) (h2 : c ≠ 195) : (Gk_mark a b r q).2 c = r c := by
  by_cases h0 : a < 0
  · unfold Gk_mark; rw [zifQ, if_pos h0]
  by_cases h4 : a < 4
  · obtain ⟨k, hk, ea⟩ : ∃ k, k < 4 ∧ a = nI k := by
      have hz : zI 0 3 a := by
        rw [Int32.lt_iff_toInt_lt] at h0 h4
        have c0 : (0 : Int32).toInt = 0 := by decide
        have c4 : (4 : Int32).toInt = 4 := by decide
        exact ⟨by omega, by omega⟩
      obtain ⟨e1, e2⟩ := hz.ix (n := 4) (by decide)
      exact ⟨_, e2, e1⟩
    subst ea
    rw [xmarkK hk]
    by_cases hb : b = 0
    · rw [if_pos hb]
      show xLay k r c = r c
      unfold xLay
      rw [zset_ne (by omega), zset_ne (by omega), kcp1_o (by omega), kcp8_o (by omega)]
    · rw [if_neg hb]
      by_cases hz : r (167 + k) 3 = 0
      · rw [if_pos hz]
      · rw [if_neg hz]
        show xBack k r q c = r c
        unfold xBack Gk_forgetPast
        simp only [zletQ]
        rw [zset_ne h2, zset_ne h2, zset_ne (by omega), kcp1_o (by omega), kcp8_o (by omega)]
  · unfold Gk_mark
    simp only [zifQ, if_neg h0, if_neg h4]
theorem lR.mark {a b : Int32} {u um : Int32 × zRr} (e : u = Gk_mark a b r q) (em : um = Gm_mark a b rm qm) (h : lR r q rm qm) (f : zFr [100, 37, 25, 26, 27, 28, 29, 30, 31, 32, 151, 35] rm um.2) : u.1 = um.1 ∧ lR u.2 q um.2 qm := by
  obtain ⟨g1, ⟨t, p, g2⟩, g3, g4⟩ := h
  obtain ⟨k1, k2, k3⟩ := xMark (a := a) (b := b) (q := q) (qm := qm) g3 g4
  have kf : ∀ c, 171 ≤ c → c ≠ 195 → u.2 c = r c := fun c c1 c2 => by rw [e]; exact xMarkF c1 c2
  have kw := xMarkW (a := a) (b := b) (q := q) (qm := qm) g3 g4 g2
  rw [← e, ← em] at k1 k2 k3 kw
  exact ⟨k1, (g1.k ⟨kf 196 (by omega) (by omega), kf 197 (by omega) (by omega)⟩).m (f 0 rfl) (f 101 rfl), ⟨t, p, kw ⟨k1, kf⟩ f⟩, k2, k3⟩
theorem lR.see {a b : Int32} {B : Int} {u um : Int32 × zRr} (e : u = Gk_see a b r q) (em : um = Gm_see a b rm qm) (hM : mJ B rm) (h : lR r q rm qm) : u.1 = um.1 ∧ lR u.2 q um.2 qm := by
  obtain ⟨g1, ⟨t, p, g2⟩, g3, g4⟩ := h
  obtain ⟨k1, k2, k3, k4⟩ := xSee (a := a) (b := b) g2.1 g4 (show zI 0 8 (rm 29 0) from hM.i 29 0)
  rw [← e] at k1 k2 k4
  rw [← em] at k1 k3 k4
  have kf : ∀ a, a ≠ 162 → a ≠ 182 → u.2 a = r a := fun a a1 a2 => k2 a (by
    cases e : [162, 182].contains a with
    | false => rfl
    | true =>
      have := List.contains_iff_mem.mp e
      simp only [List.mem_cons, List.not_mem_nil, or_false] at this
      omega)
  refine ⟨k1, (g1.k ⟨kf 196 (by omega) (by omega), kf 197 (by omega) (by omega)⟩).m (k3 0 (by decide)) (k3 101 (by decide)), ⟨t, p, ?_⟩, g3.fr (fun k hk => kf _ (by omega) (by omega)) (k3 37 (by decide)), k4⟩
  exact (xHow.see g2 kf k3)
end LR
theorem lR.q {r r1 : zRr} {q : zRq} {rm rm1 : zRr} {qm : zRq} {M : List Nat} (h : lR r q rm qm) (fk : zFt r r1) (fm : zFr M rm rm1) (k32 : M.contains 32 = false) (k152 : M.contains 152 = false) (hM : ([0, 1, 4, 5, 6, 7, 8, 9, 10, 11, 12, 25, 26, 27, 28, 29, 35, 36, 37, 101, 151].all fun k => !M.contains k) = true) : lR r1 q rm1 qm := h.w fk fm (fun i _ => by rw [fm 32 k32]) (by rw [fm 152 k152]; exact h.z) hM
end
