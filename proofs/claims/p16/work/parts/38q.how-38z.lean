section
/-! ===== how it is, all of it, on both sides ===== -/
noncomputable def sL (r : zRr) : xLT := fun a1 a2 a3 a4 => (Gk_passes a1 a2 a3 a4 r (fun _ _ => 0)).1
noncomputable def sE (r : zRr) : Nat → Nat → Int32 := fun k => if k = 0 then r 172 else if k = 1 then r 173 else if k = 2 then r 175 else if k = 3 then (fun i => if i = 0 then r 171 11 else r 171 12) else if k = 4 then r 176 else if k = 5 then r 177 else r 178
noncomputable def xHow (t p : Nat) (r : zRr) (q : zRq) (rm : zRr) (qm : zRq) : Prop := xTd t p r q rm qm ∧ xSt t p 6 r (rm 32) ∧ xPs t p r rm ∧ xMr t p r rm ∧ xPl t p 138 0 r rm ∧ rm 152 0 = 0
section XHW
variable {t p : Nat} {r r1 rm rm1 : zRr} {q q1 qm qm1 : zRq}
theorem xLw.eq (h : xLw r rm) (e1 : r1 180 = r 180) (e2 : r1 181 = r 181) (m1 : rm1 10 = rm 10) (m2 : rm1 11 = rm 11) (m3 : rm1 12 = rm 12) : xLw r1 rm1 := by
  unfold xLw at h ⊢
  rw [e1, e2, m1, m2, m3]; exact h
theorem xCe.of (hD : xTd t p r q rm qm) : xCe (sL r) t p (sE r) r ∧ xMe (sL r) t p (sE r) (rm 152 0) rm ∧ xCh t p (sE r) r ∧ xMh t p (sE r) rm := by
  obtain ⟨⟨a1, a2, a3⟩, ⟨b1, b2, b3⟩, ⟨c1, c2⟩, d, e, f⟩ := hD
  refine ⟨⟨⟨a1, b1, rfl, rfl⟩, ⟨a3, b3⟩, fun i hi => ⟨rfl, rfl⟩, fun j hj => rfl, fun r1 k1 k2 x1 x2 x3 x4 q1 => ?_⟩, ⟨⟨a2, b2, c1.symm, c2.symm⟩, ⟨a3, b3⟩, fun i hi => ⟨(d i hi).1.symm, (d i hi).2.1.1.symm⟩, fun j hj => (e j hj).1.symm, rfl, fun r1 k1 k2 k3 x1 x2 x3 q1 => ?_⟩, fun j hj => ⟨(e j hj).2.1.2, rfl, rfl, rfl⟩, fun j hj => ⟨(e j hj).2.1.2, (e j hj).2.1.1.symm, (e j hj).2.2.1.symm, (e j hj).2.2.2.1.symm⟩⟩
  · have e4 : zset rm 32 (fun _ => x4) 32 0 = x4 := by rw [zset_eq]
    have hL1 : xLw r1 (zset rm 32 (fun _ => x4)) := f.eq k1 k2 rfl rfl rfl
    have hL0 : xLw r (zset rm 32 (fun _ => x4)) := f.eq rfl rfl rfl rfl rfl
    obtain ⟨v1, f1, _⟩ := xLawV (a1 := x1) (a2 := x2) (a3 := x3) (q := q1) (qm := fun _ _ => 0) hL1
    obtain ⟨v0, _, _⟩ := xLawV (a1 := x1) (a2 := x2) (a3 := x3) (q := fun _ _ => 0) (qm := fun _ _ => 0) hL0
    rw [e4] at v1 f1 v0
    exact ⟨v1.trans v0.symm, f1⟩
  · have hL : xLw r r1 := f.eq rfl rfl k1 k2 k3
    obtain ⟨v, _, g⟩ := xLawV (a1 := x1) (a2 := x2) (a3 := x3) (q := fun _ _ => 0) (qm := q1) hL
    exact ⟨v.symm, g⟩
theorem xHow.le (h : xHow t p r q rm qm) : t ≤ 6 ∧ p ≤ 6 := ⟨h.1.1.2.2, h.1.2.1.2.2⟩
theorem xHow.fr {M : List Nat} (h : xHow t p r q rm qm) (k : ∀ a, (6 ≤ a ∧ a < 12) ∨ (18 ≤ a ∧ a < 142) ∨ (146 ≤ a ∧ a < 182) ∨ a = 195 → r1 a = r a) (m32 : zRs rm rm1) (m152 : rm1 152 0 = 0) (m : zFr M rm rm1) (hM : ([1, 4, 5, 6, 7, 8, 9, 10, 11, 12, 25, 26, 27, 28, 35, 36, 37, 151].all fun k => !M.contains k) = true) : xHow t p r1 q rm1 qm := by
  have hp := h.le.2
  have g : ∀ a, [1, 4, 5, 6, 7, 8, 9, 10, 11, 12, 25, 26, 27, 28, 35, 36, 37, 151].contains a = true → rm1 a = rm a := fun a ha => m a (by
    have := List.all_eq_true.mp hM a (List.contains_iff_mem.mp ha)
    revert this
    cases M.contains a with
    | false => intro _; rfl
    | true => intro h; cases h)
  obtain ⟨hD, h6, hP, hR, hL, h0⟩ := h
  have g26 : ∀ c, 26 ≤ c → c ≤ 28 → rm1 c = rm c := fun c c1 c2 => by
    rcases (show c = 26 ∨ c = 27 ∨ c = 28 by omega) with rfl | rfl | rfl <;> exact g _ rfl
  have g4 : ∀ c, 4 ≤ c → c ≤ 12 → rm1 c = rm c := fun c c1 c2 => by
    rcases (show c = 4 ∨ c = 5 ∨ c = 6 ∨ c = 7 ∨ c = 8 ∨ c = 9 ∨ c = 10 ∨ c = 11 ∨ c = 12 by omega) with rfl | rfl | rfl | rfl | rfl | rfl | rfl | rfl | rfl <;> exact g _ rfl
  refine ⟨hD.fr ⟨fun a h1 h2 => k a (by omega), rfl, rfl⟩ (xLow.of (g 1 rfl) g4 rfl rfl), h6.eq hp (fun i hi => k _ (by omega)) m32, hP.fr hp (fun a h1 h2 => k a (by omega)) (k 195 (by omega)) (g 36 rfl) (by rw [g 151 rfl]), hR.fr hp (fun a h1 h2 h3 => k a (by omega)) (g 35 rfl) (g 37 rfl) (fun o _ _ => by rw [g 25 rfl]) (fun c i c1 c2 _ _ => by rw [g26 c c1 c2]), hL.fr (fun i hi => k _ (by omega)) (by rw [g 25 rfl]) (fun c i c1 c2 _ => by rw [g26 c c1 c2]), m152⟩
theorem xHow.f182 (h : xHow t p r q rm qm) (k : zFr [182] r r1) (m : zFr [15, 16, 17, 18, 19, 20, 21, 22, 23, 24, 100] rm rm1) : xHow t p r1 q rm1 qm := by
  refine h.fr (fun a ha => k a ?_) (fun i _ => by rw [m 32 rfl]) (by rw [m 152 rfl]; exact h.2.2.2.2.2) m (by decide)
  cases e : [182].contains a with
  | false => rfl
  | true =>
    have := List.contains_iff_mem.mp e
    simp only [List.mem_cons, List.not_mem_nil, or_false] at this
    omega
theorem xHow.z100 (h : xHow t p r q rm qm) : xHow t p r q (zset rm 100 (fun _ => 0)) qm := h.f182 zFr.refl (zFr.refl.set rfl)
/-- before a change: what is now is kept -/
theorem xHow.rem (h : xHow t p r q rm qm) : ∃ S, (xCs t p 6 S r ∧ xMs t p S (rm 32)) ∧ xCs t p 6 S (Gk_remember r q) ∧ xMs t p S (Gm_keeps rm qm 32) ∧ xZr t p (Gm_keeps rm qm 32) := by
  have hp := h.le.2
  obtain ⟨hD, h6, hP, _⟩ := h
  obtain ⟨q1, q2, q3⟩ := xRem (q := q) (qm := qm) h6 hP hp
  obtain ⟨S, s1, s2, s3⟩ := h6
  exact ⟨S, ⟨s1, s2⟩, s1.eq (fun i hi => q2 _ (by omega) (by omega)), s2.fr (q3 32 rfl), by rw [q3 32 rfl]; exact s3⟩
theorem xHow.mv (h : xHow t p r q rm qm) (k : ∀ a, 12 ≤ a → r1 a = Gk_remember r q a) (m : zFr [32] (Gm_keeps rm qm) rm1) (hS : xSt t p 6 r1 (rm1 32)) : xHow t p r1 q rm1 qm := by
  have hp := h.le.2
  obtain ⟨hD, h6, hP, hR, hL, h0⟩ := h
  obtain ⟨q1, q2, q3⟩ := xRem (q := q) (qm := qm) h6 hP hp
  have g : zFr [32, 36, 151] rm rm1 := (q3.up (by decide)).tr m (by decide)
  have k' : ∀ a, 114 ≤ a → a ≠ 195 → r1 a = r a := fun a a1 a2 => (k a (by omega)).trans (q2 a (by omega) a2)
  have g26 : ∀ c, 26 ≤ c → c ≤ 28 → rm1 c = rm c := fun c c1 c2 => by
    rcases (show c = 26 ∨ c = 27 ∨ c = 28 by omega) with rfl | rfl | rfl <;> exact g _ rfl
  refine ⟨hD.fr ⟨fun a h1 h2 => k' a (by omega) (by omega), rfl, rfl⟩ (xLow.of_ g rfl (by decide)), hS, q1.fr hp (fun a a1 a2 => k a (by omega)) (k 195 (by omega)) (m 36 rfl) (by rw [m 151 rfl]), hR.fr hp (fun a h1 h2 h3 => k' a (by omega) (by omega)) (g 35 rfl) (g 37 rfl) (fun o _ _ => by rw [g 25 rfl]) (fun c i c1 c2 _ _ => by rw [g26 c c1 c2]), hL.fr (fun i hi => k' _ (by omega) (by omega)) (by rw [g 25 rfl]) (fun c i c1 c2 _ => by rw [g26 c c1 c2]), by rw [g 152 rfl]; exact h0⟩
theorem xFrHi {M : List Nat} (f : zFr M r r1) (h : (M.all fun k => Nat.ble k 11) = true) : ∀ a, 12 ≤ a → r1 a = r a := fun a ha => f a (by
  cases e : M.contains a with
  | false => rfl
  | true =>
    have := Nat.le_of_ble_eq_true (List.all_eq_true.mp h a (List.contains_iff_mem.mp e))
    omega)
theorem xHow.isP (h : xHow t p r q rm qm) (a : Int32) : Gk_isPerson a r q = Gm_isPerson a (zset rm 100 (fun _ => 0)) qm := xPersK (h.1.2.1.1.trans h.1.2.1.2.1.symm)
theorem xHow.isT (h : xHow t p r q rm qm) (a : Int32) : Gk_isTown a r q = Gm_isTown a (zset rm 100 (fun _ => 0)) qm := xTownK (h.1.1.1.trans h.1.1.2.1.symm)
theorem xHow.pI (h : xHow t p r q rm qm) {a : Int32} (c : ¬ Gm_isPerson a (zset rm 100 (fun _ => 0)) qm = 0) : ∃ j, j < p ∧ a = nI j := xPersI (p := p) c h.1.2.1.2.1 h.le.2
theorem xHow.tI (h : xHow t p r q rm qm) {a : Int32} (c : ¬ Gm_isTown a (zset rm 100 (fun _ => 0)) qm = 0) : ∃ j, j < t ∧ a = nI j := xTownI (t := t) c h.1.1.2.1 h.le.1
theorem xHow.E (h : xHow t p r q rm qm) : xCe (sL r) t p (sE r) r ∧ xMe (sL r) t p (sE r) 0 rm := by
  obtain ⟨k1, k2, _⟩ := xCe.of h.1
  rw [h.2.2.2.2.2] at k2
  exact ⟨k1, k2⟩
/-- what a move leaves -/
noncomputable def xK1 (r r1 : zRr) : Prop := ∀ a, 114 ≤ a → a ≠ 182 → a ≠ 195 → r1 a = r a
theorem xK1.refl : xK1 r r := fun _ _ _ _ => rfl
theorem xK1.of (f : zFr [182] r r1) : xK1 r r1 := fun a a1 a2 _ => f a (by
  cases e : [182].contains a with
  | false => rfl
  | true =>
    have := List.contains_iff_mem.mp e
    simp only [List.mem_cons, List.not_mem_nil, or_false] at this
    omega)
theorem xHow.k1 (h : xHow t p r q rm qm) (k : ∀ a, 12 ≤ a → r1 a = Gk_remember r q a) : xK1 r r1 := by
  obtain ⟨_, q2, _⟩ := xRem (q := q) (qm := qm) h.2.1 h.2.2.1 h.le.2
  exact fun a a1 a2 a3 => (k a (by omega)).trans (q2 a (by omega) a3)
theorem xK1.tr {r2 : zRr} (h : xK1 r r1) (k : xK1 r1 r2) : xK1 r r2 := fun a a1 a2 a3 => (k a a1 a2 a3).trans (h a a1 a2 a3)
/-- go -/
theorem xGoW {a b : Int32} (h : xHow t p r q rm qm) : (Gk_go a b r q).1 = (Gm_go a b rm qm).1 ∧ xHow t p (Gk_go a b r q).2 q (Gm_go a b rm qm).2 qm ∧ xK1 r (Gk_go a b r q).2 := by
  have h1 := h.z100
  unfold Gk_go Gm_go
  simp only [zletQ, zifQ, zifnQ]
  rw [h.isP a, h.isT b]
  by_cases c1 : Gm_isPerson a (zset rm 100 (fun _ => 0)) qm = 0
  · rw [if_pos c1, if_pos c1]; exact ⟨rfl, h1, xK1.refl⟩
  rw [if_neg c1, if_neg c1]
  by_cases c2 : Gm_isTown b (zset rm 100 (fun _ => 0)) qm = 0
  · rw [if_pos c2, if_pos c2]; exact ⟨rfl, h1, xK1.refl⟩
  rw [if_neg c2, if_neg c2]
  obtain ⟨j, hj, ea⟩ := h.pI c1
  obtain ⟨i, hi, eb⟩ := h.tI c2
  subst ea
  subst eb
  obtain ⟨hE, hE'⟩ := h1.E
  obtain ⟨S, s1, s2, _⟩ := h1.2.1
  obtain ⟨r3, f3, e3⟩ := kGoN (q := q) hE s1 hj hi
  obtain ⟨m3, g3, k3⟩ := mGo (q := qm) hE' s2 hj hi
  have h3 : xHow t p r3 q m3 qm := h1.f182 f3 (g3.up (by decide))
  rw [e3, k3, xcvr (r := r3), xcvr (r := m3)]
  by_cases c3 : sGo (sL r) p (sE r) S 0 j i = 0
  · rw [if_pos c3, if_pos c3]; exact ⟨rfl, h3, xK1.of f3⟩
  · rw [if_neg c3, if_neg c3]
    obtain ⟨S3, _, u1, u2, u3⟩ := h3.rem
    obtain ⟨v1, v2⟩ := kMvN (q := q) u1 hj h3.le.2 hi
    obtain ⟨w1, w2, w3⟩ := mMv (r := Gm_keeps m3 qm) (q := qm) u2 u3 hj h3.le.2 hi
    exact ⟨rfl, h3.mv (xFrHi v2 rfl) w3 ⟨_, v1, w1, w2⟩, (xK1.of f3).tr (h3.k1 (xFrHi v2 rfl))⟩
/-- shave -/
theorem xShW {a : Int32} (h : xHow t p r q rm qm) : (Gk_shave a r q).1 = (Gm_shave a rm qm).1 ∧ xHow t p (Gk_shave a r q).2 q (Gm_shave a rm qm).2 qm ∧ xK1 r (Gk_shave a r q).2 := by
  have h1 := h.z100
  unfold Gk_shave Gm_shave
  simp only [zletQ, zifnQ]
  rw [h.isP a]
  by_cases c1 : Gm_isPerson a (zset rm 100 (fun _ => 0)) qm = 0
  · rw [if_pos c1, if_pos c1]; exact ⟨rfl, h1, xK1.refl⟩
  rw [if_neg c1, if_neg c1]
  obtain ⟨j, hj, ea⟩ := h.pI c1
  subst ea
  obtain ⟨S3, _, u1, u2, u3⟩ := h1.rem
  obtain ⟨v1, v2⟩ := kRzN (q := q) u1 hj h1.le.2
  obtain ⟨w1, w2, w3⟩ := mRz (r := Gm_keeps (zset rm 100 (fun _ => 0)) qm) (q := qm) u2 u3 hj h1.le.2
  exact ⟨rfl, h1.mv (xFrHi v2 rfl) w3 ⟨_, v1, w1, w2⟩, h1.k1 (xFrHi v2 rfl)⟩
theorem xCe.rem {Lf : xLT} {E : Nat → Nat → Int32} {n : Nat} (h : xCe Lf t p E r) (k : ∀ a, 114 ≤ a → a ≠ 195 → r1 a = r a) : xCe Lf t p E r1 := by
  obtain ⟨h1, h3, h4, h5, h6⟩ := h
  refine ⟨by rw [k 171 (by omega) (by omega)]; exact h1, h3, fun i hi => ?_, fun j hj => ?_, fun r2 k1 k2 => h6 r2 (by rw [k1, k 180 (by omega) (by omega)]) (by rw [k2, k 181 (by omega) (by omega)])⟩
  · rw [k 172 (by omega) (by omega), k 173 (by omega) (by omega)]; exact h4 i hi
  · rw [k 175 (by omega) (by omega)]; exact h5 j hj
/-- week -/
theorem xWkW (h : xHow t p r q rm qm) : (Gk_week r q).1 = (Gm_week rm qm).1 ∧ xHow t p (Gk_week r q).2 q (Gm_week rm qm).2 qm ∧ xK1 r (Gk_week r q).2 := by
  have h1 := h.z100
  have hp := h.le.2
  unfold Gk_week Gm_week
  simp only [zletQ]
  obtain ⟨S3, _, u1, u2, u3⟩ := h1.rem
  obtain ⟨q1, q2, q3⟩ := xRem (q := q) (qm := qm) h1.2.1 h1.2.2.1 hp
  obtain ⟨hE, hE'⟩ := h1.E
  have hE2 : xCe (sL r) t p (sE r) (Gk_remember r q) := hE.rem (n := 0) (fun a a1 a2 => q2 a (by omega) a2)
  have hE3 : xMe (sL r) t p (sE r) 0 (Gm_keeps (zset rm 100 (fun _ => 0)) qm) := hE'.fr q3 (by decide)
  obtain ⟨v1, v2⟩ := kWkN (q := q) hE2 u1
  obtain ⟨w1, w2, w3⟩ := mWk (q := qm) hE3 u2 u3
  exact ⟨v1.1.trans w1.1.symm, h1.mv (xFrHi v2 rfl) w3 ⟨_, v1, w1, w2⟩, h1.k1 (xFrHi v2 rfl)⟩
/-- undo -/
theorem xUnW (h : xHow t p r q rm qm) : (Gk_undo r q).1 = (Gm_undo rm qm).1 ∧ xHow t p (Gk_undo r q).2 q (Gm_undo rm qm).2 qm ∧ xK1 r (Gk_undo r q).2 := by
  have hp := h.le.2
  obtain ⟨hD, h6, hP, hR, hL, h0⟩ := h
  obtain ⟨k1, k2, k3, k4, k5⟩ := xUn (q := q) (qm := qm) h6 hP hp
  have g26 : ∀ c, 26 ≤ c → c ≤ 28 → (Gm_undo rm qm).2 c = rm c := fun c c1 c2 => by
    rcases (show c = 26 ∨ c = 27 ∨ c = 28 by omega) with rfl | rfl | rfl <;> exact k5 _ rfl
  exact ⟨k1, ⟨hD.fr ⟨fun a h1 h2 => k4 a (by omega) (by omega), rfl, rfl⟩ (xLow.of_ k5 rfl (by decide)), k2, k3, hR.fr hp (fun a h1 h2 h3 => k4 a (by omega) (by omega)) (k5 35 rfl) (k5 37 rfl) (fun o _ _ => by rw [k5 25 rfl]) (fun c i c1 c2 _ _ => by rw [g26 c c1 c2]), hL.fr (fun i hi => k4 _ (by omega) (by omega)) (by rw [k5 25 rfl]) (fun c i c1 c2 _ => by rw [g26 c c1 c2]), by rw [k5 152 rfl]; exact h0⟩, fun a a1 _ a3 => k4 a (by omega) a3⟩
end XHW
section XFG
variable {t p : Nat} {r rm : zRr} {q qm : zRq}
theorem xFgC {K fo pu inch v : Int32} (hf : zI 0 20 fo) : (if K = 1 then (0 : Int32) else if v < 1 then 0 else if 20 - fo < v then 0 else if pu < v * inch then 0 else 1) = if v < 1 then 0 else if 20 < v then 0 else if K = 1 then 0 else if pu < v * inch then 0 else if 20 < fo + v then 0 else 1 := by
  have c1 : (1 : Int32).toInt = 1 := by decide
  have c20 : (20 : Int32).toInt = 20 := by decide
  have f1 := hf.1
  have f2 := hf.2
  have es : (20 - fo).toInt = 20 - fo.toInt := by
    rw [Jvm.Kit.i32_sub (by rw [c20]; omega) (by rw [c20]; omega), c20]
  by_cases h1 : v < 1
  · rw [if_pos h1, if_pos h1]
    by_cases hk : K = 1
    · rw [if_pos hk]
    · rw [if_neg hk]
  · rw [if_neg h1, if_neg h1]
    by_cases h2 : 20 < v
    · have h3 : 20 - fo < v := by
        rw [Int32.lt_iff_toInt_lt] at h2 ⊢
        rw [c20] at h2
        omega
      rw [if_pos h2, if_pos h3]
      by_cases hk : K = 1
      · rw [if_pos hk]
      · rw [if_neg hk]
    · rw [if_neg h2]
      have v1 : 1 ≤ v.toInt := by rw [Int32.lt_iff_toInt_lt, c1] at h1; omega
      have v2 : v.toInt ≤ 20 := by rw [Int32.lt_iff_toInt_lt, c20] at h2; omega
      have ea : (fo + v).toInt = fo.toInt + v.toInt := Jvm.Kit.i32_add (by omega) (by omega)
      have e : (20 - fo < v) ↔ (20 < fo + v) := by
        rw [Int32.lt_iff_toInt_lt, Int32.lt_iff_toInt_lt, es, ea, c20]
        omega
      by_cases hk : K = 1
      · rw [if_pos hk, if_pos hk]
      · rw [if_neg hk, if_neg hk]
        by_cases h3 : 20 - fo < v
        · rw [if_pos h3]
          by_cases h4 : pu < v * inch
          · rw [if_pos h4]
          · rw [if_neg h4, if_pos (e.mp h3)]
        · rw [if_neg h3]
          by_cases h4 : pu < v * inch
          · rw [if_pos h4, if_pos h4]
          · rw [if_neg h4, if_neg h4, if_neg (fun h => h3 (e.mpr h))]
/-- forge -/
theorem xFgW {a b : Int32} (h : xHow t p r q rm qm) (hf : ∀ j, j < 6 → zI 0 20 (rm 32 (13 + j))) : (Gk_forge a b r q).1 = (Gm_forge a b rm qm).1 ∧ xHow t p (Gk_forge a b r q).2 q (Gm_forge a b rm qm).2 qm ∧ xK1 r (Gk_forge a b r q).2 := by
  have h1 := h.z100
  have hp := h.le.2
  unfold Gk_forge Gm_forge
  simp only [zletQ, zifQ, zifnQ]
  rw [h.isP a]
  by_cases c1 : Gm_isPerson a (zset rm 100 (fun _ => 0)) qm = 0
  · rw [if_pos c1, if_pos c1]; exact ⟨rfl, h1, xK1.refl⟩
  rw [if_neg c1, if_neg c1]
  obtain ⟨j, hj, ea⟩ := h.pI c1
  subst ea
  obtain ⟨hE, hE'⟩ := h1.E
  obtain ⟨S, ⟨s1, s2⟩, u1, u2, u3⟩ := h1.rem
  have n13 : (13 : Int32) + nI j = nI (13 + j) := nI_add 13 j
  have n19 : (19 : Int32) + nI j = nI (19 + j) := nI_add 19 j
  have g2 : r 175 j = sE r 2 j := hE.2.2.2.1 j hj
  have g9 : r 9 j = S 3 j := (s1.2 j hj).2.2.2.1
  have g10 : r 10 j = S 4 j := (s1.2 j hj).2.2.2.2.1
  have g12 : r 171 12 = sE r 3 1 := hE.1.2.2.2
  have k2 : zset rm 100 (fun _ => 0) 6 j = sE r 2 j := hE'.2.2.2.1 j hj
  have k9 : zset rm 100 (fun _ => 0) 32 (13 + j) = S 3 j := (s2.2 j hj).2.2.2.1
  have k10 : zset rm 100 (fun _ => 0) 32 (19 + j) = S 4 j := (s2.2 j hj).2.2.2.2.1
  have k12 : zset rm 100 (fun _ => 0) 1 3 = sE r 3 1 := hE'.1.2.2.2
  have hz : zI 0 20 (S 3 j) := by rw [← k9]; exact hf j (by omega)
  have eK : Gk_canForgeN (nI j) b r q = if sE r 2 j = 1 then (0 : Int32) else if b < 1 then 0 else if 20 - S 3 j < b then 0 else if S 4 j < b * sE r 3 1 then 0 else 1 := by
    unfold Gk_canForgeN
    simp only [zifQ, xzn (show j < 2 ^ 31 by omega), g2, g9, g10, g12]
  have eM : Gm_canForge (nI j) b (zset rm 100 (fun _ => 0)) qm = if sE r 2 j = 1 then (0 : Int32) else if S 4 j < b * sE r 3 1 then 0 else if 20 < S 3 j + b then 0 else 1 := by
    unfold Gm_canForge
    simp only [zifQ, n13, n19, xzn (show j < 2 ^ 31 by omega), xzn (show 13 + j < 2 ^ 31 by omega), xzn (show 19 + j < 2 ^ 31 by omega), k2, k9, k10, k12]
  rw [eK, eM, xFgC hz]
  unfold Gm_within
  simp only [zifQ]
  by_cases d1 : b < 1
  · simp only [if_pos d1, if_true]; exact ⟨trivial, h1, xK1.refl⟩
  simp only [if_neg d1]
  by_cases d2 : 20 < b
  · simp only [if_pos d2, if_true]; exact ⟨trivial, h1, xK1.refl⟩
  simp only [if_neg d2, if_neg (show ¬ (1 : Int32) = 0 by decide)]
  by_cases d3 : (if sE r 2 j = 1 then (0 : Int32) else if S 4 j < b * sE r 3 1 then 0 else if 20 < S 3 j + b then 0 else 1) = 0
  · rw [if_pos d3, if_pos d3]; exact ⟨rfl, h1, xK1.refl⟩
  · rw [if_neg d3, if_neg d3]
    obtain ⟨q1, q2, q3⟩ := xRem (q := q) (qm := qm) h1.2.1 h1.2.2.1 hp
    have hE2 : xCe (sL r) t p (sE r) (Gk_remember r q) := hE.rem (n := 0) (fun a a1 a2 => q2 a (by omega) a2)
    have hE3 : xMe (sL r) t p (sE r) 0 (Gm_keeps (zset rm 100 (fun _ => 0)) qm) := hE'.fr q3 (by decide)
    obtain ⟨v1, v2⟩ := kFgN (q := q) (v := b) hE2 u1 hj
    obtain ⟨w1, w2, w3⟩ := mFg (q := qm) (v := b) hE3 u2 u3 hj
    have e1 : Gk_sellN (nI j) b (Gk_remember r q) q 10 j = sFg (sE r) S j b 4 j := (v1.2 j hj).2.2.2.2.1
    have e2 : Gm_forges (nI j) b (Gm_keeps (zset rm 100 (fun _ => 0)) qm) qm 32 (19 + j) = sFg (sE r) S j b 4 j := (w1.2 j hj).2.2.2.2.1
    rw [n19, xzn (show j < 2 ^ 31 by omega), xzn (show 19 + j < 2 ^ 31 by omega)]
    exact ⟨e1.trans e2.symm, h1.mv (xFrHi v2 rfl) w3 ⟨_, v1, w1, w2⟩, h1.k1 (xFrHi v2 rfl)⟩
end XFG
end
section
/-! ===== land, journey, mark, see: how it is then ===== -/
section XLW
variable {t p : Nat} {r rm : zRr} {q qm : zRq}
theorem xTdL {r17 rm9 : zRr} {q16 qm10 : zRq} (hD17 : xD t p r17 q16 rm9 qm10) : xTd t p (kcpL r17 (zn (r17 192 2))) (kcpLq q16) (Gm_lays rm9 qm10).1 (Gm_lays rm9 qm10).2 := by
  obtain ⟨m, em, hm⟩ := hD17.len
  refine xtell hD17 rfl (fun a h1 h2 h3 => ?_) ?_ rfl rfl rfl ?_ (fun a h1 h2 => ?_) ?_ ?_ ?_ ?_ ?_
  · unfold kcpL
    rw [if_neg (by omega), if_neg (by omega), if_neg (by omega), if_pos ⟨h1, h2, h3⟩]
  · show upd (r17 180) 2 (nI (zn (r17 192 2))) 2 = r17 192 2
    rw [pk_us, em, xzn (by omega)]
  all_goals (unfold Gm_lays; simp only [zletQ])
  · rfl
  · rcases (show a = 4 ∨ a = 5 ∨ a = 6 ∨ a = 7 ∨ a = 8 ∨ a = 9 by omega) with rfl | rfl | rfl | rfl | rfl | rfl <;> rfl
  · rfl
  · rfl
  · rfl
  · rfl
  · rfl
theorem xLays152 {rm9 : zRr} {qm10 : zRq} {a : Nat} (ha : [1, 4, 5, 6, 7, 8, 9, 10, 11, 12].contains a = false) : (Gm_lays rm9 qm10).1 a = rm9 a := by
  have f : zFr [1, 4, 5, 6, 7, 8, 9, 10, 11, 12] rm9 (Gm_lays rm9 qm10).1 := by
    unfold Gm_lays
    simp only [zletQ]
    repeat (first | with_reducible exact zFr.refl | with_reducible refine zFr.set ?_ ?_ | decide)
  exact f a ha
theorem xLandW {L : Nat} (h : xTp L r rm) (hW : xHow t p r q rm qm) : ∃ t p, xHow t p (Gk_land r q).2.1 (Gk_land r q).2.2 (Gm_land rm qm).2.1 (Gm_land rm qm).2.2 := by
  rcases xLandC (q := q) (qm := qm) h with ⟨r15, q16, rm9, qm10, gk, gm, ek, em⟩ | ⟨t1, p1, r15, q16, rm9, qm10, r17, gk, gm, e17, hD, ek, em⟩
  · have hp := hW.le.2
    obtain ⟨hD, h6, hP, hR, hL, h0⟩ := hW
    rw [ek, em]
    show ∃ t p, xHow t p (zset r15 196 (upd (r15 196) 1 0)) q16 rm9 qm10
    have k15 : ∀ a, a < 182 ∨ a = 195 → zset r15 196 (upd (r15 196) 1 0) a = r a := by
      intro a h1
      have hk : xKM.contains a = false := by
        cases e : xKM.contains a with
        | false => rfl
        | true =>
          have := List.contains_iff_mem.mp e
          unfold xKM at this
          simp only [List.mem_cons, List.not_mem_nil, or_false] at this
          omega
      rw [zset_ne (by omega), gk.1 a hk, xRak ?_]
      cases e : [183, 185, 192, 193, 196, 198].contains a with
      | false => rfl
      | true =>
        have := List.contains_iff_mem.mp e
        simp only [List.mem_cons, List.not_mem_nil, or_false] at this
        omega
    have m9 : ∀ a, 25 ≤ a → a ≠ 100 → a ≠ 101 → a ≠ 103 → a ≠ 104 → a ≠ 105 → a ≠ 106 → a ≠ 108 → a ≠ 109 → a ≠ 122 → a ≠ 123 → a ≠ 136 → rm9 a = rm a := by
      intro a a0 a1 a2 a3 a4 a5 a6 a7 a8 a9 b1 b2
      have hk : xMM.contains a = false := by
        cases e : xMM.contains a with
        | false => rfl
        | true =>
          have := List.contains_iff_mem.mp e
          unfold xMM at this
          simp only [List.mem_cons, List.not_mem_nil, or_false] at this
          omega
      rw [gm.1 a hk]
      unfold xMb xMa xs
      rw [zset_ne a4, zset_ne a2, zset_ne a3, zset_ne a9, zset_ne b1, zset_ne (by omega), zset_ne (by omega), zset_ne (by omega), zset_ne (by omega), zset_ne (by omega), zset_ne (by omega), zset_ne a1]
    have e26 : ∀ c, 26 ≤ c → c ≤ 28 → rm9 c = rm c := fun c c1 c2 => m9 c (by omega) (by omega) (by omega) (by omega) (by omega) (by omega) (by omega) (by omega) (by omega) (by omega) (by omega) (by omega)
    have me : ∀ a, [25, 32, 35, 36, 37, 151, 152].contains a = true → rm9 a = rm a := fun a ha => by
      have := List.contains_iff_mem.mp ha
      simp only [List.mem_cons, List.not_mem_nil, or_false] at this
      exact m9 a (by omega) (by omega) (by omega) (by omega) (by omega) (by omega) (by omega) (by omega) (by omega) (by omega) (by omega) (by omega)
    obtain ⟨t2, p2, hT2⟩ := xLand (q := q) (qm := qm) h hD
    rw [ek, em] at hT2
    have et : t2 = t := by
      have a1 := hT2.1.1
      have a2 := hD.1.1
      have a3 : zset r15 196 (upd (r15 196) 1 0) 171 9 = r 171 9 := by rw [k15 171 (by omega)]
      exact (nI_eq (by have := hT2.1.2.2; omega) (by have := hD.1.2.2; omega)).mp (a1.symm.trans (a3.trans a2))
    have ep : p2 = p := by
      have a1 := hT2.2.1.1
      have a2 := hD.2.1.1
      have a3 : zset r15 196 (upd (r15 196) 1 0) 171 10 = r 171 10 := by rw [k15 171 (by omega)]
      exact (nI_eq (by have := hT2.2.1.2.2; omega) (by have := hD.2.1.2.2; omega)).mp (a1.symm.trans (a3.trans a2))
    subst et
    subst ep
    refine ⟨t2, p2, hT2, h6.eq hp (fun i hi => k15 _ (by omega)) (fun i _ => by rw [me 32 rfl]), hP.fr hp (fun a a1 a2 => k15 a (by omega)) (k15 195 (by omega)) (me 36 rfl) (by rw [me 151 rfl]), hR.fr hp (fun a a1 a2 a3 => k15 a (by omega)) (me 35 rfl) (me 37 rfl) (fun o _ _ => by rw [me 25 rfl]) (fun c i c1 c2 _ _ => by rw [e26 c c1 c2]), hL.fr (fun i hi => k15 _ (by omega)) (by rw [me 25 rfl]) (fun c i c1 c2 _ => by rw [e26 c c1 c2]), by rw [me 152 rfl]; exact h0⟩
  · have h0 := hW.2.2.2.2.2
    have hp6 : p1 ≤ 6 := hD.2.1.2.2.1
    have hT := xTdL hD
    rw [ek, em]
    have r152 : (Gm_lays rm9 qm10).1 152 0 = 0 := by
      rw [xLays152 rfl, gm.1 152 rfl]
      unfold xMb xMa xs
      rw [zset_ne (by decide), zset_ne (by decide), zset_ne (by decide), zset_ne (by decide), zset_ne (by decide), zset_ne (by decide), zset_ne (by decide), zset_ne (by decide), zset_ne (by decide), zset_ne (by decide), zset_ne (by decide), zset_ne (by decide)]
      exact h0
    generalize kcpLq q16 = q20 at hT ⊢
    generalize kcpL r17 (zn (r17 192 2)) = r21 at hT ⊢
    generalize Gm_lays rm9 qm10 = ol at hT r152 ⊢
    obtain ⟨rm14, qm15⟩ := ol
    have hT : xTd t1 p1 r21 q20 rm14 qm15 := hT
    have r152 : rm14 152 0 = 0 := r152
    obtain ⟨hE, hE', hC, hC'⟩ := xCe.of hT
    obtain ⟨c8, f8⟩ := kBgN (q := q20) hE hC
    obtain ⟨m8, z8, g8⟩ := mBg (q := qm15) hE' hC'
    show ∃ t p, xHow t p (Gk_land_79 5 0 (Gk_forgetPast (Gk_clear6 (zset (Gk_begin8N r21 q20) 138 (upd (Gk_begin8N r21 q20 138) 3 0)) q20) q20) q20).2.1 (Gk_land_79 5 0 (Gk_forgetPast (Gk_clear6 (zset (Gk_begin8N r21 q20) 138 (upd (Gk_begin8N r21 q20 138) 3 0)) q20) q20) q20).2.2 (Gm_land_46 5 0 (zset (zset (zset (Gm_fresh0 rm14 qm15) 25 (upd (Gm_fresh0 rm14 qm15 25) 0 0)) 29 (upd (zset (Gm_fresh0 rm14 qm15) 25 (upd (Gm_fresh0 rm14 qm15 25) 0 0) 29) 0 0)) 151 (fun _ => 0)) qm15).2.1 (Gm_land_46 5 0 (zset (zset (zset (Gm_fresh0 rm14 qm15) 25 (upd (Gm_fresh0 rm14 qm15 25) 0 0)) 29 (upd (zset (Gm_fresh0 rm14 qm15) 25 (upd (Gm_fresh0 rm14 qm15 25) 0 0) 29) 0 0)) 151 (fun _ => 0)) qm15).2.2
    generalize Gk_begin8N r21 q20 = u22 at c8 f8 ⊢
    generalize Gm_fresh0 rm14 qm15 = um at m8 z8 g8 ⊢
    have f6 := xclear6 (r := zset u22 138 (upd (u22 138) 3 0)) (q := q20)
    generalize Gk_clear6 (zset u22 138 (upd (u22 138) 3 0)) q20 = u25 at f6 ⊢
    have f5 := xforget (r := u25) (q := q20)
    have v5 : Gk_forgetPast u25 q20 195 13 = 0 ∧ Gk_forgetPast u25 q20 195 14 = 0 := by
      unfold Gk_forgetPast
      simp only [zletQ]
      rw [zset_eq]
      refine ⟨?_, pk_us⟩
      rw [pk_un (by decide), zset_eq, pk_us]
    generalize Gk_forgetPast u25 q20 = u27 at f5 v5 ⊢
    obtain ⟨f4, f4q⟩ := xl79f 5 0 u27 q20 (by omega) (by omega)
    rw [nI_0] at f4 f4q
    obtain ⟨w4, w4q⟩ := xm46f 5 0 (zset (zset (zset um 25 (upd (um 25) 0 0)) 29 (upd (zset um 25 (upd (um 25) 0 0) 29) 0 0)) 151 (fun _ => 0)) qm15 (by omega) (by omega)
    have v4 := xm46v 5 0 (zset (zset (zset um 25 (upd (um 25) 0 0)) 29 (upd (zset um 25 (upd (um 25) 0 0) 29) 0 0)) 151 (fun _ => 0)) qm15 (by omega) (by omega) (fun j hj => absurd hj (Nat.not_lt_zero _))
    rw [nI_0] at w4 w4q v4
    have b1 : zFr [6, 7, 8, 9, 10, 11, 138, 162, 167, 168, 169, 170, 195] r21 (zset u22 138 (upd (u22 138) 3 0)) := (f8.up (by decide)).set (by decide)
    have b4 := ((b1.tr f6 (by decide)).tr f5 (by decide)).tr f4 (by decide)
    have n4 : zFr [25, 29, 32, 37, 151] rm14 (Gm_land_46 5 0 (zset (zset (zset um 25 (upd (um 25) 0 0)) 29 (upd (zset um 25 (upd (um 25) 0 0) 29) 0 0)) 151 (fun _ => 0)) qm15).2.1 := ((((g8.up (by decide)).set (by decide)).set (by decide)).set (by decide)).tr w4 (by decide)
    have u6 : ∀ i, i < 6 → (Gk_land_79 5 0 u27 q20).2.1 (6 + i) = u22 (6 + i) := fun i hi => by
      rcases (show i = 0 ∨ i = 1 ∨ i = 2 ∨ i = 3 ∨ i = 4 ∨ i = 5 by omega) with rfl | rfl | rfl | rfl | rfl | rfl
      all_goals rw [f4 _ rfl, f5 _ rfl, f6 _ rfl, zset_ne (by decide)]
    refine ⟨t1, p1, hT.fr (xKk.of b4 f4q (by decide)) (xLow.of_ n4 w4q (by decide)), ⟨_, c8.eq u6, m8.fr (by rw [w4 32 rfl]; rfl), by rw [w4 32 rfl]; exact z8⟩, xPs.nil (by rw [f4 195 rfl]; exact v5.1) (by rw [f4 195 rfl]; exact v5.2) (by rw [w4 151 rfl, zset_eq]), fun k hk hz => absurd (v4 k hk) hz, xPl.nil (by rw [f4 138 rfl, f5 138 rfl, f6 138 rfl, zset_eq, pk_us]) (by rw [w4 25 rfl, zset_ne (by decide), zset_ne (by decide), zset_eq, pk_us]), by rw [n4 152 rfl]; exact r152⟩
theorem xJourW {L : Nat} (h : xTp L r rm) (hW : xHow t p r q rm qm) : (Gk_journey r q).1 = (Gm_journey rm qm).1 ∧ xHow t p (Gk_journey r q).2.1 (Gk_journey r q).2.2 (Gm_journey rm qm).2.1 (Gm_journey rm qm).2.2 := by
  have hp := hW.le.2
  obtain ⟨hD, h6, hP, hR, hL, h0⟩ := hW
  obtain ⟨ka, kd⟩ := xJour (q := q) (qm := qm) h hD
  refine ⟨ka, kd, ?_⟩
  obtain ⟨⟨hk, k⟩, _⟩ := xjourney h hD
  have mj : ∀ a, a ≠ 25 → a ≠ 100 → a ≠ 101 → a ≠ 103 → a ≠ 104 → a ≠ 136 → xMk rm a = rm a := fun a a1 a2 a3 a4 a5 a6 => by
    unfold xMk xMj xs
    rw [zset_ne a5, zset_ne a3, zset_ne a4, zset_ne a6, zset_ne a1, zset_ne a2]
  have mj25 : ∀ o, o ≠ 5 → xMk rm 25 o = rm 25 o := fun o ho => by
    unfold xMk xMj xs
    rw [zset_ne (by decide), zset_ne (by decide), zset_ne (by decide), zset_ne (by decide), zset_eq, pk_un ho, zset_ne (by decide)]
  have rj : ∀ a, a ≠ 142 → a ≠ 196 → xRj r a = r a := fun a a1 a2 => by
    unfold xRj xs
    rw [zset_ne a2, zset_ne a2, zset_ne a1]
  unfold Gk_journey
  generalize Gk_readJ r q = o at hk k ⊢
  generalize Gm_journey rm qm = om at k ⊢
  obtain ⟨v, r3, q4⟩ := o
  obtain ⟨w, rm3, qm4⟩ := om
  have hk : xJk (xRj r) q r3 q4 := hk
  have k3 : ∀ a, a < 142 ∨ (146 ≤ a ∧ a < 182) ∨ a = 195 → zset r3 196 (upd (r3 196) 1 0) a = r a := fun a ha => by
    rw [zset_ne (by omega), hk.1 a ?_, rj a (by omega) (by omega)]
    cases e : [142, 143, 144, 145, 196].contains a with
    | false => rfl
    | true =>
      have := List.contains_iff_mem.mp e
      simp only [List.mem_cons, List.not_mem_nil, or_false] at this
      omega
  rw [xcvrq (r := r3)]
  simp only [zletQ, zifnQ]
  rcases k with ⟨g1, g2, g3⟩ | ⟨g1, g2, n, rm1, g3, g4, g5⟩
  · have g1 : v = 0 := g1
    have g2 : xJm (xMk rm) qm rm3 qm4 := g2
    rw [if_pos g1]
    show xSt t p 6 (zset r3 196 (upd (r3 196) 1 0)) (rm3 32) ∧ xPs t p (zset r3 196 (upd (r3 196) 1 0)) rm3 ∧ xMr t p (zset r3 196 (upd (r3 196) 1 0)) rm3 ∧ xPl t p 138 0 (zset r3 196 (upd (r3 196) 1 0)) rm3 ∧ rm3 152 0 = 0
    have me : ∀ a, [32, 35, 36, 37, 151, 152].contains a = true → rm3 a = rm a := fun a ha => by
      have := List.contains_iff_mem.mp ha
      simp only [List.mem_cons, List.not_mem_nil, or_false] at this
      rw [g2.1 a ?_, mj a (by omega) (by omega) (by omega) (by omega) (by omega) (by omega)]
      cases e : [25, 26, 27, 28, 104, 105, 106, 108, 109, 136].contains a with
      | false => rfl
      | true =>
        have := List.contains_iff_mem.mp e
        simp only [List.mem_cons, List.not_mem_nil, or_false] at this
        omega
    have e25 : ∀ o, o ≠ 5 → rm3 25 o = rm 25 o := fun o ho => by rw [g2.2.2.1 o ho, mj25 o ho]
    have e26 : ∀ c i, 26 ≤ c → c ≤ 28 → i < 200 → rm3 c i = rm c i := fun c i c1 c2 hi => by rw [g2.2.2.2 c i c1 c2 hi, mj c (by omega) (by omega) (by omega) (by omega) (by omega) (by omega)]
    exact ⟨h6.eq hp (fun i hi => k3 _ (by omega)) (fun i _ => by rw [me 32 rfl]), hP.fr hp (fun a a1 a2 => k3 a (by omega)) (k3 195 (by omega)) (me 36 rfl) (by rw [me 151 rfl]), hR.fr hp (fun a a1 a2 a3 => k3 a (by omega)) (me 35 rfl) (me 37 rfl) (fun o o1 o2 => e25 o (by omega)) (fun c i c1 c2 _ hi => e26 c i c1 c2 hi), hL.fr (fun i hi => k3 _ (by omega)) (e25 0 (by omega)) (fun c i c1 c2 hi => e26 c _ c1 c2 (by omega)), by rw [me 152 rfl]; exact h0⟩
  · have g1 : v = 1 := g1
    have g3 : xJm (xMk rm) qm rm1 qm4 := g3
    have g4 : rm3 = Gm_laysLines 5 0 rm1 qm4 := g4
    have g5 : xPd t p n r3 rm1 := g5
    rw [if_neg (show ¬ v = 0 by rw [g1]; decide)]
    show xSt t p 6 (kcp1 (zset r3 196 (upd (r3 196) 1 0)) 138 142) (rm3 32) ∧ xPs t p (kcp1 (zset r3 196 (upd (r3 196) 1 0)) 138 142) rm3 ∧ xMr t p (kcp1 (zset r3 196 (upd (r3 196) 1 0)) 138 142) rm3 ∧ xPl t p 138 0 (kcp1 (zset r3 196 (upd (r3 196) 1 0)) 138 142) rm3 ∧ rm3 152 0 = 0
    have lf := xlaysL (a := 5) (b := 0) (r := rm1) (q := qm4)
    obtain ⟨l1, l2, l3, l4⟩ := xlaysX2 (a := 5) (b := 0) (r := rm1) (q := qm4) (by omega) (by omega) (by omega)
    rw [show nI 0 = (0 : Int32) from nI_0, show nI 5 = (5 : Int32) from rfl] at l1 l2 l3 l4
    rw [← g4] at lf l1 l2 l3 l4
    have me : ∀ a, [32, 35, 36, 37, 151, 152].contains a = true → rm3 a = rm a := fun a ha => by
      have := List.contains_iff_mem.mp ha
      simp only [List.mem_cons, List.not_mem_nil, or_false] at this
      rw [lf a ?_, g3.1 a ?_, mj a (by omega) (by omega) (by omega) (by omega) (by omega) (by omega)]
      · cases e : [25, 26, 27, 28, 104, 105, 106, 108, 109, 136].contains a with
        | false => rfl
        | true =>
          have := List.contains_iff_mem.mp e
          simp only [List.mem_cons, List.not_mem_nil, or_false] at this
          omega
      · cases e : [25, 26, 27, 28].contains a with
        | false => rfl
        | true =>
          have := List.contains_iff_mem.mp e
          simp only [List.mem_cons, List.not_mem_nil, or_false] at this
          omega
    have e25 : ∀ o, o ≠ 5 → o ≠ 0 → rm3 25 o = rm 25 o := fun o ho h0 => by rw [l1 o h0, g3.2.2.1 o ho, mj25 o ho]
    have e26 : ∀ o c i, o ≠ 0 → o < 5 → 26 ≤ c → c ≤ 28 → i < 40 → rm3 c (40 * o + i) = rm c (40 * o + i) := fun o c i o1 o2 c1 c2 hi => by rw [l4 o c i o1 c1 c2 hi, g3.2.2.2 c _ c1 c2 (by omega), mj c (by omega) (by omega) (by omega) (by omega) (by omega) (by omega)]
    have kr : ∀ a, a < 138 ∨ (146 ≤ a ∧ a < 182) ∨ a = 195 → kcp1 (zset r3 196 (upd (r3 196) 1 0)) 138 142 a = r a := fun a ha => by
      rw [kcp1_o (by omega)]; exact k3 a (by omega)
    have hPl : xPl t p 142 5 (zset r3 196 (upd (r3 196) 1 0)) rm1 := by
      obtain ⟨p1, p2, p3, p4⟩ := g5
      refine ⟨n, p3, by rw [zset_ne (by decide)]; exact p1, p2, fun k hk => ?_⟩
      exact p4 k hk
    refine ⟨h6.eq hp (fun i hi => kr _ (by omega)) (fun i _ => by rw [me 32 rfl]), hP.fr hp (fun a a1 a2 => kr a (by omega)) (kr 195 (by omega)) (me 36 rfl) (by rw [me 151 rfl]), hR.fr hp (fun a a1 a2 a3 => kr a (by omega)) (me 35 rfl) (me 37 rfl) (fun o o1 o2 => e25 o (by omega) (by omega)) (fun c i c1 c2 i1 i2 => ?_), hPl.cp (n := 138) (b := 0) l2 l3, by rw [me 152 rfl]; exact h0⟩
    have := e26 (i / 40) c (i % 40) (by omega) (by omega) c1 c2 (by omega)
    rw [show 40 * (i / 40) + i % 40 = i by omega] at this
    exact this
theorem xMarkW {a b : Int32} (hM : lM r rm) (hS : lS r rm) (hW : xHow t p r q rm qm) : (Gk_mark a b r q).1 = (Gm_mark a b rm qm).1 ∧ (∀ c, 171 ≤ c → c ≠ 195 → (Gk_mark a b r q).2 c = r c) → zFr [100, 37, 25, 26, 27, 28, 29, 30, 31, 32, 151, 35] rm (Gm_mark a b rm qm).2 → xHow t p (Gk_mark a b r q).2 q (Gm_mark a b rm qm).2 qm := by
  intro ⟨_, hk⟩ f
  have hp := hW.le.2
  obtain ⟨hD, h6, hP, hR, hL, h0⟩ := hW
  obtain ⟨k1, k2, k3, k4⟩ := xMarkR (a := a) (b := b) (q := q) (qm := qm) hp hM h6 hP hR hL
  exact ⟨hD.fr ⟨fun c c1 c2 => hk c c1 (by omega), rfl, rfl⟩ (xLow.of_ f rfl (by decide)), k1, k2, k3, k4, by rw [f 152 rfl]; exact h0⟩
end XLW
theorem xHow.see {t p : Nat} {r r1 rm rm1 : zRr} {q qm : zRq} (h : xHow t p r q rm qm) (k : ∀ a, a ≠ 162 → a ≠ 182 → r1 a = r a) (m : zFr [29, 30, 31, 100] rm rm1) : xHow t p r1 q rm1 qm := by
  have hp := h.le.2
  obtain ⟨hD, h6, hP, hR, hL, h0⟩ := h
  exact ⟨hD.fr ⟨fun a h1 h2 => k a (by omega) (by omega), rfl, rfl⟩ (xLow.of_ m rfl (by decide)), h6.eq hp (fun i hi => k _ (by omega) (by omega)) (fun i _ => by rw [m 32 rfl]), hP.fr hp (fun a a1 a2 => k a (by omega) (by omega)) (k 195 (by omega) (by omega)) (m 36 rfl) (by rw [m 151 rfl]), hR.fr hp (fun a a1 a2 a3 => k a (by omega) (by omega)) (m 35 rfl) (m 37 rfl) (fun o _ _ => by rw [m 25 rfl]) (fun c i c1 c2 _ _ => by rcases (show c = 26 ∨ c = 27 ∨ c = 28 by omega) with rfl | rfl | rfl <;> rw [m _ rfl]), hL.fr (fun i hi => k _ (by omega) (by omega)) (by rw [m 25 rfl]) (fun c i c1 c2 _ => by rcases (show c = 26 ∨ c = 27 ∨ c = 28 by omega) with rfl | rfl | rfl <;> rw [m _ rfl]), by rw [m 152 rfl]; exact h0⟩
end
section
/-! ===== answers: person, town, speakers, count ===== -/
noncomputable def xSm (f : Nat → Int32) : Nat → Int32
  | 0 => 0
  | n + 1 => xSm f n + f n
theorem xSm_s {f : Nat → Int32} {n : Nat} : xSm f (n + 1) = xSm f n + f n := rfl
theorem xSm.congr {f g : Nat → Int32} : ∀ n, (∀ i, i < n → f i = g i) → xSm f n = xSm g n := by
  intro n
  induction n with
  | zero => intro _; rfl
  | succ n ih => intro h; rw [xSm_s, xSm_s, ih (fun i hi => h i (by omega)), h n (by omega)]
theorem xSm.zero {f : Nat → Int32} {p : Nat} : ∀ k, (∀ i, p ≤ i → i < p + k → f i = 0) → xSm f (p + k) = xSm f p := by
  intro k
  induction k with
  | zero => intro _; rfl
  | succ k ih =>
    intro h
    rw [show p + (k + 1) = p + k + 1 by omega, xSm_s, ih (fun i h1 h2 => h i h1 (by omega)), h (p + k) (by omega) (by omega), Int32.add_zero]
section XAS
variable {t p : Nat} {r rm : zRr} {q qm : zRq}
end XAS
end
/-! ===== whither one can come: sets of towns as numbers ===== -/
theorem xAnd64 : ∀ m k : Fin 64, nI m.val &&& nI k.val = nI (m.val &&& k.val) := by decide +kernel
theorem xBit64 : ∀ (m : Fin 64) (i : Fin 6), (nI m.val >>> (nI i.val &&& 31)) &&& 1 = if m.val.testBit i.val = true then 1 else 0 := by decide +kernel
theorem nAnd {m k : Nat} (hm : m < 64) (hk : k < 64) : nI m &&& nI k = nI (m &&& k) := xAnd64 ⟨m, hm⟩ ⟨k, hk⟩
theorem nBit {m i : Nat} (hm : m < 64) (hi : i < 6) : (nI m >>> (nI i &&& 31)) &&& 1 = if m.testBit i = true then 1 else 0 := xBit64 ⟨m, hm⟩ ⟨i, hi⟩
theorem nBit0 {m i : Nat} (hm : m < 64) (hi : i < 6) : ((nI m >>> (nI i &&& 31)) &&& 1 = 0) ↔ ¬ m.testBit i = true := by
  rw [nBit hm hi]
  by_cases c : m.testBit i = true
  · rw [if_pos c]; exact ⟨fun h => absurd h (by decide), fun h => absurd c h⟩
  · rw [if_neg c]; exact ⟨fun _ => c, fun _ => rfl⟩
noncomputable def yN (f : Nat → Int32) : Nat → Nat
  | 0 => 0
  | n + 1 => if f n = 0 then yN f n else yN f n ||| 2 ^ n
theorem yN_s {f : Nat → Int32} {n : Nat} : yN f (n + 1) = if f n = 0 then yN f n else yN f n ||| 2 ^ n := rfl
theorem yN_lt {f : Nat → Int32} : ∀ n, yN f n < 2 ^ n := by
  intro n
  induction n with
  | zero => show 0 < 2 ^ 0; decide
  | succ n ih =>
    have h : yN f n < 2 ^ (n + 1) := Nat.lt_of_lt_of_le ih (Nat.pow_le_pow_right (by decide) (by omega))
    rw [yN_s]
    by_cases c : f n = 0
    · rw [if_pos c]; exact h
    · rw [if_neg c]; exact Nat.or_lt_two_pow h (Nat.pow_lt_pow_right (by decide) (by omega))
theorem yN_bit {f : Nat → Int32} {i : Nat} : ∀ n, ((yN f n).testBit i = true) ↔ (i < n ∧ ¬ f i = 0) := by
  intro n
  induction n with
  | zero =>
    show ((0 : Nat).testBit i = true) ↔ _
    rw [Nat.zero_testBit]
    exact ⟨fun h => absurd h (by decide), fun h => absurd h.1 (by omega)⟩
  | succ n ih =>
    rw [yN_s]
    by_cases c : f n = 0
    · rw [if_pos c, ih]
      refine ⟨fun h => ⟨by omega, h.2⟩, fun h => ⟨?_, h.2⟩⟩
      by_cases e : i = n
      · subst e; exact absurd c h.2
      · omega
    · rw [if_neg c, Nat.testBit_or, Bool.or_eq_true, ih]
      by_cases e : i = n
      · subst e
        rw [Nat.testBit_two_pow_self]
        exact ⟨fun _ => ⟨by omega, c⟩, fun _ => Or.inr rfl⟩
      · rw [Nat.testBit_two_pow_of_ne (fun h => e h.symm)]
        refine ⟨fun h => ?_, fun h => Or.inl ⟨by omega, h.2⟩⟩
        rcases h with h | h
        · exact ⟨by omega, h.2⟩
        · cases h
theorem yB_N {f : Nat → Int32} : ∀ n, n ≤ 6 → yB f n = nI (yN f n) := by
  intro n
  induction n with
  | zero => intro _; rfl
  | succ n ih =>
    intro h
    rw [yB_s, yN_s, ih (by omega)]
    by_cases c : f n = 0
    · rw [if_pos c, if_pos c]
    · have h1 : yN f n < 64 := p64 (t := n) (by omega) (yN_lt n)
      have h2 : 2 ^ n < 64 := p64 (t := n + 1) h (Nat.pow_lt_pow_right (by decide) (by omega))
      rw [if_neg c, if_neg c, nOne (by omega), nOr h1 h2]
/-- a step further -/
noncomputable def yF (T : Nat → Nat) (x : Nat) : Nat → Nat
  | 0 => x
  | n + 1 => if x.testBit n = true then yF T x n ||| T n else yF T x n
theorem yF_s {T : Nat → Nat} {x n : Nat} : yF T x (n + 1) = if x.testBit n = true then yF T x n ||| T n else yF T x n := rfl
theorem yF_lt {T : Nat → Nat} {x t : Nat} (hT : ∀ i, T i < 2 ^ t) (hx : x < 2 ^ t) : ∀ n, yF T x n < 2 ^ t := by
  intro n
  induction n with
  | zero => exact hx
  | succ n ih =>
    rw [yF_s]
    by_cases c : x.testBit n = true
    · rw [if_pos c]; exact Nat.or_lt_two_pow ih (hT n)
    · rw [if_neg c]; exact ih
theorem yF_le {T : Nat → Nat} {x i : Nat} (h : x.testBit i = true) : ∀ n, (yF T x n).testBit i = true := by
  intro n
  induction n with
  | zero => exact h
  | succ n ih =>
    rw [yF_s]
    by_cases c : x.testBit n = true
    · rw [if_pos c, Nat.testBit_or, ih, Bool.true_or]
    · rw [if_neg c]; exact ih
noncomputable def yI (T : Nat → Nat) (t : Nat) : Nat → Nat → Nat
  | 0, x => x
  | k + 1, x => yI T t k (yF T x t)
theorem yI_s {T : Nat → Nat} {t k x : Nat} : yI T t (k + 1) x = yI T t k (yF T x t) := rfl
theorem yI_c {T : Nat → Nat} {t : Nat} : ∀ k x, yI T t (k + 1) x = yF T (yI T t k x) t := by
  intro k
  induction k with
  | zero => intro x; rfl
  | succ k ih => intro x; rw [yI_s, ih]; rfl
theorem yI_lt {T : Nat → Nat} {t : Nat} (hT : ∀ i, T i < 2 ^ t) : ∀ k x, x < 2 ^ t → yI T t k x < 2 ^ t := by
  intro k
  induction k with
  | zero => intro x h; exact h
  | succ k ih => intro x h; rw [yI_s]; exact ih _ (yF_lt hT h t)
/-- how many -/
noncomputable def yC (x : Nat) : Nat → Nat
  | 0 => 0
  | n + 1 => yC x n + if x.testBit n = true then 1 else 0
theorem yC_s {x n : Nat} : yC x (n + 1) = yC x n + if x.testBit n = true then 1 else 0 := rfl
theorem yC_le {x : Nat} : ∀ n, yC x n ≤ n := by
  intro n
  induction n with
  | zero => exact Nat.le_refl 0
  | succ n ih =>
    rw [yC_s]
    by_cases c : x.testBit n = true
    · rw [if_pos c]; omega
    · rw [if_neg c]; omega
theorem yC_mono {x y : Nat} (h : ∀ i, x.testBit i = true → y.testBit i = true) : ∀ n, yC x n ≤ yC y n ∧ (yC x n = yC y n → ∀ i, i < n → y.testBit i = true → x.testBit i = true) := by
  intro n
  induction n with
  | zero => exact ⟨Nat.le_refl _, fun _ i hi => absurd hi (by omega)⟩
  | succ n ih =>
    rw [yC_s, yC_s]
    by_cases c : x.testBit n = true
    · rw [if_pos c, if_pos (h n c)]
      refine ⟨by omega, fun e i hi hy => ?_⟩
      by_cases ei : i = n
      · subst ei; exact c
      · exact ih.2 (by omega) i (by omega) hy
    · rw [if_neg c]
      by_cases d : y.testBit n = true
      · rw [if_pos d]
        exact ⟨by omega, fun e => absurd e (by have := ih.1; omega)⟩
      · rw [if_neg d]
        refine ⟨ih.1, fun e i hi hy => ?_⟩
        by_cases ei : i = n
        · subst ei; exact absurd hy d
        · exact ih.2 (by omega) i (by omega) hy
theorem yC_pos {x t : Nat} (hx : x < 2 ^ t) (h0 : x ≠ 0) : 1 ≤ yC x t := by
  have k := (yC_mono (x := 0) (y := x) (fun i h => by rw [Nat.zero_testBit] at h; cases h) t)
  by_cases e : yC x t = 0
  · exfalso
    apply h0
    refine Nat.eq_of_testBit_eq (fun i => ?_)
    rw [Nat.zero_testBit]
    cases hb : x.testBit i with
    | false => rfl
    | true =>
      have hi : i < t := by
        rcases Nat.lt_or_ge i t with h | h
        · exact h
        · have := Nat.testBit_lt_two_pow (Nat.lt_of_lt_of_le hx (Nat.pow_le_pow_right (by decide) h))
          rw [this] at hb; cases hb
      have := k.2 (by omega) i hi hb
      rw [Nat.zero_testBit] at this; cases this
  · omega
/-- a step adds, or all is there -/
theorem yF_grow {T : Nat → Nat} {x t : Nat} (hT : ∀ i, T i < 2 ^ t) (hx : x < 2 ^ t) : yF T x t = x ∨ yC x t + 1 ≤ yC (yF T x t) t := by
  have k := yC_mono (x := x) (y := yF T x t) (fun i h => yF_le h t) t
  by_cases e : yC x t = yC (yF T x t) t
  · left
    refine Nat.eq_of_testBit_eq (fun i => ?_)
    rcases Nat.lt_or_ge i t with h | h
    · cases hb : x.testBit i with
      | true => exact yF_le hb t
      | false =>
        cases hy : (yF T x t).testBit i with
        | false => rfl
        | true => rw [k.2 e i h hy] at hb; cases hb
    · rw [Nat.testBit_lt_two_pow (Nat.lt_of_lt_of_le hx (Nat.pow_le_pow_right (by decide) h)), Nat.testBit_lt_two_pow (Nat.lt_of_lt_of_le (yF_lt hT hx t) (Nat.pow_le_pow_right (by decide) h))]
  · right; have := k.1; omega
theorem yI_grow {T : Nat → Nat} {x t : Nat} (hT : ∀ i, T i < 2 ^ t) (hx : x < 2 ^ t) : ∀ k, yF T (yI T t k x) t = yI T t k x ∨ yC x t + k ≤ yC (yI T t k x) t := by
  intro k
  induction k with
  | zero => right; exact Nat.le_refl _
  | succ k ih =>
    rw [yI_c]
    rcases ih with h | h
    · left; rw [h, h]
    · rcases yF_grow hT (yI_lt hT k x hx) with g | g
      · left; rw [g, g]
      · right; omega
theorem yI_fix {T : Nat → Nat} {x t : Nat} (hT : ∀ i, T i < 2 ^ t) (hx : x < 2 ^ t) (h0 : x ≠ 0) : yF T (yI T t (t - 1) x) t = yI T t (t - 1) x := by
  rcases yI_grow hT hx (t - 1) with h | h
  · exact h
  · have h1 := yC_pos hx h0
    have h2 := yC_le (x := yI T t (t - 1) x) t
    rcases yF_grow hT (yI_lt hT (t - 1) x hx) with g | g
    · exact g
    · have h3 := yC_le (x := yF T (yI T t (t - 1) x) t) t
      by_cases e : t = 0
      · subst e
        have : x < 1 := hx
        omega
      · omega
section
/-! ===== whither one can come ===== -/
noncomputable def sSp (Lf : xLT) (p : Nat) (E S : Nat → Nat → Int32) (mo : Int32) (j i u : Nat) : Int32 := if (E 1 i >>> (nI u &&& 31)) &&& 1 = 0 then 0 else sLe Lf p E S mo (nI i) j u
noncomputable def sT (Lf : xLT) (t p : Nat) (E S : Nat → Nat → Int32) (mo : Int32) (j i : Nat) : Nat := yN (sSp Lf p E S mo j i) t
theorem sT_lt {Lf : xLT} {t p : Nat} {E S : Nat → Nat → Int32} {mo : Int32} {j : Nat} : ∀ i, sT Lf t p E S mo j i < 2 ^ t := fun _ => yN_lt t
/-- roads are within six towns -/
noncomputable def xRd (t : Nat) (E : Nat → Nat → Int32) : Prop := ∀ i, i < t → ∃ m, m < 2 ^ t ∧ E 1 i = nI m
theorem yN_eq {f g : Nat → Int32} : ∀ n, (∀ u, u < n → (f u = 0 ↔ g u = 0)) → yN f n = yN g n := by
  intro n
  induction n with
  | zero => intro _; rfl
  | succ n ih =>
    intro h
    rw [yN_s, yN_s, ih (fun u hu => h u (by omega))]
    by_cases c : f n = 0
    · rw [if_pos c, if_pos ((h n (by omega)).mp c)]
    · rw [if_neg c, if_neg (fun d => c ((h n (by omega)).mpr d))]
theorem yN_0 {f : Nat → Int32} {n : Nat} : yN f (n + 1) = 0 ↔ (yN f n = 0 ∧ f n = 0) := by
  rw [yN_s]
  by_cases c : f n = 0
  · rw [if_pos c]; exact ⟨fun h => ⟨h, c⟩, fun h => h.1⟩
  · rw [if_neg c]
    refine ⟨fun h => ?_, fun h => absurd h.2 c⟩
    have := Nat.testBit_or (yN f n) (2 ^ n) n
    rw [h, Nat.zero_testBit, Nat.testBit_two_pow_self, Bool.or_true] at this
    cases this
theorem nI0 {m : Nat} (h : m < 64) : nI m = 0 ↔ m = 0 := by
  have := nI_eq (a := m) (b := 0) (by omega) (by omega)
  rw [nI_0] at this
  exact this
theorem yB_0 {f : Nat → Int32} {n : Nat} (h : n < 6) : yB f (n + 1) = 0 ↔ (yB f n = 0 ∧ f n = 0) := by
  rw [yB_N (n + 1) (by omega), yB_N n (by omega), nI0 (p64 (t := n + 1) (by omega) (yN_lt _)), nI0 (p64 (t := n) (by omega) (yN_lt _))]
  exact yN_0
/-- a road's bits, and guards' -/
theorem yAnd {f g : Nat → Int32} {m t : Nat} (hm : m < 64) (ht : t ≤ 6) (h : ∀ u, u < t → (g u = 0 ↔ ((nI m >>> (nI u &&& 31)) &&& 1 = 0 ∨ f u = 0))) : m &&& yN f t = yN g t := by
  refine Nat.eq_of_testBit_eq (fun u => ?_)
  rw [Nat.testBit_and]
  have hf := yN_bit (f := f) (i := u) t
  have hg := yN_bit (f := g) (i := u) t
  cases a : (yN g t).testBit u with
  | true =>
    obtain ⟨a1, a2⟩ := hg.mp a
    have hu := h u a1
    have b1 : m.testBit u = true := by
      cases b : m.testBit u with
      | true => rfl
      | false => exact absurd (hu.mpr (Or.inl ((nBit0 hm (by omega)).mpr (by rw [b]; decide)))) a2
    rw [b1, hf.mpr ⟨a1, fun c => a2 (hu.mpr (Or.inr c))⟩]; rfl
  | false =>
    cases b : m.testBit u with
    | false => rfl
    | true =>
      cases c : (yN f t).testBit u with
      | false => rfl
      | true =>
        exfalso
        obtain ⟨c1, c2⟩ := hf.mp c
        have : (yN g t).testBit u = true := hg.mpr ⟨c1, fun d => by
          rcases (h u c1).mp d with e | e
          · exact (nBit0 hm (by omega)).mp e b
          · exact c2 e⟩
        rw [this] at a; cases a
theorem yOr {f g k : Nat → Int32} {t : Nat} (h : ∀ u, u < t → (k u = 0 ↔ (f u = 0 ∧ g u = 0))) : yN f t ||| yN g t = yN k t := by
  refine Nat.eq_of_testBit_eq (fun u => ?_)
  rw [Nat.testBit_or]
  have hf := yN_bit (f := f) (i := u) t
  have hg := yN_bit (f := g) (i := u) t
  have hk := yN_bit (f := k) (i := u) t
  cases a : (yN f t).testBit u with
  | true =>
    obtain ⟨a1, a2⟩ := hf.mp a
    rw [hk.mpr ⟨a1, fun c => a2 ((h u a1).mp c).1⟩]; rfl
  | false =>
    cases b : (yN g t).testBit u with
    | true =>
      obtain ⟨b1, b2⟩ := hg.mp b
      rw [hk.mpr ⟨b1, fun c => b2 ((h u b1).mp c).2⟩]; rfl
    | false =>
      cases c : (yN k t).testBit u with
      | false => rfl
      | true =>
        exfalso
        obtain ⟨c1, c2⟩ := hk.mp c
        refine c2 ((h u c1).mpr ⟨?_, ?_⟩)
        · by_cases d : f u = 0
          · exact d
          · rw [hf.mpr ⟨c1, d⟩] at a; cases a
        · by_cases d : g u = 0
          · exact d
          · rw [hg.mpr ⟨c1, d⟩] at b; cases b
section XWD
variable {t : Nat} {r : zRr} {q : zRq} {T : Nat → Nat}
theorem kWid {x : Nat} (h9 : r 171 9 = nI t) (ht : t ≤ 6) (h2 : ∀ i, i < t → r 202 i = nI (T i)) (hT : ∀ i, T i < 2 ^ t) (hx : x < 2 ^ t) : Gk_widen (nI x) r q = nI (yF T x t) := by
  have k : ∀ n i, i ≤ t → t < n + i → Gk_widen_4 (nI x) r n (nI (yF T x i)) (nI i) = nI (yF T x t) := by
    intro n
    induction n with
    | zero => intro i h1 h2; omega
    | succ n ih =>
      intro i h1 h3
      have e0 : Gk_widen_4 (nI x) r (n + 1) (nI (yF T x i)) (nI i) = Bk_widen_4 (nI x) r (Gk_widen_4 (nI x) r n) (nI (yF T x i)) (nI i) := rfl
      rw [e0]
      unfold Bk_widen_4 Gk_widen_32
      simp only [zletQ, zifQ, h9, nI_1, xzn (show i < 2 ^ 31 by omega), xh0]
      by_cases e : i = t
      · subst e; rw [if_pos (nI_leP (by omega) (by omega) (by omega))]
      · rw [if_neg (nI_leN (by omega) (by omega) (by omega))]
        have hb := nBit0 (m := x) (i := i) (p64 ht hx) (by omega)
        have hs := yF_s (T := T) (x := x) (n := i)
        by_cases c : x.testBit i = true
        · rw [if_neg (fun h => hb.mp h c), h2 i (by omega), nOr (p64 ht (yF_lt hT hx i)) (p64 ht (hT i))]
          rw [if_pos c] at hs
          rw [← hs]
          exact ih (i + 1) (by omega) (by omega)
        · rw [if_pos (hb.mpr c)]
          rw [if_neg c] at hs
          rw [← hs]
          exact ih (i + 1) (by omega) (by omega)
  unfold Gk_widen
  exact k 7 0 (by omega) (by omega)
theorem kSpd {x : Nat} (h9 : r 171 9 = nI t) (ht : t ≤ 6) (h2 : ∀ i, i < t → r 202 i = nI (T i)) (hT : ∀ i, T i < 2 ^ t) (hx : x < 2 ^ t) : Gk_spread (nI x) r q = nI (yI T t (t - 1) x) := by
  have k : ∀ n i x, x < 2 ^ t → 1 ≤ n → t < n + i → i ≤ 7 → Gk_spread_4 r q n (nI x) (nI i) = nI (yI T t (t - i) x) := by
    intro n
    induction n with
    | zero => intro i x hx h1; omega
    | succ n ih =>
      intro i x hx h1 h3 h4
      have e0 : Gk_spread_4 r q (n + 1) (nI x) (nI i) = Bk_spread_4 r q (Gk_spread_4 r q n) (nI x) (nI i) := rfl
      rw [e0]
      unfold Bk_spread_4
      simp only [zletQ, zifQ, h9, nI_1]
      by_cases e : t ≤ i
      · rw [if_pos (nI_leP e (by omega) (by omega)), show t - i = 0 by omega]; rfl
      · rw [if_neg (nI_leN e (by omega) (by omega)), kWid h9 ht h2 hT hx, show t - i = t - (i + 1) + 1 by omega, yI_s]
        exact ih (i + 1) _ (yF_lt hT hx t) (by omega) (by omega) (by omega)
  unfold Gk_spread
  exact k 6 1 x hx (by omega) (by omega) (by omega)
end XWD
section XLYA
variable {Lf : xLT} {t p : Nat} {E S : Nat → Nat → Int32} {r : zRr} {q : zRq}
theorem kLayA (hE : xCe Lf t p E r) (hS : xCs t p 0 S r) (hR : xRd t E) {mo : Int32} {j : Nat} (hj : j < p) : zFr [182, 202] r (Gk_layA (nI j) mo r q) ∧ ∀ i, i < t → Gk_layA (nI j) mo r q 202 i = nI (sT Lf t p E S mo j i) := by
  have ht : t ≤ 6 := hE.2.1.1
  have hp : p ≤ 6 := hE.2.1.2
  have f0 : zFr [182, 202] r (zset r 202 (zfl (r 202) 0 6)) := zFr.refl.set rfl
  have z0 : ∀ i, i < t → zset r 202 (zfl (r 202) 0 6) 202 i = 0 := fun i hi => by
    rw [zset_eq]; exact if_pos (by omega)
  have k5 : zset r 202 (zfl (r 202) 0 6) 175 j = E 2 j := by rw [zset_ne (by decide)]; exact hE.2.2.2.1 j hj
  unfold Gk_layA
  simp only [zletQ, zifQ, xzn (show j < 2 ^ 31 by omega), k5]
  generalize zset r 202 (zfl (r 202) 0 6) = r26 at f0 z0 ⊢
  by_cases h1 : E 2 j = 1
  · rw [if_pos h1]
    have k := xLpS (p := p) (G := Gk_layA_78 mo q) (I := fun k r1 => zFr [182, 202] r r1 ∧ ∀ i, i < t → r1 202 i = nI (yN (fun u => if (E 1 i >>> (nI u &&& 31)) &&& 1 = 0 then 0 else yB (sVo Lf E S mo (nI i) u) k) t)) (Q := fun r1 => zFr [182, 202] r r1 ∧ ∀ i, i < t → r1 202 i = nI (sT Lf t p E S mo j i)) (by
      intro n k r2 hk ⟨f2, c2⟩
      have e0 : Gk_layA_78 mo q (n + 1) (nI k) r2 = Bk_layA_78 mo q (Gk_layA_78 mo q n) (nI k) r2 := rfl
      have hE2 := hE.fr f2 (by decide)
      have hS2 := hS.sA f2 rfl rfl rfl rfl rfl rfl
      have g5 := hE2.2.2.2.1 k hk
      have g7 : r2 1 k = S 1 k := (hS2.2 k hk).2.1
      obtain ⟨a, ha, ea⟩ := (hS2.2 k hk).1
      rw [e0]
      unfold Bk_layA_78 Gk_layA_145
      simp only [zletQ, zifQ, hE2.1.2.1, nI_1, xzn (show k < 2 ^ 31 by omega), g5, g7, ea, xzn (show a < 2 ^ 31 by omega)]
      rw [if_neg (nI_leN (by omega) (by omega) (by omega))]
      by_cases hk1 : E 2 k = 1
      · rw [if_pos hk1]
        refine ⟨r2, ⟨f2, fun i hi => ?_⟩, rfl⟩
        rw [c2 i hi]
        refine congrArg nI (yN_eq t (fun u _ => ?_))
        have e1 : yB (sVo Lf E S mo (nI i) u) (k + 1) = yB (sVo Lf E S mo (nI i) u) k := by
          rw [yB_s, if_pos (show sVo Lf E S mo (nI i) u k = 0 from if_pos hk1)]
        rw [e1]
      · rw [if_neg hk1]
        obtain ⟨r3, f3, e3⟩ := kOpA (q := q) hE2 hS2 (mo := mo) hk
        rw [e3, xcvr (r := r3)]
        have f4 : zFr [182, 202] r r3 := f2.tr f3 (by decide)
        refine ⟨zset r3 202 (upd (r3 202) a (r2 202 a ||| r2 173 a &&& yB (fun i => sAl Lf E S mo k i) t)), ⟨f4.set rfl, fun i hi => ?_⟩, rfl⟩
        rw [zset_eq, f3 202 rfl]
        by_cases e : i = a
        · subst e
          obtain ⟨m, hm0, em⟩ := hR i hi
          have hm := p64 ht hm0
          have er : r2 173 i = nI m := by rw [(hE2.2.2.1 i hi).2]; exact em
          rw [pk_us, c2 i hi, er, yB_N t ht, nAnd hm (p64 ht (yN_lt t)), yAnd (g := fun u => if (E 1 i >>> (nI u &&& 31)) &&& 1 = 0 then 0 else sAl Lf E S mo k u) hm ht (fun u _ => by
            show (if (E 1 i >>> (nI u &&& 31)) &&& 1 = 0 then 0 else sAl Lf E S mo k u) = 0 ↔ _
            rw [em]
            by_cases c : (nI m >>> (nI u &&& 31)) &&& 1 = 0
            · rw [if_pos c]; exact ⟨fun _ => Or.inl c, fun _ => rfl⟩
            · rw [if_neg c]; exact ⟨fun h => Or.inr h, fun h => h.resolve_left c⟩), nOr (p64 ht (yN_lt t)) (p64 ht (yN_lt t))]
          refine congrArg nI (yOr (fun u _ => ?_))
          by_cases c : (E 1 i >>> (nI u &&& 31)) &&& 1 = 0
          · rw [if_pos c, if_pos c, if_pos c]; exact ⟨fun _ => ⟨rfl, rfl⟩, fun _ => rfl⟩
          · rw [if_neg c, if_neg c, if_neg c, yB_0 (by omega)]
            have e1 : sVo Lf E S mo (nI i) u k = sAl Lf E S mo k u := by
              show (if E 2 k = 1 then 0 else if S 1 k = nI i then sAl Lf E S mo k u else 0) = _
              rw [if_neg hk1, if_pos ea]
            rw [e1]
        · rw [pk_un e, c2 i hi]
          refine congrArg nI (yN_eq t (fun u _ => ?_))
          have e1 : sVo Lf E S mo (nI i) u k = 0 := by
            show (if E 2 k = 1 then 0 else if S 1 k = nI i then sAl Lf E S mo k u else 0) = _
            rw [if_neg hk1, if_neg (fun h => e ((nI_eq (by omega) (by omega)).mp (h.symm.trans ea)))]
          rw [yB_s, if_pos e1]) (by
      intro n r2 ⟨f2, c2⟩
      have e0 : Gk_layA_78 mo q (n + 1) (nI p) r2 = Bk_layA_78 mo q (Gk_layA_78 mo q n) (nI p) r2 := rfl
      have hE2 := hE.fr f2 (by decide)
      rw [e0]
      unfold Bk_layA_78
      simp only [zletQ, zifQ, hE2.1.2.1]
      rw [if_pos (nI_leP (by omega) (by omega) (by omega))]
      refine ⟨f2, fun i hi => ?_⟩
      rw [c2 i hi]
      refine congrArg nI (yN_eq t (fun u _ => ?_))
      show (if (E 1 i >>> (nI u &&& 31)) &&& 1 = 0 then 0 else yB (sVo Lf E S mo (nI i) u) p) = 0 ↔ (if (E 1 i >>> (nI u &&& 31)) &&& 1 = 0 then 0 else sLe Lf p E S mo (nI i) j u) = 0
      have e1 : sLe Lf p E S mo (nI i) j u = if yB (sVo Lf E S mo (nI i) u) p = 0 then 0 else 1 := if_pos h1
      by_cases c : (E 1 i >>> (nI u &&& 31)) &&& 1 = 0
      · rw [if_pos c, if_pos c]
      · rw [if_neg c, if_neg c, e1]
        by_cases d : yB (sVo Lf E S mo (nI i) u) p = 0
        · rw [if_pos d]; exact ⟨fun _ => rfl, fun _ => d⟩
        · rw [if_neg d]; exact ⟨fun h => absurd h d, fun h => absurd h (by decide)⟩) 7 0 r26 (by omega) (by omega) ⟨f0, fun i hi => ?_⟩
    · exact k
    · rw [z0 i hi]
      have : yN (fun u => if (E 1 i >>> (nI u &&& 31)) &&& 1 = 0 then 0 else yB (sVo Lf E S mo (nI i) u) 0) t = yN (fun _ => 0) t := yN_eq t (fun u _ => by
        show (if (E 1 i >>> (nI u &&& 31)) &&& 1 = 0 then (0 : Int32) else 0) = 0 ↔ (0 : Int32) = 0
        rw [ite_self])
      rw [this]
      have z : ∀ n, yN (fun _ => 0) n = 0 := by
        intro n
        induction n with
        | zero => rfl
        | succ n ih => rw [yN_s, if_pos rfl]; exact ih
      rw [z]; rfl
  · rw [if_neg h1]
    have hE2 := hE.fr f0 (by decide)
    have hS2 := hS.sA f0 rfl rfl rfl rfl rfl rfl
    obtain ⟨r3, f3, e3⟩ := kOpA (q := q) hE2 hS2 (mo := mo) hj
    rw [e3, xcvr (r := r3)]
    have f4 : zFr [182, 202] r r3 := f0.tr f3 (by decide)
    exact xLpS (p := t) (G := fun n i r => Gk_layA_36 n (yB (fun i => sAl Lf E S mo j i) t) i r) (I := fun k r1 => zFr [182, 202] r r1 ∧ ∀ i, i < k → r1 202 i = nI (sT Lf t p E S mo j i)) (Q := fun r1 => zFr [182, 202] r r1 ∧ ∀ i, i < t → r1 202 i = nI (sT Lf t p E S mo j i)) (by
      intro n k r2 hk ⟨f2, c2⟩
      have e0 : Gk_layA_36 (n + 1) (yB (fun i => sAl Lf E S mo j i) t) (nI k) r2 = Bk_layA_36 (Gk_layA_36 n) (yB (fun i => sAl Lf E S mo j i) t) (nI k) r2 := rfl
      have hE3 := hE.fr f2 (by decide)
      obtain ⟨m, hm0, em⟩ := hR k hk
      have hm := p64 ht hm0
      have er : r2 173 k = nI m := by rw [(hE3.2.2.1 k hk).2]; exact em
      show ∃ r1, _ ∧ Gk_layA_36 (n + 1) (yB (fun i => sAl Lf E S mo j i) t) (nI k) r2 = Gk_layA_36 n (yB (fun i => sAl Lf E S mo j i) t) (nI (k + 1)) r1
      rw [e0]
      unfold Bk_layA_36
      simp only [zletQ, zifQ, hE3.1.1, nI_1, xzn (show k < 2 ^ 31 by omega)]
      rw [if_neg (nI_leN (by omega) (by omega) (by omega))]
      refine ⟨_, ⟨f2.set rfl, fun i hi => ?_⟩, rfl⟩
      rw [zset_eq]
      by_cases e : i = k
      · subst e
        rw [pk_us, er, yB_N t ht, nAnd hm (p64 ht (yN_lt t))]
        refine congrArg nI (yAnd hm ht (fun u _ => ?_))
        show (if (E 1 i >>> (nI u &&& 31)) &&& 1 = 0 then 0 else sLe Lf p E S mo (nI i) j u) = 0 ↔ _
        have e1 : sLe Lf p E S mo (nI i) j u = sAl Lf E S mo j u := if_neg h1
        rw [em, e1]
        by_cases c : (nI m >>> (nI u &&& 31)) &&& 1 = 0
        · rw [if_pos c]; exact ⟨fun _ => Or.inl c, fun _ => rfl⟩
        · rw [if_neg c]; exact ⟨fun h => Or.inr h, fun h => h.resolve_left c⟩
      · rw [pk_un e]; exact c2 i (by omega)) (by
      intro n r2 ⟨f2, c2⟩
      have e0 : Gk_layA_36 (n + 1) (yB (fun i => sAl Lf E S mo j i) t) (nI t) r2 = Bk_layA_36 (Gk_layA_36 n) (yB (fun i => sAl Lf E S mo j i) t) (nI t) r2 := rfl
      have hE3 := hE.fr f2 (by decide)
      show zFr [182, 202] r (Gk_layA_36 (n + 1) (yB (fun i => sAl Lf E S mo j i) t) (nI t) r2) ∧ ∀ i, i < t → Gk_layA_36 (n + 1) (yB (fun i => sAl Lf E S mo j i) t) (nI t) r2 202 i = nI (sT Lf t p E S mo j i)
      rw [e0]
      unfold Bk_layA_36
      simp only [zletQ, zifQ, hE3.1.1]
      rw [if_pos (nI_leP (by omega) (by omega) (by omega))]
      exact ⟨f2, c2⟩) 7 0 r3 (by omega) (by omega) ⟨f4, fun i hi => absurd hi (by omega)⟩
end XLYA
section XLYN
variable {Lf : xLT} {t p : Nat} {E S : Nat → Nat → Int32} {r : zRr} {q : zRq}
end XLYN
section XLYT
variable {Lf : xLT} {t p : Nat} {E S : Nat → Nat → Int32} {r : zRr} {q : zRq}
end XLYT
section XSPM
variable {Lf : xLT} {t p : Nat} {E S : Nat → Nat → Int32} {mo : Int32} {r0 : zRr} {q : zRq}
end XSPM
end
section
/-! ===== answers: reach, shaven, stricter, frontiers, trapped ===== -/
section XRCH
variable {Lf : xLT} {t p : Nat} {E S : Nat → Nat → Int32} {r : zRr} {q : zRq}
end XRCH
theorem two0 (a : Nat) : (2 : Nat) ^ a ≠ 0 := Nat.pos_iff_ne_zero.mp (Nat.two_pow_pos a)
section XAQ
variable {t p : Nat} {r rm : zRr} {q qm : zRq}
theorem xHow.R (h : xHow t p r q rm qm) : xRd t (sE r) := fun i hi => (h.1.2.2.2.1 i hi).2.1.2
end XAQ
end
section
/-! ===== answers: when ===== -/
theorem yI_le {T : Nat → Nat} {t u : Nat} : ∀ k x, x.testBit u = true → (yI T t k x).testBit u = true := by
  intro k
  induction k with
  | zero => intro x h; exact h
  | succ k ih => intro x h; rw [yI_s]; exact ih _ (yF_le h t)
section XWN
variable {Lf : xLT} {t p : Nat} {E : Nat → Nat → Int32}
/-- weeks later -/
noncomputable def sWs (E S : Nat → Nat → Int32) : Nat → Nat → Nat → Int32
  | 0 => S
  | w + 1 => sWk E (sWs E S w)
end XWN
section XWM
variable {Lf : xLT} {t p : Nat} {E S : Nat → Nat → Int32} {rm0 : zRr} {q : zRq}
end XWM
section XWK3
variable {Lf : xLT} {t p : Nat} {E S : Nat → Nat → Int32} {q : zRq}
end XWK3
/-- roads as numbers -/
noncomputable def sRn (t : Nat) (E : Nat → Nat → Int32) (i : Nat) : Nat := if i < t then zn (E 1 i) else 0
theorem sRn_e {t : Nat} {E : Nat → Nat → Int32} (hR : xRd t E) (ht : t ≤ 6) {i : Nat} (hi : i < t) : sRn t E i < 2 ^ t ∧ E 1 i = nI (sRn t E i) := by
  obtain ⟨m, hm, em⟩ := hR i hi
  have h64 := p64 ht hm
  have e : sRn t E i = m := by
    unfold sRn; rw [if_pos hi, em]; exact xzn (by omega)
  rw [e]; exact ⟨hm, em⟩
theorem sRn_lt {t : Nat} {E : Nat → Nat → Int32} (hR : xRd t E) (ht : t ≤ 6) : ∀ i, sRn t E i < 2 ^ t := by
  intro i
  by_cases h : i < t
  · exact (sRn_e hR ht h).1
  · unfold sRn; rw [if_neg h]; exact Nat.two_pow_pos t
theorem sT_in {Lf : xLT} {t p : Nat} {E S : Nat → Nat → Int32} {mo : Int32} {j : Nat} (hR : xRd t E) (ht : t ≤ 6) : ∀ i, i < t → ∀ u, (sT Lf t p E S mo j i).testBit u = true → (sRn t E i).testBit u = true := by
  intro i hi u h
  obtain ⟨h1, h2⟩ := (yN_bit t).mp h
  obtain ⟨r1, r2⟩ := sRn_e hR ht hi
  have hb := nBit0 (m := sRn t E i) (i := u) (p64 ht r1) (by omega)
  rw [← r2] at hb
  by_cases c : (sRn t E i).testBit u = true
  · exact c
  · exact absurd (show sSp Lf p E S mo j i u = 0 from if_pos (hb.mpr c)) h2
section XWF
variable {Lf : xLT} {t p : Nat} {E S : Nat → Nat → Int32} {r : zRr} {q : zRq}
end XWF
end
