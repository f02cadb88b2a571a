/-! ===== how it is, all of it, on both sides ===== -/
noncomputable def sL (r : zRr) : xLT := fun a1 a2 a3 a4 => (Gk_passes a1 a2 a3 a4 r (fun _ _ => 0)).1
noncomputable def sE (r : zRr) : Nat → Nat → Int32 := fun k => if k = 0 then r 172 else if k = 1 then r 173 else if k = 2 then r 175 else if k = 3 then (fun i => if i = 0 then r 171 11 else r 171 12) else if k = 4 then r 176 else if k = 5 then r 177 else r 178
def xHow (t p : Nat) (r : zRr) (q : zRq) (rm : zRr) (qm : zRq) : Prop := xTd t p r q rm qm ∧ xSt t p 6 r (rm 32) ∧ xPs t p r rm ∧ xMr t p r rm ∧ xPl t p 138 0 r rm ∧ rm 152 0 = 0
section XHW
variable {t p : Nat} {r r1 rm rm1 : zRr} {q q1 qm qm1 : zRq}
theorem xLw.eq (h : xLw r rm) (e1 : r1 180 = r 180) (e2 : r1 181 = r 181) (m1 : rm1 10 = rm 10) (m2 : rm1 11 = rm 11) (m3 : rm1 12 = rm 12) : xLw r1 rm1 := by
  unfold xLw at h ⊢
  rw [e1, e2, m1, m2, m3]; exact h
theorem xCe.of (hD : xTd t p r q rm qm) : xCe (sL r) t p (sE r) r ∧ xMe (sL r) t p (sE r) (rm 152 0) rm ∧ xCh t p (sE r) r ∧ xMh t p (sE r) rm := by
  obtain ⟨⟨a1, a2, a3⟩, ⟨b1, b2, b3⟩, ⟨c1, c2⟩, d, e, f⟩ := hD
  refine ⟨⟨⟨a1, b1, rfl, rfl⟩, ⟨a3, b3⟩, fun i hi => ⟨rfl, rfl⟩, fun j hj => rfl, fun r1 k1 k2 x1 x2 x3 x4 q1 => ?_⟩, ⟨⟨a2, b2, c1.symm, c2.symm⟩, ⟨a3, b3⟩, fun i hi => ⟨(d i hi).1.symm, (d i hi).2.1.1.symm⟩, fun j hj => (e j hj).1.symm, rfl, fun r1 k1 k2 k3 x1 x2 x3 q1 => ?_⟩, fun j hj => ⟨(e j hj).2.1.2, rfl, rfl, rfl⟩, fun j hj => ⟨(e j hj).2.1.2, (e j hj).2.1.1.symm, (e j hj).2.2.1.symm, (e j hj).2.2.2.1.symm⟩⟩
  · have e4 : zset rm 32 (fun _ => x4) 32 0 = x4 := by rw [zset_eq]
    have hL1 : xLw r1 (zset rm 32 (fun _ => x4)) := f.eq k1 k2 rfl rfl rfl
    have hL0 : xLw r (zset rm 32 (fun _ => x4)) := f.eq rfl rfl rfl rfl rfl
    obtain ⟨v1, f1, _⟩ := xLawV (a1 := x1) (a2 := x2) (a3 := x3) (q := q1) (qm := fun _ _ => 0) hL1
    obtain ⟨v0, _, _⟩ := xLawV (a1 := x1) (a2 := x2) (a3 := x3) (q := fun _ _ => 0) (qm := fun _ _ => 0) hL0
    rw [e4] at v1 f1 v0
    exact ⟨v1.trans v0.symm, f1⟩
  · have hL : xLw r r1 := f.eq rfl rfl k1 k2 k3
    obtain ⟨v, _, g⟩ := xLawV (a1 := x1) (a2 := x2) (a3 := x3) (q := fun _ _ => 0) (qm := q1) hL
    exact ⟨v.symm, g⟩
theorem xHow.le (h : xHow t p r q rm qm) : t ≤ 6 ∧ p ≤ 6 := ⟨h.1.1.2.2, h.1.2.1.2.2⟩
theorem xHow.fr {M : List Nat} (h : xHow t p r q rm qm) (k : ∀ a, (6 ≤ a ∧ a < 12) ∨ (18 ≤ a ∧ a < 142) ∨ (146 ≤ a ∧ a < 182) ∨ a = 195 → r1 a = r a) (m32 : zRs rm rm1) (m152 : rm1 152 0 = 0) (m : zFr M rm rm1) (hM : ([1, 4, 5, 6, 7, 8, 9, 10, 11, 12, 25, 26, 27, 28, 35, 36, 37, 151].all fun k => !M.contains k) = true) : xHow t p r1 q rm1 qm := by
  have hp := h.le.2
  have g : ∀ a, [1, 4, 5, 6, 7, 8, 9, 10, 11, 12, 25, 26, 27, 28, 35, 36, 37, 151].contains a = true → rm1 a = rm a := fun a ha => m a (by
    have := List.all_eq_true.mp hM a (List.contains_iff_mem.mp ha)
    revert this
    cases M.contains a with
    | false => intro _; rfl
    | true => intro h; cases h)
  obtain ⟨hD, h6, hP, hR, hL, h0⟩ := h
  have g26 : ∀ c, 26 ≤ c → c ≤ 28 → rm1 c = rm c := fun c c1 c2 => by
    rcases (show c = 26 ∨ c = 27 ∨ c = 28 by omega) with rfl | rfl | rfl <;> exact g _ rfl
  have g4 : ∀ c, 4 ≤ c → c ≤ 12 → rm1 c = rm c := fun c c1 c2 => by
    rcases (show c = 4 ∨ c = 5 ∨ c = 6 ∨ c = 7 ∨ c = 8 ∨ c = 9 ∨ c = 10 ∨ c = 11 ∨ c = 12 by omega) with rfl | rfl | rfl | rfl | rfl | rfl | rfl | rfl | rfl <;> exact g _ rfl
  refine ⟨hD.fr ⟨fun a h1 h2 => k a (by omega), rfl, rfl⟩ (xLow.of (g 1 rfl) g4 rfl rfl), h6.eq hp (fun i hi => k _ (by omega)) m32, hP.fr hp (fun a h1 h2 => k a (by omega)) (k 195 (by omega)) (g 36 rfl) (by rw [g 151 rfl]), hR.fr hp (fun a h1 h2 h3 => k a (by omega)) (g 35 rfl) (g 37 rfl) (fun o _ _ => by rw [g 25 rfl]) (fun c i c1 c2 _ _ => by rw [g26 c c1 c2]), hL.fr (fun i hi => k _ (by omega)) (by rw [g 25 rfl]) (fun c i c1 c2 _ => by rw [g26 c c1 c2]), m152⟩
theorem xHow.f182 (h : xHow t p r q rm qm) (k : zFr [182] r r1) (m : zFr [15, 16, 17, 18, 19, 20, 21, 22, 23, 24, 100] rm rm1) : xHow t p r1 q rm1 qm := by
  refine h.fr (fun a ha => k a ?_) (fun i _ => by rw [m 32 rfl]) (by rw [m 152 rfl]; exact h.2.2.2.2.2) m (by decide)
  cases e : [182].contains a with
  | false => rfl
  | true =>
    have := List.contains_iff_mem.mp e
    simp only [List.mem_cons, List.not_mem_nil, or_false] at this
    omega
theorem xHow.z100 (h : xHow t p r q rm qm) : xHow t p r q (zset rm 100 (fun _ => 0)) qm := h.f182 zFr.refl (zFr.refl.set rfl)
/-- before a change: what is now is kept -/
theorem xHow.rem (h : xHow t p r q rm qm) : ∃ S, (xCs t p 6 S r ∧ xMs t p S (rm 32)) ∧ xCs t p 6 S (Gk_remember r q) ∧ xMs t p S (Gm_keeps rm qm 32) ∧ xZr p (Gm_keeps rm qm 32) := by
  have hp := h.le.2
  obtain ⟨hD, h6, hP, _⟩ := h
  obtain ⟨q1, q2, q3⟩ := xRem (q := q) (qm := qm) h6 hP hp
  obtain ⟨S, s1, s2, s3⟩ := h6
  exact ⟨S, ⟨s1, s2⟩, s1.eq (fun i hi => q2 _ (by omega) (by omega)), s2.fr (q3 32 rfl), by rw [q3 32 rfl]; exact s3⟩
theorem xHow.mv (h : xHow t p r q rm qm) (k : ∀ a, 12 ≤ a → r1 a = Gk_remember r q a) (m : zFr [32] (Gm_keeps rm qm) rm1) (hS : xSt t p 6 r1 (rm1 32)) : xHow t p r1 q rm1 qm := by
  have hp := h.le.2
  obtain ⟨hD, h6, hP, hR, hL, h0⟩ := h
  obtain ⟨q1, q2, q3⟩ := xRem (q := q) (qm := qm) h6 hP hp
  have g : zFr [32, 36, 151] rm rm1 := (q3.up (by decide)).tr m (by decide)
  have k' : ∀ a, 114 ≤ a → a ≠ 195 → r1 a = r a := fun a a1 a2 => (k a (by omega)).trans (q2 a (by omega) a2)
  have g26 : ∀ c, 26 ≤ c → c ≤ 28 → rm1 c = rm c := fun c c1 c2 => by
    rcases (show c = 26 ∨ c = 27 ∨ c = 28 by omega) with rfl | rfl | rfl <;> exact g _ rfl
  refine ⟨hD.fr ⟨fun a h1 h2 => k' a (by omega) (by omega), rfl, rfl⟩ (xLow.of_ g rfl (by decide)), hS, q1.fr hp (fun a a1 a2 => k a (by omega)) (k 195 (by omega)) (m 36 rfl) (by rw [m 151 rfl]), hR.fr hp (fun a h1 h2 h3 => k' a (by omega) (by omega)) (g 35 rfl) (g 37 rfl) (fun o _ _ => by rw [g 25 rfl]) (fun c i c1 c2 _ _ => by rw [g26 c c1 c2]), hL.fr (fun i hi => k' _ (by omega) (by omega)) (by rw [g 25 rfl]) (fun c i c1 c2 _ => by rw [g26 c c1 c2]), by rw [g 152 rfl]; exact h0⟩
theorem xFrHi {M : List Nat} (f : zFr M r r1) (h : (M.all fun k => Nat.ble k 11) = true) : ∀ a, 12 ≤ a → r1 a = r a := fun a ha => f a (by
  cases e : M.contains a with
  | false => rfl
  | true =>
    have := Nat.le_of_ble_eq_true (List.all_eq_true.mp h a (List.contains_iff_mem.mp e))
    omega)
theorem xHow.isP (h : xHow t p r q rm qm) (a : Int32) : Gk_isPerson a r q = Gm_isPerson a (zset rm 100 (fun _ => 0)) qm := xPersK (h.1.2.1.1.trans h.1.2.1.2.1.symm)
theorem xHow.isT (h : xHow t p r q rm qm) (a : Int32) : Gk_isTown a r q = Gm_isTown a (zset rm 100 (fun _ => 0)) qm := xTownK (h.1.1.1.trans h.1.1.2.1.symm)
theorem xHow.pI (h : xHow t p r q rm qm) {a : Int32} (c : ¬ Gm_isPerson a (zset rm 100 (fun _ => 0)) qm = 0) : ∃ j, j < p ∧ a = nI j := xPersI (p := p) c h.1.2.1.2.1 h.le.2
theorem xHow.tI (h : xHow t p r q rm qm) {a : Int32} (c : ¬ Gm_isTown a (zset rm 100 (fun _ => 0)) qm = 0) : ∃ j, j < t ∧ a = nI j := xTownI (t := t) c h.1.1.2.1 h.le.1
theorem xHow.E (h : xHow t p r q rm qm) : xCe (sL r) t p (sE r) r ∧ xMe (sL r) t p (sE r) 0 rm := by
  obtain ⟨k1, k2, _⟩ := xCe.of h.1
  rw [h.2.2.2.2.2] at k2
  exact ⟨k1, k2⟩
/-- what a move leaves -/
def xK1 (r r1 : zRr) : Prop := ∀ a, 114 ≤ a → a ≠ 182 → a ≠ 195 → r1 a = r a
theorem xK1.refl : xK1 r r := fun _ _ _ _ => rfl
theorem xK1.of (f : zFr [182] r r1) : xK1 r r1 := fun a a1 a2 _ => f a (by
  cases e : [182].contains a with
  | false => rfl
  | true =>
    have := List.contains_iff_mem.mp e
    simp only [List.mem_cons, List.not_mem_nil, or_false] at this
    omega)
theorem xHow.k1 (h : xHow t p r q rm qm) (k : ∀ a, 12 ≤ a → r1 a = Gk_remember r q a) : xK1 r r1 := by
  obtain ⟨_, q2, _⟩ := xRem (q := q) (qm := qm) h.2.1 h.2.2.1 h.le.2
  exact fun a a1 a2 a3 => (k a (by omega)).trans (q2 a (by omega) a3)
theorem xK1.tr {r2 : zRr} (h : xK1 r r1) (k : xK1 r1 r2) : xK1 r r2 := fun a a1 a2 a3 => (k a a1 a2 a3).trans (h a a1 a2 a3)
/-- go -/
theorem xGoW {a b : Int32} (h : xHow t p r q rm qm) : (Gk_go a b r q).1 = (Gm_go a b rm qm).1 ∧ xHow t p (Gk_go a b r q).2 q (Gm_go a b rm qm).2 qm ∧ xK1 r (Gk_go a b r q).2 := by
  have h1 := h.z100
  unfold Gk_go Gm_go
  simp only [zletQ, zifQ, zifnQ]
  rw [h.isP a, h.isT b]
  by_cases c1 : Gm_isPerson a (zset rm 100 (fun _ => 0)) qm = 0
  · rw [if_pos c1, if_pos c1]; exact ⟨rfl, h1, xK1.refl⟩
  rw [if_neg c1, if_neg c1]
  by_cases c2 : Gm_isTown b (zset rm 100 (fun _ => 0)) qm = 0
  · rw [if_pos c2, if_pos c2]; exact ⟨rfl, h1, xK1.refl⟩
  rw [if_neg c2, if_neg c2]
  obtain ⟨j, hj, ea⟩ := h.pI c1
  obtain ⟨i, hi, eb⟩ := h.tI c2
  subst ea
  subst eb
  obtain ⟨hE, hE'⟩ := h1.E
  obtain ⟨S, s1, s2, _⟩ := h1.2.1
  obtain ⟨r3, f3, e3⟩ := kGoN (q := q) hE s1 hj hi
  obtain ⟨m3, g3, k3⟩ := mGo (q := qm) hE' s2 hj hi
  have h3 : xHow t p r3 q m3 qm := h1.f182 f3 (g3.up (by decide))
  rw [e3, k3, xcvr (r := r3), xcvr (r := m3)]
  by_cases c3 : sGo (sL r) p (sE r) S 0 j i = 0
  · rw [if_pos c3, if_pos c3]; exact ⟨rfl, h3, xK1.of f3⟩
  · rw [if_neg c3, if_neg c3]
    obtain ⟨S3, _, u1, u2, u3⟩ := h3.rem
    obtain ⟨v1, v2⟩ := kMvN (q := q) u1 hj h3.le.2 hi
    obtain ⟨w1, w2, w3⟩ := mMv (r := Gm_keeps m3 qm) (q := qm) u2 u3 hj h3.le.2 hi
    exact ⟨rfl, h3.mv (xFrHi v2 rfl) w3 ⟨_, v1, w1, w2⟩, (xK1.of f3).tr (h3.k1 (xFrHi v2 rfl))⟩
/-- shave -/
theorem xShW {a : Int32} (h : xHow t p r q rm qm) : (Gk_shave a r q).1 = (Gm_shave a rm qm).1 ∧ xHow t p (Gk_shave a r q).2 q (Gm_shave a rm qm).2 qm ∧ xK1 r (Gk_shave a r q).2 := by
  have h1 := h.z100
  unfold Gk_shave Gm_shave
  simp only [zletQ, zifnQ]
  rw [h.isP a]
  by_cases c1 : Gm_isPerson a (zset rm 100 (fun _ => 0)) qm = 0
  · rw [if_pos c1, if_pos c1]; exact ⟨rfl, h1, xK1.refl⟩
  rw [if_neg c1, if_neg c1]
  obtain ⟨j, hj, ea⟩ := h.pI c1
  subst ea
  obtain ⟨S3, _, u1, u2, u3⟩ := h1.rem
  obtain ⟨v1, v2⟩ := kRzN (q := q) u1 hj h1.le.2
  obtain ⟨w1, w2, w3⟩ := mRz (r := Gm_keeps (zset rm 100 (fun _ => 0)) qm) (q := qm) u2 u3 hj h1.le.2
  exact ⟨rfl, h1.mv (xFrHi v2 rfl) w3 ⟨_, v1, w1, w2⟩, h1.k1 (xFrHi v2 rfl)⟩
theorem xCe.rem {Lf : xLT} {E : Nat → Nat → Int32} {n : Nat} (h : xCe Lf t p E r) (k : ∀ a, 114 ≤ a → a ≠ 195 → r1 a = r a) : xCe Lf t p E r1 := by
  obtain ⟨h1, h3, h4, h5, h6⟩ := h
  refine ⟨by rw [k 171 (by omega) (by omega)]; exact h1, h3, fun i hi => ?_, fun j hj => ?_, fun r2 k1 k2 => h6 r2 (by rw [k1, k 180 (by omega) (by omega)]) (by rw [k2, k 181 (by omega) (by omega)])⟩
  · rw [k 172 (by omega) (by omega), k 173 (by omega) (by omega)]; exact h4 i hi
  · rw [k 175 (by omega) (by omega)]; exact h5 j hj
/-- week -/
theorem xWkW (h : xHow t p r q rm qm) : (Gk_week r q).1 = (Gm_week rm qm).1 ∧ xHow t p (Gk_week r q).2 q (Gm_week rm qm).2 qm ∧ xK1 r (Gk_week r q).2 := by
  have h1 := h.z100
  have hp := h.le.2
  unfold Gk_week Gm_week
  simp only [zletQ]
  obtain ⟨S3, _, u1, u2, u3⟩ := h1.rem
  obtain ⟨q1, q2, q3⟩ := xRem (q := q) (qm := qm) h1.2.1 h1.2.2.1 hp
  obtain ⟨hE, hE'⟩ := h1.E
  have hE2 : xCe (sL r) t p (sE r) (Gk_remember r q) := hE.rem (n := 0) (fun a a1 a2 => q2 a (by omega) a2)
  have hE3 : xMe (sL r) t p (sE r) 0 (Gm_keeps (zset rm 100 (fun _ => 0)) qm) := hE'.fr q3 (by decide)
  obtain ⟨v1, v2⟩ := kWkN (q := q) hE2 u1
  obtain ⟨w1, w2, w3⟩ := mWk (q := qm) hE3 u2 u3
  exact ⟨v1.1.trans w1.1.symm, h1.mv (xFrHi v2 rfl) w3 ⟨_, v1, w1, w2⟩, h1.k1 (xFrHi v2 rfl)⟩
/-- undo -/
theorem xUnW (h : xHow t p r q rm qm) : (Gk_undo r q).1 = (Gm_undo rm qm).1 ∧ xHow t p (Gk_undo r q).2 q (Gm_undo rm qm).2 qm ∧ xK1 r (Gk_undo r q).2 := by
  have hp := h.le.2
  obtain ⟨hD, h6, hP, hR, hL, h0⟩ := h
  obtain ⟨k1, k2, k3, k4, k5⟩ := xUn (q := q) (qm := qm) h6 hP hp
  have g26 : ∀ c, 26 ≤ c → c ≤ 28 → (Gm_undo rm qm).2 c = rm c := fun c c1 c2 => by
    rcases (show c = 26 ∨ c = 27 ∨ c = 28 by omega) with rfl | rfl | rfl <;> exact k5 _ rfl
  exact ⟨k1, ⟨hD.fr ⟨fun a h1 h2 => k4 a (by omega) (by omega), rfl, rfl⟩ (xLow.of_ k5 rfl (by decide)), k2, k3, hR.fr hp (fun a h1 h2 h3 => k4 a (by omega) (by omega)) (k5 35 rfl) (k5 37 rfl) (fun o _ _ => by rw [k5 25 rfl]) (fun c i c1 c2 _ _ => by rw [g26 c c1 c2]), hL.fr (fun i hi => k4 _ (by omega) (by omega)) (by rw [k5 25 rfl]) (fun c i c1 c2 _ => by rw [g26 c c1 c2]), by rw [k5 152 rfl]; exact h0⟩, fun a a1 _ a3 => k4 a (by omega) a3⟩
end XHW
section XFG
variable {t p : Nat} {r rm : zRr} {q qm : zRq}
theorem xFgC {K fo pu inch v : Int32} (hf : zI 0 20 fo) : (if K = 1 then (0 : Int32) else if v < 1 then 0 else if 20 - fo < v then 0 else if pu < v * inch then 0 else 1) = if v < 1 then 0 else if 20 < v then 0 else if K = 1 then 0 else if pu < v * inch then 0 else if 20 < fo + v then 0 else 1 := by
  have c1 : (1 : Int32).toInt = 1 := by decide
  have c20 : (20 : Int32).toInt = 20 := by decide
  have f1 := hf.1
  have f2 := hf.2
  have es : (20 - fo).toInt = 20 - fo.toInt := by
    rw [Jvm.Kit.i32_sub (by rw [c20]; omega) (by rw [c20]; omega), c20]
  by_cases h1 : v < 1
  · rw [if_pos h1, if_pos h1]
    by_cases hk : K = 1
    · rw [if_pos hk]
    · rw [if_neg hk]
  · rw [if_neg h1, if_neg h1]
    by_cases h2 : 20 < v
    · have h3 : 20 - fo < v := by
        rw [Int32.lt_iff_toInt_lt] at h2 ⊢
        rw [c20] at h2
        omega
      rw [if_pos h2, if_pos h3]
      by_cases hk : K = 1
      · rw [if_pos hk]
      · rw [if_neg hk]
    · rw [if_neg h2]
      have v1 : 1 ≤ v.toInt := by rw [Int32.lt_iff_toInt_lt, c1] at h1; omega
      have v2 : v.toInt ≤ 20 := by rw [Int32.lt_iff_toInt_lt, c20] at h2; omega
      have ea : (fo + v).toInt = fo.toInt + v.toInt := Jvm.Kit.i32_add (by omega) (by omega)
      have e : (20 - fo < v) ↔ (20 < fo + v) := by
        rw [Int32.lt_iff_toInt_lt, Int32.lt_iff_toInt_lt, es, ea, c20]
        omega
      by_cases hk : K = 1
      · rw [if_pos hk, if_pos hk]
      · rw [if_neg hk, if_neg hk]
        by_cases h3 : 20 - fo < v
        · rw [if_pos h3]
          by_cases h4 : pu < v * inch
          · rw [if_pos h4]
          · rw [if_neg h4, if_pos (e.mp h3)]
        · rw [if_neg h3]
          by_cases h4 : pu < v * inch
          · rw [if_pos h4, if_pos h4]
          · rw [if_neg h4, if_neg h4, if_neg (fun h => h3 (e.mpr h))]
/-- forge -/
theorem xFgW {a b : Int32} (h : xHow t p r q rm qm) (hf : ∀ j, j < 6 → zI 0 20 (rm 32 (13 + j))) : (Gk_forge a b r q).1 = (Gm_forge a b rm qm).1 ∧ xHow t p (Gk_forge a b r q).2 q (Gm_forge a b rm qm).2 qm ∧ xK1 r (Gk_forge a b r q).2 := by
  have h1 := h.z100
  have hp := h.le.2
  unfold Gk_forge Gm_forge
  simp only [zletQ, zifQ, zifnQ]
  rw [h.isP a]
  by_cases c1 : Gm_isPerson a (zset rm 100 (fun _ => 0)) qm = 0
  · rw [if_pos c1, if_pos c1]; exact ⟨rfl, h1, xK1.refl⟩
  rw [if_neg c1, if_neg c1]
  obtain ⟨j, hj, ea⟩ := h.pI c1
  subst ea
  obtain ⟨hE, hE'⟩ := h1.E
  obtain ⟨S, ⟨s1, s2⟩, u1, u2, u3⟩ := h1.rem
  have n13 : (13 : Int32) + nI j = nI (13 + j) := nI_add 13 j
  have n19 : (19 : Int32) + nI j = nI (19 + j) := nI_add 19 j
  have g2 : r 175 j = sE r 2 j := hE.2.2.2.1 j hj
  have g9 : r 9 j = S 3 j := (s1.2 j hj).2.2.2.1
  have g10 : r 10 j = S 4 j := (s1.2 j hj).2.2.2.2.1
  have g12 : r 171 12 = sE r 3 1 := hE.1.2.2.2
  have k2 : zset rm 100 (fun _ => 0) 6 j = sE r 2 j := hE'.2.2.2.1 j hj
  have k9 : zset rm 100 (fun _ => 0) 32 (13 + j) = S 3 j := (s2.2 j hj).2.2.2.1
  have k10 : zset rm 100 (fun _ => 0) 32 (19 + j) = S 4 j := (s2.2 j hj).2.2.2.2.1
  have k12 : zset rm 100 (fun _ => 0) 1 3 = sE r 3 1 := hE'.1.2.2.2
  have hz : zI 0 20 (S 3 j) := by rw [← k9]; exact hf j (by omega)
  have eK : Gk_canForgeN (nI j) b r q = if sE r 2 j = 1 then (0 : Int32) else if b < 1 then 0 else if 20 - S 3 j < b then 0 else if S 4 j < b * sE r 3 1 then 0 else 1 := by
    unfold Gk_canForgeN
    simp only [zifQ, xzn (show j < 2 ^ 31 by omega), g2, g9, g10, g12]
  have eM : Gm_canForge (nI j) b (zset rm 100 (fun _ => 0)) qm = if sE r 2 j = 1 then (0 : Int32) else if S 4 j < b * sE r 3 1 then 0 else if 20 < S 3 j + b then 0 else 1 := by
    unfold Gm_canForge
    simp only [zifQ, n13, n19, xzn (show j < 2 ^ 31 by omega), xzn (show 13 + j < 2 ^ 31 by omega), xzn (show 19 + j < 2 ^ 31 by omega), k2, k9, k10, k12]
  rw [eK, eM, xFgC hz]
  unfold Gm_within
  simp only [zifQ]
  by_cases d1 : b < 1
  · simp only [if_pos d1, if_true]; exact ⟨trivial, h1, xK1.refl⟩
  simp only [if_neg d1]
  by_cases d2 : 20 < b
  · simp only [if_pos d2, if_true]; exact ⟨trivial, h1, xK1.refl⟩
  simp only [if_neg d2, if_neg (show ¬ (1 : Int32) = 0 by decide)]
  by_cases d3 : (if sE r 2 j = 1 then (0 : Int32) else if S 4 j < b * sE r 3 1 then 0 else if 20 < S 3 j + b then 0 else 1) = 0
  · rw [if_pos d3, if_pos d3]; exact ⟨rfl, h1, xK1.refl⟩
  · rw [if_neg d3, if_neg d3]
    obtain ⟨q1, q2, q3⟩ := xRem (q := q) (qm := qm) h1.2.1 h1.2.2.1 hp
    have hE2 : xCe (sL r) t p (sE r) (Gk_remember r q) := hE.rem (n := 0) (fun a a1 a2 => q2 a (by omega) a2)
    have hE3 : xMe (sL r) t p (sE r) 0 (Gm_keeps (zset rm 100 (fun _ => 0)) qm) := hE'.fr q3 (by decide)
    obtain ⟨v1, v2⟩ := kFgN (q := q) (v := b) hE2 u1 hj
    obtain ⟨w1, w2, w3⟩ := mFg (q := qm) (v := b) hE3 u2 u3 hj
    have e1 : Gk_sellN (nI j) b (Gk_remember r q) q 10 j = sFg (sE r) S j b 4 j := (v1.2 j hj).2.2.2.2.1
    have e2 : Gm_forges (nI j) b (Gm_keeps (zset rm 100 (fun _ => 0)) qm) qm 32 (19 + j) = sFg (sE r) S j b 4 j := (w1.2 j hj).2.2.2.2.1
    rw [n19, xzn (show j < 2 ^ 31 by omega), xzn (show 19 + j < 2 ^ 31 by omega)]
    exact ⟨e1.trans e2.symm, h1.mv (xFrHi v2 rfl) w3 ⟨_, v1, w1, w2⟩, h1.k1 (xFrHi v2 rfl)⟩
end XFG
