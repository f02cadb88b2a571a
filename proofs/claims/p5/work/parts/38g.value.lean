/-! ===== what a law comes to: by its tree ===== -/
theorem xopens {w : Nat} {r : zRr} {q : zRq} (hw : w ≤ 5) : xLv w r (Gm_opens (nI w) r q) ∧ Gm_opens (nI w) r q 16 w = 0 ∧ Gm_opens (nI w) r q 18 w = 0 ∧ Gm_opens (nI w) r q 19 w = 0 ∧ Gm_opens (nI w) r q 20 w = 20 ∧ Gm_opens (nI w) r q 22 w = 0 ∧ Gm_opens (nI w) r q 23 = r 23 := by
  unfold Gm_opens
  simp only [zletQ, xzn (show w < 2 ^ 31 by omega)]
  refine ⟨((((xLv.refl.set (by decide) (Nat.le_refl _)).set (by decide) (Nat.le_refl _)).set (by decide) (Nat.le_refl _)).set (by decide) (Nat.le_refl _)).set (by decide) (Nat.le_refl _), ?_, ?_, ?_, ?_, ?_, ?_⟩
  · rw [zset_ne (by decide), zset_ne (by decide), zset_ne (by decide), zset_ne (by decide), zset_eq, pk_us]
  · rw [zset_ne (by decide), zset_ne (by decide), zset_ne (by decide), zset_eq, pk_us]
  · rw [zset_ne (by decide), zset_ne (by decide), zset_eq, pk_us]
  · rw [zset_ne (by decide), zset_eq, pk_us]
  · rw [zset_eq, pk_us]
  · rw [zset_ne (by decide), zset_ne (by decide), zset_ne (by decide), zset_ne (by decide), zset_ne (by decide)]
def xM0 (q : zRq) (M d : Nat) (P : Nat → Int32) (F : List Int32) (v : Int32) : Prop := ∀ (n w p : Nat) (rm : zRr), rm 11 0 = nI M → xAt (rm 12) M p F → xPar P rm → w + d ≤ 5 → ∃ rm1, xLv (w + 1) rm rm1 ∧ Gm_worked_14 q (n + F.length) (nI w) (nI p) rm = xPop (nI (p + F.length - 1)) (Gm_worked_14 q n) w v rm1
/-- what is wanted before, what holds then: a PRODUCT, a SUM, a TEST, an E -/
def xPre (lev w : Nat) (r : zRr) : Prop := r 22 w = 0 ∧ (2 ≤ lev → r 19 w = 0 ∧ r 20 w = 20) ∧ (3 ≤ lev → r 18 w = 0) ∧ (4 ≤ lev → r 16 w = 0)
noncomputable def xVl (lev w : Nat) (r : zRr) : Int32 := if lev = 1 then r 21 w else if lev = 2 then xSv w r else if lev = 3 then xTv w r else xWv w r
def xKp (lev w : Nat) (r r1 : zRr) : Prop := r1 23 w = r 23 w ∧ (lev ≤ 3 → r1 15 w = r 15 w ∧ r1 16 w = r 16 w) ∧ (lev ≤ 2 → r1 17 w = r 17 w ∧ r1 18 w = r 18 w) ∧ (lev ≤ 1 → r1 19 w = r 19 w ∧ r1 20 w = r 20 w)
def xMl (q : zRq) (M d : Nat) (P : Nat → Int32) (lev : Nat) (F : List Int32) (v : Int32) : Prop := ∀ (n w p : Nat) (rm : zRr), rm 11 0 = nI M → xAt (rm 12) M p F → xPar P rm → w + d ≤ 5 → xBs w rm → xPre lev w rm → ∃ rm1, xLv w rm rm1 ∧ xKp lev w rm rm1 ∧ xVl lev w rm1 = v ∧ Gm_worked_14 q (n + F.length) (nI w) (nI p) rm = Gm_worked_14 q n (nI w) (nI (p + F.length)) rm1
section XTR
variable {q : zRq} {M d : Nat} {P : Nat → Int32} {F : List Int32} {v : Int32}
/-- a PART is a PRODUCT -/
theorem xM0.up (hM : M ≤ 1000) (hF : 1 ≤ F.length) (h : xM0 q M d P F v) : xMl q M d P 1 F v := by
  intro n w p rm h11 hA hP hw hB hpre
  obtain ⟨rm1, l1, e1⟩ := h n w p rm h11 hA hP hw
  have hB1 : w = 0 ∨ ¬ rm1 23 w = 1 := by rw [l1.2 23 w (by omega)]; exact hB
  have hlen := hA.1
  refine ⟨zset rm1 21 (upd (rm1 21) w v), (l1.lo (by omega)).set (by decide) (Nat.le_refl _), ⟨?_, fun _ => ⟨?_, ?_⟩, fun _ => ⟨?_, ?_⟩, fun _ => ⟨?_, ?_⟩⟩, ?_, ?_⟩
  · rw [zset_ne (by decide)]; exact l1.2 23 w (by omega)
  · rw [zset_ne (by decide)]; exact l1.2 15 w (by omega)
  · rw [zset_ne (by decide)]; exact l1.2 16 w (by omega)
  · rw [zset_ne (by decide)]; exact l1.2 17 w (by omega)
  · rw [zset_ne (by decide)]; exact l1.2 18 w (by omega)
  · rw [zset_ne (by decide)]; exact l1.2 19 w (by omega)
  · rw [zset_ne (by decide)]; exact l1.2 20 w (by omega)
  · unfold xVl; rw [if_pos rfl, zset_eq, pk_us]
  · rw [e1, xPop.base hB1]
    have e22 : rm1 22 w = 0 := (l1.2 22 w (by omega)).trans hpre.1
    unfold Gm_worked_300 Gm_worked_328 Gm_worked_329
    simp only [zifnQ, zletQ, xzn (show w < 2 ^ 31 by omega), if_pos e22, nI_1, show p + F.length - 1 + 1 = p + F.length by omega]
/-- a level higher -/
theorem xMl.up {lev : Nat} (hl : 1 ≤ lev ∧ lev ≤ 3) (h : xMl q M d P lev F v) : xMl q M d P (lev + 1) F v := by
  intro n w p rm h11 hA hP hw hB hpre
  obtain ⟨p1, p2, p3, p4⟩ := hpre
  obtain ⟨rm1, l1, ⟨k1, k2, k3, k4⟩, hv, e1⟩ := h n w p rm h11 hA hP hw hB ⟨p1, fun _ => p2 (by omega), fun _ => p3 (by omega), fun _ => p4 (by omega)⟩
  refine ⟨rm1, l1, ⟨k1, fun _ => k2 (by omega), fun _ => k3 (by omega), fun _ => k4 (by omega)⟩, ?_, e1⟩
  rcases (show lev = 1 ∨ lev = 2 ∨ lev = 3 by omega) with rfl | rfl | rfl
  · unfold xVl at hv ⊢
    rw [if_pos rfl] at hv
    rw [if_neg (by decide), if_pos rfl]
    unfold xSv
    rw [(k4 (by omega)).2, (k4 (by omega)).1, (p2 (by omega)).2, (p2 (by omega)).1, if_neg (by decide), Int32.zero_add]
    exact hv
  · unfold xVl at hv ⊢
    rw [if_neg (by decide), if_pos rfl] at hv
    rw [if_neg (by decide), if_neg (by decide), if_pos rfl]
    unfold xTv
    rw [(k3 (by omega)).2, p3 (by omega), if_neg (by decide), if_neg (by decide)]
    exact hv
  · unfold xVl at hv ⊢
    rw [if_neg (by decide), if_neg (by decide), if_pos rfl] at hv
    rw [if_neg (by decide), if_neg (by decide), if_neg (by decide)]
    unfold xWv
    rw [(k2 (by omega)).2, p4 (by omega), if_neg (by decide), if_neg (by decide)]
    exact hv
end XTR
section XBN
variable {q : zRq} {M d : Nat} {P : Nat → Int32} {F1 F2 : List Int32} {v1 v2 : Int32}
/-- * -/
theorem xMl.prod (hM : M ≤ 1000) (hF : 1 ≤ F2.length) (h1 : xMl q M d P 1 F1 v1) (h2 : xM0 q M d P F2 v2) : xMl q M d P 1 (F1 ++ 22 :: F2) (v1 * v2) := by
  intro n w p rm h11 hA hP hw hB hpre
  obtain ⟨hA1, hA2⟩ := hA.app
  have hA2 : xAt (rm 12) M (p + F1.length) ([22] ++ F2) := hA2
  obtain ⟨hA3, hA4⟩ := hA2.app
  have hA4 : xAt (rm 12) M (p + F1.length + 1) F2 := hA4
  obtain ⟨q1, q2⟩ := hA3.one
  have hlen := hA4.1
  obtain ⟨rm1, l1, ⟨k1, k2, k3, k4⟩, hv1, e1⟩ := h1 (n + F2.length + 1) w p rm h11 hA1 hP hw hB hpre
  have r11 : rm1 11 0 = nI M := by rw [l1.1 11 (by decide)]; exact h11
  have r12 : rm1 12 = rm 12 := l1.1 12 (by decide)
  have r24 : rm1 24 = rm 24 := l1.1 24 (by decide)
  have e2 := xtk22 (q := q) (n := n + F2.length) hM (show w ≤ 5 by omega) r11 q1 (by rw [r12]; exact q2)
  have l2 : xLv w rm1 (zset rm1 22 (upd (rm1 22) w 22)) := xLv.refl.set (by decide) (Nat.le_refl _)
  obtain ⟨rm2, l3, e3⟩ := h2 n w (p + F1.length + 1) (zset rm1 22 (upd (rm1 22) w 22)) r11 (by rw [show zset rm1 22 (upd (rm1 22) w 22) 12 = rm 12 from r12]; exact hA4) (fun k g1 g2 => by rw [show zset rm1 22 (upd (rm1 22) w 22) 24 = rm 24 from r24]; exact hP k g1 g2) hw
  have s : ∀ a, ¬ a = 22 → rm2 a w = rm1 a w := fun a ha => by rw [l3.2 a w (by omega), zset_ne ha]
  have hB2 : w = 0 ∨ ¬ rm2 23 w = 1 := by rw [s 23 (by decide), k1]; exact hB
  have e21 : rm1 21 w = v1 := by
    unfold xVl at hv1; rw [if_pos rfl] at hv1; exact hv1
  refine ⟨zset rm2 21 (upd (rm2 21) w (rm2 21 w * v2)), ((l1.tr l2).tr (l3.lo (by omega))).set (by decide) (Nat.le_refl _), ⟨?_, fun _ => ⟨?_, ?_⟩, fun _ => ⟨?_, ?_⟩, fun _ => ⟨?_, ?_⟩⟩, ?_, ?_⟩
  · rw [zset_ne (by decide), s 23 (by decide)]; exact k1
  · rw [zset_ne (by decide), s 15 (by decide)]; exact (k2 (by omega)).1
  · rw [zset_ne (by decide), s 16 (by decide)]; exact (k2 (by omega)).2
  · rw [zset_ne (by decide), s 17 (by decide)]; exact (k3 (by omega)).1
  · rw [zset_ne (by decide), s 18 (by decide)]; exact (k3 (by omega)).2
  · rw [zset_ne (by decide), s 19 (by decide)]; exact (k4 (by omega)).1
  · rw [zset_ne (by decide), s 20 (by decide)]; exact (k4 (by omega)).2
  · unfold xVl; rw [if_pos rfl, zset_eq, pk_us, s 21 (by decide), e21]
  · have e22 : ¬ rm2 22 w = 0 := by
      rw [l3.2 22 w (by omega), zset_eq, pk_us]; decide
    rw [List.length_append, show n + (F1.length + (22 :: F2).length) = n + F2.length + 1 + F1.length by show n + (F1.length + (F2.length + 1)) = _; omega, e1, e2, e3, xPop.base hB2]
    unfold Gm_worked_300 Gm_worked_328 Gm_worked_329
    simp only [zifnQ, zletQ, xzn (show w < 2 ^ 31 by omega), if_neg e22, nI_1, show p + F1.length + 1 + F2.length - 1 + 1 = p + (F1.length + (22 :: F2).length) by show _ = p + (F1.length + (F2.length + 1)); omega]
/-- + and - -/
theorem xMl.sum (hM : M ≤ 1000) {x : Int32} (hx : x = 20 ∨ x = 21) (h1 : xMl q M d P 2 F1 v1) (h2 : xMl q M d P 1 F2 v2) : xMl q M d P 2 (F1 ++ x :: F2) (if x = 21 then v1 - v2 else v1 + v2) := by
  intro n w p rm h11 hA hP hw hB hpre
  obtain ⟨hA1, hA2⟩ := hA.app
  have hA2 : xAt (rm 12) M (p + F1.length) ([x] ++ F2) := hA2
  obtain ⟨hA3, hA4⟩ := hA2.app
  have hA4 : xAt (rm 12) M (p + F1.length + 1) F2 := hA4
  obtain ⟨q1, q2⟩ := hA3.one
  obtain ⟨rm1, l1, ⟨k1, k2, k3, _⟩, hv1, e1⟩ := h1 (n + F2.length + 1) w p rm h11 hA1 hP hw hB hpre
  have r11 : rm1 11 0 = nI M := by rw [l1.1 11 (by decide)]; exact h11
  have r12 : rm1 12 = rm 12 := l1.1 12 (by decide)
  have r24 : rm1 24 = rm 24 := l1.1 24 (by decide)
  have hv1 : xSv w rm1 = v1 := by
    unfold xVl at hv1; rw [if_neg (by decide), if_pos rfl] at hv1; exact hv1
  obtain ⟨s1, s2, s3, s4⟩ := xsumsF (r := rm1) (q := q) (show w ≤ 5 by omega)
  have e2 : Gm_worked_14 q (n + F2.length + 1) (nI w) (nI (p + F1.length)) rm1 = Gm_worked_14 q (n + F2.length) (nI w) (nI (p + F1.length + 1)) (zset (Gm_sums (nI w) rm1 q) 20 (upd (Gm_sums (nI w) rm1 q 20) w x)) := by
    rcases hx with rfl | rfl
    · exact xtk20 hM (by omega) r11 q1 (by rw [r12]; exact q2)
    · exact xtk21 hM (by omega) r11 q1 (by rw [r12]; exact q2)
  generalize Gm_sums (nI w) rm1 q = u at s1 s2 s3 s4 e2
  have l2 : xLv w rm1 (zset u 20 (upd (u 20) w x)) := s1.set (by decide) (Nat.le_refl _)
  have t : ∀ a, ¬ a = 19 → ¬ a = 20 → ¬ a = 22 → zset u 20 (upd (u 20) w x) a = rm1 a := fun a a1 a2 a3 => by rw [zset_ne a2, s4 a a1 a3]
  obtain ⟨rm2, l3, ⟨j1, j2, j3, j4⟩, hv2, e3⟩ := h2 n w (p + F1.length + 1) (zset u 20 (upd (u 20) w x)) (by rw [t 11 (by decide) (by decide) (by decide)]; exact r11) (by rw [t 12 (by decide) (by decide) (by decide), r12]; exact hA4) (fun k g1 g2 => by rw [t 24 (by decide) (by decide) (by decide), r24]; exact hP k g1 g2) hw (by unfold xBs; rw [t 23 (by decide) (by decide) (by decide), k1]; exact hB) ⟨by rw [zset_ne (by decide)]; exact s3, fun h => absurd h (by decide), fun h => absurd h (by decide), fun h => absurd h (by decide)⟩
  have hv2 : rm2 21 w = v2 := by
    unfold xVl at hv2; rw [if_pos rfl] at hv2; exact hv2
  refine ⟨rm2, (l1.tr l2).tr l3, ⟨?_, fun _ => ⟨?_, ?_⟩, fun _ => ⟨?_, ?_⟩, fun h => absurd h (by decide)⟩, ?_, ?_⟩
  · rw [j1, t 23 (by decide) (by decide) (by decide)]; exact k1
  · rw [(j2 (by omega)).1, t 15 (by decide) (by decide) (by decide)]; exact (k2 (by omega)).1
  · rw [(j2 (by omega)).2, t 16 (by decide) (by decide) (by decide)]; exact (k2 (by omega)).2
  · rw [(j3 (by omega)).1, t 17 (by decide) (by decide) (by decide)]; exact (k3 (by omega)).1
  · rw [(j3 (by omega)).2, t 18 (by decide) (by decide) (by decide)]; exact (k3 (by omega)).2
  · unfold xVl
    rw [if_neg (by decide), if_pos rfl]
    unfold xSv
    rw [(j4 (by omega)).2, (j4 (by omega)).1, zset_eq, pk_us, zset_ne (by decide), s2, hv1, hv2]
  · rw [List.length_append, show n + (F1.length + (x :: F2).length) = n + F2.length + 1 + F1.length by show n + (F1.length + (F2.length + 1)) = _; omega, e1, e2, e3, show p + F1.length + 1 + F2.length = p + (F1.length + (x :: F2).length) by show _ = p + (F1.length + (F2.length + 1)); omega]
end XBN
section XBT
variable {q : zRq} {M d : Nat} {P : Nat → Int32} {F1 F2 : List Int32} {v1 v2 : Int32}
/-- < and = -/
theorem xMl.test (hM : M ≤ 1000) {x : Int32} (hx : x = 24 ∨ x = 25) (h1 : xMl q M d P 2 F1 v1) (h2 : xMl q M d P 2 F2 v2) : xMl q M d P 3 (F1 ++ x :: F2) (if x = 24 then (if v2 ≤ v1 then 0 else 1) else if v1 = v2 then 1 else 0) := by
  intro n w p rm h11 hA hP hw hB hpre
  obtain ⟨p1, p2, p3, p4⟩ := hpre
  obtain ⟨hA1, hA2⟩ := hA.app
  have hA2 : xAt (rm 12) M (p + F1.length) ([x] ++ F2) := hA2
  obtain ⟨hA3, hA4⟩ := hA2.app
  have hA4 : xAt (rm 12) M (p + F1.length + 1) F2 := hA4
  obtain ⟨q1, q2⟩ := hA3.one
  obtain ⟨rm1, l1, ⟨k1, k2, k3, _⟩, hv1, e1⟩ := h1 (n + F2.length + 1) w p rm h11 hA1 hP hw hB ⟨p1, fun _ => p2 (by omega), fun h => absurd h (by decide), fun h => absurd h (by decide)⟩
  have r11 : rm1 11 0 = nI M := by rw [l1.1 11 (by decide)]; exact h11
  have r12 : rm1 12 = rm 12 := l1.1 12 (by decide)
  have r24 : rm1 24 = rm 24 := l1.1 24 (by decide)
  have hv1 : xSv w rm1 = v1 := by
    unfold xVl at hv1; rw [if_neg (by decide), if_pos rfl] at hv1; exact hv1
  obtain ⟨s1, s2, s3, s4⟩ := xsumsF (r := rm1) (q := q) (show w ≤ 5 by omega)
  obtain ⟨ua, hua, e2⟩ : ∃ ua, ua = xs (xs (xs (xs (Gm_sums (nI w) rm1 q) 17 w (Gm_sums (nI w) rm1 q 19 w)) 18 w x) 19 w 0) 20 w 20 ∧ Gm_worked_14 q (n + F2.length + 1) (nI w) (nI (p + F1.length)) rm1 = Gm_worked_14 q (n + F2.length) (nI w) (nI (p + F1.length + 1)) ua := by
    refine ⟨_, rfl, ?_⟩
    rcases hx with rfl | rfl
    · exact xtk24 hM (by omega) r11 q1 (by rw [r12]; exact q2)
    · exact xtk25 hM (by omega) r11 q1 (by rw [r12]; exact q2)
  generalize Gm_sums (nI w) rm1 q = u at s1 s2 s3 s4 hua
  have l2 : xLv w rm1 ua := by
    rw [hua]
    exact (((s1.set (a := 17) (by decide) (Nat.le_refl _)).set (a := 18) (by decide) (Nat.le_refl _)).set (a := 19) (by decide) (Nat.le_refl _)).set (a := 20) (by decide) (Nat.le_refl _)
  have t : ∀ a, ¬ a = 17 → ¬ a = 18 → ¬ a = 19 → ¬ a = 20 → ua a = u a := fun a a1 a2 a3 a4 => by
    rw [hua]; unfold xs; rw [zset_ne a4, zset_ne a3, zset_ne a2, zset_ne a1]
  have u17 : ua 17 w = v1 := by
    rw [hua]; unfold xs
    rw [zset_ne (by decide), zset_ne (by decide), zset_ne (by decide), zset_eq, pk_us, s2]; exact hv1
  have u18 : ua 18 w = x := by
    rw [hua]; unfold xs
    rw [zset_ne (by decide), zset_ne (by decide), zset_eq, pk_us]
  have u19 : ua 19 w = 0 := by
    rw [hua]; unfold xs
    rw [zset_ne (by decide), zset_eq, pk_us]
  have u20 : ua 20 w = 20 := by
    rw [hua]; unfold xs
    rw [zset_eq, pk_us]
  have u22 : ua 22 w = 0 := by rw [t 22 (by decide) (by decide) (by decide) (by decide)]; exact s3
  have uo : ∀ a, ¬ a = 17 → ¬ a = 18 → ¬ a = 19 → ¬ a = 20 → ¬ a = 22 → ua a = rm1 a := fun a a1 a2 a3 a4 a5 => by rw [t a a1 a2 a3 a4, s4 a a3 a5]
  obtain ⟨rm2, l3, ⟨j1, j2, j3, _⟩, hv2, e3⟩ := h2 n w (p + F1.length + 1) ua (by rw [uo 11 (by decide) (by decide) (by decide) (by decide) (by decide)]; exact r11) (by rw [uo 12 (by decide) (by decide) (by decide) (by decide) (by decide), r12]; exact hA4) (fun k g1 g2 => by rw [uo 24 (by decide) (by decide) (by decide) (by decide) (by decide), r24]; exact hP k g1 g2) hw (by unfold xBs; rw [uo 23 (by decide) (by decide) (by decide) (by decide) (by decide), k1]; exact hB) ⟨u22, fun _ => ⟨u19, u20⟩, fun h => absurd h (by decide), fun h => absurd h (by decide)⟩
  have hv2 : xSv w rm2 = v2 := by
    unfold xVl at hv2; rw [if_neg (by decide), if_pos rfl] at hv2; exact hv2
  refine ⟨rm2, (l1.tr l2).tr l3, ⟨?_, fun _ => ⟨?_, ?_⟩, fun h => absurd h (by decide), fun h => absurd h (by decide)⟩, ?_, ?_⟩
  · rw [j1, uo 23 (by decide) (by decide) (by decide) (by decide) (by decide)]; exact k1
  · rw [(j2 (by omega)).1, uo 15 (by decide) (by decide) (by decide) (by decide) (by decide)]; exact (k2 (by omega)).1
  · rw [(j2 (by omega)).2, uo 16 (by decide) (by decide) (by decide) (by decide) (by decide)]; exact (k2 (by omega)).2
  · unfold xVl
    rw [if_neg (by decide), if_neg (by decide), if_pos rfl]
    unfold xTv
    rw [(j3 (by omega)).2, (j3 (by omega)).1, u18, u17, hv2]
    rcases hx with rfl | rfl
    · rw [if_pos rfl, if_pos rfl]
    · rw [if_neg (show ¬ (25 : Int32) = 24 by decide), if_pos (show (25 : Int32) = 25 from rfl), if_neg (show ¬ (25 : Int32) = 24 by decide)]
  · rw [List.length_append, show n + (F1.length + (x :: F2).length) = n + F2.length + 1 + F1.length by show n + (F1.length + (F2.length + 1)) = _; omega, e1, e2, e3, show p + F1.length + 1 + F2.length = p + (F1.length + (x :: F2).length) by show _ = p + (F1.length + (F2.length + 1)); omega]
/-- and, or -/
theorem xMl.join (hM : M ≤ 1000) {x : Int32} (hx : x = 26 ∨ x = 27) (h1 : xMl q M d P 4 F1 v1) (h2 : xMl q M d P 3 F2 v2) : xMl q M d P 4 (F1 ++ x :: F2) (if x = 26 then (if v1 = 0 then 0 else if v2 = 0 then 0 else 1) else if v1 = 0 then (if v2 = 0 then 0 else 1) else 1) := by
  intro n w p rm h11 hA hP hw hB hpre
  obtain ⟨hA1, hA2⟩ := hA.app
  have hA2 : xAt (rm 12) M (p + F1.length) ([x] ++ F2) := hA2
  obtain ⟨hA3, hA4⟩ := hA2.app
  have hA4 : xAt (rm 12) M (p + F1.length + 1) F2 := hA4
  obtain ⟨q1, q2⟩ := hA3.one
  obtain ⟨rm1, l1, ⟨k1, _, _, _⟩, hv1, e1⟩ := h1 (n + F2.length + 1) w p rm h11 hA1 hP hw hB hpre
  have r11 : rm1 11 0 = nI M := by rw [l1.1 11 (by decide)]; exact h11
  have r12 : rm1 12 = rm 12 := l1.1 12 (by decide)
  have r24 : rm1 24 = rm 24 := l1.1 24 (by decide)
  have hv1 : xWv w rm1 = v1 := by
    unfold xVl at hv1; rw [if_neg (by decide), if_neg (by decide), if_neg (by decide)] at hv1; exact hv1
  obtain ⟨s1, s15, s18, s19, s20, s22, s16, s23⟩ := xtests (r := rm1) (q := q) (show w ≤ 5 by omega)
  have e2 : Gm_worked_14 q (n + F2.length + 1) (nI w) (nI (p + F1.length)) rm1 = Gm_worked_14 q (n + F2.length) (nI w) (nI (p + F1.length + 1)) (zset (Gm_tests (nI w) rm1 q) 16 (upd (Gm_tests (nI w) rm1 q 16) w x)) := by
    rcases hx with rfl | rfl
    · exact xtk26 hM (by omega) r11 q1 (by rw [r12]; exact q2)
    · exact xtk27 hM (by omega) r11 q1 (by rw [r12]; exact q2)
  generalize Gm_tests (nI w) rm1 q = u at s1 s15 s18 s19 s20 s22 s16 s23 e2
  have l2 : xLv w rm1 (zset u 16 (upd (u 16) w x)) := s1.set (by decide) (Nat.le_refl _)
  have t : ∀ a, [15, 16, 17, 18, 19, 20, 21, 22, 23].contains a = false → zset u 16 (upd (u 16) w x) a = rm1 a := fun a ha => l2.1 a ha
  obtain ⟨rm2, l3, ⟨j1, j2, _, _⟩, hv2, e3⟩ := h2 n w (p + F1.length + 1) (zset u 16 (upd (u 16) w x)) (by rw [t 11 (by decide)]; exact r11) (by rw [t 12 (by decide), r12]; exact hA4) (fun k g1 g2 => by rw [t 24 (by decide), r24]; exact hP k g1 g2) hw (by unfold xBs; rw [zset_ne (by decide), s23, k1]; exact hB) ⟨by rw [zset_ne (by decide)]; exact s22, fun _ => ⟨by rw [zset_ne (by decide)]; exact s19, by rw [zset_ne (by decide)]; exact s20⟩, fun _ => by rw [zset_ne (by decide)]; exact s18, fun h => absurd h (by decide)⟩
  have hv2 : xTv w rm2 = v2 := by
    unfold xVl at hv2; rw [if_neg (by decide), if_neg (by decide), if_pos rfl] at hv2; exact hv2
  refine ⟨rm2, (l1.tr l2).tr l3, ⟨?_, fun h => absurd h (by decide), fun h => absurd h (by decide), fun h => absurd h (by decide)⟩, ?_, ?_⟩
  · rw [j1, zset_ne (by decide), s23]; exact k1
  · unfold xVl
    rw [if_neg (by decide), if_neg (by decide), if_neg (by decide)]
    unfold xWv
    rw [(j2 (by omega)).2, (j2 (by omega)).1, zset_eq, pk_us, zset_ne (by decide), s15, hv1, hv2]
    rcases hx with rfl | rfl
    · rw [if_pos rfl, if_pos rfl]
    · rw [if_neg (show ¬ (27 : Int32) = 26 by decide), if_pos (show (27 : Int32) = 27 from rfl), if_neg (show ¬ (27 : Int32) = 26 by decide)]
  · rw [List.length_append, show n + (F1.length + (x :: F2).length) = n + F2.length + 1 + F1.length by show n + (F1.length + (F2.length + 1)) = _; omega, e1, e2, e3, show p + F1.length + 1 + F2.length = p + (F1.length + (x :: F2).length) by show _ = p + (F1.length + (F2.length + 1)); omega]
end XBT
