/-! ===== what a law comes to: both sides ===== -/
section XPT
variable {q : zRq} {M d : Nat} {P : Nat → Int32} {F : List Int32} {v : Int32}
theorem xM0.num (hM : M ≤ 1000) (hv : zI 0 9999 v) : xM0 q M d P [100 + v] v := by
  intro n w p rm h11 hA hP hw
  obtain ⟨q1, q2⟩ := hA.one
  refine ⟨rm, xLv.refl, ?_⟩
  show Gm_worked_14 q (n + 1) (nI w) (nI p) rm = xPop (nI (p + 1 - 1)) (Gm_worked_14 q n) w v rm
  rw [xtkN hM h11 q1 q2 hv, x268 6 w v rm (by omega) (by omega), show p + 1 - 1 = p by omega]
theorem xM0.fact (hM : M ≤ 1000) {k : Nat} (hk : 1 ≤ k ∧ k ≤ 4) : xM0 q M d P [nI k] (P k) := by
  intro n w p rm h11 hA hP hw
  obtain ⟨q1, q2⟩ := hA.one
  refine ⟨rm, xLv.refl, ?_⟩
  show Gm_worked_14 q (n + 1) (nI w) (nI p) rm = xPop (nI (p + 1 - 1)) (Gm_worked_14 q n) w (P k) rm
  rw [xtkF hM h11 q1 q2 hk, hP k hk.1 hk.2, x268 6 w (P k) rm (by omega) (by omega), show p + 1 - 1 = p by omega]
theorem xM0.not (hM : M ≤ 1000) (hF : 1 ≤ F.length) (h : xM0 q M d P F v) : xM0 q M (d + 1) P (30 :: F) (if v = 0 then 1 else 0) := by
  intro n w p rm h11 hA hP hw
  have hA : xAt (rm 12) M p ([30] ++ F) := hA
  obtain ⟨hA1, hA2⟩ := hA.app
  have hA2 : xAt (rm 12) M (p + 1) F := hA2
  obtain ⟨q1, q2⟩ := hA1.one
  have e1 := xtk30 (q := q) (n := n + F.length) hM (show w ≤ 4 by omega) h11 q1 q2
  obtain ⟨o1, _, _, _, _, _, o7⟩ := xopens (r := zset rm 23 (upd (rm 23) (w + 1) 1)) (q := q) (show w + 1 ≤ 5 by omega)
  have l0 : xLv (w + 1) rm (zset rm 23 (upd (rm 23) (w + 1) 1)) := xLv.refl.set (by decide) (Nat.le_refl _)
  generalize Gm_opens (nI (w + 1)) (zset rm 23 (upd (rm 23) (w + 1) 1)) q = u at o1 o7 e1
  have l1 := l0.tr o1
  obtain ⟨rm1, l2, e2⟩ := h n (w + 1) (p + 1) u (by rw [l1.1 11 (by decide)]; exact h11) (by rw [l1.1 12 (by decide)]; exact hA2) (fun k g1 g2 => by rw [l1.1 24 (by decide)]; exact hP k g1 g2) (by omega)
  refine ⟨rm1, l1.tr (l2.lo (by omega)), ?_⟩
  have f : rm1 23 (w + 1) = 1 := by rw [l2.2 23 (w + 1) (by omega), o7, zset_eq, pk_us]
  show Gm_worked_14 q (n + (F.length + 1)) (nI w) (nI p) rm = xPop (nI (p + (F.length + 1) - 1)) (Gm_worked_14 q n) w (if v = 0 then 1 else 0) rm1
  rw [show n + (F.length + 1) = n + F.length + 1 by omega, e1, e2, show p + 1 + F.length - 1 = p + (F.length + 1) - 1 by omega]
  show (if rm1 23 (w + 1) = 1 then xPop _ _ w (if v = 0 then 1 else 0) rm1 else _) = _
  rw [if_pos f]
theorem xM0.par (hM : M ≤ 1000) (h : xMl q M d P 4 F v) : xM0 q M (d + 1) P (28 :: (F ++ [29])) v := by
  intro n w p rm h11 hA hP hw
  have hA : xAt (rm 12) M p ([28] ++ (F ++ [29])) := hA
  obtain ⟨hA1, hA2⟩ := hA.app
  have hA2 : xAt (rm 12) M (p + 1) (F ++ [29]) := hA2
  obtain ⟨hA3, hA4⟩ := hA2.app
  obtain ⟨q1, q2⟩ := hA1.one
  obtain ⟨q3, q4⟩ := hA4.one
  have e1 := xtk28 (q := q) (n := n + 1 + F.length) hM (show w ≤ 4 by omega) h11 q1 q2
  obtain ⟨o1, o16, o18, o19, o20, o22, o7⟩ := xopens (r := zset rm 23 (upd (rm 23) (w + 1) 0)) (q := q) (show w + 1 ≤ 5 by omega)
  have l0 : xLv (w + 1) rm (zset rm 23 (upd (rm 23) (w + 1) 0)) := xLv.refl.set (by decide) (Nat.le_refl _)
  generalize Gm_opens (nI (w + 1)) (zset rm 23 (upd (rm 23) (w + 1) 0)) q = u at o1 o16 o18 o19 o20 o22 o7 e1
  have l1 := l0.tr o1
  obtain ⟨rm1, l2, _, hv, e2⟩ := h (n + 1) (w + 1) (p + 1) u (by rw [l1.1 11 (by decide)]; exact h11) (by rw [l1.1 12 (by decide)]; exact hA3) (fun k g1 g2 => by rw [l1.1 24 (by decide)]; exact hP k g1 g2) (by omega) (Or.inr (by rw [o7, zset_eq, pk_us]; decide)) ⟨o22, fun _ => ⟨o19, o20⟩, fun _ => o18, fun _ => o16⟩
  have hv : xWv (w + 1) rm1 = v := by
    unfold xVl at hv; rw [if_neg (by decide), if_neg (by decide), if_neg (by decide)] at hv; exact hv
  have l3 := l1.tr l2
  have e3 := xtk29 (q := q) (n := n) (rm := rm1) (w := w + 1) hM (show w + 1 ≤ 5 by omega) (by rw [l3.1 11 (by decide)]; exact h11) q3 (by rw [l3.1 12 (by decide)]; exact q4)
  obtain ⟨s1, s15, _⟩ := xtests (r := rm1) (q := q) (show w + 1 ≤ 5 by omega)
  rw [s15, hv, xdec] at e3
  generalize Gm_tests (nI (w + 1)) rm1 q = u2 at s1 e3
  refine ⟨u2, l3.tr s1, ?_⟩
  have hl : (28 :: (F ++ [29])).length = F.length + 2 := by show (F ++ [29]).length + 1 = _; rw [List.length_append]; rfl
  rw [hl, show n + (F.length + 2) = n + 1 + F.length + 1 by omega, e1, e2, e3, x268 6 w v u2 (by omega) (by omega), show p + (F.length + 2) - 1 = p + 1 + F.length by omega]
end XPT
section XJN
variable {v1 v2 : Int32}
theorem xj0 : Gk_join (xok 0) v1 v2 = if v1 = 0 then 0 else if v2 = 0 then 0 else 1 := by
  show Gk_join (-6) v1 v2 = _
  unfold Gk_join
  simp only [zifQ, zifnQ, zletQ]
  rw [if_neg (by decide), if_neg (by decide), if_neg (by decide), if_neg (by decide), if_neg (by decide), if_neg (by decide), if_pos trivial]
theorem xj1 : Gk_join (xok 1) v1 v2 = if v1 = 0 then (if v2 = 0 then 0 else 1) else 1 := by
  show Gk_join (-7) v1 v2 = _
  unfold Gk_join
  simp only [zifQ, zifnQ, zletQ]
  rw [if_neg (by decide), if_neg (by decide), if_neg (by decide), if_neg (by decide), if_neg (by decide), if_pos trivial]
theorem xj2 : Gk_join (xok 2) v1 v2 = if v2 ≤ v1 then 0 else 1 := by
  show Gk_join (-8) v1 v2 = _
  unfold Gk_join
  simp only [zifQ, zifnQ, zletQ]
  rw [if_neg (by decide), if_neg (by decide), if_neg (by decide), if_neg (by decide), if_pos trivial]
theorem xj3 : Gk_join (xok 3) v1 v2 = if v1 = v2 then 1 else 0 := by
  show Gk_join (-9) v1 v2 = _
  unfold Gk_join
  simp only [zifQ, zifnQ, zletQ]
  rw [if_neg (by decide), if_neg (by decide), if_neg (by decide), if_pos trivial]
theorem xj4 : Gk_join (xok 4) v1 v2 = v1 + v2 := by
  show Gk_join (-10) v1 v2 = _
  unfold Gk_join
  simp only [zifQ, zifnQ, zletQ]
  rw [if_neg (by decide), if_neg (by decide), if_pos trivial]
theorem xj5 : Gk_join (xok 5) v1 v2 = v1 - v2 := by
  show Gk_join (-11) v1 v2 = _
  unfold Gk_join
  simp only [zifQ, zifnQ, zletQ]
  rw [if_neg (by decide), if_pos trivial]
theorem xj6 : Gk_join (xok 6) v1 v2 = v1 * v2 := by
  show Gk_join (-12) v1 v2 = _
  unfold Gk_join
  simp only [zifQ, zifnQ, zletQ]
  rw [if_pos (by decide)]
end XJN
theorem xtree {a1 a2 a3 a4 : Int32} {P : Nat → Int32} (hP : P 1 = a1 ∧ P 2 = a2 ∧ P 3 = a3 ∧ P 4 = a4) {m M : Nat} (hm : m ≤ 1000) (hM : M ≤ 1000) {q : zRq} : ∀ (N lev d : Nat) (C F : List Int32), xRel N lev d C F → lev ≤ 4 → 1 ≤ F.length ∧ ∃ v, xKv a1 a2 a3 a4 m (lev + 4 * d + 1) C v ∧ (lev = 0 → xM0 q M d P F v) ∧ (1 ≤ lev → xMl q M d P lev F v) := by
  intro N
  induction N with
  | zero => intro lev d C F h; exact absurd h (fun h => h)
  | succ N ih =>
    intro lev d C F h hl
    rcases h with ⟨h0, v, hv, rfl, rfl⟩ | ⟨h0, k, k1, k4, rfl, rfl⟩ | ⟨h0, d', C', F', rfl, h2, rfl, rfl⟩ | ⟨h0, d', F', rfl, h2, rfl⟩ | ⟨l, rfl, h2⟩ | ⟨k, C1, F1, C2, F2, l1, l2, hk, h1, h2, rfl, rfl⟩
    · subst h0
      refine ⟨Nat.le_refl _, v, ?_, fun _ => xM0.num hM hv, fun h => absurd h (by decide)⟩
      have c5 : (-5 : Int32).toInt = -5 := by decide
      have hv1 := hv.1
      have e : Gk_valueOf v a1 a2 a3 a4 = v := by
        unfold Gk_valueOf
        rw [zifQ, if_pos (Or.inr (by omega))]
      have k := xKv.push (a1 := a1) (a2 := a2) (a3 := a3) (a4 := a4) hm (x := v) (fun h => by rw [Int32.le_iff_toInt_le, c5] at h; omega)
      rw [e] at k
      exact k.le (by omega)
    · subst h0
      refine ⟨Nat.le_refl _, P k, ?_, fun _ => xM0.fact hM ⟨k1, k4⟩, fun h => absurd h (by decide)⟩
      obtain ⟨p1, p2, p3, p4⟩ := hP
      rcases (show k = 1 ∨ k = 2 ∨ k = 3 ∨ k = 4 by omega) with rfl | rfl | rfl | rfl
      · have k := xKv.push (a1 := a1) (a2 := a2) (a3 := a3) (a4 := a4) hm (x := -(nI 1)) (by decide)
        rw [show Gk_valueOf (-(nI 1)) a1 a2 a3 a4 = P 1 from p1.symm] at k
        exact k.le (by omega)
      · have k := xKv.push (a1 := a1) (a2 := a2) (a3 := a3) (a4 := a4) hm (x := -(nI 2)) (by decide)
        rw [show Gk_valueOf (-(nI 2)) a1 a2 a3 a4 = P 2 from p2.symm] at k
        exact k.le (by omega)
      · have k := xKv.push (a1 := a1) (a2 := a2) (a3 := a3) (a4 := a4) hm (x := -(nI 3)) (by decide)
        rw [show Gk_valueOf (-(nI 3)) a1 a2 a3 a4 = P 3 from p3.symm] at k
        exact k.le (by omega)
      · have k := xKv.push (a1 := a1) (a2 := a2) (a3 := a3) (a4 := a4) hm (x := -(nI 4)) (by decide)
        rw [show Gk_valueOf (-(nI 4)) a1 a2 a3 a4 = P 4 from p4.symm] at k
        exact k.le (by omega)
    · subst h0
      obtain ⟨f1, v, g1, g2, _⟩ := ih 0 d' C' F' h2 (by omega)
      refine ⟨by show 1 ≤ F'.length + 1; omega, _, ((g1.not hm (by omega)).le (by omega)), fun _ => (g2 rfl).not hM f1, fun h => absurd h (by decide)⟩
    · subst h0
      obtain ⟨f1, v, g1, _, g3⟩ := ih 4 d' C F' h2 (by omega)
      refine ⟨by show 1 ≤ (F' ++ [29]).length + 1; omega, v, g1.le (by omega), fun _ => xM0.par hM (g3 (by omega)), fun h => absurd h (by decide)⟩
    · obtain ⟨f1, v, g1, g2, g3⟩ := ih l d C F h2 (by omega)
      refine ⟨f1, v, g1.le (by omega), fun h => absurd h (by omega), fun _ => ?_⟩
      by_cases e : l = 0
      · subst e; exact (g2 rfl).up hM f1
      · exact (g3 (by omega)).up ⟨by omega, by omega⟩
    · obtain ⟨f1, v1, g1, g2, g3⟩ := ih l1 d C1 F1 h1 (by omega)
      obtain ⟨f2, v2, j1, j2, j3⟩ := ih l2 d C2 F2 h2 (by omega)
      have fl : 1 ≤ (F1 ++ xom k :: F2).length := by rw [List.length_append]; omega
      rcases hk with ⟨rfl, rfl, rfl, rfl⟩ | ⟨hk, rfl, rfl, rfl⟩ | ⟨hk, rfl, rfl, rfl⟩ | ⟨hk, rfl, rfl, rfl⟩
      · refine ⟨fl, _, xKv.bin hm g1 j1 ⟨by omega, by omega, by omega⟩ (by omega), fun h => absurd h (by decide), fun _ => ?_⟩
        rw [xj6]
        exact (g3 (by omega)).prod hM f2 (j2 rfl)
      · rcases hk with rfl | rfl
        · refine ⟨fl, _, xKv.bin hm g1 j1 ⟨by omega, by omega, by omega⟩ (by omega), fun h => absurd h (by decide), fun _ => ?_⟩
          rw [xj4]
          exact (g3 (by omega)).sum hM (Or.inl rfl) (j3 (by omega))
        · refine ⟨fl, _, xKv.bin hm g1 j1 ⟨by omega, by omega, by omega⟩ (by omega), fun h => absurd h (by decide), fun _ => ?_⟩
          rw [xj5]
          exact (g3 (by omega)).sum hM (Or.inr rfl) (j3 (by omega))
      · rcases hk with rfl | rfl
        · refine ⟨fl, _, xKv.bin hm g1 j1 ⟨by omega, by omega, by omega⟩ (by omega), fun h => absurd h (by decide), fun _ => ?_⟩
          rw [xj2]
          exact (g3 (by omega)).test hM (Or.inl rfl) (j3 (by omega))
        · refine ⟨fl, _, xKv.bin hm g1 j1 ⟨by omega, by omega, by omega⟩ (by omega), fun h => absurd h (by decide), fun _ => ?_⟩
          rw [xj3]
          exact (g3 (by omega)).test hM (Or.inr rfl) (j3 (by omega))
      · rcases hk with rfl | rfl
        · refine ⟨fl, _, xKv.bin hm g1 j1 ⟨by omega, by omega, by omega⟩ (by omega), fun h => absurd h (by decide), fun _ => ?_⟩
          rw [xj0]
          exact (g3 (by omega)).join hM (Or.inl rfl) (j3 (by omega))
        · refine ⟨fl, _, xKv.bin hm g1 j1 ⟨by omega, by omega, by omega⟩ (by omega), fun h => absurd h (by decide), fun _ => ?_⟩
          rw [xj1]
          exact (g3 (by omega)).join hM (Or.inr rfl) (j3 (by omega))
