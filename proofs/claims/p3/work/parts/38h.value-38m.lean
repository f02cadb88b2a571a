section
/-! ===== what a law comes to: both sides ===== -/
section XPT
variable {q : zRq} {M d : Nat} {P : Nat → Int32} {F : List Int32} {v : Int32}
theorem xM0.num (hM : M ≤ 1000) (hv : zI 0 9999 v) : xM0 q M d P [100 + v] v := by
  intro n w p rm h11 hA hP hw
  obtain ⟨q1, q2⟩ := hA.one
  refine ⟨rm, xLv.refl, ?_⟩
  show Gm_worked_14 q (n + 1) (nI w) (nI p) rm = xPop (nI (p + 1 - 1)) (Gm_worked_14 q n) w v rm
  rw [xtkN hM h11 q1 q2 hv, x268 6 w v rm (by omega) (by omega), show p + 1 - 1 = p by omega]
theorem xM0.fact (hM : M ≤ 1000) {k : Nat} (hk : 1 ≤ k ∧ k ≤ 4) : xM0 q M d P [nI k] (P k) := by
  intro n w p rm h11 hA hP hw
  obtain ⟨q1, q2⟩ := hA.one
  refine ⟨rm, xLv.refl, ?_⟩
  show Gm_worked_14 q (n + 1) (nI w) (nI p) rm = xPop (nI (p + 1 - 1)) (Gm_worked_14 q n) w (P k) rm
  rw [xtkF hM h11 q1 q2 hk, hP k hk.1 hk.2, x268 6 w (P k) rm (by omega) (by omega), show p + 1 - 1 = p by omega]
theorem xM0.not (hM : M ≤ 1000) (hF : 1 ≤ F.length) (h : xM0 q M d P F v) : xM0 q M (d + 1) P (30 :: F) (if v = 0 then 1 else 0) := by
  intro n w p rm h11 hA hP hw
  have hA : xAt (rm 12) M p ([30] ++ F) := hA
  obtain ⟨hA1, hA2⟩ := hA.app
  have hA2 : xAt (rm 12) M (p + 1) F := hA2
  obtain ⟨q1, q2⟩ := hA1.one
  have e1 := xtk30 (q := q) (n := n + F.length) hM (show w ≤ 4 by omega) h11 q1 q2
  obtain ⟨o1, _, _, _, _, _, o7⟩ := xopens (r := zset rm 23 (upd (rm 23) (w + 1) 1)) (q := q) (show w + 1 ≤ 5 by omega)
  have l0 : xLv (w + 1) rm (zset rm 23 (upd (rm 23) (w + 1) 1)) := xLv.refl.set (by decide) (Nat.le_refl _)
  generalize Gm_opens (nI (w + 1)) (zset rm 23 (upd (rm 23) (w + 1) 1)) q = u at o1 o7 e1
  have l1 := l0.tr o1
  obtain ⟨rm1, l2, e2⟩ := h n (w + 1) (p + 1) u (by rw [l1.1 11 (by decide)]; exact h11) (by rw [l1.1 12 (by decide)]; exact hA2) (fun k g1 g2 => by rw [l1.1 24 (by decide)]; exact hP k g1 g2) (by omega)
  refine ⟨rm1, l1.tr (l2.lo (by omega)), ?_⟩
  have f : rm1 23 (w + 1) = 1 := by rw [l2.2 23 (w + 1) (by omega), o7, zset_eq, pk_us]
  show Gm_worked_14 q (n + (F.length + 1)) (nI w) (nI p) rm = xPop (nI (p + (F.length + 1) - 1)) (Gm_worked_14 q n) w (if v = 0 then 1 else 0) rm1
  rw [show n + (F.length + 1) = n + F.length + 1 by omega, e1, e2, show p + 1 + F.length - 1 = p + (F.length + 1) - 1 by omega]
  show (if rm1 23 (w + 1) = 1 then xPop _ _ w (if v = 0 then 1 else 0) rm1 else _) = _
  rw [if_pos f]
theorem xM0.par (hM : M ≤ 1000) (h : xMl q M d P 4 F v) : xM0 q M (d + 1) P (28 :: (F ++ [29])) v := by
  intro n w p rm h11 hA hP hw
  have hA : xAt (rm 12) M p ([28] ++ (F ++ [29])) := hA
  obtain ⟨hA1, hA2⟩ := hA.app
  have hA2 : xAt (rm 12) M (p + 1) (F ++ [29]) := hA2
  obtain ⟨hA3, hA4⟩ := hA2.app
  obtain ⟨q1, q2⟩ := hA1.one
  obtain ⟨q3, q4⟩ := hA4.one
  have e1 := xtk28 (q := q) (n := n + 1 + F.length) hM (show w ≤ 4 by omega) h11 q1 q2
  obtain ⟨o1, o16, o18, o19, o20, o22, o7⟩ := xopens (r := zset rm 23 (upd (rm 23) (w + 1) 0)) (q := q) (show w + 1 ≤ 5 by omega)
  have l0 : xLv (w + 1) rm (zset rm 23 (upd (rm 23) (w + 1) 0)) := xLv.refl.set (by decide) (Nat.le_refl _)
  generalize Gm_opens (nI (w + 1)) (zset rm 23 (upd (rm 23) (w + 1) 0)) q = u at o1 o16 o18 o19 o20 o22 o7 e1
  have l1 := l0.tr o1
  obtain ⟨rm1, l2, _, hv, e2⟩ := h (n + 1) (w + 1) (p + 1) u (by rw [l1.1 11 (by decide)]; exact h11) (by rw [l1.1 12 (by decide)]; exact hA3) (fun k g1 g2 => by rw [l1.1 24 (by decide)]; exact hP k g1 g2) (by omega) (Or.inr (by rw [o7, zset_eq, pk_us]; decide)) ⟨o22, fun _ => ⟨o19, o20⟩, fun _ => o18, fun _ => o16⟩
  have hv : xWv (w + 1) rm1 = v := by
    unfold xVl at hv; rw [if_neg (by decide), if_neg (by decide), if_neg (by decide)] at hv; exact hv
  have l3 := l1.tr l2
  have e3 := xtk29 (q := q) (n := n) (rm := rm1) (w := w + 1) hM (show w + 1 ≤ 5 by omega) (by rw [l3.1 11 (by decide)]; exact h11) q3 (by rw [l3.1 12 (by decide)]; exact q4)
  obtain ⟨s1, s15, _⟩ := xtests (r := rm1) (q := q) (show w + 1 ≤ 5 by omega)
  rw [s15, hv, xdec] at e3
  generalize Gm_tests (nI (w + 1)) rm1 q = u2 at s1 e3
  refine ⟨u2, l3.tr s1, ?_⟩
  have hl : (28 :: (F ++ [29])).length = F.length + 2 := by show (F ++ [29]).length + 1 = _; rw [List.length_append]; rfl
  rw [hl, show n + (F.length + 2) = n + 1 + F.length + 1 by omega, e1, e2, e3, x268 6 w v u2 (by omega) (by omega), show p + (F.length + 2) - 1 = p + 1 + F.length by omega]
end XPT
section XJN
variable {v1 v2 : Int32}
theorem xj0 : Gk_join (xok 0) v1 v2 = if v1 = 0 then 0 else if v2 = 0 then 0 else 1 := by
  show Gk_join (-6) v1 v2 = _
  unfold Gk_join
  simp only [zifQ, zifnQ, zletQ]
  rw [if_neg (by decide), if_neg (by decide), if_neg (by decide), if_neg (by decide), if_neg (by decide), if_neg (by decide), if_pos trivial]
theorem xj1 : Gk_join (xok 1) v1 v2 = if v1 = 0 then (if v2 = 0 then 0 else 1) else 1 := by
  show Gk_join (-7) v1 v2 = _
  unfold Gk_join
  simp only [zifQ, zifnQ, zletQ]
  rw [if_neg (by decide), if_neg (by decide), if_neg (by decide), if_neg (by decide), if_neg (by decide), if_pos trivial]
theorem xj2 : Gk_join (xok 2) v1 v2 = if v2 ≤ v1 then 0 else 1 := by
  show Gk_join (-8) v1 v2 = _
  unfold Gk_join
  simp only [zifQ, zifnQ, zletQ]
  rw [if_neg (by decide), if_neg (by decide), if_neg (by decide), if_neg (by decide), if_pos trivial]
theorem xj3 : Gk_join (xok 3) v1 v2 = if v1 = v2 then 1 else 0 := by
  show Gk_join (-9) v1 v2 = _
  unfold Gk_join
  simp only [zifQ, zifnQ, zletQ]
  rw [if_neg (by decide), if_neg (by decide), if_neg (by decide), if_pos trivial]
theorem xj4 : Gk_join (xok 4) v1 v2 = v1 + v2 := by
  show Gk_join (-10) v1 v2 = _
  unfold Gk_join
  simp only [zifQ, zifnQ, zletQ]
  rw [if_neg (by decide), if_neg (by decide), if_pos trivial]
theorem xj5 : Gk_join (xok 5) v1 v2 = v1 - v2 := by
  show Gk_join (-11) v1 v2 = _
  unfold Gk_join
  simp only [zifQ, zifnQ, zletQ]
  rw [if_neg (by decide), if_pos trivial]
theorem xj6 : Gk_join (xok 6) v1 v2 = v1 * v2 := by
  show Gk_join (-12) v1 v2 = _
  unfold Gk_join
  simp only [zifQ, zifnQ, zletQ]
  rw [if_pos (by decide)]
end XJN
theorem xtree {a1 a2 a3 a4 : Int32} {P : Nat → Int32} (hP : P 1 = a1 ∧ P 2 = a2 ∧ P 3 = a3 ∧ P 4 = a4) {m M : Nat} (hm : m ≤ 1000) (hM : M ≤ 1000) {q : zRq} : ∀ (N lev d : Nat) (C F : List Int32), xRel N lev d C F → lev ≤ 4 → 1 ≤ F.length ∧ ∃ v, xKv a1 a2 a3 a4 m (lev + 4 * d + 1) C v ∧ (lev = 0 → xM0 q M d P F v) ∧ (1 ≤ lev → xMl q M d P lev F v) := by
  intro N
  induction N with
  | zero => intro lev d C F h; exact absurd h (fun h => h)
  | succ N ih =>
    intro lev d C F h hl
    rcases h with ⟨h0, v, hv, rfl, rfl⟩ | ⟨h0, k, k1, k4, rfl, rfl⟩ | ⟨h0, d', C', F', rfl, h2, rfl, rfl⟩ | ⟨h0, d', F', rfl, h2, rfl⟩ | ⟨l, rfl, h2⟩ | ⟨k, C1, F1, C2, F2, l1, l2, hk, h1, h2, rfl, rfl⟩
    · subst h0
      refine ⟨Nat.le_refl _, v, ?_, fun _ => xM0.num hM hv, fun h => absurd h (by decide)⟩
      have c5 : (-5 : Int32).toInt = -5 := by decide
      have hv1 := hv.1
      have e : Gk_valueOf v a1 a2 a3 a4 = v := by
        unfold Gk_valueOf
        rw [zifQ, if_pos (Or.inr (by omega))]
      have k := xKv.push (a1 := a1) (a2 := a2) (a3 := a3) (a4 := a4) hm (x := v) (fun h => by rw [Int32.le_iff_toInt_le, c5] at h; omega)
      rw [e] at k
      exact k.le (by omega)
    · subst h0
      refine ⟨Nat.le_refl _, P k, ?_, fun _ => xM0.fact hM ⟨k1, k4⟩, fun h => absurd h (by decide)⟩
      obtain ⟨p1, p2, p3, p4⟩ := hP
      rcases (show k = 1 ∨ k = 2 ∨ k = 3 ∨ k = 4 by omega) with rfl | rfl | rfl | rfl
      · have k := xKv.push (a1 := a1) (a2 := a2) (a3 := a3) (a4 := a4) hm (x := -(nI 1)) (by decide)
        rw [show Gk_valueOf (-(nI 1)) a1 a2 a3 a4 = P 1 from p1.symm] at k
        exact k.le (by omega)
      · have k := xKv.push (a1 := a1) (a2 := a2) (a3 := a3) (a4 := a4) hm (x := -(nI 2)) (by decide)
        rw [show Gk_valueOf (-(nI 2)) a1 a2 a3 a4 = P 2 from p2.symm] at k
        exact k.le (by omega)
      · have k := xKv.push (a1 := a1) (a2 := a2) (a3 := a3) (a4 := a4) hm (x := -(nI 3)) (by decide)
        rw [show Gk_valueOf (-(nI 3)) a1 a2 a3 a4 = P 3 from p3.symm] at k
        exact k.le (by omega)
      · have k := xKv.push (a1 := a1) (a2 := a2) (a3 := a3) (a4 := a4) hm (x := -(nI 4)) (by decide)
        rw [show Gk_valueOf (-(nI 4)) a1 a2 a3 a4 = P 4 from p4.symm] at k
        exact k.le (by omega)
    · subst h0
      obtain ⟨f1, v, g1, g2, _⟩ := ih 0 d' C' F' h2 (by omega)
      refine ⟨by show 1 ≤ F'.length + 1; omega, _, ((g1.not hm (by omega)).le (by omega)), fun _ => (g2 rfl).not hM f1, fun h => absurd h (by decide)⟩
    · subst h0
      obtain ⟨f1, v, g1, _, g3⟩ := ih 4 d' C F' h2 (by omega)
      refine ⟨by show 1 ≤ (F' ++ [29]).length + 1; omega, v, g1.le (by omega), fun _ => xM0.par hM (g3 (by omega)), fun h => absurd h (by decide)⟩
    · obtain ⟨f1, v, g1, g2, g3⟩ := ih l d C F h2 (by omega)
      refine ⟨f1, v, g1.le (by omega), fun h => absurd h (by omega), fun _ => ?_⟩
      by_cases e : l = 0
      · subst e; exact (g2 rfl).up hM f1
      · exact (g3 (by omega)).up ⟨by omega, by omega⟩
    · obtain ⟨f1, v1, g1, g2, g3⟩ := ih l1 d C1 F1 h1 (by omega)
      obtain ⟨f2, v2, j1, j2, j3⟩ := ih l2 d C2 F2 h2 (by omega)
      have fl : 1 ≤ (F1 ++ xom k :: F2).length := by rw [List.length_append]; omega
      rcases hk with ⟨rfl, rfl, rfl, rfl⟩ | ⟨hk, rfl, rfl, rfl⟩ | ⟨hk, rfl, rfl, rfl⟩ | ⟨hk, rfl, rfl, rfl⟩
      · refine ⟨fl, _, xKv.bin hm g1 j1 ⟨by omega, by omega, by omega⟩ (by omega), fun h => absurd h (by decide), fun _ => ?_⟩
        rw [xj6]
        exact (g3 (by omega)).prod hM f2 (j2 rfl)
      · rcases hk with rfl | rfl
        · refine ⟨fl, _, xKv.bin hm g1 j1 ⟨by omega, by omega, by omega⟩ (by omega), fun h => absurd h (by decide), fun _ => ?_⟩
          rw [xj4]
          exact (g3 (by omega)).sum hM (Or.inl rfl) (j3 (by omega))
        · refine ⟨fl, _, xKv.bin hm g1 j1 ⟨by omega, by omega, by omega⟩ (by omega), fun h => absurd h (by decide), fun _ => ?_⟩
          rw [xj5]
          exact (g3 (by omega)).sum hM (Or.inr rfl) (j3 (by omega))
      · rcases hk with rfl | rfl
        · refine ⟨fl, _, xKv.bin hm g1 j1 ⟨by omega, by omega, by omega⟩ (by omega), fun h => absurd h (by decide), fun _ => ?_⟩
          rw [xj2]
          exact (g3 (by omega)).test hM (Or.inl rfl) (j3 (by omega))
        · refine ⟨fl, _, xKv.bin hm g1 j1 ⟨by omega, by omega, by omega⟩ (by omega), fun h => absurd h (by decide), fun _ => ?_⟩
          rw [xj3]
          exact (g3 (by omega)).test hM (Or.inr rfl) (j3 (by omega))
      · rcases hk with rfl | rfl
        · refine ⟨fl, _, xKv.bin hm g1 j1 ⟨by omega, by omega, by omega⟩ (by omega), fun h => absurd h (by decide), fun _ => ?_⟩
          rw [xj0]
          exact (g3 (by omega)).join hM (Or.inl rfl) (j3 (by omega))
        · refine ⟨fl, _, xKv.bin hm g1 j1 ⟨by omega, by omega, by omega⟩ (by omega), fun h => absurd h (by decide), fun _ => ?_⟩
          rw [xj1]
          exact (g3 (by omega)).join hM (Or.inr rfl) (j3 (by omega))
end
/-! ===== what a law comes to: the class's value is the reference's ===== -/
theorem xKv.fin {a1 a2 a3 a4 : Int32} {m need : Nat} {C : List Int32} {v : Int32} {r : zRr} {q : zRq} (hm : m ≤ 1000) (h : xKv a1 a2 a3 a4 m need C v) (hl : C.length = m) (hn : need ≤ 32) (h1 : r 180 2 = nI m) (h2 : xsg (r 181) 0 m = C) : (Gk_passes a1 a2 a3 a4 r q).1 = if v = 0 then 0 else 1 := by
  have e : ∀ (n k : Nat), n = k + 1 + C.length → (Gk_passes_6 a1 a2 a3 a4 n (nI 0) (nI 0) r).1 = if v = 0 then 0 else 1 := by
    intro n k hk
    obtain ⟨g, _, g2, g3⟩ := h (k + 1) 0 0 r h1 ⟨by omega, by rw [hl]; exact h2⟩ (by omega)
    rw [hk, g3]
    have e0 : Gk_passes_6 a1 a2 a3 a4 (k + 1) (nI (0 + 1)) (nI (0 + C.length)) (zset r 182 g) = Bk_passes_6 a1 a2 a3 a4 (Gk_passes_6 a1 a2 a3 a4 k) (nI (0 + 1)) (nI (0 + C.length)) (zset r 182 g) := rfl
    rw [e0]
    have c1 : nI m ≤ nI (0 + C.length) := (nI_leI (by omega) (by omega)).mpr (by omega)
    have c2 : ¬ nI (0 + 1) ≤ 0 := fun h => by have := (nI_leI (b := 0) (by omega) (by omega)).mp h; omega
    have e1 : nI (0 + 1) - 1 = nI 0 := by rw [← nI_1, Int32.add_sub_cancel]
    have h1' : zset r 182 g 180 2 = nI m := h1
    have e2 : zset r 182 g 182 0 = v := by rw [zset_eq]; exact g2
    unfold Bk_passes_6
    simp only [zifQ, zletQ, h1', if_pos c1, if_neg c2, e1, xzn (show 0 < 2 ^ 31 by omega), e2]
    by_cases hv : v = 0
    · rw [if_pos hv, if_pos hv]
    · rw [if_neg hv, if_neg hv]
  unfold Gk_passes
  exact e 1001 (1000 - m) (by omega)
theorem xvl1 {a1 a2 a3 a4 : Int32} : Gk_valueOf (-1) a1 a2 a3 a4 = a1 := by
  unfold Gk_valueOf
  simp only [zifQ]
  rw [if_neg (by decide), if_neg (by decide), if_neg (by decide), if_neg (by decide), if_pos trivial]
theorem xvl3 {a1 a2 a3 a4 : Int32} : Gk_valueOf (-3) a1 a2 a3 a4 = a3 := by
  unfold Gk_valueOf
  simp only [zifQ]
  rw [if_neg (by decide), if_neg (by decide), if_pos trivial]
/-- the reference works a told law -/
theorem xwkL {P : Nat → Int32} {v : Int32} {q : zRq} {F : List Int32} {rm : zRr} (hF : F.length ≤ 1000) (h : xMl q F.length 5 P 4 F v) (h10 : rm 10 0 = 0) (h11 : rm 11 0 = nI F.length) (h12 : xsg (rm 12) 0 F.length = F) (hP : xPar P rm) : (Gm_worked rm q).1 = v ∧ zFr [15, 16, 17, 18, 19, 20, 21, 22, 23] rm (Gm_worked rm q).2 := by
  obtain ⟨o1, o16, o18, o19, o20, o22, o23⟩ := xopens (w := 0) (r := rm) (q := q) (by decide)
  obtain ⟨X, hX⟩ : ∃ X, X = Gm_opens (nI 0) rm q := ⟨_, rfl⟩
  rw [← hX] at o1 o16 o18 o19 o20 o22 o23
  have x10 : X 10 0 = 0 := by rw [o1.1 10 (by decide)]; exact h10
  have ew : Gm_worked rm q = Gm_worked_14 q 1001 (nI 0) (nI 0) X := by
    unfold Gm_worked
    rw [zletQ, ← show X = Gm_opens 0 rm q from hX, x10]
    rfl
  have e : ∀ (n k : Nat), n = k + 1 + F.length → (Gm_worked_14 q n (nI 0) (nI 0) X).1 = v ∧ zFr [15, 16, 17, 18, 19, 20, 21, 22, 23] X (Gm_worked_14 q n (nI 0) (nI 0) X).2 := by
    intro n k hk
    obtain ⟨rm1, l1, _, hv, e1⟩ := h (k + 1) 0 0 X (by rw [o1.1 11 (by decide)]; exact h11) ⟨by omega, by rw [o1.1 12 (by decide)]; exact h12⟩ (fun j g1 g2 => by rw [o1.1 24 (by decide)]; exact hP j g1 g2) (by omega) (Or.inl rfl) ⟨o22, fun _ => ⟨o19, o20⟩, fun _ => o18, fun _ => o16⟩
    have hv : xWv 0 rm1 = v := by
      unfold xVl at hv; rw [if_neg (by decide), if_neg (by decide), if_neg (by decide)] at hv; exact hv
    rw [hk, e1]
    have e0 : Gm_worked_14 q (k + 1) (nI 0) (nI (0 + F.length)) rm1 = Bm_worked_14 q (Gm_worked_14 q k) (nI 0) (nI (0 + F.length)) rm1 := rfl
    rw [e0]
    have c1 : rm1 11 0 ≤ nI (0 + F.length) := by
      rw [l1.1 11 (by decide), o1.1 11 (by decide), h11]
      exact (nI_leI (by omega) (by omega)).mpr (by omega)
    obtain ⟨s1, s15, _⟩ := xtests (w := 0) (r := rm1) (q := q) (by decide)
    have s1 : xLv 0 rm1 (Gm_tests 0 rm1 q) := s1
    have s15 : Gm_tests 0 rm1 q 15 0 = xWv 0 rm1 := s15
    unfold Bm_worked_14
    rw [zifQ, if_pos c1]
    simp only [zletQ]
    exact ⟨s15.trans hv, l1.1.tr s1.1 (by decide)⟩
  rw [ew]
  have k := e 1001 (1000 - F.length) (by omega)
  exact ⟨k.1, o1.1.tr k.2 (by decide)⟩
theorem xLawV {a1 a2 a3 : Int32} {r rm : zRr} {q qm : zRq} (h : xLw r rm) : (Gk_passes a1 a2 a3 (rm 32 0) r q).1 = (Gm_readsBeard a1 a2 a3 rm qm).1 ∧ zFr [182] r (Gk_passes a1 a2 a3 (rm 32 0) r q).2 ∧ zFr [15, 16, 17, 18, 19, 20, 21, 22, 23, 24] rm (Gm_readsBeard a1 a2 a3 rm qm).2 := by
  obtain ⟨m, hm1, hm2⟩ := h.len
  have hfr : zFr [182] r (Gk_passes a1 a2 a3 (rm 32 0) r q).2 := xpasF hm2 hm1
  obtain ⟨h10, ⟨h11, h180, h181⟩ | ⟨C, F, ⟨N, hE⟩, hF1, hF, hC, h11, h12, h180, h181⟩⟩ := h
  · have k := ((xKv.bin (a1 := a1) (a2 := a2) (a3 := a3) (a4 := rm 32 0) (m := 4) (by decide) (need := 2) (k := 2) (xKv.push (x := -1) (by decide) (by decide)) (xKv.push (x := -3) (by decide) (by decide)) ⟨by decide, by decide, by decide⟩ (by decide)).not (by decide) (by decide)).fin (r := r) (q := q) (by decide) rfl (by decide) h180 h181
    rw [xj2, xvl1, xvl3] at k
    have e : Gm_readsBeard a1 a2 a3 rm qm = if a1 < a3 then (0, rm) else (1, rm) := by
      unfold Gm_readsBeard
      simp only [zletQ, zifnQ, zifQ]
      rw [if_pos (h11.trans h10.symm)]
    refine ⟨?_, hfr, ?_⟩
    · rw [k, e]
      by_cases c : a1 < a3
      · have c1 : ¬ a3 ≤ a1 := fun h => by rw [Int32.le_iff_toInt_le] at h; rw [Int32.lt_iff_toInt_lt] at c; omega
        rw [if_pos c, if_neg c1, if_neg (show ¬ (1 : Int32) = 0 by decide), if_pos (show (0 : Int32) = 0 from rfl)]
      · have c1 : a3 ≤ a1 := by rw [Int32.le_iff_toInt_le]; rw [Int32.lt_iff_toInt_lt] at c; omega
        rw [if_neg c, if_pos c1, if_pos (show (0 : Int32) = 0 from rfl), if_neg (show ¬ (1 : Int32) = 0 by decide)]
    · rw [e]
      by_cases c : a1 < a3
      · rw [if_pos c]; exact zFr.refl
      · rw [if_neg c]; exact zFr.refl
  · obtain ⟨_, v, g1, _, g3⟩ := xtree (a1 := a1) (a2 := a2) (a3 := a3) (a4 := rm 32 0) (P := fun k => if k = 1 then a1 else if k = 2 then a2 else if k = 3 then a3 else rm 32 0) ⟨rfl, rfl, rfl, rfl⟩ (m := C.length) (M := F.length) hC hF (q := qm) N 4 5 C F hE (by omega)
    have kk := g1.fin (r := r) (q := q) hC rfl (by decide) h180 h181
    have c0 : ¬ rm 11 0 = rm 10 0 := by
      rw [h11, h10]
      exact fun h => by have := (nI_eq (b := 0) (by omega) (by omega)).mp h; omega
    obtain ⟨r8, e8⟩ : ∃ x, x = xs (xs (xs (xs rm 24 1 a1) 24 2 a2) 24 3 a3) 24 4 (rm 32 0) := ⟨_, rfl⟩
    have e : Gm_readsBeard a1 a2 a3 rm qm = zc_vr (Gm_worked r8 qm) (fun v10 r11 => if v10 = 0 then (0, r11) else (1, r11)) := by
      unfold Gm_readsBeard
      simp only [zletQ, zifnQ, zifQ, if_neg c0]
      rw [e8]
      rfl
    have f8 : zFr [24] rm r8 := by
      rw [e8]
      exact (((zFr.refl.set rfl).set rfl).set rfl).set rfl
    have p8 : xPar (fun k => if k = 1 then a1 else if k = 2 then a2 else if k = 3 then a3 else rm 32 0) r8 := by
      intro j j1 j4
      rw [e8]
      unfold xs
      rcases (show j = 1 ∨ j = 2 ∨ j = 3 ∨ j = 4 by omega) with rfl | rfl | rfl | rfl
      · rw [zset_eq, pk_un (by decide), zset_eq, pk_un (by decide), zset_eq, pk_un (by decide), zset_eq, pk_us]; rfl
      · rw [zset_eq, pk_un (by decide), zset_eq, pk_un (by decide), zset_eq, pk_us]; rfl
      · rw [zset_eq, pk_un (by decide), zset_eq, pk_us]; rfl
      · rw [zset_eq, pk_us]; rfl
    obtain ⟨w1, w2⟩ := xwkL (q := qm) (rm := r8) hF (g3 (by omega)) (by rw [f8 10 (by decide)]; exact h10) (by rw [f8 11 (by decide)]; exact h11) (by rw [f8 12 (by decide)]; exact h12) p8
    refine ⟨?_, hfr, ?_⟩
    · rw [kk, e, zc_vrQ, w1]
      by_cases hv : v = 0
      · rw [if_pos hv, if_pos hv]
      · rw [if_neg hv, if_neg hv]
    · have fz : zFr [15, 16, 17, 18, 19, 20, 21, 22, 23, 24] rm (Gm_worked r8 qm).2 := (f8.up (by decide)).tr w2 (by decide)
      rw [e, zc_vrQ]
      by_cases hv : (Gm_worked r8 qm).1 = 0
      · rw [if_pos hv]; exact fz
      · rw [if_neg hv]; exact fz
section
/-! ===== what guards do, apart from how either side keeps it ===== -/
/-- those for whom f is not 0, as bits -/
noncomputable def yB (f : Nat → Int32) : Nat → Int32
  | 0 => 0
  | n + 1 => if f n = 0 then yB f n else yB f n ||| ((1 : Int32) <<< (nI n &&& 31))
theorem yB_s {f : Nat → Int32} {n : Nat} : yB f (n + 1) = if f n = 0 then yB f n else yB f n ||| ((1 : Int32) <<< (nI n &&& 31)) := rfl
theorem yB.congr {f g : Nat → Int32} : ∀ n, (∀ i, i < n → f i = g i) → yB f n = yB g n := by
  intro n
  induction n with
  | zero => intro _; rfl
  | succ n ih =>
    intro h
    rw [yB_s, yB_s, ih (fun i hi => h i (by omega)), h n (by omega)]
/-- a loop that gathers bits -/
theorem xLpB {p : Nat} {M : List Nat} {r0 : zRr} {f : Nat → Int32} {G : Nat → Int32 → Int32 → zRr → Int32 × zRr} (hs : ∀ n a i r, i < p → zFr M r0 r → ∃ r1, zFr M r0 r1 ∧ G (n + 1) a (nI i) r = G n (if f i = 0 then a else a ||| ((1 : Int32) <<< (nI i &&& 31))) (nI (i + 1)) r1) (he : ∀ n a r, zFr M r0 r → G (n + 1) a (nI p) r = (a, r)) : ∀ n i r, i ≤ p → p < n + i → zFr M r0 r → ∃ r1, zFr M r0 r1 ∧ G n (yB f i) (nI i) r = (yB f p, r1) := by
  intro n
  induction n with
  | zero => intro i r h1 h2; omega
  | succ n ih =>
    intro i r h1 h2 h3
    by_cases e : i = p
    · subst e; exact ⟨r, h3, he n _ r h3⟩
    · obtain ⟨r1, f1, e1⟩ := hs n (yB f i) i r (by omega) h3
      obtain ⟨r2, f2, e2⟩ := ih (i + 1) r1 (by omega) (by omega) f1
      exact ⟨r2, f2, by rw [e1, ← yB_s]; exact e2⟩
noncomputable abbrev xLT : Type := Int32 → Int32 → Int32 → Int32 → Int32
/-- one who is not smooth, before a guard -/
noncomputable def sAl (Lf : xLT) (E S : Nat → Nat → Int32) (mo : Int32) (j i : Nat) : Int32 := if E 2 j = 2 then 1 else Lf (S 2 j + S 3 j) (S 3 j) (if E 2 j = 3 then (E 0 i + mo) / 2 else E 0 i + mo) (S 0 0)
noncomputable def sVo (Lf : xLT) (E S : Nat → Nat → Int32) (mo at_ : Int32) (i j : Nat) : Int32 := if E 2 j = 1 then 0 else if S 1 j = at_ then sAl Lf E S mo j i else 0
noncomputable def sLe (Lf : xLT) (p : Nat) (E S : Nat → Nat → Int32) (mo at_ : Int32) (j i : Nat) : Int32 := if E 2 j = 1 then (if yB (sVo Lf E S mo at_ i) p = 0 then 0 else 1) else sAl Lf E S mo j i
noncomputable def sGo (Lf : xLT) (p : Nat) (E S : Nat → Nat → Int32) (mo : Int32) (j i : Nat) : Int32 := if (E 1 (zn (S 1 j)) >>> (nI i &&& 31)) &&& 1 = 0 then 0 else if sLe Lf p E S mo (S 1 j) j i = 0 then 0 else 1
/-- the class holds a LAND, a standing -/
noncomputable def xCe (Lf : xLT) (t p : Nat) (E : Nat → Nat → Int32) (r : zRr) : Prop := (r 171 9 = nI t ∧ r 171 10 = nI p ∧ r 171 11 = E 3 0 ∧ r 171 12 = E 3 1) ∧ (t ≤ 6 ∧ p ≤ 6) ∧ (∀ i, i < t → r 172 i = E 0 i ∧ r 173 i = E 1 i) ∧ (∀ j, j < p → r 175 j = E 2 j) ∧ ∀ r1, r1 180 = r 180 → r1 181 = r 181 → ∀ a1 a2 a3 a4 q, (Gk_passes a1 a2 a3 a4 r1 q).1 = Lf a1 a2 a3 a4 ∧ zFr [182] r1 (Gk_passes a1 a2 a3 a4 r1 q).2
noncomputable def xCs (t p b : Nat) (S : Nat → Nat → Int32) (r : zRr) : Prop := r b 5 = S 0 0 ∧ ∀ j, j < p → (∃ a, a < t ∧ S 1 j = nI a) ∧ r (b + 1) j = S 1 j ∧ r (b + 2) j = S 2 j ∧ r (b + 3) j = S 3 j ∧ r (b + 4) j = S 4 j ∧ r (b + 5) j = S 5 j
theorem xCe.fr {Lf : xLT} {t p : Nat} {E : Nat → Nat → Int32} {r r1 : zRr} {M : List Nat} (h : xCe Lf t p E r) (f : zFr M r r1) (k : ([171, 172, 173, 175, 180, 181].all fun k => !M.contains k) = true) : xCe Lf t p E r1 := by
  have g : ∀ a, [171, 172, 173, 175, 180, 181].contains a = true → r1 a = r a := fun a ha => f a (by
    have := List.all_eq_true.mp k a (List.contains_iff_mem.mp ha)
    revert this
    cases M.contains a with
    | false => intro _; rfl
    | true => intro h; cases h)
  obtain ⟨h1, h3, h4, h5, h6⟩ := h
  refine ⟨by rw [g 171 rfl]; exact h1, h3, fun i hi => ?_, fun j hj => ?_, fun r2 k1 k2 => h6 r2 (by rw [k1, g 180 rfl]) (by rw [k2, g 181 rfl])⟩
  · rw [g 172 rfl, g 173 rfl]; exact h4 i hi
  · rw [g 175 rfl]; exact h5 j hj
theorem xCs.fr {t p b : Nat} {S : Nat → Nat → Int32} {r r1 : zRr} (h : xCs t p b S r) (f0 : r1 b = r b) (f1 : r1 (b + 1) = r (b + 1)) (f2 : r1 (b + 2) = r (b + 2)) (f3 : r1 (b + 3) = r (b + 3)) (f4 : r1 (b + 4) = r (b + 4)) (f5 : r1 (b + 5) = r (b + 5)) : xCs t p b S r1 := by
  unfold xCs at h ⊢
  rw [f0, f1, f2, f3, f4, f5]; exact h
theorem xlw1 {r : zRr} {o : Int32 × zRr} {v : Int32} {M : List Nat} (h : o.1 = v ∧ zFr M r o.2) : ∃ r1, zFr M r r1 ∧ zc_vr o (fun v r => (v, r)) = (v, r1) := by
  obtain ⟨v1, r1⟩ := o
  have e : v1 = v := h.1
  exact ⟨r1, h.2, by rw [xcvr (r := r1), e]⟩
theorem nI_leN {a b : Nat} (h : ¬ a ≤ b) (ha : a ≤ 1000) (hb : b ≤ 1000) : ¬ nI a ≤ nI b := fun k => h ((nI_leI (by omega) (by omega)).mp k)
theorem nI_leP {a b : Nat} (h : a ≤ b) (ha : a ≤ 1000) (hb : b ≤ 1000) : nI a ≤ nI b := (nI_leI (by omega) (by omega)).mpr h
theorem xh0 {x y : Int32} : Gk_has x y = 0 ↔ (x >>> (y &&& 31)) &&& 1 = 0 := by
  unfold Gk_has
  simp only [zletQ, zifQ]
  by_cases h : (x >>> (y &&& 31)) &&& 1 = 0
  · rw [if_pos h]; exact ⟨fun _ => h, fun _ => rfl⟩
  · rw [if_neg h]; exact ⟨fun k => absurd k (by decide), fun k => absurd k h⟩
section XGA
variable {Lf : xLT} {t p : Nat} {E S : Nat → Nat → Int32} {r : zRr} {q : zRq}
end XGA
section XGN
variable {Lf : xLT} {t p : Nat} {E S : Nat → Nat → Int32} {r : zRr} {q : zRq}
theorem kAlN (hE : xCe Lf t p E r) (hS : xCs t p 6 S r) {mo : Int32} {j i : Nat} (hj : j < p) (hi : i < t) : ∃ r1, zFr [182] r r1 ∧ Gk_passesAloneN (nI j) (nI i) mo r q = (sAl Lf E S mo j i, r1) := by
  obtain ⟨_, ⟨e3, e4⟩, e5, e6, e7⟩ := hE
  obtain ⟨s0, s1⟩ := hS
  obtain ⟨_, _, s3, s4, _⟩ := s1 j hj
  have s0 : r 6 5 = S 0 0 := s0
  have s3 : r 8 j = S 2 j := s3
  have s4 : r 9 j = S 3 j := s4
  unfold Gk_passesAloneN Gk_passesAloneN_74 sAl
  simp only [zletQ, zifnQ, xzn (show j < 2 ^ 31 by omega), xzn (show i < 2 ^ 31 by omega), (e5 i hi).1, e6 j hj, s0, s3, s4]
  by_cases k2 : E 2 j = 2
  · rw [if_pos k2, if_pos k2]; exact ⟨r, zFr.refl, rfl⟩
  · rw [if_neg k2, if_neg k2]
    by_cases k3 : E 2 j = 3
    · rw [if_pos k3, if_pos k3]; exact xlw1 (e7 r rfl rfl _ _ _ _ q)
    · rw [if_neg k3, if_neg k3]; exact xlw1 (e7 r rfl rfl _ _ _ _ q)
theorem xCs.sN {r1 : zRr} {M : List Nat} (h : xCs t p 6 S r) (f : zFr M r r1) (k0 : M.contains 6 = false) (k1 : M.contains 7 = false) (k2 : M.contains 8 = false) (k3 : M.contains 9 = false) (k4 : M.contains 10 = false) (k5 : M.contains 11 = false) : xCs t p 6 S r1 := h.fr (f _ k0) (f _ k1) (f _ k2) (f _ k3) (f _ k4) (f _ k5)
theorem kVoN (hE : xCe Lf t p E r) (hS : xCs t p 6 S r) {at_ : Int32} {i : Nat} (hi : i < t) : ∃ r1, zFr [182] r r1 ∧ Gk_voicesN at_ (nI i) r q = (yB (sVo Lf E S 0 at_ i) p, r1) := by
  have hp : p ≤ 6 := hE.2.1.2
  have k := xLpB (p := p) (M := [182]) (r0 := r) (f := sVo Lf E S 0 at_ i) (G := Gk_voicesN_6 at_ (nI i) q) (by
    intro n a j r2 hj f
    have e0 : Gk_voicesN_6 at_ (nI i) q (n + 1) a (nI j) r2 = Bk_voicesN_6 at_ (nI i) q (Gk_voicesN_6 at_ (nI i) q n) a (nI j) r2 := rfl
    have hE2 := hE.fr f (by decide)
    have hS2 := hS.sN f rfl rfl rfl rfl rfl rfl
    obtain ⟨r3, f3, e3⟩ := kAlN (q := q) hE2 hS2 (mo := 0) hj hi
    have k5 := hE2.2.2.2.1 j hj
    have k7 : r2 7 j = S 1 j := (hS2.2 j hj).2.1
    rw [e0]
    unfold Bk_voicesN_6 Gk_voicesN_64 sVo
    simp only [zletQ, zifQ, zifnQ, hE2.1.2.1, nI_1, xzn (show j < 2 ^ 31 by omega), k5, k7]
    rw [if_neg (nI_leN (by omega) (by omega) (by omega))]
    by_cases h1 : E 2 j = 1
    · refine ⟨r2, f, ?_⟩
      rw [if_pos h1, if_pos h1, if_pos rfl]
    · rw [if_neg h1, if_neg h1]
      by_cases h2 : S 1 j = at_
      · refine ⟨r3, f.tr f3 (by decide), ?_⟩
        rw [if_pos h2, if_pos h2, e3, xcvr (r := r3)]
        by_cases hv : sAl Lf E S 0 j i = 0
        · rw [if_pos hv, if_pos hv]
        · rw [if_neg hv, if_neg hv]
      · refine ⟨r2, f, ?_⟩
        rw [if_neg h2, if_neg h2, if_pos rfl]) (by
    intro n a r2 f
    have e0 : Gk_voicesN_6 at_ (nI i) q (n + 1) a (nI p) r2 = Bk_voicesN_6 at_ (nI i) q (Gk_voicesN_6 at_ (nI i) q n) a (nI p) r2 := rfl
    have hE2 := hE.fr f (by decide)
    rw [e0]
    unfold Bk_voicesN_6
    simp only [zletQ, zifQ, hE2.1.2.1]
    rw [if_pos (nI_leP (by omega) (by omega) (by omega))]) 7 0 r (by omega) (by omega) zFr.refl
  obtain ⟨r1, f1, e1⟩ := k
  exact ⟨r1, f1, by unfold Gk_voicesN; exact e1⟩
theorem kLeN (hE : xCe Lf t p E r) (hS : xCs t p 6 S r) {j i : Nat} (hj : j < p) (hi : i < t) : ∃ r1, zFr [182] r r1 ∧ Gk_letsN (nI j) (nI i) r q = (sLe Lf p E S 0 (S 1 j) j i, r1) := by
  have hp : p ≤ 6 := hE.2.1.2
  have k5 := hE.2.2.2.1 j hj
  have k7 : r 7 j = S 1 j := (hS.2 j hj).2.1
  unfold Gk_letsN sLe
  simp only [zletQ, zifQ, zifnQ, xzn (show j < 2 ^ 31 by omega), k5, k7]
  by_cases h1 : E 2 j = 1
  · obtain ⟨r3, f3, e3⟩ := kVoN (q := q) hE hS (at_ := S 1 j) hi
    refine ⟨r3, f3, ?_⟩
    rw [if_pos h1, if_pos h1, e3, xcvr (r := r3)]
    by_cases hv : yB (sVo Lf E S 0 (S 1 j) i) p = 0
    · rw [if_pos hv, if_pos hv]
    · rw [if_neg hv, if_neg hv]
  · obtain ⟨r3, f3, e3⟩ := kAlN (q := q) hE hS (mo := 0) hj hi
    refine ⟨r3, f3, ?_⟩
    rw [if_neg h1, if_neg h1, e3, xcvr (r := r3)]
theorem kGoN (hE : xCe Lf t p E r) (hS : xCs t p 6 S r) {j i : Nat} (hj : j < p) (hi : i < t) : ∃ r1, zFr [182] r r1 ∧ Gk_canGoN (nI j) (nI i) r q = (sGo Lf p E S 0 j i, r1) := by
  have hp : p ≤ 6 := hE.2.1.2
  have k7 : r 7 j = S 1 j := (hS.2 j hj).2.1
  obtain ⟨a, ha, ea⟩ := (hS.2 j hj).1
  have ht : t ≤ 6 := hE.2.1.1
  have k3 : r 173 (zn (S 1 j)) = E 1 (zn (S 1 j)) := by rw [ea, xzn (show a < 2 ^ 31 by omega)]; exact (hE.2.2.1 a ha).2
  obtain ⟨r3, f3, e3⟩ := kLeN (q := q) hE hS hj hi
  unfold Gk_canGoN sGo
  simp only [zletQ, zifQ, xzn (show j < 2 ^ 31 by omega), k7, k3, xh0]
  by_cases h1 : (E 1 (zn (S 1 j)) >>> (nI i &&& 31)) &&& 1 = 0
  · rw [if_pos h1, if_pos h1]; exact ⟨r, zFr.refl, rfl⟩
  · refine ⟨r3, f3, ?_⟩
    rw [if_neg h1, if_neg h1, e3, xcvr (r := r3)]
    by_cases hv : sLe Lf p E S 0 (S 1 j) j i = 0
    · rw [if_pos hv, if_pos hv]
    · rw [if_neg hv, if_neg hv]
end XGN
section XGT
variable {Lf : xLT} {t p : Nat} {E S : Nat → Nat → Int32} {r : zRr} {q : zRq}
theorem xCs.sT {r1 : zRr} {M : List Nat} (h : xCs t p 12 S r) (f : zFr M r r1) (k0 : M.contains 12 = false) (k1 : M.contains 13 = false) (k2 : M.contains 14 = false) (k3 : M.contains 15 = false) (k4 : M.contains 16 = false) (k5 : M.contains 17 = false) : xCs t p 12 S r1 := h.fr (f _ k0) (f _ k1) (f _ k2) (f _ k3) (f _ k4) (f _ k5)
end XGT
end
section
/-! ===== what guards do: the reference ===== -/
noncomputable def xMe (Lf : xLT) (t p : Nat) (E : Nat → Nat → Int32) (mo : Int32) (r : zRr) : Prop := (r 1 0 = nI t ∧ r 1 1 = nI p ∧ r 1 2 = E 3 0 ∧ r 1 3 = E 3 1) ∧ (t ≤ 6 ∧ p ≤ 6) ∧ (∀ i, i < t → r 4 i = E 0 i ∧ r 5 i = E 1 i) ∧ (∀ j, j < p → r 6 j = E 2 j) ∧ r 152 0 = mo ∧ ∀ r1, r1 10 = r 10 → r1 11 = r 11 → r1 12 = r 12 → ∀ a1 a2 a3 q, (Gm_readsBeard a1 a2 a3 r1 q).1 = Lf a1 a2 a3 (r1 32 0) ∧ zFr [15, 16, 17, 18, 19, 20, 21, 22, 23, 24] r1 (Gm_readsBeard a1 a2 a3 r1 q).2
noncomputable def xMs (t p : Nat) (S : Nat → Nat → Int32) (f : Nat → Int32) : Prop := f 0 = S 0 0 ∧ ∀ j, j < p → (∃ a, a < t ∧ S 1 j = nI a) ∧ f (1 + j) = S 1 j ∧ f (7 + j) = S 2 j ∧ f (13 + j) = S 3 j ∧ f (19 + j) = S 4 j ∧ f (25 + j) = S 5 j
theorem xMe.fr {Lf : xLT} {t p : Nat} {E : Nat → Nat → Int32} {mo : Int32} {r r1 : zRr} {M : List Nat} (h : xMe Lf t p E mo r) (f : zFr M r r1) (k : ([1, 4, 5, 6, 10, 11, 12, 152].all fun k => !M.contains k) = true) : xMe Lf t p E mo r1 := by
  have g : ∀ a, [1, 4, 5, 6, 10, 11, 12, 152].contains a = true → r1 a = r a := fun a ha => f a (by
    have := List.all_eq_true.mp k a (List.contains_iff_mem.mp ha)
    revert this
    cases M.contains a with
    | false => intro _; rfl
    | true => intro h; cases h)
  obtain ⟨h1, h3, h4, h5, h6, h7⟩ := h
  refine ⟨by rw [g 1 rfl]; exact h1, h3, fun i hi => ?_, fun j hj => ?_, by rw [g 152 rfl]; exact h6, fun r2 k1 k2 k3 => h7 r2 (by rw [k1, g 10 rfl]) (by rw [k2, g 11 rfl]) (by rw [k3, g 12 rfl])⟩
  · rw [g 4 rfl, g 5 rfl]; exact h4 i hi
  · rw [g 6 rfl]; exact h5 j hj
theorem xMs.fr {t p : Nat} {S : Nat → Nat → Int32} {f g : Nat → Int32} (h : xMs t p S f) (e : g = f) : xMs t p S g := by
  rw [e]; exact h
section XGM
variable {Lf : xLT} {t p : Nat} {E S : Nat → Nat → Int32} {mo : Int32} {r : zRr} {q : zRq}
theorem mAl (hE : xMe Lf t p E mo r) (hS : xMs t p S (r 32)) {j i : Nat} (hj : j < p) (hi : i < t) : ∃ r1, zFr [15, 16, 17, 18, 19, 20, 21, 22, 23, 24] r r1 ∧ Gm_letsHim (nI i) (nI j) r q = (sAl Lf E S mo j i, r1) := by
  obtain ⟨_, ⟨e3, e4⟩, e5, e6, em, e7⟩ := hE
  obtain ⟨s0, s1⟩ := hS
  obtain ⟨_, _, s3, s4, _⟩ := s1 j hj
  have n7 : (7 : Int32) + nI j = nI (7 + j) := nI_add 7 j
  have n13 : (13 : Int32) + nI j = nI (13 + j) := nI_add 13 j
  unfold Gm_letsHim Gm_letsHim_70 sAl
  simp only [zletQ, zifnQ, n7, n13, xzn (show j < 2 ^ 31 by omega), xzn (show i < 2 ^ 31 by omega), xzn (show 7 + j < 2 ^ 31 by omega), xzn (show 13 + j < 2 ^ 31 by omega), (e5 i hi).1, e6 j hj, em, s3, s4]
  have k : ∀ x, (Gm_readsBeard (S 2 j + S 3 j) (S 3 j) x r q).1 = Lf (S 2 j + S 3 j) (S 3 j) x (S 0 0) ∧ zFr [15, 16, 17, 18, 19, 20, 21, 22, 23, 24] r (Gm_readsBeard (S 2 j + S 3 j) (S 3 j) x r q).2 := fun x => by
    have := e7 r rfl rfl rfl (S 2 j + S 3 j) (S 3 j) x q
    rw [s0] at this
    exact this
  by_cases k2 : E 2 j = 2
  · rw [if_pos k2, if_pos k2]; exact ⟨r, zFr.refl, rfl⟩
  · rw [if_neg k2, if_neg k2]
    by_cases k3 : E 2 j = 3
    · rw [if_pos k3, if_pos k3]; exact xlw1 (k _)
    · rw [if_neg k3, if_neg k3]; exact xlw1 (k _)
theorem or0 (a : Int32) : a ||| 0 = a := Int32.or_zero
theorem mSp (hE : xMe Lf t p E mo r) (hS : xMs t p S (r 32)) {at_ : Int32} {i : Nat} (hi : i < t) : ∃ r1, zFr [15, 16, 17, 18, 19, 20, 21, 22, 23, 24] r r1 ∧ Gm_speakersAt at_ (nI i) r q = (yB (sVo Lf E S mo at_ i) p, r1) := by
  have hp : p ≤ 6 := hE.2.1.2
  have k := xLpB (p := p) (M := [15, 16, 17, 18, 19, 20, 21, 22, 23, 24]) (r0 := r) (f := sVo Lf E S mo at_ i) (G := Gm_speakersAt_5 at_ (nI i) q) (by
    intro n a j r2 hj f
    have e0 : Gm_speakersAt_5 at_ (nI i) q (n + 1) a (nI j) r2 = Bm_speakersAt_5 at_ (nI i) q (Gm_speakersAt_5 at_ (nI i) q n) a (nI j) r2 := rfl
    have hE2 := hE.fr f (by decide)
    have hS2 := hS.fr (f 32 rfl)
    obtain ⟨r3, f3, e3⟩ := mAl (q := q) hE2 hS2 hj hi
    have k5 := hE2.2.2.2.1 j hj
    have k7 := (hS2.2 j hj).2.1
    have n1 : (1 : Int32) + nI j = nI (1 + j) := nI_add 1 j
    rw [e0]
    unfold Bm_speakersAt_5 Gm_speakersAt_58 Gm_speakersAt_59 sVo
    simp only [zletQ, zifQ, zifnQ, hE2.1.2.1, nI_1, n1, xzn (show j < 2 ^ 31 by omega), xzn (show 1 + j < 2 ^ 31 by omega), k5, k7, or0]
    rw [if_neg (nI_leN (by omega) (by omega) (by omega))]
    by_cases h1 : E 2 j = 1
    · refine ⟨r2, f, ?_⟩
      rw [if_pos h1, if_pos h1, if_pos rfl]
    · rw [if_neg h1, if_neg h1]
      by_cases h2 : S 1 j = at_
      · refine ⟨r3, f.tr f3 (by decide), ?_⟩
        rw [if_pos h2, if_pos h2, e3, xcvr (r := r3)]
        by_cases hv : sAl Lf E S mo j i = 0
        · rw [if_pos hv, if_pos hv]
        · rw [if_neg hv, if_neg hv]
      · refine ⟨r2, f, ?_⟩
        rw [if_neg h2, if_neg h2, if_pos rfl]) (by
    intro n a r2 f
    have e0 : Gm_speakersAt_5 at_ (nI i) q (n + 1) a (nI p) r2 = Bm_speakersAt_5 at_ (nI i) q (Gm_speakersAt_5 at_ (nI i) q n) a (nI p) r2 := rfl
    have hE2 := hE.fr f (by decide)
    rw [e0]
    unfold Bm_speakersAt_5
    simp only [zletQ, zifQ, hE2.1.2.1]
    rw [if_pos (nI_leP (by omega) (by omega) (by omega))]) 7 0 r (by omega) (by omega) zFr.refl
  obtain ⟨r1, f1, e1⟩ := k
  exact ⟨r1, f1, by unfold Gm_speakersAt; exact e1⟩
theorem mLe (hE : xMe Lf t p E mo r) (hS : xMs t p S (r 32)) {at_ : Int32} {j i : Nat} (hj : j < p) (hi : i < t) : ∃ r1, zFr [15, 16, 17, 18, 19, 20, 21, 22, 23, 24] r r1 ∧ Gm_lets (nI i) (nI j) at_ r q = (sLe Lf p E S mo at_ j i, r1) := by
  have hp : p ≤ 6 := hE.2.1.2
  have k5 := hE.2.2.2.1 j hj
  unfold Gm_lets sLe
  simp only [zletQ, zifQ, zifnQ, xzn (show j < 2 ^ 31 by omega), k5]
  by_cases h1 : E 2 j = 1
  · obtain ⟨r3, f3, e3⟩ := mSp (q := q) hE hS (at_ := at_) hi
    refine ⟨r3, f3, ?_⟩
    rw [if_pos h1, if_pos h1, e3, xcvr (r := r3)]
    by_cases hv : yB (sVo Lf E S mo at_ i) p = 0
    · rw [if_pos hv, if_pos hv]
    · rw [if_neg hv, if_neg hv]
  · obtain ⟨r3, f3, e3⟩ := mAl (q := q) hE hS hj hi
    refine ⟨r3, f3, ?_⟩
    rw [if_neg h1, if_neg h1, e3, xcvr (r := r3)]
theorem mGo (hE : xMe Lf t p E mo r) (hS : xMs t p S (r 32)) {j i : Nat} (hj : j < p) (hi : i < t) : ∃ r1, zFr [15, 16, 17, 18, 19, 20, 21, 22, 23, 24] r r1 ∧ Gm_canGo (nI j) (nI i) r q = (sGo Lf p E S mo j i, r1) := by
  have hp : p ≤ 6 := hE.2.1.2
  have ht : t ≤ 6 := hE.2.1.1
  obtain ⟨⟨a, ha, ea⟩, k7, _⟩ := hS.2 j hj
  have k3 : r 5 (zn (S 1 j)) = E 1 (zn (S 1 j)) := by rw [ea, xzn (show a < 2 ^ 31 by omega)]; exact (hE.2.2.1 a ha).2
  obtain ⟨r3, f3, e3⟩ := mLe (q := q) hE hS (at_ := S 1 j) hj hi
  have n1 : (1 : Int32) + nI j = nI (1 + j) := nI_add 1 j
  unfold Gm_canGo sGo
  simp only [zletQ, zifQ, zifnQ, n1, xzn (show 1 + j < 2 ^ 31 by omega), k7, k3]
  rcases xbit (E 1 (zn (S 1 j)) >>> (nI i &&& 31)) with h1 | h1
  · rw [if_neg (by rw [h1]; decide), if_pos h1]; exact ⟨r, zFr.refl, rfl⟩
  · refine ⟨r3, f3, ?_⟩
    rw [if_pos h1, if_neg (by rw [h1]; decide), e3, xcvr (r := r3)]
    by_cases hv : sLe Lf p E S mo (S 1 j) j i = 0
    · rw [if_pos hv, if_pos hv]
    · rw [if_neg hv, if_neg hv]
end XGM
end
section
/-! ===== how it is: a standing, on both sides ===== -/
noncomputable def xZr (p : Nat) (f : Nat → Int32) : Prop := ∀ j, p ≤ j → j < 6 → f (13 + j) = 0 ∧ f (19 + j) = 0
/-- the class's at row b, the reference's as f -/
noncomputable def xSt (t p b : Nat) (r : zRr) (f : Nat → Int32) : Prop := ∃ S, xCs t p b S r ∧ xMs t p S f ∧ xZr p f
section XST
variable {t p b : Nat} {S : Nat → Nat → Int32} {r r1 : zRr} {f g : Nat → Int32}
theorem xCs.eq (h : xCs t p b S r) (k : ∀ i, i < 6 → r1 (b + i) = r (b + i)) : xCs t p b S r1 := h.fr (k 0 (by omega)) (k 1 (by omega)) (k 2 (by omega)) (k 3 (by omega)) (k 4 (by omega)) (k 5 (by omega))
theorem xMs.eq (h : xMs t p S f) (hp : p ≤ 6) (k : ∀ i, i < 31 → g i = f i) : xMs t p S g := by
  refine ⟨by rw [k 0 (by omega)]; exact h.1, fun j hj => ?_⟩
  rw [k (1 + j) (by omega), k (7 + j) (by omega), k (13 + j) (by omega), k (19 + j) (by omega), k (25 + j) (by omega)]
  exact h.2 j hj
theorem xSt.eq (h : xSt t p b r f) (hp : p ≤ 6) (k : ∀ i, i < 6 → r1 (b + i) = r (b + i)) (m : ∀ i, i < 31 → g i = f i) : xSt t p b r1 g := by
  obtain ⟨S, h1, h2, h3⟩ := h
  exact ⟨S, h1.eq k, h2.eq hp m, fun j a c => by rw [m (13 + j) (by omega), m (19 + j) (by omega)]; exact h3 j a c⟩
theorem xCs.cp {n : Nat} (h : xCs t p b S r) (hp : p ≤ 6) : xCs t p n S (kcp8 r n b) := by
  refine ⟨by rw [kcp8_0, pk_us]; exact h.1, fun j hj => ?_⟩
  rw [kcp8_k (k := 1) ⟨by decide, by decide⟩, kcp8_k (k := 2) ⟨by decide, by decide⟩, kcp8_k (k := 3) ⟨by decide, by decide⟩, kcp8_k (k := 4) ⟨by decide, by decide⟩, kcp8_k (k := 5) ⟨by decide, by decide⟩, xcpy (by omega), xcpy (by omega), xcpy (by omega), xcpy (by omega), xcpy (by omega)]
  exact h.2 j hj
theorem xSt.cp {n : Nat} (h : xSt t p b r f) (hp : p ≤ 6) : xSt t p n (kcp8 r n b) f := by
  obtain ⟨S, h1, h2, h3⟩ := h
  exact ⟨S, h1.cp hp, h2, h3⟩
theorem xCs.set {k j : Nat} {v : Int32} (h : xCs t p b S r) (hk : 1 ≤ k ∧ k ≤ 5) (hv : k = 1 → ∃ a, a < t ∧ v = nI a) : xCs t p b (xs S k j v) (xs r (b + k) j v) := by
  refine ⟨?_, fun i hi => ?_⟩
  · unfold xs
    rw [zset_ne (show b ≠ b + k by omega), zset_ne (show 0 ≠ k by omega)]
    exact h.1
  · obtain ⟨g1, g2, g3, g4, g5, g6⟩ := h.2 i hi
    have e : ∀ k1, r (b + k1) i = S k1 i → xs r (b + k) j v (b + k1) i = xs S k j v k1 i := by
      intro k1 e
      unfold xs
      by_cases c : k1 = k
      · subst c
        rw [zset_eq, zset_eq]
        by_cases d : i = j
        · subst d; rw [pk_us, pk_us]
        · rw [pk_un d, pk_un d]; exact e
      · rw [zset_ne (show b + k1 ≠ b + k by omega), zset_ne c]; exact e
    refine ⟨?_, e 1 g2, e 2 g3, e 3 g4, e 4 g5, e 5 g6⟩
    by_cases c : k = 1
    · subst c
      unfold xs
      rw [zset_eq]
      by_cases d : i = j
      · subst d; rw [pk_us]; exact hv rfl
      · rw [pk_un d]; exact g1
    · unfold xs
      rw [zset_ne (show 1 ≠ k from fun h => c h.symm)]; exact g1
theorem xMs.set {k j o : Nat} {v : Int32} (h : xMs t p S f) (hp : p ≤ 6) (hk : 1 ≤ k ∧ k ≤ 5) (hj : j < 6) (ho : o + 5 = 6 * k + j) (hv : k = 1 → ∃ a, a < t ∧ v = nI a) : xMs t p (xs S k j v) (upd f o v) := by
  refine ⟨?_, fun i hi => ?_⟩
  · unfold xs
    rw [pk_un (show 0 ≠ o by omega), zset_ne (show 0 ≠ k by omega)]
    exact h.1
  · obtain ⟨g1, g2, g3, g4, g5, g6⟩ := h.2 i hi
    have e : ∀ k1 o1, o1 + 5 = 6 * k1 + i → f o1 = S k1 i → upd f o v o1 = xs S k j v k1 i := by
      intro k1 o1 h3 h4
      unfold xs
      by_cases c : k1 = k
      · subst c
        rw [zset_eq]
        by_cases d : i = j
        · subst d; rw [show o1 = o by omega, pk_us, pk_us]
        · rw [pk_un (show o1 ≠ o by omega), pk_un d]; exact h4
      · rw [zset_ne c, pk_un (show o1 ≠ o by omega)]; exact h4
    refine ⟨?_, e 1 _ (by omega) g2, e 2 _ (by omega) g3, e 3 _ (by omega) g4, e 4 _ (by omega) g5, e 5 _ (by omega) g6⟩
    by_cases c : k = 1
    · subst c
      unfold xs
      rw [zset_eq]
      by_cases d : i = j
      · subst d; rw [pk_us]; exact hv rfl
      · rw [pk_un d]; exact g1
    · unfold xs
      rw [zset_ne (show 1 ≠ k from fun h => c h.symm)]; exact g1
theorem xZr.set {k j o : Nat} {v : Int32} (h : xZr p f) (hj : j < p) (hp : p ≤ 6) (ho : o + 5 = 6 * k + j) : xZr p (upd f o v) := by
  intro i h1 h2
  rw [pk_un (show 13 + i ≠ o by omega), pk_un (show 19 + i ≠ o by omega)]
  exact h i h1 h2
end XST
/-- a loop that changes what is kept -/
theorem xLpS {p : Nat} {G : Nat → Int32 → zRr → zRr} {I : Nat → zRr → Prop} {Q : zRr → Prop} (hs : ∀ n i r, i < p → I i r → ∃ r1, I (i + 1) r1 ∧ G (n + 1) (nI i) r = G n (nI (i + 1)) r1) (he : ∀ n r, I p r → Q (G (n + 1) (nI p) r)) : ∀ n i r, i ≤ p → p < n + i → I i r → Q (G n (nI i) r) := by
  intro n
  induction n with
  | zero => intro i r h1 h2; omega
  | succ n ih =>
    intro i r h1 h2 h3
    by_cases e : i = p
    · subst e; exact he n r h3
    · obtain ⟨r1, k1, k2⟩ := hs n i r (by omega) h3
      rw [k2]
      exact ih (i + 1) r1 (by omega) (by omega) k1
/-- a move, a razor, a forger -/
noncomputable def sMv (S : Nat → Nat → Int32) (j i : Nat) : Nat → Nat → Int32 := xs (xs S 1 j (nI i)) 5 j (S 5 j ||| ((1 : Int32) <<< (nI i &&& 31)))
noncomputable def sRz (S : Nat → Nat → Int32) (j : Nat) : Nat → Nat → Int32 := xs (xs S 2 j 0) 3 j 0
noncomputable def sFg (E S : Nat → Nat → Int32) (j : Nat) (v : Int32) : Nat → Nat → Int32 := xs (xs S 3 j (S 3 j + v)) 4 j (S 4 j - v * E 3 1)
/-- a week -/
noncomputable def sGr (g x : Int32) : Int32 := if 60 < x + g then 60 else x + g
noncomputable def sWk (E S : Nat → Nat → Int32) : Nat → Nat → Int32 := zset (zset S 0 (fun j => S 0 j + 1)) 2 (fun j => if E 2 j = 1 then S 2 j else sGr (E 3 0) (S 2 j))
/-- as it is told -/
noncomputable def sBg (E : Nat → Nat → Int32) : Nat → Nat → Int32 := fun k => if k = 1 then E 4 else if k = 2 then E 5 else if k = 4 then E 6 else if k = 5 then fun j => (1 : Int32) <<< (E 4 j &&& 31) else fun _ => 0
noncomputable def xCh (t p : Nat) (E : Nat → Nat → Int32) (r : zRr) : Prop := ∀ j, j < p → (∃ a, a < t ∧ E 4 j = nI a) ∧ r 176 j = E 4 j ∧ r 177 j = E 5 j ∧ r 178 j = E 6 j
noncomputable def xMh (t p : Nat) (E : Nat → Nat → Int32) (r : zRr) : Prop := ∀ j, j < p → (∃ a, a < t ∧ E 4 j = nI a) ∧ r 7 j = E 4 j ∧ r 8 j = E 5 j ∧ r 9 j = E 6 j
theorem sGr_min {x : Int32} : (if x < 60 then x else 60) = if 60 < x then (60 : Int32) else x := by
  have c : (60 : Int32).toInt = 60 := by decide
  by_cases h : x < 60
  · have h2 : ¬ 60 < x := fun k => by rw [Int32.lt_iff_toInt_lt] at h k; omega
    rw [if_pos h, if_neg h2]
  · rw [if_neg h]
    by_cases h2 : 60 < x
    · rw [if_pos h2]
    · rw [if_neg h2]
      exact Int32.toInt_inj.mp (by rw [Int32.lt_iff_toInt_lt] at h h2; omega)
section XWKA
variable {Lf : xLT} {t p : Nat} {E S : Nat → Nat → Int32} {r : zRr} {q : zRq}
end XWKA
section XWKN
variable {Lf : xLT} {t p : Nat} {E S : Nat → Nat → Int32} {r : zRr} {q : zRq}
theorem kWkN (hE : xCe Lf t p E r) (hS : xCs t p 6 S r) : xCs t p 6 (sWk E S) (Gk_passWeekN r q) ∧ zFr [6, 8] r (Gk_passWeekN r q) := by
  have hp : p ≤ 6 := hE.2.1.2
  unfold Gk_passWeekN
  simp only [zletQ]
  have f0 : zFr [6, 8] r (zset r 6 (upd (r 6) 5 (r 6 5 + 1))) := zFr.refl.set rfl
  have k := xLpS (p := p) (G := Gk_passWeekN_12) (I := fun i r1 => zFr [6, 8] r r1 ∧ r1 6 5 = S 0 0 + 1 ∧ ∀ j, j < p → r1 8 j = if j < i then sWk E S 2 j else S 2 j) (Q := fun r1 => zFr [6, 8] r r1 ∧ r1 6 5 = S 0 0 + 1 ∧ ∀ j, j < p → r1 8 j = sWk E S 2 j) (by
    intro n i r2 hi ⟨f2, w2, c2⟩
    have e0 : Gk_passWeekN_12 (n + 1) (nI i) r2 = Bk_passWeekN_12 (Gk_passWeekN_12 n) (nI i) r2 := rfl
    have k10 : r2 171 10 = nI p := by rw [f2 171 rfl]; exact hE.1.2.1
    have k11 : r2 171 11 = E 3 0 := by rw [f2 171 rfl]; exact hE.1.2.2.1
    have k5 : r2 175 i = E 2 i := by rw [f2 175 rfl]; exact hE.2.2.2.1 i hi
    have k2 : r2 8 i = S 2 i := by rw [c2 i hi, if_neg (by omega)]
    have es : sWk E S 2 i = if E 2 i = 1 then S 2 i else sGr (E 3 0) (S 2 i) := rfl
    rw [e0]
    unfold Bk_passWeekN_12 Gk_passWeekN_63
    simp only [zletQ, zifQ, k10, k11, nI_1, xzn (show i < 2 ^ 31 by omega), k5, k2]
    rw [if_neg (nI_leN (by omega) (by omega) (by omega))]
    by_cases h1 : E 2 i = 1
    · rw [if_pos h1]
      refine ⟨r2, ⟨f2, w2, fun j hj => ?_⟩, rfl⟩
      by_cases e : j = i
      · subst e; rw [k2, if_pos (by omega), es, if_pos h1]
      · rw [c2 j hj]
        by_cases l : j < i
        · rw [if_pos l, if_pos (by omega)]
        · rw [if_neg l, if_neg (by omega)]
    · rw [if_neg h1]
      refine ⟨zset r2 8 (upd (r2 8) i (sGr (E 3 0) (S 2 i))), ⟨f2.set rfl, w2, fun j hj => ?_⟩, rfl⟩
      rw [zset_eq]
      by_cases e : j = i
      · subst e; rw [pk_us, if_pos (by omega), es, if_neg h1]
      · rw [pk_un e, c2 j hj]
        by_cases l : j < i
        · rw [if_pos l, if_pos (by omega)]
        · rw [if_neg l, if_neg (by omega)]) (by
    intro n r2 ⟨f2, w2, c2⟩
    have e0 : Gk_passWeekN_12 (n + 1) (nI p) r2 = Bk_passWeekN_12 (Gk_passWeekN_12 n) (nI p) r2 := rfl
    have k10 : r2 171 10 = nI p := by rw [f2 171 rfl]; exact hE.1.2.1
    rw [e0]
    unfold Bk_passWeekN_12
    simp only [zletQ, zifQ, k10]
    rw [if_pos (nI_leP (by omega) (by omega) (by omega))]
    exact ⟨f2, w2, fun j hj => by rw [c2 j hj, if_pos hj]⟩) 7 0 (zset r 6 (upd (r 6) 5 (r 6 5 + 1))) (by omega) (by omega) ⟨f0, by rw [zset_eq, pk_us, hS.1], fun j hj => by rw [if_neg (by omega), zset_ne (by decide)]; exact (hS.2 j hj).2.2.1⟩
  obtain ⟨f, w, c⟩ := k
  refine ⟨⟨w, fun j hj => ?_⟩, f⟩
  obtain ⟨g1, g2, g3, g4, g5, g6⟩ := hS.2 j hj
  exact ⟨g1, (congrFun (f 7 rfl) j).trans g2, c j hj, (congrFun (f 9 rfl) j).trans g4, (congrFun (f 10 rfl) j).trans g5, (congrFun (f 11 rfl) j).trans g6⟩
end XWKN
section XWKT
variable {Lf : xLT} {t p : Nat} {E S : Nat → Nat → Int32} {r : zRr} {q : zRq}
end XWKT
end
section
/-! ===== how it is: moves, a razor, a forger, weeks ===== -/
section XMVN
variable {Lf : xLT} {t p : Nat} {E S : Nat → Nat → Int32} {r : zRr} {q : zRq}
theorem kMvN (hS : xCs t p 6 S r) {j i : Nat} (hj : j < p) (hp : p ≤ 6) (hi : i < t) : xCs t p 6 (sMv S j i) (Gk_arriveN (nI j) (nI i) r q) ∧ zFr [7, 11] r (Gk_arriveN (nI j) (nI i) r q) := by
  have e : r 11 j = S 5 j := (hS.2 j hj).2.2.2.2.2
  have e2 : zset r 7 (upd (r 7) j (nI i)) 11 j = S 5 j := by rw [zset_ne (by decide)]; exact e
  unfold Gk_arriveN sMv
  simp only [zletQ, xzn (show j < 2 ^ 31 by omega)]
  rw [e2]
  exact ⟨(hS.set (k := 1) (j := j) (v := nI i) ⟨by decide, by decide⟩ (fun _ => ⟨i, hi, rfl⟩)).set (k := 5) ⟨by decide, by decide⟩ (fun h => absurd h (by decide)), (zFr.refl.set rfl).set rfl⟩
theorem kRzN (hS : xCs t p 6 S r) {j : Nat} (hj : j < p) (hp : p ≤ 6) : xCs t p 6 (sRz S j) (Gk_loseBeardN (nI j) r q) ∧ zFr [8, 9] r (Gk_loseBeardN (nI j) r q) := by
  unfold Gk_loseBeardN sRz
  simp only [zletQ, xzn (show j < 2 ^ 31 by omega)]
  exact ⟨(hS.set (k := 2) (j := j) (v := 0) ⟨by decide, by decide⟩ (fun h => absurd h (by decide))).set (k := 3) ⟨by decide, by decide⟩ (fun h => absurd h (by decide)), (zFr.refl.set rfl).set rfl⟩
theorem kFgN (hE : xCe Lf t p E r) (hS : xCs t p 6 S r) {j : Nat} {v : Int32} (hj : j < p) : xCs t p 6 (sFg E S j v) (Gk_sellN (nI j) v r q) ∧ zFr [9, 10] r (Gk_sellN (nI j) v r q) := by
  have hp : p ≤ 6 := hE.2.1.2
  have e3 : r 9 j = S 3 j := (hS.2 j hj).2.2.2.1
  have e4 : r 10 j = S 4 j := (hS.2 j hj).2.2.2.2.1
  have e1 : r 171 12 = E 3 1 := hE.1.2.2.2
  unfold Gk_sellN sFg
  simp only [zletQ, xzn (show j < 2 ^ 31 by omega), e3]
  have k4 : zset r 9 (upd (r 9) j (S 3 j + v)) 10 j = S 4 j := by rw [zset_ne (by decide)]; exact e4
  have k1 : zset r 9 (upd (r 9) j (S 3 j + v)) 171 12 = E 3 1 := by rw [zset_ne (by decide)]; exact e1
  rw [k4, k1]
  exact ⟨(hS.set (k := 3) (j := j) (v := S 3 j + v) ⟨by decide, by decide⟩ (fun h => absurd h (by decide))).set (k := 4) ⟨by decide, by decide⟩ (fun h => absurd h (by decide)), (zFr.refl.set rfl).set rfl⟩
theorem kBgN (hE : xCe Lf t p E r) (hH : xCh t p E r) : xCs t p 6 (sBg E) (Gk_begin8N r q) ∧ zFr [6, 7, 8, 9, 10, 11] r (Gk_begin8N r q) := by
  have hp : p ≤ 6 := hE.2.1.2
  unfold Gk_begin8N
  rw [zletQ]
  have f0 : zFr [6, 7, 8, 9, 10, 11] r (zset r 6 (upd (r 6) 5 0)) := zFr.refl.set rfl
  have k := xLpS (p := p) (G := Gk_begin8N_7) (I := fun i r1 => zFr [6, 7, 8, 9, 10, 11] r r1 ∧ r1 6 5 = 0 ∧ xCs t i 6 (sBg E) r1) (Q := fun r1 => zFr [6, 7, 8, 9, 10, 11] r r1 ∧ xCs t p 6 (sBg E) r1) (by
    intro n i r2 hi ⟨f2, w2, c2⟩
    have e0 : Gk_begin8N_7 (n + 1) (nI i) r2 = Bk_begin8N_7 (Gk_begin8N_7 n) (nI i) r2 := rfl
    obtain ⟨ha, h6, h7, h8⟩ := hH i hi
    have k10 : r2 171 10 = nI p := by rw [f2 171 rfl]; exact hE.1.2.1
    have k6 : r2 176 i = E 4 i := by rw [f2 176 rfl]; exact h6
    have k7 : r2 177 i = E 5 i := by rw [f2 177 rfl]; exact h7
    have k8 : r2 178 i = E 6 i := by rw [f2 178 rfl]; exact h8
    have k7' : ∀ x y, zset r2 7 x 177 y = r2 177 y := fun x y => by rw [zset_ne (by decide)]
    have k8' : ∀ x1 x2 x3 y, zset (zset (zset r2 7 x1) 8 x2) 9 x3 178 y = r2 178 y := fun x1 x2 x3 y => by rw [zset_ne (by decide), zset_ne (by decide), zset_ne (by decide)]
    have k6' : ∀ x1 x2 x3 x4 y, zset (zset (zset (zset r2 7 x1) 8 x2) 9 x3) 10 x4 176 y = r2 176 y := fun x1 x2 x3 x4 y => by rw [zset_ne (by decide), zset_ne (by decide), zset_ne (by decide), zset_ne (by decide)]
    refine ⟨xs (xs (xs (xs (xs r2 7 i (E 4 i)) 8 i (E 5 i)) 9 i 0) 10 i (E 6 i)) 11 i ((1 : Int32) <<< (E 4 i &&& 31)), ⟨?_, ?_, ?_⟩, ?_⟩
    · exact ((((f2.set rfl).set rfl).set rfl).set rfl).set rfl
    · exact w2
    · refine ⟨w2, fun j hj => ?_⟩
      obtain ⟨a, ha1, ha2⟩ := ha
      by_cases e : j = i
      · subst e
        refine ⟨⟨a, ha1, ha2⟩, ?_, ?_, ?_, ?_, ?_⟩
        all_goals unfold xs
        · rw [zset_ne (by decide), zset_ne (by decide), zset_ne (by decide), zset_ne (by decide), zset_eq, pk_us]; rfl
        · rw [zset_ne (by decide), zset_ne (by decide), zset_ne (by decide), zset_eq, pk_us]; rfl
        · rw [zset_ne (by decide), zset_ne (by decide), zset_eq, pk_us]; rfl
        · rw [zset_ne (by decide), zset_eq, pk_us]; rfl
        · rw [zset_eq, pk_us]; rfl
      · obtain ⟨g1, g2, g3, g4, g5, g6⟩ := c2.2 j (by omega)
        refine ⟨g1, ?_, ?_, ?_, ?_, ?_⟩
        all_goals unfold xs
        · rw [zset_ne (by decide), zset_ne (by decide), zset_ne (by decide), zset_ne (by decide), zset_eq, pk_un e]; exact g2
        · rw [zset_ne (by decide), zset_ne (by decide), zset_ne (by decide), zset_eq, pk_un e, zset_ne (by decide)]; exact g3
        · rw [zset_ne (by decide), zset_ne (by decide), zset_eq, pk_un e, zset_ne (by decide), zset_ne (by decide)]; exact g4
        · rw [zset_ne (by decide), zset_eq, pk_un e, zset_ne (by decide), zset_ne (by decide), zset_ne (by decide)]; exact g5
        · rw [zset_eq, pk_un e, zset_ne (by decide), zset_ne (by decide), zset_ne (by decide), zset_ne (by decide)]; exact g6
    · rw [e0]
      unfold Bk_begin8N_7
      simp only [zletQ, zifQ, k10, nI_1, xzn (show i < 2 ^ 31 by omega), k7', k8', k6', k6, k7, k8]
      rw [if_neg (nI_leN (by omega) (by omega) (by omega))]
      rfl) (by
    intro n r2 ⟨f2, w2, c2⟩
    have e0 : Gk_begin8N_7 (n + 1) (nI p) r2 = Bk_begin8N_7 (Gk_begin8N_7 n) (nI p) r2 := rfl
    have k10 : r2 171 10 = nI p := by rw [f2 171 rfl]; exact hE.1.2.1
    rw [e0]
    unfold Bk_begin8N_7
    simp only [zifQ, k10]
    rw [if_pos (nI_leP (by omega) (by omega) (by omega))]
    exact ⟨f2, c2⟩) 7 0 (zset r 6 (upd (r 6) 5 0)) (by omega) (by omega) ⟨f0, by rw [zset_eq, pk_us], by rw [zset_eq, pk_us]; rfl, fun j hj => absurd hj (by omega)⟩
  exact ⟨k.2, k.1⟩
end XMVN
section XMVT
variable {Lf : xLT} {t p : Nat} {E S : Nat → Nat → Int32} {r : zRr} {q : zRq}
end XMVT
section XMVm
variable {Lf : xLT} {t p : Nat} {E S : Nat → Nat → Int32} {mo : Int32} {r : zRr} {q : zRq}
theorem mMv (hS : xMs t p S (r 32)) (hz : xZr p (r 32)) {j i : Nat} (hj : j < p) (hp : p ≤ 6) (hi : i < t) : xMs t p (sMv S j i) (Gm_goes (nI j) (nI i) r q 32) ∧ xZr p (Gm_goes (nI j) (nI i) r q 32) ∧ zFr [32] r (Gm_goes (nI j) (nI i) r q) := by
  have e : r 32 (25 + j) = S 5 j := (hS.2 j hj).2.2.2.2.2
  have n1 : (1 : Int32) + nI j = nI (1 + j) := nI_add 1 j
  have n25 : (25 : Int32) + nI j = nI (25 + j) := nI_add 25 j
  unfold Gm_goes sMv
  simp only [zletQ, n1, n25, xzn (show 1 + j < 2 ^ 31 by omega), xzn (show 25 + j < 2 ^ 31 by omega), zset_eq]
  rw [pk_un (show 25 + j ≠ 1 + j by omega), e]
  exact ⟨(hS.set (k := 1) (j := j) (o := 1 + j) (v := nI i) hp ⟨by decide, by decide⟩ (by omega) (by omega) (fun _ => ⟨i, hi, rfl⟩)).set (k := 5) (o := 25 + j) hp ⟨by decide, by decide⟩ (by omega) (by omega) (fun h => absurd h (by decide)), (hz.set (k := 1) (o := 1 + j) hj hp (by omega)).set (k := 5) (o := 25 + j) hj hp (by omega), (zFr.refl.set rfl).set rfl⟩
theorem mRz (hS : xMs t p S (r 32)) (hz : xZr p (r 32)) {j : Nat} (hj : j < p) (hp : p ≤ 6) : xMs t p (sRz S j) (Gm_shaves (nI j) r q 32) ∧ xZr p (Gm_shaves (nI j) r q 32) ∧ zFr [32] r (Gm_shaves (nI j) r q) := by
  have n7 : (7 : Int32) + nI j = nI (7 + j) := nI_add 7 j
  have n13 : (13 : Int32) + nI j = nI (13 + j) := nI_add 13 j
  unfold Gm_shaves sRz
  simp only [zletQ, n7, n13, xzn (show 7 + j < 2 ^ 31 by omega), xzn (show 13 + j < 2 ^ 31 by omega), zset_eq]
  exact ⟨(hS.set (k := 2) (j := j) (o := 7 + j) (v := 0) hp ⟨by decide, by decide⟩ (by omega) (by omega) (fun h => absurd h (by decide))).set (k := 3) (o := 13 + j) hp ⟨by decide, by decide⟩ (by omega) (by omega) (fun h => absurd h (by decide)), (hz.set (k := 2) (o := 7 + j) hj hp (by omega)).set (k := 3) (o := 13 + j) hj hp (by omega), (zFr.refl.set rfl).set rfl⟩
theorem sFg_alt {j : Nat} {v : Int32} : xs (xs S 4 j (S 4 j - v * E 3 1)) 3 j (S 3 j + v) = sFg E S j v := by
  unfold sFg xs
  funext k i
  by_cases h3 : k = 3
  · subst h3; rw [zset_eq, zset_ne (by decide), zset_ne (by decide), zset_eq]
  · by_cases h4 : k = 4
    · subst h4; rw [zset_ne (by decide), zset_eq, zset_eq, zset_ne (by decide)]
    · rw [zset_ne h3, zset_ne h4, zset_ne h4, zset_ne h3]
theorem mFg (hE : xMe Lf t p E mo r) (hS : xMs t p S (r 32)) (hz : xZr p (r 32)) {j : Nat} {v : Int32} (hj : j < p) : xMs t p (sFg E S j v) (Gm_forges (nI j) v r q 32) ∧ xZr p (Gm_forges (nI j) v r q 32) ∧ zFr [32] r (Gm_forges (nI j) v r q) := by
  have hp : p ≤ 6 := hE.2.1.2
  have e3 : r 32 (13 + j) = S 3 j := (hS.2 j hj).2.2.2.1
  have e4 : r 32 (19 + j) = S 4 j := (hS.2 j hj).2.2.2.2.1
  have e1 : r 1 3 = E 3 1 := hE.1.2.2.2
  have n13 : (13 : Int32) + nI j = nI (13 + j) := nI_add 13 j
  have n19 : (19 : Int32) + nI j = nI (19 + j) := nI_add 19 j
  unfold Gm_forges
  rw [← sFg_alt]
  simp only [zletQ, n13, n19, xzn (show 13 + j < 2 ^ 31 by omega), xzn (show 19 + j < 2 ^ 31 by omega), zset_eq, e1, e4]
  rw [pk_un (show 13 + j ≠ 19 + j by omega), e3]
  exact ⟨(hS.set (k := 4) (j := j) (o := 19 + j) hp ⟨by decide, by decide⟩ (by omega) (by omega) (fun h => absurd h (by decide))).set (k := 3) (o := 13 + j) hp ⟨by decide, by decide⟩ (by omega) (by omega) (fun h => absurd h (by decide)), (hz.set (k := 4) (o := 19 + j) hj hp (by omega)).set (k := 3) (o := 13 + j) hj hp (by omega), (zFr.refl.set rfl).set rfl⟩
theorem mWk (hE : xMe Lf t p E mo r) (hS : xMs t p S (r 32)) (hz : xZr p (r 32)) : xMs t p (sWk E S) (Gm_passes r q 32) ∧ xZr p (Gm_passes r q 32) ∧ zFr [32] r (Gm_passes r q) := by
  have hp : p ≤ 6 := hE.2.1.2
  unfold Gm_passes
  have k := xLpS (p := p) (G := Gm_passes_2) (I := fun i r1 => zFr [32] r r1 ∧ ∀ o, r1 32 o = if 7 ≤ o ∧ o < 7 + i then sWk E S 2 (o - 7) else r 32 o) (Q := fun r1 => zFr [32] r r1 ∧ ∀ o, r1 32 o = if o = 0 then S 0 0 + 1 else if 7 ≤ o ∧ o < 7 + p then sWk E S 2 (o - 7) else r 32 o) (by
    intro n i r2 hi ⟨f2, c2⟩
    have e0 : Gm_passes_2 (n + 1) (nI i) r2 = Bm_passes_2 (Gm_passes_2 n) (nI i) r2 := rfl
    have k10 : r2 1 1 = nI p := by rw [f2 1 rfl]; exact hE.1.2.1
    have k11 : r2 1 2 = E 3 0 := by rw [f2 1 rfl]; exact hE.1.2.2.1
    have k5 : r2 6 i = E 2 i := by rw [f2 6 rfl]; exact hE.2.2.2.1 i hi
    have k2 : r2 32 (7 + i) = S 2 i := by rw [c2 (7 + i), if_neg (by omega)]; exact (hS.2 i hi).2.2.1
    have es : sWk E S 2 i = if E 2 i = 1 then S 2 i else sGr (E 3 0) (S 2 i) := rfl
    have n7 : (7 : Int32) + nI i = nI (7 + i) := nI_add 7 i
    rw [e0]
    unfold Bm_passes_2 Gm_passes_52
    simp only [zletQ, zifQ, k10, k11, nI_1, n7, xzn (show i < 2 ^ 31 by omega), xzn (show 7 + i < 2 ^ 31 by omega), k5, k2, sGr_min]
    rw [if_neg (nI_leN (by omega) (by omega) (by omega))]
    by_cases h1 : E 2 i = 1
    · rw [if_pos h1]
      refine ⟨r2, ⟨f2, fun o => ?_⟩, rfl⟩
      by_cases e : o = 7 + i
      · subst e; rw [k2, if_pos (by omega), show 7 + i - 7 = i by omega, es, if_pos h1]
      · rw [c2 o]
        by_cases l : 7 ≤ o ∧ o < 7 + i
        · rw [if_pos l, if_pos (by omega)]
        · rw [if_neg l, if_neg (by omega)]
    · rw [if_neg h1]
      refine ⟨zset r2 32 (upd (r2 32) (7 + i) (sGr (E 3 0) (S 2 i))), ⟨f2.set rfl, fun o => ?_⟩, rfl⟩
      rw [zset_eq]
      by_cases e : o = 7 + i
      · subst e; rw [pk_us, if_pos (by omega), show 7 + i - 7 = i by omega, es, if_neg h1]
      · rw [pk_un e, c2 o]
        by_cases l : 7 ≤ o ∧ o < 7 + i
        · rw [if_pos l, if_pos (by omega)]
        · rw [if_neg l, if_neg (by omega)]) (by
    intro n r2 ⟨f2, c2⟩
    have e0 : Gm_passes_2 (n + 1) (nI p) r2 = Bm_passes_2 (Gm_passes_2 n) (nI p) r2 := rfl
    have k10 : r2 1 1 = nI p := by rw [f2 1 rfl]; exact hE.1.2.1
    rw [e0]
    unfold Bm_passes_2
    simp only [zletQ, zifQ, k10]
    rw [if_pos (nI_leP (by omega) (by omega) (by omega))]
    refine ⟨f2.set rfl, fun o => ?_⟩
    rw [zset_eq]
    by_cases e : o = 0
    · subst e; rw [pk_us, if_pos rfl, c2 0, if_neg (by omega), hS.1]
    · rw [pk_un e, if_neg e]; exact c2 o) 7 0 r (by omega) (by omega) ⟨zFr.refl, fun o => by rw [if_neg (by omega)]⟩
  obtain ⟨f, c⟩ := k
  have c : ∀ o, Gm_passes_2 7 0 r 32 o = if o = 0 then S 0 0 + 1 else if 7 ≤ o ∧ o < 7 + p then sWk E S 2 (o - 7) else r 32 o := c
  have f : zFr [32] r (Gm_passes_2 7 0 r) := f
  generalize Gm_passes_2 7 0 r = r1 at c f ⊢
  refine ⟨⟨by rw [c 0, if_pos rfl]; rfl, fun j hj => ?_⟩, fun j h1 h2 => ?_, f⟩
  · obtain ⟨g1, g2, g3, g4, g5, g6⟩ := hS.2 j hj
    refine ⟨g1, ?_, ?_, ?_, ?_, ?_⟩
    · rw [c (1 + j), if_neg (by omega), if_neg (by omega)]; exact g2
    · rw [c (7 + j), if_neg (by omega), if_pos (by omega), show 7 + j - 7 = j by omega]
    · rw [c (13 + j), if_neg (by omega), if_neg (by omega)]; exact g4
    · rw [c (19 + j), if_neg (by omega), if_neg (by omega)]; exact g5
    · rw [c (25 + j), if_neg (by omega), if_neg (by omega)]; exact g6
  · rw [c (13 + j), c (19 + j), if_neg (by omega), if_neg (by omega), if_neg (by omega), if_neg (by omega)]
    exact hz j h1 h2
end XMVm
end
