/-! ===== what a law comes to: the reference ===== -/
noncomputable def xPop (c : Int32) (ih : Int32 → Int32 → zRr → (Int32 × zRr)) : Nat → Int32 → zRr → Int32 × zRr
  | 0, v, rm => Gm_worked_300 c ih (nI 0) v rm
  | w + 1, v, rm => if rm 23 (w + 1) = 1 then xPop c ih w (if v = 0 then 1 else 0) rm else Gm_worked_300 c ih (nI (w + 1)) v rm
theorem x268 {c : Int32} {ih : Int32 → Int32 → zRr → (Int32 × zRr)} : ∀ (k w : Nat) (v : Int32) (rm : zRr), w < k → w ≤ 5 → Gm_worked_268 c ih k (nI w) v rm = xPop c ih w v rm := by
  intro k
  induction k with
  | zero => intro w v rm h; omega
  | succ k ihk =>
    intro w v rm h h5
    have e0 : Gm_worked_268 c ih (k + 1) (nI w) v rm = Bm_worked_268 c ih (Gm_worked_268 c ih k) (nI w) v rm := rfl
    rw [e0]
    unfold Bm_worked_268 Gm_worked_292
    simp only [zifQ, zifnQ]
    match w, h, h5 with
    | 0, _, _ => rw [if_pos (by decide)]; rfl
    | w + 1, h, h5 =>
      have c0 : ¬ nI (w + 1) ≤ 0 := fun h => by have := (nI_leI (b := 0) (by omega) (by omega)).mp h; omega
      rw [if_neg c0, xzn (show w + 1 < 2 ^ 31 by omega)]
      show _ = if rm 23 (w + 1) = 1 then xPop c ih w (if v = 0 then 1 else 0) rm else Gm_worked_300 c ih (nI (w + 1)) v rm
      by_cases h1 : rm 23 (w + 1) = 1
      · rw [if_pos h1, if_pos h1, xdec]
        by_cases hv : v = 0
        · rw [if_pos hv, if_pos hv]; exact ihk w 1 rm (by omega) (by omega)
        · rw [if_neg hv, if_neg hv]; exact ihk w 0 rm (by omega) (by omega)
      · rw [if_neg h1, if_neg h1]
theorem xPop.base {c : Int32} {ih : Int32 → Int32 → zRr → (Int32 × zRr)} {w : Nat} {v : Int32} {rm : zRr} (h : w = 0 ∨ ¬ rm 23 w = 1) : xPop c ih w v rm = Gm_worked_300 c ih (nI w) v rm := by
  match w, h with
  | 0, _ => rfl
  | w + 1, h =>
    have h : ¬ rm 23 (w + 1) = 1 := h.resolve_left (by omega)
    show (if rm 23 (w + 1) = 1 then xPop c ih w (if v = 0 then 1 else 0) rm else Gm_worked_300 c ih (nI (w + 1)) v rm) = _
    rw [if_neg h]
/-- levels below w, and all other rows, as they were -/
def xLv (w : Nat) (r r1 : zRr) : Prop := zFr [15, 16, 17, 18, 19, 20, 21, 22, 23] r r1 ∧ ∀ a j, j < w → r1 a j = r a j
section XLV
variable {w : Nat} {r r1 r2 : zRr}
theorem xLv.refl : xLv w r r := ⟨zFr.refl, fun _ _ _ => rfl⟩
theorem xLv.tr (h : xLv w r r1) (k : xLv w r1 r2) : xLv w r r2 := ⟨h.1.tr k.1 (by decide), fun a j hj => (k.2 a j hj).trans (h.2 a j hj)⟩
theorem xLv.lo {w1 : Nat} (h : xLv w1 r r1) (k : w ≤ w1) : xLv w r r1 := ⟨h.1, fun a j hj => h.2 a j (by omega)⟩
theorem xLv.set (h : xLv w r r1) {a j : Nat} {v : Int32} (ha : [15, 16, 17, 18, 19, 20, 21, 22, 23].contains a = true) (hj : w ≤ j) : xLv w r (zset r1 a (upd (r1 a) j v)) := by
  refine ⟨h.1.set ha, fun b i hi => ?_⟩
  by_cases e : b = a
  · subst e; rw [zset_eq, pk_un (by omega)]; exact h.2 b i hi
  · rw [zset_ne e]; exact h.2 b i hi
end XLV
noncomputable def xSv (w : Nat) (r : zRr) : Int32 := if r 20 w = 21 then r 19 w - r 21 w else r 19 w + r 21 w
noncomputable def xTv (w : Nat) (r : zRr) : Int32 := if r 18 w = 24 then (if xSv w r ≤ r 17 w then 0 else 1) else if r 18 w = 25 then (if r 17 w = xSv w r then 1 else 0) else xSv w r
noncomputable def xWv (w : Nat) (r : zRr) : Int32 := if r 16 w = 26 then (if r 15 w = 0 then 0 else if xTv w r = 0 then 0 else 1) else if r 16 w = 27 then (if r 15 w = 0 then (if xTv w r = 0 then 0 else 1) else 1) else xTv w r
theorem xsums {w : Nat} {r : zRr} {q : zRq} (hw : w ≤ 5) : Gm_sums (nI w) r q = zset (zset r 19 (upd (r 19) w (xSv w r))) 22 (upd (zset r 19 (upd (r 19) w (xSv w r)) 22) w 0) := by
  unfold Gm_sums Gm_sums_45 xSv
  simp only [zifnQ, zletQ, xzn (show w < 2 ^ 31 by omega)]
  by_cases h : r 20 w = 21
  · rw [if_pos h, if_pos h]
  · rw [if_neg h, if_neg h]
/-- a sum is ended: its value in row 19 -/
theorem xsumsF {w : Nat} {r : zRr} {q : zRq} (hw : w ≤ 5) : xLv w r (Gm_sums (nI w) r q) ∧ Gm_sums (nI w) r q 19 w = xSv w r ∧ Gm_sums (nI w) r q 22 w = 0 ∧ ∀ a, ¬ a = 19 → ¬ a = 22 → Gm_sums (nI w) r q a = r a := by
  rw [xsums hw]
  refine ⟨(xLv.refl.set (by decide) (Nat.le_refl _)).set (by decide) (Nat.le_refl _), ?_, ?_, fun a h1 h2 => ?_⟩
  · rw [zset_ne (by decide), zset_eq, pk_us]
  · rw [zset_eq, pk_us]
  · rw [zset_ne h2, zset_ne h1]
theorem xt136 {w : Nat} {x : Int32} {r : zRr} (hw : w ≤ 5) : xLv w r (Gm_tests_136 (nI w) x r) ∧ Gm_tests_136 (nI w) x r 15 w = x ∧ Gm_tests_136 (nI w) x r 18 w = 0 ∧ Gm_tests_136 (nI w) x r 19 w = 0 ∧ Gm_tests_136 (nI w) x r 20 w = 20 ∧ ∀ a, ¬ a = 15 → ¬ a = 18 → ¬ a = 19 → ¬ a = 20 → Gm_tests_136 (nI w) x r a = r a := by
  unfold Gm_tests_136
  simp only [zletQ, xzn (show w < 2 ^ 31 by omega)]
  refine ⟨(((xLv.refl.set (by decide) (Nat.le_refl _)).set (by decide) (Nat.le_refl _)).set (by decide) (Nat.le_refl _)).set (by decide) (Nat.le_refl _), ?_, ?_, ?_, ?_, fun a h1 h2 h3 h4 => ?_⟩
  · rw [zset_ne (by decide), zset_ne (by decide), zset_ne (by decide), zset_eq, pk_us]
  · rw [zset_ne (by decide), zset_ne (by decide), zset_eq, pk_us]
  · rw [zset_ne (by decide), zset_eq, pk_us]
  · rw [zset_eq, pk_us]
  · rw [zset_ne h4, zset_ne h3, zset_ne h2, zset_ne h1]
theorem xt44 {w : Nat} {s : Int32} {u : zRr} (hw : w ≤ 5) : Gm_tests_44 (nI w) s u = Gm_tests_136 (nI w) (if u 16 w = 26 then (if u 15 w = 0 then 0 else if (if u 18 w = 25 then (if u 17 w = u 19 w then 1 else 0) else s) = 0 then 0 else 1) else if u 16 w = 27 then (if u 15 w = 0 then (if (if u 18 w = 25 then (if u 17 w = u 19 w then 1 else 0) else s) = 0 then 0 else 1) else 1) else (if u 18 w = 25 then (if u 17 w = u 19 w then (1 : Int32) else 0) else s)) u := by
  have k76 : ∀ x : Int32, Gm_tests_76 (nI w) x u = Gm_tests_136 (nI w) (if u 16 w = 26 then (if u 15 w = 0 then 0 else if x = 0 then 0 else 1) else if u 16 w = 27 then (if u 15 w = 0 then (if x = 0 then 0 else 1) else 1) else x) u := by
    intro x
    unfold Gm_tests_76 Gm_tests_106 Gm_tests_104 Gm_tests_105 Gm_tests_106 Gm_tests_130 Gm_tests_135
    simp only [zifQ, zifnQ, zletQ, xzn (show w < 2 ^ 31 by omega)]
    by_cases h1 : u 16 w = 26
    · have h2 : ¬ u 16 w = 27 := by rw [h1]; decide
      simp only [if_pos h1, if_neg h2]
      by_cases h3 : u 15 w = 0
      · simp only [if_pos h3]
      · simp only [if_neg h3]
        by_cases h4 : x = 0
        · simp only [if_pos h4]
        · simp only [if_neg h4]
    · simp only [if_neg h1]
      by_cases h2 : u 16 w = 27
      · simp only [if_pos h2]
        by_cases h3 : u 15 w = 0
        · simp only [if_pos h3]
          by_cases h4 : x = 0
          · simp only [if_pos h4]
          · simp only [if_neg h4]
        · simp only [if_neg h3]
      · simp only [if_neg h2]
  unfold Gm_tests_44 Gm_tests_75
  simp only [zifnQ, zletQ, xzn (show w < 2 ^ 31 by omega), k76]
  by_cases h1 : u 18 w = 25
  · simp only [if_pos h1]
    by_cases h2 : u 17 w = u 19 w
    · simp only [if_pos h2]
    · simp only [if_neg h2]
  · simp only [if_neg h1]
/-- a test is ended: its value, joined to what stands before it, in row 15 -/
theorem xtests {w : Nat} {r : zRr} {q : zRq} (hw : w ≤ 5) : xLv w r (Gm_tests (nI w) r q) ∧ Gm_tests (nI w) r q 15 w = xWv w r ∧ Gm_tests (nI w) r q 18 w = 0 ∧ Gm_tests (nI w) r q 19 w = 0 ∧ Gm_tests (nI w) r q 20 w = 20 ∧ Gm_tests (nI w) r q 22 w = 0 ∧ Gm_tests (nI w) r q 16 = r 16 ∧ Gm_tests (nI w) r q 23 = r 23 := by
  obtain ⟨s1, s2, s3, s4⟩ := xsumsF (r := r) (q := q) hw
  have e : ∃ x, x = xWv w r ∧ Gm_tests (nI w) r q = Gm_tests_136 (nI w) x (Gm_sums (nI w) r q) := by
    unfold Gm_tests Gm_tests_43
    simp only [zifQ, zifnQ, zletQ, xzn (show w < 2 ^ 31 by omega), xt44 hw]
    rw [s2, s4 18 (by decide) (by decide), s4 17 (by decide) (by decide), s4 16 (by decide) (by decide), s4 15 (by decide) (by decide)]
    unfold xWv xTv
    by_cases h1 : r 18 w = 24
    · have h2 : ¬ r 18 w = 25 := by rw [h1]; decide
      simp only [if_pos h1, if_neg h2]
      by_cases h3 : xSv w r ≤ r 17 w
      · simp only [if_pos h3]; exact ⟨_, rfl, rfl⟩
      · simp only [if_neg h3]; exact ⟨_, rfl, rfl⟩
    · simp only [if_neg h1]; exact ⟨_, rfl, rfl⟩
  obtain ⟨x, ex, e⟩ := e
  obtain ⟨t1, t2, t3, t4, t5, t6⟩ := xt136 (x := x) (r := Gm_sums (nI w) r q) hw
  rw [e]
  refine ⟨s1.tr t1, t2.trans ex, t3, t4, t5, ?_, ?_, ?_⟩
  · rw [t6 22 (by decide) (by decide) (by decide) (by decide)]; exact s3
  · rw [t6 16 (by decide) (by decide) (by decide) (by decide)]; exact s4 16 (by decide) (by decide)
  · rw [t6 23 (by decide) (by decide) (by decide) (by decide)]; exact s4 23 (by decide) (by decide)
