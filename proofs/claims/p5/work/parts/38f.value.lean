/-! ===== what a law comes to: token by token, then by its tree ===== -/
def xPar (P : Nat → Int32) (rm : zRr) : Prop := ∀ k, 1 ≤ k → k ≤ 4 → rm 24 k = P k
def xBs (w : Nat) (rm : zRr) : Prop := w = 0 ∨ ¬ rm 23 w = 1
section XTK
variable {q : zRq} {M n w p : Nat} {rm : zRr}
/-- a number, a fact -/
theorem xtkN {v : Int32} (hM : M ≤ 1000) (h11 : rm 11 0 = nI M) (hp : p < M) (hx : rm 12 p = 100 + v) (hv : zI 0 9999 v) : Gm_worked_14 q (n + 1) (nI w) (nI p) rm = Gm_worked_268 (nI p) (Gm_worked_14 q n) 6 (nI w) v rm := by
  have e0 : Gm_worked_14 q (n + 1) (nI w) (nI p) rm = Bm_worked_14 q (Gm_worked_14 q n) (nI w) (nI p) rm := rfl
  rw [e0]
  have c1 : ¬ nI M ≤ nI p := fun h => by have := (nI_leI (by omega) (by omega)).mp h; omega
  have c100 : (100 : Int32).toInt = 100 := by decide
  have ex : (100 + v).toInt = 100 + v.toInt := by
    rw [Jvm.Kit.i32_add (by rw [c100]; have := hv.1; omega) (by rw [c100]; have := hv.2; omega), c100]
  have hv1 := hv.1
  have ne : ∀ y : Int32, y.toInt < 100 → ¬ 100 + v = y := fun y hy h => by rw [← h, ex] at hy; omega
  have n28 := ne 28 (by decide); have n30 := ne 30 (by decide); have n20 := ne 20 (by decide); have n21 := ne 21 (by decide); have n22 := ne 22 (by decide); have n24 := ne 24 (by decide); have n25 := ne 25 (by decide); have n26 := ne 26 (by decide); have n27 := ne 27 (by decide); have n29 := ne 29 (by decide)
  have n100 : ¬ 100 + v < 100 := fun h => by rw [Int32.lt_iff_toInt_lt, ex, c100] at h; omega
  have es : 100 + v - 100 = v := by rw [Int32.add_comm, Int32.add_sub_cancel]
  unfold Bm_worked_14
  simp only [zifQ, zifnQ, zletQ, h11, if_neg c1, xzn (show p < 2 ^ 31 by omega), hx, if_neg n28, if_neg n30, if_neg n20, if_neg n21, if_neg n22, if_neg n24, if_neg n25, if_neg n26, if_neg n27, if_neg n29, if_neg n100, es]
theorem xtkF {k : Nat} (hM : M ≤ 1000) (h11 : rm 11 0 = nI M) (hp : p < M) (hx : rm 12 p = nI k) (hk : 1 ≤ k ∧ k ≤ 4) : Gm_worked_14 q (n + 1) (nI w) (nI p) rm = Gm_worked_268 (nI p) (Gm_worked_14 q n) 6 (nI w) (rm 24 k) rm := by
  have e0 : Gm_worked_14 q (n + 1) (nI w) (nI p) rm = Bm_worked_14 q (Gm_worked_14 q n) (nI w) (nI p) rm := rfl
  rw [e0]
  have c1 : ¬ nI M ≤ nI p := fun h => by have := (nI_leI (by omega) (by omega)).mp h; omega
  have ne : ∀ y : Nat, 5 ≤ y → y < 100 → ¬ nI k = nI y := fun y h1 h2 h => by have := (nI_eq (by omega) (by omega)).mp h; omega
  have n28 : ¬ nI k = 28 := ne 28 (by decide) (by decide)
  have n30 : ¬ nI k = 30 := ne 30 (by decide) (by decide)
  have n20 : ¬ nI k = 20 := ne 20 (by decide) (by decide)
  have n21 : ¬ nI k = 21 := ne 21 (by decide) (by decide)
  have n22 : ¬ nI k = 22 := ne 22 (by decide) (by decide)
  have n24 : ¬ nI k = 24 := ne 24 (by decide) (by decide)
  have n25 : ¬ nI k = 25 := ne 25 (by decide) (by decide)
  have n26 : ¬ nI k = 26 := ne 26 (by decide) (by decide)
  have n27 : ¬ nI k = 27 := ne 27 (by decide) (by decide)
  have n29 : ¬ nI k = 29 := ne 29 (by decide) (by decide)
  have n100 : nI k < 100 := (nI_ltI (b := 100) (by omega) (by omega)).mpr (by omega)
  have m20 : ¬ (20 : Int32) ≤ nI k := fun h => by have := (nI_leI (a := 20) (by omega) (by omega)).mp h; omega
  unfold Bm_worked_14
  simp only [zifQ, zifnQ, zletQ, h11, if_neg c1, xzn (show p < 2 ^ 31 by omega), hx, if_neg n28, if_neg n30, if_neg n20, if_neg n21, if_neg n22, if_neg n24, if_neg n25, if_neg n26, if_neg n27, if_neg n29, if_pos n100, if_neg m20, xzn (show k < 2 ^ 31 by omega)]
end XTK
section XTL
variable {q : zRq} {M n w p : Nat} {rm : zRr}
theorem xtk28 (hM : M ≤ 1000) (hw : w ≤ 4) (h11 : rm 11 0 = nI M) (hp : p < M) (hx : rm 12 p = 28) : Gm_worked_14 q (n + 1) (nI w) (nI p) rm = Gm_worked_14 q n (nI (w + 1)) (nI (p + 1)) (Gm_opens (nI (w + 1)) (zset rm 23 (upd (rm 23) (w + 1) 0)) q) := by
  have e0 : Gm_worked_14 q (n + 1) (nI w) (nI p) rm = Bm_worked_14 q (Gm_worked_14 q n) (nI w) (nI p) rm := rfl
  rw [e0]
  have c1 : ¬ nI M ≤ nI p := fun h => by have := (nI_leI (by omega) (by omega)).mp h; omega
  unfold Bm_worked_14 Gm_worked_329
  simp only [zifQ, zifnQ, zletQ, h11, if_neg c1, xzn (show p < 2 ^ 31 by omega), xzn (show w < 2 ^ 31 by omega), hx, nI_1, xzn (show w + 1 < 2 ^ 31 by omega), if_true, if_false, show ((28 : Int32) = 28) = True from eq_true rfl, show ((28 : Int32) = 30) = False from eq_false (by decide), show ((28 : Int32) = 20) = False from eq_false (by decide), show ((28 : Int32) = 21) = False from eq_false (by decide), show ((28 : Int32) = 22) = False from eq_false (by decide), show ((28 : Int32) = 24) = False from eq_false (by decide), show ((28 : Int32) = 25) = False from eq_false (by decide), show ((28 : Int32) = 26) = False from eq_false (by decide), show ((28 : Int32) = 27) = False from eq_false (by decide), show ((28 : Int32) = 29) = False from eq_false (by decide), show ((28 : Int32) < 100) = True from eq_true (by decide), show ((20 : Int32) ≤ 28) = True from eq_true (by decide)]
theorem xtk30 (hM : M ≤ 1000) (hw : w ≤ 4) (h11 : rm 11 0 = nI M) (hp : p < M) (hx : rm 12 p = 30) : Gm_worked_14 q (n + 1) (nI w) (nI p) rm = Gm_worked_14 q n (nI (w + 1)) (nI (p + 1)) (Gm_opens (nI (w + 1)) (zset rm 23 (upd (rm 23) (w + 1) 1)) q) := by
  have e0 : Gm_worked_14 q (n + 1) (nI w) (nI p) rm = Bm_worked_14 q (Gm_worked_14 q n) (nI w) (nI p) rm := rfl
  rw [e0]
  have c1 : ¬ nI M ≤ nI p := fun h => by have := (nI_leI (by omega) (by omega)).mp h; omega
  unfold Bm_worked_14 Gm_worked_329
  simp only [zifQ, zifnQ, zletQ, h11, if_neg c1, xzn (show p < 2 ^ 31 by omega), xzn (show w < 2 ^ 31 by omega), hx, nI_1, xzn (show w + 1 < 2 ^ 31 by omega), if_true, if_false, show ((30 : Int32) = 28) = False from eq_false (by decide), show ((30 : Int32) = 30) = True from eq_true rfl, show ((30 : Int32) = 20) = False from eq_false (by decide), show ((30 : Int32) = 21) = False from eq_false (by decide), show ((30 : Int32) = 22) = False from eq_false (by decide), show ((30 : Int32) = 24) = False from eq_false (by decide), show ((30 : Int32) = 25) = False from eq_false (by decide), show ((30 : Int32) = 26) = False from eq_false (by decide), show ((30 : Int32) = 27) = False from eq_false (by decide), show ((30 : Int32) = 29) = False from eq_false (by decide), show ((30 : Int32) < 100) = True from eq_true (by decide), show ((20 : Int32) ≤ 30) = True from eq_true (by decide)]
theorem xtk20 (hM : M ≤ 1000) (hw : w ≤ 5) (h11 : rm 11 0 = nI M) (hp : p < M) (hx : rm 12 p = 20) : Gm_worked_14 q (n + 1) (nI w) (nI p) rm = Gm_worked_14 q n (nI w) (nI (p + 1)) (zset (Gm_sums (nI w) rm q) 20 (upd (Gm_sums (nI w) rm q 20) w 20)) := by
  have e0 : Gm_worked_14 q (n + 1) (nI w) (nI p) rm = Bm_worked_14 q (Gm_worked_14 q n) (nI w) (nI p) rm := rfl
  rw [e0]
  have c1 : ¬ nI M ≤ nI p := fun h => by have := (nI_leI (by omega) (by omega)).mp h; omega
  unfold Bm_worked_14 Gm_worked_329
  simp only [zifQ, zifnQ, zletQ, h11, if_neg c1, xzn (show p < 2 ^ 31 by omega), xzn (show w < 2 ^ 31 by omega), hx, nI_1, if_true, if_false, show ((20 : Int32) = 28) = False from eq_false (by decide), show ((20 : Int32) = 30) = False from eq_false (by decide), show ((20 : Int32) = 20) = True from eq_true rfl, show ((20 : Int32) = 21) = False from eq_false (by decide), show ((20 : Int32) = 22) = False from eq_false (by decide), show ((20 : Int32) = 24) = False from eq_false (by decide), show ((20 : Int32) = 25) = False from eq_false (by decide), show ((20 : Int32) = 26) = False from eq_false (by decide), show ((20 : Int32) = 27) = False from eq_false (by decide), show ((20 : Int32) = 29) = False from eq_false (by decide), show ((20 : Int32) < 100) = True from eq_true (by decide), show ((20 : Int32) ≤ 20) = True from eq_true (by decide)]
theorem xtk21 (hM : M ≤ 1000) (hw : w ≤ 5) (h11 : rm 11 0 = nI M) (hp : p < M) (hx : rm 12 p = 21) : Gm_worked_14 q (n + 1) (nI w) (nI p) rm = Gm_worked_14 q n (nI w) (nI (p + 1)) (zset (Gm_sums (nI w) rm q) 20 (upd (Gm_sums (nI w) rm q 20) w 21)) := by
  have e0 : Gm_worked_14 q (n + 1) (nI w) (nI p) rm = Bm_worked_14 q (Gm_worked_14 q n) (nI w) (nI p) rm := rfl
  rw [e0]
  have c1 : ¬ nI M ≤ nI p := fun h => by have := (nI_leI (by omega) (by omega)).mp h; omega
  unfold Bm_worked_14 Gm_worked_329
  simp only [zifQ, zifnQ, zletQ, h11, if_neg c1, xzn (show p < 2 ^ 31 by omega), xzn (show w < 2 ^ 31 by omega), hx, nI_1, if_true, if_false, show ((21 : Int32) = 28) = False from eq_false (by decide), show ((21 : Int32) = 30) = False from eq_false (by decide), show ((21 : Int32) = 20) = False from eq_false (by decide), show ((21 : Int32) = 21) = True from eq_true rfl, show ((21 : Int32) = 22) = False from eq_false (by decide), show ((21 : Int32) = 24) = False from eq_false (by decide), show ((21 : Int32) = 25) = False from eq_false (by decide), show ((21 : Int32) = 26) = False from eq_false (by decide), show ((21 : Int32) = 27) = False from eq_false (by decide), show ((21 : Int32) = 29) = False from eq_false (by decide), show ((21 : Int32) < 100) = True from eq_true (by decide), show ((20 : Int32) ≤ 21) = True from eq_true (by decide)]
theorem xtk22 (hM : M ≤ 1000) (hw : w ≤ 5) (h11 : rm 11 0 = nI M) (hp : p < M) (hx : rm 12 p = 22) : Gm_worked_14 q (n + 1) (nI w) (nI p) rm = Gm_worked_14 q n (nI w) (nI (p + 1)) (zset rm 22 (upd (rm 22) w 22)) := by
  have e0 : Gm_worked_14 q (n + 1) (nI w) (nI p) rm = Bm_worked_14 q (Gm_worked_14 q n) (nI w) (nI p) rm := rfl
  rw [e0]
  have c1 : ¬ nI M ≤ nI p := fun h => by have := (nI_leI (by omega) (by omega)).mp h; omega
  unfold Bm_worked_14 Gm_worked_329
  simp only [zifQ, zifnQ, zletQ, h11, if_neg c1, xzn (show p < 2 ^ 31 by omega), xzn (show w < 2 ^ 31 by omega), hx, nI_1, if_true, if_false, show ((22 : Int32) = 28) = False from eq_false (by decide), show ((22 : Int32) = 30) = False from eq_false (by decide), show ((22 : Int32) = 20) = False from eq_false (by decide), show ((22 : Int32) = 21) = False from eq_false (by decide), show ((22 : Int32) = 22) = True from eq_true rfl, show ((22 : Int32) = 24) = False from eq_false (by decide), show ((22 : Int32) = 25) = False from eq_false (by decide), show ((22 : Int32) = 26) = False from eq_false (by decide), show ((22 : Int32) = 27) = False from eq_false (by decide), show ((22 : Int32) = 29) = False from eq_false (by decide), show ((22 : Int32) < 100) = True from eq_true (by decide), show ((20 : Int32) ≤ 22) = True from eq_true (by decide)]
theorem xtk24 (hM : M ≤ 1000) (hw : w ≤ 5) (h11 : rm 11 0 = nI M) (hp : p < M) (hx : rm 12 p = 24) : Gm_worked_14 q (n + 1) (nI w) (nI p) rm = Gm_worked_14 q n (nI w) (nI (p + 1)) (zset (zset (zset (zset (Gm_sums (nI w) rm q) 17 (upd (Gm_sums (nI w) rm q 17) w (Gm_sums (nI w) rm q 19 w))) 18 (upd ((zset (Gm_sums (nI w) rm q) 17 (upd (Gm_sums (nI w) rm q 17) w (Gm_sums (nI w) rm q 19 w))) 18) w 24)) 19 (upd ((zset (zset (Gm_sums (nI w) rm q) 17 (upd (Gm_sums (nI w) rm q 17) w (Gm_sums (nI w) rm q 19 w))) 18 (upd ((zset (Gm_sums (nI w) rm q) 17 (upd (Gm_sums (nI w) rm q 17) w (Gm_sums (nI w) rm q 19 w))) 18) w 24)) 19) w 0)) 20 (upd ((zset (zset (zset (Gm_sums (nI w) rm q) 17 (upd (Gm_sums (nI w) rm q 17) w (Gm_sums (nI w) rm q 19 w))) 18 (upd ((zset (Gm_sums (nI w) rm q) 17 (upd (Gm_sums (nI w) rm q 17) w (Gm_sums (nI w) rm q 19 w))) 18) w 24)) 19 (upd ((zset (zset (Gm_sums (nI w) rm q) 17 (upd (Gm_sums (nI w) rm q 17) w (Gm_sums (nI w) rm q 19 w))) 18 (upd ((zset (Gm_sums (nI w) rm q) 17 (upd (Gm_sums (nI w) rm q 17) w (Gm_sums (nI w) rm q 19 w))) 18) w 24)) 19) w 0)) 20) w 20)) := by
  have e0 : Gm_worked_14 q (n + 1) (nI w) (nI p) rm = Bm_worked_14 q (Gm_worked_14 q n) (nI w) (nI p) rm := rfl
  rw [e0]
  have c1 : ¬ nI M ≤ nI p := fun h => by have := (nI_leI (by omega) (by omega)).mp h; omega
  unfold Bm_worked_14 Gm_worked_329
  simp only [zifQ, zifnQ, zletQ, h11, if_neg c1, xzn (show p < 2 ^ 31 by omega), xzn (show w < 2 ^ 31 by omega), hx, nI_1, if_true, if_false, show ((24 : Int32) = 28) = False from eq_false (by decide), show ((24 : Int32) = 30) = False from eq_false (by decide), show ((24 : Int32) = 20) = False from eq_false (by decide), show ((24 : Int32) = 21) = False from eq_false (by decide), show ((24 : Int32) = 22) = False from eq_false (by decide), show ((24 : Int32) = 24) = True from eq_true rfl, show ((24 : Int32) = 25) = False from eq_false (by decide), show ((24 : Int32) = 26) = False from eq_false (by decide), show ((24 : Int32) = 27) = False from eq_false (by decide), show ((24 : Int32) = 29) = False from eq_false (by decide), show ((24 : Int32) < 100) = True from eq_true (by decide), show ((20 : Int32) ≤ 24) = True from eq_true (by decide)]
theorem xtk25 (hM : M ≤ 1000) (hw : w ≤ 5) (h11 : rm 11 0 = nI M) (hp : p < M) (hx : rm 12 p = 25) : Gm_worked_14 q (n + 1) (nI w) (nI p) rm = Gm_worked_14 q n (nI w) (nI (p + 1)) (zset (zset (zset (zset (Gm_sums (nI w) rm q) 17 (upd (Gm_sums (nI w) rm q 17) w (Gm_sums (nI w) rm q 19 w))) 18 (upd ((zset (Gm_sums (nI w) rm q) 17 (upd (Gm_sums (nI w) rm q 17) w (Gm_sums (nI w) rm q 19 w))) 18) w 25)) 19 (upd ((zset (zset (Gm_sums (nI w) rm q) 17 (upd (Gm_sums (nI w) rm q 17) w (Gm_sums (nI w) rm q 19 w))) 18 (upd ((zset (Gm_sums (nI w) rm q) 17 (upd (Gm_sums (nI w) rm q 17) w (Gm_sums (nI w) rm q 19 w))) 18) w 25)) 19) w 0)) 20 (upd ((zset (zset (zset (Gm_sums (nI w) rm q) 17 (upd (Gm_sums (nI w) rm q 17) w (Gm_sums (nI w) rm q 19 w))) 18 (upd ((zset (Gm_sums (nI w) rm q) 17 (upd (Gm_sums (nI w) rm q 17) w (Gm_sums (nI w) rm q 19 w))) 18) w 25)) 19 (upd ((zset (zset (Gm_sums (nI w) rm q) 17 (upd (Gm_sums (nI w) rm q 17) w (Gm_sums (nI w) rm q 19 w))) 18 (upd ((zset (Gm_sums (nI w) rm q) 17 (upd (Gm_sums (nI w) rm q 17) w (Gm_sums (nI w) rm q 19 w))) 18) w 25)) 19) w 0)) 20) w 20)) := by
  have e0 : Gm_worked_14 q (n + 1) (nI w) (nI p) rm = Bm_worked_14 q (Gm_worked_14 q n) (nI w) (nI p) rm := rfl
  rw [e0]
  have c1 : ¬ nI M ≤ nI p := fun h => by have := (nI_leI (by omega) (by omega)).mp h; omega
  unfold Bm_worked_14 Gm_worked_329
  simp only [zifQ, zifnQ, zletQ, h11, if_neg c1, xzn (show p < 2 ^ 31 by omega), xzn (show w < 2 ^ 31 by omega), hx, nI_1, if_true, if_false, show ((25 : Int32) = 28) = False from eq_false (by decide), show ((25 : Int32) = 30) = False from eq_false (by decide), show ((25 : Int32) = 20) = False from eq_false (by decide), show ((25 : Int32) = 21) = False from eq_false (by decide), show ((25 : Int32) = 22) = False from eq_false (by decide), show ((25 : Int32) = 24) = False from eq_false (by decide), show ((25 : Int32) = 25) = True from eq_true rfl, show ((25 : Int32) = 26) = False from eq_false (by decide), show ((25 : Int32) = 27) = False from eq_false (by decide), show ((25 : Int32) = 29) = False from eq_false (by decide), show ((25 : Int32) < 100) = True from eq_true (by decide), show ((20 : Int32) ≤ 25) = True from eq_true (by decide)]
theorem xtk26 (hM : M ≤ 1000) (hw : w ≤ 5) (h11 : rm 11 0 = nI M) (hp : p < M) (hx : rm 12 p = 26) : Gm_worked_14 q (n + 1) (nI w) (nI p) rm = Gm_worked_14 q n (nI w) (nI (p + 1)) (zset (Gm_tests (nI w) rm q) 16 (upd (Gm_tests (nI w) rm q 16) w 26)) := by
  have e0 : Gm_worked_14 q (n + 1) (nI w) (nI p) rm = Bm_worked_14 q (Gm_worked_14 q n) (nI w) (nI p) rm := rfl
  rw [e0]
  have c1 : ¬ nI M ≤ nI p := fun h => by have := (nI_leI (by omega) (by omega)).mp h; omega
  unfold Bm_worked_14 Gm_worked_329
  simp only [zifQ, zifnQ, zletQ, h11, if_neg c1, xzn (show p < 2 ^ 31 by omega), xzn (show w < 2 ^ 31 by omega), hx, nI_1, if_true, if_false, show ((26 : Int32) = 28) = False from eq_false (by decide), show ((26 : Int32) = 30) = False from eq_false (by decide), show ((26 : Int32) = 20) = False from eq_false (by decide), show ((26 : Int32) = 21) = False from eq_false (by decide), show ((26 : Int32) = 22) = False from eq_false (by decide), show ((26 : Int32) = 24) = False from eq_false (by decide), show ((26 : Int32) = 25) = False from eq_false (by decide), show ((26 : Int32) = 26) = True from eq_true rfl, show ((26 : Int32) = 27) = False from eq_false (by decide), show ((26 : Int32) = 29) = False from eq_false (by decide), show ((26 : Int32) < 100) = True from eq_true (by decide), show ((20 : Int32) ≤ 26) = True from eq_true (by decide)]
theorem xtk27 (hM : M ≤ 1000) (hw : w ≤ 5) (h11 : rm 11 0 = nI M) (hp : p < M) (hx : rm 12 p = 27) : Gm_worked_14 q (n + 1) (nI w) (nI p) rm = Gm_worked_14 q n (nI w) (nI (p + 1)) (zset (Gm_tests (nI w) rm q) 16 (upd (Gm_tests (nI w) rm q 16) w 27)) := by
  have e0 : Gm_worked_14 q (n + 1) (nI w) (nI p) rm = Bm_worked_14 q (Gm_worked_14 q n) (nI w) (nI p) rm := rfl
  rw [e0]
  have c1 : ¬ nI M ≤ nI p := fun h => by have := (nI_leI (by omega) (by omega)).mp h; omega
  unfold Bm_worked_14 Gm_worked_329
  simp only [zifQ, zifnQ, zletQ, h11, if_neg c1, xzn (show p < 2 ^ 31 by omega), xzn (show w < 2 ^ 31 by omega), hx, nI_1, if_true, if_false, show ((27 : Int32) = 28) = False from eq_false (by decide), show ((27 : Int32) = 30) = False from eq_false (by decide), show ((27 : Int32) = 20) = False from eq_false (by decide), show ((27 : Int32) = 21) = False from eq_false (by decide), show ((27 : Int32) = 22) = False from eq_false (by decide), show ((27 : Int32) = 24) = False from eq_false (by decide), show ((27 : Int32) = 25) = False from eq_false (by decide), show ((27 : Int32) = 26) = False from eq_false (by decide), show ((27 : Int32) = 27) = True from eq_true rfl, show ((27 : Int32) = 29) = False from eq_false (by decide), show ((27 : Int32) < 100) = True from eq_true (by decide), show ((20 : Int32) ≤ 27) = True from eq_true (by decide)]
theorem xtk29 (hM : M ≤ 1000) (hw : w ≤ 5) (h11 : rm 11 0 = nI M) (hp : p < M) (hx : rm 12 p = 29) : Gm_worked_14 q (n + 1) (nI w) (nI p) rm = Gm_worked_268 (nI p) (Gm_worked_14 q n) 6 (nI w + -1) (Gm_tests (nI w) rm q 15 w) (Gm_tests (nI w) rm q) := by
  have e0 : Gm_worked_14 q (n + 1) (nI w) (nI p) rm = Bm_worked_14 q (Gm_worked_14 q n) (nI w) (nI p) rm := rfl
  rw [e0]
  have c1 : ¬ nI M ≤ nI p := fun h => by have := (nI_leI (by omega) (by omega)).mp h; omega
  unfold Bm_worked_14 Gm_worked_329
  simp only [zifQ, zifnQ, zletQ, h11, if_neg c1, xzn (show p < 2 ^ 31 by omega), xzn (show w < 2 ^ 31 by omega), hx, nI_1, if_true, if_false, show ((29 : Int32) = 28) = False from eq_false (by decide), show ((29 : Int32) = 30) = False from eq_false (by decide), show ((29 : Int32) = 20) = False from eq_false (by decide), show ((29 : Int32) = 21) = False from eq_false (by decide), show ((29 : Int32) = 22) = False from eq_false (by decide), show ((29 : Int32) = 24) = False from eq_false (by decide), show ((29 : Int32) = 25) = False from eq_false (by decide), show ((29 : Int32) = 26) = False from eq_false (by decide), show ((29 : Int32) = 27) = False from eq_false (by decide), show ((29 : Int32) = 29) = True from eq_true rfl, show ((29 : Int32) < 100) = True from eq_true (by decide), show ((20 : Int32) ≤ 29) = True from eq_true (by decide)]
end XTL
