/-! ===== a land that was read is laid: the second halves onto the first ===== -/
theorem zsf_lo {f : Nat → Int32} {n i j : Nat} (h : j < i) : zsf f n i j = f (n + j) := if_pos h
theorem zsf_hi {f : Nat → Int32} {n i j : Nat} (h : ¬ j < i) : zsf f n i j = f j := if_neg h
theorem mN.shc {B : Int} {r : zRr} (h : mN B r) {k n : Nat} {a b : Int} (ha : ∀ j, mlo k j = a) (hb : ∀ j, mhi B k j = b) : ∀ j, zI (mlo k j) (mhi B k j) (zsf (r k) n n j) := by
  intro j
  have h9 := fun i => h.i k i
  rw [ha, hb]
  unfold zsf
  split
  · have h8 := h9 (n + j); rw [ha, hb] at h8; exact h8
  · have h8 := h9 j; rw [ha, hb] at h8; exact h8
theorem mN.shl {B : Int} {r : zRr} (h : mN B r) : ∀ j, zI (mlo 1 j) (mhi B 1 j) (zsf (r 1) 4 4 j) := by
  intro j
  by_cases hj : j < 4
  · rw [zsf_lo hj]
    rcases (show j = 0 ∨ j = 1 ∨ j = 2 ∨ j = 3 by omega) with rfl | rfl | rfl | rfl
    · exact h.i 1 4
    · exact h.i 1 5
    · exact zI.top _
    · exact zI.top _
  · rw [zsf_hi hj]; exact h.i 1 j
theorem mrun_sh {f : Nat → Int32} {a : Nat} : ∀ n, a + n ≤ 1000 → mrun (zsf f 1000 1000) a n = mrun f (1000 + a) n
  | 0, _ => rfl
  | n + 1, h => by
    show mst (zsf f 1000 1000 (a + n)) (mrun (zsf f 1000 1000) a n) = mst (f (1000 + a + n)) (mrun f (1000 + a) n)
    rw [mrun_sh n (by omega), zsf_lo (by omega), show 1000 + (a + n) = 1000 + a + n by omega]
theorem mDf_sh {f : Nat → Int32} {a b : Nat} (hb : b ≤ 1000) (h : mDf f (1000 + a) (1000 + b)) : mDf (zsf f 1000 1000) a b := by
  intro n hn
  rw [mrun_sh n (by omega), zsf_lo (by omega), show 1000 + (a + n) = 1000 + a + n by omega]
  exact h n (by omega)
theorem zn_m1000 {x : Int32} (h : zI 1000 2000 x) : 1000 + zn (x - 1000) = zn x ∧ zn (x - 1000) ≤ 1000 := by
  have e := i32_d h (zI.lit (a := 1000) (b := 1000) (c := 1000) (by decide)) (by decide)
  have c9 : (1000 : Int32).toInt = 1000 := by decide
  obtain ⟨h1, h2⟩ := h
  unfold zn
  omega
theorem mlays {B : Int} {r r1 : zRr} (h : mJ B r) (h1 : mN B r1) (hT : mT1 r) (hD : mD1 r) (hF : mF1 r) (e1 : r1 1 = zsf (r 1) 4 4) (e12 : r1 12 = zsf (r 12) 1000 1000) (e10 : r1 10 0 = r 10 1 - 1000) (e11 : r1 11 0 = r 11 1 - 1000) (e25 : r1 25 = r 25) (e26 : r1 26 = r 26) (e28 : r1 28 = r 28) : mJ B r1 := by
  obtain ⟨i10, i11⟩ := hF
  obtain ⟨b1, b2, b3, b4, b5, b6⟩ := h
  refine ⟨b1, b2, h1.i, ?_, ?_, ?_⟩
  · show mDf (r1 12) (zn (r1 10 0)) (zn (r1 11 0))
    rw [e12, e10, e11]
    refine mDf_sh (zn_m1000 i11).2 ?_
    rw [(zn_m1000 i10).1, (zn_m1000 i11).1]
    exact hD
  · intro b j
    rw [e25, e26, e28]; exact b5 b j
  · show 0 < (r1 1 1).toInt → 0 < (r1 1 0).toInt
    rw [e1]; exact hT
