/-! ===== answers: reach, shaven, stricter, frontiers, trapped ===== -/
section XRCH
variable {Lf : xLT} {t p : Nat} {E S : Nat → Nat → Int32} {r : zRr} {q : zRq}
theorem kRcN (hE : xCe Lf t p E r) (hS : xCs t p 6 S r) (hR : xRd t E) {mo : Int32} {j a : Nat} (hj : j < p) (ha : a < t) (ea : S 1 j = nI a) : ∃ r1, zFr [182, 202] r r1 ∧ Gk_reachOfN (nI j) mo r q = (nI (yI (sT Lf t p E S mo j) t (t - 1) (2 ^ a)), r1) := by
  have ht : t ≤ 6 := hE.2.1.1
  have hp : p ≤ 6 := hE.2.1.2
  obtain ⟨f, c⟩ := kLayN (q := q) hE hS hR (mo := mo) hj
  unfold Gk_reachOfN
  simp only [zletQ, xzn (show j < 2 ^ 31 by omega)]
  generalize Gk_layN (nI j) mo r q = r1 at f c ⊢
  have e1 : r1 7 j = nI a := by rw [f 7 rfl, ← ea]; exact (hS.2 j hj).2.1
  have h9 : r1 171 9 = nI t := by rw [f 171 rfl]; exact hE.1.1
  refine ⟨r1, f, ?_⟩
  rw [e1, nOne (by omega), kSpd (q := q) h9 ht c sT_lt (Nat.pow_lt_pow_right (by decide) ha)]
theorem kRcT (hE : xCe Lf t p E r) (hS : xCs t p 12 S r) (hR : xRd t E) {mo : Int32} {j a : Nat} (hj : j < p) (ha : a < t) (ea : S 1 j = nI a) : ∃ r1, zFr [182, 202] r r1 ∧ Gk_reachOfT (nI j) mo r q = (nI (yI (sT Lf t p E S mo j) t (t - 1) (2 ^ a)), r1) := by
  have ht : t ≤ 6 := hE.2.1.1
  have hp : p ≤ 6 := hE.2.1.2
  obtain ⟨f, c⟩ := kLayT (q := q) hE hS hR (mo := mo) hj
  unfold Gk_reachOfT
  simp only [zletQ, xzn (show j < 2 ^ 31 by omega)]
  generalize Gk_layT (nI j) mo r q = r1 at f c ⊢
  have e1 : r1 13 j = nI a := by rw [f 13 rfl, ← ea]; exact (hS.2 j hj).2.1
  have h9 : r1 171 9 = nI t := by rw [f 171 rfl]; exact hE.1.1
  refine ⟨r1, f, ?_⟩
  rw [e1, nOne (by omega), kSpd (q := q) h9 ht c sT_lt (Nat.pow_lt_pow_right (by decide) ha)]
end XRCH
theorem two0 (a : Nat) : (2 : Nat) ^ a ≠ 0 := Nat.pos_iff_ne_zero.mp (Nat.two_pow_pos a)
section XAQ
variable {t p : Nat} {r rm : zRr} {q qm : zRq}
theorem xHow.R (h : xHow t p r q rm qm) : xRd t (sE r) := fun i hi => (h.1.2.2.2.1 i hi).2.1.2
/-- reach -/
theorem xReachW {a : Int32} (h : xHow t p r q rm qm) : (Gk_reach a r q).1 = (Gm_reach a rm qm).1 := by
  have ht := h.le.1
  have hp := h.le.2
  have h1 := h.z100
  have hR := h.R
  unfold Gk_reach Gm_reach
  simp only [zletQ, zifQ]
  rw [h.isP a]
  by_cases c1 : Gm_isPerson a (zset rm 100 (fun _ => 0)) qm = 0
  · rw [if_pos c1, if_pos c1]
  rw [if_neg c1, if_neg c1]
  obtain ⟨j, hj, ea⟩ := h.pI c1
  subst ea
  obtain ⟨hE, hE'⟩ := h1.E
  obtain ⟨S, s1, s2, _⟩ := h1.2.1
  obtain ⟨i, hi, ei⟩ := (s1.2 j hj).1
  have n1 : (1 : Int32) + nI j = nI (1 + j) := nI_add 1 j
  have k7 : zset rm 100 (fun _ => 0) 32 (1 + j) = nI i := (s2.2 j hj).2.1.trans ei
  rw [n1, xzn (show 1 + j < 2 ^ 31 by omega), k7, nOne (by omega)]
  obtain ⟨r3, _, e3⟩ := kRcN (q := q) hE s1 hR (mo := 0) hj hi ei
  obtain ⟨m3, _, k3⟩ := mRch (q := qm) hE' s2 hR hj (Nat.pow_lt_pow_right (by decide) hi) (two0 i)
  rw [e3, k3, xcvr (r := r3), xcvr (r := m3)]
/-- shaven -/
theorem xShavenW {a : Int32} (h : xHow t p r q rm qm) : (Gk_shaven a r q).1 = (Gm_shaven a rm qm).1 := by
  have ht := h.le.1
  have hp := h.le.2
  have h1 := h.z100
  have hR := h.R
  unfold Gk_shaven Gm_shaven
  simp only [zletQ, zifnQ]
  rw [h.isP a]
  by_cases c1 : Gm_isPerson a (zset rm 100 (fun _ => 0)) qm = 0
  · rw [if_pos c1, if_pos c1]
  rw [if_neg c1, if_neg c1]
  obtain ⟨j, hj, ea⟩ := h.pI c1
  subst ea
  obtain ⟨hE, hE'⟩ := h1.E
  obtain ⟨S, s1, s2, s3⟩ := h1.2.1
  obtain ⟨i, hi, ei⟩ := (s1.2 j hj).1
  -- the class: on trial
  have c5 : xCs t p 12 S (kcp8 r 12 6) := s1.cp hp
  have fE : xCe (sL r) t p (sE r) (kcp8 r 12 6) := by
    obtain ⟨q1, q2, q3, q4, q5⟩ := hE
    have k : ∀ a, 18 ≤ a → kcp8 r 12 6 a = r a := fun a ha => kcp8_o (by omega)
    refine ⟨by rw [k 171 (by omega)]; exact q1, q2, fun i hi => by rw [k 172 (by omega), k 173 (by omega)]; exact q3 i hi, fun j hj => by rw [k 175 (by omega)]; exact q4 j hj, fun r2 k1 k2 => q5 r2 (by rw [k1, k 180 (by omega)]) (by rw [k2, k 181 (by omega)])⟩
  obtain ⟨v1, v2⟩ := kRzT (q := q) c5 hj hp
  have fE2 := fE.fr v2 (by decide)
  have ei2 : sRz S j 1 j = nI i := ei
  obtain ⟨r3, _, e3⟩ := kRcT (q := q) fE2 v1 hR (mo := 0) hj hi ei2
  -- the reference: aside
  have mE : xMe (sL r) t p (sE r) 0 (zset (zset rm 100 (fun _ => 0)) 34 (zcp (zset rm 100 (fun _ => 0) 32) (zset rm 100 (fun _ => 0) 34) 0 0 31)) := hE'.fr (zFr.refl.set (M := [34]) rfl) (by decide)
  obtain ⟨w1, _, w3⟩ := mRz (r := zset (zset rm 100 (fun _ => 0)) 34 (zcp (zset rm 100 (fun _ => 0) 32) (zset rm 100 (fun _ => 0) 34) 0 0 31)) (q := qm) (t := t) (p := p) (S := S) s2 s3 hj hp
  have mE2 := mE.fr w3 (by decide)
  have n1 : (1 : Int32) + nI j = nI (1 + j) := nI_add 1 j
  have k7 : Gm_shaves (nI j) (zset (zset rm 100 (fun _ => 0)) 34 (zcp (zset rm 100 (fun _ => 0) 32) (zset rm 100 (fun _ => 0) 34) 0 0 31)) qm 32 (1 + j) = nI i := (w1.2 j hj).2.1.trans ei2
  rw [n1, xzn (show 1 + j < 2 ^ 31 by omega), k7, nOne (by omega)]
  obtain ⟨m3, _, k3⟩ := mRch (q := qm) mE2 w1 hR hj (Nat.pow_lt_pow_right (by decide) hi) (two0 i)
  rw [e3, k3, xcvr (r := r3), xcvr (r := m3)]
end XAQ
