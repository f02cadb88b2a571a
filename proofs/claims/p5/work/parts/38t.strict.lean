/-! ===== answers: strict, alike ===== -/
theorem yB1 : ∀ (n : Fin 6) (m : Fin 64), m.val < 2 ^ n.val → nI m.val ||| ((1 : Int32) <<< (nI n.val &&& 31)) = nI (m.val + 2 ^ n.val) := by decide +kernel
theorem yB_rng {f : Nat → Int32} : ∀ n, n ≤ 6 → ∃ m, m < 2 ^ n ∧ yB f n = nI m := by
  intro n
  induction n with
  | zero => intro _; exact ⟨0, by decide, rfl⟩
  | succ n ih =>
    intro h
    obtain ⟨m, h1, h2⟩ := ih (by omega)
    have hp : 2 ^ (n + 1) = 2 ^ n + 2 ^ n := by rw [Nat.pow_succ]; omega
    have h64 : 2 ^ n ≤ 2 ^ 5 := Nat.pow_le_pow_right (by decide) (by omega)
    have e5 : (2 : Nat) ^ 5 = 32 := by decide
    rw [yB_s, h2]
    by_cases c : f n = 0
    · rw [if_pos c]; exact ⟨m, by omega, rfl⟩
    · rw [if_neg c, yB1 ⟨n, by omega⟩ ⟨m, by omega⟩ h1]
      exact ⟨m + 2 ^ n, by omega, rfl⟩
theorem xbc1 : ∀ m : Fin 64, Gk_bitCount (nI m.val) = Gm_bits (nI m.val) ∧ ¬ (7 : Int32) ≤ Gm_bits (nI m.val) := by decide +kernel
theorem xbc {f : Nat → Int32} {n : Nat} (h : n ≤ 6) : Gk_bitCount (yB f n) = Gm_bits (yB f n) ∧ ¬ (7 : Int32) ≤ Gm_bits (yB f n) := by
  obtain ⟨m, h1, h2⟩ := yB_rng (f := f) n h
  have : 2 ^ n ≤ 2 ^ 6 := Nat.pow_le_pow_right (by decide) h
  have e6 : (2 : Nat) ^ 6 = 64 := by decide
  rw [h2]
  exact xbc1 ⟨m, by omega⟩
section XSTR
variable {Lf : xLT} {t p : Nat} {E S : Nat → Nat → Int32} {q qm : zRq} {r0 rm0 : zRr}
theorem xStrL (hE : xCe Lf t p E r0) (hS : xCs t p 6 S r0) (hE' : xMe Lf t p E 0 rm0) (hS' : xMs t p S (rm0 32)) : ∀ (n i : Nat) (b f : Int32) (r rm : zRr), i ≤ t → t < n + i → zFr [182] r0 r → zFr [15, 16, 17, 18, 19, 20, 21, 22, 23, 24] rm0 rm → ((b = -1 ∧ f = 7 ∧ i = 0) ∨ (∃ k, k < i ∧ b = nI k ∧ f = Gm_bits (sTh Lf p E S k))) → (Gk_strict_7 q n b f (nI i) r).1 = (Gm_strict_9 qm n b (nI i) rm).1 := by
  have ht := hE.2.1.1
  have hp := hE.2.1.2
  intro n
  induction n with
  | zero => intro i b f r rm h1 h2; omega
  | succ n ih =>
    intro i b f r rm h1 h2 g1 g2 hb
    have e0 : Gk_strict_7 q (n + 1) b f (nI i) r = Bk_strict_7 q (Gk_strict_7 q n) b f (nI i) r := rfl
    have e1 : Gm_strict_9 qm (n + 1) b (nI i) rm = Bm_strict_9 qm (Gm_strict_9 qm n) b (nI i) rm := rfl
    have hE2 := hE.fr g1 (by decide)
    have hS2 := hS.sN g1 rfl rfl rfl rfl rfl rfl
    have hE3 := hE'.fr g2 (by decide)
    have hS3 := hS'.fr (g2 32 rfl)
    rw [e0, e1]
    unfold Bk_strict_7 Bm_strict_9 Gk_strict_46 Gm_strict_42 Gm_strict_44
    simp only [zletQ, zifQ, hE2.1.1, hE3.1.1, nI_1]
    by_cases e : i = t
    · subst e
      rw [if_pos (nI_leP (by omega) (by omega) (by omega)), if_pos (nI_leP (by omega) (by omega) (by omega))]
    · rw [if_neg (nI_leN (by omega) (by omega) (by omega)), if_neg (nI_leN (by omega) (by omega) (by omega))]
      have hi : i < t := by omega
      obtain ⟨r3, f3, e3⟩ := kThr (q := q) hE2 hS2 hi
      obtain ⟨m3, w3, k3⟩ := mThr (q := qm) hE3 hS3 hi
      have hc := xbc (f := fun j => sLe Lf p E S 0 (S 1 j) j i) hp
      have hc : Gk_bitCount (sTh Lf p E S i) = Gm_bits (sTh Lf p E S i) ∧ ¬ (7 : Int32) ≤ Gm_bits (sTh Lf p E S i) := hc
      rw [e3, xcvr (r := r3), hc.1]
      rcases hb with ⟨b1, b2, b3⟩ | ⟨k, hk, b1, b2⟩
      · rw [b1, b2, if_neg hc.2, if_pos (show (-1 : Int32) < 0 by decide)]
        exact ih (i + 1) _ _ _ _ (by omega) (by omega) (g1.tr f3 (by decide)) g2 (Or.inr ⟨i, by omega, rfl, rfl⟩)
      · have hk0 : ¬ nI k < 0 := (xnn (j := k) (by omega)).2.1
        obtain ⟨m4, w4, k4⟩ := mThr (q := qm) (hE3.fr w3 (by decide)) (hS3.fr (w3 32 rfl)) (i := k) (by omega)
        rw [b1, b2, if_neg hk0, k3, xcvr (r := m3), k4, xcvr (r := m4)]
        by_cases c : Gm_bits (sTh Lf p E S k) ≤ Gm_bits (sTh Lf p E S i)
        · rw [if_pos c, if_pos c]
          exact ih (i + 1) _ _ _ _ (by omega) (by omega) (g1.tr f3 (by decide)) ((g2.tr w3 (by decide)).tr w4 (by decide)) (Or.inr ⟨k, by omega, rfl, rfl⟩)
        · rw [if_neg c, if_neg c]
          exact ih (i + 1) _ _ _ _ (by omega) (by omega) (g1.tr f3 (by decide)) ((g2.tr w3 (by decide)).tr w4 (by decide)) (Or.inr ⟨i, by omega, rfl, rfl⟩)
end XSTR
theorem xStrictW {t p : Nat} {r rm : zRr} {q qm : zRq} (h : xHow t p r q rm qm) : (Gk_strict r q).1 = (Gm_strict rm qm).1 := by
  have h1 := h.z100
  obtain ⟨hE, hE'⟩ := h1.E
  obtain ⟨S, s1, s2, _⟩ := h1.2.1
  unfold Gk_strict Gm_strict
  rw [zletQ]
  exact xStrL hE s1 hE' s2 7 0 (-1) 7 r _ (by omega) (by have := h.le.1; omega) zFr.refl zFr.refl (Or.inl ⟨rfl, rfl, rfl⟩)
/-! ===== alike ===== -/
theorem xSm_add {f g : Nat → Int32} : ∀ n, xSm (fun i => f i + g i) n = xSm f n + xSm g n := by
  intro n
  induction n with
  | zero => rfl
  | succ n ih =>
    rw [xSm_s, xSm_s, xSm_s, ih]
    rw [Int32.add_assoc, Int32.add_assoc, ← Int32.add_assoc (xSm g n), Int32.add_comm (xSm g n) (f n), Int32.add_assoc (f n)]
theorem xTri {d : Nat → Nat → Int32} : ∀ t, xSm (fun a => xSm (fun k => d a (a + 1 + k)) (t - (a + 1))) t = xSm (fun b => xSm (fun a => d a b) b) t := by
  intro t
  induction t with
  | zero => rfl
  | succ t ih =>
    have e : xSm (fun a => xSm (fun k => d a (a + 1 + k)) (t + 1 - (a + 1))) t = xSm (fun a => xSm (fun k => d a (a + 1 + k)) (t - (a + 1)) + d a t) t := xSm.congr t (fun a ha => by
      show xSm (fun k => d a (a + 1 + k)) (t + 1 - (a + 1)) = xSm (fun k => d a (a + 1 + k)) (t - (a + 1)) + d a t
      rw [show t + 1 - (a + 1) = t - (a + 1) + 1 by omega, xSm_s, show a + 1 + (t - (a + 1)) = t by omega])
    rw [xSm_s, xSm_s, e, xSm_add, ih, show t + 1 - (t + 1) = 0 by omega]
    show _ + 0 = _
    rw [Int32.add_zero]
noncomputable def sAk (T : Nat → Int32) (a b : Nat) : Int32 := if T b = T a then 1 else 0
section XALK
variable {Lf : xLT} {t p : Nat} {E S : Nat → Nat → Int32} {q : zRq} {r0 : zRr}
theorem kAk33 (hE : xCe Lf t p E r0) (hS : xCs t p 6 S r0) {i : Nat} (hi : i < t) {ih4 : Int32 → Int32 → zRr → Int32 × zRr} {v : Int32} : ∀ (n j : Nat) (r : zRr), i + 1 + j ≤ t → t < n + (i + 1 + j) → zFr [182] r0 r → ∃ r1, zFr [182] r0 r1 ∧ Gk_alike_33 q (nI i) ih4 n (v + xSm (fun k => sAk (sTh Lf p E S) i (i + 1 + k)) j) (sTh Lf p E S i) (nI (i + 1 + j)) r = ih4 (v + xSm (fun k => sAk (sTh Lf p E S) i (i + 1 + k)) (t - (i + 1))) (nI (i + 1)) r1 := by
  have ht := hE.2.1.1
  intro n
  induction n with
  | zero => intro j r h1 h2; omega
  | succ n ih =>
    intro j r h1 h2 g1
    have e0 : Gk_alike_33 q (nI i) ih4 (n + 1) (v + xSm (fun k => sAk (sTh Lf p E S) i (i + 1 + k)) j) (sTh Lf p E S i) (nI (i + 1 + j)) r = Bk_alike_33 q (nI i) ih4 (Gk_alike_33 q (nI i) ih4 n) (v + xSm (fun k => sAk (sTh Lf p E S) i (i + 1 + k)) j) (sTh Lf p E S i) (nI (i + 1 + j)) r := rfl
    have hE2 := hE.fr g1 (by decide)
    have hS2 := hS.sN g1 rfl rfl rfl rfl rfl rfl
    rw [e0]
    unfold Bk_alike_33 Gk_alike_65
    simp only [zletQ, zifQ, zifnQ, hE2.1.1, nI_1]
    by_cases e : i + 1 + j = t
    · rw [if_pos (nI_leP (by omega) (by omega) (by omega)), show t - (i + 1) = j by omega]
      exact ⟨r, g1, rfl⟩
    · rw [if_neg (nI_leN (by omega) (by omega) (by omega))]
      obtain ⟨r3, f3, e3⟩ := kThr (q := q) hE2 hS2 (i := i + 1 + j) (by omega)
      rw [e3, xcvr (r := r3)]
      obtain ⟨r4, f4, e4⟩ := ih (j + 1) r3 (by omega) (by omega) (g1.tr f3 (by decide))
      refine ⟨r4, f4, ?_⟩
      rw [← e4, xSm_s, show i + 1 + (j + 1) = i + 1 + j + 1 by omega]
      by_cases c : sTh Lf p E S (i + 1 + j) = sTh Lf p E S i
      · rw [if_pos c, show sAk (sTh Lf p E S) i (i + 1 + j) = 1 from if_pos c, Int32.add_assoc]
      · rw [if_neg c, show sAk (sTh Lf p E S) i (i + 1 + j) = 0 from if_neg c, Int32.add_zero]
theorem kAk4 (hE : xCe Lf t p E r0) (hS : xCs t p 6 S r0) : ∀ (n i : Nat) (r : zRr), i ≤ t → t < n + i → zFr [182] r0 r → (Gk_alike_4 q n (xSm (fun a => xSm (fun k => sAk (sTh Lf p E S) a (a + 1 + k)) (t - (a + 1))) i) (nI i) r).1 = xSm (fun a => xSm (fun k => sAk (sTh Lf p E S) a (a + 1 + k)) (t - (a + 1))) t := by
  have ht := hE.2.1.1
  intro n
  induction n with
  | zero => intro i r h1 h2; omega
  | succ n ih =>
    intro i r h1 h2 g1
    have e0 : Gk_alike_4 q (n + 1) (xSm (fun a => xSm (fun k => sAk (sTh Lf p E S) a (a + 1 + k)) (t - (a + 1))) i) (nI i) r = Bk_alike_4 q (Gk_alike_4 q n) (xSm (fun a => xSm (fun k => sAk (sTh Lf p E S) a (a + 1 + k)) (t - (a + 1))) i) (nI i) r := rfl
    have hE2 := hE.fr g1 (by decide)
    have hS2 := hS.sN g1 rfl rfl rfl rfl rfl rfl
    rw [e0]
    unfold Bk_alike_4
    simp only [zletQ, zifQ, hE2.1.1, nI_1]
    by_cases e : i = t
    · subst e; rw [if_pos (nI_leP (by omega) (by omega) (by omega))]
    · rw [if_neg (nI_leN (by omega) (by omega) (by omega))]
      obtain ⟨r3, f3, e3⟩ := kThr (q := q) hE2 hS2 (i := i) (by omega)
      rw [e3, xcvr (r := r3)]
      obtain ⟨r4, f4, e4⟩ := kAk33 (q := q) hE hS (i := i) (by omega) (ih4 := Gk_alike_4 q n) (v := xSm (fun a => xSm (fun k => sAk (sTh Lf p E S) a (a + 1 + k)) (t - (a + 1))) i) 6 0 r3 (by omega) (by omega) (g1.tr f3 (by decide))
      have e5 : xSm (fun a => xSm (fun k => sAk (sTh Lf p E S) a (a + 1 + k)) (t - (a + 1))) i + xSm (fun k => sAk (sTh Lf p E S) i (i + 1 + k)) 0 = xSm (fun a => xSm (fun k => sAk (sTh Lf p E S) a (a + 1 + k)) (t - (a + 1))) i := Int32.add_zero _
      rw [e5, ← xSm_s (f := fun a => xSm (fun k => sAk (sTh Lf p E S) a (a + 1 + k)) (t - (a + 1)))] at e4
      rw [show nI (i + 1) = nI (i + 1 + 0) from rfl, e4]
      exact ih (i + 1) r4 (by omega) (by omega) f4
theorem mAk21 (hE : xMe Lf t p E 0 r0) (hS : xMs t p S (r0 32)) {i : Nat} (hi : i < t) {ih9 : Int32 → Int32 → zRr → Int32 × zRr} {v : Int32} : ∀ (n j : Nat) (r : zRr), j ≤ i → i < n + j → zFr [15, 16, 17, 18, 19, 20, 21, 22, 23, 24] r0 r → ∃ r1, zFr [15, 16, 17, 18, 19, 20, 21, 22, 23, 24] r0 r1 ∧ Gm_alike_21 q (nI i) ih9 n (v + xSm (fun a => sAk (sTh Lf p E S) a i) j) (nI j) r = ih9 (v + xSm (fun a => sAk (sTh Lf p E S) a i) i) (nI (i + 1)) r1 := by
  have ht := hE.2.1.1
  intro n
  induction n with
  | zero => intro j r h1 h2; omega
  | succ n ih =>
    intro j r h1 h2 g1
    have e0 : Gm_alike_21 q (nI i) ih9 (n + 1) (v + xSm (fun a => sAk (sTh Lf p E S) a i) j) (nI j) r = Bm_alike_21 q (nI i) ih9 (Gm_alike_21 q (nI i) ih9 n) (v + xSm (fun a => sAk (sTh Lf p E S) a i) j) (nI j) r := rfl
    rw [e0]
    unfold Bm_alike_21 Gm_alike_45
    simp only [zletQ, zifQ, zifnQ, nI_1]
    by_cases e : j = i
    · subst e
      rw [if_pos (nI_leP (by omega) (by omega) (by omega))]
      exact ⟨r, g1, rfl⟩
    · rw [if_neg (nI_leN (by omega) (by omega) (by omega))]
      obtain ⟨r3, f3, e3⟩ := mThr (q := q) (hE.fr g1 (by decide)) (hS.fr (g1 32 rfl)) hi
      have g3 := g1.tr f3 (by decide)
      obtain ⟨r5, f5, e5⟩ := mThr (q := q) (hE.fr g3 (by decide)) (hS.fr (g3 32 rfl)) (i := j) (by omega)
      rw [e3, xcvr (r := r3), e5, xcvr (r := r5)]
      obtain ⟨r4, f4, e4⟩ := ih (j + 1) r5 (by omega) (by omega) (g3.tr f5 (by decide))
      refine ⟨r4, f4, ?_⟩
      rw [← e4, xSm_s]
      by_cases c : sTh Lf p E S i = sTh Lf p E S j
      · rw [if_pos c, show sAk (sTh Lf p E S) j i = 1 from if_pos c, Int32.add_assoc]
      · rw [if_neg c, show sAk (sTh Lf p E S) j i = 0 from if_neg c, Int32.add_assoc]
theorem mAk9 (hE : xMe Lf t p E 0 r0) (hS : xMs t p S (r0 32)) : ∀ (n i : Nat) (r : zRr), i ≤ t → t < n + i → zFr [15, 16, 17, 18, 19, 20, 21, 22, 23, 24] r0 r → (Gm_alike_9 q n (xSm (fun b => xSm (fun a => sAk (sTh Lf p E S) a b) b) i) (nI i) r).1 = xSm (fun b => xSm (fun a => sAk (sTh Lf p E S) a b) b) t := by
  have ht := hE.2.1.1
  intro n
  induction n with
  | zero => intro i r h1 h2; omega
  | succ n ih =>
    intro i r h1 h2 g1
    have e0 : Gm_alike_9 q (n + 1) (xSm (fun b => xSm (fun a => sAk (sTh Lf p E S) a b) b) i) (nI i) r = Bm_alike_9 q (Gm_alike_9 q n) (xSm (fun b => xSm (fun a => sAk (sTh Lf p E S) a b) b) i) (nI i) r := rfl
    have hE2 := hE.fr g1 (by decide)
    rw [e0]
    unfold Bm_alike_9
    simp only [zletQ, zifQ, hE2.1.1]
    by_cases e : i = t
    · subst e; rw [if_pos (nI_leP (by omega) (by omega) (by omega))]
    · rw [if_neg (nI_leN (by omega) (by omega) (by omega))]
      obtain ⟨r4, f4, e4⟩ := mAk21 (q := q) hE hS (i := i) (by omega) (ih9 := Gm_alike_9 q n) (v := xSm (fun b => xSm (fun a => sAk (sTh Lf p E S) a b) b) i) 6 0 r (by omega) (by omega) g1
      have e5 : xSm (fun b => xSm (fun a => sAk (sTh Lf p E S) a b) b) i + xSm (fun a => sAk (sTh Lf p E S) a i) 0 = xSm (fun b => xSm (fun a => sAk (sTh Lf p E S) a b) b) i := Int32.add_zero _
      rw [e5, ← xSm_s (f := fun b => xSm (fun a => sAk (sTh Lf p E S) a b) b), nI_0] at e4
      rw [e4]
      exact ih (i + 1) r4 (by omega) (by omega) f4
end XALK
theorem xAlikeW {t p : Nat} {r rm : zRr} {q qm : zRq} (h : xHow t p r q rm qm) : (Gk_alike r q).1 = (Gm_alike rm qm).1 := by
  have h1 := h.z100
  have ht := h.le.1
  obtain ⟨hE, hE'⟩ := h1.E
  obtain ⟨S, s1, s2, _⟩ := h1.2.1
  unfold Gk_alike Gm_alike
  rw [zletQ]
  have k1 := kAk4 (q := q) hE s1 7 0 r (by omega) (by omega) zFr.refl
  have k2 := mAk9 (q := qm) hE' s2 7 0 _ (by omega) (by omega) zFr.refl
  rw [xTri] at k1
  exact k1.trans k2.symm
