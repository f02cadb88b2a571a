section
/-! ===== how it is: begun anew; what can be undone ===== -/
theorem nI_mulL (a b : Nat) : nI a * nI b = nI (a * b) := (Int32.ofNat_mul a b).symm
section XBG
variable {Lf : xLT} {t p : Nat} {E S : Nat → Nat → Int32} {mo : Int32} {r : zRr} {q : zRq}
theorem mBg23 (hE : xMe Lf t p E mo r) (hH : xMh t p E r) (h0 : ∀ o, o < 31 → r 32 o = 0) : xMs t p (sBg E) (Gm_fresh0_23 7 0 r 32) ∧ xZr p (Gm_fresh0_23 7 0 r 32) ∧ zFr [32] r (Gm_fresh0_23 7 0 r) := by
  have hp : p ≤ 6 := hE.2.1.2
  have z7 : ∀ (r : zRr) x y, zset r 32 x 7 y = r 7 y := fun r x y => by rw [zset_ne (by decide)]
  have z8 : ∀ (r : zRr) x y, zset r 32 x 8 y = r 8 y := fun r x y => by rw [zset_ne (by decide)]
  have z9 : ∀ (r : zRr) x y, zset r 32 x 9 y = r 9 y := fun r x y => by rw [zset_ne (by decide)]
  exact xLpS (p := p) (G := Gm_fresh0_23) (I := fun i r1 => zFr [32] r r1 ∧ xMs t i (sBg E) (r1 32) ∧ ∀ j, j < 6 → r1 32 (13 + j) = 0 ∧ (i ≤ j → r1 32 (19 + j) = 0)) (Q := fun r1 => xMs t p (sBg E) (r1 32) ∧ xZr p (r1 32) ∧ zFr [32] r r1) (by
    intro n i r2 hi ⟨f2, c2, d2⟩
    have e0 : Gm_fresh0_23 (n + 1) (nI i) r2 = Bm_fresh0_23 (Gm_fresh0_23 n) (nI i) r2 := rfl
    obtain ⟨ha, h6, h7, h8⟩ := hH i hi
    have k10 : r2 1 1 = nI p := by rw [f2 1 rfl]; exact hE.1.2.1
    have k6 : r2 7 i = E 4 i := by rw [f2 7 rfl]; exact h6
    have k7 : r2 8 i = E 5 i := by rw [f2 8 rfl]; exact h7
    have k8 : r2 9 i = E 6 i := by rw [f2 9 rfl]; exact h8
    have n1 : (1 : Int32) + nI i = nI (1 + i) := nI_add 1 i
    have n7 : (7 : Int32) + nI i = nI (7 + i) := nI_add 7 i
    have n19 : (19 : Int32) + nI i = nI (19 + i) := nI_add 19 i
    have n25 : (25 : Int32) + nI i = nI (25 + i) := nI_add 25 i
    rw [e0]
    unfold Bm_fresh0_23
    simp only [zletQ, zifQ, k10, nI_1, n1, n7, n19, n25, xzn (show i < 2 ^ 31 by omega), xzn (show 1 + i < 2 ^ 31 by omega), xzn (show 7 + i < 2 ^ 31 by omega), xzn (show 19 + i < 2 ^ 31 by omega), xzn (show 25 + i < 2 ^ 31 by omega), z7, z8, z9, k6, k7, k8, zset_eq]
    rw [if_neg (nI_leN (by omega) (by omega) (by omega))]
    refine ⟨_, ⟨(((f2.set rfl).set rfl).set rfl).set rfl, ?_, fun j hj => ?_⟩, rfl⟩
    · rw [zset_eq]
      refine ⟨?_, fun j hj => ?_⟩
      · rw [pk_un (by omega), pk_un (by omega), pk_un (by omega), pk_un (by omega)]; exact c2.1
      · by_cases e : j = i
        · subst e
          refine ⟨ha, ?_, ?_, ?_, ?_, ?_⟩
          · rw [pk_un (by omega), pk_un (by omega), pk_un (by omega), pk_us]; rfl
          · rw [pk_un (by omega), pk_un (by omega), pk_us]; rfl
          · rw [pk_un (by omega), pk_un (by omega), pk_un (by omega), pk_un (by omega), (d2 j (by omega)).1]; rfl
          · rw [pk_un (by omega), pk_us]; rfl
          · rw [pk_us]; rfl
        · obtain ⟨g1, g2, g3, g4, g5, g6⟩ := c2.2 j (by omega)
          refine ⟨g1, ?_, ?_, ?_, ?_, ?_⟩
          · rw [pk_un (by omega), pk_un (by omega), pk_un (by omega), pk_un (by omega)]; exact g2
          · rw [pk_un (by omega), pk_un (by omega), pk_un (by omega), pk_un (by omega)]; exact g3
          · rw [pk_un (by omega), pk_un (by omega), pk_un (by omega), pk_un (by omega)]; exact g4
          · rw [pk_un (by omega), pk_un (by omega), pk_un (by omega), pk_un (by omega)]; exact g5
          · rw [pk_un (by omega), pk_un (by omega), pk_un (by omega), pk_un (by omega)]; exact g6
    · rw [zset_eq]
      refine ⟨?_, fun hij => ?_⟩
      · rw [pk_un (by omega), pk_un (by omega), pk_un (by omega), pk_un (by omega)]; exact (d2 j hj).1
      · rw [pk_un (by omega), pk_un (by omega), pk_un (by omega), pk_un (by omega)]; exact (d2 j hj).2 (by omega)) (by
    intro n r2 ⟨f2, c2, d2⟩
    have e0 : Gm_fresh0_23 (n + 1) (nI p) r2 = Bm_fresh0_23 (Gm_fresh0_23 n) (nI p) r2 := rfl
    have k10 : r2 1 1 = nI p := by rw [f2 1 rfl]; exact hE.1.2.1
    rw [e0]
    unfold Bm_fresh0_23
    simp only [zletQ, zifQ, k10]
    rw [if_pos (nI_leP (by omega) (by omega) (by omega))]
    exact ⟨c2, fun j h1 h2 => ⟨(d2 j h2).1, (d2 j h2).2 h1⟩, f2⟩) 7 0 r (by omega) (by omega) ⟨zFr.refl, ⟨h0 0 (by omega), fun j hj => absurd hj (by omega)⟩, fun j hj => ⟨h0 _ (by omega), fun _ => h0 _ (by omega)⟩⟩
theorem mBg (hE : xMe Lf t p E mo r) (hH : xMh t p E r) : xMs t p (sBg E) (Gm_fresh0 r q 32) ∧ xZr p (Gm_fresh0 r q 32) ∧ zFr [32] r (Gm_fresh0 r q) := by
  unfold Gm_fresh0
  exact xLpS (p := 31) (G := Gm_fresh0_2) (I := fun i r1 => zFr [32] r r1 ∧ ∀ o, o < i → r1 32 o = 0) (Q := fun r1 => xMs t p (sBg E) (r1 32) ∧ xZr p (r1 32) ∧ zFr [32] r r1) (by
    intro n i r2 hi ⟨f2, c2⟩
    have e0 : Gm_fresh0_2 (n + 1) (nI i) r2 = Bm_fresh0_2 (Gm_fresh0_2 n) (nI i) r2 := rfl
    have c31 : ¬ (31 : Int32) ≤ nI i := nI_leN (a := 31) (by omega) (by omega) (by omega)
    rw [e0]
    unfold Bm_fresh0_2
    simp only [zletQ, zifQ, nI_1, xzn (show i < 2 ^ 31 by omega)]
    rw [if_neg c31]
    refine ⟨_, ⟨f2.set rfl, fun o ho => ?_⟩, rfl⟩
    rw [zset_eq]
    by_cases e : o = i
    · subst e; rw [pk_us]
    · rw [pk_un e]; exact c2 o (by omega)) (by
    intro n r2 ⟨f2, c2⟩
    have e0 : Gm_fresh0_2 (n + 1) (nI 31) r2 = Bm_fresh0_2 (Gm_fresh0_2 n) (nI 31) r2 := rfl
    have c31 : (31 : Int32) ≤ nI 31 := nI_leP (a := 31) (by omega) (by omega) (by omega)
    rw [e0]
    unfold Bm_fresh0_2
    rw [zifQ, if_pos c31]
    obtain ⟨k1, k2, k3⟩ := mBg23 (r := r2) (hE.fr f2 (by decide)) (fun j hj => by rw [f2 7 rfl, f2 8 rfl, f2 9 rfl]; exact hH j hj) c2
    exact ⟨k1, k2, f2.tr k3 (by decide)⟩) 32 0 r (by omega) (by omega) ⟨zFr.refl, fun o ho => absurd ho (by omega)⟩
end XBG
/-- what can be undone -/
noncomputable def xPs (t p : Nat) (r rm : zRr) : Prop := ∃ nx c : Nat, nx < 16 ∧ c ≤ 16 ∧ r 195 13 = nI nx ∧ r 195 14 = nI c ∧ rm 151 0 = nI c ∧ ∀ d, d < c → xSt t p (6 * ((nx + 16 - c + d) % 16) + 18) r (fun k => rm 36 (31 * d + k))
theorem xmod16 : ∀ n : Fin 32, nI n.val - nI n.val / 16 * 16 = nI (n.val % 16) := by decide +kernel
theorem xmod {n : Nat} (h : n < 32) : nI n - nI n / 16 * 16 = nI (n % 16) := xmod16 ⟨n, h⟩
section XPS
variable {t p : Nat} {r r1 rm rm1 : zRr} {q qm : zRq}
theorem xPs.fr (h : xPs t p r rm) (hp : p ≤ 6) (k : ∀ a, 18 ≤ a → a < 114 → r1 a = r a) (k1 : r1 195 = r 195) (m : rm1 36 = rm 36) (m1 : rm1 151 0 = rm 151 0) : xPs t p r1 rm1 := by
  obtain ⟨nx, c, h1, h2, h3, h4, h5, h6⟩ := h
  refine ⟨nx, c, h1, h2, by rw [k1]; exact h3, by rw [k1]; exact h4, by rw [m1]; exact h5, fun d hd => ?_⟩
  exact (h6 d hd).eq hp (fun i hi => k _ (by omega) (by omega)) (fun i _ => by rw [m])
theorem xPs.nil (h1 : r 195 13 = 0) (h2 : r 195 14 = 0) (h3 : rm 151 0 = 0) : xPs t p r rm := ⟨0, 0, by omega, by omega, h1, h2, h3, fun d hd => absurd hd (by omega)⟩
theorem mK49 {c : Nat} (hc : rm 151 0 = nI c) (h16 : c ≤ 16) : zFr [36, 151] rm (Gm_keeps_49 rm) ∧ Gm_keeps_49 rm 151 0 = nI (c + 1) ∧ Gm_keeps_49 rm 36 = zcp (rm 32) (rm 36) 0 (31 * c) 31 := by
  have e : (31 : Int32) * nI c = nI (31 * c) := nI_mulL 31 c
  unfold Gm_keeps_49
  simp only [zletQ, hc, e, xzn (show 31 * c < 2 ^ 31 by omega)]
  refine ⟨(zFr.refl.set rfl).set rfl, ?_, ?_⟩
  · rw [zset_eq, zset_ne (by decide), hc, nI_1]
  · rw [zset_ne (by decide), zset_eq]
theorem mK11 : ∀ n i r0, i ≤ 465 → 465 < n + i → (zFr [36] rm r0 ∧ ∀ o, r0 36 o = if o < i then rm 36 (o + 31) else rm 36 o) → ∃ r2, zFr [36] rm r2 ∧ (∀ o, r2 36 o = if o < 465 then rm 36 (o + 31) else rm 36 o) ∧ Gm_keeps_11 n (nI i) r0 = Gm_keeps_49 (zset r2 151 (fun _ => r2 151 0 - 1)) := by
  intro n i r0 h1 h2 h3
  exact xLpS (p := 465) (G := Gm_keeps_11) (I := fun i r1 => zFr [36] rm r1 ∧ ∀ o, r1 36 o = if o < i then rm 36 (o + 31) else rm 36 o) (Q := fun x => ∃ r2, zFr [36] rm r2 ∧ (∀ o, r2 36 o = if o < 465 then rm 36 (o + 31) else rm 36 o) ∧ x = Gm_keeps_49 (zset r2 151 (fun _ => r2 151 0 - 1))) (by
    intro n i r2 hi ⟨f2, c2⟩
    have e0 : Gm_keeps_11 (n + 1) (nI i) r2 = Bm_keeps_11 (Gm_keeps_11 n) (nI i) r2 := rfl
    have c4 : ¬ (465 : Int32) ≤ nI i := nI_leN (a := 465) (by omega) (by omega) (by omega)
    have n31 : nI i + 31 = nI (i + 31) := nI_add i 31
    rw [e0]
    unfold Bm_keeps_11
    simp only [zletQ, zifQ, nI_1, n31, xzn (show i < 2 ^ 31 by omega), xzn (show i + 31 < 2 ^ 31 by omega)]
    rw [if_neg c4]
    refine ⟨_, ⟨f2.set rfl, fun o => ?_⟩, rfl⟩
    rw [zset_eq]
    by_cases e : o = i
    · subst e; rw [pk_us, if_pos (by omega), c2 (o + 31), if_neg (by omega)]
    · rw [pk_un e, c2 o]
      by_cases l : o < i
      · rw [if_pos l, if_pos (by omega)]
      · rw [if_neg l, if_neg (by omega)]) (by
    intro n r2 ⟨f2, c2⟩
    have e0 : Gm_keeps_11 (n + 1) (nI 465) r2 = Bm_keeps_11 (Gm_keeps_11 n) (nI 465) r2 := rfl
    have c4 : (465 : Int32) ≤ nI 465 := nI_leP (a := 465) (by omega) (by omega) (by omega)
    rw [e0]
    unfold Bm_keeps_11
    simp only [zletQ, zifQ]
    rw [if_pos c4]
    exact ⟨r2, f2, c2, rfl⟩) n i r0 h1 h2 h3
theorem kRem {nx c : Nat} (h1 : nx < 16) (h2 : c ≤ 16) (h3 : r 195 13 = nI nx) (h4 : r 195 14 = nI c) : Gk_remember r q 195 13 = nI ((nx + 1) % 16) ∧ Gk_remember r q 195 14 = nI (if c < 16 then c + 1 else 16) ∧ ∀ a, a ≠ 195 → Gk_remember r q a = kcp8 r (6 * nx + 18) 6 a := by
  have ko : kcp8 r (6 * nx + 18) 6 195 = r 195 := kcp8_o (Or.inr (by omega))
  have u14 : ∀ v, upd (r 195) 13 v 14 = nI c := fun v => by rw [pk_un (by decide)]; exact h4
  have m16 : nI (nx + 1) - nI (nx + 1) / 16 * 16 = nI ((nx + 1) % 16) := xmod (by omega)
  have mm : (if (16 : Int32) < nI (c + 1) then 16 else nI (c + 1)) = nI (if c < 16 then c + 1 else 16) := by
    by_cases e : c < 16
    · have k : ¬ (16 : Int32) < nI (c + 1) := fun h => by have := (nI_ltI (a := 16) (by omega) (by omega)).mp h; omega
      rw [if_neg k, if_pos e]
    · have k : (16 : Int32) < nI (c + 1) := (nI_ltI (a := 16) (by omega) (by omega)).mpr (by omega)
      rw [if_pos k, if_neg e]; rfl
  unfold Gk_remember
  simp only [zletQ, h3, xzn (show nx < 2 ^ 31 by omega), ko, nI_1, m16, zset_eq, u14, mm]
  refine ⟨?_, ?_, fun a ha => ?_⟩
  · rw [pk_un (by decide), pk_us]
  · rw [pk_us]
  · rw [zset_ne ha, zset_ne ha]
theorem xRem (h6 : xSt t p 6 r (rm 32)) (hP : xPs t p r rm) (hp : p ≤ 6) : xPs t p (Gk_remember r q) (Gm_keeps rm qm) ∧ (∀ a, a < 18 ∨ 114 ≤ a → a ≠ 195 → Gk_remember r q a = r a) ∧ zFr [36, 151] rm (Gm_keeps rm qm) := by
  obtain ⟨nx, c, h1, h2, h3, h4, h5, h7⟩ := hP
  obtain ⟨k1, k2, k3⟩ := kRem (q := q) h1 h2 h3 h4
  have hfr : ∀ a, a < 18 ∨ 114 ≤ a → a ≠ 195 → Gk_remember r q a = r a := fun a h a1 => by
    rw [k3 a a1]; exact kcp8_o (by omega)
  have hslot : ∀ sl, sl < 16 → sl ≠ nx → ∀ i, i < 6 → Gk_remember r q (6 * sl + 18 + i) = r (6 * sl + 18 + i) := fun sl s1 s2 i hi => by
    rw [k3 _ (by omega)]; exact kcp8_o (by omega)
  have hnew : ∀ f : Nat → Int32, (∀ k, k < 31 → f k = rm 32 k) → xSt t p (6 * nx + 18) (Gk_remember r q) f := fun f hf =>
    (h6.cp (n := 6 * nx + 18) hp).eq hp (fun i hi => k3 _ (by omega)) hf
  generalize Gk_remember r q = r1 at k1 k2 hfr hslot hnew ⊢
  by_cases hc : c < 16
  · rw [if_pos hc] at k2
    have e : Gm_keeps rm qm = Gm_keeps_49 rm := by
      unfold Gm_keeps
      rw [zifnQ, if_neg (show ¬ rm 151 0 = 16 from fun h => by rw [h5] at h; have := (nI_eq (b := 16) (by omega) (by omega)).mp h; omega)]
    obtain ⟨m1, m2, m3⟩ := mK49 h5 h2
    rw [e]
    refine ⟨⟨(nx + 1) % 16, c + 1, by omega, by omega, k1, k2, m2, fun d hd => ?_⟩, hfr, m1⟩
    by_cases ed : d = c
    · subst ed
      rw [show ((nx + 1) % 16 + 16 - (d + 1) + d) % 16 = nx by omega]
      refine hnew _ (fun k hk => ?_)
      show Gm_keeps_49 rm 36 (31 * d + k) = rm 32 k
      rw [m3]
      show (if 31 * d ≤ 31 * d + k ∧ 31 * d + k < 31 * d + 31 then rm 32 (0 + (31 * d + k - 31 * d)) else rm 36 (31 * d + k)) = _
      rw [if_pos (by omega), show 0 + (31 * d + k - 31 * d) = k by omega]
    · rw [show ((nx + 1) % 16 + 16 - (c + 1) + d) % 16 = (nx + 16 - c + d) % 16 by omega]
      refine (h7 d (by omega)).eq hp (hslot _ (by omega) (by omega)) (fun k hk => ?_)
      show Gm_keeps_49 rm 36 (31 * d + k) = rm 36 (31 * d + k)
      rw [m3]
      show (if 31 * c ≤ 31 * d + k ∧ 31 * d + k < 31 * c + 31 then rm 32 (0 + (31 * d + k - 31 * c)) else rm 36 (31 * d + k)) = _
      rw [if_neg (by omega)]
  · have hc : c = 16 := by omega
    subst hc
    rw [if_neg (by omega)] at k2
    obtain ⟨r2, f2, c2, e2⟩ := mK11 (rm := rm) 466 0 rm (by omega) (by omega) ⟨zFr.refl, fun o => by rw [if_neg (by omega)]⟩
    have e : Gm_keeps rm qm = Gm_keeps_49 (zset r2 151 (fun _ => r2 151 0 - 1)) := by
      unfold Gm_keeps
      rw [zifnQ, if_pos (show rm 151 0 = 16 from h5)]
      exact e2
    have e15 : zset r2 151 (fun _ => r2 151 0 - 1) 151 0 = nI 15 := by
      rw [zset_eq, f2 151 (by decide), h5]; rfl
    obtain ⟨m1, m2, m3⟩ := mK49 e15 (by omega)
    have f3 : zFr [36, 151] rm (zset r2 151 (fun _ => r2 151 0 - 1)) := (f2.up (by decide)).set rfl
    have e32 : zset r2 151 (fun _ => r2 151 0 - 1) 32 = rm 32 := f3 32 (by decide)
    have e36 : zset r2 151 (fun _ => r2 151 0 - 1) 36 = r2 36 := zset_ne (by decide)
    rw [e32, e36] at m3
    rw [e]
    generalize Gm_keeps_49 (zset r2 151 (fun _ => r2 151 0 - 1)) = rx at m1 m2 m3 ⊢
    refine ⟨⟨(nx + 1) % 16, 16, by omega, by omega, k1, k2, m2, fun d hd => ?_⟩, hfr, f3.tr m1 (by decide)⟩
    by_cases ed : d = 15
    · subst ed
      rw [show ((nx + 1) % 16 + 16 - 16 + 15) % 16 = nx by omega]
      refine hnew _ (fun k hk => ?_)
      show rx 36 (31 * 15 + k) = rm 32 k
      rw [m3]
      show (if 31 * 15 ≤ 31 * 15 + k ∧ 31 * 15 + k < 31 * 15 + 31 then rm 32 (0 + (31 * 15 + k - 31 * 15)) else r2 36 (31 * 15 + k)) = _
      rw [if_pos (by omega), show 0 + (31 * 15 + k - 31 * 15) = k by omega]
    · rw [show ((nx + 1) % 16 + 16 - 16 + d) % 16 = (nx + 16 - 16 + (d + 1)) % 16 by omega]
      refine (h7 (d + 1) (by omega)).eq hp (hslot _ (by omega) (by omega)) (fun k hk => ?_)
      show rx 36 (31 * d + k) = rm 36 (31 * (d + 1) + k)
      rw [m3]
      show (if 31 * 15 ≤ 31 * d + k ∧ 31 * d + k < 31 * 15 + 31 then rm 32 (0 + (31 * d + k - 31 * 15)) else r2 36 (31 * d + k)) = _
      rw [if_neg (by omega), c2 (31 * d + k), if_pos (by omega), show 31 * d + k + 31 = 31 * (d + 1) + k by omega]
/-- undo -/
theorem xUn (h6 : xSt t p 6 r (rm 32)) (hP : xPs t p r rm) (hp : p ≤ 6) : (Gk_undo r q).1 = (Gm_undo rm qm).1 ∧ xSt t p 6 (Gk_undo r q).2 ((Gm_undo rm qm).2 32) ∧ xPs t p (Gk_undo r q).2 (Gm_undo rm qm).2 ∧ (∀ a, 12 ≤ a → a ≠ 195 → (Gk_undo r q).2 a = r a) ∧ zFr [32, 100, 151] rm (Gm_undo rm qm).2 := by
  obtain ⟨nx, c, h1, h2, h3, h4, h5, h7⟩ := hP
  by_cases hc : c = 0
  · subst hc
    have ek : Gk_undo r q = (0, r) := by
      unfold Gk_undo
      simp only [zletQ, zifnQ]
      rw [if_pos (show r 195 14 = 0 from h4)]
    have em : Gm_undo rm qm = (0, zset rm 100 (fun _ => 0)) := by
      unfold Gm_undo
      simp only [zletQ, zifnQ]
      rw [if_pos (show zset rm 100 (fun _ => 0) 151 0 = 0 from h5)]
    rw [ek, em]
    exact ⟨rfl, h6, ⟨nx, 0, h1, h2, h3, h4, h5, fun d hd => absurd hd (by omega)⟩, fun _ _ _ => rfl, zFr.refl.set rfl⟩
  · obtain ⟨b, rfl⟩ : ∃ b, c = b + 1 := ⟨c - 1, by omega⟩
    have n0 : ¬ nI (b + 1) = 0 := fun h => by have := (nI_eq (b := 0) (by omega) (by omega)).mp h; omega
    have n16 : nI nx + 16 = nI (nx + 15 + 1) := nI_add nx 16
    have n15 : nI (nx + 15 + 1) - 1 = nI (nx + 15) := by rw [← nI_1, Int32.add_sub_cancel]
    have nb : nI (b + 1) - 1 = nI b := by rw [← nI_1, Int32.add_sub_cancel]
    have m16 : nI (nx + 15) - nI (nx + 15) / 16 * 16 = nI ((nx + 15) % 16) := xmod (by omega)
    have u14 : ∀ v, upd (r 195) 13 v 14 = nI (b + 1) := fun v => by rw [pk_un (by decide)]; exact h4
    have u13 : ∀ v w, upd (upd (r 195) 13 v) 14 w 13 = v := fun v w => by rw [pk_un (by decide), pk_us]
    have ek : Gk_undo r q = (1, kcp8 (zset (zset r 195 (upd (r 195) 13 (nI ((nx + 15) % 16)))) 195 (upd (upd (r 195) 13 (nI ((nx + 15) % 16))) 14 (nI b))) 6 (6 * ((nx + 15) % 16) + 18)) := by
      unfold Gk_undo
      simp only [zletQ, zifnQ, h4, if_neg n0, h3, n16, n15, m16, zset_eq, u14, nb, u13, xzn (show (nx + 15) % 16 < 2 ^ 31 by omega)]
    have e31 : (31 : Int32) * nI b = nI (31 * b) := nI_mulL 31 b
    have em : Gm_undo rm qm = (1, zset (zset (zset rm 100 (fun _ => 0)) 151 (fun _ => nI b)) 32 (zcp (rm 36) (rm 32) (31 * b) 0 31)) := by
      unfold Gm_undo
      have k : zset rm 100 (fun _ => 0) 151 0 = nI (b + 1) := h5
      simp only [zletQ, zifnQ, k, if_neg n0, nb, zset_eq, e31, xzn (show 31 * b < 2 ^ 31 by omega)]
      rfl
    rw [ek, em]
    obtain ⟨r9, e9⟩ : ∃ x, x = zset (zset r 195 (upd (r 195) 13 (nI ((nx + 15) % 16)))) 195 (upd (upd (r 195) 13 (nI ((nx + 15) % 16))) 14 (nI b)) := ⟨_, rfl⟩
    rw [← e9]
    have f9 : ∀ a, a ≠ 195 → r9 a = r a := fun a ha => by rw [e9, zset_ne ha, zset_ne ha]
    have g13 : r9 195 13 = nI ((nx + 15) % 16) := by rw [e9, zset_eq, u13]
    have g14 : r9 195 14 = nI b := by rw [e9, zset_eq, pk_us]
    have hpast := h7 b (by omega)
    rw [show (nx + 16 - (b + 1) + b) % 16 = (nx + 15) % 16 by omega] at hpast
    have hp9 : xSt t p (6 * ((nx + 15) % 16) + 18) r9 (fun k => rm 36 (31 * b + k)) := hpast.eq hp (fun i hi => f9 _ (by omega)) (fun _ _ => rfl)
    refine ⟨rfl, (hp9.cp (n := 6) hp).eq hp (fun _ _ => rfl) (fun k hk => ?_), ⟨(nx + 15) % 16, b, by omega, by omega, ?_, ?_, ?_, fun d hd => ?_⟩, fun a a1 a2 => ?_, ?_⟩
    · show zset (zset (zset rm 100 (fun _ => 0)) 151 (fun _ => nI b)) 32 (zcp (rm 36) (rm 32) (31 * b) 0 31) 32 k = rm 36 (31 * b + k)
      rw [zset_eq]
      show (if 0 ≤ k ∧ k < 0 + 31 then rm 36 (31 * b + (k - 0)) else rm 32 k) = _
      rw [if_pos (by omega), show k - 0 = k by omega]
    · show kcp8 r9 6 (6 * ((nx + 15) % 16) + 18) 195 13 = _
      rw [kcp8_o (Or.inr (by omega))]; exact g13
    · show kcp8 r9 6 (6 * ((nx + 15) % 16) + 18) 195 14 = _
      rw [kcp8_o (Or.inr (by omega))]; exact g14
    · rfl
    · rw [show ((nx + 15) % 16 + 16 - b + d) % 16 = (nx + 16 - (b + 1) + d) % 16 by omega]
      refine (h7 d (by omega)).eq hp (fun i hi => ?_) (fun _ _ => rfl)
      show kcp8 r9 6 (6 * ((nx + 15) % 16) + 18) _ = _
      rw [kcp8_o (Or.inr (by omega))]
      exact f9 _ (by omega)
    · show kcp8 r9 6 (6 * ((nx + 15) % 16) + 18) a = _
      rw [kcp8_o (Or.inr (by omega))]; exact f9 a a2
    · exact ((zFr.refl.set rfl).set rfl).set rfl
end XPS
end
section
/-! ===== a JOURNEY that is told, on both sides; what marks hold ===== -/
noncomputable def xPl (t p b o : Nat) (r rm : zRr) : Prop := ∃ n, n ≤ 40 ∧ r b 3 = nI n ∧ rm 25 o = nI n ∧ ∀ k, k < n → r (b + 1) k = rm 26 (40 * o + k) ∧ (¬ r (b + 1) k = 3 → r (b + 2) k = rm 27 (40 * o + k)) ∧ (r (b + 1) k = 0 ∨ r (b + 1) k = 1 → r (b + 3) k = rm 28 (40 * o + k)) ∧ xBd t p (r (b + 1) k) (r (b + 2) k) (r (b + 3) k)
noncomputable def xMr (t p : Nat) (r rm : zRr) : Prop := ∀ k, k < 4 → ¬ rm 37 k = 0 → xSt t p (114 + 6 * k) r (fun i => rm 35 (31 * k + i)) ∧ xPl t p (146 + 4 * k) (1 + k) r rm
section XPL
variable {t p : Nat} {r r1 rm rm1 : zRr} {q qm : zRq}
theorem xPl.fr {b o : Nat} (h : xPl t p b o r rm) (k : ∀ i, i < 4 → r1 (b + i) = r (b + i)) (m : rm1 25 o = rm 25 o) (m1 : ∀ c i, 26 ≤ c → c ≤ 28 → i < 40 → rm1 c (40 * o + i) = rm c (40 * o + i)) : xPl t p b o r1 rm1 := by
  obtain ⟨n, h1, h2, h3, h4⟩ := h
  have k0 : r1 b = r b := k 0 (by omega)
  refine ⟨n, h1, by rw [k0]; exact h2, by rw [m]; exact h3, fun i hi => ?_⟩
  rw [k 1 (by omega), k 2 (by omega), k 3 (by omega), m1 26 i (by omega) (by omega) (by omega), m1 27 i (by omega) (by omega) (by omega), m1 28 i (by omega) (by omega) (by omega)]
  exact h4 i hi
theorem xPl.cp {n m a b : Nat} (h : xPl t p m a r rm) (e25 : rm1 25 b = rm 25 a) (e : ∀ c i, 26 ≤ c → c ≤ 28 → i < 40 → rm1 c (40 * b + i) = rm c (40 * a + i)) : xPl t p n b (kcp1 r n m) rm1 := by
  obtain ⟨l, h1, h2, h3, h4⟩ := h
  have z : zn (r m 3) = l := by rw [h2]; exact xzn (by omega)
  refine ⟨l, h1, by rw [kcp1_0, pk_us]; exact h2, by rw [e25]; exact h3, fun i hi => ?_⟩
  rw [kcp1_k (k := 1) ⟨by decide, by decide⟩, kcp1_k (k := 2) ⟨by decide, by decide⟩, kcp1_k (k := 3) ⟨by decide, by decide⟩, z, xcpy hi, xcpy hi, xcpy hi, e 26 i (by omega) (by omega) (by omega), e 27 i (by omega) (by omega) (by omega), e 28 i (by omega) (by omega) (by omega)]
  exact h4 i hi
theorem xPl.nil {b o : Nat} (h1 : r b 3 = 0) (h2 : rm 25 o = 0) : xPl t p b o r rm := ⟨0, by omega, h1, h2, fun k hk => absurd hk (by omega)⟩
theorem xMr.fr (h : xMr t p r rm) (hp : p ≤ 6) (k : ∀ a, 114 ≤ a → a < 162 → (a < 138 ∨ 146 ≤ a) → r1 a = r a) (m35 : rm1 35 = rm 35) (m37 : rm1 37 = rm 37) (m25 : ∀ o, 1 ≤ o → o ≤ 4 → rm1 25 o = rm 25 o) (m26 : ∀ c i, 26 ≤ c → c ≤ 28 → 40 ≤ i → i < 200 → rm1 c i = rm c i) : xMr t p r1 rm1 := by
  intro j hj h0
  rw [m37] at h0
  obtain ⟨h1, h2⟩ := h j hj h0
  exact ⟨h1.eq hp (fun i hi => k _ (by omega) (by omega) (by omega)) (fun i _ => by rw [m35]), h2.fr (fun i hi => k _ (by omega) (by omega) (by omega)) (m25 _ (by omega) (by omega)) (fun c i c1 c2 hi => m26 c _ c1 c2 (by omega) (by omega))⟩
theorem xlaysX {a b : Nat} (ha : a ≤ 5) (hb : b ≤ 5) (hab : a ≠ b) : Gm_laysLines (nI a) (nI b) r q 25 = upd (r 25) b (r 25 a) ∧ ∀ c o, 26 ≤ c → c ≤ 28 → Gm_laysLines (nI a) (nI b) r q c o = if 40 * b ≤ o ∧ o < 40 * b + 40 then r c (40 * a + (o - 40 * b)) else r c o := by
  have ea : (40 : Int32) * nI a = nI (40 * a) := nI_mulL 40 a
  have eb : (40 : Int32) * nI b = nI (40 * b) := nI_mulL 40 b
  unfold Gm_laysLines
  rw [zletQ, xzn (show a < 2 ^ 31 by omega), xzn (show b < 2 ^ 31 by omega)]
  have k := xLpS (p := 40) (G := Gm_laysLines_14 (nI a) (nI b)) (I := fun i r1 => r1 25 = upd (r 25) b (r 25 a) ∧ ∀ c o, 26 ≤ c → c ≤ 28 → r1 c o = if 40 * b ≤ o ∧ o < 40 * b + i then r c (40 * a + (o - 40 * b)) else r c o) (Q := fun r1 => r1 25 = upd (r 25) b (r 25 a) ∧ ∀ c o, 26 ≤ c → c ≤ 28 → r1 c o = if 40 * b ≤ o ∧ o < 40 * b + 40 then r c (40 * a + (o - 40 * b)) else r c o) (by
    intro n i r2 hi ⟨f2, c2⟩
    have e0 : Gm_laysLines_14 (nI a) (nI b) (n + 1) (nI i) r2 = Bm_laysLines_14 (nI a) (nI b) (Gm_laysLines_14 (nI a) (nI b) n) (nI i) r2 := rfl
    have c4 : ¬ (40 : Int32) ≤ nI i := nI_leN (a := 40) (by omega) (by omega) (by omega)
    have z27 : ∀ (r : zRr) x y, zset r 26 x 27 y = r 27 y := fun r x y => by rw [zset_ne (by decide)]
    have z28 : ∀ (r : zRr) x z y, zset (zset r 26 x) 27 z 28 y = r 28 y := fun r x z y => by rw [zset_ne (by decide), zset_ne (by decide)]
    have y27 : ∀ (r : zRr) x, zset r 26 x 27 = r 27 := fun r x => zset_ne (by decide)
    have y28 : ∀ (r : zRr) x z, zset (zset r 26 x) 27 z 28 = r 28 := fun r x z => by rw [zset_ne (by decide), zset_ne (by decide)]
    have rd : ∀ c, 26 ≤ c → c ≤ 28 → r2 c (40 * a + i) = r c (40 * a + i) := fun c h1 h2 => by rw [c2 c _ h1 h2, if_neg (by omega)]
    rw [e0]
    unfold Bm_laysLines_14
    simp only [zletQ, zifQ, nI_1, ea, eb, nI_add, xzn (show 40 * a + i < 2 ^ 31 by omega), xzn (show 40 * b + i < 2 ^ 31 by omega), z27, z28, y27, y28, rd 26 (by omega) (by omega), rd 27 (by omega) (by omega), rd 28 (by omega) (by omega)]
    rw [if_neg c4]
    refine ⟨_, ⟨?_, fun c o h1 h2 => ?_⟩, rfl⟩
    · rw [zset_ne (by decide), zset_ne (by decide), zset_ne (by decide)]; exact f2
    · have g : ∀ c, 26 ≤ c → c ≤ 28 → upd (r2 c) (40 * b + i) (r c (40 * a + i)) o = if 40 * b ≤ o ∧ o < 40 * b + (i + 1) then r c (40 * a + (o - 40 * b)) else r c o := by
        intro c h1 h2
        by_cases e : o = 40 * b + i
        · subst e; rw [pk_us, if_pos (by omega), show 40 * a + (40 * b + i - 40 * b) = 40 * a + i by omega]
        · rw [pk_un e, c2 c o h1 h2]
          by_cases l : 40 * b ≤ o ∧ o < 40 * b + i
          · rw [if_pos l, if_pos (by omega)]
          · rw [if_neg l, if_neg (by omega)]
      rcases (show c = 26 ∨ c = 27 ∨ c = 28 by omega) with rfl | rfl | rfl
      · rw [zset_ne (by decide), zset_ne (by decide), zset_eq]; exact g 26 (by omega) (by omega)
      · rw [zset_ne (by decide), zset_eq]; exact g 27 (by omega) (by omega)
      · rw [zset_eq]; exact g 28 (by omega) (by omega)) (by
    intro n r2 ⟨f2, c2⟩
    have e0 : Gm_laysLines_14 (nI a) (nI b) (n + 1) (nI 40) r2 = Bm_laysLines_14 (nI a) (nI b) (Gm_laysLines_14 (nI a) (nI b) n) (nI 40) r2 := rfl
    have c4 : (40 : Int32) ≤ nI 40 := nI_leP (a := 40) (by omega) (by omega) (by omega)
    rw [e0]
    unfold Bm_laysLines_14
    rw [zifQ, if_pos c4]
    exact ⟨f2, c2⟩) 41 0 (zset r 25 (upd (r 25) b (r 25 a))) (by omega) (by omega) ⟨zset_eq, fun c o h1 h2 => by rw [if_neg (by omega), zset_ne (by omega)]⟩
  exact k
theorem xlaysX2 {a b : Nat} (ha : a ≤ 5) (hb : b ≤ 5) (hab : a ≠ b) : (∀ o, o ≠ b → Gm_laysLines (nI a) (nI b) r q 25 o = r 25 o) ∧ Gm_laysLines (nI a) (nI b) r q 25 b = r 25 a ∧ (∀ c i, 26 ≤ c → c ≤ 28 → i < 40 → Gm_laysLines (nI a) (nI b) r q c (40 * b + i) = r c (40 * a + i)) ∧ ∀ o c i, o ≠ b → 26 ≤ c → c ≤ 28 → i < 40 → Gm_laysLines (nI a) (nI b) r q c (40 * o + i) = r c (40 * o + i) := by
  obtain ⟨k1, k2⟩ := xlaysX (r := r) (q := q) ha hb hab
  refine ⟨fun o ho => by rw [k1, pk_un ho], by rw [k1, pk_us], fun c i c1 c2 hi => ?_, fun o c i ho c1 c2 hi => ?_⟩
  · rw [k2 c _ c1 c2, if_pos (by omega), show 40 * a + (40 * b + i - 40 * b) = 40 * a + i by omega]
  · rw [k2 c _ c1 c2, if_neg (by omega)]
/-- mark: what it leaves -/
theorem xMarkR {a b : Int32} (hp : p ≤ 6) (hM : lM r rm) (h6 : xSt t p 6 r (rm 32)) (hP : xPs t p r rm) (hR : xMr t p r rm) (hL : xPl t p 138 0 r rm) : xSt t p 6 (Gk_mark a b r q).2 ((Gm_mark a b rm qm).2 32) ∧ xPs t p (Gk_mark a b r q).2 (Gm_mark a b rm qm).2 ∧ xMr t p (Gk_mark a b r q).2 (Gm_mark a b rm qm).2 ∧ xPl t p 138 0 (Gk_mark a b r q).2 (Gm_mark a b rm qm).2 := by
  have same : xSt t p 6 r (zset rm 100 (fun _ => 0) 32) ∧ xPs t p r (zset rm 100 (fun _ => 0)) ∧ xMr t p r (zset rm 100 (fun _ => 0)) ∧ xPl t p 138 0 r (zset rm 100 (fun _ => 0)) := ⟨h6, hP, hR, hL⟩
  by_cases h0 : a < 0
  · have ek : Gk_mark a b r q = (0, r) := by
      unfold Gk_mark; rw [zifQ, if_pos h0]
    have em : Gm_mark a b rm qm = (0, zset rm 100 (fun _ => 0)) := by
      unfold Gm_mark Gm_within; simp only [zletQ, zifQ, if_pos h0, if_true]
    rw [ek, em]
    exact same
  by_cases h3 : 3 < a
  · have h4 : ¬ a < 4 := fun h => by
      rw [Int32.lt_iff_toInt_lt] at h h3
      have c3 : (3 : Int32).toInt = 3 := by decide
      have c4 : (4 : Int32).toInt = 4 := by decide
      omega
    have ek : Gk_mark a b r q = (0, r) := by
      unfold Gk_mark; simp only [zifQ, if_neg h0, if_neg h4]
    have em : Gm_mark a b rm qm = (0, zset rm 100 (fun _ => 0)) := by
      unfold Gm_mark Gm_within; simp only [zletQ, zifQ, if_neg h0, if_pos h3, if_true]
    rw [ek, em]
    exact same
  obtain ⟨k, hk, ea⟩ : ∃ k, k < 4 ∧ a = nI k := by
    have hz : zI 0 3 a := by
      rw [Int32.lt_iff_toInt_lt] at h0 h3
      have c0 : (0 : Int32).toInt = 0 := by decide
      have c3 : (3 : Int32).toInt = 3 := by decide
      exact ⟨by omega, by omega⟩
    obtain ⟨e1, e2⟩ := hz.ix (n := 4) (by decide)
    exact ⟨_, e2, e1⟩
  subst ea
  have em : Gm_mark (nI k) b rm qm = if b = 0 then Gm_mark_29 (nI k) b qm (zset rm 100 (fun _ => 0)) else if rm 37 k = 0 then (0, zset rm 100 (fun _ => 0)) else Gm_mark_29 (nI k) b qm (zset rm 100 (fun _ => 0)) := by
    unfold Gm_mark Gm_within
    simp only [zletQ, zifQ, zifnQ, if_neg h0, if_neg h3, if_neg (show ¬ (1 : Int32) = 0 by decide), xzn (show k < 2 ^ 31 by omega)]
    rfl
  have e1 : (1 : Int32) + nI k = nI (1 + k) := nI_add 1 k
  have e31 : (31 : Int32) * nI k = nI (31 * k) := nI_mulL 31 k
  rw [xmarkK hk, em]
  by_cases hb : b = 0
  · rw [if_pos hb, if_pos hb]
    unfold Gm_mark_29
    simp only [zifQ, zletQ, xzn (show k < 2 ^ 31 by omega), e1, e31, xzn (show 31 * k < 2 ^ 31 by omega), if_pos hb]
    have l := xlaysL (a := 0) (b := nI (1 + k)) (r := zset (zset rm 100 (fun _ => 0)) 37 (upd (zset rm 100 (fun _ => 0) 37) k 1)) (q := qm)
    obtain ⟨l1, l2, l3, l4⟩ := xlaysX2 (a := 0) (b := 1 + k) (r := zset (zset rm 100 (fun _ => 0)) 37 (upd (zset rm 100 (fun _ => 0) 37) k 1)) (q := qm) (by omega) (by omega) (by omega)
    rw [show nI 0 = (0 : Int32) from nI_0] at l1 l2 l3 l4
    generalize Gm_laysLines 0 (nI (1 + k)) (zset (zset rm 100 (fun _ => 0)) 37 (upd (zset rm 100 (fun _ => 0) 37) k 1)) qm = u6 at l l1 l2 l3 l4 ⊢
    obtain ⟨_, s2⟩ := xseenL (a := 0) (b := nI (1 + k)) (r := u6) (q := qm)
    generalize Gm_laysSeen 0 (nI (1 + k)) u6 qm = u8 at s2 ⊢
    have g : ∀ c, [25, 26, 27, 28, 29, 30, 31, 37, 100].contains c = false → u8 c = rm c := fun c hc => by
      have f : zFr [25, 26, 27, 28, 29, 30, 31, 37, 100] rm u8 := (((zFr.refl.set (M := [25, 26, 27, 28, 29, 30, 31, 37, 100]) (k := 100) rfl).set (k := 37) rfl).tr l (by decide)).tr s2 (by decide)
      exact f c hc
    have g37 : u8 37 = upd (rm 37) k 1 := by rw [s2 37 rfl, l 37 rfl, zset_eq]; rfl
    have g25 : ∀ o, o ≠ 1 + k → u8 25 o = rm 25 o := fun o ho => by rw [s2 25 rfl, l1 o ho]; rfl
    have g25b : u8 25 (1 + k) = rm 25 0 := by rw [s2 25 rfl, l2]; rfl
    have s26 : ∀ c, 26 ≤ c → c ≤ 28 → u8 c = u6 c := fun c c1 c2 => by
      rcases (show c = 26 ∨ c = 27 ∨ c = 28 by omega) with rfl | rfl | rfl <;> exact s2 _ rfl
    have z26 : ∀ c o, 26 ≤ c → c ≤ 28 → zset (zset rm 100 (fun _ => 0)) 37 (upd (zset rm 100 (fun _ => 0) 37) k 1) c o = rm c o := fun c o c1 c2 => by rw [zset_ne (by omega), zset_ne (by omega)]
    have g26 : ∀ c i, 26 ≤ c → c ≤ 28 → i < 40 → u8 c (40 * (1 + k) + i) = rm c (40 * 0 + i) := fun c i c1 c2 hi => by rw [s26 c c1 c2, l3 c i c1 c2 hi, z26 c _ c1 c2]
    have g26b : ∀ o c i, o ≠ 1 + k → 26 ≤ c → c ≤ 28 → i < 40 → u8 c (40 * o + i) = rm c (40 * o + i) := fun o c i ho c1 c2 hi => by rw [s26 c c1 c2, l4 o c i ho c1 c2 hi, z26 c _ c1 c2]
    clear l l1 l2 l3 l4 s2 s26 z26
    have e35 : u8 35 = rm 35 := g 35 rfl
    have e32 : u8 32 = rm 32 := g 32 rfl
    show xSt t p 6 (xLay k r) (zset u8 35 (zcp (u8 32) (u8 35) 0 (31 * k) 31) 32) ∧ xPs t p (xLay k r) (zset u8 35 (zcp (u8 32) (u8 35) 0 (31 * k) 31)) ∧ xMr t p (xLay k r) (zset u8 35 (zcp (u8 32) (u8 35) 0 (31 * k) 31)) ∧ xPl t p 138 0 (xLay k r) (zset u8 35 (zcp (u8 32) (u8 35) 0 (31 * k) 31))
    rw [e35, e32]
    have hx : ∀ a, a < 114 ∨ (138 ≤ a ∧ a < 142) ∨ 195 ≤ a → xLay k r a = r a := fun a ha => by
      unfold xLay
      rw [zset_ne (by omega), zset_ne (by omega), kcp1_o (by omega), kcp8_o (by omega)]
    refine ⟨h6.eq hp (fun i hi => hx _ (by omega)) (fun i _ => by rw [zset_ne (by decide), e32]), hP.fr hp (fun a a1 a2 => hx a (by omega)) (hx 195 (by omega)) (by rw [zset_ne (by decide)]; exact g 36 rfl) (by rw [zset_ne (by decide), g 151 rfl]), fun j hj hz => ?_, hL.fr (fun i hi => hx _ (by omega)) (by rw [zset_ne (by decide)]; exact g25 0 (by omega)) (fun c i c1 c2 hi => by rw [zset_ne (by omega)]; exact g26b 0 c i (by omega) c1 c2 hi)⟩
    by_cases e : j = k
    · subst e
      have rows8 : ∀ i, i < 6 → xLay j r (114 + 6 * j + i) = kcp8 r (114 + 6 * j) 6 (114 + 6 * j + i) := fun i hi => by
        unfold xLay
        rw [zset_ne (by omega), zset_ne (by omega), kcp1_o (by omega)]
      have rows1 : ∀ i, i < 4 → xLay j r (146 + 4 * j + i) = kcp1 (kcp8 r (114 + 6 * j) 6) (146 + 4 * j) 138 (146 + 4 * j + i) := fun i hi => by
        unfold xLay
        rw [zset_ne (by omega), zset_ne (by omega)]
      have hL8 : xPl t p 138 0 (kcp8 r (114 + 6 * j) 6) rm := hL.fr (fun i hi => kcp8_o (by omega)) rfl (fun _ _ _ _ _ => rfl)
      refine ⟨(h6.cp (n := 114 + 6 * j) hp).eq hp rows8 (fun i hi => ?_), (hL8.cp (n := 146 + 4 * j) (b := 1 + j) (rm1 := zset u8 35 (zcp (rm 32) (rm 35) 0 (31 * j) 31)) (by rw [zset_ne (by decide)]; exact g25b) (fun c i c1 c2 hi => by rw [zset_ne (by omega)]; exact g26 c i c1 c2 hi)).fr rows1 rfl (fun _ _ _ _ _ => rfl)⟩
      show zset u8 35 (zcp (rm 32) (rm 35) 0 (31 * j) 31) 35 (31 * j + i) = rm 32 i
      rw [zset_eq]
      show (if 31 * j ≤ 31 * j + i ∧ 31 * j + i < 31 * j + 31 then rm 32 (0 + (31 * j + i - 31 * j)) else rm 35 (31 * j + i)) = _
      rw [if_pos (by omega), show 0 + (31 * j + i - 31 * j) = i by omega]
    · have hz : ¬ rm 37 j = 0 := by
        have hz2 : ¬ u8 37 j = 0 := hz
        rw [g37, pk_un e] at hz2; exact hz2
      obtain ⟨q1, q2⟩ := hR j hj hz
      have rows8 : ∀ i, i < 6 → xLay k r (114 + 6 * j + i) = r (114 + 6 * j + i) := fun i hi => by
        unfold xLay
        rw [zset_ne (by omega), zset_ne (by omega), kcp1_o (by omega), kcp8_o (by omega)]
      have rows1 : ∀ i, i < 4 → xLay k r (146 + 4 * j + i) = r (146 + 4 * j + i) := fun i hi => by
        unfold xLay
        rw [zset_ne (by omega), zset_ne (by omega), kcp1_o (by omega), kcp8_o (by omega)]
      refine ⟨q1.eq hp rows8 (fun i hi => ?_), q2.fr rows1 (by rw [zset_ne (by decide)]; exact g25 _ (by omega)) (fun c i c1 c2 hi => by rw [zset_ne (by omega)]; exact g26b _ c i (by omega) c1 c2 hi)⟩
      show zset u8 35 (zcp (rm 32) (rm 35) 0 (31 * k) 31) 35 (31 * j + i) = rm 35 (31 * j + i)
      rw [zset_eq]
      show (if 31 * k ≤ 31 * j + i ∧ 31 * j + i < 31 * k + 31 then rm 32 (0 + (31 * j + i - 31 * k)) else rm 35 (31 * j + i)) = _
      rw [if_neg (by omega)]
  · rw [if_neg hb, if_neg hb, (hM k hk).1]
    by_cases hz : rm 37 k = 0
    · rw [if_pos hz, if_pos hz]
      exact same
    · rw [if_neg hz, if_neg hz]
      unfold Gm_mark_29
      simp only [zifQ, zletQ, xzn (show k < 2 ^ 31 by omega), e1, e31, xzn (show 31 * k < 2 ^ 31 by omega), if_neg hb]
      have l := xlaysL (a := nI (1 + k)) (b := 0) (r := zset (zset rm 100 (fun _ => 0)) 37 (upd (zset rm 100 (fun _ => 0) 37) k 1)) (q := qm)
      obtain ⟨l1, l2, l3, l4⟩ := xlaysX2 (a := 1 + k) (b := 0) (r := zset (zset rm 100 (fun _ => 0)) 37 (upd (zset rm 100 (fun _ => 0) 37) k 1)) (q := qm) (by omega) (by omega) (by omega)
      rw [show nI 0 = (0 : Int32) from nI_0] at l1 l2 l3 l4
      generalize Gm_laysLines (nI (1 + k)) 0 (zset (zset rm 100 (fun _ => 0)) 37 (upd (zset rm 100 (fun _ => 0) 37) k 1)) qm = u6 at l l1 l2 l3 l4 ⊢
      obtain ⟨_, s2⟩ := xseenL (a := nI (1 + k)) (b := 0) (r := u6) (q := qm)
      generalize Gm_laysSeen (nI (1 + k)) 0 u6 qm = u8 at s2 ⊢
      have g : ∀ c, [25, 26, 27, 28, 29, 30, 31, 37, 100].contains c = false → u8 c = rm c := fun c hc => by
        have f : zFr [25, 26, 27, 28, 29, 30, 31, 37, 100] rm u8 := (((zFr.refl.set (M := [25, 26, 27, 28, 29, 30, 31, 37, 100]) (k := 100) rfl).set (k := 37) rfl).tr l (by decide)).tr s2 (by decide)
        exact f c hc
      have g37 : u8 37 = upd (rm 37) k 1 := by rw [s2 37 rfl, l 37 rfl, zset_eq]; rfl
      have g25 : ∀ o, o ≠ 0 → u8 25 o = rm 25 o := fun o ho => by rw [s2 25 rfl, l1 o ho]; rfl
      have g25b : u8 25 0 = rm 25 (1 + k) := by rw [s2 25 rfl, l2]; rfl
      have s26 : ∀ c, 26 ≤ c → c ≤ 28 → u8 c = u6 c := fun c c1 c2 => by
        rcases (show c = 26 ∨ c = 27 ∨ c = 28 by omega) with rfl | rfl | rfl <;> exact s2 _ rfl
      have z26 : ∀ c o, 26 ≤ c → c ≤ 28 → zset (zset rm 100 (fun _ => 0)) 37 (upd (zset rm 100 (fun _ => 0) 37) k 1) c o = rm c o := fun c o c1 c2 => by rw [zset_ne (by omega), zset_ne (by omega)]
      have g26 : ∀ c i, 26 ≤ c → c ≤ 28 → i < 40 → u8 c (40 * 0 + i) = rm c (40 * (1 + k) + i) := fun c i c1 c2 hi => by rw [s26 c c1 c2, l3 c i c1 c2 hi, z26 c _ c1 c2]
      have g26b : ∀ o c i, o ≠ 0 → 26 ≤ c → c ≤ 28 → i < 40 → u8 c (40 * o + i) = rm c (40 * o + i) := fun o c i ho c1 c2 hi => by rw [s26 c c1 c2, l4 o c i ho c1 c2 hi, z26 c _ c1 c2]
      clear l l1 l2 l3 l4 s2 s26 z26
      have e35 : u8 35 = rm 35 := g 35 rfl
      have e32 : u8 32 = rm 32 := g 32 rfl
      obtain ⟨q1, q2⟩ := hR k hk hz
      show xSt t p 6 (xBack k r q) (zset (zset u8 32 (zcp (u8 35) (u8 32) (31 * k) 0 31)) 151 (fun _ => 0) 32) ∧ xPs t p (xBack k r q) (zset (zset u8 32 (zcp (u8 35) (u8 32) (31 * k) 0 31)) 151 (fun _ => 0)) ∧ xMr t p (xBack k r q) (zset (zset u8 32 (zcp (u8 35) (u8 32) (31 * k) 0 31)) 151 (fun _ => 0)) ∧ xPl t p 138 0 (xBack k r q) (zset (zset u8 32 (zcp (u8 35) (u8 32) (31 * k) 0 31)) 151 (fun _ => 0))
      rw [e35, e32]
      have hx : ∀ a, a ≠ 195 → a ≠ 162 → xBack k r q a = kcp1 (kcp8 r 6 (114 + 6 * k)) 138 (146 + 4 * k) a := fun a a1 a2 => by
        unfold xBack Gk_forgetPast
        simp only [zletQ]
        rw [zset_ne a1, zset_ne a1, zset_ne a2]
      have h13 : xBack k r q 195 13 = 0 ∧ xBack k r q 195 14 = 0 := by
        unfold xBack Gk_forgetPast
        simp only [zletQ]
        rw [zset_eq]
        refine ⟨?_, pk_us⟩
        rw [pk_un (by decide), zset_eq, pk_us]
      have q2' : xPl t p (146 + 4 * k) (1 + k) (kcp8 r 6 (114 + 6 * k)) rm := q2.fr (fun i hi => kcp8_o (by omega)) rfl (fun _ _ _ _ _ => rfl)
      refine ⟨(q1.cp (n := 6) hp).eq hp (fun i hi => by rw [hx _ (by omega) (by omega), kcp1_o (by omega)]) (fun i hi => ?_), xPs.nil h13.1 h13.2 (by rw [zset_eq]), fun j hj hz2 => ?_, (q2'.cp (n := 138) (b := 0) (rm1 := zset (zset u8 32 (zcp (rm 35) (rm 32) (31 * k) 0 31)) 151 (fun _ => 0)) (by rw [zset_ne (by decide), zset_ne (by decide)]; exact g25b) (fun c i c1 c2 hi => by rw [zset_ne (by omega), zset_ne (by omega)]; exact g26 c i c1 c2 hi)).fr (fun i hi => hx _ (by omega) (by omega)) rfl (fun _ _ _ _ _ => rfl)⟩
      · show zset (zset u8 32 (zcp (rm 35) (rm 32) (31 * k) 0 31)) 151 (fun _ => 0) 32 i = rm 35 (31 * k + i)
        rw [zset_ne (by decide), zset_eq]
        show (if 0 ≤ i ∧ i < 0 + 31 then rm 35 (31 * k + (i - 0)) else rm 32 i) = _
        rw [if_pos (by omega), show i - 0 = i by omega]
      · have hz3 : ¬ rm 37 j = 0 := by
          by_cases e : j = k
          · subst e; exact hz
          · have hz2 : ¬ u8 37 j = 0 := hz2
            rw [g37, pk_un e] at hz2; exact hz2
        obtain ⟨p1, p2⟩ := hR j hj hz3
        refine ⟨p1.eq hp (fun i hi => by rw [hx _ (by omega) (by omega), kcp1_o (by omega), kcp8_o (by omega)]) (fun i hi => ?_), p2.fr (fun i hi => by rw [hx _ (by omega) (by omega), kcp1_o (by omega), kcp8_o (by omega)]) (by rw [zset_ne (by decide), zset_ne (by decide)]; exact g25 _ (by omega)) (fun c i c1 c2 hi => by rw [zset_ne (by omega), zset_ne (by omega)]; exact g26b _ c i (by omega) c1 c2 hi)⟩
        show zset (zset u8 32 (zcp (rm 35) (rm 32) (31 * k) 0 31)) 151 (fun _ => 0) 35 (31 * j + i) = rm 35 (31 * j + i)
        rw [zset_ne (by decide), zset_ne (by decide), e35]
end XPL
end
section
/-! ===== what is asked leaves the reference's standing as it was ===== -/
noncomputable def zRs (r r1 : zRr) : Prop := ∀ i, i < 31 → r1 32 i = r 32 i
theorem zcp0 {f g : Nat → Int32} {i : Nat} (h : i < 31) : zcp f g 0 0 31 i = f i := by
  show (if 0 ≤ i ∧ i < 0 + 31 then f (0 + (i - 0)) else g i) = f i
  rw [if_pos (by omega), show 0 + (i - 0) = i by omega]
theorem zbk {v : Int32} {r : zRr} {f g : Nat → Int32} {i : Nat} (h : i < 31) : ((v, zset r 32 (zcp f g 0 0 31)) : Int32 × zRr).2 32 i = f i := by
  show zset r 32 (zcp f g 0 0 31) 32 i = f i
  rw [zset_eq]; exact zcp0 h
theorem zbk3 {v : Int32} {r : zRr} {q : zRq} {f g : Nat → Int32} {i : Nat} (h : i < 31) : ((v, zset r 32 (zcp f g 0 0 31), q) : Int32 × zRr × zRq).2.1 32 i = f i := by
  show zset r 32 (zcp f g 0 0 31) 32 i = f i
  rw [zset_eq]; exact zcp0 h
theorem zRs.refl {r : zRr} : zRs r r := fun _ _ => rfl
theorem zRs.tr {r r1 r2 : zRr} (h : zRs r r1) (k : zRs r1 r2) : zRs r r2 := fun i hi => (k i hi).trans (h i hi)
theorem xPersI {a : Int32} {p : Nat} {r : zRr} {q : zRq} (h : ¬ Gm_isPerson a r q = 0) (h1 : r 1 1 = nI p) (hp : p ≤ 6) : ∃ j, j < p ∧ a = nI j := by
  unfold Gm_isPerson at h
  simp only [zifQ, zletQ, h1] at h
  by_cases c : a < 0
  · rw [if_pos c] at h; exact absurd rfl h
  · rw [if_neg c] at h
    by_cases d : nI p ≤ a
    · rw [if_pos d] at h; exact absurd rfl h
    · have hz : zI 0 (p - 1) a := by
        rw [Int32.lt_iff_toInt_lt] at c
        rw [Int32.le_iff_toInt_le, nI_toInt (by omega)] at d
        have c0 : (0 : Int32).toInt = 0 := by decide
        exact ⟨by omega, by omega⟩
      by_cases p0 : p = 0
      · subst p0
        exact absurd hz.2 (by have := hz.1; omega)
      · obtain ⟨e1, e2⟩ := hz.ix (n := p) (by omega)
        exact ⟨_, e2, e1⟩
theorem xTownI {a : Int32} {t : Nat} {r : zRr} {q : zRq} (h : ¬ Gm_isTown a r q = 0) (h1 : r 1 0 = nI t) (hp : t ≤ 6) : ∃ j, j < t ∧ a = nI j := by
  unfold Gm_isTown at h
  simp only [zifQ, zletQ, h1] at h
  by_cases c : a < 0
  · rw [if_pos c] at h; exact absurd rfl h
  · rw [if_neg c] at h
    by_cases d : nI t ≤ a
    · rw [if_pos d] at h; exact absurd rfl h
    · have hz : zI 0 (t - 1) a := by
        rw [Int32.lt_iff_toInt_lt] at c
        rw [Int32.le_iff_toInt_le, nI_toInt (by omega)] at d
        have c0 : (0 : Int32).toInt = 0 := by decide
        exact ⟨by omega, by omega⟩
      by_cases p0 : t = 0
      · subst p0
        exact absurd hz.2 (by have := hz.1; omega)
      · obtain ⟨e1, e2⟩ := hz.ix (n := t) (by omega)
        exact ⟨_, e2, e1⟩
section XRS
variable {a1 a2 a3 : Int32} {q : zRq}
theorem rs_whenAt_32 : ∀ (n : Nat) (v : Int32) (k : Nat) (r : zRr), k ≤ 100 → 100 < n + k → ∀ i, i < 31 → (Gm_whenAt_32 a1 a2 q n v (nI k) r).2 32 i = r 34 i := by
  intro n
  induction n with
  | zero => intro v k r h1 h2; omega
  | succ n ih =>
    intro v k r h1 h2 i hi
    have e0 : Gm_whenAt_32 a1 a2 q (n + 1) v (nI k) r = Bm_whenAt_32 a1 a2 q (Gm_whenAt_32 a1 a2 q n) v (nI k) r := rfl
    have e64 : (Gm_whenAt_64 (nI k) r).2 32 i = r 34 i := by
      unfold Gm_whenAt_64
      simp only [zletQ, zifQ]
      split
      · exact zbk hi
      · exact zbk hi
    rw [e0]
    unfold Bm_whenAt_32
    simp only [zletQ, zifQ, zifnQ, nI_1]
    by_cases c : (100 : Int32) ≤ nI k
    · rw [if_pos c]; exact e64
    · rw [if_neg c]
      have hk : k < 100 := by
        rcases Nat.lt_or_ge k 100 with h | h
        · exact h
        · exact absurd (nI_leP (a := 100) h (by omega) (by omega)) c
      by_cases d : (v >>> (a2 &&& 31)) &&& 1 = 0
      · rw [if_pos d, zc_vrQ, ih _ (k + 1) _ (by omega) (by omega) i hi, fm_reachFrom 34 rfl, fm_passes 34 rfl]
      · rw [if_neg d]; exact e64
theorem rs_whenAt {r : zRr} : zRs r (Gm_whenAt a1 a2 r q).2 := by
  intro i hi
  unfold Gm_whenAt
  simp only [zletQ]
  rw [zc_vrQ]
  have k := rs_whenAt_32 (a1 := a1) (a2 := a2) (q := q) 101 (Gm_reachFrom a1 (1 <<< ((zset r 34 (zcp (r 32) (r 34) 0 0 31)) 32 (zn (1 + a1)) &&& 31)) (zset r 34 (zcp (r 32) (r 34) 0 0 31)) q).1 0 (Gm_reachFrom a1 (1 <<< ((zset r 34 (zcp (r 32) (r 34) 0 0 31)) 32 (zn (1 + a1)) &&& 31)) (zset r 34 (zcp (r 32) (r 34) 0 0 31)) q).2 (by omega) (by omega) i hi
  rw [nI_0] at k
  rw [k, fm_reachFrom 34 rfl, zset_eq]
  exact zcp0 hi
theorem rs_needOf_46 : ∀ (n : Nat) (mo f : Int32) (k : Nat) (r : zRr), mo.toInt ≤ 20 → k ≤ 21 → 21 < n + k → ∀ i, i < 31 → (Gm_needOf_46 a1 a2 q n mo f (nI k) r).2 32 i = r 34 i := by
  intro n
  induction n with
  | zero => intro mo f k r h0 h1 h2; omega
  | succ n ih =>
    intro mo f k r h0 h1 h2 i hi
    have e0 : Gm_needOf_46 a1 a2 q (n + 1) mo f (nI k) r = Bm_needOf_46 a1 a2 q (Gm_needOf_46 a1 a2 q n) mo f (nI k) r := rfl
    have e64 : (Gm_needOf_103 f r).2 32 i = r 34 i := by
      unfold Gm_needOf_103
      simp only [zletQ]
      rw [zset_eq]; exact zcp0 hi
    rw [e0]
    unfold Bm_needOf_46 Gm_needOf_84
    simp only [zletQ, zifQ, zifnQ, nI_1]
    by_cases c : mo < nI k
    · rw [if_pos c]; exact e64
    · rw [if_neg c]
      have hk : k < 21 := by
        rw [Int32.lt_iff_toInt_lt, nI_toInt (by omega)] at c
        omega
      by_cases d : (0 : Int32) ≤ f
      · rw [if_pos d]; exact e64
      · rw [if_neg d, zc_vrQ]
        split
        · rw [ih _ _ (k + 1) _ h0 (by omega) (by omega) i hi, zset_ne (by decide), fm_reachFrom 34 rfl]
        · rw [ih _ _ (k + 1) _ h0 (by omega) (by omega) i hi, zset_ne (by decide), fm_reachFrom 34 rfl]
theorem rs_needOf {j : Nat} {r : zRr} (hj : j < 6) (hf : ∀ j, j < 6 → zI 0 20 (r 32 (13 + j))) : zRs r (Gm_needOf (nI j) a2 r q).2 := by
  intro i hi
  have n13 : (13 : Int32) + nI j = nI (13 + j) := nI_add 13 j
  have z := hf j hj
  have c20 : (20 : Int32).toInt = 20 := by decide
  have hb : (20 - r 32 (13 + j)).toInt ≤ 20 := by
    rw [Jvm.Kit.i32_sub (by rw [c20]; have := z.1; have := z.2; omega) (by rw [c20]; have := z.1; have := z.2; omega), c20]
    have := z.1
    omega
  unfold Gm_needOf Gm_needOf_39
  simp only [zletQ, zifnQ, n13, xzn (show 13 + j < 2 ^ 31 by omega)]
  have e13 : zset r 34 (zcp (r 32) (r 34) 0 0 31) 32 (13 + j) = r 32 (13 + j) := by rw [zset_ne (by decide)]
  rw [e13]
  split
  · have k := rs_needOf_46 (a1 := nI j) (a2 := a2) (q := q) 22 0 (-1) 0 (zset r 34 (zcp (r 32) (r 34) 0 0 31)) (by decide) (by omega) (by omega) i hi
    rw [nI_0] at k
    rw [k, zset_eq]; exact zcp0 hi
  · have k := rs_needOf_46 (a1 := nI j) (a2 := a2) (q := q) 22 (20 - r 32 (13 + j)) (-1) 0 (zset r 34 (zcp (r 32) (r 34) 0 0 31)) hb (by omega) (by omega) i hi
    rw [nI_0] at k
    rw [k, zset_eq]; exact zcp0 hi
theorem rs_round_79 : ∀ (n k : Nat) (r : zRr), k ≤ 100 → 100 < n + k → ∀ i, i < 31 → (Gm_round_79 a1 q n (nI k) r).2 32 i = r 34 i := by
  intro n
  induction n with
  | zero => intro k r h1 h2; omega
  | succ n ih =>
    intro k r h1 h2 i hi
    have e0 : Gm_round_79 a1 q (n + 1) (nI k) r = Bm_round_79 a1 q (Gm_round_79 a1 q n) (nI k) r := rfl
    have e64 : ∀ r, (Gm_round_103 (nI k) r).2 32 i = r 34 i := by
      intro r
      unfold Gm_round_103
      simp only [zletQ, zifQ]
      split
      · exact zbk hi
      · exact zbk hi
    rw [e0]
    unfold Bm_round_79
    simp only [zletQ, zifQ, zifnQ, nI_1]
    by_cases c : (100 : Int32) ≤ nI k
    · rw [if_pos c]; exact e64 r
    · rw [if_neg c, zc_vrQ]
      have hk : k < 100 := by
        rcases Nat.lt_or_ge k 100 with h | h
        · exact h
        · exact absurd (nI_leP (a := 100) h (by omega) (by omega)) c
      split
      · rw [ih (k + 1) _ (by omega) (by omega) i hi, fm_passes 34 rfl, fm_roams 34 rfl]
      · rw [e64, fm_roams 34 rfl]
theorem rs_round_30 : ∀ (n k : Nat) (r : zRr), k ≤ 384 → 384 < n + k → ∀ i, i < 31 → (Gm_round_30 a1 q n (nI k) r).2 32 i = r 34 i := by
  intro n
  induction n with
  | zero => intro k r h1 h2; omega
  | succ n ih =>
    intro k r h1 h2 i hi
    have e0 : Gm_round_30 a1 q (n + 1) (nI k) r = Bm_round_30 a1 q (Gm_round_30 a1 q n) (nI k) r := rfl
    rw [e0]
    unfold Bm_round_30
    simp only [zletQ, zifQ, nI_1]
    by_cases c : (384 : Int32) ≤ nI k
    · rw [if_pos c]
      have k9 := rs_round_79 (a1 := a1) (q := q) 101 0 (zset r 38 (upd (r 38) (zn (64 * r 32 (zn (1 + a1)) + r 32 (zn (25 + a1)))) 1)) (by omega) (by omega) i hi
      rw [nI_0] at k9
      rw [k9, zset_ne (by decide)]
    · rw [if_neg c]
      have hk : k < 384 := by
        rcases Nat.lt_or_ge k 384 with h | h
        · exact h
        · exact absurd (nI_leP (a := 384) h (by omega) (by omega)) c
      rw [ih (k + 1) _ (by omega) (by omega) i hi, zset_ne (by decide)]
theorem rs_judged_49 : ∀ (n : Nat) (v2 v3 v4 : Int32) (k m : Nat) (r : zRr), r 25 0 = nI m → m ≤ 40 → k ≤ m → m < n + k → ∀ i, i < 31 → (Gm_judged_49 a1 q n v2 v3 v4 (nI k) r).2 32 i = r 33 i := by
  intro n
  induction n with
  | zero => intro v2 v3 v4 k m r h0 h1 h2 h3; omega
  | succ n ih =>
    intro v2 v3 v4 k m r h0 h1 h2 h3 i hi
    have e0 : Gm_judged_49 a1 q (n + 1) v2 v3 v4 (nI k) r = Bm_judged_49 a1 q (Gm_judged_49 a1 q n) v2 v3 v4 (nI k) r := rfl
    rw [e0]
    unfold Bm_judged_49 Gm_judged_80 Gm_judged_123
    simp only [zletQ, zifQ, zifnQ, nI_1, h0]
    by_cases c : nI m ≤ nI k
    · rw [if_pos c]
      repeat' split
      all_goals first | exact zbk hi | exact zbk3 hi
    · rw [if_neg c, zc_vrQ]
      have hk : k < m := by
        rcases Nat.lt_or_ge k m with h | h
        · exact h
        · exact absurd (nI_leP h (by omega) (by omega)) c
      have f := fm_follows (a1 := nI k) (r := r) (q := q)
      generalize Gm_follows (nI k) r q = o at f ⊢
      have g : ∀ v2 v3 v4, (Gm_judged_49 a1 q n v2 v3 v4 (nI (k + 1)) o.2).2 32 i = r 33 i := fun v2 v3 v4 => by
        rw [ih v2 v3 v4 (k + 1) m o.2 (by rw [f 25 rfl]; exact h0) h1 (by omega) (by omega) i hi, f 33 rfl]
      repeat' split
      all_goals exact g _ _ _
theorem rs_years_69 : ∀ (n k m : Nat) (r : zRr) (q : zRq), m ≤ 99 → k ≤ m → m < n + k → ∀ i, i < 31 → (Gm_years_69 (nI m) a3 n (nI k) r q).2.1 32 i = r 33 i := by
  intro n
  induction n with
  | zero => intro k m r q h1 h2 h3; omega
  | succ n ih =>
    intro k m r q h1 h2 h3 i hi
    have e0 : Gm_years_69 (nI m) a3 (n + 1) (nI k) r q = Bm_years_69 (nI m) a3 (Gm_years_69 (nI m) a3 n) (nI k) r q := rfl
    rw [e0]
    unfold Bm_years_69
    simp only [zletQ, zifQ, zifnQ, nI_1]
    by_cases c : nI m ≤ nI k
    · rw [if_pos c]
      repeat' split
      all_goals first | exact zbk hi | exact zbk3 hi
    · rw [if_neg c, zc_rqQ]
      have hk : k < m := by
        rcases Nat.lt_or_ge k m with h | h
        · exact h
        · exact absurd (nI_leP h (by omega) (by omega)) c
      rw [ih (k + 1) m _ _ h1 (by omega) (by omega) i hi, fm_livesWeek 33 rfl]
end XRS
section XRM
variable {a1 a2 a3 : Int32} {p t m : Nat} {r : zRr} {q : zRq}
theorem z100 : zRs r (zset r 100 (fun _ => 0)) := fun i _ => by rw [zset_ne (by decide)]
theorem rs_when : zRs r (Gm_when a1 a2 r q).2 := by
  unfold Gm_when
  simp only [zletQ, zifQ, zc_vrQ]
  repeat' split
  all_goals first | exact z100 | exact z100.tr rs_whenAt
theorem rs_shaven : zRs r (Gm_shaven a1 r q).2 := by
  unfold Gm_shaven
  simp only [zletQ, zifnQ, zc_vrQ]
  split
  · exact z100
  · intro i hi
    refine (zbk hi).trans ?_
    rw [fm_reachFrom 34 rfl, fm_shaves 34 rfl, zset_eq, zcp0 hi, zset_ne (by decide)]
theorem rs_round : zRs r (Gm_round a1 r q).2 := by
  unfold Gm_round
  simp only [zletQ, zifnQ]
  split
  · exact z100
  · intro i hi
    have k := rs_round_30 (a1 := a1) (q := q) 385 0 (zset (zset r 100 (fun _ => 0)) 34 (zcp (zset r 100 (fun _ => 0) 32) (zset r 100 (fun _ => 0) 34) 0 0 31)) (by omega) (by omega) i hi
    rw [nI_0] at k
    rw [k, zset_eq, zcp0 hi, zset_ne (by decide)]
theorem rs_judged (h25 : r 25 0 = nI m) (hm : m ≤ 40) (h1 : r 1 1 = nI p) (hp : p ≤ 6) : zRs r (Gm_judged a1 r q).2 := by
  unfold Gm_judged
  simp only [zletQ, zifnQ]
  split
  · exact z100
  · intro i hi
    have f := xfresh (p := p) (r := zset (zset r 100 (fun _ => 0)) 33 (zcp (zset r 100 (fun _ => 0) 32) (zset r 100 (fun _ => 0) 33) 0 0 31)) (q := q) h1 hp
    have k := rs_judged_49 (a1 := a1) (q := q) 41 (Gm_allOf 19 (Gm_fresh0 (zset (zset r 100 (fun _ => 0)) 33 (zcp (zset r 100 (fun _ => 0) 32) (zset r 100 (fun _ => 0) 33) 0 0 31)) q) q) (-1) (-1) 0 m (Gm_fresh0 (zset (zset r 100 (fun _ => 0)) 33 (zcp (zset r 100 (fun _ => 0) 32) (zset r 100 (fun _ => 0) 33) 0 0 31)) q) (by rw [f 25 rfl]; exact h25) hm (by omega) (by omega) i hi
    rw [nI_0] at k
    rw [k, f 33 rfl, zset_eq, zcp0 hi, zset_ne (by decide)]
theorem rs_years : zRs r (Gm_years a1 a2 a3 r q).2.1 := by
  unfold Gm_years
  simp only [zletQ, zifQ, zifnQ]
  split
  · exact z100
  · split
    · exact z100
    · split
      · exact z100
      · rename_i _ h2 _
        have h2 : ¬ Gm_within a2 1 99 = 0 := h2
        obtain ⟨m, hm, e2⟩ : ∃ m, m ≤ 99 ∧ a2 = nI m := by
          unfold Gm_within at h2
          simp only [zifQ] at h2
          by_cases c : a2 < 1
          · rw [if_pos c] at h2; exact absurd rfl h2
          · rw [if_neg c] at h2
            by_cases d : 99 < a2
            · rw [if_pos d] at h2; exact absurd rfl h2
            · have hz : zI 0 99 a2 := by
                rw [Int32.lt_iff_toInt_lt] at c d
                have c1 : (1 : Int32).toInt = 1 := by decide
                have c9 : (99 : Int32).toInt = 99 := by decide
                exact ⟨by omega, by omega⟩
              obtain ⟨e1, e2⟩ := hz.ix (n := 100) (by decide)
              exact ⟨_, by omega, e1⟩
        subst e2
        intro i hi
        have k := rs_years_69 (a3 := a3) 100 0 m (zset (zset (zset (zset r 100 (fun _ => 0)) 155 (fun _ => 0)) 156 (fun _ => 0)) 33 (zcp (zset (zset (zset r 100 (fun _ => 0)) 155 (fun _ => 0)) 156 (fun _ => 0) 32) (zset (zset (zset r 100 (fun _ => 0)) 155 (fun _ => 0)) 156 (fun _ => 0) 33) 0 0 31)) (zset q 154 (fun _ => a1.toInt64)) hm (by omega) (by omega) i hi
        rw [nI_0] at k
        rw [k, zset_eq, zcp0 hi, zset_ne (by decide), zset_ne (by decide), zset_ne (by decide)]
theorem rs_need (h1 : r 1 1 = nI p) (hp : p ≤ 6) (hf : ∀ j, j < 6 → zI 0 20 (r 32 (13 + j))) : zRs r (Gm_need a1 a2 r q).2 := by
  unfold Gm_need
  simp only [zletQ, zifQ, zc_vrQ]
  split
  · exact z100
  · rename_i h
    split
    · exact z100
    · obtain ⟨j, hj, ea⟩ := xPersI (p := p) h h1 hp
      rw [ea]
      exact z100.tr (rs_needOf (by omega) (fun j hj => hf j hj))
theorem rs_debt (h1 : r 1 1 = nI p) (hp : p ≤ 6) (hf : ∀ j, j < 6 → zI 0 20 (r 32 (13 + j))) : zRs r (Gm_debt a1 a2 r q).2 := by
  unfold Gm_debt
  simp only [zletQ, zifQ, zc_vrQ]
  split
  · exact z100
  · rename_i h
    split
    · exact z100
    · obtain ⟨j, hj, ea⟩ := xPersI (p := p) h h1 hp
      rw [ea]
      have k := (z100 (r := r)).tr (rs_needOf (a2 := a2) (q := q) (j := j) (by omega) (fun j hj => hf j hj))
      split
      · exact k
      · exact k
theorem rs_cheapest_22 {j : Nat} (hj : j < 6) : ∀ (n : Nat) (v w x : Int32) (r : zRr), (∀ j, j < 6 → zI 0 20 (r 32 (13 + j))) → zRs r (Gm_cheapest_22 (nI j) q n v w x r).2 := by
  intro n
  induction n with
  | zero => intro v w x r _; exact zRs.refl
  | succ n ih =>
    intro v w x r hf
    have e0 : Gm_cheapest_22 (nI j) q (n + 1) v w x r = Bm_cheapest_22 (nI j) q (Gm_cheapest_22 (nI j) q n) v w x r := rfl
    rw [e0]
    unfold Bm_cheapest_22 Gm_cheapest_60 Gm_cheapest_66
    simp only [zletQ, zifQ]
    split
    · exact zRs.refl
    · rw [zc_vrQ]
      have k := rs_needOf (a2 := x) (q := q) hj hf
      generalize Gm_needOf (nI j) x r q = o at k ⊢
      have g : ∀ v w x, zRs r (Gm_cheapest_22 (nI j) q n v w x o.2).2 := fun v w x => k.tr (ih v w x o.2 (fun i hi => by rw [k (13 + i) (by omega)]; exact hf i hi))
      repeat' split
      all_goals exact g _ _ _
theorem rs_cheapest (h1 : r 1 1 = nI p) (hp : p ≤ 6) (hf : ∀ j, j < 6 → zI 0 20 (r 32 (13 + j))) : zRs r (Gm_cheapest a1 r q).2 := by
  unfold Gm_cheapest
  simp only [zletQ, zifnQ]
  split
  · exact z100
  · rename_i h
    obtain ⟨j, hj, ea⟩ := xPersI (p := p) h h1 hp
    rw [ea]
    exact z100.tr (rs_cheapest_22 (by omega) 7 _ _ _ _ (fun j hj => hf j hj))
theorem rs_meetsAt_4 : ∀ (n : Nat) (v w : Int32) (r : zRr), zRs r (Gm_meetsAt_4 a1 q n v w r).2 := by
  intro n
  induction n with
  | zero => intro v w r; exact zRs.refl
  | succ n ih =>
    intro v w r
    have e0 : Gm_meetsAt_4 a1 q (n + 1) v w r = Bm_meetsAt_4 a1 q (Gm_meetsAt_4 a1 q n) v w r := rfl
    rw [e0]
    unfold Bm_meetsAt_4
    simp only [zletQ, zifQ]
    split
    · exact zRs.refl
    · rw [zc_vrQ]
      have k := rs_whenAt (a1 := w) (a2 := a1) (q := q) (r := r)
      split
      · exact k.tr (ih _ _ _)
      · exact k
theorem rs_meeting_23 : ∀ (n : Nat) (v w x : Int32) (r : zRr), zRs r (Gm_meeting_23 a1 q n v w x r).2 := by
  intro n
  induction n with
  | zero => intro v w x r; exact zRs.refl
  | succ n ih =>
    intro v w x r
    have e0 : Gm_meeting_23 a1 q (n + 1) v w x r = Bm_meeting_23 a1 q (Gm_meeting_23 a1 q n) v w x r := rfl
    rw [e0]
    unfold Bm_meeting_23 Gm_meeting_60 Gm_meeting_66
    simp only [zletQ, zifQ, zifnQ]
    split
    · split
      · exact zRs.refl
      · exact zRs.refl
    · rw [zc_vrQ]
      have k : zRs r (Gm_meetsAt x r q).2 := by
        unfold Gm_meetsAt
        exact rs_meetsAt_4 7 0 0 r
      generalize Gm_meetsAt x r q = o at k ⊢
      have g : ∀ v w x, zRs r (Gm_meeting_23 a1 q n v w x o.2).2 := fun v w x => k.tr (ih v w x o.2)
      repeat' split
      all_goals exact g _ _ _
theorem rs_meeting : zRs r (Gm_meeting a1 r q).2 := by
  unfold Gm_meeting
  simp only [zletQ, zifnQ]
  split
  · exact z100
  · exact z100.tr (rs_meeting_23 7 _ _ _ _)
theorem rs_stricter_35 : ∀ (n : Nat) (v : Int32) (k : Nat) (r : zRr), r 1 1 = nI p → p ≤ 6 → k ≤ p → p < n + k → (Gm_stricter_35 a1 q n v (nI k) r).2 152 0 = 0 := by
  intro n
  induction n with
  | zero => intro v k r h1 h2 h3 h4; omega
  | succ n ih =>
    intro v k r h1 h2 h3 h4
    have e0 : Gm_stricter_35 a1 q (n + 1) v (nI k) r = Bm_stricter_35 a1 q (Gm_stricter_35 a1 q n) v (nI k) r := rfl
    rw [e0]
    unfold Bm_stricter_35
    simp only [zletQ, zifQ, nI_1, h1]
    by_cases c : nI p ≤ nI k
    · rw [if_pos c]
      show zset r 152 (fun _ => 0) 152 0 = 0
      rw [zset_eq]
    · rw [if_neg c, zc_vrQ]
      have hk : k < p := by
        rcases Nat.lt_or_ge k p with h | h
        · exact h
        · exact absurd (nI_leP h (by omega) (by omega)) c
      exact ih _ (k + 1) _ (by rw [fm_reachFrom 1 rfl]; exact h1) h2 (by omega) (by omega)
theorem rs_stricter (h0 : r 152 0 = 0) (h1 : r 1 1 = nI p) (hp : p ≤ 6) : (Gm_stricter a1 a2 r q).2 152 0 = 0 := by
  unfold Gm_stricter
  simp only [zletQ, zifQ, zifnQ]
  split
  · show zset r 100 (fun _ => 0) 152 0 = 0
    rw [zset_ne (by decide)]; exact h0
  · split
    · show zset r 100 (fun _ => 0) 152 0 = 0
      rw [zset_ne (by decide)]; exact h0
    · have k := rs_stricter_35 (a1 := a1) (q := q) (p := p) 7 0 0 (zset (zset r 100 (fun _ => 0)) 152 (fun _ => a2)) h1 hp (by omega) (by omega)
      rw [nI_0] at k
      exact k
end XRM
end
