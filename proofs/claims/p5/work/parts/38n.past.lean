/-! ===== how it is: begun anew; what can be undone ===== -/
theorem nI_mulL (a b : Nat) : nI a * nI b = nI (a * b) := (Int32.ofNat_mul a b).symm
section XBG
variable {Lf : xLT} {t p : Nat} {E S : Nat → Nat → Int32} {mo : Int32} {r : zRr} {q : zRq}
theorem mBg23 (hE : xMe Lf t p E mo r) (hH : xMh t p E r) (h0 : ∀ o, o < 31 → r 32 o = 0) : xMs t p (sBg E) (Gm_fresh0_23 7 0 r 32) ∧ xZr p (Gm_fresh0_23 7 0 r 32) ∧ zFr [32] r (Gm_fresh0_23 7 0 r) := by
  have hp : p ≤ 6 := hE.2.1.2
  have z7 : ∀ (r : zRr) x y, zset r 32 x 7 y = r 7 y := fun r x y => by rw [zset_ne (by decide)]
  have z8 : ∀ (r : zRr) x y, zset r 32 x 8 y = r 8 y := fun r x y => by rw [zset_ne (by decide)]
  have z9 : ∀ (r : zRr) x y, zset r 32 x 9 y = r 9 y := fun r x y => by rw [zset_ne (by decide)]
  exact xLpS (p := p) (G := Gm_fresh0_23) (I := fun i r1 => zFr [32] r r1 ∧ xMs t i (sBg E) (r1 32) ∧ ∀ j, j < 6 → r1 32 (13 + j) = 0 ∧ (i ≤ j → r1 32 (19 + j) = 0)) (Q := fun r1 => xMs t p (sBg E) (r1 32) ∧ xZr p (r1 32) ∧ zFr [32] r r1) (by
    intro n i r2 hi ⟨f2, c2, d2⟩
    have e0 : Gm_fresh0_23 (n + 1) (nI i) r2 = Bm_fresh0_23 (Gm_fresh0_23 n) (nI i) r2 := rfl
    obtain ⟨ha, h6, h7, h8⟩ := hH i hi
    have k10 : r2 1 1 = nI p := by rw [f2 1 rfl]; exact hE.1.2.1
    have k6 : r2 7 i = E 4 i := by rw [f2 7 rfl]; exact h6
    have k7 : r2 8 i = E 5 i := by rw [f2 8 rfl]; exact h7
    have k8 : r2 9 i = E 6 i := by rw [f2 9 rfl]; exact h8
    have n1 : (1 : Int32) + nI i = nI (1 + i) := nI_add 1 i
    have n7 : (7 : Int32) + nI i = nI (7 + i) := nI_add 7 i
    have n19 : (19 : Int32) + nI i = nI (19 + i) := nI_add 19 i
    have n25 : (25 : Int32) + nI i = nI (25 + i) := nI_add 25 i
    rw [e0]
    unfold Bm_fresh0_23
    simp only [zletQ, zifQ, k10, nI_1, n1, n7, n19, n25, xzn (show i < 2 ^ 31 by omega), xzn (show 1 + i < 2 ^ 31 by omega), xzn (show 7 + i < 2 ^ 31 by omega), xzn (show 19 + i < 2 ^ 31 by omega), xzn (show 25 + i < 2 ^ 31 by omega), z7, z8, z9, k6, k7, k8, zset_eq]
    rw [if_neg (nI_leN (by omega) (by omega) (by omega))]
    refine ⟨_, ⟨(((f2.set rfl).set rfl).set rfl).set rfl, ?_, fun j hj => ?_⟩, rfl⟩
    · rw [zset_eq]
      refine ⟨?_, fun j hj => ?_⟩
      · rw [pk_un (by omega), pk_un (by omega), pk_un (by omega), pk_un (by omega)]; exact c2.1
      · by_cases e : j = i
        · subst e
          refine ⟨ha, ?_, ?_, ?_, ?_, ?_⟩
          · rw [pk_un (by omega), pk_un (by omega), pk_un (by omega), pk_us]; rfl
          · rw [pk_un (by omega), pk_un (by omega), pk_us]; rfl
          · rw [pk_un (by omega), pk_un (by omega), pk_un (by omega), pk_un (by omega), (d2 j (by omega)).1]; rfl
          · rw [pk_un (by omega), pk_us]; rfl
          · rw [pk_us]; rfl
        · obtain ⟨g1, g2, g3, g4, g5, g6⟩ := c2.2 j (by omega)
          refine ⟨g1, ?_, ?_, ?_, ?_, ?_⟩
          · rw [pk_un (by omega), pk_un (by omega), pk_un (by omega), pk_un (by omega)]; exact g2
          · rw [pk_un (by omega), pk_un (by omega), pk_un (by omega), pk_un (by omega)]; exact g3
          · rw [pk_un (by omega), pk_un (by omega), pk_un (by omega), pk_un (by omega)]; exact g4
          · rw [pk_un (by omega), pk_un (by omega), pk_un (by omega), pk_un (by omega)]; exact g5
          · rw [pk_un (by omega), pk_un (by omega), pk_un (by omega), pk_un (by omega)]; exact g6
    · rw [zset_eq]
      refine ⟨?_, fun hij => ?_⟩
      · rw [pk_un (by omega), pk_un (by omega), pk_un (by omega), pk_un (by omega)]; exact (d2 j hj).1
      · rw [pk_un (by omega), pk_un (by omega), pk_un (by omega), pk_un (by omega)]; exact (d2 j hj).2 (by omega)) (by
    intro n r2 ⟨f2, c2, d2⟩
    have e0 : Gm_fresh0_23 (n + 1) (nI p) r2 = Bm_fresh0_23 (Gm_fresh0_23 n) (nI p) r2 := rfl
    have k10 : r2 1 1 = nI p := by rw [f2 1 rfl]; exact hE.1.2.1
    rw [e0]
    unfold Bm_fresh0_23
    simp only [zletQ, zifQ, k10]
    rw [if_pos (nI_leP (by omega) (by omega) (by omega))]
    exact ⟨c2, fun j h1 h2 => ⟨(d2 j h2).1, (d2 j h2).2 h1⟩, f2⟩) 7 0 r (by omega) (by omega) ⟨zFr.refl, ⟨h0 0 (by omega), fun j hj => absurd hj (by omega)⟩, fun j hj => ⟨h0 _ (by omega), fun _ => h0 _ (by omega)⟩⟩
theorem mBg (hE : xMe Lf t p E mo r) (hH : xMh t p E r) : xMs t p (sBg E) (Gm_fresh0 r q 32) ∧ xZr p (Gm_fresh0 r q 32) ∧ zFr [32] r (Gm_fresh0 r q) := by
  unfold Gm_fresh0
  exact xLpS (p := 31) (G := Gm_fresh0_2) (I := fun i r1 => zFr [32] r r1 ∧ ∀ o, o < i → r1 32 o = 0) (Q := fun r1 => xMs t p (sBg E) (r1 32) ∧ xZr p (r1 32) ∧ zFr [32] r r1) (by
    intro n i r2 hi ⟨f2, c2⟩
    have e0 : Gm_fresh0_2 (n + 1) (nI i) r2 = Bm_fresh0_2 (Gm_fresh0_2 n) (nI i) r2 := rfl
    have c31 : ¬ (31 : Int32) ≤ nI i := nI_leN (a := 31) (by omega) (by omega) (by omega)
    rw [e0]
    unfold Bm_fresh0_2
    simp only [zletQ, zifQ, nI_1, xzn (show i < 2 ^ 31 by omega)]
    rw [if_neg c31]
    refine ⟨_, ⟨f2.set rfl, fun o ho => ?_⟩, rfl⟩
    rw [zset_eq]
    by_cases e : o = i
    · subst e; rw [pk_us]
    · rw [pk_un e]; exact c2 o (by omega)) (by
    intro n r2 ⟨f2, c2⟩
    have e0 : Gm_fresh0_2 (n + 1) (nI 31) r2 = Bm_fresh0_2 (Gm_fresh0_2 n) (nI 31) r2 := rfl
    have c31 : (31 : Int32) ≤ nI 31 := nI_leP (a := 31) (by omega) (by omega) (by omega)
    rw [e0]
    unfold Bm_fresh0_2
    rw [zifQ, if_pos c31]
    obtain ⟨k1, k2, k3⟩ := mBg23 (r := r2) (hE.fr f2 (by decide)) (fun j hj => by rw [f2 7 rfl, f2 8 rfl, f2 9 rfl]; exact hH j hj) c2
    exact ⟨k1, k2, f2.tr k3 (by decide)⟩) 32 0 r (by omega) (by omega) ⟨zFr.refl, fun o ho => absurd ho (by omega)⟩
end XBG
/-- what can be undone -/
def xPs (t p : Nat) (r rm : zRr) : Prop := ∃ nx c : Nat, nx < 16 ∧ c ≤ 16 ∧ r 195 13 = nI nx ∧ r 195 14 = nI c ∧ rm 151 0 = nI c ∧ ∀ d, d < c → xSt t p (6 * ((nx + 16 - c + d) % 16) + 18) r (fun k => rm 36 (31 * d + k))
theorem xmod16 : ∀ n : Fin 32, nI n.val - nI n.val / 16 * 16 = nI (n.val % 16) := by decide +kernel
theorem xmod {n : Nat} (h : n < 32) : nI n - nI n / 16 * 16 = nI (n % 16) := xmod16 ⟨n, h⟩
section XPS
variable {t p : Nat} {r r1 rm rm1 : zRr} {q qm : zRq}
theorem xPs.fr (h : xPs t p r rm) (hp : p ≤ 6) (k : ∀ a, 18 ≤ a → a < 114 → r1 a = r a) (k1 : r1 195 = r 195) (m : rm1 36 = rm 36) (m1 : rm1 151 0 = rm 151 0) : xPs t p r1 rm1 := by
  obtain ⟨nx, c, h1, h2, h3, h4, h5, h6⟩ := h
  refine ⟨nx, c, h1, h2, by rw [k1]; exact h3, by rw [k1]; exact h4, by rw [m1]; exact h5, fun d hd => ?_⟩
  exact (h6 d hd).eq hp (fun i hi => k _ (by omega) (by omega)) (fun i _ => by rw [m])
theorem xPs.nil (h1 : r 195 13 = 0) (h2 : r 195 14 = 0) (h3 : rm 151 0 = 0) : xPs t p r rm := ⟨0, 0, by omega, by omega, h1, h2, h3, fun d hd => absurd hd (by omega)⟩
theorem mK49 {c : Nat} (hc : rm 151 0 = nI c) (h16 : c ≤ 16) : zFr [36, 151] rm (Gm_keeps_49 rm) ∧ Gm_keeps_49 rm 151 0 = nI (c + 1) ∧ Gm_keeps_49 rm 36 = zcp (rm 32) (rm 36) 0 (31 * c) 31 := by
  have e : (31 : Int32) * nI c = nI (31 * c) := nI_mulL 31 c
  unfold Gm_keeps_49
  simp only [zletQ, hc, e, xzn (show 31 * c < 2 ^ 31 by omega)]
  refine ⟨(zFr.refl.set rfl).set rfl, ?_, ?_⟩
  · rw [zset_eq, zset_ne (by decide), hc, nI_1]
  · rw [zset_ne (by decide), zset_eq]
theorem mK11 : ∀ n i r0, i ≤ 465 → 465 < n + i → (zFr [36] rm r0 ∧ ∀ o, r0 36 o = if o < i then rm 36 (o + 31) else rm 36 o) → ∃ r2, zFr [36] rm r2 ∧ (∀ o, r2 36 o = if o < 465 then rm 36 (o + 31) else rm 36 o) ∧ Gm_keeps_11 n (nI i) r0 = Gm_keeps_49 (zset r2 151 (fun _ => r2 151 0 - 1)) := by
  intro n i r0 h1 h2 h3
  exact xLpS (p := 465) (G := Gm_keeps_11) (I := fun i r1 => zFr [36] rm r1 ∧ ∀ o, r1 36 o = if o < i then rm 36 (o + 31) else rm 36 o) (Q := fun x => ∃ r2, zFr [36] rm r2 ∧ (∀ o, r2 36 o = if o < 465 then rm 36 (o + 31) else rm 36 o) ∧ x = Gm_keeps_49 (zset r2 151 (fun _ => r2 151 0 - 1))) (by
    intro n i r2 hi ⟨f2, c2⟩
    have e0 : Gm_keeps_11 (n + 1) (nI i) r2 = Bm_keeps_11 (Gm_keeps_11 n) (nI i) r2 := rfl
    have c4 : ¬ (465 : Int32) ≤ nI i := nI_leN (a := 465) (by omega) (by omega) (by omega)
    have n31 : nI i + 31 = nI (i + 31) := nI_add i 31
    rw [e0]
    unfold Bm_keeps_11
    simp only [zletQ, zifQ, nI_1, n31, xzn (show i < 2 ^ 31 by omega), xzn (show i + 31 < 2 ^ 31 by omega)]
    rw [if_neg c4]
    refine ⟨_, ⟨f2.set rfl, fun o => ?_⟩, rfl⟩
    rw [zset_eq]
    by_cases e : o = i
    · subst e; rw [pk_us, if_pos (by omega), c2 (o + 31), if_neg (by omega)]
    · rw [pk_un e, c2 o]
      by_cases l : o < i
      · rw [if_pos l, if_pos (by omega)]
      · rw [if_neg l, if_neg (by omega)]) (by
    intro n r2 ⟨f2, c2⟩
    have e0 : Gm_keeps_11 (n + 1) (nI 465) r2 = Bm_keeps_11 (Gm_keeps_11 n) (nI 465) r2 := rfl
    have c4 : (465 : Int32) ≤ nI 465 := nI_leP (a := 465) (by omega) (by omega) (by omega)
    rw [e0]
    unfold Bm_keeps_11
    simp only [zletQ, zifQ]
    rw [if_pos c4]
    exact ⟨r2, f2, c2, rfl⟩) n i r0 h1 h2 h3
theorem kRem {nx c : Nat} (h1 : nx < 16) (h2 : c ≤ 16) (h3 : r 195 13 = nI nx) (h4 : r 195 14 = nI c) : Gk_remember r q 195 13 = nI ((nx + 1) % 16) ∧ Gk_remember r q 195 14 = nI (if c < 16 then c + 1 else 16) ∧ ∀ a, a ≠ 195 → Gk_remember r q a = kcp8 r (6 * nx + 18) 6 a := by
  have ko : kcp8 r (6 * nx + 18) 6 195 = r 195 := kcp8_o (Or.inr (by omega))
  have u14 : ∀ v, upd (r 195) 13 v 14 = nI c := fun v => by rw [pk_un (by decide)]; exact h4
  have m16 : nI (nx + 1) - nI (nx + 1) / 16 * 16 = nI ((nx + 1) % 16) := xmod (by omega)
  have mm : (if (16 : Int32) < nI (c + 1) then 16 else nI (c + 1)) = nI (if c < 16 then c + 1 else 16) := by
    by_cases e : c < 16
    · have k : ¬ (16 : Int32) < nI (c + 1) := fun h => by have := (nI_ltI (a := 16) (by omega) (by omega)).mp h; omega
      rw [if_neg k, if_pos e]
    · have k : (16 : Int32) < nI (c + 1) := (nI_ltI (a := 16) (by omega) (by omega)).mpr (by omega)
      rw [if_pos k, if_neg e]; rfl
  unfold Gk_remember
  simp only [zletQ, h3, xzn (show nx < 2 ^ 31 by omega), ko, nI_1, m16, zset_eq, u14, mm]
  refine ⟨?_, ?_, fun a ha => ?_⟩
  · rw [pk_un (by decide), pk_us]
  · rw [pk_us]
  · rw [zset_ne ha, zset_ne ha]
theorem xRem (h6 : xSt t p 6 r (rm 32)) (hP : xPs t p r rm) (hp : p ≤ 6) : xPs t p (Gk_remember r q) (Gm_keeps rm qm) ∧ (∀ a, a < 18 ∨ 114 ≤ a → a ≠ 195 → Gk_remember r q a = r a) ∧ zFr [36, 151] rm (Gm_keeps rm qm) := by
  obtain ⟨nx, c, h1, h2, h3, h4, h5, h7⟩ := hP
  obtain ⟨k1, k2, k3⟩ := kRem (q := q) h1 h2 h3 h4
  have hfr : ∀ a, a < 18 ∨ 114 ≤ a → a ≠ 195 → Gk_remember r q a = r a := fun a h a1 => by
    rw [k3 a a1]; exact kcp8_o (by omega)
  have hslot : ∀ sl, sl < 16 → sl ≠ nx → ∀ i, i < 6 → Gk_remember r q (6 * sl + 18 + i) = r (6 * sl + 18 + i) := fun sl s1 s2 i hi => by
    rw [k3 _ (by omega)]; exact kcp8_o (by omega)
  have hnew : ∀ f : Nat → Int32, (∀ k, k < 31 → f k = rm 32 k) → xSt t p (6 * nx + 18) (Gk_remember r q) f := fun f hf =>
    (h6.cp (n := 6 * nx + 18) hp).eq hp (fun i hi => k3 _ (by omega)) hf
  generalize Gk_remember r q = r1 at k1 k2 hfr hslot hnew ⊢
  by_cases hc : c < 16
  · rw [if_pos hc] at k2
    have e : Gm_keeps rm qm = Gm_keeps_49 rm := by
      unfold Gm_keeps
      rw [zifnQ, if_neg (show ¬ rm 151 0 = 16 from fun h => by rw [h5] at h; have := (nI_eq (b := 16) (by omega) (by omega)).mp h; omega)]
    obtain ⟨m1, m2, m3⟩ := mK49 h5 h2
    rw [e]
    refine ⟨⟨(nx + 1) % 16, c + 1, by omega, by omega, k1, k2, m2, fun d hd => ?_⟩, hfr, m1⟩
    by_cases ed : d = c
    · subst ed
      rw [show ((nx + 1) % 16 + 16 - (d + 1) + d) % 16 = nx by omega]
      refine hnew _ (fun k hk => ?_)
      show Gm_keeps_49 rm 36 (31 * d + k) = rm 32 k
      rw [m3]
      show (if 31 * d ≤ 31 * d + k ∧ 31 * d + k < 31 * d + 31 then rm 32 (0 + (31 * d + k - 31 * d)) else rm 36 (31 * d + k)) = _
      rw [if_pos (by omega), show 0 + (31 * d + k - 31 * d) = k by omega]
    · rw [show ((nx + 1) % 16 + 16 - (c + 1) + d) % 16 = (nx + 16 - c + d) % 16 by omega]
      refine (h7 d (by omega)).eq hp (hslot _ (by omega) (by omega)) (fun k hk => ?_)
      show Gm_keeps_49 rm 36 (31 * d + k) = rm 36 (31 * d + k)
      rw [m3]
      show (if 31 * c ≤ 31 * d + k ∧ 31 * d + k < 31 * c + 31 then rm 32 (0 + (31 * d + k - 31 * c)) else rm 36 (31 * d + k)) = _
      rw [if_neg (by omega)]
  · have hc : c = 16 := by omega
    subst hc
    rw [if_neg (by omega)] at k2
    obtain ⟨r2, f2, c2, e2⟩ := mK11 (rm := rm) 466 0 rm (by omega) (by omega) ⟨zFr.refl, fun o => by rw [if_neg (by omega)]⟩
    have e : Gm_keeps rm qm = Gm_keeps_49 (zset r2 151 (fun _ => r2 151 0 - 1)) := by
      unfold Gm_keeps
      rw [zifnQ, if_pos (show rm 151 0 = 16 from h5)]
      exact e2
    have e15 : zset r2 151 (fun _ => r2 151 0 - 1) 151 0 = nI 15 := by
      rw [zset_eq, f2 151 (by decide), h5]; rfl
    obtain ⟨m1, m2, m3⟩ := mK49 e15 (by omega)
    have f3 : zFr [36, 151] rm (zset r2 151 (fun _ => r2 151 0 - 1)) := (f2.up (by decide)).set rfl
    have e32 : zset r2 151 (fun _ => r2 151 0 - 1) 32 = rm 32 := f3 32 (by decide)
    have e36 : zset r2 151 (fun _ => r2 151 0 - 1) 36 = r2 36 := zset_ne (by decide)
    rw [e32, e36] at m3
    rw [e]
    generalize Gm_keeps_49 (zset r2 151 (fun _ => r2 151 0 - 1)) = rx at m1 m2 m3 ⊢
    refine ⟨⟨(nx + 1) % 16, 16, by omega, by omega, k1, k2, m2, fun d hd => ?_⟩, hfr, f3.tr m1 (by decide)⟩
    by_cases ed : d = 15
    · subst ed
      rw [show ((nx + 1) % 16 + 16 - 16 + 15) % 16 = nx by omega]
      refine hnew _ (fun k hk => ?_)
      show rx 36 (31 * 15 + k) = rm 32 k
      rw [m3]
      show (if 31 * 15 ≤ 31 * 15 + k ∧ 31 * 15 + k < 31 * 15 + 31 then rm 32 (0 + (31 * 15 + k - 31 * 15)) else r2 36 (31 * 15 + k)) = _
      rw [if_pos (by omega), show 0 + (31 * 15 + k - 31 * 15) = k by omega]
    · rw [show ((nx + 1) % 16 + 16 - 16 + d) % 16 = (nx + 16 - 16 + (d + 1)) % 16 by omega]
      refine (h7 (d + 1) (by omega)).eq hp (hslot _ (by omega) (by omega)) (fun k hk => ?_)
      show rx 36 (31 * d + k) = rm 36 (31 * (d + 1) + k)
      rw [m3]
      show (if 31 * 15 ≤ 31 * d + k ∧ 31 * d + k < 31 * 15 + 31 then rm 32 (0 + (31 * d + k - 31 * 15)) else r2 36 (31 * d + k)) = _
      rw [if_neg (by omega), c2 (31 * d + k), if_pos (by omega), show 31 * d + k + 31 = 31 * (d + 1) + k by omega]
/-- undo -/
theorem xUn (h6 : xSt t p 6 r (rm 32)) (hP : xPs t p r rm) (hp : p ≤ 6) : (Gk_undo r q).1 = (Gm_undo rm qm).1 ∧ xSt t p 6 (Gk_undo r q).2 ((Gm_undo rm qm).2 32) ∧ xPs t p (Gk_undo r q).2 (Gm_undo rm qm).2 ∧ (∀ a, 12 ≤ a → a ≠ 195 → (Gk_undo r q).2 a = r a) ∧ zFr [32, 100, 151] rm (Gm_undo rm qm).2 := by
  obtain ⟨nx, c, h1, h2, h3, h4, h5, h7⟩ := hP
  by_cases hc : c = 0
  · subst hc
    have ek : Gk_undo r q = (0, r) := by
      unfold Gk_undo
      simp only [zletQ, zifnQ]
      rw [if_pos (show r 195 14 = 0 from h4)]
    have em : Gm_undo rm qm = (0, zset rm 100 (fun _ => 0)) := by
      unfold Gm_undo
      simp only [zletQ, zifnQ]
      rw [if_pos (show zset rm 100 (fun _ => 0) 151 0 = 0 from h5)]
    rw [ek, em]
    exact ⟨rfl, h6, ⟨nx, 0, h1, h2, h3, h4, h5, fun d hd => absurd hd (by omega)⟩, fun _ _ _ => rfl, zFr.refl.set rfl⟩
  · obtain ⟨b, rfl⟩ : ∃ b, c = b + 1 := ⟨c - 1, by omega⟩
    have n0 : ¬ nI (b + 1) = 0 := fun h => by have := (nI_eq (b := 0) (by omega) (by omega)).mp h; omega
    have n16 : nI nx + 16 = nI (nx + 15 + 1) := nI_add nx 16
    have n15 : nI (nx + 15 + 1) - 1 = nI (nx + 15) := by rw [← nI_1, Int32.add_sub_cancel]
    have nb : nI (b + 1) - 1 = nI b := by rw [← nI_1, Int32.add_sub_cancel]
    have m16 : nI (nx + 15) - nI (nx + 15) / 16 * 16 = nI ((nx + 15) % 16) := xmod (by omega)
    have u14 : ∀ v, upd (r 195) 13 v 14 = nI (b + 1) := fun v => by rw [pk_un (by decide)]; exact h4
    have u13 : ∀ v w, upd (upd (r 195) 13 v) 14 w 13 = v := fun v w => by rw [pk_un (by decide), pk_us]
    have ek : Gk_undo r q = (1, kcp8 (zset (zset r 195 (upd (r 195) 13 (nI ((nx + 15) % 16)))) 195 (upd (upd (r 195) 13 (nI ((nx + 15) % 16))) 14 (nI b))) 6 (6 * ((nx + 15) % 16) + 18)) := by
      unfold Gk_undo
      simp only [zletQ, zifnQ, h4, if_neg n0, h3, n16, n15, m16, zset_eq, u14, nb, u13, xzn (show (nx + 15) % 16 < 2 ^ 31 by omega)]
    have e31 : (31 : Int32) * nI b = nI (31 * b) := nI_mulL 31 b
    have em : Gm_undo rm qm = (1, zset (zset (zset rm 100 (fun _ => 0)) 151 (fun _ => nI b)) 32 (zcp (rm 36) (rm 32) (31 * b) 0 31)) := by
      unfold Gm_undo
      have k : zset rm 100 (fun _ => 0) 151 0 = nI (b + 1) := h5
      simp only [zletQ, zifnQ, k, if_neg n0, nb, zset_eq, e31, xzn (show 31 * b < 2 ^ 31 by omega)]
      rfl
    rw [ek, em]
    obtain ⟨r9, e9⟩ : ∃ x, x = zset (zset r 195 (upd (r 195) 13 (nI ((nx + 15) % 16)))) 195 (upd (upd (r 195) 13 (nI ((nx + 15) % 16))) 14 (nI b)) := ⟨_, rfl⟩
    rw [← e9]
    have f9 : ∀ a, a ≠ 195 → r9 a = r a := fun a ha => by rw [e9, zset_ne ha, zset_ne ha]
    have g13 : r9 195 13 = nI ((nx + 15) % 16) := by rw [e9, zset_eq, u13]
    have g14 : r9 195 14 = nI b := by rw [e9, zset_eq, pk_us]
    have hpast := h7 b (by omega)
    rw [show (nx + 16 - (b + 1) + b) % 16 = (nx + 15) % 16 by omega] at hpast
    have hp9 : xSt t p (6 * ((nx + 15) % 16) + 18) r9 (fun k => rm 36 (31 * b + k)) := hpast.eq hp (fun i hi => f9 _ (by omega)) (fun _ _ => rfl)
    refine ⟨rfl, (hp9.cp (n := 6) hp).eq hp (fun _ _ => rfl) (fun k hk => ?_), ⟨(nx + 15) % 16, b, by omega, by omega, ?_, ?_, ?_, fun d hd => ?_⟩, fun a a1 a2 => ?_, ?_⟩
    · show zset (zset (zset rm 100 (fun _ => 0)) 151 (fun _ => nI b)) 32 (zcp (rm 36) (rm 32) (31 * b) 0 31) 32 k = rm 36 (31 * b + k)
      rw [zset_eq]
      show (if 0 ≤ k ∧ k < 0 + 31 then rm 36 (31 * b + (k - 0)) else rm 32 k) = _
      rw [if_pos (by omega), show k - 0 = k by omega]
    · show kcp8 r9 6 (6 * ((nx + 15) % 16) + 18) 195 13 = _
      rw [kcp8_o (Or.inr (by omega))]; exact g13
    · show kcp8 r9 6 (6 * ((nx + 15) % 16) + 18) 195 14 = _
      rw [kcp8_o (Or.inr (by omega))]; exact g14
    · rfl
    · rw [show ((nx + 15) % 16 + 16 - b + d) % 16 = (nx + 16 - (b + 1) + d) % 16 by omega]
      refine (h7 d (by omega)).eq hp (fun i hi => ?_) (fun _ _ => rfl)
      show kcp8 r9 6 (6 * ((nx + 15) % 16) + 18) _ = _
      rw [kcp8_o (Or.inr (by omega))]
      exact f9 _ (by omega)
    · show kcp8 r9 6 (6 * ((nx + 15) % 16) + 18) a = _
      rw [kcp8_o (Or.inr (by omega))]; exact f9 a a2
    · exact ((zFr.refl.set rfl).set rfl).set rfl
end XPS
