/-! ===== what a law comes to: the class's value is the reference's ===== -/
theorem xKv.fin {a1 a2 a3 a4 : Int32} {m need : Nat} {C : List Int32} {v : Int32} {r : zRr} {q : zRq} (hm : m ≤ 1000) (h : xKv a1 a2 a3 a4 m need C v) (hl : C.length = m) (hn : need ≤ 32) (h1 : r 180 2 = nI m) (h2 : xsg (r 181) 0 m = C) : (Gk_passes a1 a2 a3 a4 r q).1 = if v = 0 then 0 else 1 := by
  have e : ∀ (n k : Nat), n = k + 1 + C.length → (Gk_passes_6 a1 a2 a3 a4 n (nI 0) (nI 0) r).1 = if v = 0 then 0 else 1 := by
    intro n k hk
    obtain ⟨g, _, g2, g3⟩ := h (k + 1) 0 0 r h1 ⟨by omega, by rw [hl]; exact h2⟩ (by omega)
    rw [hk, g3]
    have e0 : Gk_passes_6 a1 a2 a3 a4 (k + 1) (nI (0 + 1)) (nI (0 + C.length)) (zset r 182 g) = Bk_passes_6 a1 a2 a3 a4 (Gk_passes_6 a1 a2 a3 a4 k) (nI (0 + 1)) (nI (0 + C.length)) (zset r 182 g) := rfl
    rw [e0]
    have c1 : nI m ≤ nI (0 + C.length) := (nI_leI (by omega) (by omega)).mpr (by omega)
    have c2 : ¬ nI (0 + 1) ≤ 0 := fun h => by have := (nI_leI (b := 0) (by omega) (by omega)).mp h; omega
    have e1 : nI (0 + 1) - 1 = nI 0 := by rw [← nI_1, Int32.add_sub_cancel]
    have h1' : zset r 182 g 180 2 = nI m := h1
    have e2 : zset r 182 g 182 0 = v := by rw [zset_eq]; exact g2
    unfold Bk_passes_6
    simp only [zifQ, zletQ, h1', if_pos c1, if_neg c2, e1, xzn (show 0 < 2 ^ 31 by omega), e2]
    by_cases hv : v = 0
    · rw [if_pos hv, if_pos hv]
    · rw [if_neg hv, if_neg hv]
  unfold Gk_passes
  exact e 1001 (1000 - m) (by omega)
theorem xvl1 {a1 a2 a3 a4 : Int32} : Gk_valueOf (-1) a1 a2 a3 a4 = a1 := by
  unfold Gk_valueOf
  simp only [zifQ]
  rw [if_neg (by decide), if_neg (by decide), if_neg (by decide), if_neg (by decide), if_pos trivial]
theorem xvl3 {a1 a2 a3 a4 : Int32} : Gk_valueOf (-3) a1 a2 a3 a4 = a3 := by
  unfold Gk_valueOf
  simp only [zifQ]
  rw [if_neg (by decide), if_neg (by decide), if_pos trivial]
/-- the reference works a told law -/
theorem xwkL {P : Nat → Int32} {v : Int32} {q : zRq} {F : List Int32} {rm : zRr} (hF : F.length ≤ 1000) (h : xMl q F.length 5 P 4 F v) (h10 : rm 10 0 = 0) (h11 : rm 11 0 = nI F.length) (h12 : xsg (rm 12) 0 F.length = F) (hP : xPar P rm) : (Gm_worked rm q).1 = v ∧ zFr [15, 16, 17, 18, 19, 20, 21, 22, 23] rm (Gm_worked rm q).2 := by
  obtain ⟨o1, o16, o18, o19, o20, o22, o23⟩ := xopens (w := 0) (r := rm) (q := q) (by decide)
  obtain ⟨X, hX⟩ : ∃ X, X = Gm_opens (nI 0) rm q := ⟨_, rfl⟩
  rw [← hX] at o1 o16 o18 o19 o20 o22 o23
  have x10 : X 10 0 = 0 := by rw [o1.1 10 (by decide)]; exact h10
  have ew : Gm_worked rm q = Gm_worked_14 q 1001 (nI 0) (nI 0) X := by
    unfold Gm_worked
    rw [zletQ, ← show X = Gm_opens 0 rm q from hX, x10]
    rfl
  have e : ∀ (n k : Nat), n = k + 1 + F.length → (Gm_worked_14 q n (nI 0) (nI 0) X).1 = v ∧ zFr [15, 16, 17, 18, 19, 20, 21, 22, 23] X (Gm_worked_14 q n (nI 0) (nI 0) X).2 := by
    intro n k hk
    obtain ⟨rm1, l1, _, hv, e1⟩ := h (k + 1) 0 0 X (by rw [o1.1 11 (by decide)]; exact h11) ⟨by omega, by rw [o1.1 12 (by decide)]; exact h12⟩ (fun j g1 g2 => by rw [o1.1 24 (by decide)]; exact hP j g1 g2) (by omega) (Or.inl rfl) ⟨o22, fun _ => ⟨o19, o20⟩, fun _ => o18, fun _ => o16⟩
    have hv : xWv 0 rm1 = v := by
      unfold xVl at hv; rw [if_neg (by decide), if_neg (by decide), if_neg (by decide)] at hv; exact hv
    rw [hk, e1]
    have e0 : Gm_worked_14 q (k + 1) (nI 0) (nI (0 + F.length)) rm1 = Bm_worked_14 q (Gm_worked_14 q k) (nI 0) (nI (0 + F.length)) rm1 := rfl
    rw [e0]
    have c1 : rm1 11 0 ≤ nI (0 + F.length) := by
      rw [l1.1 11 (by decide), o1.1 11 (by decide), h11]
      exact (nI_leI (by omega) (by omega)).mpr (by omega)
    obtain ⟨s1, s15, _⟩ := xtests (w := 0) (r := rm1) (q := q) (by decide)
    have s1 : xLv 0 rm1 (Gm_tests 0 rm1 q) := s1
    have s15 : Gm_tests 0 rm1 q 15 0 = xWv 0 rm1 := s15
    unfold Bm_worked_14
    rw [zifQ, if_pos c1]
    simp only [zletQ]
    exact ⟨s15.trans hv, l1.1.tr s1.1 (by decide)⟩
  rw [ew]
  have k := e 1001 (1000 - F.length) (by omega)
  exact ⟨k.1, o1.1.tr k.2 (by decide)⟩
theorem xLawV {a1 a2 a3 : Int32} {r rm : zRr} {q qm : zRq} (h : xLw r rm) : (Gk_passes a1 a2 a3 (rm 32 0) r q).1 = (Gm_readsBeard a1 a2 a3 rm qm).1 ∧ zFr [182] r (Gk_passes a1 a2 a3 (rm 32 0) r q).2 ∧ zFr [15, 16, 17, 18, 19, 20, 21, 22, 23, 24] rm (Gm_readsBeard a1 a2 a3 rm qm).2 := by
  obtain ⟨m, hm1, hm2⟩ := h.len
  have hfr : zFr [182] r (Gk_passes a1 a2 a3 (rm 32 0) r q).2 := xpasF hm2 hm1
  obtain ⟨h10, ⟨h11, h180, h181⟩ | ⟨C, F, ⟨N, hE⟩, hF1, hF, hC, h11, h12, h180, h181⟩⟩ := h
  · have k := ((xKv.bin (a1 := a1) (a2 := a2) (a3 := a3) (a4 := rm 32 0) (m := 4) (by decide) (need := 2) (k := 2) (xKv.push (x := -1) (by decide) (by decide)) (xKv.push (x := -3) (by decide) (by decide)) ⟨by decide, by decide, by decide⟩ (by decide)).not (by decide) (by decide)).fin (r := r) (q := q) (by decide) rfl (by decide) h180 h181
    rw [xj2, xvl1, xvl3] at k
    have e : Gm_readsBeard a1 a2 a3 rm qm = if a1 < a3 then (0, rm) else (1, rm) := by
      unfold Gm_readsBeard
      simp only [zletQ, zifnQ, zifQ]
      rw [if_pos (h11.trans h10.symm)]
    refine ⟨?_, hfr, ?_⟩
    · rw [k, e]
      by_cases c : a1 < a3
      · have c1 : ¬ a3 ≤ a1 := fun h => by rw [Int32.le_iff_toInt_le] at h; rw [Int32.lt_iff_toInt_lt] at c; omega
        rw [if_pos c, if_neg c1, if_neg (show ¬ (1 : Int32) = 0 by decide), if_pos (show (0 : Int32) = 0 from rfl)]
      · have c1 : a3 ≤ a1 := by rw [Int32.le_iff_toInt_le]; rw [Int32.lt_iff_toInt_lt] at c; omega
        rw [if_neg c, if_pos c1, if_pos (show (0 : Int32) = 0 from rfl), if_neg (show ¬ (1 : Int32) = 0 by decide)]
    · rw [e]
      by_cases c : a1 < a3
      · rw [if_pos c]; exact zFr.refl
      · rw [if_neg c]; exact zFr.refl
  · obtain ⟨_, v, g1, _, g3⟩ := xtree (a1 := a1) (a2 := a2) (a3 := a3) (a4 := rm 32 0) (P := fun k => if k = 1 then a1 else if k = 2 then a2 else if k = 3 then a3 else rm 32 0) ⟨rfl, rfl, rfl, rfl⟩ (m := C.length) (M := F.length) hC hF (q := qm) N 4 5 C F hE (by omega)
    have kk := g1.fin (r := r) (q := q) hC rfl (by decide) h180 h181
    have c0 : ¬ rm 11 0 = rm 10 0 := by
      rw [h11, h10]
      exact fun h => by have := (nI_eq (b := 0) (by omega) (by omega)).mp h; omega
    obtain ⟨r8, e8⟩ : ∃ x, x = xs (xs (xs (xs rm 24 1 a1) 24 2 a2) 24 3 a3) 24 4 (rm 32 0) := ⟨_, rfl⟩
    have e : Gm_readsBeard a1 a2 a3 rm qm = zc_vr (Gm_worked r8 qm) (fun v10 r11 => if v10 = 0 then (0, r11) else (1, r11)) := by
      unfold Gm_readsBeard
      simp only [zletQ, zifnQ, zifQ, if_neg c0]
      rw [e8]
      rfl
    have f8 : zFr [24] rm r8 := by
      rw [e8]
      exact (((zFr.refl.set rfl).set rfl).set rfl).set rfl
    have p8 : xPar (fun k => if k = 1 then a1 else if k = 2 then a2 else if k = 3 then a3 else rm 32 0) r8 := by
      intro j j1 j4
      rw [e8]
      unfold xs
      rcases (show j = 1 ∨ j = 2 ∨ j = 3 ∨ j = 4 by omega) with rfl | rfl | rfl | rfl
      · rw [zset_eq, pk_un (by decide), zset_eq, pk_un (by decide), zset_eq, pk_un (by decide), zset_eq, pk_us]; rfl
      · rw [zset_eq, pk_un (by decide), zset_eq, pk_un (by decide), zset_eq, pk_us]; rfl
      · rw [zset_eq, pk_un (by decide), zset_eq, pk_us]; rfl
      · rw [zset_eq, pk_us]; rfl
    obtain ⟨w1, w2⟩ := xwkL (q := qm) (rm := r8) hF (g3 (by omega)) (by rw [f8 10 (by decide)]; exact h10) (by rw [f8 11 (by decide)]; exact h11) (by rw [f8 12 (by decide)]; exact h12) p8
    refine ⟨?_, hfr, ?_⟩
    · rw [kk, e, zc_vrQ, w1]
      by_cases hv : v = 0
      · rw [if_pos hv, if_pos hv]
      · rw [if_neg hv, if_neg hv]
    · have fz : zFr [15, 16, 17, 18, 19, 20, 21, 22, 23, 24] rm (Gm_worked r8 qm).2 := (f8.up (by decide)).tr w2 (by decide)
      rw [e, zc_vrQ]
      by_cases hv : (Gm_worked r8 qm).1 = 0
      · rw [if_pos hv]; exact fz
      · rw [if_neg hv]; exact fz
