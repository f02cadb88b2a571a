/-! ===== a JOURNEY that is told, on both sides; what marks hold ===== -/
def xPl (t p b o : Nat) (r rm : zRr) : Prop := ∃ n, n ≤ 40 ∧ r b 3 = nI n ∧ rm 25 o = nI n ∧ ∀ k, k < n → r (b + 1) k = rm 26 (40 * o + k) ∧ (¬ r (b + 1) k = 3 → r (b + 2) k = rm 27 (40 * o + k)) ∧ (r (b + 1) k = 0 ∨ r (b + 1) k = 1 → r (b + 3) k = rm 28 (40 * o + k)) ∧ xBd t p (r (b + 1) k) (r (b + 2) k) (r (b + 3) k)
def xMr (t p : Nat) (r rm : zRr) : Prop := ∀ k, k < 4 → ¬ rm 37 k = 0 → xSt t p (114 + 6 * k) r (fun i => rm 35 (31 * k + i)) ∧ xPl t p (146 + 4 * k) (1 + k) r rm
section XPL
variable {t p : Nat} {r r1 rm rm1 : zRr} {q qm : zRq}
theorem xPl.fr {b o : Nat} (h : xPl t p b o r rm) (k : ∀ i, i < 4 → r1 (b + i) = r (b + i)) (m : rm1 25 o = rm 25 o) (m1 : ∀ c i, 26 ≤ c → c ≤ 28 → i < 40 → rm1 c (40 * o + i) = rm c (40 * o + i)) : xPl t p b o r1 rm1 := by
  obtain ⟨n, h1, h2, h3, h4⟩ := h
  have k0 : r1 b = r b := k 0 (by omega)
  refine ⟨n, h1, by rw [k0]; exact h2, by rw [m]; exact h3, fun i hi => ?_⟩
  rw [k 1 (by omega), k 2 (by omega), k 3 (by omega), m1 26 i (by omega) (by omega) (by omega), m1 27 i (by omega) (by omega) (by omega), m1 28 i (by omega) (by omega) (by omega)]
  exact h4 i hi
theorem xPl.cp {n m a b : Nat} (h : xPl t p m a r rm) (e25 : rm1 25 b = rm 25 a) (e : ∀ c i, 26 ≤ c → c ≤ 28 → i < 40 → rm1 c (40 * b + i) = rm c (40 * a + i)) : xPl t p n b (kcp1 r n m) rm1 := by
  obtain ⟨l, h1, h2, h3, h4⟩ := h
  have z : zn (r m 3) = l := by rw [h2]; exact xzn (by omega)
  refine ⟨l, h1, by rw [kcp1_0, pk_us]; exact h2, by rw [e25]; exact h3, fun i hi => ?_⟩
  rw [kcp1_k (k := 1) ⟨by decide, by decide⟩, kcp1_k (k := 2) ⟨by decide, by decide⟩, kcp1_k (k := 3) ⟨by decide, by decide⟩, z, xcpy hi, xcpy hi, xcpy hi, e 26 i (by omega) (by omega) (by omega), e 27 i (by omega) (by omega) (by omega), e 28 i (by omega) (by omega) (by omega)]
  exact h4 i hi
theorem xPl.nil {b o : Nat} (h1 : r b 3 = 0) (h2 : rm 25 o = 0) : xPl t p b o r rm := ⟨0, by omega, h1, h2, fun k hk => absurd hk (by omega)⟩
theorem xMr.fr (h : xMr t p r rm) (hp : p ≤ 6) (k : ∀ a, 114 ≤ a → a < 162 → (a < 138 ∨ 146 ≤ a) → r1 a = r a) (m35 : rm1 35 = rm 35) (m37 : rm1 37 = rm 37) (m25 : ∀ o, 1 ≤ o → o ≤ 4 → rm1 25 o = rm 25 o) (m26 : ∀ c i, 26 ≤ c → c ≤ 28 → 40 ≤ i → i < 200 → rm1 c i = rm c i) : xMr t p r1 rm1 := by
  intro j hj h0
  rw [m37] at h0
  obtain ⟨h1, h2⟩ := h j hj h0
  exact ⟨h1.eq hp (fun i hi => k _ (by omega) (by omega) (by omega)) (fun i _ => by rw [m35]), h2.fr (fun i hi => k _ (by omega) (by omega) (by omega)) (m25 _ (by omega) (by omega)) (fun c i c1 c2 hi => m26 c _ c1 c2 (by omega) (by omega))⟩
theorem xlaysX {a b : Nat} (ha : a ≤ 5) (hb : b ≤ 5) (hab : a ≠ b) : Gm_laysLines (nI a) (nI b) r q 25 = upd (r 25) b (r 25 a) ∧ ∀ c o, 26 ≤ c → c ≤ 28 → Gm_laysLines (nI a) (nI b) r q c o = if 40 * b ≤ o ∧ o < 40 * b + 40 then r c (40 * a + (o - 40 * b)) else r c o := by
  have ea : (40 : Int32) * nI a = nI (40 * a) := nI_mulL 40 a
  have eb : (40 : Int32) * nI b = nI (40 * b) := nI_mulL 40 b
  unfold Gm_laysLines
  rw [zletQ, xzn (show a < 2 ^ 31 by omega), xzn (show b < 2 ^ 31 by omega)]
  have k := xLpS (p := 40) (G := Gm_laysLines_14 (nI a) (nI b)) (I := fun i r1 => r1 25 = upd (r 25) b (r 25 a) ∧ ∀ c o, 26 ≤ c → c ≤ 28 → r1 c o = if 40 * b ≤ o ∧ o < 40 * b + i then r c (40 * a + (o - 40 * b)) else r c o) (Q := fun r1 => r1 25 = upd (r 25) b (r 25 a) ∧ ∀ c o, 26 ≤ c → c ≤ 28 → r1 c o = if 40 * b ≤ o ∧ o < 40 * b + 40 then r c (40 * a + (o - 40 * b)) else r c o) (by
    intro n i r2 hi ⟨f2, c2⟩
    have e0 : Gm_laysLines_14 (nI a) (nI b) (n + 1) (nI i) r2 = Bm_laysLines_14 (nI a) (nI b) (Gm_laysLines_14 (nI a) (nI b) n) (nI i) r2 := rfl
    have c4 : ¬ (40 : Int32) ≤ nI i := nI_leN (a := 40) (by omega) (by omega) (by omega)
    have z27 : ∀ (r : zRr) x y, zset r 26 x 27 y = r 27 y := fun r x y => by rw [zset_ne (by decide)]
    have z28 : ∀ (r : zRr) x z y, zset (zset r 26 x) 27 z 28 y = r 28 y := fun r x z y => by rw [zset_ne (by decide), zset_ne (by decide)]
    have y27 : ∀ (r : zRr) x, zset r 26 x 27 = r 27 := fun r x => zset_ne (by decide)
    have y28 : ∀ (r : zRr) x z, zset (zset r 26 x) 27 z 28 = r 28 := fun r x z => by rw [zset_ne (by decide), zset_ne (by decide)]
    have rd : ∀ c, 26 ≤ c → c ≤ 28 → r2 c (40 * a + i) = r c (40 * a + i) := fun c h1 h2 => by rw [c2 c _ h1 h2, if_neg (by omega)]
    rw [e0]
    unfold Bm_laysLines_14
    simp only [zletQ, zifQ, nI_1, ea, eb, nI_add, xzn (show 40 * a + i < 2 ^ 31 by omega), xzn (show 40 * b + i < 2 ^ 31 by omega), z27, z28, y27, y28, rd 26 (by omega) (by omega), rd 27 (by omega) (by omega), rd 28 (by omega) (by omega)]
    rw [if_neg c4]
    refine ⟨_, ⟨?_, fun c o h1 h2 => ?_⟩, rfl⟩
    · rw [zset_ne (by decide), zset_ne (by decide), zset_ne (by decide)]; exact f2
    · have g : ∀ c, 26 ≤ c → c ≤ 28 → upd (r2 c) (40 * b + i) (r c (40 * a + i)) o = if 40 * b ≤ o ∧ o < 40 * b + (i + 1) then r c (40 * a + (o - 40 * b)) else r c o := by
        intro c h1 h2
        by_cases e : o = 40 * b + i
        · subst e; rw [pk_us, if_pos (by omega), show 40 * a + (40 * b + i - 40 * b) = 40 * a + i by omega]
        · rw [pk_un e, c2 c o h1 h2]
          by_cases l : 40 * b ≤ o ∧ o < 40 * b + i
          · rw [if_pos l, if_pos (by omega)]
          · rw [if_neg l, if_neg (by omega)]
      rcases (show c = 26 ∨ c = 27 ∨ c = 28 by omega) with rfl | rfl | rfl
      · rw [zset_ne (by decide), zset_ne (by decide), zset_eq]; exact g 26 (by omega) (by omega)
      · rw [zset_ne (by decide), zset_eq]; exact g 27 (by omega) (by omega)
      · rw [zset_eq]; exact g 28 (by omega) (by omega)) (by
    intro n r2 ⟨f2, c2⟩
    have e0 : Gm_laysLines_14 (nI a) (nI b) (n + 1) (nI 40) r2 = Bm_laysLines_14 (nI a) (nI b) (Gm_laysLines_14 (nI a) (nI b) n) (nI 40) r2 := rfl
    have c4 : (40 : Int32) ≤ nI 40 := nI_leP (a := 40) (by omega) (by omega) (by omega)
    rw [e0]
    unfold Bm_laysLines_14
    rw [zifQ, if_pos c4]
    exact ⟨f2, c2⟩) 41 0 (zset r 25 (upd (r 25) b (r 25 a))) (by omega) (by omega) ⟨zset_eq, fun c o h1 h2 => by rw [if_neg (by omega), zset_ne (by omega)]⟩
  exact k
theorem xlaysX2 {a b : Nat} (ha : a ≤ 5) (hb : b ≤ 5) (hab : a ≠ b) : (∀ o, o ≠ b → Gm_laysLines (nI a) (nI b) r q 25 o = r 25 o) ∧ Gm_laysLines (nI a) (nI b) r q 25 b = r 25 a ∧ (∀ c i, 26 ≤ c → c ≤ 28 → i < 40 → Gm_laysLines (nI a) (nI b) r q c (40 * b + i) = r c (40 * a + i)) ∧ ∀ o c i, o ≠ b → 26 ≤ c → c ≤ 28 → i < 40 → Gm_laysLines (nI a) (nI b) r q c (40 * o + i) = r c (40 * o + i) := by
  obtain ⟨k1, k2⟩ := xlaysX (r := r) (q := q) ha hb hab
  refine ⟨fun o ho => by rw [k1, pk_un ho], by rw [k1, pk_us], fun c i c1 c2 hi => ?_, fun o c i ho c1 c2 hi => ?_⟩
  · rw [k2 c _ c1 c2, if_pos (by omega), show 40 * a + (40 * b + i - 40 * b) = 40 * a + i by omega]
  · rw [k2 c _ c1 c2, if_neg (by omega)]
/-- mark: what it leaves -/
theorem xMarkR {a b : Int32} (hp : p ≤ 6) (hM : lM r rm) (h6 : xSt t p 6 r (rm 32)) (hP : xPs t p r rm) (hR : xMr t p r rm) (hL : xPl t p 138 0 r rm) : xSt t p 6 (Gk_mark a b r q).2 ((Gm_mark a b rm qm).2 32) ∧ xPs t p (Gk_mark a b r q).2 (Gm_mark a b rm qm).2 ∧ xMr t p (Gk_mark a b r q).2 (Gm_mark a b rm qm).2 ∧ xPl t p 138 0 (Gk_mark a b r q).2 (Gm_mark a b rm qm).2 := by
  have same : xSt t p 6 r (zset rm 100 (fun _ => 0) 32) ∧ xPs t p r (zset rm 100 (fun _ => 0)) ∧ xMr t p r (zset rm 100 (fun _ => 0)) ∧ xPl t p 138 0 r (zset rm 100 (fun _ => 0)) := ⟨h6, hP, hR, hL⟩
  by_cases h0 : a < 0
  · have ek : Gk_mark a b r q = (0, r) := by
      unfold Gk_mark; rw [zifQ, if_pos h0]
    have em : Gm_mark a b rm qm = (0, zset rm 100 (fun _ => 0)) := by
      unfold Gm_mark Gm_within; simp only [zletQ, zifQ, if_pos h0, if_true]
    rw [ek, em]
    exact same
  by_cases h3 : 3 < a
  · have h4 : ¬ a < 4 := fun h => by
      rw [Int32.lt_iff_toInt_lt] at h h3
      have c3 : (3 : Int32).toInt = 3 := by decide
      have c4 : (4 : Int32).toInt = 4 := by decide
      omega
    have ek : Gk_mark a b r q = (0, r) := by
      unfold Gk_mark; simp only [zifQ, if_neg h0, if_neg h4]
    have em : Gm_mark a b rm qm = (0, zset rm 100 (fun _ => 0)) := by
      unfold Gm_mark Gm_within; simp only [zletQ, zifQ, if_neg h0, if_pos h3, if_true]
    rw [ek, em]
    exact same
  obtain ⟨k, hk, ea⟩ : ∃ k, k < 4 ∧ a = nI k := by
    have hz : zI 0 3 a := by
      rw [Int32.lt_iff_toInt_lt] at h0 h3
      have c0 : (0 : Int32).toInt = 0 := by decide
      have c3 : (3 : Int32).toInt = 3 := by decide
      exact ⟨by omega, by omega⟩
    obtain ⟨e1, e2⟩ := hz.ix (n := 4) (by decide)
    exact ⟨_, e2, e1⟩
  subst ea
  have em : Gm_mark (nI k) b rm qm = if b = 0 then Gm_mark_29 (nI k) b qm (zset rm 100 (fun _ => 0)) else if rm 37 k = 0 then (0, zset rm 100 (fun _ => 0)) else Gm_mark_29 (nI k) b qm (zset rm 100 (fun _ => 0)) := by
    unfold Gm_mark Gm_within
    simp only [zletQ, zifQ, zifnQ, if_neg h0, if_neg h3, if_neg (show ¬ (1 : Int32) = 0 by decide), xzn (show k < 2 ^ 31 by omega)]
    rfl
  have e1 : (1 : Int32) + nI k = nI (1 + k) := nI_add 1 k
  have e31 : (31 : Int32) * nI k = nI (31 * k) := nI_mulL 31 k
  rw [xmarkK hk, em]
  by_cases hb : b = 0
  · rw [if_pos hb, if_pos hb]
    unfold Gm_mark_29
    simp only [zifQ, zletQ, xzn (show k < 2 ^ 31 by omega), e1, e31, xzn (show 31 * k < 2 ^ 31 by omega), if_pos hb]
    have l := xlaysL (a := 0) (b := nI (1 + k)) (r := zset (zset rm 100 (fun _ => 0)) 37 (upd (zset rm 100 (fun _ => 0) 37) k 1)) (q := qm)
    obtain ⟨l1, l2, l3, l4⟩ := xlaysX2 (a := 0) (b := 1 + k) (r := zset (zset rm 100 (fun _ => 0)) 37 (upd (zset rm 100 (fun _ => 0) 37) k 1)) (q := qm) (by omega) (by omega) (by omega)
    rw [show nI 0 = (0 : Int32) from nI_0] at l1 l2 l3 l4
    generalize Gm_laysLines 0 (nI (1 + k)) (zset (zset rm 100 (fun _ => 0)) 37 (upd (zset rm 100 (fun _ => 0) 37) k 1)) qm = u6 at l l1 l2 l3 l4 ⊢
    obtain ⟨_, s2⟩ := xseenL (a := 0) (b := nI (1 + k)) (r := u6) (q := qm)
    generalize Gm_laysSeen 0 (nI (1 + k)) u6 qm = u8 at s2 ⊢
    have g : ∀ c, [25, 26, 27, 28, 29, 30, 31, 37, 100].contains c = false → u8 c = rm c := fun c hc => by
      have f : zFr [25, 26, 27, 28, 29, 30, 31, 37, 100] rm u8 := (((zFr.refl.set (M := [25, 26, 27, 28, 29, 30, 31, 37, 100]) (k := 100) rfl).set (k := 37) rfl).tr l (by decide)).tr s2 (by decide)
      exact f c hc
    have g37 : u8 37 = upd (rm 37) k 1 := by rw [s2 37 rfl, l 37 rfl, zset_eq]; rfl
    have g25 : ∀ o, o ≠ 1 + k → u8 25 o = rm 25 o := fun o ho => by rw [s2 25 rfl, l1 o ho]; rfl
    have g25b : u8 25 (1 + k) = rm 25 0 := by rw [s2 25 rfl, l2]; rfl
    have s26 : ∀ c, 26 ≤ c → c ≤ 28 → u8 c = u6 c := fun c c1 c2 => by
      rcases (show c = 26 ∨ c = 27 ∨ c = 28 by omega) with rfl | rfl | rfl <;> exact s2 _ rfl
    have z26 : ∀ c o, 26 ≤ c → c ≤ 28 → zset (zset rm 100 (fun _ => 0)) 37 (upd (zset rm 100 (fun _ => 0) 37) k 1) c o = rm c o := fun c o c1 c2 => by rw [zset_ne (by omega), zset_ne (by omega)]
    have g26 : ∀ c i, 26 ≤ c → c ≤ 28 → i < 40 → u8 c (40 * (1 + k) + i) = rm c (40 * 0 + i) := fun c i c1 c2 hi => by rw [s26 c c1 c2, l3 c i c1 c2 hi, z26 c _ c1 c2]
    have g26b : ∀ o c i, o ≠ 1 + k → 26 ≤ c → c ≤ 28 → i < 40 → u8 c (40 * o + i) = rm c (40 * o + i) := fun o c i ho c1 c2 hi => by rw [s26 c c1 c2, l4 o c i ho c1 c2 hi, z26 c _ c1 c2]
    clear l l1 l2 l3 l4 s2 s26 z26
    have e35 : u8 35 = rm 35 := g 35 rfl
    have e32 : u8 32 = rm 32 := g 32 rfl
    show xSt t p 6 (xLay k r) (zset u8 35 (zcp (u8 32) (u8 35) 0 (31 * k) 31) 32) ∧ xPs t p (xLay k r) (zset u8 35 (zcp (u8 32) (u8 35) 0 (31 * k) 31)) ∧ xMr t p (xLay k r) (zset u8 35 (zcp (u8 32) (u8 35) 0 (31 * k) 31)) ∧ xPl t p 138 0 (xLay k r) (zset u8 35 (zcp (u8 32) (u8 35) 0 (31 * k) 31))
    rw [e35, e32]
    have hx : ∀ a, a < 114 ∨ (138 ≤ a ∧ a < 142) ∨ 195 ≤ a → xLay k r a = r a := fun a ha => by
      unfold xLay
      rw [zset_ne (by omega), zset_ne (by omega), kcp1_o (by omega), kcp8_o (by omega)]
    refine ⟨h6.eq hp (fun i hi => hx _ (by omega)) (fun i _ => by rw [zset_ne (by decide), e32]), hP.fr hp (fun a a1 a2 => hx a (by omega)) (hx 195 (by omega)) (by rw [zset_ne (by decide)]; exact g 36 rfl) (by rw [zset_ne (by decide), g 151 rfl]), fun j hj hz => ?_, hL.fr (fun i hi => hx _ (by omega)) (by rw [zset_ne (by decide)]; exact g25 0 (by omega)) (fun c i c1 c2 hi => by rw [zset_ne (by omega)]; exact g26b 0 c i (by omega) c1 c2 hi)⟩
    by_cases e : j = k
    · subst e
      have rows8 : ∀ i, i < 6 → xLay j r (114 + 6 * j + i) = kcp8 r (114 + 6 * j) 6 (114 + 6 * j + i) := fun i hi => by
        unfold xLay
        rw [zset_ne (by omega), zset_ne (by omega), kcp1_o (by omega)]
      have rows1 : ∀ i, i < 4 → xLay j r (146 + 4 * j + i) = kcp1 (kcp8 r (114 + 6 * j) 6) (146 + 4 * j) 138 (146 + 4 * j + i) := fun i hi => by
        unfold xLay
        rw [zset_ne (by omega), zset_ne (by omega)]
      have hL8 : xPl t p 138 0 (kcp8 r (114 + 6 * j) 6) rm := hL.fr (fun i hi => kcp8_o (by omega)) rfl (fun _ _ _ _ _ => rfl)
      refine ⟨(h6.cp (n := 114 + 6 * j) hp).eq hp rows8 (fun i hi => ?_), (hL8.cp (n := 146 + 4 * j) (b := 1 + j) (rm1 := zset u8 35 (zcp (rm 32) (rm 35) 0 (31 * j) 31)) (by rw [zset_ne (by decide)]; exact g25b) (fun c i c1 c2 hi => by rw [zset_ne (by omega)]; exact g26 c i c1 c2 hi)).fr rows1 rfl (fun _ _ _ _ _ => rfl)⟩
      show zset u8 35 (zcp (rm 32) (rm 35) 0 (31 * j) 31) 35 (31 * j + i) = rm 32 i
      rw [zset_eq]
      show (if 31 * j ≤ 31 * j + i ∧ 31 * j + i < 31 * j + 31 then rm 32 (0 + (31 * j + i - 31 * j)) else rm 35 (31 * j + i)) = _
      rw [if_pos (by omega), show 0 + (31 * j + i - 31 * j) = i by omega]
    · have hz : ¬ rm 37 j = 0 := by
        have hz2 : ¬ u8 37 j = 0 := hz
        rw [g37, pk_un e] at hz2; exact hz2
      obtain ⟨q1, q2⟩ := hR j hj hz
      have rows8 : ∀ i, i < 6 → xLay k r (114 + 6 * j + i) = r (114 + 6 * j + i) := fun i hi => by
        unfold xLay
        rw [zset_ne (by omega), zset_ne (by omega), kcp1_o (by omega), kcp8_o (by omega)]
      have rows1 : ∀ i, i < 4 → xLay k r (146 + 4 * j + i) = r (146 + 4 * j + i) := fun i hi => by
        unfold xLay
        rw [zset_ne (by omega), zset_ne (by omega), kcp1_o (by omega), kcp8_o (by omega)]
      refine ⟨q1.eq hp rows8 (fun i hi => ?_), q2.fr rows1 (by rw [zset_ne (by decide)]; exact g25 _ (by omega)) (fun c i c1 c2 hi => by rw [zset_ne (by omega)]; exact g26b _ c i (by omega) c1 c2 hi)⟩
      show zset u8 35 (zcp (rm 32) (rm 35) 0 (31 * k) 31) 35 (31 * j + i) = rm 35 (31 * j + i)
      rw [zset_eq]
      show (if 31 * k ≤ 31 * j + i ∧ 31 * j + i < 31 * k + 31 then rm 32 (0 + (31 * j + i - 31 * k)) else rm 35 (31 * j + i)) = _
      rw [if_neg (by omega)]
  · rw [if_neg hb, if_neg hb, (hM k hk).1]
    by_cases hz : rm 37 k = 0
    · rw [if_pos hz, if_pos hz]
      exact same
    · rw [if_neg hz, if_neg hz]
      unfold Gm_mark_29
      simp only [zifQ, zletQ, xzn (show k < 2 ^ 31 by omega), e1, e31, xzn (show 31 * k < 2 ^ 31 by omega), if_neg hb]
      have l := xlaysL (a := nI (1 + k)) (b := 0) (r := zset (zset rm 100 (fun _ => 0)) 37 (upd (zset rm 100 (fun _ => 0) 37) k 1)) (q := qm)
      obtain ⟨l1, l2, l3, l4⟩ := xlaysX2 (a := 1 + k) (b := 0) (r := zset (zset rm 100 (fun _ => 0)) 37 (upd (zset rm 100 (fun _ => 0) 37) k 1)) (q := qm) (by omega) (by omega) (by omega)
      rw [show nI 0 = (0 : Int32) from nI_0] at l1 l2 l3 l4
      generalize Gm_laysLines (nI (1 + k)) 0 (zset (zset rm 100 (fun _ => 0)) 37 (upd (zset rm 100 (fun _ => 0) 37) k 1)) qm = u6 at l l1 l2 l3 l4 ⊢
      obtain ⟨_, s2⟩ := xseenL (a := nI (1 + k)) (b := 0) (r := u6) (q := qm)
      generalize Gm_laysSeen (nI (1 + k)) 0 u6 qm = u8 at s2 ⊢
      have g : ∀ c, [25, 26, 27, 28, 29, 30, 31, 37, 100].contains c = false → u8 c = rm c := fun c hc => by
        have f : zFr [25, 26, 27, 28, 29, 30, 31, 37, 100] rm u8 := (((zFr.refl.set (M := [25, 26, 27, 28, 29, 30, 31, 37, 100]) (k := 100) rfl).set (k := 37) rfl).tr l (by decide)).tr s2 (by decide)
        exact f c hc
      have g37 : u8 37 = upd (rm 37) k 1 := by rw [s2 37 rfl, l 37 rfl, zset_eq]; rfl
      have g25 : ∀ o, o ≠ 0 → u8 25 o = rm 25 o := fun o ho => by rw [s2 25 rfl, l1 o ho]; rfl
      have g25b : u8 25 0 = rm 25 (1 + k) := by rw [s2 25 rfl, l2]; rfl
      have s26 : ∀ c, 26 ≤ c → c ≤ 28 → u8 c = u6 c := fun c c1 c2 => by
        rcases (show c = 26 ∨ c = 27 ∨ c = 28 by omega) with rfl | rfl | rfl <;> exact s2 _ rfl
      have z26 : ∀ c o, 26 ≤ c → c ≤ 28 → zset (zset rm 100 (fun _ => 0)) 37 (upd (zset rm 100 (fun _ => 0) 37) k 1) c o = rm c o := fun c o c1 c2 => by rw [zset_ne (by omega), zset_ne (by omega)]
      have g26 : ∀ c i, 26 ≤ c → c ≤ 28 → i < 40 → u8 c (40 * 0 + i) = rm c (40 * (1 + k) + i) := fun c i c1 c2 hi => by rw [s26 c c1 c2, l3 c i c1 c2 hi, z26 c _ c1 c2]
      have g26b : ∀ o c i, o ≠ 0 → 26 ≤ c → c ≤ 28 → i < 40 → u8 c (40 * o + i) = rm c (40 * o + i) := fun o c i ho c1 c2 hi => by rw [s26 c c1 c2, l4 o c i ho c1 c2 hi, z26 c _ c1 c2]
      clear l l1 l2 l3 l4 s2 s26 z26
      have e35 : u8 35 = rm 35 := g 35 rfl
      have e32 : u8 32 = rm 32 := g 32 rfl
      obtain ⟨q1, q2⟩ := hR k hk hz
      show xSt t p 6 (xBack k r q) (zset (zset u8 32 (zcp (u8 35) (u8 32) (31 * k) 0 31)) 151 (fun _ => 0) 32) ∧ xPs t p (xBack k r q) (zset (zset u8 32 (zcp (u8 35) (u8 32) (31 * k) 0 31)) 151 (fun _ => 0)) ∧ xMr t p (xBack k r q) (zset (zset u8 32 (zcp (u8 35) (u8 32) (31 * k) 0 31)) 151 (fun _ => 0)) ∧ xPl t p 138 0 (xBack k r q) (zset (zset u8 32 (zcp (u8 35) (u8 32) (31 * k) 0 31)) 151 (fun _ => 0))
      rw [e35, e32]
      have hx : ∀ a, a ≠ 195 → a ≠ 162 → xBack k r q a = kcp1 (kcp8 r 6 (114 + 6 * k)) 138 (146 + 4 * k) a := fun a a1 a2 => by
        unfold xBack Gk_forgetPast
        simp only [zletQ]
        rw [zset_ne a1, zset_ne a1, zset_ne a2]
      have h13 : xBack k r q 195 13 = 0 ∧ xBack k r q 195 14 = 0 := by
        unfold xBack Gk_forgetPast
        simp only [zletQ]
        rw [zset_eq]
        refine ⟨?_, pk_us⟩
        rw [pk_un (by decide), zset_eq, pk_us]
      have q2' : xPl t p (146 + 4 * k) (1 + k) (kcp8 r 6 (114 + 6 * k)) rm := q2.fr (fun i hi => kcp8_o (by omega)) rfl (fun _ _ _ _ _ => rfl)
      refine ⟨(q1.cp (n := 6) hp).eq hp (fun i hi => by rw [hx _ (by omega) (by omega), kcp1_o (by omega)]) (fun i hi => ?_), xPs.nil h13.1 h13.2 (by rw [zset_eq]), fun j hj hz2 => ?_, (q2'.cp (n := 138) (b := 0) (rm1 := zset (zset u8 32 (zcp (rm 35) (rm 32) (31 * k) 0 31)) 151 (fun _ => 0)) (by rw [zset_ne (by decide), zset_ne (by decide)]; exact g25b) (fun c i c1 c2 hi => by rw [zset_ne (by omega), zset_ne (by omega)]; exact g26 c i c1 c2 hi)).fr (fun i hi => hx _ (by omega) (by omega)) rfl (fun _ _ _ _ _ => rfl)⟩
      · show zset (zset u8 32 (zcp (rm 35) (rm 32) (31 * k) 0 31)) 151 (fun _ => 0) 32 i = rm 35 (31 * k + i)
        rw [zset_ne (by decide), zset_eq]
        show (if 0 ≤ i ∧ i < 0 + 31 then rm 35 (31 * k + (i - 0)) else rm 32 i) = _
        rw [if_pos (by omega), show i - 0 = i by omega]
      · have hz3 : ¬ rm 37 j = 0 := by
          by_cases e : j = k
          · subst e; exact hz
          · have hz2 : ¬ u8 37 j = 0 := hz2
            rw [g37, pk_un e] at hz2; exact hz2
        obtain ⟨p1, p2⟩ := hR j hj hz3
        refine ⟨p1.eq hp (fun i hi => by rw [hx _ (by omega) (by omega), kcp1_o (by omega), kcp8_o (by omega)]) (fun i hi => ?_), p2.fr (fun i hi => by rw [hx _ (by omega) (by omega), kcp1_o (by omega), kcp8_o (by omega)]) (by rw [zset_ne (by decide), zset_ne (by decide)]; exact g25 _ (by omega)) (fun c i c1 c2 hi => by rw [zset_ne (by omega), zset_ne (by omega)]; exact g26b _ c i (by omega) c1 c2 hi)⟩
        show zset (zset u8 32 (zcp (rm 35) (rm 32) (31 * k) 0 31)) 151 (fun _ => 0) 35 (31 * j + i) = rm 35 (31 * j + i)
        rw [zset_ne (by decide), zset_ne (by decide), e35]
end XPL
