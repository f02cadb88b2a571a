/-! ===== answers: meeting ===== -/
noncomputable def yM (W : Nat → Int32) : Nat → Int32
  | 0 => 0
  | k + 1 => if yM W k = -1 then -1 else if W k = -1 then -1 else if yM W k < W k then W k else yM W k
theorem yM_s {W : Nat → Int32} {k : Nat} : yM W (k + 1) = if yM W k = -1 then -1 else if W k = -1 then -1 else if yM W k < W k then W k else yM W k := rfl
theorem yM_no {W : Nat → Int32} {k : Nat} (h : yM W k = -1) : ∀ d, yM W (k + d) = -1 := by
  intro d
  induction d with
  | zero => exact h
  | succ d ih => rw [← Nat.add_assoc, yM_s, if_pos ih]
theorem sW_rng {X : Nat → Nat} {u : Nat} : ∀ c k, c + k ≤ 100 → sW X u c k = -1 ∨ ∃ m, m < 100 ∧ sW X u c k = nI m := by
  intro c
  induction c with
  | zero => intro k _; exact Or.inl rfl
  | succ c ih =>
    intro k h
    rw [sW_s]
    by_cases e : (X k).testBit u = true
    · rw [if_pos e]; exact Or.inr ⟨k, by omega, rfl⟩
    · rw [if_neg e]; exact ih (k + 1) (by omega)
theorem yM_rng {W : Nat → Int32} (hW : ∀ k, W k = -1 ∨ ∃ m, m < 100 ∧ W k = nI m) : ∀ k, yM W k = -1 ∨ ∃ m, m < 100 ∧ yM W k = nI m := by
  intro k
  induction k with
  | zero => exact Or.inr ⟨0, by omega, nI_0.symm⟩
  | succ k ih =>
    rw [yM_s]
    by_cases c : yM W k = -1
    · rw [if_pos c]; exact Or.inl rfl
    · rw [if_neg c]
      by_cases d : W k = -1
      · rw [if_pos d]; exact Or.inl rfl
      · rw [if_neg d]
        by_cases e : yM W k < W k
        · rw [if_pos e]; exact Or.inr ((hW k).resolve_left d)
        · rw [if_neg e]; exact Or.inr (ih.resolve_left c)
theorem fm_whenAt {a b : Int32} {r : zRr} {q : zRq} : zFr [15, 16, 17, 18, 19, 20, 21, 22, 23, 24, 32, 34] r (Gm_whenAt a b r q).2 := by
  have k : ∀ (n : Nat) (v w : Int32) (r : zRr), zFr [15, 16, 17, 18, 19, 20, 21, 22, 23, 24, 32, 34] r (Gm_whenAt_32 a b q n v w r).2 := by
    intro n
    induction n with
    | zero => intro v w r; exact zFr.refl
    | succ n ih =>
      intro v w r
      have e0 : Gm_whenAt_32 a b q (n + 1) v w r = Bm_whenAt_32 a b q (Gm_whenAt_32 a b q n) v w r := rfl
      have e64 : zFr [15, 16, 17, 18, 19, 20, 21, 22, 23, 24, 32, 34] r (Gm_whenAt_64 w r).2 := by
        unfold Gm_whenAt_64
        simp only [zletQ, zifQ]
        split
        · exact zFr.refl.set rfl
        · exact zFr.refl.set rfl
      rw [e0]
      unfold Bm_whenAt_32
      simp only [zletQ, zifQ, zifnQ]
      split
      · exact e64
      · split
        · rw [zc_vrQ]
          exact (((fm_passes (q := q)).up (by decide)).tr (fm_reachFrom (q := q)) (by decide)).tr (ih _ _ _) (by decide)
        · exact e64
  unfold Gm_whenAt
  simp only [zletQ]
  rw [zc_vrQ]
  exact ((zFr.refl.set rfl).tr (fm_reachFrom (q := q)) (by decide)).tr (k 101 _ _ _) (by decide)
section XMT
variable {Lf : xLT} {t p : Nat} {E S : Nat → Nat → Int32} {q : zRq}
noncomputable def sWh (Lf : xLT) (t p : Nat) (E S : Nat → Nat → Int32) (u j : Nat) : Int32 := sW (sX Lf t p E S j (2 ^ zn (S 1 j))) u 100 0
/-- the reference: whenAt -/
theorem mWhA {rm : zRr} (hE : xMe Lf t p E 0 rm) (hS : xMs t p S (rm 32)) (hz : xZr p (rm 32)) (hR : xRd t E) {j u : Nat} (hj : j < p) (hu : u < t) : (Gm_whenAt (nI j) (nI u) rm q).1 = sWh Lf t p E S u j := by
  have ht := hE.2.1.1
  have hp := hE.2.1.2
  obtain ⟨k, hk, ek⟩ := (hS.2 j hj).1
  have hx : 2 ^ k < 2 ^ t := Nat.pow_lt_pow_right (by decide) hk
  have n1 : (1 : Int32) + nI j = nI (1 + j) := nI_add 1 j
  unfold sWh Gm_whenAt
  rw [ek, xzn (show k < 2 ^ 31 by omega)]
  simp only [zletQ, n1, xzn (show 1 + j < 2 ^ 31 by omega)]
  have mE : xMe Lf t p E 0 (zset rm 34 (zcp (rm 32) (rm 34) 0 0 31)) := hE.fr (zFr.refl.set (M := [34]) rfl) (by decide)
  have mS : xMs t p S (zset rm 34 (zcp (rm 32) (rm 34) 0 0 31) 32) := hS
  have mZ : xZr p (zset rm 34 (zcp (rm 32) (rm 34) 0 0 31) 32) := hz
  generalize zset rm 34 (zcp (rm 32) (rm 34) 0 0 31) = rm1 at mE mS mZ ⊢
  have k7 : rm1 32 (1 + j) = nI k := (mS.2 j hj).2.1.trans ek
  rw [k7, nOne (show k < 6 by omega)]
  obtain ⟨m3, w3, e3⟩ := mRch (q := q) mE mS hR hj hx (two0 k)
  rw [e3, xcvr (r := m3)]
  have kk := mWhn (Lf := Lf) (S := S) (q := q) hR hj hu hx (two0 k) 101 0 m3 (by omega) (by omega) (mE.fr w3 (by decide)) (mS.fr (w3 32 rfl)) (by rw [w3 32 rfl]; exact mZ)
  rw [nI_0] at kk
  exact kk
theorem mMeets {rm0 : zRr} (hE : xMe Lf t p E 0 rm0) (hS : xMs t p S (rm0 32)) (hz : xZr p (rm0 32)) (hR : xRd t E) {u : Nat} (hu : u < t) : ∀ (n k : Nat) (rm : zRr), k ≤ p → p < n + k → ¬ yM (sWh Lf t p E S u) k = -1 → zFr [15, 16, 17, 18, 19, 20, 21, 22, 23, 24, 32, 34] rm0 rm → zRs rm0 rm → (Gm_meetsAt_4 (nI u) q n (yM (sWh Lf t p E S u) k) (nI k) rm).1 = yM (sWh Lf t p E S u) p := by
  have ht := hE.2.1.1
  have hp := hE.2.1.2
  intro n
  induction n with
  | zero => intro k rm h1 h2; omega
  | succ n ih =>
    intro k rm h1 h2 hn g2 g3
    have e0 : Gm_meetsAt_4 (nI u) q (n + 1) (yM (sWh Lf t p E S u) k) (nI k) rm = Bm_meetsAt_4 (nI u) q (Gm_meetsAt_4 (nI u) q n) (yM (sWh Lf t p E S u) k) (nI k) rm := rfl
    have hE3 := hE.fr g2 (by decide)
    have hS3 := hS.eq hp g3
    have hz3 : xZr p (rm 32) := fun j a1 a2 => by rw [g3 (13 + j) (by omega), g3 (19 + j) (by omega)]; exact hz j a1 a2
    rw [e0]
    unfold Bm_meetsAt_4
    simp only [zletQ, zifQ, hE3.1.2.1, nI_1]
    by_cases e : k = p
    · subst e; rw [if_pos (nI_leP (by omega) (by omega) (by omega))]
    · rw [if_neg (nI_leN (by omega) (by omega) (by omega)), zc_vrQ]
      have hw := mWhA (q := q) hE3 hS3 hz3 hR (j := k) (by omega) hu
      have rs := rs_whenAt (a1 := nI k) (a2 := nI u) (q := q) (r := rm)
      have fm := fm_whenAt (a := nI k) (b := nI u) (r := rm) (q := q)
      rw [hw]
      have hr := sW_rng (X := sX Lf t p E S k (2 ^ zn (S 1 k))) (u := u) 100 0 (by omega)
      have hs := yM_s (W := sWh Lf t p E S u) (k := k)
      rw [if_neg hn] at hs
      by_cases c : sWh Lf t p E S u k = -1
      · rw [c, if_neg (show ¬ (0 : Int32) ≤ -1 by decide)]
        rw [if_pos c] at hs
        have := yM_no hs (p - (k + 1))
        rw [show k + 1 + (p - (k + 1)) = p by omega] at this
        exact this.symm
      · obtain ⟨m, hm, em⟩ := hr.resolve_left c
        have em : sWh Lf t p E S u k = nI m := em
        have hge : (0 : Int32) ≤ sWh Lf t p E S u k := by
          rw [em]
          have := nI_leP (a := 0) (b := m) (by omega) (by omega) (by omega)
          rw [nI_0] at this; exact this
        rw [if_pos hge]
        rw [if_neg c] at hs
        rw [← hs]
        refine ih (k + 1) _ (by omega) (by omega) ?_ (g2.tr fm (by decide)) (g3.tr rs)
        intro hbad
        rw [hs] at hbad
        by_cases d : yM (sWh Lf t p E S u) k < sWh Lf t p E S u k
        · rw [if_pos d] at hbad; exact c hbad
        · rw [if_neg d] at hbad; exact hn hbad
end XMT
theorem xAll6 : ∀ t : Fin 7, ((1 : Int32) <<< (nI t.val &&& 31)) - 1 = nI (2 ^ t.val - 1) := by decide
section XMK
variable {Lf : xLT} {t p : Nat} {E S : Nat → Nat → Int32} {q : zRq}
theorem kWait {r0 : zRr} (ht : t ≤ 6) (h9 : r0 171 9 = nI t) : zFr [204] r0 (Gk_waitForSoonest r0 q) ∧ ∀ u, u < t → Gk_waitForSoonest r0 q 204 u = if r0 204 u = -1 then -1 else if r0 203 u = -1 then -1 else if r0 204 u < r0 203 u then r0 203 u else r0 204 u := by
  unfold Gk_waitForSoonest
  exact xLpS (p := t) (G := Gk_waitForSoonest_2) (I := fun k r1 => zFr [204] r0 r1 ∧ ∀ u, u < t → r1 204 u = if u < k then (if r0 204 u = -1 then -1 else if r0 203 u = -1 then -1 else if r0 204 u < r0 203 u then r0 203 u else r0 204 u) else r0 204 u) (Q := fun r1 => zFr [204] r0 r1 ∧ ∀ u, u < t → r1 204 u = if r0 204 u = -1 then -1 else if r0 203 u = -1 then -1 else if r0 204 u < r0 203 u then r0 203 u else r0 204 u) (by
    intro n i r2 hi ⟨f2, c2⟩
    have e0 : Gk_waitForSoonest_2 (n + 1) (nI i) r2 = Bk_waitForSoonest_2 (Gk_waitForSoonest_2 n) (nI i) r2 := rfl
    have k9 : r2 171 9 = nI t := by rw [f2 171 rfl]; exact h9
    have k4 : r2 204 i = r0 204 i := by rw [c2 i hi, if_neg (by omega)]
    have k3 : r2 203 i = r0 203 i := by rw [f2 203 rfl]
    rw [e0]
    unfold Bk_waitForSoonest_2 Gk_waitForSoonest_33 Gk_waitForSoonest_38 Gk_waitForSoonest_67
    simp only [zletQ, zifQ, zifnQ, k9, nI_1, xzn (show i < 2 ^ 31 by omega), k4, k3, if_neg (show ¬ (1 : Int32) = 0 by decide), if_true]
    rw [if_neg (nI_leN (by omega) (by omega) (by omega))]
    have fin : ∀ v, (v = if r0 204 i = -1 then -1 else if r0 203 i = -1 then -1 else if r0 204 i < r0 203 i then r0 203 i else r0 204 i) → (zFr [204] r0 (zset r2 204 (upd (r2 204) i v)) ∧ ∀ u, u < t → zset r2 204 (upd (r2 204) i v) 204 u = if u < i + 1 then (if r0 204 u = -1 then -1 else if r0 203 u = -1 then -1 else if r0 204 u < r0 203 u then r0 203 u else r0 204 u) else r0 204 u) := fun v hv => ⟨f2.set rfl, fun u hu => by
      rw [zset_eq]
      by_cases e : u = i
      · subst e; rw [pk_us, if_pos (by omega)]; exact hv
      · rw [pk_un e, c2 u hu]
        by_cases l : u < i
        · rw [if_pos l, if_pos (show u < i + 1 by omega)]
        · rw [if_neg l, if_neg (by omega)]⟩
    by_cases c : r0 204 i = -1
    · rw [if_pos c]
      exact ⟨_, fin (-1) (by rw [if_pos c]), rfl⟩
    · rw [if_neg c]
      by_cases d : r0 203 i = -1
      · rw [if_pos d]
        exact ⟨_, fin (-1) (by rw [if_neg c, if_pos d]), rfl⟩
      · rw [if_neg d]
        exact ⟨_, fin (if r0 204 i < r0 203 i then r0 203 i else r0 204 i) (by rw [if_neg c, if_neg d]), rfl⟩) (by
    intro n r2 ⟨f2, c2⟩
    have e0 : Gk_waitForSoonest_2 (n + 1) (nI t) r2 = Bk_waitForSoonest_2 (Gk_waitForSoonest_2 n) (nI t) r2 := rfl
    have k9 : r2 171 9 = nI t := by rw [f2 171 rfl]; exact h9
    rw [e0]
    unfold Bk_waitForSoonest_2
    simp only [zletQ, zifQ, k9]
    rw [if_pos (nI_leP (by omega) (by omega) (by omega))]
    exact ⟨f2, fun u hu => by rw [c2 u hu, if_pos hu]⟩) 7 0 r0 (by omega) (by omega) ⟨zFr.refl, fun u hu => by rw [if_neg (by omega)]⟩
theorem kMt24 {r0 : zRr} (hE : xCe Lf t p E r0) (hS : xCs t p 6 S r0) (hR : xRd t E) {a : Int32} : ∀ (n k : Nat) (r : zRr), k ≤ p → p < n + k → zFr [0, 1, 2, 3, 4, 5, 182, 202, 203, 204] r0 r → (∀ u, u < t → r 204 u = yM (sWh Lf t p E S u) k) → ∃ r1, zFr [0, 1, 2, 3, 4, 5, 182, 202, 203, 204] r0 r1 ∧ (∀ u, u < t → r1 204 u = yM (sWh Lf t p E S u) p) ∧ Gk_meeting_24 a q n (nI k) r = Gk_meeting_71 a 7 (-1) 0 r1 := by
  have ht := hE.2.1.1
  have hp := hE.2.1.2
  intro n
  induction n with
  | zero => intro k r h1 h2; omega
  | succ n ih =>
    intro k r h1 h2 g1 h4
    have e0 : Gk_meeting_24 a q (n + 1) (nI k) r = Bk_meeting_24 a q (Gk_meeting_24 a q n) (nI k) r := rfl
    have hE2 := hE.fr g1 (by decide)
    have hS2 := hS.sN g1 rfl rfl rfl rfl rfl rfl
    rw [e0]
    unfold Bk_meeting_24 Gk_allTowns
    simp only [zletQ, zifQ, hE2.1.2.1, hE2.1.1, nI_1]
    by_cases e : k = p
    · subst e
      rw [if_pos (nI_leP (by omega) (by omega) (by omega))]
      exact ⟨r, g1, h4, rfl⟩
    · rw [if_neg (nI_leN (by omega) (by omega) (by omega)), xAll6 ⟨t, by omega⟩]
      obtain ⟨b, hb, eb⟩ := (hS.2 k (by omega)).1
      have hall : 2 ^ t - 1 < 64 := p64 (t := t) ht (by have := Nat.two_pow_pos t; omega)
      obtain ⟨f, c⟩ := kFsn (q := q) hE2 hS2 hR (j := k) (a := b) (wn := 2 ^ t - 1) (by omega) hb eb hall
      have kF204 : Gk_findSoonest (nI k) (nI (2 ^ t - 1)) r q 204 = r 204 := f 204 rfl
      generalize Gk_findSoonest (nI k) (nI (2 ^ t - 1)) r q = r5 at f c kF204 ⊢
      have h9 : r5 171 9 = nI t := by rw [f 171 rfl]; exact hE2.1.1
      obtain ⟨f6, c6⟩ := kWait (q := q) ht h9
      generalize Gk_waitForSoonest r5 q = r6 at f6 c6 ⊢
      refine ih (k + 1) r6 (by omega) (by omega) (((g1.tr f (by decide))).tr f6 (by decide)) (fun u hu => ?_)
      have hw : r5 203 u = sWh Lf t p E S u k := by
        rw [c u hu (by rw [Nat.testBit_two_pow_sub_one]; exact decide_eq_true hu)]
        unfold sWh; rw [eb, xzn (show b < 2 ^ 31 by omega)]
      rw [c6 u hu, kF204, h4 u hu, hw, yM_s]
/-- the first of the soonest -/
theorem xMt71 {rk rm0 : zRr} {qm : zRq} (hE : xMe Lf t p E 0 rm0) (hS : xMs t p S (rm0 32)) (hz : xZr p (rm0 32)) (hR : xRd t E) (h9 : rk 171 9 = nI t) (h4 : ∀ u, u < t → rk 204 u = yM (sWh Lf t p E S u) p) {a : Int32} (ha : a = 0 ∨ a = 1) : ∀ (n u : Nat) (b l : Int32) (rm : zRr), u ≤ t → t < n + u → zFr [15, 16, 17, 18, 19, 20, 21, 22, 23, 24, 32, 34] rm0 rm → zRs rm0 rm → ((b = -1 ∧ l = -1) ∨ ∃ k, k < u ∧ b = nI k ∧ l = yM (sWh Lf t p E S k) p) → (Gk_meeting_71 a n b (nI u) rk).1 = (Gm_meeting_23 a qm n b l (nI u) rm).1 := by
  have ht := hE.2.1.1
  have hp := hE.2.1.2
  intro n
  induction n with
  | zero => intro u b l rm h1 h2; omega
  | succ n ih =>
    intro u b l rm h1 h2 g2 g3 hb
    have e0 : Gk_meeting_71 a (n + 1) b (nI u) rk = Bk_meeting_71 a (Gk_meeting_71 a n) b (nI u) rk := rfl
    have e1 : Gm_meeting_23 a qm (n + 1) b l (nI u) rm = Bm_meeting_23 a qm (Gm_meeting_23 a qm n) b l (nI u) rm := rfl
    have hE3 := hE.fr g2 (by decide)
    have hS3 := hS.eq hp g3
    have hz3 : xZr p (rm 32) := fun j a1 a2 => by rw [g3 (13 + j) (by omega), g3 (19 + j) (by omega)]; exact hz j a1 a2
    rw [e0, e1]
    unfold Bk_meeting_71 Bm_meeting_23 Gk_meeting_118 Gk_meeting_120 Gm_meeting_60 Gm_meeting_66
    simp only [zletQ, zifQ, zifnQ, h9, hE3.1.1, nI_1, xzn (show u < 2 ^ 31 by omega)]
    by_cases e : u = t
    · subst e
      rw [if_pos (nI_leP (by omega) (by omega) (by omega)), if_pos (nI_leP (by omega) (by omega) (by omega))]
      rcases hb with ⟨b1, b2⟩ | ⟨k, hk, b1, b2⟩
      · rw [b1, b2, if_pos rfl]
        split <;> rfl
      · rw [b1, b2, if_neg (nIm1 (by omega)), xzn (show k < 2 ^ 31 by omega), h4 k hk]
        rcases ha with h | h
        · rw [h, if_neg (show ¬ (0 : Int32) = 1 by decide), if_pos rfl]
        · rw [h, if_pos rfl, if_neg (show ¬ (1 : Int32) = 0 by decide)]
    · rw [if_neg (nI_leN (by omega) (by omega) (by omega)), if_neg (nI_leN (by omega) (by omega) (by omega)), zc_vrQ]
      have hu : u < t := by omega
      have hm : (Gm_meetsAt (nI u) rm qm).1 = yM (sWh Lf t p E S u) p := by
        unfold Gm_meetsAt
        exact mMeets (q := qm) hE3 hS3 hz3 hR hu 7 0 rm (by omega) (by omega) (by show ¬ (0 : Int32) = -1; decide) zFr.refl zRs.refl
      have fmm : zFr [15, 16, 17, 18, 19, 20, 21, 22, 23, 24, 32, 34] rm (Gm_meetsAt (nI u) rm qm).2 := by
        have k : ∀ (n : Nat) (v w : Int32) (r : zRr), zFr [15, 16, 17, 18, 19, 20, 21, 22, 23, 24, 32, 34] r (Gm_meetsAt_4 (nI u) qm n v w r).2 := by
          intro n
          induction n with
          | zero => intro v w r; exact zFr.refl
          | succ n ih =>
            intro v w r
            have e0 : Gm_meetsAt_4 (nI u) qm (n + 1) v w r = Bm_meetsAt_4 (nI u) qm (Gm_meetsAt_4 (nI u) qm n) v w r := rfl
            rw [e0]
            unfold Bm_meetsAt_4
            simp only [zletQ, zifQ]
            split
            · exact zFr.refl
            · rw [zc_vrQ]
              split
              · exact fm_whenAt.tr (ih _ _ _) (by decide)
              · exact fm_whenAt
        unfold Gm_meetsAt
        exact k 7 0 0 rm
      have rsm : zRs rm (Gm_meetsAt (nI u) rm qm).2 := by
        unfold Gm_meetsAt
        exact rs_meetsAt_4 7 0 0 rm
      have hr := yM_rng (W := sWh Lf t p E S u) (fun k => sW_rng 100 0 (by omega)) p
      rw [hm, h4 u hu]
      have K := fun b l hb => ih (u + 1) b l (Gm_meetsAt (nI u) rm qm).2 (by omega) (by omega) (g2.tr fmm (by decide)) (g3.tr rsm) hb
      by_cases c : yM (sWh Lf t p E S u) p = -1
      · rw [c, if_pos rfl, if_pos (show (-1 : Int32) < 0 by decide)]
        refine K _ _ ?_
        rcases hb with h | ⟨k, hk, b1, b2⟩
        · exact Or.inl h
        · exact Or.inr ⟨k, by omega, b1, b2⟩
      · obtain ⟨m, hm2, em⟩ := hr.resolve_left c
        have c0 : ¬ yM (sWh Lf t p E S u) p < 0 := by rw [em]; exact fun h => by have := (nI_ltI (b := 0) (by omega) (by omega)).mp h; omega
        rw [if_neg c, if_neg c0]
        rcases hb with ⟨b1, b2⟩ | ⟨k, hk, b1, b2⟩
        · rw [b1, b2, if_pos rfl, if_pos (show (-1 : Int32) < 0 by decide)]
          exact K _ _ (Or.inr ⟨u, by omega, rfl, rfl⟩)
        · have hk0 : ¬ nI k < 0 := (xnn (j := k) (by omega)).2.1
          rw [b1, b2, if_neg (nIm1 (by omega)), if_neg hk0, xzn (show k < 2 ^ 31 by omega), h4 k (by omega)]
          by_cases d : yM (sWh Lf t p E S u) p < yM (sWh Lf t p E S k) p
          · have d' : ¬ yM (sWh Lf t p E S k) p ≤ yM (sWh Lf t p E S u) p := fun h => by rw [Int32.le_iff_toInt_le] at h; rw [Int32.lt_iff_toInt_lt] at d; omega
            rw [if_neg d', if_pos d]
            exact K _ _ (Or.inr ⟨u, by omega, rfl, rfl⟩)
          · have d' : yM (sWh Lf t p E S k) p ≤ yM (sWh Lf t p E S u) p := by rw [Int32.le_iff_toInt_le]; rw [Int32.lt_iff_toInt_lt] at d; omega
            rw [if_pos d', if_neg d]
            exact K _ _ (Or.inr ⟨k, by omega, rfl, rfl⟩)
end XMK
theorem xMeetW {t p : Nat} {r rm : zRr} {q qm : zRq} {a : Int32} (h : xHow t p r q rm qm) : (Gk_meeting a r q).1 = (Gm_meeting a rm qm).1 := by
  have ht := h.le.1
  have hp := h.le.2
  have h1 := h.z100
  obtain ⟨hE, hE'⟩ := h1.E
  obtain ⟨S, s1, s2, s3⟩ := h1.2.1
  have go : a = 0 ∨ a = 1 → (Gk_meeting_11 a r q).1 = (Gm_meeting_23 a qm 7 (-1) (-1) 0 (zset rm 100 (fun _ => 0))).1 := by
    intro ha
    unfold Gk_meeting_11
    rw [zletQ]
    have f0 : zFr [204] r (zset r 204 (zfl (r 204) 0 6)) := zFr.refl.set rfl
    have z0 : ∀ u, u < t → zset r 204 (zfl (r 204) 0 6) 204 u = 0 := fun u hu => by
      rw [zset_eq]; exact if_pos (by omega)
    obtain ⟨r1, f1, c1, e1⟩ := kMt24 (q := q) (a := a) hE s1 h.R 7 0 (zset r 204 (zfl (r 204) 0 6)) (by omega) (by omega) (f0.up (by decide)) z0
    rw [nI_0] at e1
    rw [e1]
    have h9 : r1 171 9 = nI t := by rw [f1 171 rfl]; exact hE.1.1
    exact xMt71 (Lf := sL r) (E := sE r) (S := S) hE' s2 s3 h.R h9 c1 ha 7 0 (-1) (-1) _ (by omega) (by omega) zFr.refl zRs.refl (Or.inl ⟨rfl, rfl⟩)
  unfold Gk_meeting Gm_meeting Gm_within
  simp only [zletQ, zifQ, zifnQ]
  by_cases a0 : a = 0
  · subst a0
    rw [if_pos rfl, if_neg (show ¬ (0 : Int32) < 0 by decide), if_neg (show ¬ (1 : Int32) < 0 by decide), if_neg (show ¬ (1 : Int32) = 0 by decide)]
    exact go (Or.inl rfl)
  · rw [if_neg a0]
    by_cases a1 : a = 1
    · subst a1
      rw [if_pos rfl, if_neg (show ¬ (1 : Int32) < 0 by decide), if_neg (show ¬ (1 : Int32) < 1 by decide), if_neg (show ¬ (1 : Int32) = 0 by decide)]
      exact go (Or.inr rfl)
    · rw [if_neg a1]
      by_cases c : a < 0
      · rw [if_pos c, if_pos (show (0 : Int32) = 0 from rfl)]
      · have c1 : 1 < a := by
          have e0 : (0 : Int32).toInt = 0 := by decide
          have e1 : (1 : Int32).toInt = 1 := by decide
          have n0 : a.toInt ≠ 0 := fun h => a0 (Int32.toInt_inj.mp (h.trans e0.symm))
          have n1 : a.toInt ≠ 1 := fun h => a1 (Int32.toInt_inj.mp (h.trans e1.symm))
          rw [Int32.lt_iff_toInt_lt] at c ⊢
          omega
        rw [if_neg c, if_pos c1, if_pos (show (0 : Int32) = 0 from rfl)]
