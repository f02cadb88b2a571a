section
/-! ===== answers: when ===== -/
theorem xSub64 : ∀ m k : Fin 64, (nI m.val &&& (nI k.val ^^^ (-1)) = 0) ↔ (m.val &&& k.val = m.val) := by decide +kernel
theorem nSub {m k : Nat} (hm : m < 64) (hk : k < 64) : (nI m &&& (nI k ^^^ (-1)) = 0) ↔ (m &&& k = m) := xSub64 ⟨m, hm⟩ ⟨k, hk⟩
/-- all that T gives lies within what R gives -/
theorem yF_in {T R : Nat → Nat} {x L t : Nat} (hTR : ∀ i, i < t → ∀ u, (T i).testBit u = true → (R i).testBit u = true) (hx : ∀ u, x.testBit u = true → L.testBit u = true) (hL : yF R L t = L) : ∀ u, (yF T x t).testBit u = true → L.testBit u = true := by
  have hR : ∀ n, n ≤ t → ∀ i, i < n → L.testBit i = true → ∀ u, (R i).testBit u = true → (yF R L n).testBit u = true := by
    intro n
    induction n with
    | zero => intro _ i hi; omega
    | succ n ih =>
      intro hn i hi hLi u hu
      rw [yF_s]
      by_cases e : i = n
      · subst e
        rw [if_pos hLi, Nat.testBit_or, hu, Bool.or_true]
      · have := ih (by omega) i (by omega) hLi u hu
        by_cases c : L.testBit n = true
        · rw [if_pos c, Nat.testBit_or, this, Bool.true_or]
        · rw [if_neg c]; exact this
  have k : ∀ n, n ≤ t → ∀ u, (yF T x n).testBit u = true → L.testBit u = true := by
    intro n
    induction n with
    | zero => intro _ u h; exact hx u h
    | succ n ih =>
      intro hn u h
      rw [yF_s] at h
      by_cases c : x.testBit n = true
      · rw [if_pos c, Nat.testBit_or, Bool.or_eq_true] at h
        rcases h with h | h
        · exact ih (by omega) u h
        · have := hR t (Nat.le_refl t) n (by omega) (hx n c) u (hTR n (by omega) u h)
          rw [hL] at this; exact this
      · rw [if_neg c] at h; exact ih (by omega) u h
  exact k t (Nat.le_refl t)
theorem yI_in {T R : Nat → Nat} {L t : Nat} (hTR : ∀ i, i < t → ∀ u, (T i).testBit u = true → (R i).testBit u = true) (hL : yF R L t = L) : ∀ k x, (∀ u, x.testBit u = true → L.testBit u = true) → ∀ u, (yI T t k x).testBit u = true → L.testBit u = true := by
  intro k
  induction k with
  | zero => intro x hx; exact hx
  | succ k ih => intro x hx; rw [yI_s]; exact ih _ (yF_in hTR hx hL)
theorem yI_le {T : Nat → Nat} {t u : Nat} : ∀ k x, x.testBit u = true → (yI T t k x).testBit u = true := by
  intro k
  induction k with
  | zero => intro x h; exact h
  | succ k ih => intro x h; rw [yI_s]; exact ih _ (yF_le h t)
section XWN
variable {Lf : xLT} {t p : Nat} {E : Nat → Nat → Int32}
/-- weeks later -/
noncomputable def sWs (E S : Nat → Nat → Int32) : Nat → Nat → Nat → Int32
  | 0 => S
  | w + 1 => sWk E (sWs E S w)
/-- whither, by which week -/
noncomputable def sX (Lf : xLT) (t p : Nat) (E S : Nat → Nat → Int32) (j x : Nat) : Nat → Nat
  | 0 => yI (sT Lf t p E (sWs E S 0) 0 j) t (t - 1) x
  | w + 1 => yI (sT Lf t p E (sWs E S (w + 1)) 0 j) t (t - 1) (sX Lf t p E S j x w)
theorem sX_lt {S : Nat → Nat → Int32} {j x : Nat} (hx : x < 2 ^ t) : ∀ w, sX Lf t p E S j x w < 2 ^ t := by
  intro w
  induction w with
  | zero => exact yI_lt sT_lt _ _ hx
  | succ w ih => exact yI_lt sT_lt _ _ ih
theorem sX_0 {S : Nat → Nat → Int32} {j x : Nat} (h : x ≠ 0) : ∀ w, sX Lf t p E S j x w ≠ 0 := by
  have k : ∀ (T : Nat → Nat) (k x : Nat), x ≠ 0 → yI T t k x ≠ 0 := by
    intro T k x hx e
    obtain ⟨i, hi⟩ := Nat.exists_testBit_of_ne_zero hx
    have := yI_le (T := T) (t := t) k x hi
    rw [e, Nat.zero_testBit] at this
    cases this
  intro w
  induction w with
  | zero => exact k _ _ _ h
  | succ w ih => exact k _ _ _ ih
/-- the first week by which u is among them, from k on -/
noncomputable def sW (X : Nat → Nat) (u : Nat) : Nat → Nat → Int32
  | 0, _ => -1
  | c + 1, k => if (X k).testBit u = true then nI k else sW X u c (k + 1)
theorem sW_s {X : Nat → Nat} {u c k : Nat} : sW X u (c + 1) k = if (X k).testBit u = true then nI k else sW X u c (k + 1) := rfl
theorem sW_no {X : Nat → Nat} {u : Nat} : ∀ c k, (∀ w, ¬ (X w).testBit u = true) → sW X u c k = -1 := by
  intro c
  induction c with
  | zero => intro k _; rfl
  | succ c ih => intro k h; rw [sW_s, if_neg (h k)]; exact ih _ h
end XWN
section XWM
variable {Lf : xLT} {t p : Nat} {E S : Nat → Nat → Int32} {rm0 : zRr} {q : zRq}
theorem mWhn (hR : xRd t E) {j u x : Nat} (hj : j < p) (hu : u < t) (hx : x < 2 ^ t) (h0 : x ≠ 0) : ∀ (n w : Nat) (rm : zRr), w ≤ 100 → 100 < n + w → xMe Lf t p E 0 rm → xMs t p (sWs E S w) (rm 32) → xZr p (rm 32) → (Gm_whenAt_32 (nI j) (nI u) q n (nI (sX Lf t p E S j x w)) (nI w) rm).1 = sW (sX Lf t p E S j x) u (100 - w) w := by
  intro n
  induction n with
  | zero => intro w rm h1 h2; omega
  | succ n ih =>
    intro w rm h1 h2 hE hS hz
    have ht := hE.2.1.1
    have e0 : Gm_whenAt_32 (nI j) (nI u) q (n + 1) (nI (sX Lf t p E S j x w)) (nI w) rm = Bm_whenAt_32 (nI j) (nI u) q (Gm_whenAt_32 (nI j) (nI u) q n) (nI (sX Lf t p E S j x w)) (nI w) rm := rfl
    rw [e0]
    unfold Bm_whenAt_32 Gm_whenAt_64
    simp only [zletQ, zifQ, zifnQ, nI_1]
    by_cases e : w = 100
    · subst e
      rw [if_pos (show (100 : Int32) ≤ nI 100 from nI_leP (a := 100) (by omega) (by omega) (by omega)), if_neg (show ¬ nI 100 ≤ (99 : Int32) from nI_leN (b := 99) (by omega) (by omega) (by omega))]
      rfl
    · rw [if_neg (show ¬ (100 : Int32) ≤ nI w from nI_leN (a := 100) (by omega) (by omega) (by omega)), show 100 - w = 100 - (w + 1) + 1 by omega, sW_s]
      have hb := nBit0 (m := sX Lf t p E S j x w) (i := u) (p64 ht (sX_lt hx w)) (by omega)
      by_cases c : (sX Lf t p E S j x w).testBit u = true
      · rw [if_neg (fun h => hb.mp h c), if_pos c, if_pos (show nI w ≤ (99 : Int32) from nI_leP (b := 99) (by omega) (by omega) (by omega))]
      · rw [if_pos (hb.mpr c), if_neg c]
        obtain ⟨v1, v2, v3⟩ := mWk (q := q) hE hS hz
        have hE2 := hE.fr v3 (by decide)
        obtain ⟨r3, f3, e3⟩ := mRch (q := q) hE2 v1 hR hj (sX_lt (Lf := Lf) (p := p) (E := E) (S := S) (j := j) hx w) (sX_0 h0 w)
        rw [e3, xcvr (r := r3)]
        exact ih (w + 1) r3 (by omega) (by omega) (hE2.fr f3 (by decide)) (v1.fr (f3 32 rfl)) (by rw [f3 32 rfl]; exact v2)
end XWM
theorem nIm1 {k : Nat} (h : k ≤ 1000) : ¬ nI k = -1 := fun h9 => by
  have h8 := congrArg Int32.toInt h9
  rw [nI_toInt (by omega)] at h8
  have c : (-1 : Int32).toInt = -1 := by decide
  omega
theorem sW_last {X : Nat → Nat} {u : Nat} : ∀ c k, c + k ≤ 1000 → sW X u (c + 1) k = if sW X u c k = -1 then (if (X (k + c)).testBit u = true then nI (k + c) else -1) else sW X u c k := by
  intro c
  induction c with
  | zero =>
    intro k _
    show (if (X k).testBit u = true then nI k else -1) = if (-1 : Int32) = -1 then (if (X (k + 0)).testBit u = true then nI (k + 0) else -1) else -1
    rw [if_pos rfl, Nat.add_zero]
  | succ c ih =>
    intro k hk
    have h1 := sW_s (X := X) (u := u) (c := c + 1) (k := k)
    have h2 := sW_s (X := X) (u := u) (c := c) (k := k)
    rw [h1, h2]
    by_cases h : (X k).testBit u = true
    · rw [if_pos h, if_pos h, if_neg (nIm1 (by omega))]
    · rw [if_neg h, if_neg h, ih (k + 1) (by omega), show k + 1 + c = k + (c + 1) by omega]
theorem sW_ext {X : Nat → Nat} {u c : Nat} (h : ¬ sW X u c 0 = -1) : ∀ d, c + d ≤ 1000 → sW X u (c + d) 0 = sW X u c 0 := by
  intro d
  induction d with
  | zero => intro _; rfl
  | succ d ih =>
    intro hd
    rw [show c + (d + 1) = c + d + 1 by omega, sW_last (c + d) 0 (by omega), ih (by omega), if_neg h]
theorem sW_hit {X : Nat → Nat} {u : Nat} : ∀ c k, c + k ≤ 1000 → sW X u c k = -1 → ∀ w, k ≤ w → w < k + c → ¬ (X w).testBit u = true := by
  intro c
  induction c with
  | zero => intro k _ _ w h1 h2; omega
  | succ c ih =>
    intro k hk h w h1 h2
    rw [sW_s] at h
    by_cases e : (X k).testBit u = true
    · rw [if_pos e] at h; exact absurd h (nIm1 (by omega))
    · rw [if_neg e] at h
      by_cases ew : w = k
      · subst ew; exact e
      · exact ih (k + 1) (by omega) h w (by omega) (by omega)
section XWK3
variable {Lf : xLT} {t p : Nat} {E S : Nat → Nat → Int32} {q : zRq}
/-- the towns of a week -/
theorem kFs71 {X : Nat → Nat} {po w : Nat} {ih43 : Int32 → Int32 → Int32 → zRr → zRr} (hw : w ≤ 99) (ht : t ≤ 6) (hX : X w < 2 ^ t) {r0 : zRr} (h9 : r0 171 9 = nI t) (h3 : ∀ u, u < t → r0 203 u = sW X u w 0) : ∃ r1, zFr [203] r0 r1 ∧ (∀ u, u < t → r1 203 u = sW X u (w + 1) 0) ∧ Gk_findSoonest_71 q (nI po) (nI w) ih43 7 (nI (X w)) 0 r0 = if (nI po &&& (nI (X w) ^^^ (-1))) = 0 then r1 else ih43 (nI (X w)) (nI po) (nI (w + 1)) (Gk_passWeekA r1 q) := by
  have k := xLpS (p := t) (G := fun n i r => Gk_findSoonest_71 q (nI po) (nI w) ih43 n (nI (X w)) i r) (I := fun k r1 => zFr [203] r0 r1 ∧ ∀ u, u < t → r1 203 u = if u < k then sW X u (w + 1) 0 else sW X u w 0) (Q := fun x => ∃ r1, zFr [203] r0 r1 ∧ (∀ u, u < t → r1 203 u = sW X u (w + 1) 0) ∧ x = if (nI po &&& (nI (X w) ^^^ (-1))) = 0 then r1 else ih43 (nI (X w)) (nI po) (nI (w + 1)) (Gk_passWeekA r1 q)) (by
    intro n i r2 hi ⟨f2, c2⟩
    have e0 : Gk_findSoonest_71 q (nI po) (nI w) ih43 (n + 1) (nI (X w)) (nI i) r2 = Bk_findSoonest_71 q (nI po) (nI w) ih43 (Gk_findSoonest_71 q (nI po) (nI w) ih43 n) (nI (X w)) (nI i) r2 := rfl
    have k9 : r2 171 9 = nI t := by rw [f2 171 rfl]; exact h9
    have k3 : r2 203 i = sW X i w 0 := by rw [c2 i hi, if_neg (by omega)]
    have hb := nBit0 (m := X w) (i := i) (p64 ht hX) (by omega)
    have hl := sW_last (X := X) (u := i) w 0 (by omega)
    rw [Nat.zero_add] at hl
    show ∃ r1, _ ∧ Gk_findSoonest_71 q (nI po) (nI w) ih43 (n + 1) (nI (X w)) (nI i) r2 = Gk_findSoonest_71 q (nI po) (nI w) ih43 n (nI (X w)) (nI (i + 1)) r1
    rw [e0]
    unfold Bk_findSoonest_71 Gk_findSoonest_113
    simp only [zletQ, zifQ, zifnQ, k9, nI_1, xzn (show i < 2 ^ 31 by omega), k3, xh0]
    rw [if_neg (nI_leN (by omega) (by omega) (by omega))]
    have same : sW X i (w + 1) 0 = sW X i w 0 → zFr [203] r0 r2 ∧ ∀ u, u < t → r2 203 u = if u < i + 1 then sW X u (w + 1) 0 else sW X u w 0 := fun es => ⟨f2, fun u hu => by
      by_cases e : u = i
      · subst e; rw [if_pos (by omega), k3, es]
      · rw [c2 u hu]
        by_cases l : u < i
        · rw [if_pos l, if_pos (by omega)]
        · rw [if_neg l, if_neg (by omega)]⟩
    by_cases c : sW X i w 0 = -1
    · rw [if_pos c]
      rw [if_pos c] at hl
      by_cases d : (X w).testBit i = true
      · rw [if_neg (fun h => hb.mp h d)]
        rw [if_pos d] at hl
        refine ⟨_, ⟨f2.set rfl, fun u hu => ?_⟩, rfl⟩
        rw [zset_eq]
        by_cases e : u = i
        · subst e; rw [pk_us, if_pos (by omega), hl]
        · rw [pk_un e, c2 u hu]
          by_cases l : u < i
          · rw [if_pos l, if_pos (by omega)]
          · rw [if_neg l, if_neg (by omega)]
      · rw [if_pos (hb.mpr d)]
        rw [if_neg d] at hl
        exact ⟨r2, same (hl.trans c.symm), rfl⟩
    · rw [if_neg c]
      rw [if_neg c] at hl
      exact ⟨r2, same hl, rfl⟩) (by
    intro n r2 ⟨f2, c2⟩
    have e0 : Gk_findSoonest_71 q (nI po) (nI w) ih43 (n + 1) (nI (X w)) (nI t) r2 = Bk_findSoonest_71 q (nI po) (nI w) ih43 (Gk_findSoonest_71 q (nI po) (nI w) ih43 n) (nI (X w)) (nI t) r2 := rfl
    have k9 : r2 171 9 = nI t := by rw [f2 171 rfl]; exact h9
    refine ⟨r2, f2, fun u hu => by rw [c2 u hu, if_pos hu], ?_⟩
    show Gk_findSoonest_71 q (nI po) (nI w) ih43 (n + 1) (nI (X w)) (nI t) r2 = _
    rw [e0]
    unfold Bk_findSoonest_71
    simp only [zletQ, zifQ, zifnQ, k9, nI_1]
    rw [if_pos (nI_leP (by omega) (by omega) (by omega))]) 7 0 r0 (by omega) (by omega) ⟨zFr.refl, fun u hu => by rw [if_neg (by omega)]; exact h3 u hu⟩
  obtain ⟨r1, k1, k2, k3⟩ := k
  exact ⟨r1, k1, k2, k3⟩
theorem kFs43 (hR : xRd t E) {j x wn Lk : Nat} (hj : j < p) (hx : x < 2 ^ t) (hwn : wn < 64) (hLk : Lk < 64) (hin : ∀ w u, (sX Lf t p E S j x w).testBit u = true → Lk.testBit u = true) {r0 : zRr} : ∀ (n w : Nat) (b : Nat) (r : zRr), w ≤ 100 → 100 < n + w → xCe Lf t p E r → xCs t p 0 (sWs E S w) r → b < 2 ^ t → (yI (sT Lf t p E (sWs E S w) 0 j) t (t - 1) b = sX Lf t p E S j x w) → (∀ u, u < t → r 203 u = sW (sX Lf t p E S j x) u w 0) → zFr [0, 2, 182, 202, 203] r0 r → zFr [0, 2, 182, 202, 203] r0 (Gk_findSoonest_43 (nI j) q n (nI b) (nI (wn &&& Lk)) (nI w) r) ∧ ∀ u, u < t → wn.testBit u = true → Gk_findSoonest_43 (nI j) q n (nI b) (nI (wn &&& Lk)) (nI w) r 203 u = sW (sX Lf t p E S j x) u 100 0 := by
  intro n
  induction n with
  | zero => intro w b r h1 h2; omega
  | succ n ih =>
    intro w b r h1 h2 hE hS hb hbx h3 g1
    have ht := hE.2.1.1
    have e0 : Gk_findSoonest_43 (nI j) q (n + 1) (nI b) (nI (wn &&& Lk)) (nI w) r = Bk_findSoonest_43 (nI j) q (Gk_findSoonest_43 (nI j) q n) (nI b) (nI (wn &&& Lk)) (nI w) r := rfl
    rw [e0]
    unfold Bk_findSoonest_43
    simp only [zletQ, zifQ]
    by_cases e : w = 100
    · subst e
      rw [if_pos (show (99 : Int32) < nI 100 from (nI_ltI (a := 99) (by omega) (by omega)).mpr (by omega))]
      exact ⟨g1, fun u hu _ => h3 u hu⟩
    · rw [if_neg (show ¬ (99 : Int32) < nI w from fun h => by have := (nI_ltI (a := 99) (by omega) (by omega)).mp h; omega)]
      obtain ⟨f, c⟩ := kLayA (q := q) hE hS hR (mo := 0) hj
      generalize Gk_layA (nI j) 0 r q = r1 at f c ⊢
      have h9 : r1 171 9 = nI t := by rw [f 171 rfl]; exact hE.1.1
      rw [kSpd (q := q) h9 ht c sT_lt hb, hbx]
      obtain ⟨r2, f2, c2, e2⟩ := kFs71 (q := q) (X := sX Lf t p E S j x) (po := wn &&& Lk) (w := w) (ih43 := Gk_findSoonest_43 (nI j) q n) (by omega) ht (sX_lt hx w) h9 (fun u hu => by rw [f 203 rfl]; exact h3 u hu)
      rw [e2]
      have g2 : zFr [0, 2, 182, 202, 203] r0 r2 := (g1.tr f (by decide)).tr f2 (by decide)
      have hs := nSub (m := wn &&& Lk) (k := sX Lf t p E S j x w) (Nat.lt_of_le_of_lt Nat.and_le_left hwn) (p64 ht (sX_lt hx w))
      by_cases d : wn &&& Lk &&& sX Lf t p E S j x w = wn &&& Lk
      · rw [if_pos (hs.mpr d)]
        refine ⟨g2, fun u hu hwu => ?_⟩
        rw [c2 u hu]
        by_cases cu : sW (sX Lf t p E S j x) u (w + 1) 0 = -1
        · have hno : ∀ w', ¬ (sX Lf t p E S j x w').testBit u = true := by
            intro w' h'
            have l1 := hin w' u h'
            have b1 : (wn &&& Lk).testBit u = true := by rw [Nat.testBit_and, hwu, l1]; rfl
            have b2 : (wn &&& Lk &&& sX Lf t p E S j x w).testBit u = true := by rw [d]; exact b1
            rw [Nat.testBit_and, b1, Bool.true_and] at b2
            exact sW_hit (w + 1) 0 (by omega) cu w (by omega) (by omega) b2
          rw [cu, sW_no 100 0 hno]
        · have := sW_ext cu (100 - (w + 1)) (by omega)
          rw [show w + 1 + (100 - (w + 1)) = 100 by omega] at this
          exact this.symm
      · rw [if_neg (fun h => d (hs.mp h))]
        have hE2 := (hE.fr f (by decide)).fr f2 (by decide)
        have hS2 : xCs t p 0 (sWs E S w) r2 := (hS.sA f rfl rfl rfl rfl rfl rfl).sA f2 rfl rfl rfl rfl rfl rfl
        obtain ⟨v1, v2⟩ := kWkA (q := q) hE2 hS2
        exact ih (w + 1) _ _ (by omega) (by omega) (hE2.fr v2 (by decide)) v1 (sX_lt hx w) rfl (fun u hu => by rw [v2 203 rfl]; exact c2 u hu) (g2.tr v2 (by decide))
end XWK3
/-- roads as numbers -/
noncomputable def sRn (t : Nat) (E : Nat → Nat → Int32) (i : Nat) : Nat := if i < t then zn (E 1 i) else 0
theorem sRn_e {t : Nat} {E : Nat → Nat → Int32} (hR : xRd t E) (ht : t ≤ 6) {i : Nat} (hi : i < t) : sRn t E i < 2 ^ t ∧ E 1 i = nI (sRn t E i) := by
  obtain ⟨m, hm, em⟩ := hR i hi
  have h64 := p64 ht hm
  have e : sRn t E i = m := by
    unfold sRn; rw [if_pos hi, em]; exact xzn (by omega)
  rw [e]; exact ⟨hm, em⟩
theorem sRn_lt {t : Nat} {E : Nat → Nat → Int32} (hR : xRd t E) (ht : t ≤ 6) : ∀ i, sRn t E i < 2 ^ t := by
  intro i
  by_cases h : i < t
  · exact (sRn_e hR ht h).1
  · unfold sRn; rw [if_neg h]; exact Nat.two_pow_pos t
theorem sT_in {Lf : xLT} {t p : Nat} {E S : Nat → Nat → Int32} {mo : Int32} {j : Nat} (hR : xRd t E) (ht : t ≤ 6) : ∀ i, i < t → ∀ u, (sT Lf t p E S mo j i).testBit u = true → (sRn t E i).testBit u = true := by
  intro i hi u h
  obtain ⟨h1, h2⟩ := (yN_bit t).mp h
  obtain ⟨r1, r2⟩ := sRn_e hR ht hi
  have hb := nBit0 (m := sRn t E i) (i := u) (p64 ht r1) (by omega)
  rw [← r2] at hb
  by_cases c : (sRn t E i).testBit u = true
  · exact c
  · exact absurd (show sSp Lf p E S mo j i u = 0 from if_pos (hb.mpr c)) h2
theorem sX_in {Lf : xLT} {t p : Nat} {E S : Nat → Nat → Int32} {j x : Nat} (hR : xRd t E) (ht : t ≤ 6) (hx : x < 2 ^ t) (h0 : x ≠ 0) : ∀ w u, (sX Lf t p E S j x w).testBit u = true → (yI (sRn t E) t (t - 1) x).testBit u = true := by
  have hL := yI_fix (T := sRn t E) (sRn_lt hR ht) hx h0
  intro w
  induction w with
  | zero => exact yI_in (sT_in hR ht) hL (t - 1) x (fun u h => yI_le (t - 1) x h)
  | succ w ih => exact yI_in (sT_in hR ht) hL (t - 1) _ ih
section XWF
variable {Lf : xLT} {t p : Nat} {E S : Nat → Nat → Int32} {r : zRr} {q : zRq}
theorem kFsn (hE : xCe Lf t p E r) (hS : xCs t p 6 S r) (hR : xRd t E) {j a wn : Nat} (hj : j < p) (ha : a < t) (ea : S 1 j = nI a) (hwn : wn < 64) : zFr [0, 1, 2, 3, 4, 5, 182, 202, 203] r (Gk_findSoonest (nI j) (nI wn) r q) ∧ ∀ u, u < t → wn.testBit u = true → Gk_findSoonest (nI j) (nI wn) r q 203 u = sW (sX Lf t p E S j (2 ^ a)) u 100 0 := by
  have ht := hE.2.1.1
  have hp := hE.2.1.2
  have hx : 2 ^ a < 2 ^ t := Nat.pow_lt_pow_right (by decide) ha
  have e7 : r 7 j = nI a := (hS.2 j hj).2.1.trans ea
  have f1 : zFr [202] r (zset r 202 (va_cpy (r 173) (r 202) 0 0 6)) := zFr.refl.set rfl
  have c1 : ∀ i, i < t → zset r 202 (va_cpy (r 173) (r 202) 0 0 6) 202 i = nI (sRn t E i) := fun i hi => by
    rw [zset_eq, xcpy (by omega), (hE.2.2.1 i hi).2]; exact (sRn_e hR ht hi).2
  have h9 : zset r 202 (va_cpy (r 173) (r 202) 0 0 6) 171 9 = nI t := by rw [f1 171 rfl]; exact hE.1.1
  have el : Gk_linkedTo (nI a) r q = (nI (yI (sRn t E) t (t - 1) (2 ^ a)), zset r 202 (va_cpy (r 173) (r 202) 0 0 6)) := by
    unfold Gk_linkedTo
    simp only [zletQ, nOne (show a < 6 by omega)]
    rw [kSpd (q := q) h9 ht c1 (sRn_lt hR ht) hx]
  have hLk : yI (sRn t E) t (t - 1) (2 ^ a) < 64 := p64 ht (yI_lt (sRn_lt hR ht) _ _ hx)
  unfold Gk_findSoonest
  simp only [zletQ, xzn (show j < 2 ^ 31 by omega), e7, nOne (show a < 6 by omega)]
  rw [el, xcvr (r := zset r 202 (va_cpy (r 173) (r 202) 0 0 6)), nAnd hwn hLk]
  generalize zset r 202 (va_cpy (r 173) (r 202) 0 0 6) = r34 at f1 ⊢
  have f3 : zFr [202, 203] r (zset r34 203 (zfl (r34 203) (-1) 6)) := (f1.up (by decide)).set rfl
  have z3 : ∀ u, u < t → zset r34 203 (zfl (r34 203) (-1) 6) 203 u = -1 := fun u hu => by
    rw [zset_eq]; exact if_pos (by omega)
  generalize zset r34 203 (zfl (r34 203) (-1) 6) = r36 at f3 z3 ⊢
  have hS36 := hS.sN f3 rfl rfl rfl rfl rfl rfl
  have hE36 := hE.fr f3 (by decide)
  have kk : ∀ a, 6 ≤ a → kcp8 r36 0 6 a = r36 a := fun a ha => kcp8_o (by omega)
  have hE37 : xCe Lf t p E (kcp8 r36 0 6) := by
    obtain ⟨q1, q2, q3, q4, q5⟩ := hE36
    refine ⟨by rw [kk 171 (by omega)]; exact q1, q2, fun i hi => by rw [kk 172 (by omega), kk 173 (by omega)]; exact q3 i hi, fun j hj => by rw [kk 175 (by omega)]; exact q4 j hj, fun r2 k1 k2 => q5 r2 (by rw [k1, kk 180 (by omega)]) (by rw [k2, kk 181 (by omega)])⟩
  have f7 : zFr [0, 1, 2, 3, 4, 5, 182, 202, 203] r (kcp8 r36 0 6) := fun b hb => by
    rcases Nat.lt_or_ge b 6 with h | h
    · exfalso
      rcases (show b = 0 ∨ b = 1 ∨ b = 2 ∨ b = 3 ∨ b = 4 ∨ b = 5 by omega) with rfl | rfl | rfl | rfl | rfl | rfl <;> cases hb
    · rw [kk b h]
      exact f3 b (by
        cases e : [202, 203].contains b with
        | false => rfl
        | true =>
          have := List.contains_iff_mem.mp e
          simp only [List.mem_cons, List.not_mem_nil, or_false] at this
          rcases this with rfl | rfl <;> cases hb)
  have k := kFs43 (q := q) (Lf := Lf) (S := S) hR (j := j) (x := 2 ^ a) (wn := wn) (Lk := yI (sRn t E) t (t - 1) (2 ^ a)) hj hx hwn hLk (sX_in hR ht hx (two0 a)) (r0 := kcp8 r36 0 6) 101 0 (2 ^ a) (kcp8 r36 0 6) (by omega) (by omega) hE37 (hS36.cp hp) hx rfl (fun u hu => by rw [kk 203 (by omega)]; exact z3 u hu) zFr.refl
  rw [nI_0] at k
  exact ⟨f7.tr k.1 (by decide), k.2⟩
end XWF
end
section
/-! ===== answers: meeting ===== -/
noncomputable def yM (W : Nat → Int32) : Nat → Int32
  | 0 => 0
  | k + 1 => if yM W k = -1 then -1 else if W k = -1 then -1 else if yM W k < W k then W k else yM W k
theorem yM_s {W : Nat → Int32} {k : Nat} : yM W (k + 1) = if yM W k = -1 then -1 else if W k = -1 then -1 else if yM W k < W k then W k else yM W k := rfl
theorem yM_no {W : Nat → Int32} {k : Nat} (h : yM W k = -1) : ∀ d, yM W (k + d) = -1 := by
  intro d
  induction d with
  | zero => exact h
  | succ d ih => rw [← Nat.add_assoc, yM_s, if_pos ih]
theorem sW_rng {X : Nat → Nat} {u : Nat} : ∀ c k, c + k ≤ 100 → sW X u c k = -1 ∨ ∃ m, m < 100 ∧ sW X u c k = nI m := by
  intro c
  induction c with
  | zero => intro k _; exact Or.inl rfl
  | succ c ih =>
    intro k h
    rw [sW_s]
    by_cases e : (X k).testBit u = true
    · rw [if_pos e]; exact Or.inr ⟨k, by omega, rfl⟩
    · rw [if_neg e]; exact ih (k + 1) (by omega)
theorem yM_rng {W : Nat → Int32} (hW : ∀ k, W k = -1 ∨ ∃ m, m < 100 ∧ W k = nI m) : ∀ k, yM W k = -1 ∨ ∃ m, m < 100 ∧ yM W k = nI m := by
  intro k
  induction k with
  | zero => exact Or.inr ⟨0, by omega, nI_0.symm⟩
  | succ k ih =>
    rw [yM_s]
    by_cases c : yM W k = -1
    · rw [if_pos c]; exact Or.inl rfl
    · rw [if_neg c]
      by_cases d : W k = -1
      · rw [if_pos d]; exact Or.inl rfl
      · rw [if_neg d]
        by_cases e : yM W k < W k
        · rw [if_pos e]; exact Or.inr ((hW k).resolve_left d)
        · rw [if_neg e]; exact Or.inr (ih.resolve_left c)
theorem fm_whenAt {a b : Int32} {r : zRr} {q : zRq} : zFr [15, 16, 17, 18, 19, 20, 21, 22, 23, 24, 32, 34] r (Gm_whenAt a b r q).2 := by
  have k : ∀ (n : Nat) (v w : Int32) (r : zRr), zFr [15, 16, 17, 18, 19, 20, 21, 22, 23, 24, 32, 34] r (Gm_whenAt_32 a b q n v w r).2 := by
    intro n
    induction n with
    | zero => intro v w r; exact zFr.refl
    | succ n ih =>
      intro v w r
      have e0 : Gm_whenAt_32 a b q (n + 1) v w r = Bm_whenAt_32 a b q (Gm_whenAt_32 a b q n) v w r := rfl
      have e64 : zFr [15, 16, 17, 18, 19, 20, 21, 22, 23, 24, 32, 34] r (Gm_whenAt_64 w r).2 := by
        unfold Gm_whenAt_64
        simp only [zletQ, zifQ]
        split
        · exact zFr.refl.set rfl
        · exact zFr.refl.set rfl
      rw [e0]
      unfold Bm_whenAt_32
      simp only [zletQ, zifQ, zifnQ]
      split
      · exact e64
      · split
        · rw [zc_vrQ]
          exact (((fm_passes (q := q)).up (by decide)).tr (fm_reachFrom (q := q)) (by decide)).tr (ih _ _ _) (by decide)
        · exact e64
  unfold Gm_whenAt
  simp only [zletQ]
  rw [zc_vrQ]
  exact ((zFr.refl.set rfl).tr (fm_reachFrom (q := q)) (by decide)).tr (k 101 _ _ _) (by decide)
section XMT
variable {Lf : xLT} {t p : Nat} {E S : Nat → Nat → Int32} {q : zRq}
noncomputable def sWh (Lf : xLT) (t p : Nat) (E S : Nat → Nat → Int32) (u j : Nat) : Int32 := sW (sX Lf t p E S j (2 ^ zn (S 1 j))) u 100 0
/-- the reference: whenAt -/
theorem mWhA {rm : zRr} (hE : xMe Lf t p E 0 rm) (hS : xMs t p S (rm 32)) (hz : xZr p (rm 32)) (hR : xRd t E) {j u : Nat} (hj : j < p) (hu : u < t) : (Gm_whenAt (nI j) (nI u) rm q).1 = sWh Lf t p E S u j := by
  have ht := hE.2.1.1
  have hp := hE.2.1.2
  obtain ⟨k, hk, ek⟩ := (hS.2 j hj).1
  have hx : 2 ^ k < 2 ^ t := Nat.pow_lt_pow_right (by decide) hk
  have n1 : (1 : Int32) + nI j = nI (1 + j) := nI_add 1 j
  unfold sWh Gm_whenAt
  rw [ek, xzn (show k < 2 ^ 31 by omega)]
  simp only [zletQ, n1, xzn (show 1 + j < 2 ^ 31 by omega)]
  have mE : xMe Lf t p E 0 (zset rm 34 (zcp (rm 32) (rm 34) 0 0 31)) := hE.fr (zFr.refl.set (M := [34]) rfl) (by decide)
  have mS : xMs t p S (zset rm 34 (zcp (rm 32) (rm 34) 0 0 31) 32) := hS
  have mZ : xZr p (zset rm 34 (zcp (rm 32) (rm 34) 0 0 31) 32) := hz
  generalize zset rm 34 (zcp (rm 32) (rm 34) 0 0 31) = rm1 at mE mS mZ ⊢
  have k7 : rm1 32 (1 + j) = nI k := (mS.2 j hj).2.1.trans ek
  rw [k7, nOne (show k < 6 by omega)]
  obtain ⟨m3, w3, e3⟩ := mRch (q := q) mE mS hR hj hx (two0 k)
  rw [e3, xcvr (r := m3)]
  have kk := mWhn (Lf := Lf) (S := S) (q := q) hR hj hu hx (two0 k) 101 0 m3 (by omega) (by omega) (mE.fr w3 (by decide)) (mS.fr (w3 32 rfl)) (by rw [w3 32 rfl]; exact mZ)
  rw [nI_0] at kk
  exact kk
theorem mMeets {rm0 : zRr} (hE : xMe Lf t p E 0 rm0) (hS : xMs t p S (rm0 32)) (hz : xZr p (rm0 32)) (hR : xRd t E) {u : Nat} (hu : u < t) : ∀ (n k : Nat) (rm : zRr), k ≤ p → p < n + k → ¬ yM (sWh Lf t p E S u) k = -1 → zFr [15, 16, 17, 18, 19, 20, 21, 22, 23, 24, 32, 34] rm0 rm → zRs rm0 rm → (Gm_meetsAt_4 (nI u) q n (yM (sWh Lf t p E S u) k) (nI k) rm).1 = yM (sWh Lf t p E S u) p := by
  have ht := hE.2.1.1
  have hp := hE.2.1.2
  intro n
  induction n with
  | zero => intro k rm h1 h2; omega
  | succ n ih =>
    intro k rm h1 h2 hn g2 g3
    have e0 : Gm_meetsAt_4 (nI u) q (n + 1) (yM (sWh Lf t p E S u) k) (nI k) rm = Bm_meetsAt_4 (nI u) q (Gm_meetsAt_4 (nI u) q n) (yM (sWh Lf t p E S u) k) (nI k) rm := rfl
    have hE3 := hE.fr g2 (by decide)
    have hS3 := hS.eq hp g3
    have hz3 : xZr p (rm 32) := fun j a1 a2 => by rw [g3 (13 + j) (by omega), g3 (19 + j) (by omega)]; exact hz j a1 a2
    rw [e0]
    unfold Bm_meetsAt_4
    simp only [zletQ, zifQ, hE3.1.2.1, nI_1]
    by_cases e : k = p
    · subst e; rw [if_pos (nI_leP (by omega) (by omega) (by omega))]
    · rw [if_neg (nI_leN (by omega) (by omega) (by omega)), zc_vrQ]
      have hw := mWhA (q := q) hE3 hS3 hz3 hR (j := k) (by omega) hu
      have rs := rs_whenAt (a1 := nI k) (a2 := nI u) (q := q) (r := rm)
      have fm := fm_whenAt (a := nI k) (b := nI u) (r := rm) (q := q)
      rw [hw]
      have hr := sW_rng (X := sX Lf t p E S k (2 ^ zn (S 1 k))) (u := u) 100 0 (by omega)
      have hs := yM_s (W := sWh Lf t p E S u) (k := k)
      rw [if_neg hn] at hs
      by_cases c : sWh Lf t p E S u k = -1
      · rw [c, if_neg (show ¬ (0 : Int32) ≤ -1 by decide)]
        rw [if_pos c] at hs
        have := yM_no hs (p - (k + 1))
        rw [show k + 1 + (p - (k + 1)) = p by omega] at this
        exact this.symm
      · obtain ⟨m, hm, em⟩ := hr.resolve_left c
        have em : sWh Lf t p E S u k = nI m := em
        have hge : (0 : Int32) ≤ sWh Lf t p E S u k := by
          rw [em]
          have := nI_leP (a := 0) (b := m) (by omega) (by omega) (by omega)
          rw [nI_0] at this; exact this
        rw [if_pos hge]
        rw [if_neg c] at hs
        rw [← hs]
        refine ih (k + 1) _ (by omega) (by omega) ?_ (g2.tr fm (by decide)) (g3.tr rs)
        intro hbad
        rw [hs] at hbad
        by_cases d : yM (sWh Lf t p E S u) k < sWh Lf t p E S u k
        · rw [if_pos d] at hbad; exact c hbad
        · rw [if_neg d] at hbad; exact hn hbad
end XMT
theorem xAll6 : ∀ t : Fin 7, ((1 : Int32) <<< (nI t.val &&& 31)) - 1 = nI (2 ^ t.val - 1) := by decide
section XMK
variable {Lf : xLT} {t p : Nat} {E S : Nat → Nat → Int32} {q : zRq}
theorem kWait {r0 : zRr} (ht : t ≤ 6) (h9 : r0 171 9 = nI t) : zFr [204] r0 (Gk_waitForSoonest r0 q) ∧ ∀ u, u < t → Gk_waitForSoonest r0 q 204 u = if r0 204 u = -1 then -1 else if r0 203 u = -1 then -1 else if r0 204 u < r0 203 u then r0 203 u else r0 204 u := by
  unfold Gk_waitForSoonest
  exact xLpS (p := t) (G := Gk_waitForSoonest_2) (I := fun k r1 => zFr [204] r0 r1 ∧ ∀ u, u < t → r1 204 u = if u < k then (if r0 204 u = -1 then -1 else if r0 203 u = -1 then -1 else if r0 204 u < r0 203 u then r0 203 u else r0 204 u) else r0 204 u) (Q := fun r1 => zFr [204] r0 r1 ∧ ∀ u, u < t → r1 204 u = if r0 204 u = -1 then -1 else if r0 203 u = -1 then -1 else if r0 204 u < r0 203 u then r0 203 u else r0 204 u) (by
    intro n i r2 hi ⟨f2, c2⟩
    have e0 : Gk_waitForSoonest_2 (n + 1) (nI i) r2 = Bk_waitForSoonest_2 (Gk_waitForSoonest_2 n) (nI i) r2 := rfl
    have k9 : r2 171 9 = nI t := by rw [f2 171 rfl]; exact h9
    have k4 : r2 204 i = r0 204 i := by rw [c2 i hi, if_neg (by omega)]
    have k3 : r2 203 i = r0 203 i := by rw [f2 203 rfl]
    rw [e0]
    unfold Bk_waitForSoonest_2 Gk_waitForSoonest_33 Gk_waitForSoonest_38 Gk_waitForSoonest_67
    simp only [zletQ, zifQ, zifnQ, k9, nI_1, xzn (show i < 2 ^ 31 by omega), k4, k3, if_neg (show ¬ (1 : Int32) = 0 by decide), if_true]
    rw [if_neg (nI_leN (by omega) (by omega) (by omega))]
    have fin : ∀ v, (v = if r0 204 i = -1 then -1 else if r0 203 i = -1 then -1 else if r0 204 i < r0 203 i then r0 203 i else r0 204 i) → (zFr [204] r0 (zset r2 204 (upd (r2 204) i v)) ∧ ∀ u, u < t → zset r2 204 (upd (r2 204) i v) 204 u = if u < i + 1 then (if r0 204 u = -1 then -1 else if r0 203 u = -1 then -1 else if r0 204 u < r0 203 u then r0 203 u else r0 204 u) else r0 204 u) := fun v hv => ⟨f2.set rfl, fun u hu => by
      rw [zset_eq]
      by_cases e : u = i
      · subst e; rw [pk_us, if_pos (by omega)]; exact hv
      · rw [pk_un e, c2 u hu]
        by_cases l : u < i
        · rw [if_pos l, if_pos (show u < i + 1 by omega)]
        · rw [if_neg l, if_neg (by omega)]⟩
    by_cases c : r0 204 i = -1
    · rw [if_pos c]
      exact ⟨_, fin (-1) (by rw [if_pos c]), rfl⟩
    · rw [if_neg c]
      by_cases d : r0 203 i = -1
      · rw [if_pos d]
        exact ⟨_, fin (-1) (by rw [if_neg c, if_pos d]), rfl⟩
      · rw [if_neg d]
        exact ⟨_, fin (if r0 204 i < r0 203 i then r0 203 i else r0 204 i) (by rw [if_neg c, if_neg d]), rfl⟩) (by
    intro n r2 ⟨f2, c2⟩
    have e0 : Gk_waitForSoonest_2 (n + 1) (nI t) r2 = Bk_waitForSoonest_2 (Gk_waitForSoonest_2 n) (nI t) r2 := rfl
    have k9 : r2 171 9 = nI t := by rw [f2 171 rfl]; exact h9
    rw [e0]
    unfold Bk_waitForSoonest_2
    simp only [zletQ, zifQ, k9]
    rw [if_pos (nI_leP (by omega) (by omega) (by omega))]
    exact ⟨f2, fun u hu => by rw [c2 u hu, if_pos hu]⟩) 7 0 r0 (by omega) (by omega) ⟨zFr.refl, fun u hu => by rw [if_neg (by omega)]⟩
theorem kMt24 {r0 : zRr} (hE : xCe Lf t p E r0) (hS : xCs t p 6 S r0) (hR : xRd t E) {a : Int32} : ∀ (n k : Nat) (r : zRr), k ≤ p → p < n + k → zFr [0, 1, 2, 3, 4, 5, 182, 202, 203, 204] r0 r → (∀ u, u < t → r 204 u = yM (sWh Lf t p E S u) k) → ∃ r1, zFr [0, 1, 2, 3, 4, 5, 182, 202, 203, 204] r0 r1 ∧ (∀ u, u < t → r1 204 u = yM (sWh Lf t p E S u) p) ∧ Gk_meeting_24 a q n (nI k) r = Gk_meeting_71 a 7 (-1) 0 r1 := by
  have ht := hE.2.1.1
  have hp := hE.2.1.2
  intro n
  induction n with
  | zero => intro k r h1 h2; omega
  | succ n ih =>
    intro k r h1 h2 g1 h4
    have e0 : Gk_meeting_24 a q (n + 1) (nI k) r = Bk_meeting_24 a q (Gk_meeting_24 a q n) (nI k) r := rfl
    have hE2 := hE.fr g1 (by decide)
    have hS2 := hS.sN g1 rfl rfl rfl rfl rfl rfl
    rw [e0]
    unfold Bk_meeting_24 Gk_allTowns
    simp only [zletQ, zifQ, hE2.1.2.1, hE2.1.1, nI_1]
    by_cases e : k = p
    · subst e
      rw [if_pos (nI_leP (by omega) (by omega) (by omega))]
      exact ⟨r, g1, h4, rfl⟩
    · rw [if_neg (nI_leN (by omega) (by omega) (by omega)), xAll6 ⟨t, by omega⟩]
      obtain ⟨b, hb, eb⟩ := (hS.2 k (by omega)).1
      have hall : 2 ^ t - 1 < 64 := p64 (t := t) ht (by have := Nat.two_pow_pos t; omega)
      obtain ⟨f, c⟩ := kFsn (q := q) hE2 hS2 hR (j := k) (a := b) (wn := 2 ^ t - 1) (by omega) hb eb hall
      have kF204 : Gk_findSoonest (nI k) (nI (2 ^ t - 1)) r q 204 = r 204 := f 204 rfl
      generalize Gk_findSoonest (nI k) (nI (2 ^ t - 1)) r q = r5 at f c kF204 ⊢
      have h9 : r5 171 9 = nI t := by rw [f 171 rfl]; exact hE2.1.1
      obtain ⟨f6, c6⟩ := kWait (q := q) ht h9
      generalize Gk_waitForSoonest r5 q = r6 at f6 c6 ⊢
      refine ih (k + 1) r6 (by omega) (by omega) (((g1.tr f (by decide))).tr f6 (by decide)) (fun u hu => ?_)
      have hw : r5 203 u = sWh Lf t p E S u k := by
        rw [c u hu (by rw [Nat.testBit_two_pow_sub_one]; exact decide_eq_true hu)]
        unfold sWh; rw [eb, xzn (show b < 2 ^ 31 by omega)]
      rw [c6 u hu, kF204, h4 u hu, hw, yM_s]
/-- the first of the soonest -/
theorem xMt71 {rk rm0 : zRr} {qm : zRq} (hE : xMe Lf t p E 0 rm0) (hS : xMs t p S (rm0 32)) (hz : xZr p (rm0 32)) (hR : xRd t E) (h9 : rk 171 9 = nI t) (h4 : ∀ u, u < t → rk 204 u = yM (sWh Lf t p E S u) p) {a : Int32} (ha : a = 0 ∨ a = 1) : ∀ (n u : Nat) (b l : Int32) (rm : zRr), u ≤ t → t < n + u → zFr [15, 16, 17, 18, 19, 20, 21, 22, 23, 24, 32, 34] rm0 rm → zRs rm0 rm → ((b = -1 ∧ l = -1) ∨ ∃ k, k < u ∧ b = nI k ∧ l = yM (sWh Lf t p E S k) p) → (Gk_meeting_71 a n b (nI u) rk).1 = (Gm_meeting_23 a qm n b l (nI u) rm).1 := by
  have ht := hE.2.1.1
  have hp := hE.2.1.2
  intro n
  induction n with
  | zero => intro u b l rm h1 h2; omega
  | succ n ih =>
    intro u b l rm h1 h2 g2 g3 hb
    have e0 : Gk_meeting_71 a (n + 1) b (nI u) rk = Bk_meeting_71 a (Gk_meeting_71 a n) b (nI u) rk := rfl
    have e1 : Gm_meeting_23 a qm (n + 1) b l (nI u) rm = Bm_meeting_23 a qm (Gm_meeting_23 a qm n) b l (nI u) rm := rfl
    have hE3 := hE.fr g2 (by decide)
    have hS3 := hS.eq hp g3
    have hz3 : xZr p (rm 32) := fun j a1 a2 => by rw [g3 (13 + j) (by omega), g3 (19 + j) (by omega)]; exact hz j a1 a2
    rw [e0, e1]
    unfold Bk_meeting_71 Bm_meeting_23 Gk_meeting_118 Gk_meeting_120 Gm_meeting_60 Gm_meeting_66
    simp only [zletQ, zifQ, zifnQ, h9, hE3.1.1, nI_1, xzn (show u < 2 ^ 31 by omega)]
    by_cases e : u = t
    · subst e
      rw [if_pos (nI_leP (by omega) (by omega) (by omega)), if_pos (nI_leP (by omega) (by omega) (by omega))]
      rcases hb with ⟨b1, b2⟩ | ⟨k, hk, b1, b2⟩
      · rw [b1, b2, if_pos rfl]
        split <;> rfl
      · rw [b1, b2, if_neg (nIm1 (by omega)), xzn (show k < 2 ^ 31 by omega), h4 k hk]
        rcases ha with h | h
        · rw [h, if_neg (show ¬ (0 : Int32) = 1 by decide), if_pos rfl]
        · rw [h, if_pos rfl, if_neg (show ¬ (1 : Int32) = 0 by decide)]
    · rw [if_neg (nI_leN (by omega) (by omega) (by omega)), if_neg (nI_leN (by omega) (by omega) (by omega)), zc_vrQ]
      have hu : u < t := by omega
      have hm : (Gm_meetsAt (nI u) rm qm).1 = yM (sWh Lf t p E S u) p := by
        unfold Gm_meetsAt
        exact mMeets (q := qm) hE3 hS3 hz3 hR hu 7 0 rm (by omega) (by omega) (by show ¬ (0 : Int32) = -1; decide) zFr.refl zRs.refl
      have fmm : zFr [15, 16, 17, 18, 19, 20, 21, 22, 23, 24, 32, 34] rm (Gm_meetsAt (nI u) rm qm).2 := by
        have k : ∀ (n : Nat) (v w : Int32) (r : zRr), zFr [15, 16, 17, 18, 19, 20, 21, 22, 23, 24, 32, 34] r (Gm_meetsAt_4 (nI u) qm n v w r).2 := by
          intro n
          induction n with
          | zero => intro v w r; exact zFr.refl
          | succ n ih =>
            intro v w r
            have e0 : Gm_meetsAt_4 (nI u) qm (n + 1) v w r = Bm_meetsAt_4 (nI u) qm (Gm_meetsAt_4 (nI u) qm n) v w r := rfl
            rw [e0]
            unfold Bm_meetsAt_4
            simp only [zletQ, zifQ]
            split
            · exact zFr.refl
            · rw [zc_vrQ]
              split
              · exact fm_whenAt.tr (ih _ _ _) (by decide)
              · exact fm_whenAt
        unfold Gm_meetsAt
        exact k 7 0 0 rm
      have rsm : zRs rm (Gm_meetsAt (nI u) rm qm).2 := by
        unfold Gm_meetsAt
        exact rs_meetsAt_4 7 0 0 rm
      have hr := yM_rng (W := sWh Lf t p E S u) (fun k => sW_rng 100 0 (by omega)) p
      rw [hm, h4 u hu]
      have K := fun b l hb => ih (u + 1) b l (Gm_meetsAt (nI u) rm qm).2 (by omega) (by omega) (g2.tr fmm (by decide)) (g3.tr rsm) hb
      by_cases c : yM (sWh Lf t p E S u) p = -1
      · rw [c, if_pos rfl, if_pos (show (-1 : Int32) < 0 by decide)]
        refine K _ _ ?_
        rcases hb with h | ⟨k, hk, b1, b2⟩
        · exact Or.inl h
        · exact Or.inr ⟨k, by omega, b1, b2⟩
      · obtain ⟨m, hm2, em⟩ := hr.resolve_left c
        have c0 : ¬ yM (sWh Lf t p E S u) p < 0 := by rw [em]; exact fun h => by have := (nI_ltI (b := 0) (by omega) (by omega)).mp h; omega
        rw [if_neg c, if_neg c0]
        rcases hb with ⟨b1, b2⟩ | ⟨k, hk, b1, b2⟩
        · rw [b1, b2, if_pos rfl, if_pos (show (-1 : Int32) < 0 by decide)]
          exact K _ _ (Or.inr ⟨u, by omega, rfl, rfl⟩)
        · have hk0 : ¬ nI k < 0 := (xnn (j := k) (by omega)).2.1
          rw [b1, b2, if_neg (nIm1 (by omega)), if_neg hk0, xzn (show k < 2 ^ 31 by omega), h4 k (by omega)]
          by_cases d : yM (sWh Lf t p E S u) p < yM (sWh Lf t p E S k) p
          · have d' : ¬ yM (sWh Lf t p E S k) p ≤ yM (sWh Lf t p E S u) p := fun h => by rw [Int32.le_iff_toInt_le] at h; rw [Int32.lt_iff_toInt_lt] at d; omega
            rw [if_neg d', if_pos d]
            exact K _ _ (Or.inr ⟨u, by omega, rfl, rfl⟩)
          · have d' : yM (sWh Lf t p E S k) p ≤ yM (sWh Lf t p E S u) p := by rw [Int32.le_iff_toInt_le]; rw [Int32.lt_iff_toInt_lt] at d; omega
            rw [if_pos d', if_neg d]
            exact K _ _ (Or.inr ⟨k, by omega, rfl, rfl⟩)
end XMK
theorem xMeetW {t p : Nat} {r rm : zRr} {q qm : zRq} {a : Int32} (h : xHow t p r q rm qm) : (Gk_meeting a r q).1 = (Gm_meeting a rm qm).1 := by
  have ht := h.le.1
  have hp := h.le.2
  have h1 := h.z100
  obtain ⟨hE, hE'⟩ := h1.E
  obtain ⟨S, s1, s2, s3⟩ := h1.2.1
  have go : a = 0 ∨ a = 1 → (Gk_meeting_11 a r q).1 = (Gm_meeting_23 a qm 7 (-1) (-1) 0 (zset rm 100 (fun _ => 0))).1 := by
    intro ha
    unfold Gk_meeting_11
    rw [zletQ]
    have f0 : zFr [204] r (zset r 204 (zfl (r 204) 0 6)) := zFr.refl.set rfl
    have z0 : ∀ u, u < t → zset r 204 (zfl (r 204) 0 6) 204 u = 0 := fun u hu => by
      rw [zset_eq]; exact if_pos (by omega)
    obtain ⟨r1, f1, c1, e1⟩ := kMt24 (q := q) (a := a) hE s1 h.R 7 0 (zset r 204 (zfl (r 204) 0 6)) (by omega) (by omega) (f0.up (by decide)) z0
    rw [nI_0] at e1
    rw [e1]
    have h9 : r1 171 9 = nI t := by rw [f1 171 rfl]; exact hE.1.1
    exact xMt71 (Lf := sL r) (E := sE r) (S := S) hE' s2 s3 h.R h9 c1 ha 7 0 (-1) (-1) _ (by omega) (by omega) zFr.refl zRs.refl (Or.inl ⟨rfl, rfl⟩)
  unfold Gk_meeting Gm_meeting Gm_within
  simp only [zletQ, zifQ, zifnQ]
  by_cases a0 : a = 0
  · subst a0
    rw [if_pos rfl, if_neg (show ¬ (0 : Int32) < 0 by decide), if_neg (show ¬ (1 : Int32) < 0 by decide), if_neg (show ¬ (1 : Int32) = 0 by decide)]
    exact go (Or.inl rfl)
  · rw [if_neg a0]
    by_cases a1 : a = 1
    · subst a1
      rw [if_pos rfl, if_neg (show ¬ (1 : Int32) < 0 by decide), if_neg (show ¬ (1 : Int32) < 1 by decide), if_neg (show ¬ (1 : Int32) = 0 by decide)]
      exact go (Or.inr rfl)
    · rw [if_neg a1]
      by_cases c : a < 0
      · rw [if_pos c, if_pos (show (0 : Int32) = 0 from rfl)]
      · have c1 : 1 < a := by
          have e0 : (0 : Int32).toInt = 0 := by decide
          have e1 : (1 : Int32).toInt = 1 := by decide
          have n0 : a.toInt ≠ 0 := fun h => a0 (Int32.toInt_inj.mp (h.trans e0.symm))
          have n1 : a.toInt ≠ 1 := fun h => a1 (Int32.toInt_inj.mp (h.trans e1.symm))
          rw [Int32.lt_iff_toInt_lt] at c ⊢
          omega
        rw [if_neg c, if_pos c1, if_pos (show (0 : Int32) = 0 from rfl)]
end
section
/-! ===== judged: the loop ===== -/
noncomputable def xWo (w : Int32) : Prop := w = -1 ∨ ∃ i, i ≤ 1000 ∧ w = nI i
theorem xWo.nn {w : Int32} (h : xWo w) : (0 : Int32) ≤ w ↔ ¬ w = -1 := by
  rcases h with rfl | ⟨i, hi, rfl⟩
  · exact ⟨fun h => absurd h (by decide), fun h => absurd rfl h⟩
  · exact ⟨fun _ => nIm1 hi, fun _ => nI_leP (a := 0) (by omega) (by omega) (by omega)⟩
noncomputable def xLs (t p n : Nat) (r rm : zRr) : Prop := r 138 3 = nI n ∧ rm 25 0 = nI n ∧ ∀ k, k < n → r 139 k = rm 26 k ∧ (¬ r 139 k = 3 → r 140 k = rm 27 k) ∧ (r 139 k = 0 ∨ r 139 k = 1 → r 141 k = rm 28 k) ∧ xBd t p (r 139 k) (r 140 k) (r 141 k)
theorem xLs.fr {t p n : Nat} {r r1 rm rm1 : zRr} (h : xLs t p n r rm) (f : zFr [12, 13, 14, 15, 16, 17, 182] r r1) (g : zFr [15, 16, 17, 18, 19, 20, 21, 22, 23, 24, 32] rm rm1) : xLs t p n r1 rm1 := by
  unfold xLs at h ⊢
  rw [f 138 rfl, f 139 rfl, f 140 rfl, f 141 rfl, g 25 rfl, g 26 rfl, g 27 rfl, g 28 rfl]
  exact h
section XJL2
variable {Lf : xLT} {t p : Nat} {E : Nat → Nat → Int32} {q qm : zRq}
end XJL2
end
section
/-! ===== what holds between two calls: the tapes alike, the same LAND told, all as it is on either side ===== -/
noncomputable def lR (r : zRr) (q : zRq) (rm : zRr) (qm : zRq) : Prop := lT r rm ∧ (∃ t p, xHow t p r q rm qm) ∧ lM r rm ∧ lS r rm
section LR
variable {r r1 : zRr} {q : zRq} {rm rm1 : zRr} {qm qm1 : zRq}
theorem lR.w {M : List Nat} (h : lR r q rm qm) (fk : zFt r r1) (fm : zFr M rm rm1) (m32 : zRs rm rm1) (m152 : rm1 152 0 = 0) (hM : ([0, 1, 4, 5, 6, 7, 8, 9, 10, 11, 12, 25, 26, 27, 28, 29, 35, 36, 37, 101, 151].all fun k => !M.contains k) = true) : lR r1 q rm1 qm := by
  have g : ∀ a, [0, 1, 4, 5, 6, 7, 8, 9, 10, 11, 12, 25, 26, 27, 28, 29, 35, 36, 37, 101, 151].contains a = true → M.contains a = false := fun a ha => by
    have := List.all_eq_true.mp hM a (List.contains_iff_mem.mp ha)
    revert this
    cases M.contains a with
    | false => intro _; rfl
    | true => intro h; cases h
  obtain ⟨h1, ⟨t, p, h2⟩, h3, h4⟩ := h
  refine ⟨(h1.k ⟨fk 196 rfl, fk 197 rfl⟩).m (fm 0 (g 0 rfl)) (fm 101 (g 101 rfl)), ⟨t, p, h2.fr (fun a ha => fk a (zK3_in (by omega))) m32 m152 fm ?_⟩, h3.fr (fun k hk => fk _ (zK3_in (by omega))) (fm 37 (g 37 rfl)), h4.fr (fun k hk => fk _ (zK3_in (by omega))) (fm 29 (g 29 rfl))⟩
  rw [List.all_eq_true]
  intro a ha
  have ha : [1, 4, 5, 6, 7, 8, 9, 10, 11, 12, 25, 26, 27, 28, 35, 36, 37, 151].contains a = true := List.contains_iff_mem.mpr ha
  have : [0, 1, 4, 5, 6, 7, 8, 9, 10, 11, 12, 25, 26, 27, 28, 29, 35, 36, 37, 101, 151].contains a = true := by
    have h9 := List.contains_iff_mem.mp ha
    simp only [List.mem_cons, List.not_mem_nil, or_false] at h9
    rw [List.contains_iff_mem]
    simp only [List.mem_cons, List.not_mem_nil, or_false]
    omega
  rw [g a this]; rfl
theorem lR.z (h : lR r q rm qm) : rm 152 0 = 0 := by
  obtain ⟨_, ⟨_, _, h2⟩, _⟩ := h
  exact h2.2.2.2.2.2
theorem lR.s {M : List Nat} (h : lR r q rm qm) (fk : zFt r r1) (fm : zFr M rm rm1) (m32 : zRs rm rm1) (k152 : M.contains 152 = false) (hM : ([0, 1, 4, 5, 6, 7, 8, 9, 10, 11, 12, 25, 26, 27, 28, 29, 35, 36, 37, 101, 151].all fun k => !M.contains k) = true) : lR r1 q rm1 qm := h.w fk fm m32 (by rw [fm 152 k152]; exact h.z) hM
theorem lR.n (h : lR r q rm qm) (n : mNm qm qm1) : lR r q rm qm1 := by
  obtain ⟨h1, ⟨t, p, h2, h3⟩, h4⟩ := h
  exact ⟨h1, ⟨t, p, h2.fr ⟨fun _ _ _ => rfl, rfl, rfl⟩ (xLow.of rfl (fun _ _ _ => rfl) n.1 n.2), h3⟩, h4⟩
theorem mJ.fo (hM : mJ 20 rm) : ∀ j, j < 6 → zI 0 20 (rm 32 (13 + j)) := by
  intro j hj
  rcases (show j = 0 ∨ j = 1 ∨ j = 2 ∨ j = 3 ∨ j = 4 ∨ j = 5 by omega) with rfl | rfl | rfl | rfl | rfl | rfl
  · exact hM.i 32 13
  · exact hM.i 32 14
  · exact hM.i 32 15
  · exact hM.i 32 16
  · exact hM.i 32 17
  · exact hM.i 32 18
/-- what is asked: the standing is back as it was -/
theorem lR.sJ {a : Int32} {um : Int32 × zRr} (em : um = Gm_judged a rm qm) (h : lR r q rm qm) : zRs rm um.2 := by
  obtain ⟨_, ⟨t, p, h2⟩, _⟩ := h
  obtain ⟨n, hn, _, h25, _⟩ := h2.2.2.2.2.1
  rw [em]; exact rs_judged h25 hn h2.1.2.1.2.1 h2.le.2
theorem lR.sN {a b : Int32} {um : Int32 × zRr} (em : um = Gm_need a b rm qm) (hM : mJ 20 rm) (h : lR r q rm qm) : zRs rm um.2 := by
  obtain ⟨_, ⟨t, p, h2⟩, _⟩ := h
  rw [em]; exact rs_need h2.1.2.1.2.1 h2.le.2 hM.fo
theorem lR.sD {a b : Int32} {um : Int32 × zRr} (em : um = Gm_debt a b rm qm) (hM : mJ 20 rm) (h : lR r q rm qm) : zRs rm um.2 := by
  obtain ⟨_, ⟨t, p, h2⟩, _⟩ := h
  rw [em]; exact rs_debt h2.1.2.1.2.1 h2.le.2 hM.fo
theorem lR.sC {a : Int32} {um : Int32 × zRr} (em : um = Gm_cheapest a rm qm) (hM : mJ 20 rm) (h : lR r q rm qm) : zRs rm um.2 := by
  obtain ⟨_, ⟨t, p, h2⟩, _⟩ := h
  rw [em]; exact rs_cheapest h2.1.2.1.2.1 h2.le.2 hM.fo
theorem lR.sT {a b : Int32} {um : Int32 × zRr} (em : um = Gm_stricter a b rm qm) (h : lR r q rm qm) : um.2 152 0 = 0 := by
  have h0 := h.z
  obtain ⟨_, ⟨t, p, h2⟩, _⟩ := h
  rw [em]; exact rs_stricter h0 h2.1.2.1.2.1 h2.le.2
/-- a move -/
theorem lR.mv {M : List Nat} {u um : Int32 × zRr} (h : lR r q rm qm) (k : ∀ t p, xHow t p r q rm qm → u.1 = um.1 ∧ xHow t p u.2 q um.2 qm ∧ xK1 r u.2) (fm : zFr M rm um.2) (hM : ([0, 29, 37, 101].all fun k => !M.contains k) = true) : u.1 = um.1 ∧ lR u.2 q um.2 qm := by
  have g : ∀ a, [0, 29, 37, 101].contains a = true → M.contains a = false := fun a ha => by
    have := List.all_eq_true.mp hM a (List.contains_iff_mem.mp ha)
    revert this
    cases M.contains a with
    | false => intro _; rfl
    | true => intro h; cases h
  obtain ⟨h1, ⟨t, p, h2⟩, h3, h4⟩ := h
  obtain ⟨k1, k2, k3⟩ := k t p h2
  exact ⟨k1, (h1.k ⟨k3 196 (by omega) (by omega) (by omega), k3 197 (by omega) (by omega) (by omega)⟩).m (fm 0 (g 0 rfl)) (fm 101 (g 101 rfl)), ⟨t, p, k2⟩, h3.fr (fun k hk => k3 _ (by omega) (by omega) (by omega)) (fm 37 (g 37 rfl)), h4.fr (fun k hk => k3 _ (by omega) (by omega) (by omega)) (fm 29 (g 29 rfl))⟩
theorem lR.go {a b : Int32} {M : List Nat} {u um : Int32 × zRr} (e : u = Gk_go a b r q) (em : um = Gm_go a b rm qm) (h : lR r q rm qm) (fm : zFr M rm um.2) (hM : ([0, 29, 37, 101].all fun k => !M.contains k) = true) : u.1 = um.1 ∧ lR u.2 q um.2 qm :=
  h.mv (fun t p k => by rw [e, em]; exact xGoW k) fm hM
theorem lR.forge {a b : Int32} {M : List Nat} {u um : Int32 × zRr} (e : u = Gk_forge a b r q) (em : um = Gm_forge a b rm qm) (hJ : mJ 20 rm) (h : lR r q rm qm) (fm : zFr M rm um.2) (hM : ([0, 29, 37, 101].all fun k => !M.contains k) = true) : u.1 = um.1 ∧ lR u.2 q um.2 qm :=
  h.mv (fun t p k => by rw [e, em]; exact xFgW k hJ.fo) fm hM
theorem lR.shave {a : Int32} {M : List Nat} {u um : Int32 × zRr} (e : u = Gk_shave a r q) (em : um = Gm_shave a rm qm) (h : lR r q rm qm) (fm : zFr M rm um.2) (hM : ([0, 29, 37, 101].all fun k => !M.contains k) = true) : u.1 = um.1 ∧ lR u.2 q um.2 qm :=
  h.mv (fun t p k => by rw [e, em]; exact xShW k) fm hM
theorem lR.week {M : List Nat} {u um : Int32 × zRr} (e : u = Gk_week r q) (em : um = Gm_week rm qm) (h : lR r q rm qm) (fm : zFr M rm um.2) (hM : ([0, 29, 37, 101].all fun k => !M.contains k) = true) : u.1 = um.1 ∧ lR u.2 q um.2 qm :=
  h.mv (fun t p k => by rw [e, em]; exact xWkW k) fm hM
theorem lR.undo {M : List Nat} {u um : Int32 × zRr} (e : u = Gk_undo r q) (em : um = Gm_undo rm qm) (h : lR r q rm qm) (fm : zFr M rm um.2) (hM : ([0, 29, 37, 101].all fun k => !M.contains k) = true) : u.1 = um.1 ∧ lR u.2 q um.2 qm :=
  h.mv (fun t p k => by rw [e, em]; exact xUnW k) fm hM
theorem lR.land {B : Int} {u um : Int32 × zRr × zRq} (e : u = Gk_land r q) (em : um = Gm_land rm qm) (hM : mJ B rm) (h : lR r q rm qm) (z : u.2.1 196 1 = 0) (zm : um.2.1 101 0 = 0) : u.1 = um.1 ∧ lR u.2.1 u.2.2 um.2.1 um.2.2 := by
  obtain ⟨h1, ⟨t, p, h2⟩, h3, h4⟩ := h
  have hp := h1.p hM
  have k := xLandM (q := q) (qm := qm) hp h3 h4
  refine ⟨by rw [e, em]; exact xLandA hp, lT.z z zm, ?_, ?_⟩
  · rw [e, em]; exact xLandW hp h2
  · rw [e, em]; exact k
theorem xJourF {L t p : Nat} (h : xTp L r rm) (hD : xTd t p r q rm qm) {a : Nat} (h1 : 146 ≤ a) (h2 : a ≠ 196) : (Gk_journey r q).2.1 a = r a := by
  obtain ⟨⟨hk, k⟩, _⟩ := xjourney h hD
  unfold Gk_journey
  generalize Gk_readJ r q = o at hk k ⊢
  obtain ⟨v, r3, q4⟩ := o
  have hk : xJk (xRj r) q r3 q4 := hk
  have e3 : r3 a = r a := by
    rw [hk.1 a ?_]
    · show xs (xs (xs r 142 3 0) 196 3 0) 196 7 0 a = r a
      unfold xs
      rw [zset_ne h2, zset_ne h2, zset_ne (by omega)]
    · cases e : [142, 143, 144, 145, 196].contains a with
      | false => rfl
      | true =>
        have := List.contains_iff_mem.mp e
        simp only [List.mem_cons, List.not_mem_nil, or_false] at this
        omega
  rw [xcvrq (r := r3)]
  simp only [zletQ, zifnQ]
  by_cases hv : v = 0
  · rw [if_pos hv]
    show zset r3 196 (upd (r3 196) 1 0) a = r a
    rw [zset_ne h2]; exact e3
  · rw [if_neg hv]
    show kcp1 (zset r3 196 (upd (r3 196) 1 0)) 138 142 a = r a
    rw [kcp1_o (by omega), zset_ne h2]; exact e3
theorem lR.jour {B : Int} {M : List Nat} {u um : Int32 × zRr × zRq} (e : u = Gk_journey r q) (em : um = Gm_journey rm qm) (hM : mJ B rm) (h : lR r q rm qm) (z : u.2.1 196 1 = 0) (zm : um.2.1 101 0 = 0) (f : zFr M rm um.2.1) (h3 : M.contains 29 = false) (h4 : M.contains 37 = false) : u.1 = um.1 ∧ lR u.2.1 u.2.2 um.2.1 um.2.2 := by
  obtain ⟨g1, ⟨t, p, g2⟩, g3, g4⟩ := h
  have k := xJourW (g1.p hM) g2
  have kf : ∀ a, 146 ≤ a → a ≠ 196 → u.2.1 a = r a := fun a a1 a2 => by rw [e]; exact xJourF (g1.p hM) g2.1 a1 a2
  refine ⟨by rw [e, em]; exact k.1, lT.z z zm, ⟨t, p, by rw [e, em]; exact k.2⟩, g3.fr (fun k hk => kf _ (by omega) (by omega)) (f 37 h4), g4.fr (fun k hk => kf _ (by omega) (by omega)) (f 29 h3)⟩
theorem xMarkF {a b : Int32} {c : Nat} (h1 : 171 ≤ c) (h2 : c ≠ 195) : (Gk_mark a b r q).2 c = r c := by
  by_cases h0 : a < 0
  · unfold Gk_mark; rw [zifQ, if_pos h0]
  by_cases h4 : a < 4
  · obtain ⟨k, hk, ea⟩ : ∃ k, k < 4 ∧ a = nI k := by
      have hz : zI 0 3 a := by
        rw [Int32.lt_iff_toInt_lt] at h0 h4
        have c0 : (0 : Int32).toInt = 0 := by decide
        have c4 : (4 : Int32).toInt = 4 := by decide
        exact ⟨by omega, by omega⟩
      obtain ⟨e1, e2⟩ := hz.ix (n := 4) (by decide)
      exact ⟨_, e2, e1⟩
    subst ea
    rw [xmarkK hk]
    by_cases hb : b = 0
    · rw [if_pos hb]
      show xLay k r c = r c
      unfold xLay
      rw [zset_ne (by omega), zset_ne (by omega), kcp1_o (by omega), kcp8_o (by omega)]
    · rw [if_neg hb]
      by_cases hz : r (167 + k) 3 = 0
      · rw [if_pos hz]
      · rw [if_neg hz]
        show xBack k r q c = r c
        unfold xBack Gk_forgetPast
        simp only [zletQ]
        rw [zset_ne h2, zset_ne h2, zset_ne (by omega), kcp1_o (by omega), kcp8_o (by omega)]
  · unfold Gk_mark
    simp only [zifQ, if_neg h0, if_neg h4]
theorem lR.mark {a b : Int32} {u um : Int32 × zRr} (e : u = Gk_mark a b r q) (em : um = Gm_mark a b rm qm) (h : lR r q rm qm) (f : zFr [100, 37, 25, 26, 27, 28, 29, 30, 31, 32, 151, 35] rm um.2) : u.1 = um.1 ∧ lR u.2 q um.2 qm := by
  obtain ⟨g1, ⟨t, p, g2⟩, g3, g4⟩ := h
  obtain ⟨k1, k2, k3⟩ := xMark (a := a) (b := b) (q := q) (qm := qm) g3 g4
  have kf : ∀ c, 171 ≤ c → c ≠ 195 → u.2 c = r c := fun c c1 c2 => by rw [e]; exact xMarkF c1 c2
  have kw := xMarkW (a := a) (b := b) (q := q) (qm := qm) g3 g4 g2
  rw [← e, ← em] at k1 k2 k3 kw
  exact ⟨k1, (g1.k ⟨kf 196 (by omega) (by omega), kf 197 (by omega) (by omega)⟩).m (f 0 rfl) (f 101 rfl), ⟨t, p, kw ⟨k1, kf⟩ f⟩, k2, k3⟩
theorem lR.see {a b : Int32} {B : Int} {u um : Int32 × zRr} (e : u = Gk_see a b r q) (em : um = Gm_see a b rm qm) (hM : mJ B rm) (h : lR r q rm qm) : u.1 = um.1 ∧ lR u.2 q um.2 qm := by
  obtain ⟨g1, ⟨t, p, g2⟩, g3, g4⟩ := h
  obtain ⟨k1, k2, k3, k4⟩ := xSee (a := a) (b := b) g2.1 g4 (show zI 0 8 (rm 29 0) from hM.i 29 0)
  rw [← e] at k1 k2 k4
  rw [← em] at k1 k3 k4
  have kf : ∀ a, a ≠ 162 → a ≠ 182 → u.2 a = r a := fun a a1 a2 => k2 a (by
    cases e : [162, 182].contains a with
    | false => rfl
    | true =>
      have := List.contains_iff_mem.mp e
      simp only [List.mem_cons, List.not_mem_nil, or_false] at this
      omega)
  refine ⟨k1, (g1.k ⟨kf 196 (by omega) (by omega), kf 197 (by omega) (by omega)⟩).m (k3 0 (by decide)) (k3 101 (by decide)), ⟨t, p, ?_⟩, g3.fr (fun k hk => kf _ (by omega) (by omega)) (k3 37 (by decide)), k4⟩
  exact (xHow.see g2 kf k3)
end LR
theorem lR.q {r r1 : zRr} {q : zRq} {rm rm1 : zRr} {qm : zRq} {M : List Nat} (h : lR r q rm qm) (fk : zFt r r1) (fm : zFr M rm rm1) (k32 : M.contains 32 = false) (k152 : M.contains 152 = false) (hM : ([0, 1, 4, 5, 6, 7, 8, 9, 10, 11, 12, 25, 26, 27, 28, 29, 35, 36, 37, 101, 151].all fun k => !M.contains k) = true) : lR r1 q rm1 qm := h.w fk fm (fun i _ => by rw [fm 32 k32]) (by rw [fm 152 k152]; exact h.z) hM
end
section
/-! ===== the comparisons ===== -/
section LC
variable {r : zRr} {q : zRq} {rm : zRr} {qm : zRq} {a b : Int32}
theorem lR.cMeeting {u um : Int32 × zRr} (e : u = Gk_meeting a r q) (em : um = Gm_meeting a rm qm) (_ : mJ 20 rm) (_ : kJ r) (h : lR r q rm qm) : u.1 = um.1 := by
  obtain ⟨_, ⟨t, p, h2⟩, _⟩ := h
  rw [e, em]; exact xMeetW h2
end LC
end
