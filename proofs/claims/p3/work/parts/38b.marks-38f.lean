/-! ===== the marks' flags, how many were SEEN ===== -/
noncomputable def lM (r rm : zRr) : Prop := ∀ k, k < 4 → r (167 + k) 3 = rm 37 k ∧ (rm 37 k = 0 ∨ rm 37 k = 1)
noncomputable def lS (r rm : zRr) : Prop := ∀ k, k < 5 → r (162 + k) 1 = rm 29 k
theorem lM.fr {r r1 rm rm1 : zRr} (h : lM r rm) (f : ∀ k, k < 4 → r1 (167 + k) = r (167 + k)) (g : rm1 37 = rm 37) : lM r1 rm1 := by
  intro k hk
  rw [f k hk, g]; exact h k hk
theorem lS.fr {r r1 rm rm1 : zRr} (h : lS r rm) (f : ∀ k, k < 5 → r1 (162 + k) = r (162 + k)) (g : rm1 29 = rm 29) : lS r1 rm1 := by
  intro k hk
  rw [f k hk, g]; exact h k hk
/-- land, told apart: a fault, or all begins anew -/
theorem xLandC {L : Nat} {r : zRr} {q : zRq} {rm : zRr} {qm : zRq} (h : xTp L r rm) :
    (∃ r15 q16 rm9 qm10, xGk (xRa (Gk_clear r q)) q r15 q16 ∧ xGm (xMb (zset rm 100 (fun _ => 0))) qm rm9 qm10 ∧ Gk_land r q = (zset r15 196 (upd (r15 196) 1 0) 196 7, zset r15 196 (upd (r15 196) 1 0), q16) ∧ Gm_land rm qm = (rm9 109 0, rm9, qm10)) ∨
    (∃ t p r15 q16 rm9 qm10 r17, xGk (xRa (Gk_clear r q)) q r15 q16 ∧ xGm (xMb (zset rm 100 (fun _ => 0))) qm rm9 qm10 ∧ r17 = zset r15 196 (upd (r15 196) 1 0) ∧ xD t p r17 q16 rm9 qm10 ∧
      Gk_land r q = Gk_land_79 5 0 (Gk_forgetPast (Gk_clear6 (zset (Gk_begin8N (kcpL r17 (zn (r17 192 2))) (kcpLq q16)) 138 (upd (Gk_begin8N (kcpL r17 (zn (r17 192 2))) (kcpLq q16) 138) 3 0)) (kcpLq q16)) (kcpLq q16)) (kcpLq q16) ∧
      Gm_land rm qm = Gm_land_46 5 0 (zset (zset (zset (Gm_fresh0 (Gm_lays rm9 qm10).1 (Gm_lays rm9 qm10).2) 25 (upd (Gm_fresh0 (Gm_lays rm9 qm10).1 (Gm_lays rm9 qm10).2 25) 0 0)) 29 (upd (zset (Gm_fresh0 (Gm_lays rm9 qm10).1 (Gm_lays rm9 qm10).2) 25 (upd (Gm_fresh0 (Gm_lays rm9 qm10).1 (Gm_lays rm9 qm10).2 25) 0 0) 29) 0 0)) 151 (fun _ => 0)) (Gm_lays rm9 qm10).2) := by
  obtain ⟨gk, gm, k⟩ := xland (q := q) (qm := qm) (show xTp L r (zset rm 100 (fun _ => 0)) from h)
  unfold Gk_land Gm_land
  simp only [zletQ]
  generalize Gk_readL r q = o at gk k ⊢
  generalize Gm_readsAll (zset rm 100 (fun _ => 0)) qm = om at gm k ⊢
  obtain ⟨v, r15, q16⟩ := o
  obtain ⟨w, rm9, qm10⟩ := om
  have gk : xGk (xRa (Gk_clear r q)) q r15 q16 := gk
  have gm : xGm (xMb (zset rm 100 (fun _ => 0))) qm rm9 qm10 := gm
  rw [xcvrq (r := r15), xcvrq (r := rm9)]
  simp only [zletQ, zifnQ, zc_rqQ]
  rcases k with ⟨a1, a2, a3⟩ | ⟨a1, a2, t', p', a3⟩
  · have a1 : v = 0 := a1
    have a2 : w = 0 := a2
    left
    rw [if_pos a1, if_pos a2]
    exact ⟨r15, q16, rm9, qm10, gk, gm, rfl, rfl⟩
  · have a1 : v = 1 := a1
    have a2 : w = 1 := a2
    have a3 : xD t' p' r15 q16 rm9 qm10 := a3
    right
    rw [if_neg (show ¬ v = 0 by rw [a1]; decide), if_neg (show ¬ w = 0 by rw [a2]; decide)]
    exact ⟨t', p', r15, q16, rm9, qm10, _, gk, gm, rfl, a3.tok (q1 := q16) (qm1 := qm10) ⟨zFr.refl.set rfl, xFq.refl⟩ xFm9.refl, rfl, rfl⟩
theorem xl79v : ∀ (n i : Nat) (r : zRr) (q : zRq), i ≤ 4 → 4 < n + i → (∀ k, k < i → r (167 + k) 3 = 0) → ∀ k, k < 4 → (Gk_land_79 n (nI i) r q).2.1 (167 + k) 3 = 0 := by
  intro n
  induction n with
  | zero => intro i r q h1 h2; omega
  | succ n ih =>
    intro i r q h1 h2 h3 k hk
    have e0 : Gk_land_79 (n + 1) (nI i) r q = Bk_land_79 (Gk_land_79 n) (nI i) r q := rfl
    rw [e0]
    unfold Bk_land_79
    simp only [zifQ, zletQ, xzn (show i < 2 ^ 31 by omega), nI_1]
    by_cases h4 : 4 ≤ i
    · have c4 : (4 : Int32) ≤ nI i := (nI_leI (a := 4) (by omega) (by omega)).mpr h4
      rw [if_pos c4]
      exact h3 k (by omega)
    · have c4 : ¬ (4 : Int32) ≤ nI i := fun h => h4 ((nI_leI (a := 4) (by omega) (by omega)).mp h)
      rw [if_neg c4]
      have key : (Gk_land_79 n (nI (i + 1)) (zset r (167 + i) (upd (r (167 + i)) 3 0)) q).2.1 (167 + k) 3 = 0 := by
        refine ih (i + 1) _ q (by omega) (by omega) (fun j hj => ?_) k hk
        by_cases e : j = i
        · subst e; rw [zset_eq, pk_us]
        · rw [zset_ne (by omega)]; exact h3 j (by omega)
      rcases (show i = 0 ∨ i = 1 ∨ i = 2 ∨ i = 3 by omega) with rfl | rfl | rfl | rfl
      · rw [if_pos rfl]; exact key
      · rw [if_neg (by decide), if_pos rfl]; exact key
      · rw [if_neg (by decide), if_neg (by decide), if_pos rfl]; exact key
      · rw [if_neg (by decide), if_neg (by decide), if_neg (by decide), if_pos rfl]; exact key
theorem xm46v : ∀ (n i : Nat) (r : zRr) (q : zRq), i ≤ 4 → 4 < n + i → (∀ k, k < i → r 37 k = 0) → ∀ k, k < 4 → (Gm_land_46 n (nI i) r q).2.1 37 k = 0 := by
  intro n
  induction n with
  | zero => intro i r q h1 h2; omega
  | succ n ih =>
    intro i r q h1 h2 h3 k hk
    have e0 : Gm_land_46 (n + 1) (nI i) r q = Bm_land_46 (Gm_land_46 n) (nI i) r q := rfl
    rw [e0]
    unfold Bm_land_46
    simp only [zifQ, zletQ, nI_1]
    by_cases h4 : 4 ≤ i
    · have c4 : (4 : Int32) ≤ nI i := (nI_leI (a := 4) (by omega) (by omega)).mpr h4
      rw [if_pos c4]
      exact h3 k (by omega)
    · have c4 : ¬ (4 : Int32) ≤ nI i := fun h => h4 ((nI_leI (a := 4) (by omega) (by omega)).mp h)
      rw [if_neg c4, xzn (show i < 2 ^ 31 by omega)]
      refine ih (i + 1) _ q (by omega) (by omega) (fun j hj => ?_) k hk
      by_cases e : j = i
      · subst e; rw [zset_eq, pk_us]
      · rw [zset_eq, pk_un e]; exact h3 j (by omega)
/-! ===== mark ===== -/
noncomputable def xLay (k : Nat) (r : zRr) : zRr := zset (zset (kcp1 (kcp8 r (114 + 6 * k) 6) (146 + 4 * k) 138) (163 + k) (kcp1 (kcp8 r (114 + 6 * k) 6) (146 + 4 * k) 138 162)) (167 + k) (upd (zset (kcp1 (kcp8 r (114 + 6 * k) 6) (146 + 4 * k) 138) (163 + k) (kcp1 (kcp8 r (114 + 6 * k) 6) (146 + 4 * k) 138 162) (167 + k)) 3 1)
noncomputable def xBack (k : Nat) (r : zRr) (q : zRq) : zRr := Gk_forgetPast (zset (kcp1 (kcp8 r 6 (114 + 6 * k)) 138 (146 + 4 * k)) 162 (kcp1 (kcp8 r 6 (114 + 6 * k)) 138 (146 + 4 * k) (163 + k))) q
theorem xmarkK {b : Int32} {r : zRr} {q : zRq} {k : Nat} (hk : k < 4) : Gk_mark (nI k) b r q = if b = 0 then (1, xLay k r) else if r (167 + k) 3 = 0 then (0, r) else (1, xBack k r q) := by
  have c0 : ¬ nI k < 0 := (xnn (j := k) (by omega)).2.1
  have c4 : nI k < 4 := (nI_ltI (b := 4) (by omega) (by omega)).mpr hk
  unfold Gk_mark Gk_markLay0 Gk_markLay1 Gk_markLay2 Gk_markLay3
  simp only [zifQ, zifnQ, zletQ, if_neg c0, if_pos c4, xzn (show k < 2 ^ 31 by omega)]
  rcases (show k = 0 ∨ k = 1 ∨ k = 2 ∨ k = 3 by omega) with rfl | rfl | rfl | rfl
  · rw [if_pos rfl]; rfl
  · rw [if_neg (by decide), if_pos rfl]; rfl
  · rw [if_neg (by decide), if_neg (by decide), if_pos rfl]; rfl
  · rw [if_neg (by decide), if_neg (by decide), if_neg (by decide), if_pos rfl]; rfl
theorem xseen14 {a b : Int32} : ∀ (n i : Nat) (r : zRr), i ≤ 8 → 8 < n + i → zFr [30, 31] r (Gm_laysSeen_14 a b n (nI i) r) := by
  intro n
  induction n with
  | zero => intro i r h1 h2; omega
  | succ n ih =>
    intro i r h1 h2
    have e0 : Gm_laysSeen_14 a b (n + 1) (nI i) r = Bm_laysSeen_14 a b (Gm_laysSeen_14 a b n) (nI i) r := rfl
    rw [e0]
    unfold Bm_laysSeen_14
    simp only [zifQ, zletQ, nI_1]
    by_cases hp : 8 ≤ i
    · have c : (8 : Int32) ≤ nI i := (nI_leI (a := 8) (by omega) (by omega)).mpr hp
      rw [if_pos c]
      exact zFr.refl
    · have c : ¬ (8 : Int32) ≤ nI i := fun h => hp ((nI_leI (a := 8) (by omega) (by omega)).mp h)
      rw [if_neg c]
      refine zFr.tr ?_ (ih (i + 1) _ (by omega) (by omega)) (by decide)
      exact (zFr.refl.set rfl).set rfl
theorem xseenL {a b : Int32} {r : zRr} {q : zRq} : Gm_laysSeen a b r q 29 = upd (r 29) (zn b) (r 29 (zn a)) ∧ zFr [29, 30, 31] r (Gm_laysSeen a b r q) := by
  unfold Gm_laysSeen
  simp only [zletQ]
  have k := xseen14 (a := a) (b := b) 9 0 (zset r 29 (upd (r 29) (zn b) (r 29 (zn a)))) (by omega) (by omega)
  rw [nI_0] at k
  refine ⟨by rw [k 29 (by decide), zset_eq], ?_⟩
  have f : zFr [29, 30, 31] r (zset r 29 (upd (r 29) (zn b) (r 29 (zn a)))) := zFr.refl.set rfl
  exact f.tr k (by decide)
/-- the reference lays a mark, or goes back to one -/
theorem xmark29 {b : Int32} {rm : zRr} {qm : zRq} {k : Nat} (hk : k < 4) : (Gm_mark_29 (nI k) b qm rm).1 = 1 ∧ (Gm_mark_29 (nI k) b qm rm).2 37 = upd (rm 37) k 1 ∧ (Gm_mark_29 (nI k) b qm rm).2 29 = (if b = 0 then upd (rm 29) (1 + k) (rm 29 0) else upd (rm 29) 0 (rm 29 (1 + k))) := by
  have z0 : zn (0 : Int32) = 0 := by decide
  have e1 : (1 : Int32) + nI k = nI (1 + k) := nI_add 1 k
  have z1 : zn (nI (1 + k)) = 1 + k := xzn (by omega)
  unfold Gm_mark_29
  simp only [zifQ, zletQ, xzn (show k < 2 ^ 31 by omega), e1]
  by_cases hb : b = 0
  · simp only [if_pos hb]
    have l := xlaysL (a := 0) (b := nI (1 + k)) (r := zset rm 37 (upd (rm 37) k 1)) (q := qm)
    generalize Gm_laysLines 0 (nI (1 + k)) (zset rm 37 (upd (rm 37) k 1)) qm = u6 at l ⊢
    obtain ⟨s1, s2⟩ := xseenL (a := 0) (b := nI (1 + k)) (r := u6) (q := qm)
    generalize Gm_laysSeen 0 (nI (1 + k)) u6 qm = u8 at s1 s2 ⊢
    rw [z0, z1, l 29 (by decide), zset_ne (by decide)] at s1
    refine ⟨trivial, ?_, ?_⟩
    · show u8 37 = _
      rw [s2 37 (by decide), l 37 (by decide), zset_eq]
    · show u8 29 = _
      exact s1
  · simp only [if_neg hb]
    have l := xlaysL (a := nI (1 + k)) (b := 0) (r := zset rm 37 (upd (rm 37) k 1)) (q := qm)
    generalize Gm_laysLines (nI (1 + k)) 0 (zset rm 37 (upd (rm 37) k 1)) qm = u6 at l ⊢
    obtain ⟨s1, s2⟩ := xseenL (a := nI (1 + k)) (b := 0) (r := u6) (q := qm)
    generalize Gm_laysSeen (nI (1 + k)) 0 u6 qm = u8 at s1 s2 ⊢
    rw [z0, z1, l 29 (by decide), zset_ne (by decide)] at s1
    refine ⟨trivial, ?_, ?_⟩
    · show u8 37 = _
      rw [s2 37 (by decide), l 37 (by decide), zset_eq]
    · show u8 29 = _
      exact s1
theorem xMark {a b : Int32} {r : zRr} {q : zRq} {rm : zRr} {qm : zRq} (hM : lM r rm) (hS : lS r rm) : (Gk_mark a b r q).1 = (Gm_mark a b rm qm).1 ∧ lM (Gk_mark a b r q).2 (Gm_mark a b rm qm).2 ∧ lS (Gk_mark a b r q).2 (Gm_mark a b rm qm).2 := by
  have hM0 : lM r (zset rm 100 (fun _ => 0)) := hM
  have hS0 : lS r (zset rm 100 (fun _ => 0)) := hS
  by_cases h0 : a < 0
  · have ek : Gk_mark a b r q = (0, r) := by
      unfold Gk_mark; rw [zifQ, if_pos h0]
    have em : Gm_mark a b rm qm = (0, zset rm 100 (fun _ => 0)) := by
      unfold Gm_mark Gm_within; simp only [zletQ, zifQ, if_pos h0, if_true]
    rw [ek, em]
    exact ⟨rfl, hM0, hS0⟩
  by_cases h3 : 3 < a
  · have h4 : ¬ a < 4 := fun h => by
      rw [Int32.lt_iff_toInt_lt] at h h3
      have c3 : (3 : Int32).toInt = 3 := by decide
      have c4 : (4 : Int32).toInt = 4 := by decide
      omega
    have ek : Gk_mark a b r q = (0, r) := by
      unfold Gk_mark; simp only [zifQ, if_neg h0, if_neg h4]
    have em : Gm_mark a b rm qm = (0, zset rm 100 (fun _ => 0)) := by
      unfold Gm_mark Gm_within; simp only [zletQ, zifQ, if_neg h0, if_pos h3, if_true]
    rw [ek, em]
    exact ⟨rfl, hM0, hS0⟩
  obtain ⟨k, hk, ea⟩ : ∃ k, k < 4 ∧ a = nI k := by
    have hz : zI 0 3 a := by
      rw [Int32.lt_iff_toInt_lt] at h0 h3
      have c0 : (0 : Int32).toInt = 0 := by decide
      have c3 : (3 : Int32).toInt = 3 := by decide
      exact ⟨by omega, by omega⟩
    obtain ⟨e1, e2⟩ := hz.ix (n := 4) (by decide)
    exact ⟨_, e2, e1⟩
  subst ea
  have em : Gm_mark (nI k) b rm qm = if b = 0 then Gm_mark_29 (nI k) b qm (zset rm 100 (fun _ => 0)) else if rm 37 k = 0 then (0, zset rm 100 (fun _ => 0)) else Gm_mark_29 (nI k) b qm (zset rm 100 (fun _ => 0)) := by
    unfold Gm_mark Gm_within
    simp only [zletQ, zifQ, zifnQ, if_neg h0, if_neg h3, if_neg (show ¬ (1 : Int32) = 0 by decide), xzn (show k < 2 ^ 31 by omega)]
    rfl
  obtain ⟨m1, m2, m3⟩ := xmark29 (b := b) (rm := zset rm 100 (fun _ => 0)) (qm := qm) hk
  rw [xmarkK hk, em]
  generalize Gm_mark_29 (nI k) b qm (zset rm 100 (fun _ => 0)) = om at m1 m2 m3 ⊢
  obtain ⟨w, rm1⟩ := om
  have n1 : w = 1 := m1
  have n2 : rm1 37 = upd (rm 37) k 1 := m2
  have n3 : rm1 29 = if b = 0 then upd (rm 29) (1 + k) (rm 29 0) else upd (rm 29) 0 (rm 29 (1 + k)) := m3
  clear m1 m2 m3
  subst n1
  by_cases hb : b = 0
  · rw [if_pos hb, if_pos hb]
    rw [if_pos hb] at n3
    refine ⟨rfl, fun j hj => ?_, fun j hj => ?_⟩
    · show xLay k r (167 + j) 3 = rm1 37 j ∧ (rm1 37 j = 0 ∨ rm1 37 j = 1)
      rw [n2]
      unfold xLay
      by_cases e : j = k
      · subst e
        rw [zset_eq, pk_us, pk_us]
        exact ⟨rfl, Or.inr rfl⟩
      · rw [zset_ne (by omega), zset_ne (by omega), kcp1_o (by omega), kcp8_o (by omega), pk_un e]
        exact hM j hj
    · show xLay k r (162 + j) 1 = rm1 29 j
      rw [n3]
      unfold xLay
      rw [zset_ne (by omega)]
      by_cases e : j = 1 + k
      · subst e
        rw [show 162 + (1 + k) = 163 + k by omega, zset_eq, kcp1_o (by omega), kcp8_o (by omega), pk_us]
        exact hS 0 (by omega)
      · rw [zset_ne (by omega), kcp1_o (by omega), kcp8_o (by omega), pk_un e]
        exact hS j hj
  · rw [if_neg hb, if_neg hb]
    rw [if_neg hb] at n3
    have hf := hM k hk
    rw [hf.1]
    by_cases hz : rm 37 k = 0
    · rw [if_pos hz, if_pos hz]
      exact ⟨rfl, hM0, hS0⟩
    · rw [if_neg hz, if_neg hz]
      have h1 : rm 37 k = 1 := hf.2.resolve_left hz
      refine ⟨rfl, fun j hj => ?_, fun j hj => ?_⟩
      · show xBack k r q (167 + j) 3 = rm1 37 j ∧ (rm1 37 j = 0 ∨ rm1 37 j = 1)
        rw [n2]
        unfold xBack
        rw [xforget (167 + j) (by rcases (show j = 0 ∨ j = 1 ∨ j = 2 ∨ j = 3 by omega) with rfl | rfl | rfl | rfl <;> decide), zset_ne (by omega), kcp1_o (by omega), kcp8_o (by omega)]
        by_cases e : j = k
        · subst e
          rw [pk_us]
          exact ⟨hf.1.trans h1, Or.inr rfl⟩
        · rw [pk_un e]
          exact hM j hj
      · show xBack k r q (162 + j) 1 = rm1 29 j
        rw [n3]
        unfold xBack
        rw [xforget (162 + j) (by rcases (show j = 0 ∨ j = 1 ∨ j = 2 ∨ j = 3 ∨ j = 4 by omega) with rfl | rfl | rfl | rfl | rfl <;> decide)]
        by_cases e : j = 0
        · subst e
          rw [zset_eq, kcp1_o (by omega), kcp8_o (by omega), pk_us]
          have := hS (1 + k) (by omega)
          rw [show 162 + (1 + k) = 163 + k by omega] at this
          exact this
        · rw [zset_ne (by omega), kcp1_o (by omega), kcp8_o (by omega), pk_un e]
          exact hS j hj
/-! ===== land, journey, see, shave ===== -/
theorem xRak {r : zRr} {q : zRq} {a : Nat} (ha : [183, 185, 192, 193, 196, 198].contains a = false) : xRa (Gk_clear r q) a = r a := by
  obtain ⟨_, _, _, _, _, _, _, _, c9⟩ := xclear (r := r) (q := q) (rm := zset r 122 (fun _ => 1000)) rfl
  have f : zFr [183, 185, 192, 193, 196, 198] r (xRa (Gk_clear r q)) := (((((c9.up (by decide)).set (by decide)).set (by decide)).set (by decide)).set (by decide)).set (by decide)
  exact f a ha
theorem xclear6v {r : zRr} {q : zRq} : Gk_clear6 r q 162 1 = 0 := by
  unfold Gk_clear6
  simp only [zletQ]
  rw [zset_eq, pk_us]
theorem kcpL_lo {r : zRr} {k a : Nat} (h : a < 171) : kcpL r k a = r a := by
  unfold kcpL
  rw [if_neg (by omega), if_neg (by omega), if_neg (by omega), if_neg (by omega)]
theorem xLandM {L : Nat} {r : zRr} {q : zRq} {rm : zRr} {qm : zRq} (h : xTp L r rm) (hM : lM r rm) (hS : lS r rm) : lM (Gk_land r q).2.1 (Gm_land rm qm).2.1 ∧ lS (Gk_land r q).2.1 (Gm_land rm qm).2.1 := by
  rcases xLandC (q := q) (qm := qm) h with ⟨r15, q16, rm9, qm10, gk, gm, ek, em⟩ | ⟨t, p, r15, q16, rm9, qm10, r17, gk, gm, e17, hD, ek, em⟩
  · rw [ek, em]
    have k15 : ∀ a, a < 171 → 162 ≤ a → zset r15 196 (upd (r15 196) 1 0) a = r a := by
      intro a h1 h2
      rw [zset_ne (by omega), gk.1 a ?_, xRak ?_]
      · rcases (show a = 162 ∨ a = 163 ∨ a = 164 ∨ a = 165 ∨ a = 166 ∨ a = 167 ∨ a = 168 ∨ a = 169 ∨ a = 170 by omega) with rfl | rfl | rfl | rfl | rfl | rfl | rfl | rfl | rfl <;> decide
      · rcases (show a = 162 ∨ a = 163 ∨ a = 164 ∨ a = 165 ∨ a = 166 ∨ a = 167 ∨ a = 168 ∨ a = 169 ∨ a = 170 by omega) with rfl | rfl | rfl | rfl | rfl | rfl | rfl | rfl | rfl <;> decide
    have m37 : rm9 37 = rm 37 := (gm.1 37 (by decide)).trans rfl
    have m29 : rm9 29 = rm 29 := (gm.1 29 (by decide)).trans rfl
    exact ⟨hM.fr (fun k hk => k15 _ (by omega) (by omega)) m37, hS.fr (fun k hk => k15 _ (by omega) (by omega)) m29⟩
  · have hp6 : p ≤ 6 := hD.2.1.2.2.1
    have e10 : kcpL r17 (zn (r17 192 2)) 171 10 = nI p := by
      show upd (upd (upd (upd (r17 171) 9 (r17 183 9)) 10 (r17 183 10)) 11 (r17 183 11)) 12 (r17 183 12) 10 = nI p
      rw [pk_un (by decide), pk_un (by decide), pk_us]
      exact hD.2.1.1
    have m11 : (Gm_lays rm9 qm10).1 1 1 = nI p := by
      unfold Gm_lays
      simp only [zletQ]
      show zsf (rm9 1) 4 4 1 = nI p
      rw [xzsf (by decide)]
      exact hD.2.1.2.1
    have f8 := xbegin8 (q := kcpLq q16) e10 hp6
    have g8 := xfresh (q := (Gm_lays rm9 qm10).2) m11 hp6
    have l29 : (Gm_lays rm9 qm10).1 29 = rm9 29 := by
      unfold Gm_lays
      simp only [zletQ]
      rfl
    rw [ek, em]
    generalize Gk_begin8N (kcpL r17 (zn (r17 192 2))) (kcpLq q16) = u22 at f8 ⊢
    generalize Gm_fresh0 (Gm_lays rm9 qm10).1 (Gm_lays rm9 qm10).2 = um at g8 ⊢
    have f6 := xclear6 (r := zset u22 138 (upd (u22 138) 3 0)) (q := kcpLq q16)
    have v6 := xclear6v (r := zset u22 138 (upd (u22 138) 3 0)) (q := kcpLq q16)
    generalize Gk_clear6 (zset u22 138 (upd (u22 138) 3 0)) (kcpLq q16) = u25 at f6 v6 ⊢
    have f5 := xforget (r := u25) (q := kcpLq q16)
    generalize Gk_forgetPast u25 (kcpLq q16) = u27 at f5 ⊢
    refine ⟨fun k hk => ?_, fun k hk => ?_⟩
    · have a1 := xl79v 5 0 u27 (kcpLq q16) (by omega) (by omega) (fun j hj => absurd hj (Nat.not_lt_zero _)) k hk
      have a2 := xm46v 5 0 (zset (zset (zset um 25 (upd (um 25) 0 0)) 29 (upd (zset um 25 (upd (um 25) 0 0) 29) 0 0)) 151 (fun _ => 0)) (Gm_lays rm9 qm10).2 (by omega) (by omega) (fun j hj => absurd hj (Nat.not_lt_zero _)) k hk
      rw [nI_0] at a1 a2
      exact ⟨a1.trans a2.symm, Or.inl a2⟩
    · have a1 := (xl79f 5 0 u27 (kcpLq q16) (by omega) (by omega)).1 (162 + k) (by rcases (show k = 0 ∨ k = 1 ∨ k = 2 ∨ k = 3 ∨ k = 4 by omega) with rfl | rfl | rfl | rfl | rfl <;> decide)
      have a2 := (xm46f 5 0 (zset (zset (zset um 25 (upd (um 25) 0 0)) 29 (upd (zset um 25 (upd (um 25) 0 0) 29) 0 0)) 151 (fun _ => 0)) (Gm_lays rm9 qm10).2 (by omega) (by omega)).1 29 (by decide)
      rw [nI_0] at a1 a2
      rw [a1, a2, f5 (162 + k) (by rcases (show k = 0 ∨ k = 1 ∨ k = 2 ∨ k = 3 ∨ k = 4 by omega) with rfl | rfl | rfl | rfl | rfl <;> decide)]
      show u25 (162 + k) 1 = upd (um 29) 0 0 k
      by_cases e : k = 0
      · subst e
        rw [pk_us]; exact v6
      · rw [pk_un e, f6 (162 + k) (by rcases (show k = 1 ∨ k = 2 ∨ k = 3 ∨ k = 4 by omega) with rfl | rfl | rfl | rfl <;> decide), zset_ne (by omega), f8 (162 + k) (by rcases (show k = 1 ∨ k = 2 ∨ k = 3 ∨ k = 4 by omega) with rfl | rfl | rfl | rfl <;> decide), kcpL_lo (by omega), g8 29 (by decide), l29, e17, zset_ne (by omega), gk.1 (162 + k) (by rcases (show k = 1 ∨ k = 2 ∨ k = 3 ∨ k = 4 by omega) with rfl | rfl | rfl | rfl <;> decide), xRak (by rcases (show k = 1 ∨ k = 2 ∨ k = 3 ∨ k = 4 by omega) with rfl | rfl | rfl | rfl <;> decide), gm.1 29 (by decide)]
        exact hS k hk
theorem xPersK {a : Int32} {r : zRr} {q : zRq} {rm : zRr} {qm : zRq} (h : r 171 10 = rm 1 1) : Gk_isPerson a r q = Gm_isPerson a rm qm := by
  unfold Gk_isPerson Gm_isPerson
  rw [zletQ, zletQ, h]
theorem xTownK {a : Int32} {r : zRr} {q : zRq} {rm : zRr} {qm : zRq} (h : r 171 9 = rm 1 0) : Gk_isTown a r q = Gm_isTown a rm qm := by
  unfold Gk_isTown Gm_isTown
  rw [zletQ, zletQ, h]
/-! ===== what the guards' reading leaves as it was; see ===== -/
theorem xpas {a1 a2 a3 a4 : Int32} {m : Nat} (hm : m ≤ 1000) : ∀ (n i : Nat) (w : Int32) (r : zRr), r 180 2 = nI m → i ≤ m → m < n + i → zFr [182] r (Gk_passes_6 a1 a2 a3 a4 n w (nI i) r).2 := by
  intro n
  induction n with
  | zero => intro i w r h1 h2 h3; omega
  | succ n ih =>
    intro i w r h1 h2 h3
    have e0 : Gk_passes_6 a1 a2 a3 a4 (n + 1) w (nI i) r = Bk_passes_6 a1 a2 a3 a4 (Gk_passes_6 a1 a2 a3 a4 n) w (nI i) r := rfl
    rw [e0]
    unfold Bk_passes_6 Gk_passes_104 Gk_passes_100 Gk_passes_150
    simp only [zifQ, zifnQ, zletQ, h1, nI_1]
    by_cases hp : m ≤ i
    · have c : nI m ≤ nI i := (nI_leI (by omega) (by omega)).mpr hp
      rw [if_pos c]
      split
      · exact zFr.refl
      · split <;> exact zFr.refl
    · have c : ¬ nI m ≤ nI i := fun h => hp ((nI_leI (by omega) (by omega)).mp h)
      rw [if_neg c]
      have s0 : ∀ v, zFr [182] r (Gk_passes_6 a1 a2 a3 a4 n v (nI (i + 1)) r).2 := fun v => ih (i + 1) v r h1 (by omega) (by omega)
      have s1 : ∀ v j x, zFr [182] r (Gk_passes_6 a1 a2 a3 a4 n v (nI (i + 1)) (zset r 182 (upd (r 182) j x))).2 := fun v j x => (zFr.refl.set rfl).tr (ih (i + 1) v _ h1 (by omega) (by omega)) (by decide)
      repeat' split
      all_goals first | exact s0 _ | exact s1 _ _ _ | exact zFr.refl
theorem xpasF {a1 a2 a3 a4 : Int32} {m : Nat} {r : zRr} {q : zRq} (hm : m ≤ 1000) (h1 : r 180 2 = nI m) : zFr [182] r (Gk_passes a1 a2 a3 a4 r q).2 := by
  unfold Gk_passes
  exact xpas hm 1001 0 0 r h1 (Nat.zero_le _) (by omega)
theorem xunl {a1 a2 : Int32} {q : zRq} {m : Nat} (hm : m ≤ 1000) : ∀ (n i : Nat) (w : Int32) (r : zRr), r 180 2 = nI m → i ≤ 31 → 31 < n + i → zFr [182] r (Gk_unreadLet_5 a1 a2 q n w (nI i) r).2 := by
  intro n
  induction n with
  | zero => intro i w r h1 h2 h3; omega
  | succ n ih =>
    intro i w r h1 h2 h3
    have e0 : Gk_unreadLet_5 a1 a2 q (n + 1) w (nI i) r = Bk_unreadLet_5 a1 a2 q (Gk_unreadLet_5 a1 a2 q n) w (nI i) r := rfl
    rw [e0]
    unfold Bk_unreadLet_5 Gk_unreadLet_39
    simp only [zifQ, zletQ, nI_1]
    by_cases hp : 30 < i
    · have c : (30 : Int32) < nI i := (nI_ltI (a := 30) (by omega) (by omega)).mpr hp
      rw [if_pos c]
      exact zFr.refl
    · have c : ¬ (30 : Int32) < nI i := fun h => hp ((nI_ltI (a := 30) (by omega) (by omega)).mp h)
      rw [if_neg c]
      have f := xpasF (a1 := nI i) (a2 := 0) (a3 := r 172 (zn a1)) (a4 := a2) (q := q) hm h1
      generalize Gk_passes (nI i) 0 (r 172 (zn a1)) a2 r q = o at f ⊢
      obtain ⟨v, r8⟩ := o
      have f : zFr [182] r r8 := f
      have h8 : r8 180 2 = nI m := by rw [f 180 (by decide)]; exact h1
      rw [xcvr (r := r8)]
      by_cases hv : v = 0
      · rw [if_pos hv]
        exact f.tr (ih (i + 1) _ r8 h8 (by omega) (by omega)) (by decide)
      · rw [if_neg hv]
        exact f.tr (ih (i + 1) _ r8 h8 (by omega) (by omega)) (by decide)
theorem xunlF {a1 a2 : Int32} {m : Nat} {r : zRr} {q : zRq} (hm : m ≤ 1000) (h1 : r 180 2 = nI m) : zFr [182] r (Gk_unreadLet a1 a2 r q).2 := by
  unfold Gk_unreadLet
  exact xunl hm 32 0 0 r h1 (by omega) (by omega)
theorem xLw.len {r rm : zRr} (h : xLw r rm) : ∃ m, r 180 2 = nI m ∧ m ≤ 1000 := by
  rcases h.2 with ⟨_, h1, _⟩ | ⟨C, F, _, _, _, h1, _, _, h2, _⟩
  · exact ⟨4, h1, by decide⟩
  · exact ⟨C.length, h2, h1⟩
theorem xSee {t p : Nat} {a b : Int32} {r : zRr} {q : zRq} {rm : zRr} {qm : zRq} (hD : xTd t p r q rm qm) (hS : lS r rm) (h8 : zI 0 8 (rm 29 0)) : (Gk_see a b r q).1 = (Gm_see a b rm qm).1 ∧ zFr [162, 182] r (Gk_see a b r q).2 ∧ zFr [29, 30, 31, 100] rm (Gm_see a b rm qm).2 ∧ lS (Gk_see a b r q).2 (Gm_see a b rm qm).2 := by
  have e : Gk_isTown a r q = Gm_isTown a (zset rm 100 (fun _ => 0)) qm := xTownK (hD.1.1.trans hD.1.2.1.symm)
  obtain ⟨m, em, hm⟩ := hD.2.2.2.2.2.len
  have hS0 : r 162 1 = rm 29 0 := hS 0 (by omega)
  unfold Gk_see Gm_see Gk_see_53 Gk_add6
  simp only [zletQ, zifQ, zifnQ]
  rw [e]
  have f100 : zFr [29, 30, 31, 100] rm (zset rm 100 (fun _ => 0)) := zFr.refl.set (by decide)
  have hS1 : lS r (zset rm 100 (fun _ => 0)) := hS
  by_cases h : Gm_isTown a (zset rm 100 (fun _ => 0)) qm = 0
  · rw [if_pos h, if_pos h]
    exact ⟨rfl, zFr.refl, f100, hS1⟩
  · rw [if_neg h, if_neg h, hS0]
    by_cases h9 : rm 29 0 = 8
    · have c : ¬ rm 29 0 < 8 := by rw [h9]; decide
      have c2 : (zset rm 100 (fun _ => 0)) 29 0 = (8 : Int32) := h9
      rw [if_neg c, if_pos c2]
      exact ⟨rfl, zFr.refl, f100, hS1⟩
    · have c : rm 29 0 < 8 := by
        rw [Int32.lt_iff_toInt_lt]
        have c8 : (8 : Int32).toInt = 8 := by decide
        have h1 := h8.1; have h2 := h8.2
        rcases Int.lt_or_eq_of_le h2 with h3 | h3
        · rw [c8]; exact h3
        · exact absurd (Int32.toInt_inj.mp (h3.trans c8.symm)) h9
      have c2 : ¬ (zset rm 100 (fun _ => 0)) 29 0 = (8 : Int32) := h9
      rw [if_pos c, if_neg c2]
      have f := xunlF (a1 := a) (a2 := r 6 5) (q := q) hm em
      generalize Gk_unreadLet a (r 6 5) r q = o at f ⊢
      obtain ⟨v, r14⟩ := o
      have f : zFr [182] r r14 := f
      rw [xcvr (r := r14)]
      have key : ∀ x : Int32, zFr [162, 182] r (zset (zset r14 162 (upd (r14 162) 0 (r14 162 0 &&& x))) 162 (upd (zset r14 162 (upd (r14 162) 0 (r14 162 0 &&& x)) 162) 1 (zset r14 162 (upd (r14 162) 0 (r14 162 0 &&& x)) 162 1 + 1))) ∧ lS (zset (zset r14 162 (upd (r14 162) 0 (r14 162 0 &&& x))) 162 (upd (zset r14 162 (upd (r14 162) 0 (r14 162 0 &&& x)) 162) 1 (zset r14 162 (upd (r14 162) 0 (r14 162 0 &&& x)) 162 1 + 1))) (zset (zset (zset (zset rm 100 (fun _ => 0)) 30 (upd (zset rm 100 (fun _ => 0) 30) (zn (zset rm 100 (fun _ => 0) 29 0)) a)) 31 (upd (zset (zset rm 100 (fun _ => 0)) 30 (upd (zset rm 100 (fun _ => 0) 30) (zn (zset rm 100 (fun _ => 0) 29 0)) a) 31) (zn (zset (zset rm 100 (fun _ => 0)) 30 (upd (zset rm 100 (fun _ => 0) 30) (zn (zset rm 100 (fun _ => 0) 29 0)) a) 29 0)) b)) 29 (upd (rm 29) 0 (rm 29 0 + 1))) := by
        intro x
        refine ⟨((f.up (by decide)).set (by decide)).set (by decide), fun k hk => ?_⟩
        show (zset (zset r14 162 (upd (r14 162) 0 (r14 162 0 &&& x))) 162 (upd (zset r14 162 (upd (r14 162) 0 (r14 162 0 &&& x)) 162) 1 (zset r14 162 (upd (r14 162) 0 (r14 162 0 &&& x)) 162 1 + 1))) (162 + k) 1 = upd (rm 29) 0 (rm 29 0 + 1) k
        by_cases ek : k = 0
        · subst ek
          rw [zset_eq, pk_us, zset_eq, pk_un (by decide), pk_us, f 162 (by decide), hS0]
        · rw [zset_ne (by omega), zset_ne (by omega), pk_un ek, f (162 + k) (by rcases (show k = 1 ∨ k = 2 ∨ k = 3 ∨ k = 4 by omega) with rfl | rfl | rfl | rfl <;> decide)]
          exact hS k hk
      by_cases hb : b = 0
      · rw [if_pos hb]
        exact ⟨rfl, (key _).1, ((f100.set (by decide)).set (by decide)).set (by decide), (key _).2⟩
      · rw [if_neg hb]
        exact ⟨rfl, (key _).1, ((f100.set (by decide)).set (by decide)).set (by decide), (key _).2⟩
section
/-! ===== what a law comes to, on both sides ===== -/
theorem xzz {α : Type} {r : Nat → α} {k : Nat} {f g : α} : zset (zset r k f) k g = zset r k g := by
  funext a
  by_cases e : a = k
  · subst e; rw [zset_eq, zset_eq]
  · rw [zset_ne e, zset_ne e, zset_ne e]
/-- a piece of a code, at its place -/
noncomputable def xAt (f : Nat → Int32) (m p : Nat) (C : List Int32) : Prop := p + C.length ≤ m ∧ xsg f p C.length = C
theorem xsg_add {f : Nat → Int32} : ∀ (b p a : Nat), xsg f p (a + b) = xsg f p a ++ xsg f (p + a) b := by
  intro b
  induction b with
  | zero => intro p a; show xsg f p a = xsg f p a ++ []; rw [List.append_nil]
  | succ b ih =>
    intro p a
    rw [← Nat.add_assoc, xsg_s, xsg_s, ih, List.append_assoc, Nat.add_assoc]
theorem xAt.app {f : Nat → Int32} {m p : Nat} {C D : List Int32} (h : xAt f m p (C ++ D)) : xAt f m p C ∧ xAt f m (p + C.length) D := by
  obtain ⟨h1, h2⟩ := h
  rw [List.length_append] at h1 h2
  rw [xsg_add] at h2
  have k := List.append_inj h2 xsg_len
  exact ⟨⟨by omega, k.1⟩, ⟨by omega, k.2⟩⟩
theorem xAt.one {f : Nat → Int32} {m p : Nat} {x : Int32} (h : xAt f m p [x]) : p < m ∧ f p = x := by
  obtain ⟨h1, h2⟩ := h
  have h1 : p + 1 ≤ m := h1
  have h2 : xsg f p 1 = [x] := h2
  rw [show (1 : Nat) = 0 + 1 from rfl, xsg_s] at h2
  exact ⟨by omega, (List.cons.inj h2).1⟩
section XKV
variable {a1 a2 a3 a4 : Int32} {m : Nat}
/-- the class works a code: one value more on its stack -/
noncomputable def xKv (a1 a2 a3 a4 : Int32) (m need : Nat) (C : List Int32) (v : Int32) : Prop :=
  ∀ (n w p : Nat) (r : zRr), r 180 2 = nI m → xAt (r 181) m p C → w + need ≤ 32 → ∃ g : Nat → Int32, (∀ j, j < w → g j = r 182 j) ∧ g w = v ∧ Gk_passes_6 a1 a2 a3 a4 (n + C.length) (nI w) (nI p) r = Gk_passes_6 a1 a2 a3 a4 n (nI (w + 1)) (nI (p + C.length)) (zset r 182 g)
theorem xKv.le {need need1 : Nat} {C : List Int32} {v : Int32} (h : xKv a1 a2 a3 a4 m need C v) (k : need ≤ need1) : xKv a1 a2 a3 a4 m need1 C v :=
  fun n w p r h1 h2 h3 => h n w p r h1 h2 (by omega)
/-- a value is pushed -/
theorem xKv.push (hm : m ≤ 1000) {x : Int32} (hx : ¬ x ≤ -5) : xKv a1 a2 a3 a4 m 1 [x] (Gk_valueOf x a1 a2 a3 a4) := by
  intro n w p r h1 h2 h3
  obtain ⟨h4, h5⟩ := h2.one
  refine ⟨upd (r 182) w (Gk_valueOf x a1 a2 a3 a4), fun j hj => pk_un (by omega), pk_us, ?_⟩
  have e0 : Gk_passes_6 a1 a2 a3 a4 (n + 1) (nI w) (nI p) r = Bk_passes_6 a1 a2 a3 a4 (Gk_passes_6 a1 a2 a3 a4 n) (nI w) (nI p) r := rfl
  show Gk_passes_6 a1 a2 a3 a4 (n + 1) (nI w) (nI p) r = _
  rw [e0]
  have c1 : ¬ nI m ≤ nI p := fun h => by have := (nI_leI (by omega) (by omega)).mp h; omega
  have c2 : nI w < 32 := (nI_ltI (b := 32) (by omega) (by omega)).mpr (by omega)
  unfold Bk_passes_6 Gk_passes_150
  simp only [zifQ, zifnQ, zletQ, h1, if_neg c1, xzn (show p < 2 ^ 31 by omega), xzn (show w < 2 ^ 31 by omega), h5, if_neg hx, if_pos c2, nI_1]
  rfl
/-- NOT -/
theorem xKv.not (hm : m ≤ 1000) {need : Nat} {C : List Int32} {v : Int32} (h : xKv a1 a2 a3 a4 m need C v) (hn : 1 ≤ need) : xKv a1 a2 a3 a4 m need (C ++ [-5]) (if v = 0 then 1 else 0) := by
  intro n w p r h1 h2 h3
  obtain ⟨h4, h5⟩ := h2.app
  obtain ⟨g, g1, g2, g3⟩ := h (n + 1) w p r h1 h4 h3
  obtain ⟨h6, h7⟩ := h5.one
  refine ⟨upd g w (if v = 0 then 1 else 0), fun j hj => by rw [pk_un (by omega)]; exact g1 j hj, pk_us, ?_⟩
  rw [List.length_append, show n + (C.length + [(-5 : Int32)].length) = n + 1 + C.length by show n + (C.length + 1) = _; omega, g3]
  have e0 : Gk_passes_6 a1 a2 a3 a4 (n + 1) (nI (w + 1)) (nI (p + C.length)) (zset r 182 g) = Bk_passes_6 a1 a2 a3 a4 (Gk_passes_6 a1 a2 a3 a4 n) (nI (w + 1)) (nI (p + C.length)) (zset r 182 g) := rfl
  rw [e0]
  have c1 : ¬ nI m ≤ nI (p + C.length) := fun h => by have := (nI_leI (by omega) (by omega)).mp h; omega
  have c2 : ¬ nI (w + 1) ≤ 0 := fun h => by have := (nI_leI (b := 0) (by omega) (by omega)).mp h; omega
  have e1 : nI (w + 1) - 1 = nI w := by rw [← nI_1, Int32.add_sub_cancel]
  have h1' : zset r 182 g 180 2 = nI m := h1
  have h7' : zset r 182 g 181 (p + C.length) = -5 := h7
  have c5 : (-5 : Int32) ≤ -5 := by decide
  unfold Bk_passes_6 Gk_passes_100 Gk_passes_150
  simp only [zifQ, zifnQ, zletQ, h1', if_neg c1, xzn (show p + C.length < 2 ^ 31 by omega), h7', if_pos c5, if_true, if_neg c2, e1, xzn (show w < 2 ^ 31 by omega), nI_1]
  have e9 : zset r 182 g 182 w = v := by rw [zset_eq]; exact g2
  rw [e9]
  by_cases hv : v = 0
  · rw [if_pos hv, if_pos hv, xzz]
    rfl
  · rw [if_neg hv, if_neg hv, xzz]
    rfl
/-- a sign between two -/
theorem xKv.bin (hm : m ≤ 1000) {n1 n2 need k : Nat} {C1 C2 : List Int32} {v1 v2 : Int32} (h1 : xKv a1 a2 a3 a4 m n1 C1 v1) (h2 : xKv a1 a2 a3 a4 m n2 C2 v2) (hn : n1 ≤ need ∧ n2 + 1 ≤ need ∧ 2 ≤ need) (hk : k < 7) : xKv a1 a2 a3 a4 m need (C1 ++ C2 ++ [xok k]) (Gk_join (xok k) v1 v2) := by
  intro n w p r q1 q2 q3
  obtain ⟨q4, q5⟩ := q2.app
  obtain ⟨q6, q7⟩ := q4.app
  rw [List.length_append] at q5
  obtain ⟨q8, q9⟩ := q5.one
  obtain ⟨g, g1, g2, g3⟩ := h1 (n + 1 + C2.length) w p r q1 q6 (by omega)
  obtain ⟨f, f1, f2, f3⟩ := h2 (n + 1) (w + 1) (p + C1.length) (zset r 182 g) q1 q7 (by omega)
  refine ⟨upd f w (Gk_join (xok k) v1 v2), fun j hj => ?_, pk_us, ?_⟩
  · rw [pk_un (by omega), f1 j (by omega), zset_eq]; exact g1 j hj
  rw [xzz] at f3
  rw [List.length_append, List.length_append, show n + (C1.length + C2.length + [xok k].length) = n + 1 + C2.length + C1.length by show n + (C1.length + C2.length + 1) = _; omega, g3, f3, show p + C1.length + C2.length = p + (C1.length + C2.length) by omega]
  have e0 : Gk_passes_6 a1 a2 a3 a4 (n + 1) (nI (w + 1 + 1)) (nI (p + (C1.length + C2.length))) (zset r 182 f) = Bk_passes_6 a1 a2 a3 a4 (Gk_passes_6 a1 a2 a3 a4 n) (nI (w + 1 + 1)) (nI (p + (C1.length + C2.length))) (zset r 182 f) := rfl
  rw [e0]
  have c1 : ¬ nI m ≤ nI (p + (C1.length + C2.length)) := fun h => by have := (nI_leI (by omega) (by omega)).mp h; omega
  have c2 : ¬ nI (w + 1 + 1) ≤ 1 := fun h => by have := (nI_leI (b := 1) (by omega) (by omega)).mp h; omega
  have ed : nI (w + 1 + 1) + -1 = nI (w + 1) := xdec
  have e1 : nI (w + 1) - 1 = nI w := by rw [← nI_1, Int32.add_sub_cancel]
  have h1' : zset r 182 f 180 2 = nI m := q1
  have h7' : zset r 182 f 181 (p + (C1.length + C2.length)) = xok k := q9
  have c5 : xok k ≤ -5 ∧ ¬ xok k = -5 ∧ ¬ (-5 : Int32) ≤ xok k := by
    rcases (show k = 0 ∨ k = 1 ∨ k = 2 ∨ k = 3 ∨ k = 4 ∨ k = 5 ∨ k = 6 by omega) with rfl | rfl | rfl | rfl | rfl | rfl | rfl <;> decide
  unfold Bk_passes_6 Gk_passes_104 Gk_passes_150
  simp only [zifQ, zifnQ, zletQ, h1', if_neg c1, xzn (show p + (C1.length + C2.length) < 2 ^ 31 by omega), h7', if_pos c5.1, if_neg c5.2.1, if_neg c5.2.2, if_neg c2, ed, e1, xzn (show w < 2 ^ 31 by omega), xzn (show w + 1 < 2 ^ 31 by omega), nI_1]
  have ew : zset r 182 f 182 w = v1 := by rw [zset_eq, f1 w (by omega), zset_eq]; exact g2
  have ew1 : zset r 182 f 182 (w + 1) = v2 := by rw [zset_eq]; exact f2
  rw [ew, ew1, xzz]
  rfl
end XKV
end
section
/-! ===== what a law comes to: the reference ===== -/
noncomputable def xPop (c : Int32) (ih : Int32 → Int32 → zRr → (Int32 × zRr)) : Nat → Int32 → zRr → Int32 × zRr
  | 0, v, rm => Gm_worked_300 c ih (nI 0) v rm
  | w + 1, v, rm => if rm 23 (w + 1) = 1 then xPop c ih w (if v = 0 then 1 else 0) rm else Gm_worked_300 c ih (nI (w + 1)) v rm
theorem x268 {c : Int32} {ih : Int32 → Int32 → zRr → (Int32 × zRr)} : ∀ (k w : Nat) (v : Int32) (rm : zRr), w < k → w ≤ 5 → Gm_worked_268 c ih k (nI w) v rm = xPop c ih w v rm := by
  intro k
  induction k with
  | zero => intro w v rm h; omega
  | succ k ihk =>
    intro w v rm h h5
    have e0 : Gm_worked_268 c ih (k + 1) (nI w) v rm = Bm_worked_268 c ih (Gm_worked_268 c ih k) (nI w) v rm := rfl
    rw [e0]
    unfold Bm_worked_268 Gm_worked_292
    simp only [zifQ, zifnQ]
    match w, h, h5 with
    | 0, _, _ => rw [if_pos (by decide)]; rfl
    | w + 1, h, h5 =>
      have c0 : ¬ nI (w + 1) ≤ 0 := fun h => by have := (nI_leI (b := 0) (by omega) (by omega)).mp h; omega
      rw [if_neg c0, xzn (show w + 1 < 2 ^ 31 by omega)]
      show _ = if rm 23 (w + 1) = 1 then xPop c ih w (if v = 0 then 1 else 0) rm else Gm_worked_300 c ih (nI (w + 1)) v rm
      by_cases h1 : rm 23 (w + 1) = 1
      · rw [if_pos h1, if_pos h1, xdec]
        by_cases hv : v = 0
        · rw [if_pos hv, if_pos hv]; exact ihk w 1 rm (by omega) (by omega)
        · rw [if_neg hv, if_neg hv]; exact ihk w 0 rm (by omega) (by omega)
      · rw [if_neg h1, if_neg h1]
theorem xPop.base {c : Int32} {ih : Int32 → Int32 → zRr → (Int32 × zRr)} {w : Nat} {v : Int32} {rm : zRr} (h : w = 0 ∨ ¬ rm 23 w = 1) : xPop c ih w v rm = Gm_worked_300 c ih (nI w) v rm := by
  match w, h with
  | 0, _ => rfl
  | w + 1, h =>
    have h : ¬ rm 23 (w + 1) = 1 := h.resolve_left (by omega)
    show (if rm 23 (w + 1) = 1 then xPop c ih w (if v = 0 then 1 else 0) rm else Gm_worked_300 c ih (nI (w + 1)) v rm) = _
    rw [if_neg h]
/-- levels below w, and all other rows, as they were -/
noncomputable def xLv (w : Nat) (r r1 : zRr) : Prop := zFr [15, 16, 17, 18, 19, 20, 21, 22, 23] r r1 ∧ ∀ a j, j < w → r1 a j = r a j
section XLV
variable {w : Nat} {r r1 r2 : zRr}
theorem xLv.refl : xLv w r r := ⟨zFr.refl, fun _ _ _ => rfl⟩
theorem xLv.tr (h : xLv w r r1) (k : xLv w r1 r2) : xLv w r r2 := ⟨h.1.tr k.1 (by decide), fun a j hj => (k.2 a j hj).trans (h.2 a j hj)⟩
theorem xLv.lo {w1 : Nat} (h : xLv w1 r r1) (k : w ≤ w1) : xLv w r r1 := ⟨h.1, fun a j hj => h.2 a j (by omega)⟩
theorem xLv.set (h : xLv w r r1) {a j : Nat} {v : Int32} (ha : [15, 16, 17, 18, 19, 20, 21, 22, 23].contains a = true) (hj : w ≤ j) : xLv w r (zset r1 a (upd (r1 a) j v)) := by
  refine ⟨h.1.set ha, fun b i hi => ?_⟩
  by_cases e : b = a
  · subst e; rw [zset_eq, pk_un (by omega)]; exact h.2 b i hi
  · rw [zset_ne e]; exact h.2 b i hi
end XLV
noncomputable def xSv (w : Nat) (r : zRr) : Int32 := if r 20 w = 21 then r 19 w - r 21 w else r 19 w + r 21 w
noncomputable def xTv (w : Nat) (r : zRr) : Int32 := if r 18 w = 24 then (if xSv w r ≤ r 17 w then 0 else 1) else if r 18 w = 25 then (if r 17 w = xSv w r then 1 else 0) else xSv w r
noncomputable def xWv (w : Nat) (r : zRr) : Int32 := if r 16 w = 26 then (if r 15 w = 0 then 0 else if xTv w r = 0 then 0 else 1) else if r 16 w = 27 then (if r 15 w = 0 then (if xTv w r = 0 then 0 else 1) else 1) else xTv w r
theorem xsums {w : Nat} {r : zRr} {q : zRq} (hw : w ≤ 5) : Gm_sums (nI w) r q = zset (zset r 19 (upd (r 19) w (xSv w r))) 22 (upd (zset r 19 (upd (r 19) w (xSv w r)) 22) w 0) := by
  unfold Gm_sums Gm_sums_45 xSv
  simp only [zifnQ, zletQ, xzn (show w < 2 ^ 31 by omega)]
  by_cases h : r 20 w = 21
  · rw [if_pos h, if_pos h]
  · rw [if_neg h, if_neg h]
/-- a sum is ended: its value in row 19 -/
theorem xsumsF {w : Nat} {r : zRr} {q : zRq} (hw : w ≤ 5) : xLv w r (Gm_sums (nI w) r q) ∧ Gm_sums (nI w) r q 19 w = xSv w r ∧ Gm_sums (nI w) r q 22 w = 0 ∧ ∀ a, ¬ a = 19 → ¬ a = 22 → Gm_sums (nI w) r q a = r a := by
  rw [xsums hw]
  refine ⟨(xLv.refl.set (by decide) (Nat.le_refl _)).set (by decide) (Nat.le_refl _), ?_, ?_, fun a h1 h2 => ?_⟩
  · rw [zset_ne (by decide), zset_eq, pk_us]
  · rw [zset_eq, pk_us]
  · rw [zset_ne h2, zset_ne h1]
theorem xt136 {w : Nat} {x : Int32} {r : zRr} (hw : w ≤ 5) : xLv w r (Gm_tests_136 (nI w) x r) ∧ Gm_tests_136 (nI w) x r 15 w = x ∧ Gm_tests_136 (nI w) x r 18 w = 0 ∧ Gm_tests_136 (nI w) x r 19 w = 0 ∧ Gm_tests_136 (nI w) x r 20 w = 20 ∧ ∀ a, ¬ a = 15 → ¬ a = 18 → ¬ a = 19 → ¬ a = 20 → Gm_tests_136 (nI w) x r a = r a := by
  unfold Gm_tests_136
  simp only [zletQ, xzn (show w < 2 ^ 31 by omega)]
  refine ⟨(((xLv.refl.set (by decide) (Nat.le_refl _)).set (by decide) (Nat.le_refl _)).set (by decide) (Nat.le_refl _)).set (by decide) (Nat.le_refl _), ?_, ?_, ?_, ?_, fun a h1 h2 h3 h4 => ?_⟩
  · rw [zset_ne (by decide), zset_ne (by decide), zset_ne (by decide), zset_eq, pk_us]
  · rw [zset_ne (by decide), zset_ne (by decide), zset_eq, pk_us]
  · rw [zset_ne (by decide), zset_eq, pk_us]
  · rw [zset_eq, pk_us]
  · rw [zset_ne h4, zset_ne h3, zset_ne h2, zset_ne h1]
theorem xt44 {w : Nat} {s : Int32} {u : zRr} (hw : w ≤ 5) : Gm_tests_44 (nI w) s u = Gm_tests_136 (nI w) (if u 16 w = 26 then (if u 15 w = 0 then 0 else if (if u 18 w = 25 then (if u 17 w = u 19 w then 1 else 0) else s) = 0 then 0 else 1) else if u 16 w = 27 then (if u 15 w = 0 then (if (if u 18 w = 25 then (if u 17 w = u 19 w then 1 else 0) else s) = 0 then 0 else 1) else 1) else (if u 18 w = 25 then (if u 17 w = u 19 w then (1 : Int32) else 0) else s)) u := by
  have k76 : ∀ x : Int32, Gm_tests_76 (nI w) x u = Gm_tests_136 (nI w) (if u 16 w = 26 then (if u 15 w = 0 then 0 else if x = 0 then 0 else 1) else if u 16 w = 27 then (if u 15 w = 0 then (if x = 0 then 0 else 1) else 1) else x) u := by
    intro x
    unfold Gm_tests_76 Gm_tests_106 Gm_tests_104 Gm_tests_105 Gm_tests_106 Gm_tests_130 Gm_tests_135
    simp only [zifQ, zifnQ, zletQ, xzn (show w < 2 ^ 31 by omega)]
    by_cases h1 : u 16 w = 26
    · have h2 : ¬ u 16 w = 27 := by rw [h1]; decide
      simp only [if_pos h1, if_neg h2]
      by_cases h3 : u 15 w = 0
      · simp only [if_pos h3]
      · simp only [if_neg h3]
        by_cases h4 : x = 0
        · simp only [if_pos h4]
        · simp only [if_neg h4]
    · simp only [if_neg h1]
      by_cases h2 : u 16 w = 27
      · simp only [if_pos h2]
        by_cases h3 : u 15 w = 0
        · simp only [if_pos h3]
          by_cases h4 : x = 0
          · simp only [if_pos h4]
          · simp only [if_neg h4]
        · simp only [if_neg h3]
      · simp only [if_neg h2]
  unfold Gm_tests_44 Gm_tests_75
  simp only [zifnQ, zletQ, xzn (show w < 2 ^ 31 by omega), k76]
  by_cases h1 : u 18 w = 25
  · simp only [if_pos h1]
    by_cases h2 : u 17 w = u 19 w
    · simp only [if_pos h2]
    · simp only [if_neg h2]
  · simp only [if_neg h1]
/-- a test is ended: its value, joined to what stands before it, in row 15 -/
theorem xtests {w : Nat} {r : zRr} {q : zRq} (hw : w ≤ 5) : xLv w r (Gm_tests (nI w) r q) ∧ Gm_tests (nI w) r q 15 w = xWv w r ∧ Gm_tests (nI w) r q 18 w = 0 ∧ Gm_tests (nI w) r q 19 w = 0 ∧ Gm_tests (nI w) r q 20 w = 20 ∧ Gm_tests (nI w) r q 22 w = 0 ∧ Gm_tests (nI w) r q 16 = r 16 ∧ Gm_tests (nI w) r q 23 = r 23 := by
  obtain ⟨s1, s2, s3, s4⟩ := xsumsF (r := r) (q := q) hw
  have e : ∃ x, x = xWv w r ∧ Gm_tests (nI w) r q = Gm_tests_136 (nI w) x (Gm_sums (nI w) r q) := by
    unfold Gm_tests Gm_tests_43
    simp only [zifQ, zifnQ, zletQ, xzn (show w < 2 ^ 31 by omega), xt44 hw]
    rw [s2, s4 18 (by decide) (by decide), s4 17 (by decide) (by decide), s4 16 (by decide) (by decide), s4 15 (by decide) (by decide)]
    unfold xWv xTv
    by_cases h1 : r 18 w = 24
    · have h2 : ¬ r 18 w = 25 := by rw [h1]; decide
      simp only [if_pos h1, if_neg h2]
      by_cases h3 : xSv w r ≤ r 17 w
      · simp only [if_pos h3]; exact ⟨_, rfl, rfl⟩
      · simp only [if_neg h3]; exact ⟨_, rfl, rfl⟩
    · simp only [if_neg h1]; exact ⟨_, rfl, rfl⟩
  obtain ⟨x, ex, e⟩ := e
  obtain ⟨t1, t2, t3, t4, t5, t6⟩ := xt136 (x := x) (r := Gm_sums (nI w) r q) hw
  rw [e]
  refine ⟨s1.tr t1, t2.trans ex, t3, t4, t5, ?_, ?_, ?_⟩
  · rw [t6 22 (by decide) (by decide) (by decide) (by decide)]; exact s3
  · rw [t6 16 (by decide) (by decide) (by decide) (by decide)]; exact s4 16 (by decide) (by decide)
  · rw [t6 23 (by decide) (by decide) (by decide) (by decide)]; exact s4 23 (by decide) (by decide)
end
section
/-! ===== what a law comes to: token by token, then by its tree ===== -/
noncomputable def xPar (P : Nat → Int32) (rm : zRr) : Prop := ∀ k, 1 ≤ k → k ≤ 4 → rm 24 k = P k
noncomputable def xBs (w : Nat) (rm : zRr) : Prop := w = 0 ∨ ¬ rm 23 w = 1
section XTK
variable {q : zRq} {M n w p : Nat} {rm : zRr}
/-- a number, a fact -/
theorem xtkN {v : Int32} (hM : M ≤ 1000) (h11 : rm 11 0 = nI M) (hp : p < M) (hx : rm 12 p = 100 + v) (hv : zI 0 9999 v) : Gm_worked_14 q (n + 1) (nI w) (nI p) rm = Gm_worked_268 (nI p) (Gm_worked_14 q n) 6 (nI w) v rm := by
  have e0 : Gm_worked_14 q (n + 1) (nI w) (nI p) rm = Bm_worked_14 q (Gm_worked_14 q n) (nI w) (nI p) rm := rfl
  rw [e0]
  have c1 : ¬ nI M ≤ nI p := fun h => by have := (nI_leI (by omega) (by omega)).mp h; omega
  have c100 : (100 : Int32).toInt = 100 := by decide
  have ex : (100 + v).toInt = 100 + v.toInt := by
    rw [Jvm.Kit.i32_add (by rw [c100]; have := hv.1; omega) (by rw [c100]; have := hv.2; omega), c100]
  have hv1 := hv.1
  have ne : ∀ y : Int32, y.toInt < 100 → ¬ 100 + v = y := fun y hy h => by rw [← h, ex] at hy; omega
  have n28 := ne 28 (by decide); have n30 := ne 30 (by decide); have n20 := ne 20 (by decide); have n21 := ne 21 (by decide); have n22 := ne 22 (by decide); have n24 := ne 24 (by decide); have n25 := ne 25 (by decide); have n26 := ne 26 (by decide); have n27 := ne 27 (by decide); have n29 := ne 29 (by decide)
  have n100 : ¬ 100 + v < 100 := fun h => by rw [Int32.lt_iff_toInt_lt, ex, c100] at h; omega
  have es : 100 + v - 100 = v := by rw [Int32.add_comm, Int32.add_sub_cancel]
  unfold Bm_worked_14
  simp only [zifQ, zifnQ, zletQ, h11, if_neg c1, xzn (show p < 2 ^ 31 by omega), hx, if_neg n28, if_neg n30, if_neg n20, if_neg n21, if_neg n22, if_neg n24, if_neg n25, if_neg n26, if_neg n27, if_neg n29, if_neg n100, es]
theorem xtkF {k : Nat} (hM : M ≤ 1000) (h11 : rm 11 0 = nI M) (hp : p < M) (hx : rm 12 p = nI k) (hk : 1 ≤ k ∧ k ≤ 4) : Gm_worked_14 q (n + 1) (nI w) (nI p) rm = Gm_worked_268 (nI p) (Gm_worked_14 q n) 6 (nI w) (rm 24 k) rm := by
  have e0 : Gm_worked_14 q (n + 1) (nI w) (nI p) rm = Bm_worked_14 q (Gm_worked_14 q n) (nI w) (nI p) rm := rfl
  rw [e0]
  have c1 : ¬ nI M ≤ nI p := fun h => by have := (nI_leI (by omega) (by omega)).mp h; omega
  have ne : ∀ y : Nat, 5 ≤ y → y < 100 → ¬ nI k = nI y := fun y h1 h2 h => by have := (nI_eq (by omega) (by omega)).mp h; omega
  have n28 : ¬ nI k = 28 := ne 28 (by decide) (by decide)
  have n30 : ¬ nI k = 30 := ne 30 (by decide) (by decide)
  have n20 : ¬ nI k = 20 := ne 20 (by decide) (by decide)
  have n21 : ¬ nI k = 21 := ne 21 (by decide) (by decide)
  have n22 : ¬ nI k = 22 := ne 22 (by decide) (by decide)
  have n24 : ¬ nI k = 24 := ne 24 (by decide) (by decide)
  have n25 : ¬ nI k = 25 := ne 25 (by decide) (by decide)
  have n26 : ¬ nI k = 26 := ne 26 (by decide) (by decide)
  have n27 : ¬ nI k = 27 := ne 27 (by decide) (by decide)
  have n29 : ¬ nI k = 29 := ne 29 (by decide) (by decide)
  have n100 : nI k < 100 := (nI_ltI (b := 100) (by omega) (by omega)).mpr (by omega)
  have m20 : ¬ (20 : Int32) ≤ nI k := fun h => by have := (nI_leI (a := 20) (by omega) (by omega)).mp h; omega
  unfold Bm_worked_14
  simp only [zifQ, zifnQ, zletQ, h11, if_neg c1, xzn (show p < 2 ^ 31 by omega), hx, if_neg n28, if_neg n30, if_neg n20, if_neg n21, if_neg n22, if_neg n24, if_neg n25, if_neg n26, if_neg n27, if_neg n29, if_pos n100, if_neg m20, xzn (show k < 2 ^ 31 by omega)]
end XTK
section XTL
variable {q : zRq} {M n w p : Nat} {rm : zRr}
theorem xtk28 (hM : M ≤ 1000) (hw : w ≤ 4) (h11 : rm 11 0 = nI M) (hp : p < M) (hx : rm 12 p = 28) : Gm_worked_14 q (n + 1) (nI w) (nI p) rm = Gm_worked_14 q n (nI (w + 1)) (nI (p + 1)) (Gm_opens (nI (w + 1)) (zset rm 23 (upd (rm 23) (w + 1) 0)) q) := by
  have e0 : Gm_worked_14 q (n + 1) (nI w) (nI p) rm = Bm_worked_14 q (Gm_worked_14 q n) (nI w) (nI p) rm := rfl
  rw [e0]
  have c1 : ¬ nI M ≤ nI p := fun h => by have := (nI_leI (by omega) (by omega)).mp h; omega
  unfold Bm_worked_14 Gm_worked_329
  simp only [zifQ, zifnQ, zletQ, h11, if_neg c1, xzn (show p < 2 ^ 31 by omega), xzn (show w < 2 ^ 31 by omega), hx, nI_1, xzn (show w + 1 < 2 ^ 31 by omega), if_true, if_false, show ((28 : Int32) = 28) = True from eq_true rfl, show ((28 : Int32) = 30) = False from eq_false (by decide), show ((28 : Int32) = 20) = False from eq_false (by decide), show ((28 : Int32) = 21) = False from eq_false (by decide), show ((28 : Int32) = 22) = False from eq_false (by decide), show ((28 : Int32) = 24) = False from eq_false (by decide), show ((28 : Int32) = 25) = False from eq_false (by decide), show ((28 : Int32) = 26) = False from eq_false (by decide), show ((28 : Int32) = 27) = False from eq_false (by decide), show ((28 : Int32) = 29) = False from eq_false (by decide), show ((28 : Int32) < 100) = True from eq_true (by decide), show ((20 : Int32) ≤ 28) = True from eq_true (by decide)]
theorem xtk30 (hM : M ≤ 1000) (hw : w ≤ 4) (h11 : rm 11 0 = nI M) (hp : p < M) (hx : rm 12 p = 30) : Gm_worked_14 q (n + 1) (nI w) (nI p) rm = Gm_worked_14 q n (nI (w + 1)) (nI (p + 1)) (Gm_opens (nI (w + 1)) (zset rm 23 (upd (rm 23) (w + 1) 1)) q) := by
  have e0 : Gm_worked_14 q (n + 1) (nI w) (nI p) rm = Bm_worked_14 q (Gm_worked_14 q n) (nI w) (nI p) rm := rfl
  rw [e0]
  have c1 : ¬ nI M ≤ nI p := fun h => by have := (nI_leI (by omega) (by omega)).mp h; omega
  unfold Bm_worked_14 Gm_worked_329
  simp only [zifQ, zifnQ, zletQ, h11, if_neg c1, xzn (show p < 2 ^ 31 by omega), xzn (show w < 2 ^ 31 by omega), hx, nI_1, xzn (show w + 1 < 2 ^ 31 by omega), if_true, if_false, show ((30 : Int32) = 28) = False from eq_false (by decide), show ((30 : Int32) = 30) = True from eq_true rfl, show ((30 : Int32) = 20) = False from eq_false (by decide), show ((30 : Int32) = 21) = False from eq_false (by decide), show ((30 : Int32) = 22) = False from eq_false (by decide), show ((30 : Int32) = 24) = False from eq_false (by decide), show ((30 : Int32) = 25) = False from eq_false (by decide), show ((30 : Int32) = 26) = False from eq_false (by decide), show ((30 : Int32) = 27) = False from eq_false (by decide), show ((30 : Int32) = 29) = False from eq_false (by decide), show ((30 : Int32) < 100) = True from eq_true (by decide), show ((20 : Int32) ≤ 30) = True from eq_true (by decide)]
theorem xtk20 (hM : M ≤ 1000) (hw : w ≤ 5) (h11 : rm 11 0 = nI M) (hp : p < M) (hx : rm 12 p = 20) : Gm_worked_14 q (n + 1) (nI w) (nI p) rm = Gm_worked_14 q n (nI w) (nI (p + 1)) (zset (Gm_sums (nI w) rm q) 20 (upd (Gm_sums (nI w) rm q 20) w 20)) := by
  have e0 : Gm_worked_14 q (n + 1) (nI w) (nI p) rm = Bm_worked_14 q (Gm_worked_14 q n) (nI w) (nI p) rm := rfl
  rw [e0]
  have c1 : ¬ nI M ≤ nI p := fun h => by have := (nI_leI (by omega) (by omega)).mp h; omega
  unfold Bm_worked_14 Gm_worked_329
  simp only [zifQ, zifnQ, zletQ, h11, if_neg c1, xzn (show p < 2 ^ 31 by omega), xzn (show w < 2 ^ 31 by omega), hx, nI_1, if_true, if_false, show ((20 : Int32) = 28) = False from eq_false (by decide), show ((20 : Int32) = 30) = False from eq_false (by decide), show ((20 : Int32) = 20) = True from eq_true rfl, show ((20 : Int32) = 21) = False from eq_false (by decide), show ((20 : Int32) = 22) = False from eq_false (by decide), show ((20 : Int32) = 24) = False from eq_false (by decide), show ((20 : Int32) = 25) = False from eq_false (by decide), show ((20 : Int32) = 26) = False from eq_false (by decide), show ((20 : Int32) = 27) = False from eq_false (by decide), show ((20 : Int32) = 29) = False from eq_false (by decide), show ((20 : Int32) < 100) = True from eq_true (by decide), show ((20 : Int32) ≤ 20) = True from eq_true (by decide)]
theorem xtk21 (hM : M ≤ 1000) (hw : w ≤ 5) (h11 : rm 11 0 = nI M) (hp : p < M) (hx : rm 12 p = 21) : Gm_worked_14 q (n + 1) (nI w) (nI p) rm = Gm_worked_14 q n (nI w) (nI (p + 1)) (zset (Gm_sums (nI w) rm q) 20 (upd (Gm_sums (nI w) rm q 20) w 21)) := by
  have e0 : Gm_worked_14 q (n + 1) (nI w) (nI p) rm = Bm_worked_14 q (Gm_worked_14 q n) (nI w) (nI p) rm := rfl
  rw [e0]
  have c1 : ¬ nI M ≤ nI p := fun h => by have := (nI_leI (by omega) (by omega)).mp h; omega
  unfold Bm_worked_14 Gm_worked_329
  simp only [zifQ, zifnQ, zletQ, h11, if_neg c1, xzn (show p < 2 ^ 31 by omega), xzn (show w < 2 ^ 31 by omega), hx, nI_1, if_true, if_false, show ((21 : Int32) = 28) = False from eq_false (by decide), show ((21 : Int32) = 30) = False from eq_false (by decide), show ((21 : Int32) = 20) = False from eq_false (by decide), show ((21 : Int32) = 21) = True from eq_true rfl, show ((21 : Int32) = 22) = False from eq_false (by decide), show ((21 : Int32) = 24) = False from eq_false (by decide), show ((21 : Int32) = 25) = False from eq_false (by decide), show ((21 : Int32) = 26) = False from eq_false (by decide), show ((21 : Int32) = 27) = False from eq_false (by decide), show ((21 : Int32) = 29) = False from eq_false (by decide), show ((21 : Int32) < 100) = True from eq_true (by decide), show ((20 : Int32) ≤ 21) = True from eq_true (by decide)]
theorem xtk22 (hM : M ≤ 1000) (hw : w ≤ 5) (h11 : rm 11 0 = nI M) (hp : p < M) (hx : rm 12 p = 22) : Gm_worked_14 q (n + 1) (nI w) (nI p) rm = Gm_worked_14 q n (nI w) (nI (p + 1)) (zset rm 22 (upd (rm 22) w 22)) := by
  have e0 : Gm_worked_14 q (n + 1) (nI w) (nI p) rm = Bm_worked_14 q (Gm_worked_14 q n) (nI w) (nI p) rm := rfl
  rw [e0]
  have c1 : ¬ nI M ≤ nI p := fun h => by have := (nI_leI (by omega) (by omega)).mp h; omega
  unfold Bm_worked_14 Gm_worked_329
  simp only [zifQ, zifnQ, zletQ, h11, if_neg c1, xzn (show p < 2 ^ 31 by omega), xzn (show w < 2 ^ 31 by omega), hx, nI_1, if_true, if_false, show ((22 : Int32) = 28) = False from eq_false (by decide), show ((22 : Int32) = 30) = False from eq_false (by decide), show ((22 : Int32) = 20) = False from eq_false (by decide), show ((22 : Int32) = 21) = False from eq_false (by decide), show ((22 : Int32) = 22) = True from eq_true rfl, show ((22 : Int32) = 24) = False from eq_false (by decide), show ((22 : Int32) = 25) = False from eq_false (by decide), show ((22 : Int32) = 26) = False from eq_false (by decide), show ((22 : Int32) = 27) = False from eq_false (by decide), show ((22 : Int32) = 29) = False from eq_false (by decide), show ((22 : Int32) < 100) = True from eq_true (by decide), show ((20 : Int32) ≤ 22) = True from eq_true (by decide)]
theorem xtk24 (hM : M ≤ 1000) (hw : w ≤ 5) (h11 : rm 11 0 = nI M) (hp : p < M) (hx : rm 12 p = 24) : Gm_worked_14 q (n + 1) (nI w) (nI p) rm = Gm_worked_14 q n (nI w) (nI (p + 1)) (zset (zset (zset (zset (Gm_sums (nI w) rm q) 17 (upd (Gm_sums (nI w) rm q 17) w (Gm_sums (nI w) rm q 19 w))) 18 (upd ((zset (Gm_sums (nI w) rm q) 17 (upd (Gm_sums (nI w) rm q 17) w (Gm_sums (nI w) rm q 19 w))) 18) w 24)) 19 (upd ((zset (zset (Gm_sums (nI w) rm q) 17 (upd (Gm_sums (nI w) rm q 17) w (Gm_sums (nI w) rm q 19 w))) 18 (upd ((zset (Gm_sums (nI w) rm q) 17 (upd (Gm_sums (nI w) rm q 17) w (Gm_sums (nI w) rm q 19 w))) 18) w 24)) 19) w 0)) 20 (upd ((zset (zset (zset (Gm_sums (nI w) rm q) 17 (upd (Gm_sums (nI w) rm q 17) w (Gm_sums (nI w) rm q 19 w))) 18 (upd ((zset (Gm_sums (nI w) rm q) 17 (upd (Gm_sums (nI w) rm q 17) w (Gm_sums (nI w) rm q 19 w))) 18) w 24)) 19 (upd ((zset (zset (Gm_sums (nI w) rm q) 17 (upd (Gm_sums (nI w) rm q 17) w (Gm_sums (nI w) rm q 19 w))) 18 (upd ((zset (Gm_sums (nI w) rm q) 17 (upd (Gm_sums (nI w) rm q 17) w (Gm_sums (nI w) rm q 19 w))) 18) w 24)) 19) w 0)) 20) w 20)) := by
  have e0 : Gm_worked_14 q (n + 1) (nI w) (nI p) rm = Bm_worked_14 q (Gm_worked_14 q n) (nI w) (nI p) rm := rfl
  rw [e0]
  have c1 : ¬ nI M ≤ nI p := fun h => by have := (nI_leI (by omega) (by omega)).mp h; omega
  unfold Bm_worked_14 Gm_worked_329
  simp only [zifQ, zifnQ, zletQ, h11, if_neg c1, xzn (show p < 2 ^ 31 by omega), xzn (show w < 2 ^ 31 by omega), hx, nI_1, if_true, if_false, show ((24 : Int32) = 28) = False from eq_false (by decide), show ((24 : Int32) = 30) = False from eq_false (by decide), show ((24 : Int32) = 20) = False from eq_false (by decide), show ((24 : Int32) = 21) = False from eq_false (by decide), show ((24 : Int32) = 22) = False from eq_false (by decide), show ((24 : Int32) = 24) = True from eq_true rfl, show ((24 : Int32) = 25) = False from eq_false (by decide), show ((24 : Int32) = 26) = False from eq_false (by decide), show ((24 : Int32) = 27) = False from eq_false (by decide), show ((24 : Int32) = 29) = False from eq_false (by decide), show ((24 : Int32) < 100) = True from eq_true (by decide), show ((20 : Int32) ≤ 24) = True from eq_true (by decide)]
theorem xtk25 (hM : M ≤ 1000) (hw : w ≤ 5) (h11 : rm 11 0 = nI M) (hp : p < M) (hx : rm 12 p = 25) : Gm_worked_14 q (n + 1) (nI w) (nI p) rm = Gm_worked_14 q n (nI w) (nI (p + 1)) (zset (zset (zset (zset (Gm_sums (nI w) rm q) 17 (upd (Gm_sums (nI w) rm q 17) w (Gm_sums (nI w) rm q 19 w))) 18 (upd ((zset (Gm_sums (nI w) rm q) 17 (upd (Gm_sums (nI w) rm q 17) w (Gm_sums (nI w) rm q 19 w))) 18) w 25)) 19 (upd ((zset (zset (Gm_sums (nI w) rm q) 17 (upd (Gm_sums (nI w) rm q 17) w (Gm_sums (nI w) rm q 19 w))) 18 (upd ((zset (Gm_sums (nI w) rm q) 17 (upd (Gm_sums (nI w) rm q 17) w (Gm_sums (nI w) rm q 19 w))) 18) w 25)) 19) w 0)) 20 (upd ((zset (zset (zset (Gm_sums (nI w) rm q) 17 (upd (Gm_sums (nI w) rm q 17) w (Gm_sums (nI w) rm q 19 w))) 18 (upd ((zset (Gm_sums (nI w) rm q) 17 (upd (Gm_sums (nI w) rm q 17) w (Gm_sums (nI w) rm q 19 w))) 18) w 25)) 19 (upd ((zset (zset (Gm_sums (nI w) rm q) 17 (upd (Gm_sums (nI w) rm q 17) w (Gm_sums (nI w) rm q 19 w))) 18 (upd ((zset (Gm_sums (nI w) rm q) 17 (upd (Gm_sums (nI w) rm q 17) w (Gm_sums (nI w) rm q 19 w))) 18) w 25)) 19) w 0)) 20) w 20)) := by
  have e0 : Gm_worked_14 q (n + 1) (nI w) (nI p) rm = Bm_worked_14 q (Gm_worked_14 q n) (nI w) (nI p) rm := rfl
  rw [e0]
  have c1 : ¬ nI M ≤ nI p := fun h => by have := (nI_leI (by omega) (by omega)).mp h; omega
  unfold Bm_worked_14 Gm_worked_329
  simp only [zifQ, zifnQ, zletQ, h11, if_neg c1, xzn (show p < 2 ^ 31 by omega), xzn (show w < 2 ^ 31 by omega), hx, nI_1, if_true, if_false, show ((25 : Int32) = 28) = False from eq_false (by decide), show ((25 : Int32) = 30) = False from eq_false (by decide), show ((25 : Int32) = 20) = False from eq_false (by decide), show ((25 : Int32) = 21) = False from eq_false (by decide), show ((25 : Int32) = 22) = False from eq_false (by decide), show ((25 : Int32) = 24) = False from eq_false (by decide), show ((25 : Int32) = 25) = True from eq_true rfl, show ((25 : Int32) = 26) = False from eq_false (by decide), show ((25 : Int32) = 27) = False from eq_false (by decide), show ((25 : Int32) = 29) = False from eq_false (by decide), show ((25 : Int32) < 100) = True from eq_true (by decide), show ((20 : Int32) ≤ 25) = True from eq_true (by decide)]
theorem xtk26 (hM : M ≤ 1000) (hw : w ≤ 5) (h11 : rm 11 0 = nI M) (hp : p < M) (hx : rm 12 p = 26) : Gm_worked_14 q (n + 1) (nI w) (nI p) rm = Gm_worked_14 q n (nI w) (nI (p + 1)) (zset (Gm_tests (nI w) rm q) 16 (upd (Gm_tests (nI w) rm q 16) w 26)) := by
  have e0 : Gm_worked_14 q (n + 1) (nI w) (nI p) rm = Bm_worked_14 q (Gm_worked_14 q n) (nI w) (nI p) rm := rfl
  rw [e0]
  have c1 : ¬ nI M ≤ nI p := fun h => by have := (nI_leI (by omega) (by omega)).mp h; omega
  unfold Bm_worked_14 Gm_worked_329
  simp only [zifQ, zifnQ, zletQ, h11, if_neg c1, xzn (show p < 2 ^ 31 by omega), xzn (show w < 2 ^ 31 by omega), hx, nI_1, if_true, if_false, show ((26 : Int32) = 28) = False from eq_false (by decide), show ((26 : Int32) = 30) = False from eq_false (by decide), show ((26 : Int32) = 20) = False from eq_false (by decide), show ((26 : Int32) = 21) = False from eq_false (by decide), show ((26 : Int32) = 22) = False from eq_false (by decide), show ((26 : Int32) = 24) = False from eq_false (by decide), show ((26 : Int32) = 25) = False from eq_false (by decide), show ((26 : Int32) = 26) = True from eq_true rfl, show ((26 : Int32) = 27) = False from eq_false (by decide), show ((26 : Int32) = 29) = False from eq_false (by decide), show ((26 : Int32) < 100) = True from eq_true (by decide), show ((20 : Int32) ≤ 26) = True from eq_true (by decide)]
theorem xtk27 (hM : M ≤ 1000) (hw : w ≤ 5) (h11 : rm 11 0 = nI M) (hp : p < M) (hx : rm 12 p = 27) : Gm_worked_14 q (n + 1) (nI w) (nI p) rm = Gm_worked_14 q n (nI w) (nI (p + 1)) (zset (Gm_tests (nI w) rm q) 16 (upd (Gm_tests (nI w) rm q 16) w 27)) := by
  have e0 : Gm_worked_14 q (n + 1) (nI w) (nI p) rm = Bm_worked_14 q (Gm_worked_14 q n) (nI w) (nI p) rm := rfl
  rw [e0]
  have c1 : ¬ nI M ≤ nI p := fun h => by have := (nI_leI (by omega) (by omega)).mp h; omega
  unfold Bm_worked_14 Gm_worked_329
  simp only [zifQ, zifnQ, zletQ, h11, if_neg c1, xzn (show p < 2 ^ 31 by omega), xzn (show w < 2 ^ 31 by omega), hx, nI_1, if_true, if_false, show ((27 : Int32) = 28) = False from eq_false (by decide), show ((27 : Int32) = 30) = False from eq_false (by decide), show ((27 : Int32) = 20) = False from eq_false (by decide), show ((27 : Int32) = 21) = False from eq_false (by decide), show ((27 : Int32) = 22) = False from eq_false (by decide), show ((27 : Int32) = 24) = False from eq_false (by decide), show ((27 : Int32) = 25) = False from eq_false (by decide), show ((27 : Int32) = 26) = False from eq_false (by decide), show ((27 : Int32) = 27) = True from eq_true rfl, show ((27 : Int32) = 29) = False from eq_false (by decide), show ((27 : Int32) < 100) = True from eq_true (by decide), show ((20 : Int32) ≤ 27) = True from eq_true (by decide)]
theorem xtk29 (hM : M ≤ 1000) (hw : w ≤ 5) (h11 : rm 11 0 = nI M) (hp : p < M) (hx : rm 12 p = 29) : Gm_worked_14 q (n + 1) (nI w) (nI p) rm = Gm_worked_268 (nI p) (Gm_worked_14 q n) 6 (nI w + -1) (Gm_tests (nI w) rm q 15 w) (Gm_tests (nI w) rm q) := by
  have e0 : Gm_worked_14 q (n + 1) (nI w) (nI p) rm = Bm_worked_14 q (Gm_worked_14 q n) (nI w) (nI p) rm := rfl
  rw [e0]
  have c1 : ¬ nI M ≤ nI p := fun h => by have := (nI_leI (by omega) (by omega)).mp h; omega
  unfold Bm_worked_14 Gm_worked_329
  simp only [zifQ, zifnQ, zletQ, h11, if_neg c1, xzn (show p < 2 ^ 31 by omega), xzn (show w < 2 ^ 31 by omega), hx, nI_1, if_true, if_false, show ((29 : Int32) = 28) = False from eq_false (by decide), show ((29 : Int32) = 30) = False from eq_false (by decide), show ((29 : Int32) = 20) = False from eq_false (by decide), show ((29 : Int32) = 21) = False from eq_false (by decide), show ((29 : Int32) = 22) = False from eq_false (by decide), show ((29 : Int32) = 24) = False from eq_false (by decide), show ((29 : Int32) = 25) = False from eq_false (by decide), show ((29 : Int32) = 26) = False from eq_false (by decide), show ((29 : Int32) = 27) = False from eq_false (by decide), show ((29 : Int32) = 29) = True from eq_true rfl, show ((29 : Int32) < 100) = True from eq_true (by decide), show ((20 : Int32) ≤ 29) = True from eq_true (by decide)]
end XTL
end
