/-! ===== the marks' flags, how many were SEEN ===== -/
def lM (r rm : zRr) : Prop := ∀ k, k < 4 → r (167 + k) 3 = rm 37 k ∧ (rm 37 k = 0 ∨ rm 37 k = 1)
def lS (r rm : zRr) : Prop := ∀ k, k < 5 → r (162 + k) 1 = rm 29 k
theorem lM.fr {r r1 rm rm1 : zRr} (h : lM r rm) (f : ∀ k, k < 4 → r1 (167 + k) = r (167 + k)) (g : rm1 37 = rm 37) : lM r1 rm1 := by
  intro k hk
  rw [f k hk, g]; exact h k hk
theorem lS.fr {r r1 rm rm1 : zRr} (h : lS r rm) (f : ∀ k, k < 5 → r1 (162 + k) = r (162 + k)) (g : rm1 29 = rm 29) : lS r1 rm1 := by
  intro k hk
  rw [f k hk, g]; exact h k hk
/-- land, told apart: a fault, or all begins anew -/
theorem xLandC {L : Nat} {r : zRr} {q : zRq} {rm : zRr} {qm : zRq} (h : xTp L r rm) :
    (∃ r15 q16 rm9 qm10, xGk (xRa (Gk_clear r q)) q r15 q16 ∧ xGm (xMb (zset rm 100 (fun _ => 0))) qm rm9 qm10 ∧ Gk_land r q = (zset r15 196 (upd (r15 196) 1 0) 196 7, zset r15 196 (upd (r15 196) 1 0), q16) ∧ Gm_land rm qm = (rm9 109 0, rm9, qm10)) ∨
    (∃ t p r15 q16 rm9 qm10 r17, xGk (xRa (Gk_clear r q)) q r15 q16 ∧ xGm (xMb (zset rm 100 (fun _ => 0))) qm rm9 qm10 ∧ r17 = zset r15 196 (upd (r15 196) 1 0) ∧ xD t p r17 q16 rm9 qm10 ∧
      Gk_land r q = Gk_land_79 5 0 (Gk_forgetPast (Gk_clear6 (zset (Gk_begin8N (kcpL r17 (zn (r17 192 2))) (kcpLq q16)) 138 (upd (Gk_begin8N (kcpL r17 (zn (r17 192 2))) (kcpLq q16) 138) 3 0)) (kcpLq q16)) (kcpLq q16)) (kcpLq q16) ∧
      Gm_land rm qm = Gm_land_46 5 0 (zset (zset (zset (Gm_fresh0 (Gm_lays rm9 qm10).1 (Gm_lays rm9 qm10).2) 25 (upd (Gm_fresh0 (Gm_lays rm9 qm10).1 (Gm_lays rm9 qm10).2 25) 0 0)) 29 (upd (zset (Gm_fresh0 (Gm_lays rm9 qm10).1 (Gm_lays rm9 qm10).2) 25 (upd (Gm_fresh0 (Gm_lays rm9 qm10).1 (Gm_lays rm9 qm10).2 25) 0 0) 29) 0 0)) 151 (fun _ => 0)) (Gm_lays rm9 qm10).2) := by
  obtain ⟨gk, gm, k⟩ := xland (q := q) (qm := qm) (show xTp L r (zset rm 100 (fun _ => 0)) from h)
  unfold Gk_land Gm_land
  simp only [zletQ]
  generalize Gk_readL r q = o at gk k ⊢
  generalize Gm_readsAll (zset rm 100 (fun _ => 0)) qm = om at gm k ⊢
  obtain ⟨v, r15, q16⟩ := o
  obtain ⟨w, rm9, qm10⟩ := om
  have gk : xGk (xRa (Gk_clear r q)) q r15 q16 := gk
  have gm : xGm (xMb (zset rm 100 (fun _ => 0))) qm rm9 qm10 := gm
  rw [xcvrq (r := r15), xcvrq (r := rm9)]
  simp only [zletQ, zifnQ, zc_rqQ]
  rcases k with ⟨a1, a2, a3⟩ | ⟨a1, a2, t', p', a3⟩
  · have a1 : v = 0 := a1
    have a2 : w = 0 := a2
    left
    rw [if_pos a1, if_pos a2]
    exact ⟨r15, q16, rm9, qm10, gk, gm, rfl, rfl⟩
  · have a1 : v = 1 := a1
    have a2 : w = 1 := a2
    have a3 : xD t' p' r15 q16 rm9 qm10 := a3
    right
    rw [if_neg (show ¬ v = 0 by rw [a1]; decide), if_neg (show ¬ w = 0 by rw [a2]; decide)]
    exact ⟨t', p', r15, q16, rm9, qm10, _, gk, gm, rfl, a3.tok (q1 := q16) (qm1 := qm10) ⟨zFr.refl.set rfl, xFq.refl⟩ xFm9.refl, rfl, rfl⟩
theorem xl79v : ∀ (n i : Nat) (r : zRr) (q : zRq), i ≤ 4 → 4 < n + i → (∀ k, k < i → r (167 + k) 3 = 0) → ∀ k, k < 4 → (Gk_land_79 n (nI i) r q).2.1 (167 + k) 3 = 0 := by
  intro n
  induction n with
  | zero => intro i r q h1 h2; omega
  | succ n ih =>
    intro i r q h1 h2 h3 k hk
    have e0 : Gk_land_79 (n + 1) (nI i) r q = Bk_land_79 (Gk_land_79 n) (nI i) r q := rfl
    rw [e0]
    unfold Bk_land_79
    simp only [zifQ, zletQ, xzn (show i < 2 ^ 31 by omega), nI_1]
    by_cases h4 : 4 ≤ i
    · have c4 : (4 : Int32) ≤ nI i := (nI_leI (a := 4) (by omega) (by omega)).mpr h4
      rw [if_pos c4]
      exact h3 k (by omega)
    · have c4 : ¬ (4 : Int32) ≤ nI i := fun h => h4 ((nI_leI (a := 4) (by omega) (by omega)).mp h)
      rw [if_neg c4]
      have key : (Gk_land_79 n (nI (i + 1)) (zset r (167 + i) (upd (r (167 + i)) 3 0)) q).2.1 (167 + k) 3 = 0 := by
        refine ih (i + 1) _ q (by omega) (by omega) (fun j hj => ?_) k hk
        by_cases e : j = i
        · subst e; rw [zset_eq, pk_us]
        · rw [zset_ne (by omega)]; exact h3 j (by omega)
      rcases (show i = 0 ∨ i = 1 ∨ i = 2 ∨ i = 3 by omega) with rfl | rfl | rfl | rfl
      · rw [if_pos rfl]; exact key
      · rw [if_neg (by decide), if_pos rfl]; exact key
      · rw [if_neg (by decide), if_neg (by decide), if_pos rfl]; exact key
      · rw [if_neg (by decide), if_neg (by decide), if_neg (by decide), if_pos rfl]; exact key
theorem xm46v : ∀ (n i : Nat) (r : zRr) (q : zRq), i ≤ 4 → 4 < n + i → (∀ k, k < i → r 37 k = 0) → ∀ k, k < 4 → (Gm_land_46 n (nI i) r q).2.1 37 k = 0 := by
  intro n
  induction n with
  | zero => intro i r q h1 h2; omega
  | succ n ih =>
    intro i r q h1 h2 h3 k hk
    have e0 : Gm_land_46 (n + 1) (nI i) r q = Bm_land_46 (Gm_land_46 n) (nI i) r q := rfl
    rw [e0]
    unfold Bm_land_46
    simp only [zifQ, zletQ, nI_1]
    by_cases h4 : 4 ≤ i
    · have c4 : (4 : Int32) ≤ nI i := (nI_leI (a := 4) (by omega) (by omega)).mpr h4
      rw [if_pos c4]
      exact h3 k (by omega)
    · have c4 : ¬ (4 : Int32) ≤ nI i := fun h => h4 ((nI_leI (a := 4) (by omega) (by omega)).mp h)
      rw [if_neg c4, xzn (show i < 2 ^ 31 by omega)]
      refine ih (i + 1) _ q (by omega) (by omega) (fun j hj => ?_) k hk
      by_cases e : j = i
      · subst e; rw [zset_eq, pk_us]
      · rw [zset_eq, pk_un e]; exact h3 j (by omega)
/-! ===== mark ===== -/
noncomputable def xLay (k : Nat) (r : zRr) : zRr := zset (zset (kcp1 (kcp8 r (114 + 6 * k) 6) (146 + 4 * k) 138) (163 + k) (kcp1 (kcp8 r (114 + 6 * k) 6) (146 + 4 * k) 138 162)) (167 + k) (upd (zset (kcp1 (kcp8 r (114 + 6 * k) 6) (146 + 4 * k) 138) (163 + k) (kcp1 (kcp8 r (114 + 6 * k) 6) (146 + 4 * k) 138 162) (167 + k)) 3 1)
noncomputable def xBack (k : Nat) (r : zRr) (q : zRq) : zRr := Gk_forgetPast (zset (kcp1 (kcp8 r 6 (114 + 6 * k)) 138 (146 + 4 * k)) 162 (kcp1 (kcp8 r 6 (114 + 6 * k)) 138 (146 + 4 * k) (163 + k))) q
theorem xmarkK {b : Int32} {r : zRr} {q : zRq} {k : Nat} (hk : k < 4) : Gk_mark (nI k) b r q = if b = 0 then (1, xLay k r) else if r (167 + k) 3 = 0 then (0, r) else (1, xBack k r q) := by
  have c0 : ¬ nI k < 0 := (xnn (j := k) (by omega)).2.1
  have c4 : nI k < 4 := (nI_ltI (b := 4) (by omega) (by omega)).mpr hk
  unfold Gk_mark Gk_markLay0 Gk_markLay1 Gk_markLay2 Gk_markLay3
  simp only [zifQ, zifnQ, zletQ, if_neg c0, if_pos c4, xzn (show k < 2 ^ 31 by omega)]
  rcases (show k = 0 ∨ k = 1 ∨ k = 2 ∨ k = 3 by omega) with rfl | rfl | rfl | rfl
  · rw [if_pos rfl]; rfl
  · rw [if_neg (by decide), if_pos rfl]; rfl
  · rw [if_neg (by decide), if_neg (by decide), if_pos rfl]; rfl
  · rw [if_neg (by decide), if_neg (by decide), if_neg (by decide), if_pos rfl]; rfl
theorem xseen14 {a b : Int32} : ∀ (n i : Nat) (r : zRr), i ≤ 8 → 8 < n + i → zFr [30, 31] r (Gm_laysSeen_14 a b n (nI i) r) := by
  intro n
  induction n with
  | zero => intro i r h1 h2; omega
  | succ n ih =>
    intro i r h1 h2
    have e0 : Gm_laysSeen_14 a b (n + 1) (nI i) r = Bm_laysSeen_14 a b (Gm_laysSeen_14 a b n) (nI i) r := rfl
    rw [e0]
    unfold Bm_laysSeen_14
    simp only [zifQ, zletQ, nI_1]
    by_cases hp : 8 ≤ i
    · have c : (8 : Int32) ≤ nI i := (nI_leI (a := 8) (by omega) (by omega)).mpr hp
      rw [if_pos c]
      exact zFr.refl
    · have c : ¬ (8 : Int32) ≤ nI i := fun h => hp ((nI_leI (a := 8) (by omega) (by omega)).mp h)
      rw [if_neg c]
      refine zFr.tr ?_ (ih (i + 1) _ (by omega) (by omega)) (by decide)
      exact (zFr.refl.set rfl).set rfl
theorem xseenL {a b : Int32} {r : zRr} {q : zRq} : Gm_laysSeen a b r q 29 = upd (r 29) (zn b) (r 29 (zn a)) ∧ zFr [29, 30, 31] r (Gm_laysSeen a b r q) := by
  unfold Gm_laysSeen
  simp only [zletQ]
  have k := xseen14 (a := a) (b := b) 9 0 (zset r 29 (upd (r 29) (zn b) (r 29 (zn a)))) (by omega) (by omega)
  rw [nI_0] at k
  refine ⟨by rw [k 29 (by decide), zset_eq], ?_⟩
  have f : zFr [29, 30, 31] r (zset r 29 (upd (r 29) (zn b) (r 29 (zn a)))) := zFr.refl.set rfl
  exact f.tr k (by decide)
/-- the reference lays a mark, or goes back to one -/
theorem xmark29 {b : Int32} {rm : zRr} {qm : zRq} {k : Nat} (hk : k < 4) : (Gm_mark_29 (nI k) b qm rm).1 = 1 ∧ (Gm_mark_29 (nI k) b qm rm).2 37 = upd (rm 37) k 1 ∧ (Gm_mark_29 (nI k) b qm rm).2 29 = (if b = 0 then upd (rm 29) (1 + k) (rm 29 0) else upd (rm 29) 0 (rm 29 (1 + k))) := by
  have z0 : zn (0 : Int32) = 0 := by decide
  have e1 : (1 : Int32) + nI k = nI (1 + k) := nI_add 1 k
  have z1 : zn (nI (1 + k)) = 1 + k := xzn (by omega)
  unfold Gm_mark_29
  simp only [zifQ, zletQ, xzn (show k < 2 ^ 31 by omega), e1]
  by_cases hb : b = 0
  · simp only [if_pos hb]
    have l := xlaysL (a := 0) (b := nI (1 + k)) (r := zset rm 37 (upd (rm 37) k 1)) (q := qm)
    generalize Gm_laysLines 0 (nI (1 + k)) (zset rm 37 (upd (rm 37) k 1)) qm = u6 at l ⊢
    obtain ⟨s1, s2⟩ := xseenL (a := 0) (b := nI (1 + k)) (r := u6) (q := qm)
    generalize Gm_laysSeen 0 (nI (1 + k)) u6 qm = u8 at s1 s2 ⊢
    rw [z0, z1, l 29 (by decide), zset_ne (by decide)] at s1
    refine ⟨trivial, ?_, ?_⟩
    · show u8 37 = _
      rw [s2 37 (by decide), l 37 (by decide), zset_eq]
    · show u8 29 = _
      exact s1
  · simp only [if_neg hb]
    have l := xlaysL (a := nI (1 + k)) (b := 0) (r := zset rm 37 (upd (rm 37) k 1)) (q := qm)
    generalize Gm_laysLines (nI (1 + k)) 0 (zset rm 37 (upd (rm 37) k 1)) qm = u6 at l ⊢
    obtain ⟨s1, s2⟩ := xseenL (a := nI (1 + k)) (b := 0) (r := u6) (q := qm)
    generalize Gm_laysSeen (nI (1 + k)) 0 u6 qm = u8 at s1 s2 ⊢
    rw [z0, z1, l 29 (by decide), zset_ne (by decide)] at s1
    refine ⟨trivial, ?_, ?_⟩
    · show u8 37 = _
      rw [s2 37 (by decide), l 37 (by decide), zset_eq]
    · show u8 29 = _
      exact s1
theorem xMark {a b : Int32} {r : zRr} {q : zRq} {rm : zRr} {qm : zRq} (hM : lM r rm) (hS : lS r rm) : (Gk_mark a b r q).1 = (Gm_mark a b rm qm).1 ∧ lM (Gk_mark a b r q).2 (Gm_mark a b rm qm).2 ∧ lS (Gk_mark a b r q).2 (Gm_mark a b rm qm).2 := by
  have hM0 : lM r (zset rm 100 (fun _ => 0)) := hM
  have hS0 : lS r (zset rm 100 (fun _ => 0)) := hS
  by_cases h0 : a < 0
  · have ek : Gk_mark a b r q = (0, r) := by
      unfold Gk_mark; rw [zifQ, if_pos h0]
    have em : Gm_mark a b rm qm = (0, zset rm 100 (fun _ => 0)) := by
      unfold Gm_mark Gm_within; simp only [zletQ, zifQ, if_pos h0, if_true]
    rw [ek, em]
    exact ⟨rfl, hM0, hS0⟩
  by_cases h3 : 3 < a
  · have h4 : ¬ a < 4 := fun h => by
      rw [Int32.lt_iff_toInt_lt] at h h3
      have c3 : (3 : Int32).toInt = 3 := by decide
      have c4 : (4 : Int32).toInt = 4 := by decide
      omega
    have ek : Gk_mark a b r q = (0, r) := by
      unfold Gk_mark; simp only [zifQ, if_neg h0, if_neg h4]
    have em : Gm_mark a b rm qm = (0, zset rm 100 (fun _ => 0)) := by
      unfold Gm_mark Gm_within; simp only [zletQ, zifQ, if_neg h0, if_pos h3, if_true]
    rw [ek, em]
    exact ⟨rfl, hM0, hS0⟩
  obtain ⟨k, hk, ea⟩ : ∃ k, k < 4 ∧ a = nI k := by
    have hz : zI 0 3 a := by
      rw [Int32.lt_iff_toInt_lt] at h0 h3
      have c0 : (0 : Int32).toInt = 0 := by decide
      have c3 : (3 : Int32).toInt = 3 := by decide
      exact ⟨by omega, by omega⟩
    obtain ⟨e1, e2⟩ := hz.ix (n := 4) (by decide)
    exact ⟨_, e2, e1⟩
  subst ea
  have em : Gm_mark (nI k) b rm qm = if b = 0 then Gm_mark_29 (nI k) b qm (zset rm 100 (fun _ => 0)) else if rm 37 k = 0 then (0, zset rm 100 (fun _ => 0)) else Gm_mark_29 (nI k) b qm (zset rm 100 (fun _ => 0)) := by
    unfold Gm_mark Gm_within
    simp only [zletQ, zifQ, zifnQ, if_neg h0, if_neg h3, if_neg (show ¬ (1 : Int32) = 0 by decide), xzn (show k < 2 ^ 31 by omega)]
    rfl
  obtain ⟨m1, m2, m3⟩ := xmark29 (b := b) (rm := zset rm 100 (fun _ => 0)) (qm := qm) hk
  rw [xmarkK hk, em]
  generalize Gm_mark_29 (nI k) b qm (zset rm 100 (fun _ => 0)) = om at m1 m2 m3 ⊢
  obtain ⟨w, rm1⟩ := om
  have n1 : w = 1 := m1
  have n2 : rm1 37 = upd (rm 37) k 1 := m2
  have n3 : rm1 29 = if b = 0 then upd (rm 29) (1 + k) (rm 29 0) else upd (rm 29) 0 (rm 29 (1 + k)) := m3
  clear m1 m2 m3
  subst n1
  by_cases hb : b = 0
  · rw [if_pos hb, if_pos hb]
    rw [if_pos hb] at n3
    refine ⟨rfl, fun j hj => ?_, fun j hj => ?_⟩
    · show xLay k r (167 + j) 3 = rm1 37 j ∧ (rm1 37 j = 0 ∨ rm1 37 j = 1)
      rw [n2]
      unfold xLay
      by_cases e : j = k
      · subst e
        rw [zset_eq, pk_us, pk_us]
        exact ⟨rfl, Or.inr rfl⟩
      · rw [zset_ne (by omega), zset_ne (by omega), kcp1_o (by omega), kcp8_o (by omega), pk_un e]
        exact hM j hj
    · show xLay k r (162 + j) 1 = rm1 29 j
      rw [n3]
      unfold xLay
      rw [zset_ne (by omega)]
      by_cases e : j = 1 + k
      · subst e
        rw [show 162 + (1 + k) = 163 + k by omega, zset_eq, kcp1_o (by omega), kcp8_o (by omega), pk_us]
        exact hS 0 (by omega)
      · rw [zset_ne (by omega), kcp1_o (by omega), kcp8_o (by omega), pk_un e]
        exact hS j hj
  · rw [if_neg hb, if_neg hb]
    rw [if_neg hb] at n3
    have hf := hM k hk
    rw [hf.1]
    by_cases hz : rm 37 k = 0
    · rw [if_pos hz, if_pos hz]
      exact ⟨rfl, hM0, hS0⟩
    · rw [if_neg hz, if_neg hz]
      have h1 : rm 37 k = 1 := hf.2.resolve_left hz
      refine ⟨rfl, fun j hj => ?_, fun j hj => ?_⟩
      · show xBack k r q (167 + j) 3 = rm1 37 j ∧ (rm1 37 j = 0 ∨ rm1 37 j = 1)
        rw [n2]
        unfold xBack
        rw [xforget (167 + j) (by rcases (show j = 0 ∨ j = 1 ∨ j = 2 ∨ j = 3 by omega) with rfl | rfl | rfl | rfl <;> decide), zset_ne (by omega), kcp1_o (by omega), kcp8_o (by omega)]
        by_cases e : j = k
        · subst e
          rw [pk_us]
          exact ⟨hf.1.trans h1, Or.inr rfl⟩
        · rw [pk_un e]
          exact hM j hj
      · show xBack k r q (162 + j) 1 = rm1 29 j
        rw [n3]
        unfold xBack
        rw [xforget (162 + j) (by rcases (show j = 0 ∨ j = 1 ∨ j = 2 ∨ j = 3 ∨ j = 4 by omega) with rfl | rfl | rfl | rfl | rfl <;> decide)]
        by_cases e : j = 0
        · subst e
          rw [zset_eq, kcp1_o (by omega), kcp8_o (by omega), pk_us]
          have := hS (1 + k) (by omega)
          rw [show 162 + (1 + k) = 163 + k by omega] at this
          exact this
        · rw [zset_ne (by omega), kcp1_o (by omega), kcp8_o (by omega), pk_un e]
          exact hS j hj
/-! ===== land, journey, see, shave ===== -/
theorem xRak {r : zRr} {q : zRq} {a : Nat} (ha : [183, 185, 192, 193, 196, 198].contains a = false) : xRa (Gk_clear r q) a = r a := by
  obtain ⟨_, _, _, _, _, _, _, _, c9⟩ := xclear (r := r) (q := q) (rm := zset r 122 (fun _ => 1000)) rfl
  have f : zFr [183, 185, 192, 193, 196, 198] r (xRa (Gk_clear r q)) := (((((c9.up (by decide)).set (by decide)).set (by decide)).set (by decide)).set (by decide)).set (by decide)
  exact f a ha
theorem xclear6v {r : zRr} {q : zRq} : Gk_clear6 r q 162 1 = 0 := by
  unfold Gk_clear6
  simp only [zletQ]
  rw [zset_eq, pk_us]
theorem kcpL_lo {r : zRr} {k a : Nat} (h : a < 171) : kcpL r k a = r a := by
  unfold kcpL
  rw [if_neg (by omega), if_neg (by omega), if_neg (by omega), if_neg (by omega)]
theorem xLandM {L : Nat} {r : zRr} {q : zRq} {rm : zRr} {qm : zRq} (h : xTp L r rm) (hM : lM r rm) (hS : lS r rm) : lM (Gk_land r q).2.1 (Gm_land rm qm).2.1 ∧ lS (Gk_land r q).2.1 (Gm_land rm qm).2.1 := by
  rcases xLandC (q := q) (qm := qm) h with ⟨r15, q16, rm9, qm10, gk, gm, ek, em⟩ | ⟨t, p, r15, q16, rm9, qm10, r17, gk, gm, e17, hD, ek, em⟩
  · rw [ek, em]
    have k15 : ∀ a, a < 171 → 162 ≤ a → zset r15 196 (upd (r15 196) 1 0) a = r a := by
      intro a h1 h2
      rw [zset_ne (by omega), gk.1 a ?_, xRak ?_]
      · rcases (show a = 162 ∨ a = 163 ∨ a = 164 ∨ a = 165 ∨ a = 166 ∨ a = 167 ∨ a = 168 ∨ a = 169 ∨ a = 170 by omega) with rfl | rfl | rfl | rfl | rfl | rfl | rfl | rfl | rfl <;> decide
      · rcases (show a = 162 ∨ a = 163 ∨ a = 164 ∨ a = 165 ∨ a = 166 ∨ a = 167 ∨ a = 168 ∨ a = 169 ∨ a = 170 by omega) with rfl | rfl | rfl | rfl | rfl | rfl | rfl | rfl | rfl <;> decide
    have m37 : rm9 37 = rm 37 := (gm.1 37 (by decide)).trans rfl
    have m29 : rm9 29 = rm 29 := (gm.1 29 (by decide)).trans rfl
    exact ⟨hM.fr (fun k hk => k15 _ (by omega) (by omega)) m37, hS.fr (fun k hk => k15 _ (by omega) (by omega)) m29⟩
  · have hp6 : p ≤ 6 := hD.2.1.2.2.1
    have e10 : kcpL r17 (zn (r17 192 2)) 171 10 = nI p := by
      show upd (upd (upd (upd (r17 171) 9 (r17 183 9)) 10 (r17 183 10)) 11 (r17 183 11)) 12 (r17 183 12) 10 = nI p
      rw [pk_un (by decide), pk_un (by decide), pk_us]
      exact hD.2.1.1
    have m11 : (Gm_lays rm9 qm10).1 1 1 = nI p := by
      unfold Gm_lays
      simp only [zletQ]
      show zsf (rm9 1) 4 4 1 = nI p
      rw [xzsf (by decide)]
      exact hD.2.1.2.1
    have f8 := xbegin8 (q := kcpLq q16) e10 hp6
    have g8 := xfresh (q := (Gm_lays rm9 qm10).2) m11 hp6
    have l29 : (Gm_lays rm9 qm10).1 29 = rm9 29 := by
      unfold Gm_lays
      simp only [zletQ]
      rfl
    rw [ek, em]
    generalize Gk_begin8N (kcpL r17 (zn (r17 192 2))) (kcpLq q16) = u22 at f8 ⊢
    generalize Gm_fresh0 (Gm_lays rm9 qm10).1 (Gm_lays rm9 qm10).2 = um at g8 ⊢
    have f6 := xclear6 (r := zset u22 138 (upd (u22 138) 3 0)) (q := kcpLq q16)
    have v6 := xclear6v (r := zset u22 138 (upd (u22 138) 3 0)) (q := kcpLq q16)
    generalize Gk_clear6 (zset u22 138 (upd (u22 138) 3 0)) (kcpLq q16) = u25 at f6 v6 ⊢
    have f5 := xforget (r := u25) (q := kcpLq q16)
    generalize Gk_forgetPast u25 (kcpLq q16) = u27 at f5 ⊢
    refine ⟨fun k hk => ?_, fun k hk => ?_⟩
    · have a1 := xl79v 5 0 u27 (kcpLq q16) (by omega) (by omega) (fun j hj => absurd hj (Nat.not_lt_zero _)) k hk
      have a2 := xm46v 5 0 (zset (zset (zset um 25 (upd (um 25) 0 0)) 29 (upd (zset um 25 (upd (um 25) 0 0) 29) 0 0)) 151 (fun _ => 0)) (Gm_lays rm9 qm10).2 (by omega) (by omega) (fun j hj => absurd hj (Nat.not_lt_zero _)) k hk
      rw [nI_0] at a1 a2
      exact ⟨a1.trans a2.symm, Or.inl a2⟩
    · have a1 := (xl79f 5 0 u27 (kcpLq q16) (by omega) (by omega)).1 (162 + k) (by rcases (show k = 0 ∨ k = 1 ∨ k = 2 ∨ k = 3 ∨ k = 4 by omega) with rfl | rfl | rfl | rfl | rfl <;> decide)
      have a2 := (xm46f 5 0 (zset (zset (zset um 25 (upd (um 25) 0 0)) 29 (upd (zset um 25 (upd (um 25) 0 0) 29) 0 0)) 151 (fun _ => 0)) (Gm_lays rm9 qm10).2 (by omega) (by omega)).1 29 (by decide)
      rw [nI_0] at a1 a2
      rw [a1, a2, f5 (162 + k) (by rcases (show k = 0 ∨ k = 1 ∨ k = 2 ∨ k = 3 ∨ k = 4 by omega) with rfl | rfl | rfl | rfl | rfl <;> decide)]
      show u25 (162 + k) 1 = upd (um 29) 0 0 k
      by_cases e : k = 0
      · subst e
        rw [pk_us]; exact v6
      · rw [pk_un e, f6 (162 + k) (by rcases (show k = 1 ∨ k = 2 ∨ k = 3 ∨ k = 4 by omega) with rfl | rfl | rfl | rfl <;> decide), zset_ne (by omega), f8 (162 + k) (by rcases (show k = 1 ∨ k = 2 ∨ k = 3 ∨ k = 4 by omega) with rfl | rfl | rfl | rfl <;> decide), kcpL_lo (by omega), g8 29 (by decide), l29, e17, zset_ne (by omega), gk.1 (162 + k) (by rcases (show k = 1 ∨ k = 2 ∨ k = 3 ∨ k = 4 by omega) with rfl | rfl | rfl | rfl <;> decide), xRak (by rcases (show k = 1 ∨ k = 2 ∨ k = 3 ∨ k = 4 by omega) with rfl | rfl | rfl | rfl <;> decide), gm.1 29 (by decide)]
        exact hS k hk
theorem xPersK {a : Int32} {r : zRr} {q : zRq} {rm : zRr} {qm : zRq} (h : r 171 10 = rm 1 1) : Gk_isPerson a r q = Gm_isPerson a rm qm := by
  unfold Gk_isPerson Gm_isPerson
  rw [zletQ, zletQ, h]
theorem xTownK {a : Int32} {r : zRr} {q : zRq} {rm : zRr} {qm : zRq} (h : r 171 9 = rm 1 0) : Gk_isTown a r q = Gm_isTown a rm qm := by
  unfold Gk_isTown Gm_isTown
  rw [zletQ, zletQ, h]
theorem xShave {t p : Nat} {a : Int32} {r : zRr} {q : zRq} {rm : zRr} {qm : zRq} (hD : xTd t p r q rm qm) : (Gk_shave a r q).1 = (Gm_shave a rm qm).1 := by
  have e : Gk_isPerson a r q = Gm_isPerson a (zset rm 100 (fun _ => 0)) qm := xPersK (hD.2.1.1.trans hD.2.1.2.1.symm)
  unfold Gk_shave Gm_shave
  simp only [zletQ, zifnQ]
  rw [e]
  by_cases h : Gm_isPerson a (zset rm 100 (fun _ => 0)) qm = 0
  · rw [if_pos h, if_pos h]
  · rw [if_neg h, if_neg h]
