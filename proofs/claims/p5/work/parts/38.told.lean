/-! ===== what land and journey leave told ===== -/
theorem xb8 : ∀ (n i p : Nat) (r : zRr), r 171 10 = nI p → p ≤ 6 → i ≤ p → p < n + i → zFr [6, 7, 8, 9, 10, 11] r (Gk_begin8N_7 n (nI i) r) := by
  intro n
  induction n with
  | zero => intro i p r h1 h2 h3 h4; omega
  | succ n ih =>
    intro i p r h1 h2 h3 h4
    have e0 : Gk_begin8N_7 (n + 1) (nI i) r = Bk_begin8N_7 (Gk_begin8N_7 n) (nI i) r := rfl
    rw [e0]
    unfold Bk_begin8N_7
    simp only [zifQ, zletQ, h1, nI_1]
    by_cases hp : p ≤ i
    · have c : nI p ≤ nI i := (nI_leI (by omega) (by omega)).mpr hp
      rw [if_pos c]
      exact zFr.refl
    · have c : ¬ nI p ≤ nI i := fun h => hp ((nI_leI (by omega) (by omega)).mp h)
      rw [if_neg c]
      refine zFr.tr ?_ (ih (i + 1) p _ ?_ h2 (by omega) (by omega)) (by decide)
      · exact ((((zFr.refl.set rfl).set rfl).set rfl).set rfl).set rfl
      · exact h1
theorem xbegin8 {p : Nat} {r : zRr} {q : zRq} (h1 : r 171 10 = nI p) (h2 : p ≤ 6) : zFr [6, 7, 8, 9, 10, 11] r (Gk_begin8N r q) := by
  unfold Gk_begin8N
  rw [zletQ]
  have f : zFr [6, 7, 8, 9, 10, 11] r (zset r 6 (upd (r 6) 5 0)) := zFr.refl.set rfl
  exact f.tr (xb8 7 0 p _ h1 h2 (by omega) (by omega)) (by decide)
theorem xclear6 {r : zRr} {q : zRq} : zFr [162] r (Gk_clear6 r q) := by
  unfold Gk_clear6
  simp only [zletQ]
  exact (zFr.refl.set rfl).set rfl
theorem xforget {r : zRr} {q : zRq} : zFr [195] r (Gk_forgetPast r q) := by
  unfold Gk_forgetPast
  simp only [zletQ]
  exact (zFr.refl.set rfl).set rfl
theorem xl79f : ∀ (n i : Nat) (r : zRr) (q : zRq), i ≤ 4 → 4 < n + i → zFr [167, 168, 169, 170] r (Gk_land_79 n (nI i) r q).2.1 ∧ (Gk_land_79 n (nI i) r q).2.2 = q := by
  intro n
  induction n with
  | zero => intro i r q h1 h2; omega
  | succ n ih =>
    intro i r q h1 h2
    have e0 : Gk_land_79 (n + 1) (nI i) r q = Bk_land_79 (Gk_land_79 n) (nI i) r q := rfl
    rw [e0]
    unfold Bk_land_79
    simp only [zifQ, zletQ, xzn (show i < 2 ^ 31 by omega), nI_1]
    by_cases h4 : 4 ≤ i
    · have c4 : (4 : Int32) ≤ nI i := (nI_leI (a := 4) (by omega) (by omega)).mpr h4
      rw [if_pos c4]
      exact ⟨zFr.refl, rfl⟩
    · have c4 : ¬ (4 : Int32) ≤ nI i := fun h => h4 ((nI_leI (a := 4) (by omega) (by omega)).mp h)
      rw [if_neg c4]
      have k : ∀ (a : Nat), [167, 168, 169, 170].contains a = true → zFr [167, 168, 169, 170] r (Gk_land_79 n (nI (i + 1)) (zset r a (upd (r a) 3 0)) q).2.1 ∧ (Gk_land_79 n (nI (i + 1)) (zset r a (upd (r a) 3 0)) q).2.2 = q := by
        intro a ha
        obtain ⟨k1, k2⟩ := ih (i + 1) (zset r a (upd (r a) 3 0)) q (by omega) (by omega)
        exact ⟨(zFr.refl.set ha).tr k1 (by decide), k2⟩
      rcases (show i = 0 ∨ i = 1 ∨ i = 2 ∨ i = 3 by omega) with rfl | rfl | rfl | rfl
      · rw [if_pos rfl]; exact k 167 rfl
      · rw [if_neg (by decide), if_pos rfl]; exact k 168 rfl
      · rw [if_neg (by decide), if_neg (by decide), if_pos rfl]; exact k 169 rfl
      · rw [if_neg (by decide), if_neg (by decide), if_neg (by decide), if_pos rfl]; exact k 170 rfl
theorem xm46f : ∀ (n i : Nat) (r : zRr) (q : zRq), i ≤ 4 → 4 < n + i → zFr [37] r (Gm_land_46 n (nI i) r q).2.1 ∧ (Gm_land_46 n (nI i) r q).2.2 = q := by
  intro n
  induction n with
  | zero => intro i r q h1 h2; omega
  | succ n ih =>
    intro i r q h1 h2
    have e0 : Gm_land_46 (n + 1) (nI i) r q = Bm_land_46 (Gm_land_46 n) (nI i) r q := rfl
    rw [e0]
    unfold Bm_land_46
    simp only [zifQ, zletQ, nI_1]
    by_cases h4 : 4 ≤ i
    · have c4 : (4 : Int32) ≤ nI i := (nI_leI (a := 4) (by omega) (by omega)).mpr h4
      rw [if_pos c4]
      exact ⟨zFr.refl, rfl⟩
    · have c4 : ¬ (4 : Int32) ≤ nI i := fun h => h4 ((nI_leI (a := 4) (by omega) (by omega)).mp h)
      rw [if_neg c4]
      obtain ⟨k1, k2⟩ := ih (i + 1) (zset r 37 (upd (r 37) (zn (nI i)) 0)) q (by omega) (by omega)
      exact ⟨(zFr.refl.set rfl).tr k1 (by decide), k2⟩
theorem xfr23 : ∀ (n i p : Nat) (r : zRr), r 1 1 = nI p → p ≤ 6 → i ≤ p → p < n + i → zFr [32] r (Gm_fresh0_23 n (nI i) r) := by
  intro n
  induction n with
  | zero => intro i p r h1 h2 h3 h4; omega
  | succ n ih =>
    intro i p r h1 h2 h3 h4
    have e0 : Gm_fresh0_23 (n + 1) (nI i) r = Bm_fresh0_23 (Gm_fresh0_23 n) (nI i) r := rfl
    rw [e0]
    unfold Bm_fresh0_23
    simp only [zifQ, zletQ, h1, nI_1]
    by_cases hp : p ≤ i
    · have c : nI p ≤ nI i := (nI_leI (by omega) (by omega)).mpr hp
      rw [if_pos c]
      exact zFr.refl
    · have c : ¬ nI p ≤ nI i := fun h => hp ((nI_leI (by omega) (by omega)).mp h)
      rw [if_neg c]
      refine zFr.tr ?_ (ih (i + 1) p _ ?_ h2 (by omega) (by omega)) (by decide)
      · exact (((zFr.refl.set rfl).set rfl).set rfl).set rfl
      · exact h1
theorem xfr2 : ∀ (n i p : Nat) (r : zRr), r 1 1 = nI p → p ≤ 6 → i ≤ 31 → 31 < n + i → zFr [32] r (Gm_fresh0_2 n (nI i) r) := by
  intro n
  induction n with
  | zero => intro i p r h1 h2 h3 h4; omega
  | succ n ih =>
    intro i p r h1 h2 h3 h4
    have e0 : Gm_fresh0_2 (n + 1) (nI i) r = Bm_fresh0_2 (Gm_fresh0_2 n) (nI i) r := rfl
    rw [e0]
    unfold Bm_fresh0_2
    simp only [zifQ, zletQ, nI_1]
    by_cases hp : 31 ≤ i
    · have c : (31 : Int32) ≤ nI i := (nI_leI (a := 31) (by omega) (by omega)).mpr hp
      rw [if_pos c]
      exact xfr23 7 0 p r h1 h2 (by omega) (by omega)
    · have c : ¬ (31 : Int32) ≤ nI i := fun h => hp ((nI_leI (a := 31) (by omega) (by omega)).mp h)
      rw [if_neg c]
      refine zFr.tr ?_ (ih (i + 1) p _ ?_ h2 (by omega) (by omega)) (by decide)
      · exact zFr.refl.set rfl
      · exact h1
theorem xfresh {p : Nat} {r : zRr} {q : zRq} (h1 : r 1 1 = nI p) (h2 : p ≤ 6) : zFr [32] r (Gm_fresh0 r q) := by
  unfold Gm_fresh0
  exact xfr2 32 0 p r h1 h2 (by omega) (by omega)
theorem xlays14 {a b : Int32} : ∀ (n i : Nat) (r : zRr), i ≤ 40 → 40 < n + i → zFr [26, 27, 28] r (Gm_laysLines_14 a b n (nI i) r) := by
  intro n
  induction n with
  | zero => intro i r h1 h2; omega
  | succ n ih =>
    intro i r h1 h2
    have e0 : Gm_laysLines_14 a b (n + 1) (nI i) r = Bm_laysLines_14 a b (Gm_laysLines_14 a b n) (nI i) r := rfl
    rw [e0]
    unfold Bm_laysLines_14
    simp only [zifQ, zletQ, nI_1]
    by_cases hp : 40 ≤ i
    · have c : (40 : Int32) ≤ nI i := (nI_leI (a := 40) (by omega) (by omega)).mpr hp
      rw [if_pos c]
      exact zFr.refl
    · have c : ¬ (40 : Int32) ≤ nI i := fun h => hp ((nI_leI (a := 40) (by omega) (by omega)).mp h)
      rw [if_neg c]
      refine zFr.tr ?_ (ih (i + 1) _ (by omega) (by omega)) (by decide)
      exact ((zFr.refl.set rfl).set rfl).set rfl
theorem xlaysL {a b : Int32} {r : zRr} {q : zRq} : zFr [25, 26, 27, 28] r (Gm_laysLines a b r q) := by
  unfold Gm_laysLines
  rw [zletQ]
  have f : zFr [25, 26, 27, 28] r (zset r 25 (upd (r 25) (zn b) (r 25 (zn a)))) := zFr.refl.set rfl
  exact f.tr (xlays14 41 0 _ (by omega) (by omega)) (by decide)
/-- rows of the LAND that is told, of frames that leave them -/
theorem xKk.of {M : List Nat} {r r1 : zRr} {q q1 : zRq} (f : zFr M r r1) (g : q1 = q) (h : ([171, 172, 173, 174, 175, 176, 177, 178, 179, 180, 181].all fun k => !M.contains k) = true) : xKk r q r1 q1 := by
  subst g
  refine ⟨fun a h1 h2 => f a ?_, rfl, rfl⟩
  have := List.all_eq_true.mp h a (by
    rcases (show a = 171 ∨ a = 172 ∨ a = 173 ∨ a = 174 ∨ a = 175 ∨ a = 176 ∨ a = 177 ∨ a = 178 ∨ a = 179 ∨ a = 180 ∨ a = 181 by omega) with rfl | rfl | rfl | rfl | rfl | rfl | rfl | rfl | rfl | rfl | rfl <;> decide)
  cases e : M.contains a with
  | false => rfl
  | true => rw [e] at this; cases this
theorem xLow.of_ {M : List Nat} {r r1 : zRr} {q q1 : zRq} (f : zFr M r r1) (g : q1 = q) (h : ([1, 4, 5, 6, 7, 8, 9, 10, 11, 12].all fun k => !M.contains k) = true) : xLow r q r1 q1 := by
  subst g
  have k : ∀ a, a ∈ [1, 4, 5, 6, 7, 8, 9, 10, 11, 12] → r1 a = r a := by
    intro a ha
    have := List.all_eq_true.mp h a ha
    refine f a ?_
    cases e : M.contains a with
    | false => rfl
    | true => rw [e] at this; cases this
  refine xLow.of (k 1 (by decide)) (fun a h1 h2 => k a ?_) rfl rfl
  rcases (show a = 4 ∨ a = 5 ∨ a = 6 ∨ a = 7 ∨ a = 8 ∨ a = 9 ∨ a = 10 ∨ a = 11 ∨ a = 12 by omega) with rfl | rfl | rfl | rfl | rfl | rfl | rfl | rfl | rfl <;> decide
theorem xKk.tr {r r1 r2 : zRr} {q q1 q2 : zRq} (h : xKk r q r1 q1) (k : xKk r1 q1 r2 q2) : xKk r q r2 q2 :=
  ⟨fun a h1 h2 => (k.1 a h1 h2).trans (h.1 a h1 h2), k.2.1.trans h.2.1, k.2.2.trans h.2.2⟩
theorem xKk.g {r r1 : zRr} {q q1 : zRq} (h : xGk r q r1 q1) : xKk r q r1 q1 := by
  refine ⟨fun a h1 h2 => h.1 a ?_, h.2 174 (by decide), h.2 179 (by decide)⟩
  rcases (show a = 171 ∨ a = 172 ∨ a = 173 ∨ a = 174 ∨ a = 175 ∨ a = 176 ∨ a = 177 ∨ a = 178 ∨ a = 179 ∨ a = 180 ∨ a = 181 by omega) with rfl | rfl | rfl | rfl | rfl | rfl | rfl | rfl | rfl | rfl | rfl <;> decide
theorem xD.len {t p : Nat} {r : zRr} {q : zRq} {rm : zRr} {qm : zRq} (h : xD t p r q rm qm) : ∃ m, r 192 2 = nI m ∧ m ≤ 1000 := by
  rcases h.2.2.2.2 with ⟨_, _, g⟩ | ⟨_, C, F, _, _, _, g4, _, g6⟩
  · exact ⟨4, g.c1, by decide⟩
  · exact ⟨C.length, g6.c1, g4⟩
theorem xLand {L t p : Nat} {r : zRr} {q : zRq} {rm : zRr} {qm : zRq} (h : xTp L r rm) (hD : xTd t p r q rm qm) : ∃ t p, xTd t p (Gk_land r q).2.1 (Gk_land r q).2.2 (Gm_land rm qm).2.1 (Gm_land rm qm).2.2 := by
  obtain ⟨gk, gm, k⟩ := xland (q := q) (qm := qm) (show xTp L r (zset rm 100 (fun _ => 0)) from h)
  obtain ⟨_, _, _, _, _, _, _, _, c9⟩ := xclear (r := r) (q := q) (rm := zset rm 122 (fun _ => 1000)) rfl
  unfold Gk_land Gm_land
  simp only [zletQ]
  generalize Gk_readL r q = o at gk k ⊢
  generalize Gm_readsAll (zset rm 100 (fun _ => 0)) qm = om at gm k ⊢
  obtain ⟨v, r15, q16⟩ := o
  obtain ⟨w, rm9, qm10⟩ := om
  have gk : xGk (xRa (Gk_clear r q)) q r15 q16 := gk
  have gm : xGm (xMb (zset rm 100 (fun _ => 0))) qm rm9 qm10 := gm
  rw [xcvrq (r := r15), xcvrq (r := rm9)]
  simp only [zletQ, zifnQ]
  rcases k with ⟨a1, a2, a3⟩ | ⟨a1, a2, t', p', a3⟩
  · have a1 : v = 0 := a1
    have a2 : w = 0 := a2
    rw [if_pos a1, if_pos a2]
    refine ⟨t, p, hD.fr ?_ ?_⟩
    · have f1 : xKk r q (Gk_clear r q) q := xKk.of c9 rfl (by decide)
      have f2 : xKk (Gk_clear r q) q (xRa (Gk_clear r q)) q := xKk.of (M := [196, 198]) (((((zFr.refl.set rfl).set rfl).set rfl).set rfl).set rfl) rfl (by decide)
      have f3 : xKk r15 q16 (zset r15 196 (upd (r15 196) 1 0)) q16 := xKk.of (M := [196]) (zFr.refl.set rfl) rfl (by decide)
      exact ((f1.tr f2).tr (xKk.g gk)).tr f3
    · have m0 : xGm rm qm (zset rm 100 (fun _ => 0)) qm → True := fun _ => trivial
      have l1 : xLow rm qm (zset rm 100 (fun _ => 0)) qm := xLow.of_ (M := [100]) (zFr.refl.set rfl) rfl (by decide)
      have g1 : xGm (zset rm 100 (fun _ => 0)) qm (xMa (zset rm 100 (fun _ => 0))) qm := by
        refine xGm.fld (xGm.fld (k := 123) ?_ (by decide) (by decide)) (by decide) (by decide)
        exact (((((xGm.refl.cell (k := 1) (j := 4) (by decide) (by omega) (by omega) (by omega) (by omega)).cell (k := 1) (j := 5) (by decide) (by omega) (by omega) (by omega) (by omega)).cell (k := 1) (j := 6) (by decide) (by omega) (by omega) (by omega) (by omega)).cell (k := 1) (j := 7) (by decide) (by omega) (by omega) (by omega) (by omega)).cell (k := 10) (j := 1) (by decide) (by omega) (by omega) (by omega) (by omega)).cell (k := 11) (j := 1) (by decide) (by omega) (by omega) (by omega) (by omega)
      have l2 : xLow (xMa (zset rm 100 (fun _ => 0))) qm (xMb (zset rm 100 (fun _ => 0))) qm := xLow.of_ (M := [101, 103, 104]) (((zFr.refl.set rfl).set rfl).set rfl) rfl (by decide)
      exact ((l1.tr g1.2.2).tr l2).tr gm.2.2
  · have a1 : v = 1 := a1
    have a2 : w = 1 := a2
    have a3 : xD t' p' r15 q16 rm9 qm10 := a3
    rw [if_neg (show ¬ v = 0 by rw [a1]; decide), if_neg (show ¬ w = 0 by rw [a2]; decide)]
    have hD17 : xD t' p' (zset r15 196 (upd (r15 196) 1 0)) q16 rm9 qm10 := a3.tok (q1 := q16) (qm1 := qm10) ⟨zFr.refl.set rfl, xFq.refl⟩ xFm9.refl
    generalize zset r15 196 (upd (r15 196) 1 0) = r17 at hD17 ⊢
    obtain ⟨m, em, hm⟩ := hD17.len
    have hT : xTd t' p' (kcpL r17 (zn (r17 192 2))) (kcpLq q16) (Gm_lays rm9 qm10).1 (Gm_lays rm9 qm10).2 := by
      refine xtell hD17 rfl (fun a h1 h2 h3 => ?_) ?_ rfl rfl rfl ?_ (fun a h1 h2 => ?_) ?_ ?_ ?_ ?_ ?_
      · unfold kcpL
        rw [if_neg (by omega), if_neg (by omega), if_neg (by omega), if_pos ⟨h1, h2, h3⟩]
      · show upd (r17 180) 2 (nI (zn (r17 192 2))) 2 = r17 192 2
        rw [pk_us, em, xzn (by omega)]
      all_goals (unfold Gm_lays; simp only [zletQ])
      · rfl
      · rcases (show a = 4 ∨ a = 5 ∨ a = 6 ∨ a = 7 ∨ a = 8 ∨ a = 9 by omega) with rfl | rfl | rfl | rfl | rfl | rfl <;> rfl
      · rfl
      · rfl
      · rfl
      · rfl
      · rfl
    generalize kcpLq q16 = q20 at hT ⊢
    generalize kcpL r17 (zn (r17 192 2)) = r21 at hT ⊢
    generalize Gm_lays rm9 qm10 = ol at hT ⊢
    obtain ⟨rm14, qm15⟩ := ol
    have hT : xTd t' p' r21 q20 rm14 qm15 := hT
    rw [xcrq (r := rm14)]
    have f8 := xbegin8 (q := q20) hT.2.1.1 hT.2.1.2.2
    have g8 := xfresh (q := qm15) hT.2.1.2.1 hT.2.1.2.2
    generalize Gk_begin8N r21 q20 = u22 at f8 ⊢
    generalize Gm_fresh0 rm14 qm15 = um at g8 ⊢
    have f6 := xclear6 (r := zset u22 138 (upd (u22 138) 3 0)) (q := q20)
    generalize Gk_clear6 (zset u22 138 (upd (u22 138) 3 0)) q20 = u25 at f6 ⊢
    have f5 := xforget (r := u25) (q := q20)
    generalize Gk_forgetPast u25 q20 = u27 at f5 ⊢
    obtain ⟨f4, f4q⟩ := xl79f 5 0 u27 q20 (by omega) (by omega)
    rw [nI_0] at f4 f4q
    have b1 : zFr [6, 7, 8, 9, 10, 11, 138, 162, 167, 168, 169, 170, 195] r21 (zset u22 138 (upd (u22 138) 3 0)) := (f8.up (by decide)).set (by decide)
    have b4 := ((b1.tr f6 (by decide)).tr f5 (by decide)).tr f4 (by decide)
    refine ⟨t', p', hT.fr (xKk.of b4 f4q (by decide)) (xLow.of_ (M := [25, 29, 32, 37, 151]) ?_ ?_ (by decide))⟩
    · refine zFr.tr ?_ (xm46f 5 0 _ qm15 (by omega) (by omega)).1 (by decide)
      exact (((g8.up (by decide)).set (by decide)).set (by decide)).set (by decide)
    · exact (xm46f 5 0 _ qm15 (by omega) (by omega)).2
/-- journey: what it answers, what it leaves told -/
theorem xJour {L t p : Nat} {r : zRr} {q : zRq} {rm : zRr} {qm : zRq} (h : xTp L r rm) (hD : xTd t p r q rm qm) : (Gk_journey r q).1 = (Gm_journey rm qm).1 ∧ xTd t p (Gk_journey r q).2.1 (Gk_journey r q).2.2 (Gm_journey rm qm).2.1 (Gm_journey rm qm).2.2 := by
  obtain ⟨⟨hk, k⟩, hD1⟩ := xjourney h hD
  unfold Gk_journey
  generalize Gk_readJ r q = o at hk k ⊢
  generalize Gm_journey rm qm = om at k ⊢
  obtain ⟨v, r3, q4⟩ := o
  obtain ⟨w, rm3, qm4⟩ := om
  have hk : xJk (xRj r) q r3 q4 := hk
  have hk5 : xJk (xRj r) q (zset r3 196 (upd (r3 196) 1 0)) q4 := hk.set (by decide)
  rw [xcvrq (r := r3)]
  simp only [zletQ, zifnQ]
  rcases k with ⟨g1, g2, g3⟩ | ⟨g1, g2, n, rm1, g3, g4, g5⟩
  · have g1 : v = 0 := g1
    have g2 : xJm (xMk rm) qm rm3 qm4 := g2
    have g3 : w = r3 196 7 := g3
    rw [if_pos g1]
    refine ⟨?_, hD1.j hk5 g2⟩
    show zset r3 196 (upd (r3 196) 1 0) 196 7 = w
    rw [zset_eq, pk_un (by decide), g3]
  · have g1 : v = 1 := g1
    have g2 : w = 0 := g2
    have g3 : xJm (xMk rm) qm rm1 qm4 := g3
    have g4 : rm3 = Gm_laysLines 5 0 rm1 qm4 := g4
    rw [if_neg (show ¬ v = 0 by rw [g1]; decide)]
    have hD2 := hD1.j hk5 g3
    generalize zset r3 196 (upd (r3 196) 1 0) = r5 at hD2 ⊢
    refine ⟨g2.symm, hD2.fr ⟨fun a h1 h2 => kcp1_o (by omega), rfl, rfl⟩ ?_⟩
    show xLow rm1 qm4 rm3 qm4
    rw [g4]
    exact xLow.of_ xlaysL rfl (by decide)
/-- the LAND that is told -/
def lD (r : zRr) (q : zRq) (rm : zRr) (qm : zRq) : Prop := ∃ t p, xTd t p r q rm qm
theorem lD.fr {r r1 : zRr} {q q1 : zRq} {rm rm1 : zRr} {qm qm1 : zRq} (h : lD r q rm qm) (k : xKk r q r1 q1) (m : xLow rm qm rm1 qm1) : lD r1 q1 rm1 qm1 := by
  obtain ⟨t, p, h⟩ := h
  exact ⟨t, p, h.fr k m⟩
