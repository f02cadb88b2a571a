section
/-! ===== judged: one line of the plan after another, on both sides ===== -/
noncomputable def sQ (p : Nat) (S : Nat → Nat → Int32) : Prop := ∀ j, j < p → zI 0 20 (S 3 j)
section XJD
variable {Lf : xLT} {t p : Nat} {E S : Nat → Nat → Int32} {r rm : zRr} {q qm : zRq}
theorem kCf (hE : xCe Lf t p E r) (hS : xCs t p 12 S r) {j : Nat} {v : Int32} (hj : j < p) : Gk_canForgeT (nI j) v r q = if E 2 j = 1 then (0 : Int32) else if v < 1 then 0 else if 20 - S 3 j < v then 0 else if S 4 j < v * E 3 1 then 0 else 1 := by
  have hp := hE.2.1.2
  have g2 : r 175 j = E 2 j := hE.2.2.2.1 j hj
  have g9 : r 15 j = S 3 j := (hS.2 j hj).2.2.2.1
  have g10 : r 16 j = S 4 j := (hS.2 j hj).2.2.2.2.1
  have g12 : r 171 12 = E 3 1 := hE.1.2.2.2
  unfold Gk_canForgeT
  simp only [zifQ, xzn (show j < 2 ^ 31 by omega), g2, g9, g10, g12]
theorem mCf (hE : xMe Lf t p E 0 rm) (hS : xMs t p S (rm 32)) {j : Nat} {v : Int32} (hj : j < p) : Gm_canForge (nI j) v rm qm = if E 2 j = 1 then (0 : Int32) else if S 4 j < v * E 3 1 then 0 else if 20 < S 3 j + v then 0 else 1 := by
  have hp := hE.2.1.2
  have n13 : (13 : Int32) + nI j = nI (13 + j) := nI_add 13 j
  have n19 : (19 : Int32) + nI j = nI (19 + j) := nI_add 19 j
  have k2 : rm 6 j = E 2 j := hE.2.2.2.1 j hj
  have k9 : rm 32 (13 + j) = S 3 j := (hS.2 j hj).2.2.2.1
  have k10 : rm 32 (19 + j) = S 4 j := (hS.2 j hj).2.2.2.2.1
  have k12 : rm 1 3 = E 3 1 := hE.1.2.2.2
  unfold Gm_canForge
  simp only [zifQ, n13, n19, xzn (show j < 2 ^ 31 by omega), xzn (show 13 + j < 2 ^ 31 by omega), xzn (show 19 + j < 2 ^ 31 by omega), k2, k9, k10, k12]
/-- the same answer on both sides, and what it says -/
theorem xCf (hE : xCe Lf t p E r) (hM : xMe Lf t p E 0 rm) (hS : xCs t p 12 S r) (hSm : xMs t p S (rm 32)) (hq : sQ p S) {j m : Nat} (hj : j < p) (h1 : 1 ≤ m) (h2 : m ≤ 20) : Gk_canForgeT (nI j) (nI m) r q = Gm_canForge (nI j) (nI m) rm qm ∧ (¬ Gm_canForge (nI j) (nI m) rm qm = 0 → zI 0 20 (S 3 j + nI m)) := by
  have a1 : ¬ nI m < (1 : Int32) := fun h => by
    have := (nI_ltI (a := m) (b := 1) (by omega) (by omega)).mp h
    omega
  have a2 : ¬ (20 : Int32) < nI m := fun h => by
    have := (nI_ltI (a := 20) (b := m) (by omega) (by omega)).mp h
    omega
  have f := hq j hj
  refine ⟨?_, fun h => ?_⟩
  · rw [kCf hE hS hj, mCf hM hSm hj, xFgC f, if_neg a1, if_neg a2]
  · rw [mCf hM hSm hj] at h
    by_cases c1 : E 2 j = 1
    · rw [if_pos c1] at h; exact absurd rfl h
    rw [if_neg c1] at h
    by_cases c2 : S 4 j < nI m * E 3 1
    · rw [if_pos c2] at h; exact absurd rfl h
    rw [if_neg c2] at h
    by_cases c3 : 20 < S 3 j + nI m
    · rw [if_pos c3] at h; exact absurd rfl h
    have f1 := f.1
    have f2 := f.2
    have e : (nI m).toInt = m := nI_toInt (by omega)
    have ea : (S 3 j + nI m).toInt = (S 3 j).toInt + (nI m).toInt := Jvm.Kit.i32_add (by omega) (by omega)
    have c20 : (20 : Int32).toInt = 20 := by decide
    rw [Int32.lt_iff_toInt_lt, c20] at c3
    exact ⟨by omega, by omega⟩
theorem xJst (hE : xCe Lf t p E r) (hM : xMe Lf t p E 0 rm) (hS : xCs t p 12 S r) (hSm : xMs t p S (rm 32)) (hz : xZr p (rm 32)) (hq : sQ p S) {k : Nat} (hk : k < 40) (e1 : r 139 k = rm 26 k) (e2 : ¬ r 139 k = 3 → r 140 k = rm 27 k) (e3 : r 139 k = 0 ∨ r 139 k = 1 → r 141 k = rm 28 k) (e4 : xBd t p (r 139 k) (r 140 k) (r 141 k)) : ∃ v r1 rm1 S1, Gk_perform (nI k) r q = (v, r1) ∧ Gm_follows (nI k) rm qm = (v, rm1) ∧ xCs t p 12 S1 r1 ∧ xMs t p S1 (rm1 32) ∧ xZr p (rm1 32) ∧ sQ p S1 ∧ zFr [12, 13, 14, 15, 16, 17, 182] r r1 ∧ zFr [15, 16, 17, 18, 19, 20, 21, 22, 23, 24, 32] rm rm1 := by
  have hp := hE.2.1.2
  obtain ⟨b0, b1, b2, b3⟩ := e4
  unfold Gk_perform Gm_follows
  simp only [zletQ, zifQ, zifnQ, xzn (show k < 2 ^ 31 by omega)]
  rcases b0 with c | c | c | c
  · obtain ⟨j, hj, ej⟩ := b1 (by rw [c]; decide)
    obtain ⟨i, hi, ei⟩ := b2 c
    rw [← e1, ← e2 (by rw [c]; decide), ← e3 (Or.inl c), c, ej, ei, if_neg (show ¬ (0 : Int32) = 3 by decide), if_neg (show ¬ (0 : Int32) = 2 by decide), if_pos (show (0 : Int32) = 0 from rfl), if_pos (show (0 : Int32) = 0 from rfl)]
    obtain ⟨r3, f3, g3⟩ := kGoT (q := q) hE hS hj hi
    obtain ⟨rm3, fm3, gm3⟩ := mGo (q := qm) hM hSm hj hi
    rw [g3, gm3, xcvr (r := r3), xcvr (r := rm3)]
    have hS3 : xCs t p 12 S r3 := hS.eq (fun i hi => f3 _ (by rcases (show i = 0 ∨ i = 1 ∨ i = 2 ∨ i = 3 ∨ i = 4 ∨ i = 5 by omega) with rfl | rfl | rfl | rfl | rfl | rfl <;> rfl))
    have hSm3 : xMs t p S (rm3 32) := hSm.fr (fm3 32 rfl)
    have hz3 : xZr p (rm3 32) := by rw [fm3 32 rfl]; exact hz
    by_cases d : sGo Lf p E S 0 j i = 0
    · rw [if_pos d, if_pos d]
      exact ⟨_, _, _, S, rfl, rfl, hS3, hSm3, hz3, hq, f3.up (by decide), fm3.up (by decide)⟩
    · obtain ⟨v1, v2⟩ := kMvT (q := q) hS3 hj hp hi
      obtain ⟨w1, w2, w3⟩ := mMv (q := qm) hSm3 hz3 hj hp hi
      rw [if_neg d, if_neg d, fm3 28 rfl, ← e3 (Or.inl c), ei]
      exact ⟨_, _, _, _, rfl, rfl, v1, w1, w2, hq, (f3.up (by decide)).tr v2 (by decide), (fm3.up (by decide)).tr w3 (by decide)⟩
  · obtain ⟨j, hj, ej⟩ := b1 (by rw [c]; decide)
    obtain ⟨m, h1, h2, ei⟩ := b3 c
    rw [← e1, ← e2 (by rw [c]; decide), ← e3 (Or.inr c), c, ej, ei, if_neg (show ¬ (1 : Int32) = 3 by decide), if_neg (show ¬ (1 : Int32) = 2 by decide), if_neg (show ¬ (1 : Int32) = 0 by decide), if_neg (show ¬ (1 : Int32) = 0 by decide), if_pos (show (1 : Int32) = 1 from rfl)]
    obtain ⟨x1, x2⟩ := xCf (q := q) (qm := qm) hE hM hS hSm hq hj h1 h2
    rw [x1]
    by_cases d : Gm_canForge (nI j) (nI m) rm qm = 0
    · rw [if_pos d, if_pos d]
      exact ⟨_, _, _, S, rfl, rfl, hS, hSm, hz, hq, zFr.refl, zFr.refl⟩
    · rw [if_neg d, if_neg d]
      obtain ⟨v1, v2⟩ := kFgT (q := q) (v := nI m) hE hS hj
      obtain ⟨w1, w2, w3⟩ := mFg (q := qm) (v := nI m) hM hSm hz hj
      refine ⟨_, _, _, _, rfl, rfl, v1, w1, w2, fun i hi => ?_, v2.up (by decide), w3.up (by decide)⟩
      show zI 0 20 (upd (S 3) j (S 3 j + nI m) i)
      by_cases e : i = j
      · subst e; rw [pk_us]; exact x2 d
      · rw [pk_un e]; exact hq i hi
  · obtain ⟨j, hj, ej⟩ := b1 (by rw [c]; decide)
    rw [← e1, ← e2 (by rw [c]; decide), c, ej, if_neg (show ¬ (2 : Int32) = 3 by decide), if_pos (show (2 : Int32) = 2 from rfl), if_neg (show ¬ (2 : Int32) = 0 by decide), if_neg (show ¬ (2 : Int32) = 1 by decide), if_pos (show (2 : Int32) = 2 from rfl)]
    obtain ⟨v1, v2⟩ := kRzT (q := q) hS hj hp
    obtain ⟨w1, w2, w3⟩ := mRz (q := qm) hSm hz hj hp
    refine ⟨_, _, _, _, rfl, rfl, v1, w1, w2, fun i hi => ?_, v2.up (by decide), w3.up (by decide)⟩
    show zI 0 20 (upd (S 3) j 0 i)
    by_cases e : i = j
    · subst e; rw [pk_us]; exact ⟨by decide, by decide⟩
    · rw [pk_un e]; exact hq i hi
  · rw [← e1, c, if_pos (show (3 : Int32) = 3 from rfl), if_neg (show ¬ (3 : Int32) = 0 by decide), if_neg (show ¬ (3 : Int32) = 1 by decide), if_neg (show ¬ (3 : Int32) = 2 by decide)]
    obtain ⟨v1, v2⟩ := kWkT (q := q) hE hS
    obtain ⟨w1, w2, w3⟩ := mWk (q := qm) hM hSm hz
    exact ⟨_, _, _, _, rfl, rfl, v1, w1, w2, hq, v2.up (by decide), w3.up (by decide)⟩
end XJD
/-- what towns ask the most -/
theorem xMA {Lf : xLT} {t p : Nat} {E : Nat → Nat → Int32} {r rm : zRr} {q qm : zRq} (hE : xCe Lf t p E r) (hM : xMe Lf t p E 0 rm) : Gk_mostAsked r q = Gm_mostAsked rm qm := by
  have ht := hE.2.1.1
  have g9 : r 171 9 = nI t := hE.1.1
  have k0 : rm 1 0 = nI t := hM.1.1
  have key : ∀ (n i : Nat) (m : Int32), i ≤ t → t < n + i → Gk_mostAsked_4 r n m (nI i) = Gm_mostAsked_4 rm n m (nI i) := by
    intro n
    induction n with
    | zero => intro i m h1 h2; omega
    | succ n ih =>
      intro i m h1 h2
      have e0 : Gk_mostAsked_4 r (n + 1) m (nI i) = Bk_mostAsked_4 r (Gk_mostAsked_4 r n) m (nI i) := rfl
      have e1 : Gm_mostAsked_4 rm (n + 1) m (nI i) = Bm_mostAsked_4 rm (Gm_mostAsked_4 rm n) m (nI i) := rfl
      rw [e0, e1]
      unfold Bk_mostAsked_4 Bm_mostAsked_4
      simp only [zletQ, zifQ, g9, k0, nI_1, xzn (show i < 2 ^ 31 by omega)]
      by_cases e : i = t
      · subst e
        rw [if_pos (nI_leP (by omega) (by omega) (by omega)), if_pos (nI_leP (by omega) (by omega) (by omega))]
      · rw [if_neg (nI_leN (by omega) (by omega) (by omega)), if_neg (nI_leN (by omega) (by omega) (by omega)), (hE.2.2.1 i (by omega)).1, (hM.2.2.1 i (by omega)).1]
        exact ih (i + 1) _ (by omega) (by omega)
  unfold Gk_mostAsked Gm_mostAsked
  exact key 7 0 0 (by omega) (by omega)
/-- sums -/
noncomputable def sSm (f : Nat → Int32) : Nat → Int32
  | 0 => 0
  | n + 1 => sSm f n + f n
theorem sSm_s {f : Nat → Int32} {n : Nat} : sSm f (n + 1) = sSm f n + f n := rfl
theorem sSm_c {f g : Nat → Int32} : ∀ n, (∀ i, i < n → f i = g i) → sSm f n = sSm g n := by
  intro n
  induction n with
  | zero => intro _; rfl
  | succ n ih => intro h; rw [sSm_s, sSm_s, ih (fun i hi => h i (by omega)), h n (by omega)]
theorem sSm_z {f : Nat → Int32} {p : Nat} : ∀ d, (∀ i, p ≤ i → i < p + d → f i = 0) → sSm f (p + d) = sSm f p := by
  intro d
  induction d with
  | zero => intro _; rfl
  | succ d ih =>
    intro h
    rw [show p + (d + 1) = p + d + 1 by omega, sSm_s, ih (fun i h1 h2 => h i h1 (by omega)), h (p + d) (by omega) (by omega), Int32.add_zero]
theorem kSa {p : Nat} {f : Nat → Int32} {r : zRr} {q : zRq} (hp : p ≤ 6) (h10 : r 171 10 = nI p) (h : ∀ j, j < p → r 178 j = f j) : Gk_suma r q = sSm f p := by
  have key : ∀ (n i : Nat), i ≤ p → p < n + i → Gk_suma_4 r n (sSm f i) (nI i) = sSm f p := by
    intro n
    induction n with
    | zero => intro i h1 h2; omega
    | succ n ih =>
      intro i h1 h2
      have e0 : Gk_suma_4 r (n + 1) (sSm f i) (nI i) = Bk_suma_4 r (Gk_suma_4 r n) (sSm f i) (nI i) := rfl
      rw [e0]
      unfold Bk_suma_4
      simp only [zletQ, zifQ, h10, nI_1, xzn (show i < 2 ^ 31 by omega)]
      by_cases e : i = p
      · subst e
        rw [if_pos (nI_leP (by omega) (by omega) (by omega))]
      · rw [if_neg (nI_leN (by omega) (by omega) (by omega)), if_neg (show ¬ (6 : Int32) ≤ nI i from nI_leN (a := 6) (by omega) (by omega) (by omega)), h i (by omega), ← sSm_s]
        exact ih (i + 1) (by omega) (by omega)
  exact key 7 0 (by omega) (by omega)
theorem kSd {p : Nat} {f : Nat → Int32} {r : zRr} {q : zRq} (hp : p ≤ 6) (h10 : r 171 10 = nI p) (h : ∀ j, j < p → r 16 j = f j) : Gk_sumd r q = sSm f p := by
  have key : ∀ (n i : Nat), i ≤ p → p < n + i → Gk_sumd_4 r n (sSm f i) (nI i) = sSm f p := by
    intro n
    induction n with
    | zero => intro i h1 h2; omega
    | succ n ih =>
      intro i h1 h2
      have e0 : Gk_sumd_4 r (n + 1) (sSm f i) (nI i) = Bk_sumd_4 r (Gk_sumd_4 r n) (sSm f i) (nI i) := rfl
      rw [e0]
      unfold Bk_sumd_4
      simp only [zletQ, zifQ, h10, nI_1, xzn (show i < 2 ^ 31 by omega)]
      by_cases e : i = p
      · subst e
        rw [if_pos (nI_leP (by omega) (by omega) (by omega))]
      · rw [if_neg (nI_leN (by omega) (by omega) (by omega)), if_neg (show ¬ (6 : Int32) ≤ nI i from nI_leN (a := 6) (by omega) (by omega) (by omega)), h i (by omega), ← sSm_s]
        exact ih (i + 1) (by omega) (by omega)
  exact key 7 0 (by omega) (by omega)
theorem mSm {t p : Nat} {S : Nat → Nat → Int32} {rm : zRr} {qm : zRq} (hp : p ≤ 6) (hS : xMs t p S (rm 32)) (hz : xZr p (rm 32)) : Gm_allOf 19 rm qm = sSm (S 4) p := by
  have key : ∀ (n i : Nat), i ≤ 6 → 6 < n + i → Gm_allOf_4 19 rm n (sSm (fun j => rm 32 (19 + j)) i) (nI (19 + i)) = sSm (fun j => rm 32 (19 + j)) 6 := by
    intro n
    induction n with
    | zero => intro i h1 h2; omega
    | succ n ih =>
      intro i h1 h2
      have e0 : Gm_allOf_4 19 rm (n + 1) (sSm (fun j => rm 32 (19 + j)) i) (nI (19 + i)) = Bm_allOf_4 19 rm (Gm_allOf_4 19 rm n) (sSm (fun j => rm 32 (19 + j)) i) (nI (19 + i)) := rfl
      rw [e0]
      unfold Bm_allOf_4
      simp only [zletQ, zifQ, nI_1, xzn (show 19 + i < 2 ^ 31 by omega)]
      rw [show (19 : Int32) + 6 = nI 25 by decide]
      by_cases e : i = 6
      · subst e
        rw [if_pos (nI_leP (by omega) (by omega) (by omega))]
      · rw [if_neg (nI_leN (by omega) (by omega) (by omega))]
        exact ih (i + 1) (by omega) (by omega)
  have e : Gm_allOf 19 rm qm = sSm (fun j => rm 32 (19 + j)) 6 := key 18 0 (by omega) (by omega)
  have z := sSm_z (f := fun j => rm 32 (19 + j)) (p := p) (6 - p) (fun i h1 h2 => (hz i h1 (by omega)).2)
  rw [show p + (6 - p) = 6 by omega] at z
  rw [e, z]
  exact sSm_c p (fun j hj => (hS.2 j hj).2.2.2.2.1)
end
section
/-! ===== judged: the loop ===== -/
noncomputable def xWo (w : Int32) : Prop := w = -1 ∨ ∃ i, i ≤ 1000 ∧ w = nI i
theorem xWo.nn {w : Int32} (h : xWo w) : (0 : Int32) ≤ w ↔ ¬ w = -1 := by
  rcases h with rfl | ⟨i, hi, rfl⟩
  · exact ⟨fun h => absurd h (by decide), fun h => absurd rfl h⟩
  · exact ⟨fun _ => nIm1 hi, fun _ => nI_leP (a := 0) (by omega) (by omega) (by omega)⟩
noncomputable def xLs (t p n : Nat) (r rm : zRr) : Prop := r 138 3 = nI n ∧ rm 25 0 = nI n ∧ ∀ k, k < n → r 139 k = rm 26 k ∧ (¬ r 139 k = 3 → r 140 k = rm 27 k) ∧ (r 139 k = 0 ∨ r 139 k = 1 → r 141 k = rm 28 k) ∧ xBd t p (r 139 k) (r 140 k) (r 141 k)
theorem xLs.fr {t p n : Nat} {r r1 rm rm1 : zRr} (h : xLs t p n r rm) (f : zFr [12, 13, 14, 15, 16, 17, 182] r r1) (g : zFr [15, 16, 17, 18, 19, 20, 21, 22, 23, 24, 32] rm rm1) : xLs t p n r1 rm1 := by
  unfold xLs at h ⊢
  rw [f 138 rfl, f 139 rfl, f 140 rfl, f 141 rfl, g 25 rfl, g 26 rfl, g 27 rfl, g 28 rfl]
  exact h
section XJL2
variable {Lf : xLT} {t p : Nat} {E : Nat → Nat → Int32} {q qm : zRq}
theorem xJlp {n : Nat} (hn : n ≤ 40) {a MA : Int32} (hA : ∀ rm, xMe Lf t p E 0 rm → Gm_mostAsked rm qm = MA) : ∀ (m k : Nat) (w2 w3 : Int32) (r rm : zRr) (S : Nat → Nat → Int32), k ≤ n → n < m + k → xCe Lf t p E r → xMe Lf t p E 0 rm → (∀ j, j < p → r 178 j = E 6 j) → xCs t p 12 S r → xMs t p S (rm 32) → xZr p (rm 32) → sQ p S → xLs t p n r rm → xWo w2 → xWo w3 → ((a.toInt < 0 ∨ 2 < a.toInt) → (Gk_judged_27 a q m w2 w3 MA (nI k) r).1 = -2) ∧ (¬ (a.toInt < 0 ∨ 2 < a.toInt) → (Gk_judged_27 a q m w2 w3 MA (nI k) r).1 = (Gm_judged_49 a qm m (sSm (E 6) p) w2 w3 (nI k) rm).1) := by
  intro m
  induction m with
  | zero => intro k w2 w3 r rm S h1 h2; omega
  | succ m ih =>
    intro k w2 w3 r rm S h1 h2 hE hM h178 hS hSm hz hq hL hw2 hw3
    have hp := hE.2.1.2
    have e0 : Gk_judged_27 a q (m + 1) w2 w3 MA (nI k) r = Bk_judged_27 a q (Gk_judged_27 a q m) w2 w3 MA (nI k) r := rfl
    have e1 : Gm_judged_49 a qm (m + 1) (sSm (E 6) p) w2 w3 (nI k) rm = Bm_judged_49 a qm (Gm_judged_49 a qm m) (sSm (E 6) p) w2 w3 (nI k) rm := rfl
    rw [e0, e1]
    unfold Bk_judged_27 Bm_judged_49
    simp only [zletQ, zifQ, zifnQ]
    rw [hL.1, hL.2.1]
    by_cases e : k = n
    · subst e
      rw [if_pos (nI_leP (by omega) (by omega) (by omega)), if_pos (nI_leP (by omega) (by omega) (by omega))]
      refine ⟨fun c => by rw [if_pos c], fun c => ?_⟩
      rw [if_neg c]
      by_cases a0 : a = 0
      · rw [if_pos a0, if_pos a0]
      rw [if_neg a0, if_neg a0]
      by_cases a1 : a = 1
      · rw [if_pos a1, if_pos a1]
      rw [if_neg a1, if_neg a1]
      have a2 : a = 2 := by
        apply Int32.toInt_inj.mp
        have n0 : ¬ a.toInt = 0 := fun h => a0 (Int32.toInt_inj.mp (by rw [h]; decide))
        have n1 : ¬ a.toInt = 1 := fun h => a1 (Int32.toInt_inj.mp (by rw [h]; decide))
        rw [show (2 : Int32).toInt = 2 by decide]
        omega
      rw [if_pos a2, kSa (f := E 6) hp hE.1.2.1 h178, kSd (f := S 4) hp hE.1.2.1 (fun j hj => (hS.2 j hj).2.2.2.2.1), mSm hp hSm hz]
    · rw [if_neg (nI_leN (by omega) (by omega) (by omega)), if_neg (nI_leN (by omega) (by omega) (by omega))]
      obtain ⟨l1, l2, l3, l4⟩ := hL.2.2 k (by omega)
      obtain ⟨v, r1, rm1, S1, p1, p2, s1, s2, s3, s4, f1, f2⟩ := xJst (q := q) (qm := qm) hE hM hS hSm hz hq (show k < 40 by omega) l1 l2 l3 l4
      have hE1 : xCe Lf t p E r1 := hE.fr f1 (by decide)
      have hM1 : xMe Lf t p E 0 rm1 := hM.fr f2 (by decide)
      have hL1 := hL.fr f1 f2
      have h1781 : ∀ j, j < p → r1 178 j = E 6 j := by rw [f1 178 rfl]; exact h178
      have wk : xWo (nI k) := Or.inr ⟨k, by omega, rfl⟩
      have go := fun w2' w3' (g2 : xWo w2') (g3 : xWo w3') => ih (k + 1) w2' w3' r1 rm1 S1 (by omega) (by omega) hE1 hM1 h1781 s1 s2 s3 s4 hL1 g2 g3
      rw [p1, p2, xcvr (r := r1), xcvr (r := rm1)]
      unfold Gk_judged_70 Gm_judged_80 Gk_judged_117 Gm_judged_123 Gk_goesTo
      simp only [zletQ, zifQ, zifnQ, nI_1, xzn (show k < 2 ^ 31 by omega), hA rm1 hM1]
      by_cases c : v = 0
      · rw [if_pos c, if_pos c]
        by_cases d : w2 = -1
        · rw [if_pos d, if_neg (fun h => hw2.nn.mp h d), if_pos c]
          exact go _ _ wk hw3
        · rw [if_neg d, if_pos (hw2.nn.mpr d), if_pos c]
          exact go _ _ hw2 hw3
      · rw [if_neg c, if_neg c, if_neg c]
        by_cases d : w3 = -1
        · rw [if_pos d, if_neg (fun h => hw3.nn.mp h d)]
          obtain ⟨l1, l2, l3, l4⟩ := hL1.2.2 k (by omega)
          rw [← l1]
          by_cases g : r1 139 k = 0
          · obtain ⟨i, hi, ei⟩ := l4.2.2.1 g
            rw [if_pos g, if_pos g, ← l3 (Or.inl g), ei, if_neg (nIm1 (by have := hE.2.1.1; omega)), xzn (show i < 2 ^ 31 by have := hE.2.1.1; omega), (hE1.2.2.1 i hi).1, (hM1.2.2.1 i hi).1]
            by_cases x : E 0 i = MA
            · rw [if_pos x, if_pos x]; exact go _ _ hw2 wk
            · rw [if_neg x, if_neg x]; exact go _ _ hw2 hw3
          · rw [if_neg g, if_neg g, if_pos rfl]; exact go _ _ hw2 hw3
        · rw [if_neg d, if_pos (hw3.nn.mpr d)]
          have q1 := go _ _ hw2 hw3
          by_cases g : rm1 26 k = 0
          · rw [if_pos g]; exact q1
          · rw [if_neg g]; exact q1
end XJL2
theorem xJudgedW {t p : Nat} {a : Int32} {r rm : zRr} {q qm : zRq} (h : xHow t p r q rm qm) : (Gk_judged a r q).1 = (Gm_judged a rm qm).1 := by
  have h1 := h.z100
  have ht := h.le.1
  have hp := h.le.2
  obtain ⟨hE, hE', hC, hH⟩ := xCe.of h1.1
  rw [h1.2.2.2.2.2] at hE'
  obtain ⟨n, hn, l1, l2, l3⟩ := h.2.2.2.2.1
  obtain ⟨k1, k2⟩ := kBgT (q := q) hE hC
  have f33 : zFr [33, 100] rm (zset (zset rm 100 (fun _ => 0)) 33 (zcp ((zset rm 100 (fun _ => 0)) 32) ((zset rm 100 (fun _ => 0)) 33) 0 0 31)) := (zFr.refl.set rfl).set rfl
  have hM3 : xMe (sL r) t p (sE r) 0 (zset (zset rm 100 (fun _ => 0)) 33 (zcp ((zset rm 100 (fun _ => 0)) 32) ((zset rm 100 (fun _ => 0)) 33) 0 0 31)) := hE'.fr (M := [33]) (zFr.refl.set rfl) (by decide)
  have hH3 : xMh t p (sE r) (zset (zset rm 100 (fun _ => 0)) 33 (zcp ((zset rm 100 (fun _ => 0)) 32) ((zset rm 100 (fun _ => 0)) 33) 0 0 31)) := fun j hj => by
    rw [zset_ne (by decide), zset_ne (by decide), zset_ne (by decide)]; exact hH j hj
  obtain ⟨m1, m2, m3⟩ := mBg (q := qm) hM3 hH3
  have hEb : xCe (sL r) t p (sE r) (Gk_begin8T r q) := hE.fr k2 (by decide)
  have hMb := hM3.fr m3 (by decide)
  have hL : xLs t p n (Gk_begin8T r q) (Gm_fresh0 (zset (zset rm 100 (fun _ => 0)) 33 (zcp ((zset rm 100 (fun _ => 0)) 32) ((zset rm 100 (fun _ => 0)) 33) 0 0 31)) qm) := by
    unfold xLs
    rw [k2 138 rfl, k2 139 rfl, k2 140 rfl, k2 141 rfl, m3 25 rfl, m3 26 rfl, m3 27 rfl, m3 28 rfl, f33 25 rfl, f33 26 rfl, f33 27 rfl, f33 28 rfl]
    refine ⟨l1, l2, fun k hk => ?_⟩
    have := l3 k hk
    rw [show 40 * 0 + k = k by omega] at this
    exact this
  have key := xJlp (q := q) (qm := qm) (a := a) hn (MA := Gk_mostAsked r q) (fun rm1 hm => (xMA (q := q) (qm := qm) hE hm).symm) 41 0 (-1) (-1) _ _ (sBg (sE r)) (by omega) (by omega) hEb hMb (fun j hj => by rw [k2 178 rfl]; exact (hC j hj).2.2.2) k1 m1 m2 (fun j _ => show zI 0 20 0 from ⟨by decide, by decide⟩) hL (Or.inl rfl) (Or.inl rfl)
  have c2 : (2 : Int32).toInt = 2 := by decide
  have c0 : (0 : Int32).toInt = 0 := by decide
  unfold Gk_judged Gm_judged Gm_within
  simp only [zletQ, zifQ, zifnQ]
  by_cases x1 : a < 0
  · rw [if_pos x1, if_pos rfl]
    rw [Int32.lt_iff_toInt_lt, c0] at x1
    exact key.1 (Or.inl x1)
  rw [if_neg x1]
  by_cases x2 : 2 < a
  · rw [if_pos x2, if_pos rfl]
    rw [Int32.lt_iff_toInt_lt, c2] at x2
    exact key.1 (Or.inr x2)
  rw [if_neg x2, if_neg (show ¬ (1 : Int32) = 0 by decide), mSm hp m1 m2]
  rw [Int32.lt_iff_toInt_lt, c0] at x1
  rw [Int32.lt_iff_toInt_lt, c2] at x2
  exact key.2 (by omega)
end
section
/-! ===== what holds between two calls: the tapes alike, the same LAND told, all as it is on either side ===== -/
noncomputable def lR (r : zRr) (q : zRq) (rm : zRr) (qm : zRq) : Prop := lT r rm ∧ (∃ t p, xHow t p r q rm qm) ∧ lM r rm ∧ lS r rm
section LR
variable {r r1 : zRr} {q : zRq} {rm rm1 : zRr} {qm qm1 : zRq}
theorem lR.w {M : List Nat} (h : lR r q rm qm) (fk : zFt r r1) (fm : zFr M rm rm1) (m32 : zRs rm rm1) (m152 : rm1 152 0 = 0) (hM : ([0, 1, 4, 5, 6, 7, 8, 9, 10, 11, 12, 25, 26, 27, 28, 29, 35, 36, 37, 101, 151].all fun k => !M.contains k) = true) : lR r1 q rm1 qm := by
  have g : ∀ a, [0, 1, 4, 5, 6, 7, 8, 9, 10, 11, 12, 25, 26, 27, 28, 29, 35, 36, 37, 101, 151].contains a = true → M.contains a = false := fun a ha => by
    have := List.all_eq_true.mp hM a (List.contains_iff_mem.mp ha)
    revert this
    cases M.contains a with
    | false => intro _; rfl
    | true => intro h; cases h
  obtain ⟨h1, ⟨t, p, h2⟩, h3, h4⟩ := h
  refine ⟨(h1.k ⟨fk 196 rfl, fk 197 rfl⟩).m (fm 0 (g 0 rfl)) (fm 101 (g 101 rfl)), ⟨t, p, h2.fr (fun a ha => fk a (zK3_in (by omega))) m32 m152 fm ?_⟩, h3.fr (fun k hk => fk _ (zK3_in (by omega))) (fm 37 (g 37 rfl)), h4.fr (fun k hk => fk _ (zK3_in (by omega))) (fm 29 (g 29 rfl))⟩
  rw [List.all_eq_true]
  intro a ha
  have ha : [1, 4, 5, 6, 7, 8, 9, 10, 11, 12, 25, 26, 27, 28, 35, 36, 37, 151].contains a = true := List.contains_iff_mem.mpr ha
  have : [0, 1, 4, 5, 6, 7, 8, 9, 10, 11, 12, 25, 26, 27, 28, 29, 35, 36, 37, 101, 151].contains a = true := by
    have h9 := List.contains_iff_mem.mp ha
    simp only [List.mem_cons, List.not_mem_nil, or_false] at h9
    rw [List.contains_iff_mem]
    simp only [List.mem_cons, List.not_mem_nil, or_false]
    omega
  rw [g a this]; rfl
theorem lR.z (h : lR r q rm qm) : rm 152 0 = 0 := by
  obtain ⟨_, ⟨_, _, h2⟩, _⟩ := h
  exact h2.2.2.2.2.2
theorem lR.s {M : List Nat} (h : lR r q rm qm) (fk : zFt r r1) (fm : zFr M rm rm1) (m32 : zRs rm rm1) (k152 : M.contains 152 = false) (hM : ([0, 1, 4, 5, 6, 7, 8, 9, 10, 11, 12, 25, 26, 27, 28, 29, 35, 36, 37, 101, 151].all fun k => !M.contains k) = true) : lR r1 q rm1 qm := h.w fk fm m32 (by rw [fm 152 k152]; exact h.z) hM
theorem lR.n (h : lR r q rm qm) (n : mNm qm qm1) : lR r q rm qm1 := by
  obtain ⟨h1, ⟨t, p, h2, h3⟩, h4⟩ := h
  exact ⟨h1, ⟨t, p, h2.fr ⟨fun _ _ _ => rfl, rfl, rfl⟩ (xLow.of rfl (fun _ _ _ => rfl) n.1 n.2), h3⟩, h4⟩
theorem mJ.fo (hM : mJ 20 rm) : ∀ j, j < 6 → zI 0 20 (rm 32 (13 + j)) := by
  intro j hj
  rcases (show j = 0 ∨ j = 1 ∨ j = 2 ∨ j = 3 ∨ j = 4 ∨ j = 5 by omega) with rfl | rfl | rfl | rfl | rfl | rfl
  · exact hM.i 32 13
  · exact hM.i 32 14
  · exact hM.i 32 15
  · exact hM.i 32 16
  · exact hM.i 32 17
  · exact hM.i 32 18
/-- what is asked: the standing is back as it was -/
theorem lR.sJ {a : Int32} {um : Int32 × zRr} (em : um = Gm_judged a rm qm) (h : lR r q rm qm) : zRs rm um.2 := by
  obtain ⟨_, ⟨t, p, h2⟩, _⟩ := h
  obtain ⟨n, hn, _, h25, _⟩ := h2.2.2.2.2.1
  rw [em]; exact rs_judged h25 hn h2.1.2.1.2.1 h2.le.2
theorem lR.sN {a b : Int32} {um : Int32 × zRr} (em : um = Gm_need a b rm qm) (hM : mJ 20 rm) (h : lR r q rm qm) : zRs rm um.2 := by
  obtain ⟨_, ⟨t, p, h2⟩, _⟩ := h
  rw [em]; exact rs_need h2.1.2.1.2.1 h2.le.2 hM.fo
theorem lR.sD {a b : Int32} {um : Int32 × zRr} (em : um = Gm_debt a b rm qm) (hM : mJ 20 rm) (h : lR r q rm qm) : zRs rm um.2 := by
  obtain ⟨_, ⟨t, p, h2⟩, _⟩ := h
  rw [em]; exact rs_debt h2.1.2.1.2.1 h2.le.2 hM.fo
theorem lR.sC {a : Int32} {um : Int32 × zRr} (em : um = Gm_cheapest a rm qm) (hM : mJ 20 rm) (h : lR r q rm qm) : zRs rm um.2 := by
  obtain ⟨_, ⟨t, p, h2⟩, _⟩ := h
  rw [em]; exact rs_cheapest h2.1.2.1.2.1 h2.le.2 hM.fo
theorem lR.sT {a b : Int32} {um : Int32 × zRr} (em : um = Gm_stricter a b rm qm) (h : lR r q rm qm) : um.2 152 0 = 0 := by
  have h0 := h.z
  obtain ⟨_, ⟨t, p, h2⟩, _⟩ := h
  rw [em]; exact rs_stricter h0 h2.1.2.1.2.1 h2.le.2
/-- a move -/
theorem lR.mv {M : List Nat} {u um : Int32 × zRr} (h : lR r q rm qm) (k : ∀ t p, xHow t p r q rm qm → u.1 = um.1 ∧ xHow t p u.2 q um.2 qm ∧ xK1 r u.2) (fm : zFr M rm um.2) (hM : ([0, 29, 37, 101].all fun k => !M.contains k) = true) : u.1 = um.1 ∧ lR u.2 q um.2 qm := by
  have g : ∀ a, [0, 29, 37, 101].contains a = true → M.contains a = false := fun a ha => by
    have := List.all_eq_true.mp hM a (List.contains_iff_mem.mp ha)
    revert this
    cases M.contains a with
    | false => intro _; rfl
    | true => intro h; cases h
  obtain ⟨h1, ⟨t, p, h2⟩, h3, h4⟩ := h
  obtain ⟨k1, k2, k3⟩ := k t p h2
  exact ⟨k1, (h1.k ⟨k3 196 (by omega) (by omega) (by omega), k3 197 (by omega) (by omega) (by omega)⟩).m (fm 0 (g 0 rfl)) (fm 101 (g 101 rfl)), ⟨t, p, k2⟩, h3.fr (fun k hk => k3 _ (by omega) (by omega) (by omega)) (fm 37 (g 37 rfl)), h4.fr (fun k hk => k3 _ (by omega) (by omega) (by omega)) (fm 29 (g 29 rfl))⟩
theorem lR.go {a b : Int32} {M : List Nat} {u um : Int32 × zRr} (e : u = Gk_go a b r q) (em : um = Gm_go a b rm qm) (h : lR r q rm qm) (fm : zFr M rm um.2) (hM : ([0, 29, 37, 101].all fun k => !M.contains k) = true) : u.1 = um.1 ∧ lR u.2 q um.2 qm :=
  h.mv (fun t p k => by rw [e, em]; exact xGoW k) fm hM
theorem lR.forge {a b : Int32} {M : List Nat} {u um : Int32 × zRr} (e : u = Gk_forge a b r q) (em : um = Gm_forge a b rm qm) (hJ : mJ 20 rm) (h : lR r q rm qm) (fm : zFr M rm um.2) (hM : ([0, 29, 37, 101].all fun k => !M.contains k) = true) : u.1 = um.1 ∧ lR u.2 q um.2 qm :=
  h.mv (fun t p k => by rw [e, em]; exact xFgW k hJ.fo) fm hM
theorem lR.shave {a : Int32} {M : List Nat} {u um : Int32 × zRr} (e : u = Gk_shave a r q) (em : um = Gm_shave a rm qm) (h : lR r q rm qm) (fm : zFr M rm um.2) (hM : ([0, 29, 37, 101].all fun k => !M.contains k) = true) : u.1 = um.1 ∧ lR u.2 q um.2 qm :=
  h.mv (fun t p k => by rw [e, em]; exact xShW k) fm hM
theorem lR.week {M : List Nat} {u um : Int32 × zRr} (e : u = Gk_week r q) (em : um = Gm_week rm qm) (h : lR r q rm qm) (fm : zFr M rm um.2) (hM : ([0, 29, 37, 101].all fun k => !M.contains k) = true) : u.1 = um.1 ∧ lR u.2 q um.2 qm :=
  h.mv (fun t p k => by rw [e, em]; exact xWkW k) fm hM
theorem lR.undo {M : List Nat} {u um : Int32 × zRr} (e : u = Gk_undo r q) (em : um = Gm_undo rm qm) (h : lR r q rm qm) (fm : zFr M rm um.2) (hM : ([0, 29, 37, 101].all fun k => !M.contains k) = true) : u.1 = um.1 ∧ lR u.2 q um.2 qm :=
  h.mv (fun t p k => by rw [e, em]; exact xUnW k) fm hM
theorem lR.land {B : Int} {u um : Int32 × zRr × zRq} (e : u = Gk_land r q) (em : um = Gm_land rm qm) (hM : mJ B rm) (h : lR r q rm qm) (z : u.2.1 196 1 = 0) (zm : um.2.1 101 0 = 0) : u.1 = um.1 ∧ lR u.2.1 u.2.2 um.2.1 um.2.2 := by
  obtain ⟨h1, ⟨t, p, h2⟩, h3, h4⟩ := h
  have hp := h1.p hM
  have k := xLandM (q := q) (qm := qm) hp h3 h4
  refine ⟨by rw [e, em]; exact xLandA hp, lT.z z zm, ?_, ?_⟩
  · rw [e, em]; exact xLandW hp h2
  · rw [e, em]; exact k
theorem xJourF {L t p : Nat} (h : xTp L r rm) (hD : xTd t p r q rm qm) {a : Nat} (h1 : 146 ≤ a) (h2 : a ≠ 196) : (Gk_journey r q).2.1 a = r a := by
  obtain ⟨⟨hk, k⟩, _⟩ := xjourney h hD
  unfold Gk_journey
  generalize Gk_readJ r q = o at hk k ⊢
  obtain ⟨v, r3, q4⟩ := o
  have hk : xJk (xRj r) q r3 q4 := hk
  have e3 : r3 a = r a := by
    rw [hk.1 a ?_]
    · show xs (xs (xs r 142 3 0) 196 3 0) 196 7 0 a = r a
      unfold xs
      rw [zset_ne h2, zset_ne h2, zset_ne (by omega)]
    · cases e : [142, 143, 144, 145, 196].contains a with
      | false => rfl
      | true =>
        have := List.contains_iff_mem.mp e
        simp only [List.mem_cons, List.not_mem_nil, or_false] at this
        omega
  rw [xcvrq (r := r3)]
  simp only [zletQ, zifnQ]
  by_cases hv : v = 0
  · rw [if_pos hv]
    show zset r3 196 (upd (r3 196) 1 0) a = r a
    rw [zset_ne h2]; exact e3
  · rw [if_neg hv]
    show kcp1 (zset r3 196 (upd (r3 196) 1 0)) 138 142 a = r a
    rw [kcp1_o (by omega), zset_ne h2]; exact e3
theorem lR.jour {B : Int} {M : List Nat} {u um : Int32 × zRr × zRq} (e : u = Gk_journey r q) (em : um = Gm_journey rm qm) (hM : mJ B rm) (h : lR r q rm qm) (z : u.2.1 196 1 = 0) (zm : um.2.1 101 0 = 0) (f : zFr M rm um.2.1) (h3 : M.contains 29 = false) (h4 : M.contains 37 = false) : u.1 = um.1 ∧ lR u.2.1 u.2.2 um.2.1 um.2.2 := by
  obtain ⟨g1, ⟨t, p, g2⟩, g3, g4⟩ := h
  have k := xJourW (g1.p hM) g2
  have kf : ∀ a, 146 ≤ a → a ≠ 196 → u.2.1 a = r a := fun a a1 a2 => by rw [e]; exact xJourF (g1.p hM) g2.1 a1 a2
  refine ⟨by rw [e, em]; exact k.1, lT.z z zm, ⟨t, p, by rw [e, em]; exact k.2⟩, g3.fr (fun k hk => kf _ (by omega) (by omega)) (f 37 h4), g4.fr (fun k hk => kf _ (by omega) (by omega)) (f 29 h3)⟩
theorem xMarkF {a b : Int32} {c : Nat} (h1 : 171 ≤ c) (h2 : c ≠ 195) : (Gk_mark a b r q).2 c = r c := by
  by_cases h0 : a < 0
  · unfold Gk_mark; rw [zifQ, if_pos h0]
  by_cases h4 : a < 4
  · obtain ⟨k, hk, ea⟩ : ∃ k, k < 4 ∧ a = nI k := by
      have hz : zI 0 3 a := by
        rw [Int32.lt_iff_toInt_lt] at h0 h4
        have c0 : (0 : Int32).toInt = 0 := by decide
        have c4 : (4 : Int32).toInt = 4 := by decide
        exact ⟨by omega, by omega⟩
      obtain ⟨e1, e2⟩ := hz.ix (n := 4) (by decide)
      exact ⟨_, e2, e1⟩
    subst ea
    rw [xmarkK hk]
    by_cases hb : b = 0
    · rw [if_pos hb]
      show xLay k r c = r c
      unfold xLay
      rw [zset_ne (by omega), zset_ne (by omega), kcp1_o (by omega), kcp8_o (by omega)]
    · rw [if_neg hb]
      by_cases hz : r (167 + k) 3 = 0
      · rw [if_pos hz]
      · rw [if_neg hz]
        show xBack k r q c = r c
        unfold xBack Gk_forgetPast
        simp only [zletQ]
        rw [zset_ne h2, zset_ne h2, zset_ne (by omega), kcp1_o (by omega), kcp8_o (by omega)]
  · unfold Gk_mark
    simp only [zifQ, if_neg h0, if_neg h4]
theorem lR.mark {a b : Int32} {u um : Int32 × zRr} (e : u = Gk_mark a b r q) (em : um = Gm_mark a b rm qm) (h : lR r q rm qm) (f : zFr [100, 37, 25, 26, 27, 28, 29, 30, 31, 32, 151, 35] rm um.2) : u.1 = um.1 ∧ lR u.2 q um.2 qm := by
  obtain ⟨g1, ⟨t, p, g2⟩, g3, g4⟩ := h
  obtain ⟨k1, k2, k3⟩ := xMark (a := a) (b := b) (q := q) (qm := qm) g3 g4
  have kf : ∀ c, 171 ≤ c → c ≠ 195 → u.2 c = r c := fun c c1 c2 => by rw [e]; exact xMarkF c1 c2
  have kw := xMarkW (a := a) (b := b) (q := q) (qm := qm) g3 g4 g2
  rw [← e, ← em] at k1 k2 k3 kw
  exact ⟨k1, (g1.k ⟨kf 196 (by omega) (by omega), kf 197 (by omega) (by omega)⟩).m (f 0 rfl) (f 101 rfl), ⟨t, p, kw ⟨k1, kf⟩ f⟩, k2, k3⟩
theorem lR.see {a b : Int32} {B : Int} {u um : Int32 × zRr} (e : u = Gk_see a b r q) (em : um = Gm_see a b rm qm) (hM : mJ B rm) (h : lR r q rm qm) : u.1 = um.1 ∧ lR u.2 q um.2 qm := by
  obtain ⟨g1, ⟨t, p, g2⟩, g3, g4⟩ := h
  obtain ⟨k1, k2, k3, k4⟩ := xSee (a := a) (b := b) g2.1 g4 (show zI 0 8 (rm 29 0) from hM.i 29 0)
  rw [← e] at k1 k2 k4
  rw [← em] at k1 k3 k4
  have kf : ∀ a, a ≠ 162 → a ≠ 182 → u.2 a = r a := fun a a1 a2 => k2 a (by
    cases e : [162, 182].contains a with
    | false => rfl
    | true =>
      have := List.contains_iff_mem.mp e
      simp only [List.mem_cons, List.not_mem_nil, or_false] at this
      omega)
  refine ⟨k1, (g1.k ⟨kf 196 (by omega) (by omega), kf 197 (by omega) (by omega)⟩).m (k3 0 (by decide)) (k3 101 (by decide)), ⟨t, p, ?_⟩, g3.fr (fun k hk => kf _ (by omega) (by omega)) (k3 37 (by decide)), k4⟩
  exact (xHow.see g2 kf k3)
end LR
theorem lR.q {r r1 : zRr} {q : zRq} {rm rm1 : zRr} {qm : zRq} {M : List Nat} (h : lR r q rm qm) (fk : zFt r r1) (fm : zFr M rm rm1) (k32 : M.contains 32 = false) (k152 : M.contains 152 = false) (hM : ([0, 1, 4, 5, 6, 7, 8, 9, 10, 11, 12, 25, 26, 27, 28, 29, 35, 36, 37, 101, 151].all fun k => !M.contains k) = true) : lR r1 q rm1 qm := h.w fk fm (fun i _ => by rw [fm 32 k32]) (by rw [fm 152 k152]; exact h.z) hM
end
section
/-! ===== the comparisons ===== -/
section LC
variable {r : zRr} {q : zRq} {rm : zRr} {qm : zRq} {a b : Int32}
theorem lR.cJudged {u um : Int32 × zRr} (e : u = Gk_judged a r q) (em : um = Gm_judged a rm qm) (_ : mJ 20 rm) (_ : kJ r) (h : lR r q rm qm) : u.1 = um.1 := by
  obtain ⟨_, ⟨t, p, h2⟩, _⟩ := h
  rw [e, em]; exact xJudgedW h2
end LC
end
