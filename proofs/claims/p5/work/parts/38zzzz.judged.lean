/-! ===== judged: one line of the plan after another, on both sides ===== -/
def sQ (p : Nat) (S : Nat → Nat → Int32) : Prop := ∀ j, j < p → zI 0 20 (S 3 j)
section XJD
variable {Lf : xLT} {t p : Nat} {E S : Nat → Nat → Int32} {r rm : zRr} {q qm : zRq}
theorem kCf (hE : xCe Lf t p E r) (hS : xCs t p 12 S r) {j : Nat} {v : Int32} (hj : j < p) : Gk_canForgeT (nI j) v r q = if E 2 j = 1 then (0 : Int32) else if v < 1 then 0 else if 20 - S 3 j < v then 0 else if S 4 j < v * E 3 1 then 0 else 1 := by
  have hp := hE.2.1.2
  have g2 : r 175 j = E 2 j := hE.2.2.2.1 j hj
  have g9 : r 15 j = S 3 j := (hS.2 j hj).2.2.2.1
  have g10 : r 16 j = S 4 j := (hS.2 j hj).2.2.2.2.1
  have g12 : r 171 12 = E 3 1 := hE.1.2.2.2
  unfold Gk_canForgeT
  simp only [zifQ, xzn (show j < 2 ^ 31 by omega), g2, g9, g10, g12]
theorem mCf (hE : xMe Lf t p E 0 rm) (hS : xMs t p S (rm 32)) {j : Nat} {v : Int32} (hj : j < p) : Gm_canForge (nI j) v rm qm = if E 2 j = 1 then (0 : Int32) else if S 4 j < v * E 3 1 then 0 else if 20 < S 3 j + v then 0 else 1 := by
  have hp := hE.2.1.2
  have n13 : (13 : Int32) + nI j = nI (13 + j) := nI_add 13 j
  have n19 : (19 : Int32) + nI j = nI (19 + j) := nI_add 19 j
  have k2 : rm 6 j = E 2 j := hE.2.2.2.1 j hj
  have k9 : rm 32 (13 + j) = S 3 j := (hS.2 j hj).2.2.2.1
  have k10 : rm 32 (19 + j) = S 4 j := (hS.2 j hj).2.2.2.2.1
  have k12 : rm 1 3 = E 3 1 := hE.1.2.2.2
  unfold Gm_canForge
  simp only [zifQ, n13, n19, xzn (show j < 2 ^ 31 by omega), xzn (show 13 + j < 2 ^ 31 by omega), xzn (show 19 + j < 2 ^ 31 by omega), k2, k9, k10, k12]
/-- the same answer on both sides, and what it says -/
theorem xCf (hE : xCe Lf t p E r) (hM : xMe Lf t p E 0 rm) (hS : xCs t p 12 S r) (hSm : xMs t p S (rm 32)) (hq : sQ p S) {j m : Nat} (hj : j < p) (h1 : 1 ≤ m) (h2 : m ≤ 20) : Gk_canForgeT (nI j) (nI m) r q = Gm_canForge (nI j) (nI m) rm qm ∧ (¬ Gm_canForge (nI j) (nI m) rm qm = 0 → zI 0 20 (S 3 j + nI m)) := by
  have a1 : ¬ nI m < (1 : Int32) := fun h => by
    have := (nI_ltI (a := m) (b := 1) (by omega) (by omega)).mp h
    omega
  have a2 : ¬ (20 : Int32) < nI m := fun h => by
    have := (nI_ltI (a := 20) (b := m) (by omega) (by omega)).mp h
    omega
  have f := hq j hj
  refine ⟨?_, fun h => ?_⟩
  · rw [kCf hE hS hj, mCf hM hSm hj, xFgC f, if_neg a1, if_neg a2]
  · rw [mCf hM hSm hj] at h
    by_cases c1 : E 2 j = 1
    · rw [if_pos c1] at h; exact absurd rfl h
    rw [if_neg c1] at h
    by_cases c2 : S 4 j < nI m * E 3 1
    · rw [if_pos c2] at h; exact absurd rfl h
    rw [if_neg c2] at h
    by_cases c3 : 20 < S 3 j + nI m
    · rw [if_pos c3] at h; exact absurd rfl h
    have f1 := f.1
    have f2 := f.2
    have e : (nI m).toInt = m := nI_toInt (by omega)
    have ea : (S 3 j + nI m).toInt = (S 3 j).toInt + (nI m).toInt := Jvm.Kit.i32_add (by omega) (by omega)
    have c20 : (20 : Int32).toInt = 20 := by decide
    rw [Int32.lt_iff_toInt_lt, c20] at c3
    exact ⟨by omega, by omega⟩
theorem xJst (hE : xCe Lf t p E r) (hM : xMe Lf t p E 0 rm) (hS : xCs t p 12 S r) (hSm : xMs t p S (rm 32)) (hz : xZr p (rm 32)) (hq : sQ p S) {k : Nat} (hk : k < 40) (e1 : r 139 k = rm 26 k) (e2 : ¬ r 139 k = 3 → r 140 k = rm 27 k) (e3 : r 139 k = 0 ∨ r 139 k = 1 → r 141 k = rm 28 k) (e4 : xBd t p (r 139 k) (r 140 k) (r 141 k)) : ∃ v r1 rm1 S1, Gk_perform (nI k) r q = (v, r1) ∧ Gm_follows (nI k) rm qm = (v, rm1) ∧ xCs t p 12 S1 r1 ∧ xMs t p S1 (rm1 32) ∧ xZr p (rm1 32) ∧ sQ p S1 ∧ zFr [12, 13, 14, 15, 16, 17, 182] r r1 ∧ zFr [15, 16, 17, 18, 19, 20, 21, 22, 23, 24, 32] rm rm1 := by
  have hp := hE.2.1.2
  obtain ⟨b0, b1, b2, b3⟩ := e4
  unfold Gk_perform Gm_follows
  simp only [zletQ, zifQ, zifnQ, xzn (show k < 2 ^ 31 by omega)]
  rcases b0 with c | c | c | c
  · obtain ⟨j, hj, ej⟩ := b1 (by rw [c]; decide)
    obtain ⟨i, hi, ei⟩ := b2 c
    rw [← e1, ← e2 (by rw [c]; decide), ← e3 (Or.inl c), c, ej, ei, if_neg (show ¬ (0 : Int32) = 3 by decide), if_neg (show ¬ (0 : Int32) = 2 by decide), if_pos (show (0 : Int32) = 0 from rfl), if_pos (show (0 : Int32) = 0 from rfl)]
    obtain ⟨r3, f3, g3⟩ := kGoT (q := q) hE hS hj hi
    obtain ⟨rm3, fm3, gm3⟩ := mGo (q := qm) hM hSm hj hi
    rw [g3, gm3, xcvr (r := r3), xcvr (r := rm3)]
    have hS3 : xCs t p 12 S r3 := hS.eq (fun i hi => f3 _ (by rcases (show i = 0 ∨ i = 1 ∨ i = 2 ∨ i = 3 ∨ i = 4 ∨ i = 5 by omega) with rfl | rfl | rfl | rfl | rfl | rfl <;> rfl))
    have hSm3 : xMs t p S (rm3 32) := hSm.fr (fm3 32 rfl)
    have hz3 : xZr p (rm3 32) := by rw [fm3 32 rfl]; exact hz
    by_cases d : sGo Lf p E S 0 j i = 0
    · rw [if_pos d, if_pos d]
      exact ⟨_, _, _, S, rfl, rfl, hS3, hSm3, hz3, hq, f3.up (by decide), fm3.up (by decide)⟩
    · obtain ⟨v1, v2⟩ := kMvT (q := q) hS3 hj hp hi
      obtain ⟨w1, w2, w3⟩ := mMv (q := qm) hSm3 hz3 hj hp hi
      rw [if_neg d, if_neg d, fm3 28 rfl, ← e3 (Or.inl c), ei]
      exact ⟨_, _, _, _, rfl, rfl, v1, w1, w2, hq, (f3.up (by decide)).tr v2 (by decide), (fm3.up (by decide)).tr w3 (by decide)⟩
  · obtain ⟨j, hj, ej⟩ := b1 (by rw [c]; decide)
    obtain ⟨m, h1, h2, ei⟩ := b3 c
    rw [← e1, ← e2 (by rw [c]; decide), ← e3 (Or.inr c), c, ej, ei, if_neg (show ¬ (1 : Int32) = 3 by decide), if_neg (show ¬ (1 : Int32) = 2 by decide), if_neg (show ¬ (1 : Int32) = 0 by decide), if_neg (show ¬ (1 : Int32) = 0 by decide), if_pos (show (1 : Int32) = 1 from rfl)]
    obtain ⟨x1, x2⟩ := xCf (q := q) (qm := qm) hE hM hS hSm hq hj h1 h2
    rw [x1]
    by_cases d : Gm_canForge (nI j) (nI m) rm qm = 0
    · rw [if_pos d, if_pos d]
      exact ⟨_, _, _, S, rfl, rfl, hS, hSm, hz, hq, zFr.refl, zFr.refl⟩
    · rw [if_neg d, if_neg d]
      obtain ⟨v1, v2⟩ := kFgT (q := q) (v := nI m) hE hS hj
      obtain ⟨w1, w2, w3⟩ := mFg (q := qm) (v := nI m) hM hSm hz hj
      refine ⟨_, _, _, _, rfl, rfl, v1, w1, w2, fun i hi => ?_, v2.up (by decide), w3.up (by decide)⟩
      show zI 0 20 (upd (S 3) j (S 3 j + nI m) i)
      by_cases e : i = j
      · subst e; rw [pk_us]; exact x2 d
      · rw [pk_un e]; exact hq i hi
  · obtain ⟨j, hj, ej⟩ := b1 (by rw [c]; decide)
    rw [← e1, ← e2 (by rw [c]; decide), c, ej, if_neg (show ¬ (2 : Int32) = 3 by decide), if_pos (show (2 : Int32) = 2 from rfl), if_neg (show ¬ (2 : Int32) = 0 by decide), if_neg (show ¬ (2 : Int32) = 1 by decide), if_pos (show (2 : Int32) = 2 from rfl)]
    obtain ⟨v1, v2⟩ := kRzT (q := q) hS hj hp
    obtain ⟨w1, w2, w3⟩ := mRz (q := qm) hSm hz hj hp
    refine ⟨_, _, _, _, rfl, rfl, v1, w1, w2, fun i hi => ?_, v2.up (by decide), w3.up (by decide)⟩
    show zI 0 20 (upd (S 3) j 0 i)
    by_cases e : i = j
    · subst e; rw [pk_us]; exact ⟨by decide, by decide⟩
    · rw [pk_un e]; exact hq i hi
  · rw [← e1, c, if_pos (show (3 : Int32) = 3 from rfl), if_neg (show ¬ (3 : Int32) = 0 by decide), if_neg (show ¬ (3 : Int32) = 1 by decide), if_neg (show ¬ (3 : Int32) = 2 by decide)]
    obtain ⟨v1, v2⟩ := kWkT (q := q) hE hS
    obtain ⟨w1, w2, w3⟩ := mWk (q := qm) hM hSm hz
    exact ⟨_, _, _, _, rfl, rfl, v1, w1, w2, hq, v2.up (by decide), w3.up (by decide)⟩
end XJD
/-- what towns ask the most -/
theorem xMA {Lf : xLT} {t p : Nat} {E : Nat → Nat → Int32} {r rm : zRr} {q qm : zRq} (hE : xCe Lf t p E r) (hM : xMe Lf t p E 0 rm) : Gk_mostAsked r q = Gm_mostAsked rm qm := by
  have ht := hE.2.1.1
  have g9 : r 171 9 = nI t := hE.1.1
  have k0 : rm 1 0 = nI t := hM.1.1
  have key : ∀ (n i : Nat) (m : Int32), i ≤ t → t < n + i → Gk_mostAsked_4 r n m (nI i) = Gm_mostAsked_4 rm n m (nI i) := by
    intro n
    induction n with
    | zero => intro i m h1 h2; omega
    | succ n ih =>
      intro i m h1 h2
      have e0 : Gk_mostAsked_4 r (n + 1) m (nI i) = Bk_mostAsked_4 r (Gk_mostAsked_4 r n) m (nI i) := rfl
      have e1 : Gm_mostAsked_4 rm (n + 1) m (nI i) = Bm_mostAsked_4 rm (Gm_mostAsked_4 rm n) m (nI i) := rfl
      rw [e0, e1]
      unfold Bk_mostAsked_4 Bm_mostAsked_4
      simp only [zletQ, zifQ, g9, k0, nI_1, xzn (show i < 2 ^ 31 by omega)]
      by_cases e : i = t
      · subst e
        rw [if_pos (nI_leP (by omega) (by omega) (by omega)), if_pos (nI_leP (by omega) (by omega) (by omega))]
      · rw [if_neg (nI_leN (by omega) (by omega) (by omega)), if_neg (nI_leN (by omega) (by omega) (by omega)), (hE.2.2.1 i (by omega)).1, (hM.2.2.1 i (by omega)).1]
        exact ih (i + 1) _ (by omega) (by omega)
  unfold Gk_mostAsked Gm_mostAsked
  exact key 7 0 0 (by omega) (by omega)
/-- sums -/
noncomputable def sSm (f : Nat → Int32) : Nat → Int32
  | 0 => 0
  | n + 1 => sSm f n + f n
theorem sSm_s {f : Nat → Int32} {n : Nat} : sSm f (n + 1) = sSm f n + f n := rfl
theorem sSm_c {f g : Nat → Int32} : ∀ n, (∀ i, i < n → f i = g i) → sSm f n = sSm g n := by
  intro n
  induction n with
  | zero => intro _; rfl
  | succ n ih => intro h; rw [sSm_s, sSm_s, ih (fun i hi => h i (by omega)), h n (by omega)]
theorem sSm_z {f : Nat → Int32} {p : Nat} : ∀ d, (∀ i, p ≤ i → i < p + d → f i = 0) → sSm f (p + d) = sSm f p := by
  intro d
  induction d with
  | zero => intro _; rfl
  | succ d ih =>
    intro h
    rw [show p + (d + 1) = p + d + 1 by omega, sSm_s, ih (fun i h1 h2 => h i h1 (by omega)), h (p + d) (by omega) (by omega), Int32.add_zero]
theorem kSa {p : Nat} {f : Nat → Int32} {r : zRr} {q : zRq} (hp : p ≤ 6) (h10 : r 171 10 = nI p) (h : ∀ j, j < p → r 178 j = f j) : Gk_suma r q = sSm f p := by
  have key : ∀ (n i : Nat), i ≤ p → p < n + i → Gk_suma_4 r n (sSm f i) (nI i) = sSm f p := by
    intro n
    induction n with
    | zero => intro i h1 h2; omega
    | succ n ih =>
      intro i h1 h2
      have e0 : Gk_suma_4 r (n + 1) (sSm f i) (nI i) = Bk_suma_4 r (Gk_suma_4 r n) (sSm f i) (nI i) := rfl
      rw [e0]
      unfold Bk_suma_4
      simp only [zletQ, zifQ, h10, nI_1, xzn (show i < 2 ^ 31 by omega)]
      by_cases e : i = p
      · subst e
        rw [if_pos (nI_leP (by omega) (by omega) (by omega))]
      · rw [if_neg (nI_leN (by omega) (by omega) (by omega)), if_neg (show ¬ (6 : Int32) ≤ nI i from nI_leN (a := 6) (by omega) (by omega) (by omega)), h i (by omega), ← sSm_s]
        exact ih (i + 1) (by omega) (by omega)
  exact key 7 0 (by omega) (by omega)
theorem kSd {p : Nat} {f : Nat → Int32} {r : zRr} {q : zRq} (hp : p ≤ 6) (h10 : r 171 10 = nI p) (h : ∀ j, j < p → r 16 j = f j) : Gk_sumd r q = sSm f p := by
  have key : ∀ (n i : Nat), i ≤ p → p < n + i → Gk_sumd_4 r n (sSm f i) (nI i) = sSm f p := by
    intro n
    induction n with
    | zero => intro i h1 h2; omega
    | succ n ih =>
      intro i h1 h2
      have e0 : Gk_sumd_4 r (n + 1) (sSm f i) (nI i) = Bk_sumd_4 r (Gk_sumd_4 r n) (sSm f i) (nI i) := rfl
      rw [e0]
      unfold Bk_sumd_4
      simp only [zletQ, zifQ, h10, nI_1, xzn (show i < 2 ^ 31 by omega)]
      by_cases e : i = p
      · subst e
        rw [if_pos (nI_leP (by omega) (by omega) (by omega))]
      · rw [if_neg (nI_leN (by omega) (by omega) (by omega)), if_neg (show ¬ (6 : Int32) ≤ nI i from nI_leN (a := 6) (by omega) (by omega) (by omega)), h i (by omega), ← sSm_s]
        exact ih (i + 1) (by omega) (by omega)
  exact key 7 0 (by omega) (by omega)
theorem mSm {t p : Nat} {S : Nat → Nat → Int32} {rm : zRr} {qm : zRq} (hp : p ≤ 6) (hS : xMs t p S (rm 32)) (hz : xZr p (rm 32)) : Gm_allOf 19 rm qm = sSm (S 4) p := by
  have key : ∀ (n i : Nat), i ≤ 6 → 6 < n + i → Gm_allOf_4 19 rm n (sSm (fun j => rm 32 (19 + j)) i) (nI (19 + i)) = sSm (fun j => rm 32 (19 + j)) 6 := by
    intro n
    induction n with
    | zero => intro i h1 h2; omega
    | succ n ih =>
      intro i h1 h2
      have e0 : Gm_allOf_4 19 rm (n + 1) (sSm (fun j => rm 32 (19 + j)) i) (nI (19 + i)) = Bm_allOf_4 19 rm (Gm_allOf_4 19 rm n) (sSm (fun j => rm 32 (19 + j)) i) (nI (19 + i)) := rfl
      rw [e0]
      unfold Bm_allOf_4
      simp only [zletQ, zifQ, nI_1, xzn (show 19 + i < 2 ^ 31 by omega)]
      rw [show (19 : Int32) + 6 = nI 25 by decide]
      by_cases e : i = 6
      · subst e
        rw [if_pos (nI_leP (by omega) (by omega) (by omega))]
      · rw [if_neg (nI_leN (by omega) (by omega) (by omega))]
        exact ih (i + 1) (by omega) (by omega)
  have e : Gm_allOf 19 rm qm = sSm (fun j => rm 32 (19 + j)) 6 := key 18 0 (by omega) (by omega)
  have z := sSm_z (f := fun j => rm 32 (19 + j)) (p := p) (6 - p) (fun i h1 h2 => (hz i h1 (by omega)).2)
  rw [show p + (6 - p) = 6 by omega] at z
  rw [e, z]
  exact sSm_c p (fun j hj => (hS.2 j hj).2.2.2.2.1)
