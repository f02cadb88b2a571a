/-! ===== answers: person, town, speakers, count ===== -/
noncomputable def xSm (f : Nat → Int32) : Nat → Int32
  | 0 => 0
  | n + 1 => xSm f n + f n
theorem xSm_s {f : Nat → Int32} {n : Nat} : xSm f (n + 1) = xSm f n + f n := rfl
theorem xSm.congr {f g : Nat → Int32} : ∀ n, (∀ i, i < n → f i = g i) → xSm f n = xSm g n := by
  intro n
  induction n with
  | zero => intro _; rfl
  | succ n ih => intro h; rw [xSm_s, xSm_s, ih (fun i hi => h i (by omega)), h n (by omega)]
theorem xSm.zero {f : Nat → Int32} {p : Nat} : ∀ k, (∀ i, p ≤ i → i < p + k → f i = 0) → xSm f (p + k) = xSm f p := by
  intro k
  induction k with
  | zero => intro _; rfl
  | succ k ih =>
    intro h
    rw [show p + (k + 1) = p + k + 1 by omega, xSm_s, ih (fun i h1 h2 => h i h1 (by omega)), h (p + k) (by omega) (by omega), Int32.add_zero]
theorem mSum {r : zRr} {o : Nat} (ho : o ≤ 30) : ∀ n i, i ≤ 6 → 6 < n + i → Gm_allOf_4 (nI o) r n (xSm (fun k => r 32 (o + k)) i) (nI (o + i)) = xSm (fun k => r 32 (o + k)) 6 := by
  intro n
  induction n with
  | zero => intro i h1 h2; omega
  | succ n ih =>
    intro i h1 h2
    have e0 : Gm_allOf_4 (nI o) r (n + 1) (xSm (fun k => r 32 (o + k)) i) (nI (o + i)) = Bm_allOf_4 (nI o) r (Gm_allOf_4 (nI o) r n) (xSm (fun k => r 32 (o + k)) i) (nI (o + i)) := rfl
    have e6 : nI o + 6 = nI (o + 6) := nI_add o 6
    rw [e0]
    unfold Bm_allOf_4
    simp only [zletQ, zifQ, e6, nI_1, xzn (show o + i < 2 ^ 31 by omega)]
    by_cases e : i = 6
    · subst e; rw [if_pos (nI_leP (by omega) (by omega) (by omega))]
    · rw [if_neg (nI_leN (by omega) (by omega) (by omega)), ← xSm_s (f := fun k => r 32 (o + k)), show o + i + 1 = o + (i + 1) by omega]
      exact ih (i + 1) (by omega) (by omega)
theorem kSum_sumb {p : Nat} {r : zRr} {f : Nat → Int32} (h10 : r 171 10 = nI p) (hp : p ≤ 6) (hf : ∀ i, i < p → r 9 i = f i) : ∀ n i, i ≤ p → p < n + i → Gk_sumb_4 r n (xSm f i) (nI i) = xSm f p := by
  intro n
  induction n with
  | zero => intro i h1 h2; omega
  | succ n ih =>
    intro i h1 h2
    have e0 : Gk_sumb_4 r (n + 1) (xSm f i) (nI i) = Bk_sumb_4 r (Gk_sumb_4 r n) (xSm f i) (nI i) := rfl
    rw [e0]
    unfold Bk_sumb_4
    simp only [zletQ, zifQ, h10, nI_1, xzn (show i < 2 ^ 31 by omega)]
    by_cases e : i = p
    · subst e; rw [if_pos (nI_leP (by omega) (by omega) (by omega))]
    · have c6 : ¬ (6 : Int32) ≤ nI i := nI_leN (a := 6) (by omega) (by omega) (by omega)
      rw [if_neg (nI_leN (by omega) (by omega) (by omega)), if_neg c6, hf i (by omega), ← xSm_s]
      exact ih (i + 1) (by omega) (by omega)
theorem kSum_sumc {p : Nat} {r : zRr} {f : Nat → Int32} (h10 : r 171 10 = nI p) (hp : p ≤ 6) (hf : ∀ i, i < p → r 10 i = f i) : ∀ n i, i ≤ p → p < n + i → Gk_sumc_4 r n (xSm f i) (nI i) = xSm f p := by
  intro n
  induction n with
  | zero => intro i h1 h2; omega
  | succ n ih =>
    intro i h1 h2
    have e0 : Gk_sumc_4 r (n + 1) (xSm f i) (nI i) = Bk_sumc_4 r (Gk_sumc_4 r n) (xSm f i) (nI i) := rfl
    rw [e0]
    unfold Bk_sumc_4
    simp only [zletQ, zifQ, h10, nI_1, xzn (show i < 2 ^ 31 by omega)]
    by_cases e : i = p
    · subst e; rw [if_pos (nI_leP (by omega) (by omega) (by omega))]
    · have c6 : ¬ (6 : Int32) ≤ nI i := nI_leN (a := 6) (by omega) (by omega) (by omega)
      rw [if_neg (nI_leN (by omega) (by omega) (by omega)), if_neg c6, hf i (by omega), ← xSm_s]
      exact ih (i + 1) (by omega) (by omega)
theorem xPpl {t p : Nat} {r rm : zRr} {S : Nat → Nat → Int32} (h1 : rm 1 1 = nI p) (hp : p ≤ 6) (s1 : xCs t p 6 S r) (s2 : xMs t p S (rm 32)) : ∀ n i v, i ≤ p → p < n + i → Gk_peopledN_4 (nI p) r n v (nI i) = Gm_peopled_4 rm n v (nI i) := by
  intro n
  induction n with
  | zero => intro i v h1 h2; omega
  | succ n ih =>
    intro i v h2 h3
    have e0 : Gk_peopledN_4 (nI p) r (n + 1) v (nI i) = Bk_peopledN_4 (nI p) r (Gk_peopledN_4 (nI p) r n) v (nI i) := rfl
    have e1 : Gm_peopled_4 rm (n + 1) v (nI i) = Bm_peopled_4 rm (Gm_peopled_4 rm n) v (nI i) := rfl
    have n1 : (1 : Int32) + nI i = nI (1 + i) := nI_add 1 i
    rw [e0, e1]
    unfold Bk_peopledN_4 Bm_peopled_4
    simp only [zletQ, zifQ, h1, nI_1, n1, xzn (show i < 2 ^ 31 by omega), xzn (show 1 + i < 2 ^ 31 by omega)]
    by_cases e : i = p
    · subst e; rw [if_pos (nI_leP (by omega) (by omega) (by omega)), if_pos (nI_leP (by omega) (by omega) (by omega))]
    · have k1 : r 7 i = S 1 i := (s1.2 i (by omega)).2.1
      have k2 : rm 32 (1 + i) = S 1 i := (s2.2 i (by omega)).2.1
      rw [if_neg (nI_leN (by omega) (by omega) (by omega)), if_neg (nI_leN (by omega) (by omega) (by omega)), k1, k2]
      exact ih (i + 1) _ (by omega) (by omega)
theorem xRng {v : Int32} {m : Int32} {k : Nat} (hk : m = nI k) (hk2 : k ≤ 100) : (Gm_within v 0 m = 0 ∧ (v.toInt < 0 ∨ (k : Int) < v.toInt)) ∨ (Gm_within v 0 m = 1 ∧ ∃ j, j ≤ k ∧ v = nI j) := by
  have c0 : (0 : Int32).toInt = 0 := by decide
  have cm : m.toInt = k := by rw [hk]; exact nI_toInt (by omega)
  unfold Gm_within
  simp only [zifQ]
  by_cases h0 : v < 0
  · rw [if_pos h0]
    rw [Int32.lt_iff_toInt_lt, c0] at h0
    exact Or.inl ⟨rfl, Or.inl h0⟩
  · rw [if_neg h0]
    by_cases h1 : m < v
    · rw [if_pos h1]
      rw [Int32.lt_iff_toInt_lt, cm] at h1
      exact Or.inl ⟨rfl, Or.inr h1⟩
    · rw [if_neg h1]
      rw [Int32.lt_iff_toInt_lt, c0] at h0
      rw [Int32.lt_iff_toInt_lt, cm] at h1
      have hz : zI 0 k v := ⟨by omega, by omega⟩
      obtain ⟨e1, e2⟩ := hz.ix (n := k + 1) (by omega)
      exact Or.inr ⟨rfl, _, by omega, e1⟩
section XAS
variable {t p : Nat} {r rm : zRr} {q qm : zRq}
theorem xPersonW {a b : Int32} (h : xHow t p r q rm qm) : Gk_person a b r q = (Gm_person a b rm qm).1 := by
  have hp := h.le.2
  unfold Gk_person Gm_person
  simp only [zletQ, zifQ, zifnQ]
  rw [h.isP a]
  by_cases c1 : Gm_isPerson a (zset rm 100 (fun _ => 0)) qm = 0
  · rw [if_pos c1, if_pos c1]
  rw [if_neg c1, if_neg c1]
  obtain ⟨j, hj, ea⟩ := h.pI c1
  subst ea
  obtain ⟨hE, hE'⟩ := h.E
  obtain ⟨S, s1, s2, _⟩ := h.2.1
  have n1 : (1 : Int32) + nI j = nI (1 + j) := nI_add 1 j
  have n7 : (7 : Int32) + nI j = nI (7 + j) := nI_add 7 j
  have n13 : (13 : Int32) + nI j = nI (13 + j) := nI_add 13 j
  have n19 : (19 : Int32) + nI j = nI (19 + j) := nI_add 19 j
  have n25 : (25 : Int32) + nI j = nI (25 + j) := nI_add 25 j
  have z32 : ∀ i, zset rm 100 (fun _ => 0) 32 i = rm 32 i := fun i => by rw [zset_ne (by decide)]
  have z6 : ∀ i, zset rm 100 (fun _ => 0) 6 i = rm 6 i := fun i => by rw [zset_ne (by decide)]
  have g2 : r 175 j = sE r 2 j := hE.2.2.2.1 j hj
  have g7 : r 7 j = S 1 j := (s1.2 j hj).2.1
  have g8 : r 8 j = S 2 j := (s1.2 j hj).2.2.1
  have g9 : r 9 j = S 3 j := (s1.2 j hj).2.2.2.1
  have g10 : r 10 j = S 4 j := (s1.2 j hj).2.2.2.2.1
  have g11 : r 11 j = S 5 j := (s1.2 j hj).2.2.2.2.2
  have k2 : rm 6 j = sE r 2 j := hE'.2.2.2.1 j hj
  obtain ⟨_, k7, k8, k9, k10, k11⟩ := s2.2 j hj
  simp only [n1, n7, n13, n19, n25, xzn (show j < 2 ^ 31 by omega), xzn (show 1 + j < 2 ^ 31 by omega), xzn (show 7 + j < 2 ^ 31 by omega), xzn (show 13 + j < 2 ^ 31 by omega), xzn (show 19 + j < 2 ^ 31 by omega), xzn (show 25 + j < 2 ^ 31 by omega), z32, z6, g2, g7, g8, g9, g10, g11, k2, k7, k8, k9, k10, k11]
  rcases xRng (v := b) (m := 5) (k := 5) rfl (by omega) with ⟨w, hb⟩ | ⟨w, kb, hkb, eb⟩
  · have hb : b.toInt < 0 ∨ 5 < b.toInt := hb
    rw [if_pos hb, if_pos w]
  · rw [if_neg (show ¬ Gm_within b 0 5 = 0 by rw [w]; decide)]
    subst eb
    rcases (show kb = 0 ∨ kb = 1 ∨ kb = 2 ∨ kb = 3 ∨ kb = 4 ∨ kb = 5 by omega) with rfl | rfl | rfl | rfl | rfl | rfl
    · rw [if_neg (by decide), if_pos (by decide), if_neg (by decide), if_pos (by decide)]
    · rw [if_neg (by decide), if_neg (by decide), if_pos (by decide), if_neg (by decide), if_neg (by decide)]
    · rw [if_neg (by decide), if_neg (by decide), if_neg (by decide), if_pos (by decide), if_pos (by decide), if_neg (by decide), if_pos (by decide)]
    · rw [if_neg (by decide), if_neg (by decide), if_neg (by decide), if_neg (by decide), if_pos (by decide), if_pos (by decide), if_neg (by decide), if_neg (by decide)]
    · rw [if_neg (by decide), if_neg (by decide), if_neg (by decide), if_neg (by decide), if_neg (by decide), if_pos (by decide), if_pos (by decide), if_pos (by decide), if_pos (by decide)]
    · rw [if_neg (by decide), if_neg (by decide), if_neg (by decide), if_neg (by decide), if_neg (by decide), if_neg (by decide), if_pos (by decide), if_pos (by decide), if_pos (by decide), if_neg (by decide)]
/-- town -/
theorem xTownW {a b : Int32} (h : xHow t p r q rm qm) : (Gk_town a b r q).1 = (Gm_town a b rm qm).1 := by
  have ht := h.le.1
  have h1 := h.z100
  unfold Gk_town Gm_town
  simp only [zletQ, zifQ, zifnQ]
  rw [h.isT a]
  by_cases c1 : Gm_isTown a (zset rm 100 (fun _ => 0)) qm = 0
  · rw [if_pos c1, if_pos c1]
  rw [if_neg c1, if_neg c1]
  obtain ⟨i, hi, ea⟩ := h.tI c1
  subst ea
  obtain ⟨hE, hE'⟩ := h1.E
  obtain ⟨S, s1, s2, _⟩ := h1.2.1
  have g := hE.2.2.1 i hi
  have k := hE'.2.2.1 i hi
  rw [xzn (show i < 2 ^ 31 by omega)]
  rcases xRng (v := b) (m := 2) (k := 2) rfl (by omega) with ⟨w, hb⟩ | ⟨w, kb, hkb, eb⟩
  · have hb : b.toInt < 0 ∨ 2 < b.toInt := hb
    rw [if_pos hb, if_pos w]
  · rw [if_neg (show ¬ Gm_within b 0 2 = 0 by rw [w]; decide)]
    subst eb
    rcases (show kb = 0 ∨ kb = 1 ∨ kb = 2 by omega) with rfl | rfl | rfl
    · rw [if_neg (by decide), if_pos (by decide), if_pos (by decide)]
      exact g.1.trans k.1.symm
    · rw [if_neg (by decide), if_neg (by decide), if_pos (by decide), if_neg (by decide), if_pos (by decide)]
      exact g.2.trans k.2.symm
    · rw [if_neg (by decide), if_neg (by decide), if_neg (by decide), if_pos (by decide), if_neg (by decide), if_neg (by decide)]
      obtain ⟨r3, _, e3⟩ := kThr (q := q) hE s1 hi
      obtain ⟨m3, _, k3⟩ := mThr (q := qm) hE' s2 hi
      rw [e3, k3, xcvr (r := r3), xcvr (r := m3)]
/-- speakers -/
theorem xSpeakW {a b : Int32} (h : xHow t p r q rm qm) : (Gk_speakers a b r q).1 = (Gm_speakers a b rm qm).1 := by
  have hp := h.le.2
  have h1 := h.z100
  unfold Gk_speakers Gm_speakers
  simp only [zletQ, zifQ, zifnQ]
  rw [h.isP a, h.isT b]
  by_cases c1 : Gm_isPerson a (zset rm 100 (fun _ => 0)) qm = 0
  · rw [if_pos c1, if_pos c1]
  rw [if_neg c1, if_neg c1]
  by_cases c2 : Gm_isTown b (zset rm 100 (fun _ => 0)) qm = 0
  · rw [if_pos c2, if_pos c2]
  rw [if_neg c2, if_neg c2]
  obtain ⟨j, hj, ea⟩ := h.pI c1
  obtain ⟨i, hi, eb⟩ := h.tI c2
  subst ea
  subst eb
  obtain ⟨hE, hE'⟩ := h1.E
  obtain ⟨S, s1, s2, _⟩ := h1.2.1
  have n1 : (1 : Int32) + nI j = nI (1 + j) := nI_add 1 j
  have g2 : r 175 j = sE r 2 j := hE.2.2.2.1 j hj
  have k2 : zset rm 100 (fun _ => 0) 6 j = sE r 2 j := hE'.2.2.2.1 j hj
  have g7 : r 7 j = S 1 j := (s1.2 j hj).2.1
  have k7 : zset rm 100 (fun _ => 0) 32 (1 + j) = S 1 j := (s2.2 j hj).2.1
  rw [n1, xzn (show j < 2 ^ 31 by omega), xzn (show 1 + j < 2 ^ 31 by omega), g2, k2, g7, k7]
  by_cases c3 : sE r 2 j = 1
  · rw [if_pos c3, if_pos c3]
    obtain ⟨r3, _, e3⟩ := kVoN (q := q) hE s1 (at_ := S 1 j) hi
    obtain ⟨m3, _, k3⟩ := mSp (q := qm) hE' s2 (at_ := S 1 j) hi
    rw [e3, k3, xcvr (r := r3), xcvr (r := m3)]
  · rw [if_neg c3, if_neg c3]
/-- count -/
theorem xCountW {a : Int32} (h : xHow t p r q rm qm) (hS : lS r rm) (hT : r 196 1 = rm 101 0) : Gk_count a r q = (Gm_count a rm qm).1 := by
  have hp := h.le.2
  obtain ⟨S, s1, s2, s3⟩ := h.2.1
  unfold Gk_count Gm_count
  simp only [zletQ, zifQ, zifnQ]
  rcases xRng (v := a) (m := 11) (k := 11) rfl (by omega) with ⟨w, hb⟩ | ⟨w, kb, hkb, eb⟩
  · have hb : a.toInt < 0 ∨ 11 < a.toInt := hb
    rw [if_pos hb, if_pos w]
  · rw [if_neg (show ¬ Gm_within a 0 11 = 0 by rw [w]; decide)]
    subst eb
    rcases (show kb = 0 ∨ kb = 1 ∨ kb = 2 ∨ kb = 3 ∨ kb = 4 ∨ kb = 5 ∨ kb = 6 ∨ kb = 7 ∨ kb = 8 ∨ kb = 9 ∨ kb = 10 ∨ kb = 11 by omega) with rfl | rfl | rfl | rfl | rfl | rfl | rfl | rfl | rfl | rfl | rfl | rfl
    · rw [if_neg (by decide), if_pos (by decide), if_neg (by decide)]
      exact h.1.1.1.trans h.1.1.2.1.symm
    · rw [if_neg (by decide), if_neg (by decide), if_pos (by decide), if_neg (by decide)]
      exact h.1.2.1.1.trans h.1.2.1.2.1.symm
    · rw [if_neg (by decide), if_neg (by decide), if_neg (by decide), if_pos (by decide), if_neg (by decide)]
      exact h.1.2.2.1.1
    · rw [if_neg (by decide), if_neg (by decide), if_neg (by decide), if_neg (by decide), if_pos (by decide), if_neg (by decide)]
      exact h.1.2.2.1.2
    · rw [if_neg (by decide), if_neg (by decide), if_neg (by decide), if_neg (by decide), if_neg (by decide), if_pos (by decide), if_pos (by decide), if_neg (by decide), if_pos (by decide)]
      exact s1.1.trans s2.1.symm
    · rw [if_neg (by decide), if_neg (by decide), if_neg (by decide), if_neg (by decide), if_neg (by decide), if_neg (by decide), if_pos (by decide), if_pos (by decide), if_neg (by decide), if_neg (by decide)]
      rw [h.1.2.1.1]
      unfold Gk_peopledN Gm_peopled
      exact xPpl (rm := zset rm 100 (fun _ => 0)) h.1.2.1.2.1 hp s1 s2 7 0 0 (by omega) (by omega)
    · rw [if_neg (by decide), if_neg (by decide), if_neg (by decide), if_neg (by decide), if_neg (by decide), if_neg (by decide), if_neg (by decide), if_pos (by decide), if_pos (by decide), if_pos (by decide), if_neg (by decide), if_pos (by decide)]
      unfold Gk_sumb Gm_allOf
      have a1 := kSum_sumb (f := S 3) h.1.2.1.1 hp (fun i hi => (s1.2 i hi).2.2.2.1) 7 0 (by omega) (by omega)
      have a2 := mSum (r := zset rm 100 (fun _ => 0)) (o := 13) (by omega) 18 0 (by omega) (by omega)
      have a3 : xSm (fun k => zset rm 100 (fun _ => 0) 32 (13 + k)) (p + (6 - p)) = xSm (fun k => zset rm 100 (fun _ => 0) 32 (13 + k)) p := xSm.zero (6 - p) (fun i i1 i2 => (s3 i i1 (by omega)).1)
      rw [show p + (6 - p) = 6 by omega, xSm.congr (f := fun k => zset rm 100 (fun _ => 0) 32 (13 + k)) (g := S 3) p (fun i hi => (s2.2 i hi).2.2.2.1)] at a3
      exact a1.trans (a3.symm.trans a2.symm)
    · rw [if_neg (by decide), if_neg (by decide), if_neg (by decide), if_neg (by decide), if_neg (by decide), if_neg (by decide), if_neg (by decide), if_neg (by decide), if_pos (by decide), if_pos (by decide), if_pos (by decide), if_neg (by decide), if_neg (by decide)]
      unfold Gk_sumc Gm_allOf
      have a1 := kSum_sumc (f := S 4) h.1.2.1.1 hp (fun i hi => (s1.2 i hi).2.2.2.2.1) 7 0 (by omega) (by omega)
      have a2 := mSum (r := zset rm 100 (fun _ => 0)) (o := 19) (by omega) 18 0 (by omega) (by omega)
      have a3 : xSm (fun k => zset rm 100 (fun _ => 0) 32 (19 + k)) (p + (6 - p)) = xSm (fun k => zset rm 100 (fun _ => 0) 32 (19 + k)) p := xSm.zero (6 - p) (fun i i1 i2 => (s3 i i1 (by omega)).2)
      rw [show p + (6 - p) = 6 by omega, xSm.congr (f := fun k => zset rm 100 (fun _ => 0) 32 (19 + k)) (g := S 4) p (fun i hi => (s2.2 i hi).2.2.2.2.1)] at a3
      exact a1.trans (a3.symm.trans a2.symm)
    · rw [if_neg (by decide), if_neg (by decide), if_neg (by decide), if_neg (by decide), if_neg (by decide), if_neg (by decide), if_neg (by decide), if_neg (by decide), if_neg (by decide), if_pos (by decide), if_pos (by decide), if_pos (by decide), if_pos (by decide), if_neg (by decide), if_pos (by decide)]
      obtain ⟨n, _, a1, a2, _⟩ := h.2.2.2.2.1
      exact a1.trans a2.symm
    · rw [if_neg (by decide), if_neg (by decide), if_neg (by decide), if_neg (by decide), if_neg (by decide), if_neg (by decide), if_neg (by decide), if_neg (by decide), if_neg (by decide), if_neg (by decide), if_pos (by decide), if_pos (by decide), if_pos (by decide), if_pos (by decide), if_neg (by decide), if_neg (by decide)]
      exact hS 0 (by omega)
    · rw [if_neg (by decide), if_neg (by decide), if_neg (by decide), if_neg (by decide), if_neg (by decide), if_neg (by decide), if_neg (by decide), if_neg (by decide), if_neg (by decide), if_neg (by decide), if_neg (by decide), if_pos (by decide), if_pos (by decide), if_pos (by decide), if_pos (by decide), if_pos (by decide), if_pos (by decide)]
      obtain ⟨nx, c, _, _, _, a1, a2, _⟩ := h.2.2.1
      exact a1.trans a2.symm
    · rw [if_neg (by decide), if_neg (by decide), if_neg (by decide), if_neg (by decide), if_neg (by decide), if_neg (by decide), if_neg (by decide), if_neg (by decide), if_neg (by decide), if_neg (by decide), if_neg (by decide), if_neg (by decide), if_pos (by decide), if_pos (by decide), if_pos (by decide), if_pos (by decide), if_pos (by decide), if_neg (by decide)]
      exact hT
end XAS
