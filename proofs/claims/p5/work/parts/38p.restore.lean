/-! ===== what is asked leaves the reference's standing as it was ===== -/
def zRs (r r1 : zRr) : Prop := ∀ i, i < 31 → r1 32 i = r 32 i
theorem zcp0 {f g : Nat → Int32} {i : Nat} (h : i < 31) : zcp f g 0 0 31 i = f i := by
  show (if 0 ≤ i ∧ i < 0 + 31 then f (0 + (i - 0)) else g i) = f i
  rw [if_pos (by omega), show 0 + (i - 0) = i by omega]
theorem zbk {v : Int32} {r : zRr} {f g : Nat → Int32} {i : Nat} (h : i < 31) : ((v, zset r 32 (zcp f g 0 0 31)) : Int32 × zRr).2 32 i = f i := by
  show zset r 32 (zcp f g 0 0 31) 32 i = f i
  rw [zset_eq]; exact zcp0 h
theorem zbk3 {v : Int32} {r : zRr} {q : zRq} {f g : Nat → Int32} {i : Nat} (h : i < 31) : ((v, zset r 32 (zcp f g 0 0 31), q) : Int32 × zRr × zRq).2.1 32 i = f i := by
  show zset r 32 (zcp f g 0 0 31) 32 i = f i
  rw [zset_eq]; exact zcp0 h
theorem zRs.refl {r : zRr} : zRs r r := fun _ _ => rfl
theorem zRs.tr {r r1 r2 : zRr} (h : zRs r r1) (k : zRs r1 r2) : zRs r r2 := fun i hi => (k i hi).trans (h i hi)
theorem xPersI {a : Int32} {p : Nat} {r : zRr} {q : zRq} (h : ¬ Gm_isPerson a r q = 0) (h1 : r 1 1 = nI p) (hp : p ≤ 6) : ∃ j, j < p ∧ a = nI j := by
  unfold Gm_isPerson at h
  simp only [zifQ, zletQ, h1] at h
  by_cases c : a < 0
  · rw [if_pos c] at h; exact absurd rfl h
  · rw [if_neg c] at h
    by_cases d : nI p ≤ a
    · rw [if_pos d] at h; exact absurd rfl h
    · have hz : zI 0 (p - 1) a := by
        rw [Int32.lt_iff_toInt_lt] at c
        rw [Int32.le_iff_toInt_le, nI_toInt (by omega)] at d
        have c0 : (0 : Int32).toInt = 0 := by decide
        exact ⟨by omega, by omega⟩
      by_cases p0 : p = 0
      · subst p0
        exact absurd hz.2 (by have := hz.1; omega)
      · obtain ⟨e1, e2⟩ := hz.ix (n := p) (by omega)
        exact ⟨_, e2, e1⟩
theorem xTownI {a : Int32} {t : Nat} {r : zRr} {q : zRq} (h : ¬ Gm_isTown a r q = 0) (h1 : r 1 0 = nI t) (hp : t ≤ 6) : ∃ j, j < t ∧ a = nI j := by
  unfold Gm_isTown at h
  simp only [zifQ, zletQ, h1] at h
  by_cases c : a < 0
  · rw [if_pos c] at h; exact absurd rfl h
  · rw [if_neg c] at h
    by_cases d : nI t ≤ a
    · rw [if_pos d] at h; exact absurd rfl h
    · have hz : zI 0 (t - 1) a := by
        rw [Int32.lt_iff_toInt_lt] at c
        rw [Int32.le_iff_toInt_le, nI_toInt (by omega)] at d
        have c0 : (0 : Int32).toInt = 0 := by decide
        exact ⟨by omega, by omega⟩
      by_cases p0 : t = 0
      · subst p0
        exact absurd hz.2 (by have := hz.1; omega)
      · obtain ⟨e1, e2⟩ := hz.ix (n := t) (by omega)
        exact ⟨_, e2, e1⟩
section XRS
variable {a1 a2 a3 : Int32} {q : zRq}
theorem rs_whenAt_32 : ∀ (n : Nat) (v : Int32) (k : Nat) (r : zRr), k ≤ 100 → 100 < n + k → ∀ i, i < 31 → (Gm_whenAt_32 a1 a2 q n v (nI k) r).2 32 i = r 34 i := by
  intro n
  induction n with
  | zero => intro v k r h1 h2; omega
  | succ n ih =>
    intro v k r h1 h2 i hi
    have e0 : Gm_whenAt_32 a1 a2 q (n + 1) v (nI k) r = Bm_whenAt_32 a1 a2 q (Gm_whenAt_32 a1 a2 q n) v (nI k) r := rfl
    have e64 : (Gm_whenAt_64 (nI k) r).2 32 i = r 34 i := by
      unfold Gm_whenAt_64
      simp only [zletQ, zifQ]
      split
      · exact zbk hi
      · exact zbk hi
    rw [e0]
    unfold Bm_whenAt_32
    simp only [zletQ, zifQ, zifnQ, nI_1]
    by_cases c : (100 : Int32) ≤ nI k
    · rw [if_pos c]; exact e64
    · rw [if_neg c]
      have hk : k < 100 := by
        rcases Nat.lt_or_ge k 100 with h | h
        · exact h
        · exact absurd (nI_leP (a := 100) h (by omega) (by omega)) c
      by_cases d : (v >>> (a2 &&& 31)) &&& 1 = 0
      · rw [if_pos d, zc_vrQ, ih _ (k + 1) _ (by omega) (by omega) i hi, fm_reachFrom 34 rfl, fm_passes 34 rfl]
      · rw [if_neg d]; exact e64
theorem rs_whenAt {r : zRr} : zRs r (Gm_whenAt a1 a2 r q).2 := by
  intro i hi
  unfold Gm_whenAt
  simp only [zletQ]
  rw [zc_vrQ]
  have k := rs_whenAt_32 (a1 := a1) (a2 := a2) (q := q) 101 (Gm_reachFrom a1 (1 <<< ((zset r 34 (zcp (r 32) (r 34) 0 0 31)) 32 (zn (1 + a1)) &&& 31)) (zset r 34 (zcp (r 32) (r 34) 0 0 31)) q).1 0 (Gm_reachFrom a1 (1 <<< ((zset r 34 (zcp (r 32) (r 34) 0 0 31)) 32 (zn (1 + a1)) &&& 31)) (zset r 34 (zcp (r 32) (r 34) 0 0 31)) q).2 (by omega) (by omega) i hi
  rw [nI_0] at k
  rw [k, fm_reachFrom 34 rfl, zset_eq]
  exact zcp0 hi
theorem rs_needOf_46 : ∀ (n : Nat) (mo f : Int32) (k : Nat) (r : zRr), mo.toInt ≤ 20 → k ≤ 21 → 21 < n + k → ∀ i, i < 31 → (Gm_needOf_46 a1 a2 q n mo f (nI k) r).2 32 i = r 34 i := by
  intro n
  induction n with
  | zero => intro mo f k r h0 h1 h2; omega
  | succ n ih =>
    intro mo f k r h0 h1 h2 i hi
    have e0 : Gm_needOf_46 a1 a2 q (n + 1) mo f (nI k) r = Bm_needOf_46 a1 a2 q (Gm_needOf_46 a1 a2 q n) mo f (nI k) r := rfl
    have e64 : (Gm_needOf_103 f r).2 32 i = r 34 i := by
      unfold Gm_needOf_103
      simp only [zletQ]
      rw [zset_eq]; exact zcp0 hi
    rw [e0]
    unfold Bm_needOf_46 Gm_needOf_84
    simp only [zletQ, zifQ, zifnQ, nI_1]
    by_cases c : mo < nI k
    · rw [if_pos c]; exact e64
    · rw [if_neg c]
      have hk : k < 21 := by
        rw [Int32.lt_iff_toInt_lt, nI_toInt (by omega)] at c
        omega
      by_cases d : (0 : Int32) ≤ f
      · rw [if_pos d]; exact e64
      · rw [if_neg d, zc_vrQ]
        split
        · rw [ih _ _ (k + 1) _ h0 (by omega) (by omega) i hi, zset_ne (by decide), fm_reachFrom 34 rfl]
        · rw [ih _ _ (k + 1) _ h0 (by omega) (by omega) i hi, zset_ne (by decide), fm_reachFrom 34 rfl]
theorem rs_needOf {j : Nat} {r : zRr} (hj : j < 6) (hf : ∀ j, j < 6 → zI 0 20 (r 32 (13 + j))) : zRs r (Gm_needOf (nI j) a2 r q).2 := by
  intro i hi
  have n13 : (13 : Int32) + nI j = nI (13 + j) := nI_add 13 j
  have z := hf j hj
  have c20 : (20 : Int32).toInt = 20 := by decide
  have hb : (20 - r 32 (13 + j)).toInt ≤ 20 := by
    rw [Jvm.Kit.i32_sub (by rw [c20]; have := z.1; have := z.2; omega) (by rw [c20]; have := z.1; have := z.2; omega), c20]
    have := z.1
    omega
  unfold Gm_needOf Gm_needOf_39
  simp only [zletQ, zifnQ, n13, xzn (show 13 + j < 2 ^ 31 by omega)]
  have e13 : zset r 34 (zcp (r 32) (r 34) 0 0 31) 32 (13 + j) = r 32 (13 + j) := by rw [zset_ne (by decide)]
  rw [e13]
  split
  · have k := rs_needOf_46 (a1 := nI j) (a2 := a2) (q := q) 22 0 (-1) 0 (zset r 34 (zcp (r 32) (r 34) 0 0 31)) (by decide) (by omega) (by omega) i hi
    rw [nI_0] at k
    rw [k, zset_eq]; exact zcp0 hi
  · have k := rs_needOf_46 (a1 := nI j) (a2 := a2) (q := q) 22 (20 - r 32 (13 + j)) (-1) 0 (zset r 34 (zcp (r 32) (r 34) 0 0 31)) hb (by omega) (by omega) i hi
    rw [nI_0] at k
    rw [k, zset_eq]; exact zcp0 hi
theorem rs_round_79 : ∀ (n k : Nat) (r : zRr), k ≤ 100 → 100 < n + k → ∀ i, i < 31 → (Gm_round_79 a1 q n (nI k) r).2 32 i = r 34 i := by
  intro n
  induction n with
  | zero => intro k r h1 h2; omega
  | succ n ih =>
    intro k r h1 h2 i hi
    have e0 : Gm_round_79 a1 q (n + 1) (nI k) r = Bm_round_79 a1 q (Gm_round_79 a1 q n) (nI k) r := rfl
    have e64 : ∀ r, (Gm_round_103 (nI k) r).2 32 i = r 34 i := by
      intro r
      unfold Gm_round_103
      simp only [zletQ, zifQ]
      split
      · exact zbk hi
      · exact zbk hi
    rw [e0]
    unfold Bm_round_79
    simp only [zletQ, zifQ, zifnQ, nI_1]
    by_cases c : (100 : Int32) ≤ nI k
    · rw [if_pos c]; exact e64 r
    · rw [if_neg c, zc_vrQ]
      have hk : k < 100 := by
        rcases Nat.lt_or_ge k 100 with h | h
        · exact h
        · exact absurd (nI_leP (a := 100) h (by omega) (by omega)) c
      split
      · rw [ih (k + 1) _ (by omega) (by omega) i hi, fm_passes 34 rfl, fm_roams 34 rfl]
      · rw [e64, fm_roams 34 rfl]
theorem rs_round_30 : ∀ (n k : Nat) (r : zRr), k ≤ 384 → 384 < n + k → ∀ i, i < 31 → (Gm_round_30 a1 q n (nI k) r).2 32 i = r 34 i := by
  intro n
  induction n with
  | zero => intro k r h1 h2; omega
  | succ n ih =>
    intro k r h1 h2 i hi
    have e0 : Gm_round_30 a1 q (n + 1) (nI k) r = Bm_round_30 a1 q (Gm_round_30 a1 q n) (nI k) r := rfl
    rw [e0]
    unfold Bm_round_30
    simp only [zletQ, zifQ, nI_1]
    by_cases c : (384 : Int32) ≤ nI k
    · rw [if_pos c]
      have k9 := rs_round_79 (a1 := a1) (q := q) 101 0 (zset r 38 (upd (r 38) (zn (64 * r 32 (zn (1 + a1)) + r 32 (zn (25 + a1)))) 1)) (by omega) (by omega) i hi
      rw [nI_0] at k9
      rw [k9, zset_ne (by decide)]
    · rw [if_neg c]
      have hk : k < 384 := by
        rcases Nat.lt_or_ge k 384 with h | h
        · exact h
        · exact absurd (nI_leP (a := 384) h (by omega) (by omega)) c
      rw [ih (k + 1) _ (by omega) (by omega) i hi, zset_ne (by decide)]
theorem rs_judged_49 : ∀ (n : Nat) (v2 v3 v4 : Int32) (k m : Nat) (r : zRr), r 25 0 = nI m → m ≤ 40 → k ≤ m → m < n + k → ∀ i, i < 31 → (Gm_judged_49 a1 q n v2 v3 v4 (nI k) r).2 32 i = r 33 i := by
  intro n
  induction n with
  | zero => intro v2 v3 v4 k m r h0 h1 h2 h3; omega
  | succ n ih =>
    intro v2 v3 v4 k m r h0 h1 h2 h3 i hi
    have e0 : Gm_judged_49 a1 q (n + 1) v2 v3 v4 (nI k) r = Bm_judged_49 a1 q (Gm_judged_49 a1 q n) v2 v3 v4 (nI k) r := rfl
    rw [e0]
    unfold Bm_judged_49 Gm_judged_80 Gm_judged_123
    simp only [zletQ, zifQ, zifnQ, nI_1, h0]
    by_cases c : nI m ≤ nI k
    · rw [if_pos c]
      repeat' split
      all_goals first | exact zbk hi | exact zbk3 hi
    · rw [if_neg c, zc_vrQ]
      have hk : k < m := by
        rcases Nat.lt_or_ge k m with h | h
        · exact h
        · exact absurd (nI_leP h (by omega) (by omega)) c
      have f := fm_follows (a1 := nI k) (r := r) (q := q)
      generalize Gm_follows (nI k) r q = o at f ⊢
      have g : ∀ v2 v3 v4, (Gm_judged_49 a1 q n v2 v3 v4 (nI (k + 1)) o.2).2 32 i = r 33 i := fun v2 v3 v4 => by
        rw [ih v2 v3 v4 (k + 1) m o.2 (by rw [f 25 rfl]; exact h0) h1 (by omega) (by omega) i hi, f 33 rfl]
      repeat' split
      all_goals exact g _ _ _
theorem rs_years_69 : ∀ (n k m : Nat) (r : zRr) (q : zRq), m ≤ 99 → k ≤ m → m < n + k → ∀ i, i < 31 → (Gm_years_69 (nI m) a3 n (nI k) r q).2.1 32 i = r 33 i := by
  intro n
  induction n with
  | zero => intro k m r q h1 h2 h3; omega
  | succ n ih =>
    intro k m r q h1 h2 h3 i hi
    have e0 : Gm_years_69 (nI m) a3 (n + 1) (nI k) r q = Bm_years_69 (nI m) a3 (Gm_years_69 (nI m) a3 n) (nI k) r q := rfl
    rw [e0]
    unfold Bm_years_69
    simp only [zletQ, zifQ, zifnQ, nI_1]
    by_cases c : nI m ≤ nI k
    · rw [if_pos c]
      repeat' split
      all_goals first | exact zbk hi | exact zbk3 hi
    · rw [if_neg c, zc_rqQ]
      have hk : k < m := by
        rcases Nat.lt_or_ge k m with h | h
        · exact h
        · exact absurd (nI_leP h (by omega) (by omega)) c
      rw [ih (k + 1) m _ _ h1 (by omega) (by omega) i hi, fm_livesWeek 33 rfl]
end XRS
section XRM
variable {a1 a2 a3 : Int32} {p t m : Nat} {r : zRr} {q : zRq}
theorem z100 : zRs r (zset r 100 (fun _ => 0)) := fun i _ => by rw [zset_ne (by decide)]
theorem rs_when : zRs r (Gm_when a1 a2 r q).2 := by
  unfold Gm_when
  simp only [zletQ, zifQ, zc_vrQ]
  repeat' split
  all_goals first | exact z100 | exact z100.tr rs_whenAt
theorem rs_shaven : zRs r (Gm_shaven a1 r q).2 := by
  unfold Gm_shaven
  simp only [zletQ, zifnQ, zc_vrQ]
  split
  · exact z100
  · intro i hi
    refine (zbk hi).trans ?_
    rw [fm_reachFrom 34 rfl, fm_shaves 34 rfl, zset_eq, zcp0 hi, zset_ne (by decide)]
theorem rs_round : zRs r (Gm_round a1 r q).2 := by
  unfold Gm_round
  simp only [zletQ, zifnQ]
  split
  · exact z100
  · intro i hi
    have k := rs_round_30 (a1 := a1) (q := q) 385 0 (zset (zset r 100 (fun _ => 0)) 34 (zcp (zset r 100 (fun _ => 0) 32) (zset r 100 (fun _ => 0) 34) 0 0 31)) (by omega) (by omega) i hi
    rw [nI_0] at k
    rw [k, zset_eq, zcp0 hi, zset_ne (by decide)]
theorem rs_judged (h25 : r 25 0 = nI m) (hm : m ≤ 40) (h1 : r 1 1 = nI p) (hp : p ≤ 6) : zRs r (Gm_judged a1 r q).2 := by
  unfold Gm_judged
  simp only [zletQ, zifnQ]
  split
  · exact z100
  · intro i hi
    have f := xfresh (p := p) (r := zset (zset r 100 (fun _ => 0)) 33 (zcp (zset r 100 (fun _ => 0) 32) (zset r 100 (fun _ => 0) 33) 0 0 31)) (q := q) h1 hp
    have k := rs_judged_49 (a1 := a1) (q := q) 41 (Gm_allOf 19 (Gm_fresh0 (zset (zset r 100 (fun _ => 0)) 33 (zcp (zset r 100 (fun _ => 0) 32) (zset r 100 (fun _ => 0) 33) 0 0 31)) q) q) (-1) (-1) 0 m (Gm_fresh0 (zset (zset r 100 (fun _ => 0)) 33 (zcp (zset r 100 (fun _ => 0) 32) (zset r 100 (fun _ => 0) 33) 0 0 31)) q) (by rw [f 25 rfl]; exact h25) hm (by omega) (by omega) i hi
    rw [nI_0] at k
    rw [k, f 33 rfl, zset_eq, zcp0 hi, zset_ne (by decide)]
theorem rs_years : zRs r (Gm_years a1 a2 a3 r q).2.1 := by
  unfold Gm_years
  simp only [zletQ, zifQ, zifnQ]
  split
  · exact z100
  · split
    · exact z100
    · split
      · exact z100
      · rename_i _ h2 _
        have h2 : ¬ Gm_within a2 1 99 = 0 := h2
        obtain ⟨m, hm, e2⟩ : ∃ m, m ≤ 99 ∧ a2 = nI m := by
          unfold Gm_within at h2
          simp only [zifQ] at h2
          by_cases c : a2 < 1
          · rw [if_pos c] at h2; exact absurd rfl h2
          · rw [if_neg c] at h2
            by_cases d : 99 < a2
            · rw [if_pos d] at h2; exact absurd rfl h2
            · have hz : zI 0 99 a2 := by
                rw [Int32.lt_iff_toInt_lt] at c d
                have c1 : (1 : Int32).toInt = 1 := by decide
                have c9 : (99 : Int32).toInt = 99 := by decide
                exact ⟨by omega, by omega⟩
              obtain ⟨e1, e2⟩ := hz.ix (n := 100) (by decide)
              exact ⟨_, by omega, e1⟩
        subst e2
        intro i hi
        have k := rs_years_69 (a3 := a3) 100 0 m (zset (zset (zset (zset r 100 (fun _ => 0)) 155 (fun _ => 0)) 156 (fun _ => 0)) 33 (zcp (zset (zset (zset r 100 (fun _ => 0)) 155 (fun _ => 0)) 156 (fun _ => 0) 32) (zset (zset (zset r 100 (fun _ => 0)) 155 (fun _ => 0)) 156 (fun _ => 0) 33) 0 0 31)) (zset q 154 (fun _ => a1.toInt64)) hm (by omega) (by omega) i hi
        rw [nI_0] at k
        rw [k, zset_eq, zcp0 hi, zset_ne (by decide), zset_ne (by decide), zset_ne (by decide)]
theorem rs_need (h1 : r 1 1 = nI p) (hp : p ≤ 6) (hf : ∀ j, j < 6 → zI 0 20 (r 32 (13 + j))) : zRs r (Gm_need a1 a2 r q).2 := by
  unfold Gm_need
  simp only [zletQ, zifQ, zc_vrQ]
  split
  · exact z100
  · rename_i h
    split
    · exact z100
    · obtain ⟨j, hj, ea⟩ := xPersI (p := p) h h1 hp
      rw [ea]
      exact z100.tr (rs_needOf (by omega) (fun j hj => hf j hj))
theorem rs_debt (h1 : r 1 1 = nI p) (hp : p ≤ 6) (hf : ∀ j, j < 6 → zI 0 20 (r 32 (13 + j))) : zRs r (Gm_debt a1 a2 r q).2 := by
  unfold Gm_debt
  simp only [zletQ, zifQ, zc_vrQ]
  split
  · exact z100
  · rename_i h
    split
    · exact z100
    · obtain ⟨j, hj, ea⟩ := xPersI (p := p) h h1 hp
      rw [ea]
      have k := (z100 (r := r)).tr (rs_needOf (a2 := a2) (q := q) (j := j) (by omega) (fun j hj => hf j hj))
      split
      · exact k
      · exact k
theorem rs_cheapest_22 {j : Nat} (hj : j < 6) : ∀ (n : Nat) (v w x : Int32) (r : zRr), (∀ j, j < 6 → zI 0 20 (r 32 (13 + j))) → zRs r (Gm_cheapest_22 (nI j) q n v w x r).2 := by
  intro n
  induction n with
  | zero => intro v w x r _; exact zRs.refl
  | succ n ih =>
    intro v w x r hf
    have e0 : Gm_cheapest_22 (nI j) q (n + 1) v w x r = Bm_cheapest_22 (nI j) q (Gm_cheapest_22 (nI j) q n) v w x r := rfl
    rw [e0]
    unfold Bm_cheapest_22 Gm_cheapest_60 Gm_cheapest_66
    simp only [zletQ, zifQ]
    split
    · exact zRs.refl
    · rw [zc_vrQ]
      have k := rs_needOf (a2 := x) (q := q) hj hf
      generalize Gm_needOf (nI j) x r q = o at k ⊢
      have g : ∀ v w x, zRs r (Gm_cheapest_22 (nI j) q n v w x o.2).2 := fun v w x => k.tr (ih v w x o.2 (fun i hi => by rw [k (13 + i) (by omega)]; exact hf i hi))
      repeat' split
      all_goals exact g _ _ _
theorem rs_cheapest (h1 : r 1 1 = nI p) (hp : p ≤ 6) (hf : ∀ j, j < 6 → zI 0 20 (r 32 (13 + j))) : zRs r (Gm_cheapest a1 r q).2 := by
  unfold Gm_cheapest
  simp only [zletQ, zifnQ]
  split
  · exact z100
  · rename_i h
    obtain ⟨j, hj, ea⟩ := xPersI (p := p) h h1 hp
    rw [ea]
    exact z100.tr (rs_cheapest_22 (by omega) 7 _ _ _ _ (fun j hj => hf j hj))
theorem rs_meetsAt_4 : ∀ (n : Nat) (v w : Int32) (r : zRr), zRs r (Gm_meetsAt_4 a1 q n v w r).2 := by
  intro n
  induction n with
  | zero => intro v w r; exact zRs.refl
  | succ n ih =>
    intro v w r
    have e0 : Gm_meetsAt_4 a1 q (n + 1) v w r = Bm_meetsAt_4 a1 q (Gm_meetsAt_4 a1 q n) v w r := rfl
    rw [e0]
    unfold Bm_meetsAt_4
    simp only [zletQ, zifQ]
    split
    · exact zRs.refl
    · rw [zc_vrQ]
      have k := rs_whenAt (a1 := w) (a2 := a1) (q := q) (r := r)
      split
      · exact k.tr (ih _ _ _)
      · exact k
theorem rs_meeting_23 : ∀ (n : Nat) (v w x : Int32) (r : zRr), zRs r (Gm_meeting_23 a1 q n v w x r).2 := by
  intro n
  induction n with
  | zero => intro v w x r; exact zRs.refl
  | succ n ih =>
    intro v w x r
    have e0 : Gm_meeting_23 a1 q (n + 1) v w x r = Bm_meeting_23 a1 q (Gm_meeting_23 a1 q n) v w x r := rfl
    rw [e0]
    unfold Bm_meeting_23 Gm_meeting_60 Gm_meeting_66
    simp only [zletQ, zifQ, zifnQ]
    split
    · split
      · exact zRs.refl
      · exact zRs.refl
    · rw [zc_vrQ]
      have k : zRs r (Gm_meetsAt x r q).2 := by
        unfold Gm_meetsAt
        exact rs_meetsAt_4 7 0 0 r
      generalize Gm_meetsAt x r q = o at k ⊢
      have g : ∀ v w x, zRs r (Gm_meeting_23 a1 q n v w x o.2).2 := fun v w x => k.tr (ih v w x o.2)
      repeat' split
      all_goals exact g _ _ _
theorem rs_meeting : zRs r (Gm_meeting a1 r q).2 := by
  unfold Gm_meeting
  simp only [zletQ, zifnQ]
  split
  · exact z100
  · exact z100.tr (rs_meeting_23 7 _ _ _ _)
theorem rs_stricter_35 : ∀ (n : Nat) (v : Int32) (k : Nat) (r : zRr), r 1 1 = nI p → p ≤ 6 → k ≤ p → p < n + k → (Gm_stricter_35 a1 q n v (nI k) r).2 152 0 = 0 := by
  intro n
  induction n with
  | zero => intro v k r h1 h2 h3 h4; omega
  | succ n ih =>
    intro v k r h1 h2 h3 h4
    have e0 : Gm_stricter_35 a1 q (n + 1) v (nI k) r = Bm_stricter_35 a1 q (Gm_stricter_35 a1 q n) v (nI k) r := rfl
    rw [e0]
    unfold Bm_stricter_35
    simp only [zletQ, zifQ, nI_1, h1]
    by_cases c : nI p ≤ nI k
    · rw [if_pos c]
      show zset r 152 (fun _ => 0) 152 0 = 0
      rw [zset_eq]
    · rw [if_neg c, zc_vrQ]
      have hk : k < p := by
        rcases Nat.lt_or_ge k p with h | h
        · exact h
        · exact absurd (nI_leP h (by omega) (by omega)) c
      exact ih _ (k + 1) _ (by rw [fm_reachFrom 1 rfl]; exact h1) h2 (by omega) (by omega)
theorem rs_stricter (h0 : r 152 0 = 0) (h1 : r 1 1 = nI p) (hp : p ≤ 6) : (Gm_stricter a1 a2 r q).2 152 0 = 0 := by
  unfold Gm_stricter
  simp only [zletQ, zifQ, zifnQ]
  split
  · show zset r 100 (fun _ => 0) 152 0 = 0
    rw [zset_ne (by decide)]; exact h0
  · split
    · show zset r 100 (fun _ => 0) 152 0 = 0
      rw [zset_ne (by decide)]; exact h0
    · have k := rs_stricter_35 (a1 := a1) (q := q) (p := p) 7 0 0 (zset (zset r 100 (fun _ => 0)) 152 (fun _ => a2)) h1 hp (by omega) (by omega)
      rw [nI_0] at k
      exact k
end XRM
