/-! ===== answers: need, debt, cheapest ===== -/
theorem xnn20 {k : Nat} (h : k ≤ 20) : (0 : Int32) ≤ nI k := by
  have := nI_leP (a := 0) (b := k) (by omega) (by omega) (by omega)
  rw [nI_0] at this
  exact this
section XND
variable {Lf : xLT} {t p : Nat} {E S : Nat → Nat → Int32} {r0 rm0 : zRr} {q qm : zRq}
theorem mEnd46 {j i : Nat} {mo f : Int32} {n k : Nat} {r : zRr} (hf : (0 : Int32) ≤ f) : (Gm_needOf_46 (nI j) (nI i) qm (n + 1) mo f (nI k) r).1 = f := by
  have e0 : Gm_needOf_46 (nI j) (nI i) qm (n + 1) mo f (nI k) r = Bm_needOf_46 (nI j) (nI i) qm (Gm_needOf_46 (nI j) (nI i) qm n) mo f (nI k) r := rfl
  rw [e0]
  unfold Bm_needOf_46 Gm_needOf_103
  simp only [zletQ, zifQ, if_pos hf]
  split <;> rfl
theorem xNd (hE : xCe Lf t p E r0) (hS : xCs t p 6 S r0) (hE' : xMe Lf t p E 0 rm0) (hR : xRd t E) {j i : Nat} (hj : j < p) (hi : i < t) {mo : Int32} (hmo : mo.toInt ≤ 20) : ∀ (n k : Nat) (r rm : zRr), k ≤ 21 → 21 < n + k → zFr [12, 13, 14, 15, 16, 17, 182, 202] r0 r → zFr [15, 16, 17, 18, 19, 20, 21, 22, 23, 24, 32] rm0 rm → xMs t p (xs S 3 j (S 3 j + nI k)) (rm 32) → ∃ v r1, zFr [12, 13, 14, 15, 16, 17, 182, 202] r0 r1 ∧ Gk_fewest_33 (nI j) (nI i) q n mo (nI k) r = (v, r1) ∧ (Gm_needOf_46 (nI j) (nI i) qm n mo (-1) (nI k) rm).1 = v ∧ (v = -1 ∨ ∃ m, m ≤ 20 ∧ v = nI m) := by
  have ht := hE.2.1.1
  have hp := hE.2.1.2
  obtain ⟨a, ha, ea⟩ := (hS.2 j hj).1
  intro n
  induction n with
  | zero => intro k r rm h1 h2; omega
  | succ n ih =>
    intro k r rm h1 h2 g1 g2 hM
    have e0 : Gk_fewest_33 (nI j) (nI i) q (n + 1) mo (nI k) r = Bk_fewest_33 (nI j) (nI i) q (Gk_fewest_33 (nI j) (nI i) q n) mo (nI k) r := rfl
    have e1 : Gm_needOf_46 (nI j) (nI i) qm (n + 1) mo (-1) (nI k) rm = Bm_needOf_46 (nI j) (nI i) qm (Gm_needOf_46 (nI j) (nI i) qm n) mo (-1) (nI k) rm := rfl
    have n1 : (1 : Int32) + nI j = nI (1 + j) := nI_add 1 j
    have n13 : (13 : Int32) + nI j = nI (13 + j) := nI_add 13 j
    rw [e0, e1]
    unfold Bk_fewest_33 Bm_needOf_46 Gm_needOf_103 Gm_needOf_84
    simp only [zletQ, zifQ, zifnQ, nI_1, n1, n13, xzn (show j < 2 ^ 31 by omega), xzn (show 1 + j < 2 ^ 31 by omega), xzn (show 13 + j < 2 ^ 31 by omega), xh0, if_neg (show ¬ (0 : Int32) ≤ -1 by decide)]
    by_cases c : mo < nI k
    · rw [if_pos c, if_pos c]
      exact ⟨-1, r, g1, rfl, rfl, Or.inl rfl⟩
    · rw [if_neg c, if_neg c]
      have hk : k ≤ 20 := by
        rw [Int32.lt_iff_toInt_lt, nI_toInt (by omega)] at c
        omega
      have hS2 := hS.sN g1 rfl rfl rfl rfl rfl rfl
      have hE2 := hE.fr g1 (by decide)
      -- the class: on trial
      have c5 : xCs t p 12 S (kcp8 r 12 6) := hS2.cp hp
      have fE : xCe Lf t p E (kcp8 r 12 6) := by
        obtain ⟨q1, q2, q3, q4, q5⟩ := hE2
        have kk : ∀ a, 18 ≤ a → kcp8 r 12 6 a = r a := fun a ha => kcp8_o (by omega)
        refine ⟨by rw [kk 171 (by omega)]; exact q1, q2, fun i hi => by rw [kk 172 (by omega), kk 173 (by omega)]; exact q3 i hi, fun j hj => by rw [kk 175 (by omega)]; exact q4 j hj, fun r2 k1 k2 => q5 r2 (by rw [k1, kk 180 (by omega)]) (by rw [k2, kk 181 (by omega)])⟩
      have e15 : kcp8 r 12 6 15 j = S 3 j := (c5.2 j hj).2.2.2.1
      rw [e15]
      have f8 : zFr [12, 13, 14, 15, 16, 17, 182, 202] r0 (kcp8 r 12 6) := fun b hb => by
        rw [kcp8_o ?_]
        · exact g1 b hb
        · rcases Nat.lt_or_ge b 12 with h | h
          · exact Or.inl h
          · rcases Nat.lt_or_ge b 18 with h3 | h3
            · exfalso
              rcases (show b = 12 ∨ b = 13 ∨ b = 14 ∨ b = 15 ∨ b = 16 ∨ b = 17 by omega) with rfl | rfl | rfl | rfl | rfl | rfl <;> cases hb
            · exact Or.inr (by omega)
      have c7 : xCs t p 12 (xs S 3 j (S 3 j + nI k)) (zset (kcp8 r 12 6) 15 (upd (kcp8 r 12 6 15) j (S 3 j + nI k))) := c5.set (k := 3) (j := j) (v := S 3 j + nI k) ⟨by decide, by decide⟩ (fun h => absurd h (by decide))
      have fE7 := fE.fr (zFr.refl.set (M := [15]) (k := 15) (g := upd (kcp8 r 12 6 15) j (S 3 j + nI k)) rfl) (by decide)
      have f7 : zFr [12, 13, 14, 15, 16, 17, 182, 202] r0 (zset (kcp8 r 12 6) 15 (upd (kcp8 r 12 6 15) j (S 3 j + nI k))) := f8.set rfl
      generalize zset (kcp8 r 12 6) 15 (upd (kcp8 r 12 6 15) j (S 3 j + nI k)) = r7 at c7 fE7 f7 ⊢
      have ea2 : xs S 3 j (S 3 j + nI k) 1 j = nI a := ea
      obtain ⟨r9, f9, e9⟩ := kRcT (q := q) fE7 c7 hR (mo := 0) hj ha ea2
      rw [e9, xcvr (r := r9)]
      have g9 := f7.tr f9 (by decide)
      -- the reference
      have mE := hE'.fr g2 (by decide)
      have k7 : rm 32 (1 + j) = nI a := (hM.2 j hj).2.1.trans ea2
      obtain ⟨m9, w9, k9⟩ := mRch (q := qm) mE hM hR hj (Nat.pow_lt_pow_right (by decide) ha) (two0 a)
      rw [k7, nOne (by omega), k9, xcvr (r := m9)]
      have hb := nBit (m := yI (sT Lf t p E (xs S 3 j (S 3 j + nI k)) 0 j) t (t - 1) (2 ^ a)) (i := i) (p64 ht (yI_lt sT_lt _ _ (Nat.pow_lt_pow_right (by decide) ha))) (by omega)
      by_cases d : (yI (sT Lf t p E (xs S 3 j (S 3 j + nI k)) 0 j) t (t - 1) (2 ^ a)).testBit i = true
      · rw [if_pos d] at hb
        rw [hb, if_neg (show ¬ (1 : Int32) = 0 by decide), if_pos rfl]
        refine ⟨nI k, r9, g9, rfl, ?_, Or.inr ⟨k, hk, rfl⟩⟩
        obtain ⟨n', rfl⟩ : ∃ n', n = n' + 1 := ⟨n - 1, by omega⟩
        exact mEnd46 (xnn20 hk)
      · rw [if_neg d] at hb
        rw [hb, if_pos rfl, if_neg (show ¬ (0 : Int32) = 1 by decide)]
        have e13 : m9 32 (13 + j) = S 3 j + nI k := by
          rw [w9 32 rfl]
          refine (hM.2 j hj).2.2.2.1.trans ?_
          unfold xs; rw [zset_eq, pk_us]
        rw [e13]
        refine ih (k + 1) r9 _ (by omega) (by omega) g9 ((g2.tr w9 (by decide)).set rfl) ?_
        rw [zset_eq, w9 32 rfl, Int32.add_assoc, nI_1]
        have hM2 := hM.set (k := 3) (j := j) (o := 13 + j) (v := S 3 j + nI (k + 1)) hp ⟨by decide, by decide⟩ (by omega) (by omega) (fun h => absurd h (by decide))
        have ex : xs (xs S 3 j (S 3 j + nI k)) 3 j (S 3 j + nI (k + 1)) = xs S 3 j (S 3 j + nI (k + 1)) := by
          unfold xs
          rw [zset_eq, xzz]
          congr 1
          funext u
          by_cases e : u = j
          · subst e; rw [pk_us, pk_us]
          · rw [pk_un e, pk_un e, pk_un e]
        rw [ex] at hM2
        exact hM2
end XND
theorem xs_self {S : Nat → Nat → Int32} {k j : Nat} : xs S k j (S k j) = S := by
  unfold xs
  funext a i
  by_cases e : a = k
  · subst e
    rw [zset_eq]
    by_cases d : i = j
    · subst d; rw [pk_us]
    · rw [pk_un d]
  · rw [zset_ne e]
theorem fm_needOf {a b : Int32} {r : zRr} {q : zRq} : zFr [15, 16, 17, 18, 19, 20, 21, 22, 23, 24, 32, 34] r (Gm_needOf a b r q).2 := by
  have k : ∀ (n : Nat) (mo f x : Int32) (r : zRr), zFr [15, 16, 17, 18, 19, 20, 21, 22, 23, 24, 32, 34] r (Gm_needOf_46 a b q n mo f x r).2 := by
    intro n
    induction n with
    | zero => intro mo f x r; exact zFr.refl
    | succ n ih =>
      intro mo f x r
      have e0 : Gm_needOf_46 a b q (n + 1) mo f x r = Bm_needOf_46 a b q (Gm_needOf_46 a b q n) mo f x r := rfl
      rw [e0]
      unfold Bm_needOf_46 Gm_needOf_103 Gm_needOf_84
      simp only [zletQ, zifQ, zifnQ, zc_vrQ]
      split
      · exact zFr.refl.set rfl
      · split
        · exact zFr.refl.set rfl
        · have f := (fm_reachFrom (a1 := a) (a2 := (1 : Int32) <<< (r 32 (zn (1 + a)) &&& 31)) (r := r) (q := q)).up (M := [15, 16, 17, 18, 19, 20, 21, 22, 23, 24, 32, 34]) (by decide)
          split
          · exact (f.set rfl).tr (ih _ _ _ _) (by decide)
          · exact (f.set rfl).tr (ih _ _ _ _) (by decide)
  unfold Gm_needOf Gm_needOf_39
  simp only [zletQ, zifnQ]
  split
  · exact (zFr.refl.set rfl).tr (k 22 _ _ _ _) (by decide)
  · exact (zFr.refl.set rfl).tr (k 22 _ _ _ _) (by decide)
section XNE
variable {Lf : xLT} {t p : Nat} {E S : Nat → Nat → Int32} {r rm : zRr} {q qm : zRq}
theorem xNeedOf (hE : xCe Lf t p E r) (hS : xCs t p 6 S r) (hE' : xMe Lf t p E 0 rm) (hS' : xMs t p S (rm 32)) (hR : xRd t E) {j i : Nat} (hj : j < p) (hi : i < t) (hf : ∀ j, j < 6 → zI 0 20 (rm 32 (13 + j))) : ∃ v r1, zFr [12, 13, 14, 15, 16, 17, 182, 202] r r1 ∧ Gk_fewest (nI j) (nI i) r q = (v, r1) ∧ (Gm_needOf (nI j) (nI i) rm qm).1 = v ∧ (v = -1 ∨ ∃ m, m ≤ 20 ∧ v = nI m) := by
  have ht := hE.2.1.1
  have hp := hE.2.1.2
  have n13 : (13 : Int32) + nI j = nI (13 + j) := nI_add 13 j
  have g5 := hE.2.2.2.1 j hj
  have g9 : r 9 j = S 3 j := (hS.2 j hj).2.2.2.1
  have k6 : zset rm 34 (zcp (rm 32) (rm 34) 0 0 31) 6 j = E 2 j := by rw [zset_ne (by decide)]; exact hE'.2.2.2.1 j hj
  have k13 : zset rm 34 (zcp (rm 32) (rm 34) 0 0 31) 32 (13 + j) = S 3 j := by rw [zset_ne (by decide)]; exact (hS'.2 j hj).2.2.2.1
  have z := hf j (by omega)
  rw [show rm 32 (13 + j) = S 3 j from (hS'.2 j hj).2.2.2.1] at z
  have c20 : (20 : Int32).toInt = 20 := by decide
  have hb : (20 - S 3 j).toInt ≤ 20 := by
    have z1 := z.1
    have z2 := z.2
    rw [Jvm.Kit.i32_sub (by rw [c20]; omega) (by rw [c20]; omega), c20]
    omega
  have mE : xMe Lf t p E 0 (zset rm 34 (zcp (rm 32) (rm 34) 0 0 31)) := hE'.fr (zFr.refl.set (M := [34]) rfl) (by decide)
  have hM : xMs t p (xs S 3 j (S 3 j + nI 0)) (zset rm 34 (zcp (rm 32) (rm 34) 0 0 31) 32) := by
    rw [nI_0, Int32.add_zero, xs_self, zset_ne (by decide)]; exact hS'
  unfold Gk_fewest Gk_fewest_29 Gm_needOf Gm_needOf_39
  simp only [zletQ, zifnQ, n13, xzn (show j < 2 ^ 31 by omega), xzn (show 13 + j < 2 ^ 31 by omega), g5, g9, k6, k13]
  by_cases c : E 2 j = 1
  · rw [if_pos c, if_pos c]
    exact xNd hE hS mE hR hj hi (mo := 0) (by decide) 22 0 r _ (by omega) (by omega) zFr.refl zFr.refl hM
  · rw [if_neg c, if_neg c]
    exact xNd hE hS mE hR hj hi hb 22 0 r _ (by omega) (by omega) zFr.refl zFr.refl hM
end XNE
section XNA
variable {t p : Nat} {r rm : zRr} {q qm : zRq} {a b : Int32}
theorem xNeedW (h : xHow t p r q rm qm) (hf : ∀ j, j < 6 → zI 0 20 (rm 32 (13 + j))) : (Gk_need a b r q).1 = (Gm_need a b rm qm).1 := by
  have h1 := h.z100
  unfold Gk_need Gm_need
  simp only [zletQ, zifQ]
  rw [h.isP a, h.isT b]
  by_cases c1 : Gm_isPerson a (zset rm 100 (fun _ => 0)) qm = 0
  · rw [if_pos c1, if_pos c1]
  rw [if_neg c1, if_neg c1]
  by_cases c2 : Gm_isTown b (zset rm 100 (fun _ => 0)) qm = 0
  · rw [if_pos c2, if_pos c2]
  rw [if_neg c2, if_neg c2]
  obtain ⟨j, hj, ea⟩ := h.pI c1
  obtain ⟨i, hi, eb⟩ := h.tI c2
  subst ea
  subst eb
  obtain ⟨hE, hE'⟩ := h1.E
  obtain ⟨S, s1, s2, _⟩ := h1.2.1
  obtain ⟨v, r3, _, e3, k3, _⟩ := xNeedOf (q := q) (qm := qm) hE s1 hE' s2 h.R hj hi hf
  rw [e3, xcvr (r := r3), zc_vrQ]
  exact k3.symm
theorem xDebtW (h : xHow t p r q rm qm) (hf : ∀ j, j < 6 → zI 0 20 (rm 32 (13 + j))) : (Gk_debt a b r q).1 = (Gm_debt a b rm qm).1 := by
  have hp := h.le.2
  have h1 := h.z100
  unfold Gk_debt Gm_debt
  simp only [zletQ, zifQ, zifnQ]
  rw [h.isP a, h.isT b]
  by_cases c1 : Gm_isPerson a (zset rm 100 (fun _ => 0)) qm = 0
  · rw [if_pos c1, if_pos c1]
  rw [if_neg c1, if_neg c1]
  by_cases c2 : Gm_isTown b (zset rm 100 (fun _ => 0)) qm = 0
  · rw [if_pos c2, if_pos c2]
  rw [if_neg c2, if_neg c2]
  obtain ⟨j, hj, ea⟩ := h.pI c1
  obtain ⟨i, hi, eb⟩ := h.tI c2
  subst ea
  subst eb
  obtain ⟨hE, hE'⟩ := h1.E
  obtain ⟨S, s1, s2, _⟩ := h1.2.1
  obtain ⟨v, r3, f3, e3, k3, kv⟩ := xNeedOf (q := q) (qm := qm) hE s1 hE' s2 h.R hj hi hf
  have rs := rs_needOf (a2 := nI i) (q := qm) (j := j) (r := zset rm 100 (fun _ => 0)) (by omega) hf
  have fm := fm_needOf (a := nI j) (b := nI i) (r := zset rm 100 (fun _ => 0)) (q := qm)
  have n19 : (19 : Int32) + nI j = nI (19 + j) := nI_add 19 j
  rw [e3, xcvr (r := r3), zc_vrQ, n19, xzn (show j < 2 ^ 31 by omega), xzn (show 19 + j < 2 ^ 31 by omega), k3, rs (19 + j) (by omega), fm 1 rfl]
  have g10 : r3 10 j = S 4 j := by rw [f3 10 rfl]; exact (s1.2 j hj).2.2.2.2.1
  have g12 : r3 171 12 = sE r 3 1 := by rw [f3 171 rfl]; exact hE.1.2.2.2
  have k10 : zset rm 100 (fun _ => 0) 32 (19 + j) = S 4 j := (s2.2 j hj).2.2.2.2.1
  have k12 : zset rm 100 (fun _ => 0) 1 3 = sE r 3 1 := hE'.1.2.2.2
  rw [g10, g12, k10, k12]
  rcases kv with e | ⟨m, hm, e⟩
  · rw [e, if_pos rfl, if_neg (show ¬ (0 : Int32) ≤ -1 by decide)]
  · have ne : ¬ nI m = -1 := fun h9 => by
      have h8 := congrArg Int32.toInt h9
      rw [nI_toInt (by omega)] at h8
      have c : (-1 : Int32).toInt = -1 := by decide
      omega
    rw [e, if_neg ne, if_pos (xnn20 hm)]
end XNA
section XCH
variable {Lf : xLT} {t p : Nat} {E S : Nat → Nat → Int32} {r0 rm0 : zRr} {q qm : zRq}
theorem xChp (hE : xCe Lf t p E r0) (hS : xCs t p 6 S r0) (hE' : xMe Lf t p E 0 rm0) (hS' : xMs t p S (rm0 32)) (hR : xRd t E) {j : Nat} (hj : j < p) (hf : ∀ j, j < 6 → zI 0 20 (rm0 32 (13 + j))) : ∀ (n i : Nat) (b lk lm : Int32) (r rm : zRr), i ≤ t → t < n + i → zFr [12, 13, 14, 15, 16, 17, 182, 202] r0 r → zFr [15, 16, 17, 18, 19, 20, 21, 22, 23, 24, 32, 34] rm0 rm → zRs rm0 rm → ((b = -1 ∧ lk = 21) ∨ (∃ k, k < 6 ∧ b = nI k ∧ lk = lm)) → (Gk_cheapest_18 (nI j) q n b lk (nI i) r).1 = (Gm_cheapest_22 (nI j) qm n b lm (nI i) rm).1 := by
  have ht := hE.2.1.1
  have hp := hE.2.1.2
  intro n
  induction n with
  | zero => intro i b lk lm r rm h1 h2; omega
  | succ n ih =>
    intro i b lk lm r rm h1 h2 g1 g2 g3 hb
    have e0 : Gk_cheapest_18 (nI j) q (n + 1) b lk (nI i) r = Bk_cheapest_18 (nI j) q (Gk_cheapest_18 (nI j) q n) b lk (nI i) r := rfl
    have e1 : Gm_cheapest_22 (nI j) qm (n + 1) b lm (nI i) rm = Bm_cheapest_22 (nI j) qm (Gm_cheapest_22 (nI j) qm n) b lm (nI i) rm := rfl
    have hE2 := hE.fr g1 (by decide)
    have hS2 := hS.sN g1 rfl rfl rfl rfl rfl rfl
    have hE3 := hE'.fr g2 (by decide)
    have hS3 := hS'.eq hp g3
    have hf3 : ∀ j, j < 6 → zI 0 20 (rm 32 (13 + j)) := fun j hj => by rw [g3 (13 + j) (by omega)]; exact hf j hj
    rw [e0, e1]
    unfold Bk_cheapest_18 Bm_cheapest_22 Gk_cheapest_56 Gm_cheapest_60 Gm_cheapest_66
    simp only [zletQ, zifQ, hE2.1.1, hE3.1.1, nI_1]
    by_cases e : i = t
    · subst e
      rw [if_pos (nI_leP (by omega) (by omega) (by omega)), if_pos (nI_leP (by omega) (by omega) (by omega))]
    · rw [if_neg (nI_leN (by omega) (by omega) (by omega)), if_neg (nI_leN (by omega) (by omega) (by omega))]
      obtain ⟨v, r3, f3, e3, k3, kv⟩ := xNeedOf (q := q) (qm := qm) hE2 hS2 hE3 hS3 hR hj (i := i) (by omega) hf3
      have rs := rs_needOf (a2 := nI i) (q := qm) (j := j) (r := rm) (by omega) hf3
      have fm := fm_needOf (a := nI j) (b := nI i) (r := rm) (q := qm)
      rw [e3, xcvr (r := r3), zc_vrQ, k3]
      have K := fun b lk lm hb => ih (i + 1) b lk lm r3 (Gm_needOf (nI j) (nI i) rm qm).2 (by omega) (by omega) (g1.tr f3 (by decide)) (g2.tr fm (by decide)) (g3.tr rs) hb
      by_cases c0 : v ≤ 0
      · rw [if_pos c0, if_pos c0]; exact K _ _ _ hb
      · rw [if_neg c0, if_neg c0]
        obtain ⟨m, hm, ev⟩ := kv.resolve_left (fun h => c0 (by rw [h]; decide))
        rcases hb with ⟨b1, b2⟩ | ⟨k, hk, b1, b2⟩
        · have c21 : ¬ (21 : Int32) ≤ v := by rw [ev]; exact nI_leN (a := 21) (by omega) (by omega) (by omega)
          rw [b1, b2, if_neg c21, if_pos (show (-1 : Int32) < 0 by decide)]
          exact K _ _ _ (Or.inr ⟨i, by omega, rfl, rfl⟩)
        · have hk0 : ¬ nI k < 0 := (xnn (j := k) hk).2.1
          rw [b1, b2, if_neg hk0]
          by_cases c : v < lm
          · have c' : ¬ lm ≤ v := fun h => by rw [Int32.le_iff_toInt_le] at h; rw [Int32.lt_iff_toInt_lt] at c; omega
            rw [if_pos c, if_neg c']
            exact K _ _ _ (Or.inr ⟨i, by omega, rfl, rfl⟩)
          · have c' : lm ≤ v := by rw [Int32.le_iff_toInt_le]; rw [Int32.lt_iff_toInt_lt] at c; omega
            rw [if_neg c, if_pos c']
            exact K _ _ _ (Or.inr ⟨k, hk, rfl, rfl⟩)
end XCH
theorem xCheapW {t p : Nat} {r rm : zRr} {q qm : zRq} {a : Int32} (h : xHow t p r q rm qm) (hf : ∀ j, j < 6 → zI 0 20 (rm 32 (13 + j))) : (Gk_cheapest a r q).1 = (Gm_cheapest a rm qm).1 := by
  have ht := h.le.1
  have h1 := h.z100
  unfold Gk_cheapest Gm_cheapest
  simp only [zletQ, zifnQ]
  rw [h.isP a]
  by_cases c1 : Gm_isPerson a (zset rm 100 (fun _ => 0)) qm = 0
  · rw [if_pos c1, if_pos c1]
  rw [if_neg c1, if_neg c1]
  obtain ⟨j, hj, ea⟩ := h.pI c1
  subst ea
  obtain ⟨hE, hE'⟩ := h1.E
  obtain ⟨S, s1, s2, _⟩ := h1.2.1
  exact xChp (q := q) (qm := qm) hE s1 hE' s2 h.R hj hf 7 0 (-1) 21 0 r _ (by omega) (by omega) zFr.refl zFr.refl zRs.refl (Or.inl ⟨rfl, rfl⟩)
