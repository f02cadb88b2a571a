section
/-! ===== answers: reach, shaven, stricter, frontiers, trapped ===== -/
section XRCH
variable {Lf : xLT} {t p : Nat} {E S : Nat → Nat → Int32} {r : zRr} {q : zRq}
theorem kRcT (hE : xCe Lf t p E r) (hS : xCs t p 12 S r) (hR : xRd t E) {mo : Int32} {j a : Nat} (hj : j < p) (ha : a < t) (ea : S 1 j = nI a) : ∃ r1, zFr [182, 202] r r1 ∧ Gk_reachOfT (nI j) mo r q = (nI (yI (sT Lf t p E S mo j) t (t - 1) (2 ^ a)), r1) := by
  have ht : t ≤ 6 := hE.2.1.1
  have hp : p ≤ 6 := hE.2.1.2
  obtain ⟨f, c⟩ := kLayT (q := q) hE hS hR (mo := mo) hj
  unfold Gk_reachOfT
  simp only [zletQ, xzn (show j < 2 ^ 31 by omega)]
  generalize Gk_layT (nI j) mo r q = r1 at f c ⊢
  have e1 : r1 13 j = nI a := by rw [f 13 rfl, ← ea]; exact (hS.2 j hj).2.1
  have h9 : r1 171 9 = nI t := by rw [f 171 rfl]; exact hE.1.1
  refine ⟨r1, f, ?_⟩
  rw [e1, nOne (by omega), kSpd (q := q) h9 ht c sT_lt (Nat.pow_lt_pow_right (by decide) ha)]
end XRCH
theorem two0 (a : Nat) : (2 : Nat) ^ a ≠ 0 := Nat.pos_iff_ne_zero.mp (Nat.two_pow_pos a)
section XAQ
variable {t p : Nat} {r rm : zRr} {q qm : zRq}
theorem xHow.R (h : xHow t p r q rm qm) : xRd t (sE r) := fun i hi => (h.1.2.2.2.1 i hi).2.1.2
end XAQ
end
section
/-! ===== answers: need, debt, cheapest ===== -/
theorem xnn20 {k : Nat} (h : k ≤ 20) : (0 : Int32) ≤ nI k := by
  have := nI_leP (a := 0) (b := k) (by omega) (by omega) (by omega)
  rw [nI_0] at this
  exact this
section XND
variable {Lf : xLT} {t p : Nat} {E S : Nat → Nat → Int32} {r0 rm0 : zRr} {q qm : zRq}
theorem mEnd46 {j i : Nat} {mo f : Int32} {n k : Nat} {r : zRr} (hf : (0 : Int32) ≤ f) : (Gm_needOf_46 (nI j) (nI i) qm (n + 1) mo f (nI k) r).1 = f := by
  have e0 : Gm_needOf_46 (nI j) (nI i) qm (n + 1) mo f (nI k) r = Bm_needOf_46 (nI j) (nI i) qm (Gm_needOf_46 (nI j) (nI i) qm n) mo f (nI k) r := rfl
  rw [e0]
  unfold Bm_needOf_46 Gm_needOf_103
  simp only [zletQ, zifQ, if_pos hf]
  split <;> rfl
theorem xNd (hE : xCe Lf t p E r0) (hS : xCs t p 6 S r0) (hE' : xMe Lf t p E 0 rm0) (hR : xRd t E) {j i : Nat} (hj : j < p) (hi : i < t) {mo : Int32} (hmo : mo.toInt ≤ 20) : ∀ (n k : Nat) (r rm : zRr), k ≤ 21 → 21 < n + k → zFr [12, 13, 14, 15, 16, 17, 182, 202] r0 r → zFr [15, 16, 17, 18, 19, 20, 21, 22, 23, 24, 32] rm0 rm → xMs t p (xs S 3 j (S 3 j + nI k)) (rm 32) → ∃ v r1, zFr [12, 13, 14, 15, 16, 17, 182, 202] r0 r1 ∧ Gk_fewest_33 (nI j) (nI i) q n mo (nI k) r = (v, r1) ∧ (Gm_needOf_46 (nI j) (nI i) qm n mo (-1) (nI k) rm).1 = v ∧ (v = -1 ∨ ∃ m, m ≤ 20 ∧ v = nI m) := by
  have ht := hE.2.1.1
  have hp := hE.2.1.2
  obtain ⟨a, ha, ea⟩ := (hS.2 j hj).1
  intro n
  induction n with
  | zero => intro k r rm h1 h2; omega
  | succ n ih =>
    intro k r rm h1 h2 g1 g2 hM
    have e0 : Gk_fewest_33 (nI j) (nI i) q (n + 1) mo (nI k) r = Bk_fewest_33 (nI j) (nI i) q (Gk_fewest_33 (nI j) (nI i) q n) mo (nI k) r := rfl
    have e1 : Gm_needOf_46 (nI j) (nI i) qm (n + 1) mo (-1) (nI k) rm = Bm_needOf_46 (nI j) (nI i) qm (Gm_needOf_46 (nI j) (nI i) qm n) mo (-1) (nI k) rm := rfl
    have n1 : (1 : Int32) + nI j = nI (1 + j) := nI_add 1 j
    have n13 : (13 : Int32) + nI j = nI (13 + j) := nI_add 13 j
    rw [e0, e1]
    unfold Bk_fewest_33 Bm_needOf_46 Gm_needOf_103 Gm_needOf_84
    simp only [zletQ, zifQ, zifnQ, nI_1, n1, n13, xzn (show j < 2 ^ 31 by omega), xzn (show 1 + j < 2 ^ 31 by omega), xzn (show 13 + j < 2 ^ 31 by omega), xh0, if_neg (show ¬ (0 : Int32) ≤ -1 by decide)]
    by_cases c : mo < nI k
    · rw [if_pos c, if_pos c]
      exact ⟨-1, r, g1, rfl, rfl, Or.inl rfl⟩
    · rw [if_neg c, if_neg c]
      have hk : k ≤ 20 := by
        rw [Int32.lt_iff_toInt_lt, nI_toInt (by omega)] at c
        omega
      have hS2 := hS.sN g1 rfl rfl rfl rfl rfl rfl
      have hE2 := hE.fr g1 (by decide)
      -- the class: on trial
      have c5 : xCs t p 12 S (kcp8 r 12 6) := hS2.cp hp
      have fE : xCe Lf t p E (kcp8 r 12 6) := by
        obtain ⟨q1, q2, q3, q4, q5⟩ := hE2
        have kk : ∀ a, 18 ≤ a → kcp8 r 12 6 a = r a := fun a ha => kcp8_o (by omega)
        refine ⟨by rw [kk 171 (by omega)]; exact q1, q2, fun i hi => by rw [kk 172 (by omega), kk 173 (by omega)]; exact q3 i hi, fun j hj => by rw [kk 175 (by omega)]; exact q4 j hj, fun r2 k1 k2 => q5 r2 (by rw [k1, kk 180 (by omega)]) (by rw [k2, kk 181 (by omega)])⟩
      have e15 : kcp8 r 12 6 15 j = S 3 j := (c5.2 j hj).2.2.2.1
      rw [e15]
      have f8 : zFr [12, 13, 14, 15, 16, 17, 182, 202] r0 (kcp8 r 12 6) := fun b hb => by
        rw [kcp8_o ?_]
        · exact g1 b hb
        · rcases Nat.lt_or_ge b 12 with h | h
          · exact Or.inl h
          · rcases Nat.lt_or_ge b 18 with h3 | h3
            · exfalso
              rcases (show b = 12 ∨ b = 13 ∨ b = 14 ∨ b = 15 ∨ b = 16 ∨ b = 17 by omega) with rfl | rfl | rfl | rfl | rfl | rfl <;> cases hb
            · exact Or.inr (by omega)
      have c7 : xCs t p 12 (xs S 3 j (S 3 j + nI k)) (zset (kcp8 r 12 6) 15 (upd (kcp8 r 12 6 15) j (S 3 j + nI k))) := c5.set (k := 3) (j := j) (v := S 3 j + nI k) ⟨by decide, by decide⟩ (fun h => absurd h (by decide))
      have fE7 := fE.fr (zFr.refl.set (M := [15]) (k := 15) (g := upd (kcp8 r 12 6 15) j (S 3 j + nI k)) rfl) (by decide)
      have f7 : zFr [12, 13, 14, 15, 16, 17, 182, 202] r0 (zset (kcp8 r 12 6) 15 (upd (kcp8 r 12 6 15) j (S 3 j + nI k))) := f8.set rfl
      generalize zset (kcp8 r 12 6) 15 (upd (kcp8 r 12 6 15) j (S 3 j + nI k)) = r7 at c7 fE7 f7 ⊢
      have ea2 : xs S 3 j (S 3 j + nI k) 1 j = nI a := ea
      obtain ⟨r9, f9, e9⟩ := kRcT (q := q) fE7 c7 hR (mo := 0) hj ha ea2
      rw [e9, xcvr (r := r9)]
      have g9 := f7.tr f9 (by decide)
      -- the reference
      have mE := hE'.fr g2 (by decide)
      have k7 : rm 32 (1 + j) = nI a := (hM.2 j hj).2.1.trans ea2
      obtain ⟨m9, w9, k9⟩ := mRch (q := qm) mE hM hR hj (Nat.pow_lt_pow_right (by decide) ha) (two0 a)
      rw [k7, nOne (by omega), k9, xcvr (r := m9)]
      have hb := nBit (m := yI (sT Lf t p E (xs S 3 j (S 3 j + nI k)) 0 j) t (t - 1) (2 ^ a)) (i := i) (p64 ht (yI_lt sT_lt _ _ (Nat.pow_lt_pow_right (by decide) ha))) (by omega)
      by_cases d : (yI (sT Lf t p E (xs S 3 j (S 3 j + nI k)) 0 j) t (t - 1) (2 ^ a)).testBit i = true
      · rw [if_pos d] at hb
        rw [hb, if_neg (show ¬ (1 : Int32) = 0 by decide), if_pos rfl]
        refine ⟨nI k, r9, g9, rfl, ?_, Or.inr ⟨k, hk, rfl⟩⟩
        obtain ⟨n', rfl⟩ : ∃ n', n = n' + 1 := ⟨n - 1, by omega⟩
        exact mEnd46 (xnn20 hk)
      · rw [if_neg d] at hb
        rw [hb, if_pos rfl, if_neg (show ¬ (0 : Int32) = 1 by decide)]
        have e13 : m9 32 (13 + j) = S 3 j + nI k := by
          rw [w9 32 rfl]
          refine (hM.2 j hj).2.2.2.1.trans ?_
          unfold xs; rw [zset_eq, pk_us]
        rw [e13]
        refine ih (k + 1) r9 _ (by omega) (by omega) g9 ((g2.tr w9 (by decide)).set rfl) ?_
        rw [zset_eq, w9 32 rfl, Int32.add_assoc, nI_1]
        have hM2 := hM.set (k := 3) (j := j) (o := 13 + j) (v := S 3 j + nI (k + 1)) hp ⟨by decide, by decide⟩ (by omega) (by omega) (fun h => absurd h (by decide))
        have ex : xs (xs S 3 j (S 3 j + nI k)) 3 j (S 3 j + nI (k + 1)) = xs S 3 j (S 3 j + nI (k + 1)) := by
          unfold xs
          rw [zset_eq, xzz]
          congr 1
          funext u
          by_cases e : u = j
          · subst e; rw [pk_us, pk_us]
          · rw [pk_un e, pk_un e, pk_un e]
        rw [ex] at hM2
        exact hM2
end XND
theorem xs_self {S : Nat → Nat → Int32} {k j : Nat} : xs S k j (S k j) = S := by
  unfold xs
  funext a i
  by_cases e : a = k
  · subst e
    rw [zset_eq]
    by_cases d : i = j
    · subst d; rw [pk_us]
    · rw [pk_un d]
  · rw [zset_ne e]
theorem fm_needOf {a b : Int32} {r : zRr} {q : zRq} : zFr [15, 16, 17, 18, 19, 20, 21, 22, 23, 24, 32, 34] r (Gm_needOf a b r q).2 := by
  have k : ∀ (n : Nat) (mo f x : Int32) (r : zRr), zFr [15, 16, 17, 18, 19, 20, 21, 22, 23, 24, 32, 34] r (Gm_needOf_46 a b q n mo f x r).2 := by
    intro n
    induction n with
    | zero => intro mo f x r; exact zFr.refl
    | succ n ih =>
      intro mo f x r
      have e0 : Gm_needOf_46 a b q (n + 1) mo f x r = Bm_needOf_46 a b q (Gm_needOf_46 a b q n) mo f x r := rfl
      rw [e0]
      unfold Bm_needOf_46 Gm_needOf_103 Gm_needOf_84
      simp only [zletQ, zifQ, zifnQ, zc_vrQ]
      split
      · exact zFr.refl.set rfl
      · split
        · exact zFr.refl.set rfl
        · have f := (fm_reachFrom (a1 := a) (a2 := (1 : Int32) <<< (r 32 (zn (1 + a)) &&& 31)) (r := r) (q := q)).up (M := [15, 16, 17, 18, 19, 20, 21, 22, 23, 24, 32, 34]) (by decide)
          split
          · exact (f.set rfl).tr (ih _ _ _ _) (by decide)
          · exact (f.set rfl).tr (ih _ _ _ _) (by decide)
  unfold Gm_needOf Gm_needOf_39
  simp only [zletQ, zifnQ]
  split
  · exact (zFr.refl.set rfl).tr (k 22 _ _ _ _) (by decide)
  · exact (zFr.refl.set rfl).tr (k 22 _ _ _ _) (by decide)
section XNE
variable {Lf : xLT} {t p : Nat} {E S : Nat → Nat → Int32} {r rm : zRr} {q qm : zRq}
theorem xNeedOf (hE : xCe Lf t p E r) (hS : xCs t p 6 S r) (hE' : xMe Lf t p E 0 rm) (hS' : xMs t p S (rm 32)) (hR : xRd t E) {j i : Nat} (hj : j < p) (hi : i < t) (hf : ∀ j, j < 6 → zI 0 20 (rm 32 (13 + j))) : ∃ v r1, zFr [12, 13, 14, 15, 16, 17, 182, 202] r r1 ∧ Gk_fewest (nI j) (nI i) r q = (v, r1) ∧ (Gm_needOf (nI j) (nI i) rm qm).1 = v ∧ (v = -1 ∨ ∃ m, m ≤ 20 ∧ v = nI m) := by
  have ht := hE.2.1.1
  have hp := hE.2.1.2
  have n13 : (13 : Int32) + nI j = nI (13 + j) := nI_add 13 j
  have g5 := hE.2.2.2.1 j hj
  have g9 : r 9 j = S 3 j := (hS.2 j hj).2.2.2.1
  have k6 : zset rm 34 (zcp (rm 32) (rm 34) 0 0 31) 6 j = E 2 j := by rw [zset_ne (by decide)]; exact hE'.2.2.2.1 j hj
  have k13 : zset rm 34 (zcp (rm 32) (rm 34) 0 0 31) 32 (13 + j) = S 3 j := by rw [zset_ne (by decide)]; exact (hS'.2 j hj).2.2.2.1
  have z := hf j (by omega)
  rw [show rm 32 (13 + j) = S 3 j from (hS'.2 j hj).2.2.2.1] at z
  have c20 : (20 : Int32).toInt = 20 := by decide
  have hb : (20 - S 3 j).toInt ≤ 20 := by
    have z1 := z.1
    have z2 := z.2
    rw [Jvm.Kit.i32_sub (by rw [c20]; omega) (by rw [c20]; omega), c20]
    omega
  have mE : xMe Lf t p E 0 (zset rm 34 (zcp (rm 32) (rm 34) 0 0 31)) := hE'.fr (zFr.refl.set (M := [34]) rfl) (by decide)
  have hM : xMs t p (xs S 3 j (S 3 j + nI 0)) (zset rm 34 (zcp (rm 32) (rm 34) 0 0 31) 32) := by
    rw [nI_0, Int32.add_zero, xs_self, zset_ne (by decide)]; exact hS'
  unfold Gk_fewest Gk_fewest_29 Gm_needOf Gm_needOf_39
  simp only [zletQ, zifnQ, n13, xzn (show j < 2 ^ 31 by omega), xzn (show 13 + j < 2 ^ 31 by omega), g5, g9, k6, k13]
  by_cases c : E 2 j = 1
  · rw [if_pos c, if_pos c]
    exact xNd hE hS mE hR hj hi (mo := 0) (by decide) 22 0 r _ (by omega) (by omega) zFr.refl zFr.refl hM
  · rw [if_neg c, if_neg c]
    exact xNd hE hS mE hR hj hi hb 22 0 r _ (by omega) (by omega) zFr.refl zFr.refl hM
end XNE
section XNA
variable {t p : Nat} {r rm : zRr} {q qm : zRq} {a b : Int32}
theorem xDebtW (h : xHow t p r q rm qm) (hf : ∀ j, j < 6 → zI 0 20 (rm 32 (13 + j))) : (Gk_debt a b r q).1 = (Gm_debt a b rm qm).1 := by
  have hp := h.le.2
  have h1 := h.z100
  unfold Gk_debt Gm_debt
  simp only [zletQ, zifQ, zifnQ]
  rw [h.isP a, h.isT b]
  by_cases c1 : Gm_isPerson a (zset rm 100 (fun _ => 0)) qm = 0
  · rw [if_pos c1, if_pos c1]
  rw [if_neg c1, if_neg c1]
  by_cases c2 : Gm_isTown b (zset rm 100 (fun _ => 0)) qm = 0
  · rw [if_pos c2, if_pos c2]
  rw [if_neg c2, if_neg c2]
  obtain ⟨j, hj, ea⟩ := h.pI c1
  obtain ⟨i, hi, eb⟩ := h.tI c2
  subst ea
  subst eb
  obtain ⟨hE, hE'⟩ := h1.E
  obtain ⟨S, s1, s2, _⟩ := h1.2.1
  obtain ⟨v, r3, f3, e3, k3, kv⟩ := xNeedOf (q := q) (qm := qm) hE s1 hE' s2 h.R hj hi hf
  have rs := rs_needOf (a2 := nI i) (q := qm) (j := j) (r := zset rm 100 (fun _ => 0)) (by omega) hf
  have fm := fm_needOf (a := nI j) (b := nI i) (r := zset rm 100 (fun _ => 0)) (q := qm)
  have n19 : (19 : Int32) + nI j = nI (19 + j) := nI_add 19 j
  rw [e3, xcvr (r := r3), zc_vrQ, n19, xzn (show j < 2 ^ 31 by omega), xzn (show 19 + j < 2 ^ 31 by omega), k3, rs (19 + j) (by omega), fm 1 rfl]
  have g10 : r3 10 j = S 4 j := by rw [f3 10 rfl]; exact (s1.2 j hj).2.2.2.2.1
  have g12 : r3 171 12 = sE r 3 1 := by rw [f3 171 rfl]; exact hE.1.2.2.2
  have k10 : zset rm 100 (fun _ => 0) 32 (19 + j) = S 4 j := (s2.2 j hj).2.2.2.2.1
  have k12 : zset rm 100 (fun _ => 0) 1 3 = sE r 3 1 := hE'.1.2.2.2
  rw [g10, g12, k10, k12]
  rcases kv with e | ⟨m, hm, e⟩
  · rw [e, if_pos rfl, if_neg (show ¬ (0 : Int32) ≤ -1 by decide)]
  · have ne : ¬ nI m = -1 := fun h9 => by
      have h8 := congrArg Int32.toInt h9
      rw [nI_toInt (by omega)] at h8
      have c : (-1 : Int32).toInt = -1 := by decide
      omega
    rw [e, if_neg ne, if_pos (xnn20 hm)]
end XNA
section XCH
variable {Lf : xLT} {t p : Nat} {E S : Nat → Nat → Int32} {r0 rm0 : zRr} {q qm : zRq}
end XCH
end
section
/-! ===== answers: when ===== -/
section XWN
variable {Lf : xLT} {t p : Nat} {E : Nat → Nat → Int32}
end XWN
section XWM
variable {Lf : xLT} {t p : Nat} {E S : Nat → Nat → Int32} {rm0 : zRr} {q : zRq}
end XWM
theorem nIm1 {k : Nat} (h : k ≤ 1000) : ¬ nI k = -1 := fun h9 => by
  have h8 := congrArg Int32.toInt h9
  rw [nI_toInt (by omega)] at h8
  have c : (-1 : Int32).toInt = -1 := by decide
  omega
section XWK3
variable {Lf : xLT} {t p : Nat} {E S : Nat → Nat → Int32} {q : zRq}
end XWK3
section XWF
variable {Lf : xLT} {t p : Nat} {E S : Nat → Nat → Int32} {r : zRr} {q : zRq}
end XWF
end
section
/-! ===== judged: the loop ===== -/
noncomputable def xWo (w : Int32) : Prop := w = -1 ∨ ∃ i, i ≤ 1000 ∧ w = nI i
theorem xWo.nn {w : Int32} (h : xWo w) : (0 : Int32) ≤ w ↔ ¬ w = -1 := by
  rcases h with rfl | ⟨i, hi, rfl⟩
  · exact ⟨fun h => absurd h (by decide), fun h => absurd rfl h⟩
  · exact ⟨fun _ => nIm1 hi, fun _ => nI_leP (a := 0) (by omega) (by omega) (by omega)⟩
noncomputable def xLs (t p n : Nat) (r rm : zRr) : Prop := r 138 3 = nI n ∧ rm 25 0 = nI n ∧ ∀ k, k < n → r 139 k = rm 26 k ∧ (¬ r 139 k = 3 → r 140 k = rm 27 k) ∧ (r 139 k = 0 ∨ r 139 k = 1 → r 141 k = rm 28 k) ∧ xBd t p (r 139 k) (r 140 k) (r 141 k)
theorem xLs.fr {t p n : Nat} {r r1 rm rm1 : zRr} (h : xLs t p n r rm) (f : zFr [12, 13, 14, 15, 16, 17, 182] r r1) (g : zFr [15, 16, 17, 18, 19, 20, 21, 22, 23, 24, 32] rm rm1) : xLs t p n r1 rm1 := by
  unfold xLs at h ⊢
  rw [f 138 rfl, f 139 rfl, f 140 rfl, f 141 rfl, g 25 rfl, g 26 rfl, g 27 rfl, g 28 rfl]
  exact h
section XJL2
variable {Lf : xLT} {t p : Nat} {E : Nat → Nat → Int32} {q qm : zRq}
end XJL2
end
section
/-! ===== what holds between two calls: the tapes alike, the same LAND told, all as it is on either side ===== -/
noncomputable def lR (r : zRr) (q : zRq) (rm : zRr) (qm : zRq) : Prop := lT r rm ∧ (∃ t p, xHow t p r q rm qm) ∧ lM r rm ∧ lS r rm
section LR
variable {r r1 : zRr} {q : zRq} {rm rm1 : zRr} {qm qm1 : zRq}
theorem lR.w {M : List Nat} (h : lR r q rm qm) (fk : zFt r r1) (fm : zFr M rm rm1) (m32 : zRs rm rm1) (m152 : rm1 152 0 = 0) (hM : ([0, 1, 4, 5, 6, 7, 8, 9, 10, 11, 12, 25, 26, 27, 28, 29, 35, 36, 37, 101, 151].all fun k => !M.contains k) = true) : lR r1 q rm1 qm := by
  have g : ∀ a, [0, 1, 4, 5, 6, 7, 8, 9, 10, 11, 12, 25, 26, 27, 28, 29, 35, 36, 37, 101, 151].contains a = true → M.contains a = false := fun a ha => by
    have := List.all_eq_true.mp hM a (List.contains_iff_mem.mp ha)
    revert this
    cases M.contains a with
    | false => intro _; rfl
    | true => intro h; cases h
  obtain ⟨h1, ⟨t, p, h2⟩, h3, h4⟩ := h
  refine ⟨(h1.k ⟨fk 196 rfl, fk 197 rfl⟩).m (fm 0 (g 0 rfl)) (fm 101 (g 101 rfl)), ⟨t, p, h2.fr (fun a ha => fk a (zK3_in (by omega))) m32 m152 fm ?_⟩, h3.fr (fun k hk => fk _ (zK3_in (by omega))) (fm 37 (g 37 rfl)), h4.fr (fun k hk => fk _ (zK3_in (by omega))) (fm 29 (g 29 rfl))⟩
  rw [List.all_eq_true]
  intro a ha
  have ha : [1, 4, 5, 6, 7, 8, 9, 10, 11, 12, 25, 26, 27, 28, 35, 36, 37, 151].contains a = true := List.contains_iff_mem.mpr ha
  have : [0, 1, 4, 5, 6, 7, 8, 9, 10, 11, 12, 25, 26, 27, 28, 29, 35, 36, 37, 101, 151].contains a = true := by
    have h9 := List.contains_iff_mem.mp ha
    simp only [List.mem_cons, List.not_mem_nil, or_false] at h9
    rw [List.contains_iff_mem]
    simp only [List.mem_cons, List.not_mem_nil, or_false]
    omega
  rw [g a this]; rfl
theorem lR.z (h : lR r q rm qm) : rm 152 0 = 0 := by
  obtain ⟨_, ⟨_, _, h2⟩, _⟩ := h
  exact h2.2.2.2.2.2
theorem lR.s {M : List Nat} (h : lR r q rm qm) (fk : zFt r r1) (fm : zFr M rm rm1) (m32 : zRs rm rm1) (k152 : M.contains 152 = false) (hM : ([0, 1, 4, 5, 6, 7, 8, 9, 10, 11, 12, 25, 26, 27, 28, 29, 35, 36, 37, 101, 151].all fun k => !M.contains k) = true) : lR r1 q rm1 qm := h.w fk fm m32 (by rw [fm 152 k152]; exact h.z) hM
theorem lR.n (h : lR r q rm qm) (n : mNm qm qm1) : lR r q rm qm1 := by
  obtain ⟨h1, ⟨t, p, h2, h3⟩, h4⟩ := h
  exact ⟨h1, ⟨t, p, h2.fr ⟨fun _ _ _ => rfl, rfl, rfl⟩ (xLow.of rfl (fun _ _ _ => rfl) n.1 n.2), h3⟩, h4⟩
theorem mJ.fo (hM : mJ 20 rm) : ∀ j, j < 6 → zI 0 20 (rm 32 (13 + j)) := by
  intro j hj
  rcases (show j = 0 ∨ j = 1 ∨ j = 2 ∨ j = 3 ∨ j = 4 ∨ j = 5 by omega) with rfl | rfl | rfl | rfl | rfl | rfl
  · exact hM.i 32 13
  · exact hM.i 32 14
  · exact hM.i 32 15
  · exact hM.i 32 16
  · exact hM.i 32 17
  · exact hM.i 32 18
/-- what is asked: the standing is back as it was -/
theorem lR.sJ {a : Int32} {um : Int32 × zRr} (em : um = Gm_judged a rm qm) (h : lR r q rm qm) : zRs rm um.2 := by
  obtain ⟨_, ⟨t, p, h2⟩, _⟩ := h
  obtain ⟨n, hn, _, h25, _⟩ := h2.2.2.2.2.1
  rw [em]; exact rs_judged h25 hn h2.1.2.1.2.1 h2.le.2
theorem lR.sN {a b : Int32} {um : Int32 × zRr} (em : um = Gm_need a b rm qm) (hM : mJ 20 rm) (h : lR r q rm qm) : zRs rm um.2 := by
  obtain ⟨_, ⟨t, p, h2⟩, _⟩ := h
  rw [em]; exact rs_need h2.1.2.1.2.1 h2.le.2 hM.fo
theorem lR.sD {a b : Int32} {um : Int32 × zRr} (em : um = Gm_debt a b rm qm) (hM : mJ 20 rm) (h : lR r q rm qm) : zRs rm um.2 := by
  obtain ⟨_, ⟨t, p, h2⟩, _⟩ := h
  rw [em]; exact rs_debt h2.1.2.1.2.1 h2.le.2 hM.fo
theorem lR.sC {a : Int32} {um : Int32 × zRr} (em : um = Gm_cheapest a rm qm) (hM : mJ 20 rm) (h : lR r q rm qm) : zRs rm um.2 := by
  obtain ⟨_, ⟨t, p, h2⟩, _⟩ := h
  rw [em]; exact rs_cheapest h2.1.2.1.2.1 h2.le.2 hM.fo
theorem lR.sT {a b : Int32} {um : Int32 × zRr} (em : um = Gm_stricter a b rm qm) (h : lR r q rm qm) : um.2 152 0 = 0 := by
  have h0 := h.z
  obtain ⟨_, ⟨t, p, h2⟩, _⟩ := h
  rw [em]; exact rs_stricter h0 h2.1.2.1.2.1 h2.le.2
/-- a move -/
theorem lR.mv {M : List Nat} {u um : Int32 × zRr} (h : lR r q rm qm) (k : ∀ t p, xHow t p r q rm qm → u.1 = um.1 ∧ xHow t p u.2 q um.2 qm ∧ xK1 r u.2) (fm : zFr M rm um.2) (hM : ([0, 29, 37, 101].all fun k => !M.contains k) = true) : u.1 = um.1 ∧ lR u.2 q um.2 qm := by
  have g : ∀ a, [0, 29, 37, 101].contains a = true → M.contains a = false := fun a ha => by
    have := List.all_eq_true.mp hM a (List.contains_iff_mem.mp ha)
    revert this
    cases M.contains a with
    | false => intro _; rfl
    | true => intro h; cases h
  obtain ⟨h1, ⟨t, p, h2⟩, h3, h4⟩ := h
  obtain ⟨k1, k2, k3⟩ := k t p h2
  exact ⟨k1, (h1.k ⟨k3 196 (by omega) (by omega) (by omega), k3 197 (by omega) (by omega) (by omega)⟩).m (fm 0 (g 0 rfl)) (fm 101 (g 101 rfl)), ⟨t, p, k2⟩, h3.fr (fun k hk => k3 _ (by omega) (by omega) (by omega)) (fm 37 (g 37 rfl)), h4.fr (fun k hk => k3 _ (by omega) (by omega) (by omega)) (fm 29 (g 29 rfl))⟩
theorem lR.go {a b : Int32} {M : List Nat} {u um : Int32 × zRr} (e : u = Gk_go a b r q) (em : um = Gm_go a b rm qm) (h : lR r q rm qm) (fm : zFr M rm um.2) (hM : ([0, 29, 37, 101].all fun k => !M.contains k) = true) : u.1 = um.1 ∧ lR u.2 q um.2 qm :=
  h.mv (fun t p k => by rw [e, em]; exact xGoW k) fm hM
theorem lR.forge {a b : Int32} {M : List Nat} {u um : Int32 × zRr} (e : u = Gk_forge a b r q) (em : um = Gm_forge a b rm qm) (hJ : mJ 20 rm) (h : lR r q rm qm) (fm : zFr M rm um.2) (hM : ([0, 29, 37, 101].all fun k => !M.contains k) = true) : u.1 = um.1 ∧ lR u.2 q um.2 qm :=
  h.mv (fun t p k => by rw [e, em]; exact xFgW k hJ.fo) fm hM
theorem lR.shave {a : Int32} {M : List Nat} {u um : Int32 × zRr} (e : u = Gk_shave a r q) (em : um = Gm_shave a rm qm) (h : lR r q rm qm) (fm : zFr M rm um.2) (hM : ([0, 29, 37, 101].all fun k => !M.contains k) = true) : u.1 = um.1 ∧ lR u.2 q um.2 qm :=
  h.mv (fun t p k => by rw [e, em]; exact xShW k) fm hM
theorem lR.week {M : List Nat} {u um : Int32 × zRr} (e : u = Gk_week r q) (em : um = Gm_week rm qm) (h : lR r q rm qm) (fm : zFr M rm um.2) (hM : ([0, 29, 37, 101].all fun k => !M.contains k) = true) : u.1 = um.1 ∧ lR u.2 q um.2 qm :=
  h.mv (fun t p k => by rw [e, em]; exact xWkW k) fm hM
theorem lR.undo {M : List Nat} {u um : Int32 × zRr} (e : u = Gk_undo r q) (em : um = Gm_undo rm qm) (h : lR r q rm qm) (fm : zFr M rm um.2) (hM : ([0, 29, 37, 101].all fun k => !M.contains k) = true) : u.1 = um.1 ∧ lR u.2 q um.2 qm :=
  h.mv (fun t p k => by rw [e, em]; exact xUnW k) fm hM
theorem lR.land {B : Int} {u um : Int32 × zRr × zRq} (e : u = Gk_land r q) (em : um = Gm_land rm qm) (hM : mJ B rm) (h : lR r q rm qm) (z : u.2.1 196 1 = 0) (zm : um.2.1 101 0 = 0) : u.1 = um.1 ∧ lR u.2.1 u.2.2 um.2.1 um.2.2 := by
  obtain ⟨h1, ⟨t, p, h2⟩, h3, h4⟩ := h
  have hp := h1.p hM
  have k := xLandM (q := q) (qm := qm) hp h3 h4
  refine ⟨by rw [e, em]; exact xLandA hp, lT.z z zm, ?_, ?_⟩
  · rw [e, em]; exact xLandW hp h2
  · rw [e, em]; exact k
theorem xJourF {L t p : Nat} (h : xTp L r rm) (hD : xTd t p r q rm qm) {a : Nat} (h1 : 146 ≤ a) (h2 : a ≠ 196) : (Gk_journey r q).2.1 a = r a := by
  obtain ⟨⟨hk, k⟩, _⟩ := xjourney h hD
  unfold Gk_journey
  generalize Gk_readJ r q = o at hk k ⊢
  obtain ⟨v, r3, q4⟩ := o
  have hk : xJk (xRj r) q r3 q4 := hk
  have e3 : r3 a = r a := by
    rw [hk.1 a ?_]
    · show xs (xs (xs r 142 3 0) 196 3 0) 196 7 0 a = r a
      unfold xs
      rw [zset_ne h2, zset_ne h2, zset_ne (by omega)]
    · cases e : [142, 143, 144, 145, 196].contains a with
      | false => rfl
      | true =>
        have := List.contains_iff_mem.mp e
        simp only [List.mem_cons, List.not_mem_nil, or_false] at this
        omega
  rw [xcvrq (r := r3)]
  simp only [zletQ, zifnQ]
  by_cases hv : v = 0
  · rw [if_pos hv]
    show zset r3 196 (upd (r3 196) 1 0) a = r a
    rw [zset_ne h2]; exact e3
  · rw [if_neg hv]
    show kcp1 (zset r3 196 (upd (r3 196) 1 0)) 138 142 a = r a
    rw [kcp1_o (by omega), zset_ne h2]; exact e3
theorem lR.jour {B : Int} {M : List Nat} {u um : Int32 × zRr × zRq} (e : u = Gk_journey r q) (em : um = Gm_journey rm qm) (hM : mJ B rm) (h : lR r q rm qm) (z : u.2.1 196 1 = 0) (zm : um.2.1 101 0 = 0) (f : zFr M rm um.2.1) (h3 : M.contains 29 = false) (h4 : M.contains 37 = false) : u.1 = um.1 ∧ lR u.2.1 u.2.2 um.2.1 um.2.2 := by
  obtain ⟨g1, ⟨t, p, g2⟩, g3, g4⟩ := h
  have k := xJourW (g1.p hM) g2
  have kf : ∀ a, 146 ≤ a → a ≠ 196 → u.2.1 a = r a := fun a a1 a2 => by rw [e]; exact xJourF (g1.p hM) g2.1 a1 a2
  refine ⟨by rw [e, em]; exact k.1, lT.z z zm, ⟨t, p, by rw [e, em]; exact k.2⟩, g3.fr (fun k hk => kf _ (by omega) (by omega)) (f 37 h4), g4.fr (fun k hk => kf _ (by omega) (by omega)) (f 29 h3)⟩
theorem xMarkF {a b : Int32} {c : Nat} (h1 : 171 ≤ c) (h2 : c ≠ 195) : (Gk_mark a b r q).2 c = r c := by
  by_cases h0 : a < 0
  · unfold Gk_mark; rw [zifQ, if_pos h0]
  by_cases h4 : a < 4
  · obtain ⟨k, hk, ea⟩ : ∃ k, k < 4 ∧ a = nI k := by
      have hz : zI 0 3 a := by
        rw [Int32.lt_iff_toInt_lt] at h0 h4
        have c0 : (0 : Int32).toInt = 0 := by decide
        have c4 : (4 : Int32).toInt = 4 := by decide
        exact ⟨by omega, by omega⟩
      obtain ⟨e1, e2⟩ := hz.ix (n := 4) (by decide)
      exact ⟨_, e2, e1⟩
    subst ea
    rw [xmarkK hk]
    by_cases hb : b = 0
    · rw [if_pos hb]
      show xLay k r c = r c
      unfold xLay
      rw [zset_ne (by omega), zset_ne (by omega), kcp1_o (by omega), kcp8_o (by omega)]
    · rw [if_neg hb]
      by_cases hz : r (167 + k) 3 = 0
      · rw [if_pos hz]
      · rw [if_neg hz]
        show xBack k r q c = r c
        unfold xBack Gk_forgetPast
        simp only [zletQ]
        rw [zset_ne h2, zset_ne h2, zset_ne (by omega), kcp1_o (by omega), kcp8_o (by omega)]
  · unfold Gk_mark
    simp only [zifQ, if_neg h0, if_neg h4]
theorem lR.mark {a b : Int32} {u um : Int32 × zRr} (e : u = Gk_mark a b r q) (em : um = Gm_mark a b rm qm) (h : lR r q rm qm) (f : zFr [100, 37, 25, 26, 27, 28, 29, 30, 31, 32, 151, 35] rm um.2) : u.1 = um.1 ∧ lR u.2 q um.2 qm := by
  obtain ⟨g1, ⟨t, p, g2⟩, g3, g4⟩ := h
  obtain ⟨k1, k2, k3⟩ := xMark (a := a) (b := b) (q := q) (qm := qm) g3 g4
  have kf : ∀ c, 171 ≤ c → c ≠ 195 → u.2 c = r c := fun c c1 c2 => by rw [e]; exact xMarkF c1 c2
  have kw := xMarkW (a := a) (b := b) (q := q) (qm := qm) g3 g4 g2
  rw [← e, ← em] at k1 k2 k3 kw
  exact ⟨k1, (g1.k ⟨kf 196 (by omega) (by omega), kf 197 (by omega) (by omega)⟩).m (f 0 rfl) (f 101 rfl), ⟨t, p, kw ⟨k1, kf⟩ f⟩, k2, k3⟩
theorem lR.see {a b : Int32} {B : Int} {u um : Int32 × zRr} (e : u = Gk_see a b r q) (em : um = Gm_see a b rm qm) (hM : mJ B rm) (h : lR r q rm qm) : u.1 = um.1 ∧ lR u.2 q um.2 qm := by
  obtain ⟨g1, ⟨t, p, g2⟩, g3, g4⟩ := h
  obtain ⟨k1, k2, k3, k4⟩ := xSee (a := a) (b := b) g2.1 g4 (show zI 0 8 (rm 29 0) from hM.i 29 0)
  rw [← e] at k1 k2 k4
  rw [← em] at k1 k3 k4
  have kf : ∀ a, a ≠ 162 → a ≠ 182 → u.2 a = r a := fun a a1 a2 => k2 a (by
    cases e : [162, 182].contains a with
    | false => rfl
    | true =>
      have := List.contains_iff_mem.mp e
      simp only [List.mem_cons, List.not_mem_nil, or_false] at this
      omega)
  refine ⟨k1, (g1.k ⟨kf 196 (by omega) (by omega), kf 197 (by omega) (by omega)⟩).m (k3 0 (by decide)) (k3 101 (by decide)), ⟨t, p, ?_⟩, g3.fr (fun k hk => kf _ (by omega) (by omega)) (k3 37 (by decide)), k4⟩
  exact (xHow.see g2 kf k3)
end LR
theorem lR.q {r r1 : zRr} {q : zRq} {rm rm1 : zRr} {qm : zRq} {M : List Nat} (h : lR r q rm qm) (fk : zFt r r1) (fm : zFr M rm rm1) (k32 : M.contains 32 = false) (k152 : M.contains 152 = false) (hM : ([0, 1, 4, 5, 6, 7, 8, 9, 10, 11, 12, 25, 26, 27, 28, 29, 35, 36, 37, 101, 151].all fun k => !M.contains k) = true) : lR r1 q rm1 qm := h.w fk fm (fun i _ => by rw [fm 32 k32]) (by rw [fm 152 k152]; exact h.z) hM
end
section
/-! ===== the comparisons ===== -/
section LC
variable {r : zRr} {q : zRq} {rm : zRr} {qm : zRq} {a b : Int32}
theorem lR.cDebt {u um : Int32 × zRr} (e : u = Gk_debt a b r q) (em : um = Gm_debt a b rm qm) (hM : mJ 20 rm) (_ : kJ r) (h : lR r q rm qm) : u.1 = um.1 := by
  obtain ⟨_, ⟨t, p, h2⟩, _⟩ := h
  rw [e, em]; exact xDebtW h2 hM.fo
end LC
end
