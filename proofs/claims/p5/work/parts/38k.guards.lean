/-! ===== what guards do: the reference ===== -/
def xMe (Lf : xLT) (t p : Nat) (E : Nat → Nat → Int32) (mo : Int32) (r : zRr) : Prop := (r 1 0 = nI t ∧ r 1 1 = nI p ∧ r 1 2 = E 3 0 ∧ r 1 3 = E 3 1) ∧ (t ≤ 6 ∧ p ≤ 6) ∧ (∀ i, i < t → r 4 i = E 0 i ∧ r 5 i = E 1 i) ∧ (∀ j, j < p → r 6 j = E 2 j) ∧ r 152 0 = mo ∧ ∀ r1, r1 10 = r 10 → r1 11 = r 11 → r1 12 = r 12 → ∀ a1 a2 a3 q, (Gm_readsBeard a1 a2 a3 r1 q).1 = Lf a1 a2 a3 (r1 32 0) ∧ zFr [15, 16, 17, 18, 19, 20, 21, 22, 23, 24] r1 (Gm_readsBeard a1 a2 a3 r1 q).2
def xMs (t p : Nat) (S : Nat → Nat → Int32) (f : Nat → Int32) : Prop := f 0 = S 0 0 ∧ ∀ j, j < p → (∃ a, a < t ∧ S 1 j = nI a) ∧ f (1 + j) = S 1 j ∧ f (7 + j) = S 2 j ∧ f (13 + j) = S 3 j ∧ f (19 + j) = S 4 j ∧ f (25 + j) = S 5 j
theorem xMe.fr {Lf : xLT} {t p : Nat} {E : Nat → Nat → Int32} {mo : Int32} {r r1 : zRr} {M : List Nat} (h : xMe Lf t p E mo r) (f : zFr M r r1) (k : ([1, 4, 5, 6, 10, 11, 12, 152].all fun k => !M.contains k) = true) : xMe Lf t p E mo r1 := by
  have g : ∀ a, [1, 4, 5, 6, 10, 11, 12, 152].contains a = true → r1 a = r a := fun a ha => f a (by
    have := List.all_eq_true.mp k a (List.contains_iff_mem.mp ha)
    revert this
    cases M.contains a with
    | false => intro _; rfl
    | true => intro h; cases h)
  obtain ⟨h1, h3, h4, h5, h6, h7⟩ := h
  refine ⟨by rw [g 1 rfl]; exact h1, h3, fun i hi => ?_, fun j hj => ?_, by rw [g 152 rfl]; exact h6, fun r2 k1 k2 k3 => h7 r2 (by rw [k1, g 10 rfl]) (by rw [k2, g 11 rfl]) (by rw [k3, g 12 rfl])⟩
  · rw [g 4 rfl, g 5 rfl]; exact h4 i hi
  · rw [g 6 rfl]; exact h5 j hj
theorem xMs.fr {t p : Nat} {S : Nat → Nat → Int32} {f g : Nat → Int32} (h : xMs t p S f) (e : g = f) : xMs t p S g := by
  rw [e]; exact h
section XGM
variable {Lf : xLT} {t p : Nat} {E S : Nat → Nat → Int32} {mo : Int32} {r : zRr} {q : zRq}
theorem mAl (hE : xMe Lf t p E mo r) (hS : xMs t p S (r 32)) {j i : Nat} (hj : j < p) (hi : i < t) : ∃ r1, zFr [15, 16, 17, 18, 19, 20, 21, 22, 23, 24] r r1 ∧ Gm_letsHim (nI i) (nI j) r q = (sAl Lf E S mo j i, r1) := by
  obtain ⟨_, ⟨e3, e4⟩, e5, e6, em, e7⟩ := hE
  obtain ⟨s0, s1⟩ := hS
  obtain ⟨_, _, s3, s4, _⟩ := s1 j hj
  have n7 : (7 : Int32) + nI j = nI (7 + j) := nI_add 7 j
  have n13 : (13 : Int32) + nI j = nI (13 + j) := nI_add 13 j
  unfold Gm_letsHim Gm_letsHim_70 sAl
  simp only [zletQ, zifnQ, n7, n13, xzn (show j < 2 ^ 31 by omega), xzn (show i < 2 ^ 31 by omega), xzn (show 7 + j < 2 ^ 31 by omega), xzn (show 13 + j < 2 ^ 31 by omega), (e5 i hi).1, e6 j hj, em, s3, s4]
  have k : ∀ x, (Gm_readsBeard (S 2 j + S 3 j) (S 3 j) x r q).1 = Lf (S 2 j + S 3 j) (S 3 j) x (S 0 0) ∧ zFr [15, 16, 17, 18, 19, 20, 21, 22, 23, 24] r (Gm_readsBeard (S 2 j + S 3 j) (S 3 j) x r q).2 := fun x => by
    have := e7 r rfl rfl rfl (S 2 j + S 3 j) (S 3 j) x q
    rw [s0] at this
    exact this
  by_cases k2 : E 2 j = 2
  · rw [if_pos k2, if_pos k2]; exact ⟨r, zFr.refl, rfl⟩
  · rw [if_neg k2, if_neg k2]
    by_cases k3 : E 2 j = 3
    · rw [if_pos k3, if_pos k3]; exact xlw1 (k _)
    · rw [if_neg k3, if_neg k3]; exact xlw1 (k _)
theorem or0 (a : Int32) : a ||| 0 = a := Int32.or_zero
theorem mSp (hE : xMe Lf t p E mo r) (hS : xMs t p S (r 32)) {at_ : Int32} {i : Nat} (hi : i < t) : ∃ r1, zFr [15, 16, 17, 18, 19, 20, 21, 22, 23, 24] r r1 ∧ Gm_speakersAt at_ (nI i) r q = (yB (sVo Lf E S mo at_ i) p, r1) := by
  have hp : p ≤ 6 := hE.2.1.2
  have k := xLpB (p := p) (M := [15, 16, 17, 18, 19, 20, 21, 22, 23, 24]) (r0 := r) (f := sVo Lf E S mo at_ i) (G := Gm_speakersAt_5 at_ (nI i) q) (by
    intro n a j r2 hj f
    have e0 : Gm_speakersAt_5 at_ (nI i) q (n + 1) a (nI j) r2 = Bm_speakersAt_5 at_ (nI i) q (Gm_speakersAt_5 at_ (nI i) q n) a (nI j) r2 := rfl
    have hE2 := hE.fr f (by decide)
    have hS2 := hS.fr (f 32 rfl)
    obtain ⟨r3, f3, e3⟩ := mAl (q := q) hE2 hS2 hj hi
    have k5 := hE2.2.2.2.1 j hj
    have k7 := (hS2.2 j hj).2.1
    have n1 : (1 : Int32) + nI j = nI (1 + j) := nI_add 1 j
    rw [e0]
    unfold Bm_speakersAt_5 Gm_speakersAt_58 Gm_speakersAt_59 sVo
    simp only [zletQ, zifQ, zifnQ, hE2.1.2.1, nI_1, n1, xzn (show j < 2 ^ 31 by omega), xzn (show 1 + j < 2 ^ 31 by omega), k5, k7, or0]
    rw [if_neg (nI_leN (by omega) (by omega) (by omega))]
    by_cases h1 : E 2 j = 1
    · refine ⟨r2, f, ?_⟩
      rw [if_pos h1, if_pos h1, if_pos rfl]
    · rw [if_neg h1, if_neg h1]
      by_cases h2 : S 1 j = at_
      · refine ⟨r3, f.tr f3 (by decide), ?_⟩
        rw [if_pos h2, if_pos h2, e3, xcvr (r := r3)]
        by_cases hv : sAl Lf E S mo j i = 0
        · rw [if_pos hv, if_pos hv]
        · rw [if_neg hv, if_neg hv]
      · refine ⟨r2, f, ?_⟩
        rw [if_neg h2, if_neg h2, if_pos rfl]) (by
    intro n a r2 f
    have e0 : Gm_speakersAt_5 at_ (nI i) q (n + 1) a (nI p) r2 = Bm_speakersAt_5 at_ (nI i) q (Gm_speakersAt_5 at_ (nI i) q n) a (nI p) r2 := rfl
    have hE2 := hE.fr f (by decide)
    rw [e0]
    unfold Bm_speakersAt_5
    simp only [zletQ, zifQ, hE2.1.2.1]
    rw [if_pos (nI_leP (by omega) (by omega) (by omega))]) 7 0 r (by omega) (by omega) zFr.refl
  obtain ⟨r1, f1, e1⟩ := k
  exact ⟨r1, f1, by unfold Gm_speakersAt; exact e1⟩
theorem mLe (hE : xMe Lf t p E mo r) (hS : xMs t p S (r 32)) {at_ : Int32} {j i : Nat} (hj : j < p) (hi : i < t) : ∃ r1, zFr [15, 16, 17, 18, 19, 20, 21, 22, 23, 24] r r1 ∧ Gm_lets (nI i) (nI j) at_ r q = (sLe Lf p E S mo at_ j i, r1) := by
  have hp : p ≤ 6 := hE.2.1.2
  have k5 := hE.2.2.2.1 j hj
  unfold Gm_lets sLe
  simp only [zletQ, zifQ, zifnQ, xzn (show j < 2 ^ 31 by omega), k5]
  by_cases h1 : E 2 j = 1
  · obtain ⟨r3, f3, e3⟩ := mSp (q := q) hE hS (at_ := at_) hi
    refine ⟨r3, f3, ?_⟩
    rw [if_pos h1, if_pos h1, e3, xcvr (r := r3)]
    by_cases hv : yB (sVo Lf E S mo at_ i) p = 0
    · rw [if_pos hv, if_pos hv]
    · rw [if_neg hv, if_neg hv]
  · obtain ⟨r3, f3, e3⟩ := mAl (q := q) hE hS hj hi
    refine ⟨r3, f3, ?_⟩
    rw [if_neg h1, if_neg h1, e3, xcvr (r := r3)]
theorem mGo (hE : xMe Lf t p E mo r) (hS : xMs t p S (r 32)) {j i : Nat} (hj : j < p) (hi : i < t) : ∃ r1, zFr [15, 16, 17, 18, 19, 20, 21, 22, 23, 24] r r1 ∧ Gm_canGo (nI j) (nI i) r q = (sGo Lf p E S mo j i, r1) := by
  have hp : p ≤ 6 := hE.2.1.2
  have ht : t ≤ 6 := hE.2.1.1
  obtain ⟨⟨a, ha, ea⟩, k7, _⟩ := hS.2 j hj
  have k3 : r 5 (zn (S 1 j)) = E 1 (zn (S 1 j)) := by rw [ea, xzn (show a < 2 ^ 31 by omega)]; exact (hE.2.2.1 a ha).2
  obtain ⟨r3, f3, e3⟩ := mLe (q := q) hE hS (at_ := S 1 j) hj hi
  have n1 : (1 : Int32) + nI j = nI (1 + j) := nI_add 1 j
  unfold Gm_canGo sGo
  simp only [zletQ, zifQ, zifnQ, n1, xzn (show 1 + j < 2 ^ 31 by omega), k7, k3]
  rcases xbit (E 1 (zn (S 1 j)) >>> (nI i &&& 31)) with h1 | h1
  · rw [if_neg (by rw [h1]; decide), if_pos h1]; exact ⟨r, zFr.refl, rfl⟩
  · refine ⟨r3, f3, ?_⟩
    rw [if_pos h1, if_neg (by rw [h1]; decide), e3, xcvr (r := r3)]
    by_cases hv : sLe Lf p E S mo (S 1 j) j i = 0
    · rw [if_pos hv, if_pos hv]
    · rw [if_neg hv, if_neg hv]
theorem mThr (hE : xMe Lf t p E 0 r) (hS : xMs t p S (r 32)) {i : Nat} (hi : i < t) : ∃ r1, zFr [15, 16, 17, 18, 19, 20, 21, 22, 23, 24] r r1 ∧ Gm_letThrough (nI i) r q = (sTh Lf p E S i, r1) := by
  have hp : p ≤ 6 := hE.2.1.2
  have k := xLpB (p := p) (M := [15, 16, 17, 18, 19, 20, 21, 22, 23, 24]) (r0 := r) (f := fun j => sLe Lf p E S 0 (S 1 j) j i) (G := Gm_letThrough_4 (nI i) q) (by
    intro n a j r2 hj f
    have e0 : Gm_letThrough_4 (nI i) q (n + 1) a (nI j) r2 = Bm_letThrough_4 (nI i) q (Gm_letThrough_4 (nI i) q n) a (nI j) r2 := rfl
    have hE2 := hE.fr f (by decide)
    have hS2 := hS.fr (f 32 rfl)
    have k7 := (hS2.2 j hj).2.1
    have n1 : (1 : Int32) + nI j = nI (1 + j) := nI_add 1 j
    obtain ⟨r3, f3, e3⟩ := mLe (q := q) hE2 hS2 (at_ := S 1 j) hj hi
    refine ⟨r3, f.tr f3 (by decide), ?_⟩
    rw [e0]
    unfold Bm_letThrough_4 Gm_letThrough_39
    simp only [zletQ, zifQ, hE2.1.2.1, nI_1, n1, xzn (show 1 + j < 2 ^ 31 by omega), k7, or0]
    rw [if_neg (nI_leN (by omega) (by omega) (by omega)), e3, xcvr (r := r3)]
    by_cases hv : sLe Lf p E S 0 (S 1 j) j i = 0
    · rw [if_pos hv, if_pos hv]
    · rw [if_neg hv, if_neg hv]) (by
    intro n a r2 f
    have e0 : Gm_letThrough_4 (nI i) q (n + 1) a (nI p) r2 = Bm_letThrough_4 (nI i) q (Gm_letThrough_4 (nI i) q n) a (nI p) r2 := rfl
    have hE2 := hE.fr f (by decide)
    rw [e0]
    unfold Bm_letThrough_4
    simp only [zletQ, zifQ, hE2.1.2.1]
    rw [if_pos (nI_leP (by omega) (by omega) (by omega))]) 7 0 r (by omega) (by omega) zFr.refl
  obtain ⟨r1, f1, e1⟩ := k
  exact ⟨r1, f1, by unfold Gm_letThrough sTh; exact e1⟩
end XGM
