/-! ===== what guards do, apart from how either side keeps it ===== -/
/-- those for whom f is not 0, as bits -/
noncomputable def yB (f : Nat → Int32) : Nat → Int32
  | 0 => 0
  | n + 1 => if f n = 0 then yB f n else yB f n ||| ((1 : Int32) <<< (nI n &&& 31))
theorem yB_s {f : Nat → Int32} {n : Nat} : yB f (n + 1) = if f n = 0 then yB f n else yB f n ||| ((1 : Int32) <<< (nI n &&& 31)) := rfl
theorem yB.congr {f g : Nat → Int32} : ∀ n, (∀ i, i < n → f i = g i) → yB f n = yB g n := by
  intro n
  induction n with
  | zero => intro _; rfl
  | succ n ih =>
    intro h
    rw [yB_s, yB_s, ih (fun i hi => h i (by omega)), h n (by omega)]
/-- a loop that gathers bits -/
theorem xLpB {p : Nat} {M : List Nat} {r0 : zRr} {f : Nat → Int32} {G : Nat → Int32 → Int32 → zRr → Int32 × zRr} (hs : ∀ n a i r, i < p → zFr M r0 r → ∃ r1, zFr M r0 r1 ∧ G (n + 1) a (nI i) r = G n (if f i = 0 then a else a ||| ((1 : Int32) <<< (nI i &&& 31))) (nI (i + 1)) r1) (he : ∀ n a r, zFr M r0 r → G (n + 1) a (nI p) r = (a, r)) : ∀ n i r, i ≤ p → p < n + i → zFr M r0 r → ∃ r1, zFr M r0 r1 ∧ G n (yB f i) (nI i) r = (yB f p, r1) := by
  intro n
  induction n with
  | zero => intro i r h1 h2; omega
  | succ n ih =>
    intro i r h1 h2 h3
    by_cases e : i = p
    · subst e; exact ⟨r, h3, he n _ r h3⟩
    · obtain ⟨r1, f1, e1⟩ := hs n (yB f i) i r (by omega) h3
      obtain ⟨r2, f2, e2⟩ := ih (i + 1) r1 (by omega) (by omega) f1
      exact ⟨r2, f2, by rw [e1, ← yB_s]; exact e2⟩
abbrev xLT : Type := Int32 → Int32 → Int32 → Int32 → Int32
/-- one who is not smooth, before a guard -/
noncomputable def sAl (Lf : xLT) (E S : Nat → Nat → Int32) (mo : Int32) (j i : Nat) : Int32 := if E 2 j = 2 then 1 else Lf (S 2 j + S 3 j) (S 3 j) (if E 2 j = 3 then (E 0 i + mo) / 2 else E 0 i + mo) (S 0 0)
noncomputable def sVo (Lf : xLT) (E S : Nat → Nat → Int32) (mo at_ : Int32) (i j : Nat) : Int32 := if E 2 j = 1 then 0 else if S 1 j = at_ then sAl Lf E S mo j i else 0
noncomputable def sLe (Lf : xLT) (p : Nat) (E S : Nat → Nat → Int32) (mo at_ : Int32) (j i : Nat) : Int32 := if E 2 j = 1 then (if yB (sVo Lf E S mo at_ i) p = 0 then 0 else 1) else sAl Lf E S mo j i
noncomputable def sGo (Lf : xLT) (p : Nat) (E S : Nat → Nat → Int32) (mo : Int32) (j i : Nat) : Int32 := if (E 1 (zn (S 1 j)) >>> (nI i &&& 31)) &&& 1 = 0 then 0 else if sLe Lf p E S mo (S 1 j) j i = 0 then 0 else 1
noncomputable def sTh (Lf : xLT) (p : Nat) (E S : Nat → Nat → Int32) (i : Nat) : Int32 := yB (fun j => sLe Lf p E S 0 (S 1 j) j i) p
/-- the class holds a LAND, a standing -/
def xCe (Lf : xLT) (t p : Nat) (E : Nat → Nat → Int32) (r : zRr) : Prop := (r 171 9 = nI t ∧ r 171 10 = nI p ∧ r 171 11 = E 3 0 ∧ r 171 12 = E 3 1) ∧ (t ≤ 6 ∧ p ≤ 6) ∧ (∀ i, i < t → r 172 i = E 0 i ∧ r 173 i = E 1 i) ∧ (∀ j, j < p → r 175 j = E 2 j) ∧ ∀ r1, r1 180 = r 180 → r1 181 = r 181 → ∀ a1 a2 a3 a4 q, (Gk_passes a1 a2 a3 a4 r1 q).1 = Lf a1 a2 a3 a4 ∧ zFr [182] r1 (Gk_passes a1 a2 a3 a4 r1 q).2
def xCs (t p b : Nat) (S : Nat → Nat → Int32) (r : zRr) : Prop := r b 5 = S 0 0 ∧ ∀ j, j < p → (∃ a, a < t ∧ S 1 j = nI a) ∧ r (b + 1) j = S 1 j ∧ r (b + 2) j = S 2 j ∧ r (b + 3) j = S 3 j ∧ r (b + 4) j = S 4 j ∧ r (b + 5) j = S 5 j
theorem xCe.fr {Lf : xLT} {t p : Nat} {E : Nat → Nat → Int32} {r r1 : zRr} {M : List Nat} (h : xCe Lf t p E r) (f : zFr M r r1) (k : ([171, 172, 173, 175, 180, 181].all fun k => !M.contains k) = true) : xCe Lf t p E r1 := by
  have g : ∀ a, [171, 172, 173, 175, 180, 181].contains a = true → r1 a = r a := fun a ha => f a (by
    have := List.all_eq_true.mp k a (List.contains_iff_mem.mp ha)
    revert this
    cases M.contains a with
    | false => intro _; rfl
    | true => intro h; cases h)
  obtain ⟨h1, h3, h4, h5, h6⟩ := h
  refine ⟨by rw [g 171 rfl]; exact h1, h3, fun i hi => ?_, fun j hj => ?_, fun r2 k1 k2 => h6 r2 (by rw [k1, g 180 rfl]) (by rw [k2, g 181 rfl])⟩
  · rw [g 172 rfl, g 173 rfl]; exact h4 i hi
  · rw [g 175 rfl]; exact h5 j hj
theorem xCs.fr {t p b : Nat} {S : Nat → Nat → Int32} {r r1 : zRr} (h : xCs t p b S r) (f0 : r1 b = r b) (f1 : r1 (b + 1) = r (b + 1)) (f2 : r1 (b + 2) = r (b + 2)) (f3 : r1 (b + 3) = r (b + 3)) (f4 : r1 (b + 4) = r (b + 4)) (f5 : r1 (b + 5) = r (b + 5)) : xCs t p b S r1 := by
  unfold xCs at h ⊢
  rw [f0, f1, f2, f3, f4, f5]; exact h
theorem xlw1 {r : zRr} {o : Int32 × zRr} {v : Int32} {M : List Nat} (h : o.1 = v ∧ zFr M r o.2) : ∃ r1, zFr M r r1 ∧ zc_vr o (fun v r => (v, r)) = (v, r1) := by
  obtain ⟨v1, r1⟩ := o
  have e : v1 = v := h.1
  exact ⟨r1, h.2, by rw [xcvr (r := r1), e]⟩
theorem nI_leN {a b : Nat} (h : ¬ a ≤ b) (ha : a ≤ 1000) (hb : b ≤ 1000) : ¬ nI a ≤ nI b := fun k => h ((nI_leI (by omega) (by omega)).mp k)
theorem nI_leP {a b : Nat} (h : a ≤ b) (ha : a ≤ 1000) (hb : b ≤ 1000) : nI a ≤ nI b := (nI_leI (by omega) (by omega)).mpr h
theorem xh0 {x y : Int32} : Gk_has x y = 0 ↔ (x >>> (y &&& 31)) &&& 1 = 0 := by
  unfold Gk_has
  simp only [zletQ, zifQ]
  by_cases h : (x >>> (y &&& 31)) &&& 1 = 0
  · rw [if_pos h]; exact ⟨fun _ => h, fun _ => rfl⟩
  · rw [if_neg h]; exact ⟨fun k => absurd k (by decide), fun k => absurd k h⟩
section XGA
variable {Lf : xLT} {t p : Nat} {E S : Nat → Nat → Int32} {r : zRr} {q : zRq}
theorem kAlA (hE : xCe Lf t p E r) (hS : xCs t p 0 S r) {mo : Int32} {j i : Nat} (hj : j < p) (hi : i < t) : ∃ r1, zFr [182] r r1 ∧ Gk_passesAloneA (nI j) (nI i) mo r q = (sAl Lf E S mo j i, r1) := by
  obtain ⟨_, ⟨e3, e4⟩, e5, e6, e7⟩ := hE
  obtain ⟨s0, s1⟩ := hS
  obtain ⟨_, _, s3, s4, _⟩ := s1 j hj
  have s0 : r 0 5 = S 0 0 := s0
  have s3 : r 2 j = S 2 j := s3
  have s4 : r 3 j = S 3 j := s4
  unfold Gk_passesAloneA Gk_passesAloneA_74 sAl
  simp only [zletQ, zifnQ, xzn (show j < 2 ^ 31 by omega), xzn (show i < 2 ^ 31 by omega), (e5 i hi).1, e6 j hj, s0, s3, s4]
  by_cases k2 : E 2 j = 2
  · rw [if_pos k2, if_pos k2]; exact ⟨r, zFr.refl, rfl⟩
  · rw [if_neg k2, if_neg k2]
    by_cases k3 : E 2 j = 3
    · rw [if_pos k3, if_pos k3]; exact xlw1 (e7 r rfl rfl _ _ _ _ q)
    · rw [if_neg k3, if_neg k3]; exact xlw1 (e7 r rfl rfl _ _ _ _ q)
theorem xCs.sA {r1 : zRr} {M : List Nat} (h : xCs t p 0 S r) (f : zFr M r r1) (k0 : M.contains 0 = false) (k1 : M.contains 1 = false) (k2 : M.contains 2 = false) (k3 : M.contains 3 = false) (k4 : M.contains 4 = false) (k5 : M.contains 5 = false) : xCs t p 0 S r1 := h.fr (f _ k0) (f _ k1) (f _ k2) (f _ k3) (f _ k4) (f _ k5)
theorem kOpA (hE : xCe Lf t p E r) (hS : xCs t p 0 S r) {mo : Int32} {j : Nat} (hj : j < p) : ∃ r1, zFr [182] r r1 ∧ Gk_opensA (nI j) mo r q = (yB (fun i => sAl Lf E S mo j i) t, r1) := by
  have ht : t ≤ 6 := hE.2.1.1
  have k := xLpB (p := t) (M := [182]) (r0 := r) (f := fun i => sAl Lf E S mo j i) (G := Gk_opensA_6 (nI j) mo q) (by
    intro n a i r2 hi f
    have e0 : Gk_opensA_6 (nI j) mo q (n + 1) a (nI i) r2 = Bk_opensA_6 (nI j) mo q (Gk_opensA_6 (nI j) mo q n) a (nI i) r2 := rfl
    have hE2 := hE.fr f (by decide)
    obtain ⟨r3, f3, e3⟩ := kAlA (q := q) hE2 (hS.sA f rfl rfl rfl rfl rfl rfl) (mo := mo) hj hi
    refine ⟨r3, f.tr f3 (by decide), ?_⟩
    rw [e0]
    unfold Bk_opensA_6 Gk_opensA_39
    simp only [zletQ, zifQ, hE2.1.1, nI_1]
    rw [if_neg (nI_leN (by omega) (by omega) (by omega)), e3, xcvr (r := r3)]
    by_cases hv : sAl Lf E S mo j i = 0
    · rw [if_pos hv, if_pos hv]
    · rw [if_neg hv, if_neg hv]) (by
    intro n a r2 f
    have e0 : Gk_opensA_6 (nI j) mo q (n + 1) a (nI t) r2 = Bk_opensA_6 (nI j) mo q (Gk_opensA_6 (nI j) mo q n) a (nI t) r2 := rfl
    have hE2 := hE.fr f (by decide)
    rw [e0]
    unfold Bk_opensA_6
    simp only [zletQ, zifQ, hE2.1.1]
    rw [if_pos (nI_leP (by omega) (by omega) (by omega))]) 7 0 r (by omega) (by omega) zFr.refl
  obtain ⟨r1, f1, e1⟩ := k
  exact ⟨r1, f1, by unfold Gk_opensA; exact e1⟩
end XGA
section XGN
variable {Lf : xLT} {t p : Nat} {E S : Nat → Nat → Int32} {r : zRr} {q : zRq}
theorem kAlN (hE : xCe Lf t p E r) (hS : xCs t p 6 S r) {mo : Int32} {j i : Nat} (hj : j < p) (hi : i < t) : ∃ r1, zFr [182] r r1 ∧ Gk_passesAloneN (nI j) (nI i) mo r q = (sAl Lf E S mo j i, r1) := by
  obtain ⟨_, ⟨e3, e4⟩, e5, e6, e7⟩ := hE
  obtain ⟨s0, s1⟩ := hS
  obtain ⟨_, _, s3, s4, _⟩ := s1 j hj
  have s0 : r 6 5 = S 0 0 := s0
  have s3 : r 8 j = S 2 j := s3
  have s4 : r 9 j = S 3 j := s4
  unfold Gk_passesAloneN Gk_passesAloneN_74 sAl
  simp only [zletQ, zifnQ, xzn (show j < 2 ^ 31 by omega), xzn (show i < 2 ^ 31 by omega), (e5 i hi).1, e6 j hj, s0, s3, s4]
  by_cases k2 : E 2 j = 2
  · rw [if_pos k2, if_pos k2]; exact ⟨r, zFr.refl, rfl⟩
  · rw [if_neg k2, if_neg k2]
    by_cases k3 : E 2 j = 3
    · rw [if_pos k3, if_pos k3]; exact xlw1 (e7 r rfl rfl _ _ _ _ q)
    · rw [if_neg k3, if_neg k3]; exact xlw1 (e7 r rfl rfl _ _ _ _ q)
theorem xCs.sN {r1 : zRr} {M : List Nat} (h : xCs t p 6 S r) (f : zFr M r r1) (k0 : M.contains 6 = false) (k1 : M.contains 7 = false) (k2 : M.contains 8 = false) (k3 : M.contains 9 = false) (k4 : M.contains 10 = false) (k5 : M.contains 11 = false) : xCs t p 6 S r1 := h.fr (f _ k0) (f _ k1) (f _ k2) (f _ k3) (f _ k4) (f _ k5)
theorem kOpN (hE : xCe Lf t p E r) (hS : xCs t p 6 S r) {mo : Int32} {j : Nat} (hj : j < p) : ∃ r1, zFr [182] r r1 ∧ Gk_opensN (nI j) mo r q = (yB (fun i => sAl Lf E S mo j i) t, r1) := by
  have ht : t ≤ 6 := hE.2.1.1
  have k := xLpB (p := t) (M := [182]) (r0 := r) (f := fun i => sAl Lf E S mo j i) (G := Gk_opensN_6 (nI j) mo q) (by
    intro n a i r2 hi f
    have e0 : Gk_opensN_6 (nI j) mo q (n + 1) a (nI i) r2 = Bk_opensN_6 (nI j) mo q (Gk_opensN_6 (nI j) mo q n) a (nI i) r2 := rfl
    have hE2 := hE.fr f (by decide)
    obtain ⟨r3, f3, e3⟩ := kAlN (q := q) hE2 (hS.sN f rfl rfl rfl rfl rfl rfl) (mo := mo) hj hi
    refine ⟨r3, f.tr f3 (by decide), ?_⟩
    rw [e0]
    unfold Bk_opensN_6 Gk_opensN_39
    simp only [zletQ, zifQ, hE2.1.1, nI_1]
    rw [if_neg (nI_leN (by omega) (by omega) (by omega)), e3, xcvr (r := r3)]
    by_cases hv : sAl Lf E S mo j i = 0
    · rw [if_pos hv, if_pos hv]
    · rw [if_neg hv, if_neg hv]) (by
    intro n a r2 f
    have e0 : Gk_opensN_6 (nI j) mo q (n + 1) a (nI t) r2 = Bk_opensN_6 (nI j) mo q (Gk_opensN_6 (nI j) mo q n) a (nI t) r2 := rfl
    have hE2 := hE.fr f (by decide)
    rw [e0]
    unfold Bk_opensN_6
    simp only [zletQ, zifQ, hE2.1.1]
    rw [if_pos (nI_leP (by omega) (by omega) (by omega))]) 7 0 r (by omega) (by omega) zFr.refl
  obtain ⟨r1, f1, e1⟩ := k
  exact ⟨r1, f1, by unfold Gk_opensN; exact e1⟩
theorem kVoN (hE : xCe Lf t p E r) (hS : xCs t p 6 S r) {at_ : Int32} {i : Nat} (hi : i < t) : ∃ r1, zFr [182] r r1 ∧ Gk_voicesN at_ (nI i) r q = (yB (sVo Lf E S 0 at_ i) p, r1) := by
  have hp : p ≤ 6 := hE.2.1.2
  have k := xLpB (p := p) (M := [182]) (r0 := r) (f := sVo Lf E S 0 at_ i) (G := Gk_voicesN_6 at_ (nI i) q) (by
    intro n a j r2 hj f
    have e0 : Gk_voicesN_6 at_ (nI i) q (n + 1) a (nI j) r2 = Bk_voicesN_6 at_ (nI i) q (Gk_voicesN_6 at_ (nI i) q n) a (nI j) r2 := rfl
    have hE2 := hE.fr f (by decide)
    have hS2 := hS.sN f rfl rfl rfl rfl rfl rfl
    obtain ⟨r3, f3, e3⟩ := kAlN (q := q) hE2 hS2 (mo := 0) hj hi
    have k5 := hE2.2.2.2.1 j hj
    have k7 : r2 7 j = S 1 j := (hS2.2 j hj).2.1
    rw [e0]
    unfold Bk_voicesN_6 Gk_voicesN_64 sVo
    simp only [zletQ, zifQ, zifnQ, hE2.1.2.1, nI_1, xzn (show j < 2 ^ 31 by omega), k5, k7]
    rw [if_neg (nI_leN (by omega) (by omega) (by omega))]
    by_cases h1 : E 2 j = 1
    · refine ⟨r2, f, ?_⟩
      rw [if_pos h1, if_pos h1, if_pos rfl]
    · rw [if_neg h1, if_neg h1]
      by_cases h2 : S 1 j = at_
      · refine ⟨r3, f.tr f3 (by decide), ?_⟩
        rw [if_pos h2, if_pos h2, e3, xcvr (r := r3)]
        by_cases hv : sAl Lf E S 0 j i = 0
        · rw [if_pos hv, if_pos hv]
        · rw [if_neg hv, if_neg hv]
      · refine ⟨r2, f, ?_⟩
        rw [if_neg h2, if_neg h2, if_pos rfl]) (by
    intro n a r2 f
    have e0 : Gk_voicesN_6 at_ (nI i) q (n + 1) a (nI p) r2 = Bk_voicesN_6 at_ (nI i) q (Gk_voicesN_6 at_ (nI i) q n) a (nI p) r2 := rfl
    have hE2 := hE.fr f (by decide)
    rw [e0]
    unfold Bk_voicesN_6
    simp only [zletQ, zifQ, hE2.1.2.1]
    rw [if_pos (nI_leP (by omega) (by omega) (by omega))]) 7 0 r (by omega) (by omega) zFr.refl
  obtain ⟨r1, f1, e1⟩ := k
  exact ⟨r1, f1, by unfold Gk_voicesN; exact e1⟩
theorem kLeN (hE : xCe Lf t p E r) (hS : xCs t p 6 S r) {j i : Nat} (hj : j < p) (hi : i < t) : ∃ r1, zFr [182] r r1 ∧ Gk_letsN (nI j) (nI i) r q = (sLe Lf p E S 0 (S 1 j) j i, r1) := by
  have hp : p ≤ 6 := hE.2.1.2
  have k5 := hE.2.2.2.1 j hj
  have k7 : r 7 j = S 1 j := (hS.2 j hj).2.1
  unfold Gk_letsN sLe
  simp only [zletQ, zifQ, zifnQ, xzn (show j < 2 ^ 31 by omega), k5, k7]
  by_cases h1 : E 2 j = 1
  · obtain ⟨r3, f3, e3⟩ := kVoN (q := q) hE hS (at_ := S 1 j) hi
    refine ⟨r3, f3, ?_⟩
    rw [if_pos h1, if_pos h1, e3, xcvr (r := r3)]
    by_cases hv : yB (sVo Lf E S 0 (S 1 j) i) p = 0
    · rw [if_pos hv, if_pos hv]
    · rw [if_neg hv, if_neg hv]
  · obtain ⟨r3, f3, e3⟩ := kAlN (q := q) hE hS (mo := 0) hj hi
    refine ⟨r3, f3, ?_⟩
    rw [if_neg h1, if_neg h1, e3, xcvr (r := r3)]
theorem kGoN (hE : xCe Lf t p E r) (hS : xCs t p 6 S r) {j i : Nat} (hj : j < p) (hi : i < t) : ∃ r1, zFr [182] r r1 ∧ Gk_canGoN (nI j) (nI i) r q = (sGo Lf p E S 0 j i, r1) := by
  have hp : p ≤ 6 := hE.2.1.2
  have k7 : r 7 j = S 1 j := (hS.2 j hj).2.1
  obtain ⟨a, ha, ea⟩ := (hS.2 j hj).1
  have ht : t ≤ 6 := hE.2.1.1
  have k3 : r 173 (zn (S 1 j)) = E 1 (zn (S 1 j)) := by rw [ea, xzn (show a < 2 ^ 31 by omega)]; exact (hE.2.2.1 a ha).2
  obtain ⟨r3, f3, e3⟩ := kLeN (q := q) hE hS hj hi
  unfold Gk_canGoN sGo
  simp only [zletQ, zifQ, xzn (show j < 2 ^ 31 by omega), k7, k3, xh0]
  by_cases h1 : (E 1 (zn (S 1 j)) >>> (nI i &&& 31)) &&& 1 = 0
  · rw [if_pos h1, if_pos h1]; exact ⟨r, zFr.refl, rfl⟩
  · refine ⟨r3, f3, ?_⟩
    rw [if_neg h1, if_neg h1, e3, xcvr (r := r3)]
    by_cases hv : sLe Lf p E S 0 (S 1 j) j i = 0
    · rw [if_pos hv, if_pos hv]
    · rw [if_neg hv, if_neg hv]
theorem kThr (hE : xCe Lf t p E r) (hS : xCs t p 6 S r) {i : Nat} (hi : i < t) : ∃ r1, zFr [182] r r1 ∧ Gk_letThrough (nI i) r q = (sTh Lf p E S i, r1) := by
  have hp : p ≤ 6 := hE.2.1.2
  have k := xLpB (p := p) (M := [182]) (r0 := r) (f := fun j => sLe Lf p E S 0 (S 1 j) j i) (G := Gk_letThrough_5 (nI i) q) (by
    intro n a j r2 hj f
    have e0 : Gk_letThrough_5 (nI i) q (n + 1) a (nI j) r2 = Bk_letThrough_5 (nI i) q (Gk_letThrough_5 (nI i) q n) a (nI j) r2 := rfl
    have hE2 := hE.fr f (by decide)
    obtain ⟨r3, f3, e3⟩ := kLeN (q := q) hE2 (hS.sN f rfl rfl rfl rfl rfl rfl) hj hi
    refine ⟨r3, f.tr f3 (by decide), ?_⟩
    rw [e0]
    unfold Bk_letThrough_5 Gk_letThrough_35
    simp only [zletQ, zifQ, hE2.1.2.1, nI_1]
    rw [if_neg (nI_leN (by omega) (by omega) (by omega)), e3, xcvr (r := r3)]
    by_cases hv : sLe Lf p E S 0 (S 1 j) j i = 0
    · rw [if_pos hv, if_pos hv]
    · rw [if_neg hv, if_neg hv]) (by
    intro n a r2 f
    have e0 : Gk_letThrough_5 (nI i) q (n + 1) a (nI p) r2 = Bk_letThrough_5 (nI i) q (Gk_letThrough_5 (nI i) q n) a (nI p) r2 := rfl
    have hE2 := hE.fr f (by decide)
    rw [e0]
    unfold Bk_letThrough_5
    simp only [zletQ, zifQ, hE2.1.2.1]
    rw [if_pos (nI_leP (by omega) (by omega) (by omega))]) 7 0 r (by omega) (by omega) zFr.refl
  obtain ⟨r1, f1, e1⟩ := k
  exact ⟨r1, f1, by unfold Gk_letThrough sTh; exact e1⟩
end XGN
section XGT
variable {Lf : xLT} {t p : Nat} {E S : Nat → Nat → Int32} {r : zRr} {q : zRq}
theorem kAlT (hE : xCe Lf t p E r) (hS : xCs t p 12 S r) {mo : Int32} {j i : Nat} (hj : j < p) (hi : i < t) : ∃ r1, zFr [182] r r1 ∧ Gk_passesAloneT (nI j) (nI i) mo r q = (sAl Lf E S mo j i, r1) := by
  obtain ⟨_, ⟨e3, e4⟩, e5, e6, e7⟩ := hE
  obtain ⟨s0, s1⟩ := hS
  obtain ⟨_, _, s3, s4, _⟩ := s1 j hj
  have s0 : r 12 5 = S 0 0 := s0
  have s3 : r 14 j = S 2 j := s3
  have s4 : r 15 j = S 3 j := s4
  unfold Gk_passesAloneT Gk_passesAloneT_74 sAl
  simp only [zletQ, zifnQ, xzn (show j < 2 ^ 31 by omega), xzn (show i < 2 ^ 31 by omega), (e5 i hi).1, e6 j hj, s0, s3, s4]
  by_cases k2 : E 2 j = 2
  · rw [if_pos k2, if_pos k2]; exact ⟨r, zFr.refl, rfl⟩
  · rw [if_neg k2, if_neg k2]
    by_cases k3 : E 2 j = 3
    · rw [if_pos k3, if_pos k3]; exact xlw1 (e7 r rfl rfl _ _ _ _ q)
    · rw [if_neg k3, if_neg k3]; exact xlw1 (e7 r rfl rfl _ _ _ _ q)
theorem xCs.sT {r1 : zRr} {M : List Nat} (h : xCs t p 12 S r) (f : zFr M r r1) (k0 : M.contains 12 = false) (k1 : M.contains 13 = false) (k2 : M.contains 14 = false) (k3 : M.contains 15 = false) (k4 : M.contains 16 = false) (k5 : M.contains 17 = false) : xCs t p 12 S r1 := h.fr (f _ k0) (f _ k1) (f _ k2) (f _ k3) (f _ k4) (f _ k5)
theorem kOpT (hE : xCe Lf t p E r) (hS : xCs t p 12 S r) {mo : Int32} {j : Nat} (hj : j < p) : ∃ r1, zFr [182] r r1 ∧ Gk_opensT (nI j) mo r q = (yB (fun i => sAl Lf E S mo j i) t, r1) := by
  have ht : t ≤ 6 := hE.2.1.1
  have k := xLpB (p := t) (M := [182]) (r0 := r) (f := fun i => sAl Lf E S mo j i) (G := Gk_opensT_6 (nI j) mo q) (by
    intro n a i r2 hi f
    have e0 : Gk_opensT_6 (nI j) mo q (n + 1) a (nI i) r2 = Bk_opensT_6 (nI j) mo q (Gk_opensT_6 (nI j) mo q n) a (nI i) r2 := rfl
    have hE2 := hE.fr f (by decide)
    obtain ⟨r3, f3, e3⟩ := kAlT (q := q) hE2 (hS.sT f rfl rfl rfl rfl rfl rfl) (mo := mo) hj hi
    refine ⟨r3, f.tr f3 (by decide), ?_⟩
    rw [e0]
    unfold Bk_opensT_6 Gk_opensT_39
    simp only [zletQ, zifQ, hE2.1.1, nI_1]
    rw [if_neg (nI_leN (by omega) (by omega) (by omega)), e3, xcvr (r := r3)]
    by_cases hv : sAl Lf E S mo j i = 0
    · rw [if_pos hv, if_pos hv]
    · rw [if_neg hv, if_neg hv]) (by
    intro n a r2 f
    have e0 : Gk_opensT_6 (nI j) mo q (n + 1) a (nI t) r2 = Bk_opensT_6 (nI j) mo q (Gk_opensT_6 (nI j) mo q n) a (nI t) r2 := rfl
    have hE2 := hE.fr f (by decide)
    rw [e0]
    unfold Bk_opensT_6
    simp only [zletQ, zifQ, hE2.1.1]
    rw [if_pos (nI_leP (by omega) (by omega) (by omega))]) 7 0 r (by omega) (by omega) zFr.refl
  obtain ⟨r1, f1, e1⟩ := k
  exact ⟨r1, f1, by unfold Gk_opensT; exact e1⟩
theorem kVoT (hE : xCe Lf t p E r) (hS : xCs t p 12 S r) {at_ : Int32} {i : Nat} (hi : i < t) : ∃ r1, zFr [182] r r1 ∧ Gk_voicesT at_ (nI i) r q = (yB (sVo Lf E S 0 at_ i) p, r1) := by
  have hp : p ≤ 6 := hE.2.1.2
  have k := xLpB (p := p) (M := [182]) (r0 := r) (f := sVo Lf E S 0 at_ i) (G := Gk_voicesT_6 at_ (nI i) q) (by
    intro n a j r2 hj f
    have e0 : Gk_voicesT_6 at_ (nI i) q (n + 1) a (nI j) r2 = Bk_voicesT_6 at_ (nI i) q (Gk_voicesT_6 at_ (nI i) q n) a (nI j) r2 := rfl
    have hE2 := hE.fr f (by decide)
    have hS2 := hS.sT f rfl rfl rfl rfl rfl rfl
    obtain ⟨r3, f3, e3⟩ := kAlT (q := q) hE2 hS2 (mo := 0) hj hi
    have k5 := hE2.2.2.2.1 j hj
    have k7 : r2 13 j = S 1 j := (hS2.2 j hj).2.1
    rw [e0]
    unfold Bk_voicesT_6 Gk_voicesT_64 sVo
    simp only [zletQ, zifQ, zifnQ, hE2.1.2.1, nI_1, xzn (show j < 2 ^ 31 by omega), k5, k7]
    rw [if_neg (nI_leN (by omega) (by omega) (by omega))]
    by_cases h1 : E 2 j = 1
    · refine ⟨r2, f, ?_⟩
      rw [if_pos h1, if_pos h1, if_pos rfl]
    · rw [if_neg h1, if_neg h1]
      by_cases h2 : S 1 j = at_
      · refine ⟨r3, f.tr f3 (by decide), ?_⟩
        rw [if_pos h2, if_pos h2, e3, xcvr (r := r3)]
        by_cases hv : sAl Lf E S 0 j i = 0
        · rw [if_pos hv, if_pos hv]
        · rw [if_neg hv, if_neg hv]
      · refine ⟨r2, f, ?_⟩
        rw [if_neg h2, if_neg h2, if_pos rfl]) (by
    intro n a r2 f
    have e0 : Gk_voicesT_6 at_ (nI i) q (n + 1) a (nI p) r2 = Bk_voicesT_6 at_ (nI i) q (Gk_voicesT_6 at_ (nI i) q n) a (nI p) r2 := rfl
    have hE2 := hE.fr f (by decide)
    rw [e0]
    unfold Bk_voicesT_6
    simp only [zletQ, zifQ, hE2.1.2.1]
    rw [if_pos (nI_leP (by omega) (by omega) (by omega))]) 7 0 r (by omega) (by omega) zFr.refl
  obtain ⟨r1, f1, e1⟩ := k
  exact ⟨r1, f1, by unfold Gk_voicesT; exact e1⟩
theorem kLeT (hE : xCe Lf t p E r) (hS : xCs t p 12 S r) {j i : Nat} (hj : j < p) (hi : i < t) : ∃ r1, zFr [182] r r1 ∧ Gk_letsT (nI j) (nI i) r q = (sLe Lf p E S 0 (S 1 j) j i, r1) := by
  have hp : p ≤ 6 := hE.2.1.2
  have k5 := hE.2.2.2.1 j hj
  have k7 : r 13 j = S 1 j := (hS.2 j hj).2.1
  unfold Gk_letsT sLe
  simp only [zletQ, zifQ, zifnQ, xzn (show j < 2 ^ 31 by omega), k5, k7]
  by_cases h1 : E 2 j = 1
  · obtain ⟨r3, f3, e3⟩ := kVoT (q := q) hE hS (at_ := S 1 j) hi
    refine ⟨r3, f3, ?_⟩
    rw [if_pos h1, if_pos h1, e3, xcvr (r := r3)]
    by_cases hv : yB (sVo Lf E S 0 (S 1 j) i) p = 0
    · rw [if_pos hv, if_pos hv]
    · rw [if_neg hv, if_neg hv]
  · obtain ⟨r3, f3, e3⟩ := kAlT (q := q) hE hS (mo := 0) hj hi
    refine ⟨r3, f3, ?_⟩
    rw [if_neg h1, if_neg h1, e3, xcvr (r := r3)]
theorem kGoT (hE : xCe Lf t p E r) (hS : xCs t p 12 S r) {j i : Nat} (hj : j < p) (hi : i < t) : ∃ r1, zFr [182] r r1 ∧ Gk_canGoT (nI j) (nI i) r q = (sGo Lf p E S 0 j i, r1) := by
  have hp : p ≤ 6 := hE.2.1.2
  have k7 : r 13 j = S 1 j := (hS.2 j hj).2.1
  obtain ⟨a, ha, ea⟩ := (hS.2 j hj).1
  have ht : t ≤ 6 := hE.2.1.1
  have k3 : r 173 (zn (S 1 j)) = E 1 (zn (S 1 j)) := by rw [ea, xzn (show a < 2 ^ 31 by omega)]; exact (hE.2.2.1 a ha).2
  obtain ⟨r3, f3, e3⟩ := kLeT (q := q) hE hS hj hi
  unfold Gk_canGoT sGo
  simp only [zletQ, zifQ, xzn (show j < 2 ^ 31 by omega), k7, k3, xh0]
  by_cases h1 : (E 1 (zn (S 1 j)) >>> (nI i &&& 31)) &&& 1 = 0
  · rw [if_pos h1, if_pos h1]; exact ⟨r, zFr.refl, rfl⟩
  · refine ⟨r3, f3, ?_⟩
    rw [if_neg h1, if_neg h1, e3, xcvr (r := r3)]
    by_cases hv : sLe Lf p E S 0 (S 1 j) j i = 0
    · rw [if_pos hv, if_pos hv]
    · rw [if_neg hv, if_neg hv]
end XGT
