/-! ===== how it is: a standing, on both sides ===== -/
def xZr (p : Nat) (f : Nat → Int32) : Prop := ∀ j, p ≤ j → j < 6 → f (13 + j) = 0 ∧ f (19 + j) = 0
/-- the class's at row b, the reference's as f -/
def xSt (t p b : Nat) (r : zRr) (f : Nat → Int32) : Prop := ∃ S, xCs t p b S r ∧ xMs t p S f ∧ xZr p f
section XST
variable {t p b : Nat} {S : Nat → Nat → Int32} {r r1 : zRr} {f g : Nat → Int32}
theorem xCs.eq (h : xCs t p b S r) (k : ∀ i, i < 6 → r1 (b + i) = r (b + i)) : xCs t p b S r1 := h.fr (k 0 (by omega)) (k 1 (by omega)) (k 2 (by omega)) (k 3 (by omega)) (k 4 (by omega)) (k 5 (by omega))
theorem xMs.eq (h : xMs t p S f) (hp : p ≤ 6) (k : ∀ i, i < 31 → g i = f i) : xMs t p S g := by
  refine ⟨by rw [k 0 (by omega)]; exact h.1, fun j hj => ?_⟩
  rw [k (1 + j) (by omega), k (7 + j) (by omega), k (13 + j) (by omega), k (19 + j) (by omega), k (25 + j) (by omega)]
  exact h.2 j hj
theorem xSt.eq (h : xSt t p b r f) (hp : p ≤ 6) (k : ∀ i, i < 6 → r1 (b + i) = r (b + i)) (m : ∀ i, i < 31 → g i = f i) : xSt t p b r1 g := by
  obtain ⟨S, h1, h2, h3⟩ := h
  exact ⟨S, h1.eq k, h2.eq hp m, fun j a c => by rw [m (13 + j) (by omega), m (19 + j) (by omega)]; exact h3 j a c⟩
theorem xCs.cp {n : Nat} (h : xCs t p b S r) (hp : p ≤ 6) : xCs t p n S (kcp8 r n b) := by
  refine ⟨by rw [kcp8_0, pk_us]; exact h.1, fun j hj => ?_⟩
  rw [kcp8_k (k := 1) ⟨by decide, by decide⟩, kcp8_k (k := 2) ⟨by decide, by decide⟩, kcp8_k (k := 3) ⟨by decide, by decide⟩, kcp8_k (k := 4) ⟨by decide, by decide⟩, kcp8_k (k := 5) ⟨by decide, by decide⟩, xcpy (by omega), xcpy (by omega), xcpy (by omega), xcpy (by omega), xcpy (by omega)]
  exact h.2 j hj
theorem xSt.cp {n : Nat} (h : xSt t p b r f) (hp : p ≤ 6) : xSt t p n (kcp8 r n b) f := by
  obtain ⟨S, h1, h2, h3⟩ := h
  exact ⟨S, h1.cp hp, h2, h3⟩
theorem xCs.set {k j : Nat} {v : Int32} (h : xCs t p b S r) (hk : 1 ≤ k ∧ k ≤ 5) (hv : k = 1 → ∃ a, a < t ∧ v = nI a) : xCs t p b (xs S k j v) (xs r (b + k) j v) := by
  refine ⟨?_, fun i hi => ?_⟩
  · unfold xs
    rw [zset_ne (show b ≠ b + k by omega), zset_ne (show 0 ≠ k by omega)]
    exact h.1
  · obtain ⟨g1, g2, g3, g4, g5, g6⟩ := h.2 i hi
    have e : ∀ k1, r (b + k1) i = S k1 i → xs r (b + k) j v (b + k1) i = xs S k j v k1 i := by
      intro k1 e
      unfold xs
      by_cases c : k1 = k
      · subst c
        rw [zset_eq, zset_eq]
        by_cases d : i = j
        · subst d; rw [pk_us, pk_us]
        · rw [pk_un d, pk_un d]; exact e
      · rw [zset_ne (show b + k1 ≠ b + k by omega), zset_ne c]; exact e
    refine ⟨?_, e 1 g2, e 2 g3, e 3 g4, e 4 g5, e 5 g6⟩
    by_cases c : k = 1
    · subst c
      unfold xs
      rw [zset_eq]
      by_cases d : i = j
      · subst d; rw [pk_us]; exact hv rfl
      · rw [pk_un d]; exact g1
    · unfold xs
      rw [zset_ne (show 1 ≠ k from fun h => c h.symm)]; exact g1
theorem xMs.set {k j o : Nat} {v : Int32} (h : xMs t p S f) (hp : p ≤ 6) (hk : 1 ≤ k ∧ k ≤ 5) (hj : j < 6) (ho : o + 5 = 6 * k + j) (hv : k = 1 → ∃ a, a < t ∧ v = nI a) : xMs t p (xs S k j v) (upd f o v) := by
  refine ⟨?_, fun i hi => ?_⟩
  · unfold xs
    rw [pk_un (show 0 ≠ o by omega), zset_ne (show 0 ≠ k by omega)]
    exact h.1
  · obtain ⟨g1, g2, g3, g4, g5, g6⟩ := h.2 i hi
    have e : ∀ k1 o1, o1 + 5 = 6 * k1 + i → f o1 = S k1 i → upd f o v o1 = xs S k j v k1 i := by
      intro k1 o1 h3 h4
      unfold xs
      by_cases c : k1 = k
      · subst c
        rw [zset_eq]
        by_cases d : i = j
        · subst d; rw [show o1 = o by omega, pk_us, pk_us]
        · rw [pk_un (show o1 ≠ o by omega), pk_un d]; exact h4
      · rw [zset_ne c, pk_un (show o1 ≠ o by omega)]; exact h4
    refine ⟨?_, e 1 _ (by omega) g2, e 2 _ (by omega) g3, e 3 _ (by omega) g4, e 4 _ (by omega) g5, e 5 _ (by omega) g6⟩
    by_cases c : k = 1
    · subst c
      unfold xs
      rw [zset_eq]
      by_cases d : i = j
      · subst d; rw [pk_us]; exact hv rfl
      · rw [pk_un d]; exact g1
    · unfold xs
      rw [zset_ne (show 1 ≠ k from fun h => c h.symm)]; exact g1
theorem xZr.set {k j o : Nat} {v : Int32} (h : xZr p f) (hj : j < p) (hp : p ≤ 6) (ho : o + 5 = 6 * k + j) : xZr p (upd f o v) := by
  intro i h1 h2
  rw [pk_un (show 13 + i ≠ o by omega), pk_un (show 19 + i ≠ o by omega)]
  exact h i h1 h2
end XST
/-- a loop that changes what is kept -/
theorem xLpS {p : Nat} {G : Nat → Int32 → zRr → zRr} {I : Nat → zRr → Prop} {Q : zRr → Prop} (hs : ∀ n i r, i < p → I i r → ∃ r1, I (i + 1) r1 ∧ G (n + 1) (nI i) r = G n (nI (i + 1)) r1) (he : ∀ n r, I p r → Q (G (n + 1) (nI p) r)) : ∀ n i r, i ≤ p → p < n + i → I i r → Q (G n (nI i) r) := by
  intro n
  induction n with
  | zero => intro i r h1 h2; omega
  | succ n ih =>
    intro i r h1 h2 h3
    by_cases e : i = p
    · subst e; exact he n r h3
    · obtain ⟨r1, k1, k2⟩ := hs n i r (by omega) h3
      rw [k2]
      exact ih (i + 1) r1 (by omega) (by omega) k1
/-- a move, a razor, a forger -/
noncomputable def sMv (S : Nat → Nat → Int32) (j i : Nat) : Nat → Nat → Int32 := xs (xs S 1 j (nI i)) 5 j (S 5 j ||| ((1 : Int32) <<< (nI i &&& 31)))
noncomputable def sRz (S : Nat → Nat → Int32) (j : Nat) : Nat → Nat → Int32 := xs (xs S 2 j 0) 3 j 0
noncomputable def sFg (E S : Nat → Nat → Int32) (j : Nat) (v : Int32) : Nat → Nat → Int32 := xs (xs S 3 j (S 3 j + v)) 4 j (S 4 j - v * E 3 1)
/-- a week -/
noncomputable def sGr (g x : Int32) : Int32 := if 60 < x + g then 60 else x + g
noncomputable def sWk (E S : Nat → Nat → Int32) : Nat → Nat → Int32 := zset (zset S 0 (fun j => S 0 j + 1)) 2 (fun j => if E 2 j = 1 then S 2 j else sGr (E 3 0) (S 2 j))
/-- as it is told -/
noncomputable def sBg (E : Nat → Nat → Int32) : Nat → Nat → Int32 := fun k => if k = 1 then E 4 else if k = 2 then E 5 else if k = 4 then E 6 else if k = 5 then fun j => (1 : Int32) <<< (E 4 j &&& 31) else fun _ => 0
def xCh (t p : Nat) (E : Nat → Nat → Int32) (r : zRr) : Prop := ∀ j, j < p → (∃ a, a < t ∧ E 4 j = nI a) ∧ r 176 j = E 4 j ∧ r 177 j = E 5 j ∧ r 178 j = E 6 j
def xMh (t p : Nat) (E : Nat → Nat → Int32) (r : zRr) : Prop := ∀ j, j < p → (∃ a, a < t ∧ E 4 j = nI a) ∧ r 7 j = E 4 j ∧ r 8 j = E 5 j ∧ r 9 j = E 6 j
theorem sGr_min {x : Int32} : (if x < 60 then x else 60) = if 60 < x then (60 : Int32) else x := by
  have c : (60 : Int32).toInt = 60 := by decide
  by_cases h : x < 60
  · have h2 : ¬ 60 < x := fun k => by rw [Int32.lt_iff_toInt_lt] at h k; omega
    rw [if_pos h, if_neg h2]
  · rw [if_neg h]
    by_cases h2 : 60 < x
    · rw [if_pos h2]
    · rw [if_neg h2]
      exact Int32.toInt_inj.mp (by rw [Int32.lt_iff_toInt_lt] at h h2; omega)
section XWKA
variable {Lf : xLT} {t p : Nat} {E S : Nat → Nat → Int32} {r : zRr} {q : zRq}
theorem kWkA (hE : xCe Lf t p E r) (hS : xCs t p 0 S r) : xCs t p 0 (sWk E S) (Gk_passWeekA r q) ∧ zFr [0, 2] r (Gk_passWeekA r q) := by
  have hp : p ≤ 6 := hE.2.1.2
  unfold Gk_passWeekA
  simp only [zletQ]
  have f0 : zFr [0, 2] r (zset r 0 (upd (r 0) 5 (r 0 5 + 1))) := zFr.refl.set rfl
  have k := xLpS (p := p) (G := Gk_passWeekA_12) (I := fun i r1 => zFr [0, 2] r r1 ∧ r1 0 5 = S 0 0 + 1 ∧ ∀ j, j < p → r1 2 j = if j < i then sWk E S 2 j else S 2 j) (Q := fun r1 => zFr [0, 2] r r1 ∧ r1 0 5 = S 0 0 + 1 ∧ ∀ j, j < p → r1 2 j = sWk E S 2 j) (by
    intro n i r2 hi ⟨f2, w2, c2⟩
    have e0 : Gk_passWeekA_12 (n + 1) (nI i) r2 = Bk_passWeekA_12 (Gk_passWeekA_12 n) (nI i) r2 := rfl
    have k10 : r2 171 10 = nI p := by rw [f2 171 rfl]; exact hE.1.2.1
    have k11 : r2 171 11 = E 3 0 := by rw [f2 171 rfl]; exact hE.1.2.2.1
    have k5 : r2 175 i = E 2 i := by rw [f2 175 rfl]; exact hE.2.2.2.1 i hi
    have k2 : r2 2 i = S 2 i := by rw [c2 i hi, if_neg (by omega)]
    have es : sWk E S 2 i = if E 2 i = 1 then S 2 i else sGr (E 3 0) (S 2 i) := rfl
    rw [e0]
    unfold Bk_passWeekA_12 Gk_passWeekA_63
    simp only [zletQ, zifQ, k10, k11, nI_1, xzn (show i < 2 ^ 31 by omega), k5, k2]
    rw [if_neg (nI_leN (by omega) (by omega) (by omega))]
    by_cases h1 : E 2 i = 1
    · rw [if_pos h1]
      refine ⟨r2, ⟨f2, w2, fun j hj => ?_⟩, rfl⟩
      by_cases e : j = i
      · subst e; rw [k2, if_pos (by omega), es, if_pos h1]
      · rw [c2 j hj]
        by_cases l : j < i
        · rw [if_pos l, if_pos (by omega)]
        · rw [if_neg l, if_neg (by omega)]
    · rw [if_neg h1]
      refine ⟨zset r2 2 (upd (r2 2) i (sGr (E 3 0) (S 2 i))), ⟨f2.set rfl, w2, fun j hj => ?_⟩, rfl⟩
      rw [zset_eq]
      by_cases e : j = i
      · subst e; rw [pk_us, if_pos (by omega), es, if_neg h1]
      · rw [pk_un e, c2 j hj]
        by_cases l : j < i
        · rw [if_pos l, if_pos (by omega)]
        · rw [if_neg l, if_neg (by omega)]) (by
    intro n r2 ⟨f2, w2, c2⟩
    have e0 : Gk_passWeekA_12 (n + 1) (nI p) r2 = Bk_passWeekA_12 (Gk_passWeekA_12 n) (nI p) r2 := rfl
    have k10 : r2 171 10 = nI p := by rw [f2 171 rfl]; exact hE.1.2.1
    rw [e0]
    unfold Bk_passWeekA_12
    simp only [zletQ, zifQ, k10]
    rw [if_pos (nI_leP (by omega) (by omega) (by omega))]
    exact ⟨f2, w2, fun j hj => by rw [c2 j hj, if_pos hj]⟩) 7 0 (zset r 0 (upd (r 0) 5 (r 0 5 + 1))) (by omega) (by omega) ⟨f0, by rw [zset_eq, pk_us, hS.1], fun j hj => by rw [if_neg (by omega), zset_ne (by decide)]; exact (hS.2 j hj).2.2.1⟩
  obtain ⟨f, w, c⟩ := k
  refine ⟨⟨w, fun j hj => ?_⟩, f⟩
  obtain ⟨g1, g2, g3, g4, g5, g6⟩ := hS.2 j hj
  exact ⟨g1, (congrFun (f 1 rfl) j).trans g2, c j hj, (congrFun (f 3 rfl) j).trans g4, (congrFun (f 4 rfl) j).trans g5, (congrFun (f 5 rfl) j).trans g6⟩
end XWKA
section XWKN
variable {Lf : xLT} {t p : Nat} {E S : Nat → Nat → Int32} {r : zRr} {q : zRq}
theorem kWkN (hE : xCe Lf t p E r) (hS : xCs t p 6 S r) : xCs t p 6 (sWk E S) (Gk_passWeekN r q) ∧ zFr [6, 8] r (Gk_passWeekN r q) := by
  have hp : p ≤ 6 := hE.2.1.2
  unfold Gk_passWeekN
  simp only [zletQ]
  have f0 : zFr [6, 8] r (zset r 6 (upd (r 6) 5 (r 6 5 + 1))) := zFr.refl.set rfl
  have k := xLpS (p := p) (G := Gk_passWeekN_12) (I := fun i r1 => zFr [6, 8] r r1 ∧ r1 6 5 = S 0 0 + 1 ∧ ∀ j, j < p → r1 8 j = if j < i then sWk E S 2 j else S 2 j) (Q := fun r1 => zFr [6, 8] r r1 ∧ r1 6 5 = S 0 0 + 1 ∧ ∀ j, j < p → r1 8 j = sWk E S 2 j) (by
    intro n i r2 hi ⟨f2, w2, c2⟩
    have e0 : Gk_passWeekN_12 (n + 1) (nI i) r2 = Bk_passWeekN_12 (Gk_passWeekN_12 n) (nI i) r2 := rfl
    have k10 : r2 171 10 = nI p := by rw [f2 171 rfl]; exact hE.1.2.1
    have k11 : r2 171 11 = E 3 0 := by rw [f2 171 rfl]; exact hE.1.2.2.1
    have k5 : r2 175 i = E 2 i := by rw [f2 175 rfl]; exact hE.2.2.2.1 i hi
    have k2 : r2 8 i = S 2 i := by rw [c2 i hi, if_neg (by omega)]
    have es : sWk E S 2 i = if E 2 i = 1 then S 2 i else sGr (E 3 0) (S 2 i) := rfl
    rw [e0]
    unfold Bk_passWeekN_12 Gk_passWeekN_63
    simp only [zletQ, zifQ, k10, k11, nI_1, xzn (show i < 2 ^ 31 by omega), k5, k2]
    rw [if_neg (nI_leN (by omega) (by omega) (by omega))]
    by_cases h1 : E 2 i = 1
    · rw [if_pos h1]
      refine ⟨r2, ⟨f2, w2, fun j hj => ?_⟩, rfl⟩
      by_cases e : j = i
      · subst e; rw [k2, if_pos (by omega), es, if_pos h1]
      · rw [c2 j hj]
        by_cases l : j < i
        · rw [if_pos l, if_pos (by omega)]
        · rw [if_neg l, if_neg (by omega)]
    · rw [if_neg h1]
      refine ⟨zset r2 8 (upd (r2 8) i (sGr (E 3 0) (S 2 i))), ⟨f2.set rfl, w2, fun j hj => ?_⟩, rfl⟩
      rw [zset_eq]
      by_cases e : j = i
      · subst e; rw [pk_us, if_pos (by omega), es, if_neg h1]
      · rw [pk_un e, c2 j hj]
        by_cases l : j < i
        · rw [if_pos l, if_pos (by omega)]
        · rw [if_neg l, if_neg (by omega)]) (by
    intro n r2 ⟨f2, w2, c2⟩
    have e0 : Gk_passWeekN_12 (n + 1) (nI p) r2 = Bk_passWeekN_12 (Gk_passWeekN_12 n) (nI p) r2 := rfl
    have k10 : r2 171 10 = nI p := by rw [f2 171 rfl]; exact hE.1.2.1
    rw [e0]
    unfold Bk_passWeekN_12
    simp only [zletQ, zifQ, k10]
    rw [if_pos (nI_leP (by omega) (by omega) (by omega))]
    exact ⟨f2, w2, fun j hj => by rw [c2 j hj, if_pos hj]⟩) 7 0 (zset r 6 (upd (r 6) 5 (r 6 5 + 1))) (by omega) (by omega) ⟨f0, by rw [zset_eq, pk_us, hS.1], fun j hj => by rw [if_neg (by omega), zset_ne (by decide)]; exact (hS.2 j hj).2.2.1⟩
  obtain ⟨f, w, c⟩ := k
  refine ⟨⟨w, fun j hj => ?_⟩, f⟩
  obtain ⟨g1, g2, g3, g4, g5, g6⟩ := hS.2 j hj
  exact ⟨g1, (congrFun (f 7 rfl) j).trans g2, c j hj, (congrFun (f 9 rfl) j).trans g4, (congrFun (f 10 rfl) j).trans g5, (congrFun (f 11 rfl) j).trans g6⟩
end XWKN
section XWKT
variable {Lf : xLT} {t p : Nat} {E S : Nat → Nat → Int32} {r : zRr} {q : zRq}
theorem kWkT (hE : xCe Lf t p E r) (hS : xCs t p 12 S r) : xCs t p 12 (sWk E S) (Gk_passWeekT r q) ∧ zFr [12, 14] r (Gk_passWeekT r q) := by
  have hp : p ≤ 6 := hE.2.1.2
  unfold Gk_passWeekT
  simp only [zletQ]
  have f0 : zFr [12, 14] r (zset r 12 (upd (r 12) 5 (r 12 5 + 1))) := zFr.refl.set rfl
  have k := xLpS (p := p) (G := Gk_passWeekT_12) (I := fun i r1 => zFr [12, 14] r r1 ∧ r1 12 5 = S 0 0 + 1 ∧ ∀ j, j < p → r1 14 j = if j < i then sWk E S 2 j else S 2 j) (Q := fun r1 => zFr [12, 14] r r1 ∧ r1 12 5 = S 0 0 + 1 ∧ ∀ j, j < p → r1 14 j = sWk E S 2 j) (by
    intro n i r2 hi ⟨f2, w2, c2⟩
    have e0 : Gk_passWeekT_12 (n + 1) (nI i) r2 = Bk_passWeekT_12 (Gk_passWeekT_12 n) (nI i) r2 := rfl
    have k10 : r2 171 10 = nI p := by rw [f2 171 rfl]; exact hE.1.2.1
    have k11 : r2 171 11 = E 3 0 := by rw [f2 171 rfl]; exact hE.1.2.2.1
    have k5 : r2 175 i = E 2 i := by rw [f2 175 rfl]; exact hE.2.2.2.1 i hi
    have k2 : r2 14 i = S 2 i := by rw [c2 i hi, if_neg (by omega)]
    have es : sWk E S 2 i = if E 2 i = 1 then S 2 i else sGr (E 3 0) (S 2 i) := rfl
    rw [e0]
    unfold Bk_passWeekT_12 Gk_passWeekT_63
    simp only [zletQ, zifQ, k10, k11, nI_1, xzn (show i < 2 ^ 31 by omega), k5, k2]
    rw [if_neg (nI_leN (by omega) (by omega) (by omega))]
    by_cases h1 : E 2 i = 1
    · rw [if_pos h1]
      refine ⟨r2, ⟨f2, w2, fun j hj => ?_⟩, rfl⟩
      by_cases e : j = i
      · subst e; rw [k2, if_pos (by omega), es, if_pos h1]
      · rw [c2 j hj]
        by_cases l : j < i
        · rw [if_pos l, if_pos (by omega)]
        · rw [if_neg l, if_neg (by omega)]
    · rw [if_neg h1]
      refine ⟨zset r2 14 (upd (r2 14) i (sGr (E 3 0) (S 2 i))), ⟨f2.set rfl, w2, fun j hj => ?_⟩, rfl⟩
      rw [zset_eq]
      by_cases e : j = i
      · subst e; rw [pk_us, if_pos (by omega), es, if_neg h1]
      · rw [pk_un e, c2 j hj]
        by_cases l : j < i
        · rw [if_pos l, if_pos (by omega)]
        · rw [if_neg l, if_neg (by omega)]) (by
    intro n r2 ⟨f2, w2, c2⟩
    have e0 : Gk_passWeekT_12 (n + 1) (nI p) r2 = Bk_passWeekT_12 (Gk_passWeekT_12 n) (nI p) r2 := rfl
    have k10 : r2 171 10 = nI p := by rw [f2 171 rfl]; exact hE.1.2.1
    rw [e0]
    unfold Bk_passWeekT_12
    simp only [zletQ, zifQ, k10]
    rw [if_pos (nI_leP (by omega) (by omega) (by omega))]
    exact ⟨f2, w2, fun j hj => by rw [c2 j hj, if_pos hj]⟩) 7 0 (zset r 12 (upd (r 12) 5 (r 12 5 + 1))) (by omega) (by omega) ⟨f0, by rw [zset_eq, pk_us, hS.1], fun j hj => by rw [if_neg (by omega), zset_ne (by decide)]; exact (hS.2 j hj).2.2.1⟩
  obtain ⟨f, w, c⟩ := k
  refine ⟨⟨w, fun j hj => ?_⟩, f⟩
  obtain ⟨g1, g2, g3, g4, g5, g6⟩ := hS.2 j hj
  exact ⟨g1, (congrFun (f 13 rfl) j).trans g2, c j hj, (congrFun (f 15 rfl) j).trans g4, (congrFun (f 16 rfl) j).trans g5, (congrFun (f 17 rfl) j).trans g6⟩
end XWKT
