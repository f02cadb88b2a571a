/-! ===== what is told so far, on both sides; what a line leaves as it was ===== -/
def xDt (t : Nat) (r : zRr) (q : zRq) (rm : zRr) (qm : zRq) : Prop := r 183 9 = nI t ∧ rm 1 4 = nI t ∧ t ≤ 6 ∧ (∀ i, i < t → r 184 i = rm 4 (6 + i) ∧ (r 185 i = rm 5 (6 + i) ∧ ∃ m, m < 2 ^ t ∧ r 185 i = nI m) ∧ xN (q 186 i) (qm 2 (6 + i))) ∧ ∀ i, t ≤ i → i < 6 → r 185 i = 0
def xDp (t p : Nat) (r : zRr) (q : zRq) (rm : zRr) (qm : zRq) : Prop := r 183 10 = nI p ∧ rm 1 5 = nI p ∧ p ≤ 6 ∧ ∀ i, i < p → r 187 i = rm 6 (6 + i) ∧ (r 188 i = rm 7 (6 + i) ∧ ∃ a, a < t ∧ r 188 i = nI a) ∧ r 189 i = rm 8 (6 + i) ∧ r 190 i = rm 9 (6 + i) ∧ xN (q 191 i) (qm 3 (6 + i))
def xDn (r rm : zRr) : Prop := r 183 11 = rm 1 6 ∧ r 183 12 = rm 1 7 ∧ ∃ g i : Nat, g ≤ 1 ∧ i ≤ 1 ∧ r 198 0 = nI g ∧ r 198 1 = nI i ∧ rm 123 0 = nI (4 * g + 8 * i)
/-- the law: not told, or told -/
def xDl (r rm : zRr) : Prop := rm 10 1 = 1000 ∧ ((r 198 2 = 0 ∧ rm 11 1 = 1000 ∧ xCod [-1, -3, -8, -5] [] r rm) ∨ (r 198 2 = 1 ∧ ∃ C F, xEq 4 5 C F ∧ 1 ≤ F.length ∧ F.length ≤ 1000 ∧ C.length ≤ 1000 ∧ rm 11 1 = nI (1000 + F.length) ∧ xCod C F r rm))
def xD (t p : Nat) (r : zRr) (q : zRq) (rm : zRr) (qm : zRq) : Prop := xDt t r q rm qm ∧ xDp t p r q rm qm ∧ xDn r rm ∧ xDl r rm
section XD
variable {t p : Nat} {r r1 : zRr} {q q1 : zRq} {rm rm1 : zRr} {qm qm1 : zRq}
theorem xDt.fr (h : xDt t r q rm qm) (e9 : r1 183 9 = r 183 9) (e1 : r1 184 = r 184) (e2 : r1 185 = r 185) (eq : q1 186 = q 186) (m4 : rm1 1 4 = rm 1 4) (m1 : rm1 4 = rm 4) (m2 : rm1 5 = rm 5) (mq : qm1 2 = qm 2) : xDt t r1 q1 rm1 qm1 := by
  unfold xDt at h ⊢
  rw [e9, e1, e2, eq, m4, m1, m2, mq]; exact h
theorem xDp.fr (h : xDp t p r q rm qm) (e9 : r1 183 10 = r 183 10) (e1 : r1 187 = r 187) (e2 : r1 188 = r 188) (e3 : r1 189 = r 189) (e4 : r1 190 = r 190) (eq : q1 191 = q 191) (m9 : rm1 1 5 = rm 1 5) (m1 : rm1 6 = rm 6) (m2 : rm1 7 = rm 7) (m3 : rm1 8 = rm 8) (m4 : rm1 9 = rm 9) (mq : qm1 3 = qm 3) : xDp t p r1 q1 rm1 qm1 := by
  unfold xDp at h ⊢
  rw [e9, e1, e2, e3, e4, eq, m9, m1, m2, m3, m4, mq]; exact h
theorem xDp.mono (h : xDp t p r q rm qm) : xDp (t + 1) p r q rm qm := by
  obtain ⟨h1, h2, h3, h4⟩ := h
  refine ⟨h1, h2, h3, fun i hi => ?_⟩
  obtain ⟨k1, ⟨k2, a, ha, ea⟩, k3⟩ := h4 i hi
  exact ⟨k1, ⟨k2, a, by omega, ea⟩, k3⟩
theorem xDn.fr (h : xDn r rm) (e1 : r1 183 11 = r 183 11) (e2 : r1 183 12 = r 183 12) (e3 : r1 198 0 = r 198 0) (e4 : r1 198 1 = r 198 1) (m1 : rm1 1 6 = rm 1 6) (m2 : rm1 1 7 = rm 1 7) (m3 : rm1 123 = rm 123) : xDn r1 rm1 := by
  unfold xDn at h ⊢
  rw [e1, e2, e3, e4, m1, m2, m3]; exact h
theorem xDl.fr (h : xDl r rm) (e1 : r1 198 2 = r 198 2) (e2 : r1 192 = r 192) (e3 : r1 193 = r 193) (m1 : rm1 10 = rm 10) (m2 : rm1 11 = rm 11) (m3 : rm1 12 = rm 12) (m4 : rm1 122 = rm 122) : xDl r1 rm1 := by
  unfold xDl xCod at h ⊢
  rw [e1, e2, e3, m1, m2, m3, m4]; exact h
theorem xD.tok (h : xD t p r q rm qm) (fk : xFk r q r1 q1) (fm : xFm9 rm qm rm1 qm1) : xD t p r1 q1 rm1 qm1 := by
  obtain ⟨h1, h2, h3, h4⟩ := h
  have k : ∀ a, [196].contains a = false → r1 a = r a := fun a ha => fk.1 a ha
  have m : ∀ a, [104, 105, 106, 108, 109, 136].contains a = false → rm1 a = rm a := fun a ha => fm.1 a ha
  exact ⟨h1.fr (by rw [k 183 rfl]) (k 184 rfl) (k 185 rfl) (fk.2 186 rfl) (by rw [m 1 rfl]) (m 4 rfl) (m 5 rfl) (fm.2 2 rfl), h2.fr (by rw [k 183 rfl]) (k 187 rfl) (k 188 rfl) (k 189 rfl) (k 190 rfl) (fk.2 191 rfl) (by rw [m 1 rfl]) (m 6 rfl) (m 7 rfl) (m 8 rfl) (m 9 rfl) (fm.2 3 rfl), h3.fr (by rw [k 183 rfl]) (by rw [k 183 rfl]) (by rw [k 198 rfl]) (by rw [k 198 rfl]) (by rw [m 1 rfl]) (by rw [m 1 rfl]) (m 123 rfl), h4.fr (by rw [k 198 rfl]) (k 192 rfl) (k 193 rfl) (m 10 rfl) (m 11 rfl) (m 12 rfl) (m 122 rfl)⟩
end XD
def xKM : List Nat := [183, 184, 185, 187, 188, 189, 190, 192, 193, 196, 198]
def xKQ : List Nat := [186, 191, 196]
def xMM : List Nat := [1, 4, 5, 6, 7, 8, 9, 10, 11, 12, 13, 14, 104, 105, 106, 108, 109, 122, 123, 136]
def xMQ : List Nat := [2, 3, 107, 137]
def xGk (r : zRr) (q : zRq) (r1 : zRr) (q1 : zRq) : Prop := zFr xKM r r1 ∧ xFq xKQ q q1
/-- the lower halves of the reference's rows: what was told before -/
def xLow (rm : zRr) (qm : zRq) (rm1 : zRr) (qm1 : zRq) : Prop := (∀ j, j < 4 → rm1 1 j = rm 1 j) ∧ (∀ k j, 4 ≤ k → k ≤ 9 → j < 6 → rm1 k j = rm k j) ∧ rm1 10 0 = rm 10 0 ∧ rm1 11 0 = rm 11 0 ∧ (∀ j, j < 1000 → rm1 12 j = rm 12 j) ∧ (∀ j, j < 6 → qm1 2 j = qm 2 j) ∧ ∀ j, j < 6 → qm1 3 j = qm 3 j
def xGm (rm : zRr) (qm : zRq) (rm1 : zRr) (qm1 : zRq) : Prop := zFr xMM rm rm1 ∧ xFq xMQ qm qm1 ∧ xLow rm qm rm1 qm1
section XGF
variable {r r1 r2 : zRr} {q q1 q2 : zRq}
theorem xGk.refl : xGk r q r q := ⟨zFr.refl, xFq.refl⟩
theorem xGk.tr (h : xGk r q r1 q1) (k : xGk r1 q1 r2 q2) : xGk r q r2 q2 := ⟨h.1.tr k.1 (by decide), h.2.tr k.2 (by decide)⟩
theorem xGk.k (h : xGk r q r1 q1) (k : xFk r1 q1 r2 q2) : xGk r q r2 q2 := ⟨h.1.tr k.1 (by decide), h.2.tr k.2 (by decide)⟩
theorem xGk.e (h : xGk r q r1 q1) (k : xFe r1 q1 r2 q2) : xGk r q r2 q2 := ⟨h.1.tr k.1 (by decide), h.2.tr k.2 (by decide)⟩
theorem xGk.set (h : xGk r q r1 q1) {k : Nat} {g : Nat → Int32} (hk : xKM.contains k = true) : xGk r q (zset r1 k g) q1 := ⟨h.1.set hk, h.2⟩
theorem xGk.setq (h : xGk r q r1 q1) {k : Nat} {g : Nat → Int64} (hk : xKQ.contains k = true) : xGk r q r1 (zset q1 k g) := ⟨h.1, h.2.set hk⟩
theorem xLow.refl : xLow r q r q := ⟨fun _ _ => rfl, fun _ _ _ _ _ => rfl, rfl, rfl, fun _ _ => rfl, fun _ _ => rfl, fun _ _ => rfl⟩
theorem xLow.tr (h : xLow r q r1 q1) (k : xLow r1 q1 r2 q2) : xLow r q r2 q2 := by
  obtain ⟨a1, a2, a3, a4, a5, a6, a7⟩ := h
  obtain ⟨b1, b2, b3, b4, b5, b6, b7⟩ := k
  exact ⟨fun j hj => (b1 j hj).trans (a1 j hj), fun k j h1 h2 h3 => (b2 k j h1 h2 h3).trans (a2 k j h1 h2 h3), b3.trans a3, b4.trans a4, fun j hj => (b5 j hj).trans (a5 j hj), fun j hj => (b6 j hj).trans (a6 j hj), fun j hj => (b7 j hj).trans (a7 j hj)⟩
theorem xLow.of (h1 : r1 1 = r 1) (h4 : ∀ k, 4 ≤ k → k ≤ 12 → r1 k = r k) (h2 : q1 2 = q 2) (h3 : q1 3 = q 3) : xLow r q r1 q1 :=
  ⟨fun j _ => by rw [h1], fun k j a b _ => by rw [h4 k a (by omega)], by rw [h4 10 (by omega) (by omega)], by rw [h4 11 (by omega) (by omega)], fun j _ => by rw [h4 12 (by omega) (by omega)], fun j _ => by rw [h2], fun j _ => by rw [h3]⟩
theorem xGm.refl : xGm r q r q := ⟨zFr.refl, xFq.refl, xLow.refl⟩
theorem xGm.tr (h : xGm r q r1 q1) (k : xGm r1 q1 r2 q2) : xGm r q r2 q2 := ⟨h.1.tr k.1 (by decide), h.2.1.tr k.2.1 (by decide), h.2.2.tr k.2.2⟩
theorem xGm.m (h : xGm r q r1 q1) (k : xFm9 r1 q1 r2 q2) : xGm r q r2 q2 := by
  refine ⟨h.1.tr k.1 (by decide), h.2.1.tr k.2 (by decide), h.2.2.tr (xLow.of (k.1 1 rfl) (fun a h1 h2 => k.1 a ?_) (k.2 2 rfl) (k.2 3 rfl))⟩
  rcases (show a = 4 ∨ a = 5 ∨ a = 6 ∨ a = 7 ∨ a = 8 ∨ a = 9 ∨ a = 10 ∨ a = 11 ∨ a = 12 by omega) with rfl | rfl | rfl | rfl | rfl | rfl | rfl | rfl | rfl <;> rfl
theorem xGm.l (h : xGm r q r1 q1) (k : xRl r1 q1 r2 q2) : xGm r q r2 q2 := by
  refine ⟨h.1.tr k.1 (by decide), h.2.1.tr k.2.1 (by decide), h.2.2.tr ⟨fun j _ => by rw [k.1 1 rfl], fun a j h1 h2 _ => ?_, by rw [k.1 10 rfl], by rw [k.1 11 rfl], k.2.2, fun j _ => by rw [k.2.1 2 rfl], fun j _ => by rw [k.2.1 3 rfl]⟩⟩
  rcases (show a = 4 ∨ a = 5 ∨ a = 6 ∨ a = 7 ∨ a = 8 ∨ a = 9 by omega) with rfl | rfl | rfl | rfl | rfl | rfl
  · rw [k.1 4 rfl]
  · rw [k.1 5 rfl]
  · rw [k.1 6 rfl]
  · rw [k.1 7 rfl]
  · rw [k.1 8 rfl]
  · rw [k.1 9 rfl]
/-- a cell of the reference's upper halves -/
theorem xGm.cell (h : xGm r q r1 q1) {k j : Nat} {v : Int32} (hk : xMM.contains k = true) (h1 : k = 1 → 4 ≤ j) (h4 : 4 ≤ k → k ≤ 9 → 6 ≤ j) (h10 : k = 10 ∨ k = 11 → 1 ≤ j) (h12 : k = 12 → 1000 ≤ j) : xGm r q (zset r1 k (upd (r1 k) j v)) q1 := by
  refine ⟨h.1.set hk, h.2.1, h.2.2.tr ⟨fun i hi => ?_, fun a i ha hb hi => ?_, ?_, ?_, fun i hi => ?_, fun _ _ => rfl, fun _ _ => rfl⟩⟩
  · by_cases e : 1 = k
    · subst e; rw [zset_eq, pk_un (by have := h1 rfl; omega)]
    · rw [zset_ne e]
  · by_cases e : a = k
    · subst e; rw [zset_eq, pk_un (by have := h4 ha hb; omega)]
    · rw [zset_ne e]
  · by_cases e : 10 = k
    · subst e; rw [zset_eq, pk_un (by have := h10 (Or.inl rfl); omega)]
    · rw [zset_ne e]
  · by_cases e : 11 = k
    · subst e; rw [zset_eq, pk_un (by have := h10 (Or.inr rfl); omega)]
    · rw [zset_ne e]
  · by_cases e : 12 = k
    · subst e; rw [zset_eq, pk_un (by have := h12 rfl; omega)]
    · rw [zset_ne e]
theorem xGm.fld (h : xGm r q r1 q1) {k : Nat} {g : Nat → Int32} (hk : xMM.contains k = true) (h13 : 13 ≤ k) : xGm r q (zset r1 k g) q1 :=
  ⟨h.1.set hk, h.2.1, h.2.2.tr ⟨fun i _ => by rw [zset_ne (by omega)], fun a i ha hb _ => by rw [zset_ne (by omega)], by rw [zset_ne (by omega)], by rw [zset_ne (by omega)], fun i _ => by rw [zset_ne (by omega)], fun _ _ => rfl, fun _ _ => rfl⟩⟩
theorem xGm.cellq (h : xGm r q r1 q1) {k j : Nat} {v : Int64} (hk : k = 2 ∨ k = 3) (hj : 6 ≤ j) : xGm r q r1 (zset q1 k (vp_updL (q1 k) j v)) := by
  refine ⟨h.1, h.2.1.set (by rcases hk with rfl | rfl <;> decide), h.2.2.tr ⟨fun _ _ => rfl, fun _ _ _ _ _ => rfl, rfl, rfl, fun _ _ => rfl, fun i hi => ?_, fun i hi => ?_⟩⟩
  · by_cases e : 2 = k
    · subst e; rw [zset_eq]; exact if_neg (by omega)
    · rw [zset_ne e]
  · by_cases e : 3 = k
    · subst e; rw [zset_eq]; exact if_neg (by omega)
    · rw [zset_ne e]
theorem xGm.fldq (h : xGm r q r1 q1) {g : Nat → Int64} : xGm r q r1 (zset q1 137 g) :=
  ⟨h.1, h.2.1.set (by decide), h.2.2.tr ⟨fun _ _ => rfl, fun _ _ _ _ _ => rfl, rfl, rfl, fun _ _ => rfl, fun i _ => by rw [zset_ne (by decide)], fun i _ => by rw [zset_ne (by decide)]⟩⟩
end XGF
section XW
variable {L b e t p : Nat} {r : zRr} {q : zRq} {rm : zRr} {qm : zRq}
theorem xtownN (h : xTok L b e r q rm qm) (hD : xDt t r q rm qm) (hs : r 196 4 = 29) : Gk_townNamedD (q 196 6) r q = Gm_townNamed1 rm qm ∧ (Gk_townNamedD (q 196 6) r q = -1 ∨ ∃ j, j < t ∧ Gk_townNamedD (q 196 6) r q = nI j) := by
  obtain ⟨h1, h2, h3, h4, _⟩ := hD
  have := xnamed (n := 7) (i := 0) h3 h1 h2 (fun i hi => (h4 i hi).2.2) rfl (h.nm hs) (by omega) (by omega)
  exact this
theorem xpersN (h : xTok L b e r q rm qm) (hD : xDp t p r q rm qm) (hs : r 196 4 = 29) : Gk_personNamedD (q 196 6) r q = Gm_personNamed1 rm qm ∧ (Gk_personNamedD (q 196 6) r q = -1 ∨ ∃ j, j < p ∧ Gk_personNamedD (q 196 6) r q = nI j) := by
  obtain ⟨h1, h2, h3, h4⟩ := hD
  have := xnamedP (n := 7) (i := 0) h3 h1 h2 (fun i hi => (h4 i hi).2.2.2.2) rfl (h.nm hs) (by omega) (by omega)
  exact this
theorem xnn {j : Nat} (h : j < 6) : 0 ≤ nI j ∧ ¬ nI j < 0 ∧ ¬ nI j = -1 := by
  have e0 : (0 : Int32) = nI 0 := nI_0.symm
  refine ⟨by rw [e0]; exact (nI_leI (by omega) (by omega)).mpr (by omega), by rw [e0]; intro h9; have := (nI_ltI (by omega) (by omega)).mp h9; omega, fun h9 => ?_⟩
  have h8 := congrArg Int32.toInt h9
  rw [nI_toInt (by omega)] at h8
  have c : (-1 : Int32).toInt = -1 := by decide
  omega
/-- a name that is new -/
theorem xnew (h : xTok L b e r q rm qm) (hD : xD t p r q rm qm) :
    (∃ r1 rm1, Gk_isNewName r q = (0, r1) ∧ Gm_needsNew rm qm = (0, rm1, qm) ∧ r1 196 7 = rm1 109 0 ∧ zFr [196] r r1 ∧ zFr [109] rm rm1) ∨
    (Gk_isNewName r q = (1, r) ∧ Gm_needsNew rm qm = zc_rq (Gm_nextToken rm (zset qm 137 (fun _ => qm 107 0))) (fun r q => ((1 : Int32), r, q)) ∧ r 196 4 = 29) := by
  unfold Gk_isNewName Gm_needsNew Gk_isNewName_40
  simp only [zifQ, zifnQ, zletQ, xfm, h.kept]
  by_cases hs : r 196 4 = 29
  · obtain ⟨a1, a2⟩ := xtownN h hD.1 hs
    obtain ⟨c1, c2⟩ := xpersN h hD.2.1 hs
    rw [if_pos hs, if_pos hs, ← a1, ← c1]
    simp only [x00, if_true]
    rcases a2 with e1 | ⟨j, hj, e1⟩
    · rw [e1, if_pos rfl, if_neg (show ¬ (0 : Int32) ≤ -1 by decide)]
      rcases c2 with e2 | ⟨k, hk, e2⟩
      · right
        rw [e2, if_pos rfl, if_pos (show (-1 : Int32) < 0 by decide)]
        exact ⟨rfl, rfl, hs⟩
      · left
        have hp6 := hD.2.1.2.2.1
        obtain ⟨n1, n2, n3⟩ := xnn (j := k) (by omega)
        obtain ⟨r1, rm1, h1, h2, h3, h4, h5⟩ := h.fails 3
        rw [e2, if_neg n3, if_neg n2, h1, h2]
        exact ⟨r1, rm1, rfl, rfl, h3, h4, h5⟩
    · left
      have ht6 := hD.1.2.2.1
      obtain ⟨n1, n2, n3⟩ := xnn (j := j) (by omega)
      obtain ⟨r1, rm1, h1, h2, h3, h4, h5⟩ := h.fails 3
      rw [e1, if_neg n3, if_pos n1, h1, h2]
      exact ⟨r1, rm1, rfl, rfl, h3, h4, h5⟩
  · left
    obtain ⟨r1, rm1, h1, h2, h3, h4, h5⟩ := h.fails 1
    rw [if_neg hs, if_neg hs, h1, h2]
    simp only [x10, if_false]
    exact ⟨r1, rm1, rfl, rfl, h3, h4, h5⟩
/-- a TOWN that was told -/
theorem xhere (h : xTok L b e r q rm qm) (hD : xD t p r q rm qm) :
    (∃ r1 rm1, Gk_townHereD r q = (-1, r1) ∧ Gm_needsTown1 rm qm = (0, rm1) ∧ r1 196 7 = rm1 109 0 ∧ zFr [196] r r1 ∧ zFr [109, 136] rm rm1) ∨
    (∃ j, j < t ∧ Gk_townHereD r q = (nI j, r) ∧ Gm_needsTown1 rm qm = (1, zset rm 136 (fun _ => nI j)) ∧ r 196 4 = 29) := by
  unfold Gk_townHereD Gm_needsTown1 Gk_townHereD_22 Gk_townHereD_44
  simp only [zifQ, zifnQ, zletQ, h.kept]
  by_cases hs : r 196 4 = 29
  · obtain ⟨a1, a2⟩ := xtownN h hD.1 hs
    simp only [if_pos hs, x00, if_true, ← a1]
    rcases a2 with e1 | ⟨j, hj, e1⟩
    · left
      have hT := h.pre (rm1 := zset rm 136 (fun _ => (-1 : Int32))) (M := [136]) (zFr.refl.set rfl) (by decide)
      obtain ⟨r1, rm1, h1, h2, h3, h4, h5⟩ := hT.fails 2
      rw [e1, if_pos rfl, h1]
      refine ⟨r1, rm1, rfl, ?_, h3, h4, (zFr.refl.set rfl).tr h5 rfl⟩
      rw [show (zset rm 136 (fun _ => (-1 : Int32))) 136 0 = -1 from rfl, if_neg (by decide), h2]
      rfl
    · right
      have ht6 := hD.1.2.2.1
      obtain ⟨n1, n2, n3⟩ := xnn (j := j) (by omega)
      rw [e1, if_neg n3]
      refine ⟨j, hj, rfl, ?_, hs⟩
      rw [show (zset rm 136 (fun _ => nI j)) 136 0 = nI j from rfl, if_pos n1]
  · left
    obtain ⟨r1, rm1, h1, h2, h3, h4, h5⟩ := h.fails 1
    simp only [if_neg hs, x10, if_true, if_false, h1, h2]
    exact ⟨r1, rm1, rfl, rfl, h3, h4, h5.up rfl⟩
end XW
