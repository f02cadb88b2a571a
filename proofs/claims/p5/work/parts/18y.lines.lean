/-! ===== a line of a JOURNEY, on both sides ===== -/
/-- a line's bounds -/
def xBd (t p : Nat) (a b c : Int32) : Prop := (a = 0 ∨ a = 1 ∨ a = 2 ∨ a = 3) ∧ (¬ a = 3 → ∃ j, j < p ∧ b = nI j) ∧ (a = 0 → ∃ i, i < t ∧ c = nI i) ∧ (a = 1 → ∃ m, 1 ≤ m ∧ m ≤ 20 ∧ c = nI m)
/-- the lines so far -/
def xPd (t p n : Nat) (r rm : zRr) : Prop := r 142 3 = nI n ∧ rm 25 5 = nI n ∧ n ≤ 40 ∧ ∀ k, k < n → r 143 k = rm 26 (200 + k) ∧ (¬ r 143 k = 3 → r 144 k = rm 27 (200 + k)) ∧ (r 143 k = 0 ∨ r 143 k = 1 → r 145 k = rm 28 (200 + k)) ∧ xBd t p (r 143 k) (r 144 k) (r 145 k)
def xJk (r : zRr) (q : zRq) (r1 : zRr) (q1 : zRq) : Prop := zFr [142, 143, 144, 145, 196] r r1 ∧ xFq [196] q q1
def xJw (rm rm1 : zRr) : Prop := (∀ j, j ≠ 5 → rm1 25 j = rm 25 j) ∧ ∀ k j, 26 ≤ k → k ≤ 28 → j < 200 → rm1 k j = rm k j
def xJm (rm : zRr) (qm : zRq) (rm1 : zRr) (qm1 : zRq) : Prop := zFr [25, 26, 27, 28, 104, 105, 106, 108, 109, 136] rm rm1 ∧ xFq [107] qm qm1 ∧ xJw rm rm1
section XJF
variable {r r1 r2 : zRr} {q q1 q2 : zRq}
theorem xJk.refl : xJk r q r q := ⟨zFr.refl, xFq.refl⟩
theorem xJk.tr (h : xJk r q r1 q1) (k : xJk r1 q1 r2 q2) : xJk r q r2 q2 := ⟨h.1.tr k.1 (by decide), h.2.tr k.2 (by decide)⟩
theorem xJk.k (h : xJk r q r1 q1) (k : xFk r1 q1 r2 q2) : xJk r q r2 q2 := ⟨h.1.tr k.1 (by decide), h.2.tr k.2 (by decide)⟩
theorem xJk.set (h : xJk r q r1 q1) {k : Nat} {g : Nat → Int32} (hk : [142, 143, 144, 145, 196].contains k = true) : xJk r q (zset r1 k g) q1 := ⟨h.1.set hk, h.2⟩
theorem xJw.refl : xJw r r := ⟨fun _ _ => rfl, fun _ _ _ _ _ => rfl⟩
theorem xJw.tr (h : xJw r r1) (k : xJw r1 r2) : xJw r r2 := ⟨fun j hj => (k.1 j hj).trans (h.1 j hj), fun a j h1 h2 h3 => (k.2 a j h1 h2 h3).trans (h.2 a j h1 h2 h3)⟩
theorem xJm.refl : xJm r q r q := ⟨zFr.refl, xFq.refl, xJw.refl⟩
theorem xJm.tr (h : xJm r q r1 q1) (k : xJm r1 q1 r2 q2) : xJm r q r2 q2 := ⟨h.1.tr k.1 (by decide), h.2.1.tr k.2.1 (by decide), h.2.2.tr k.2.2⟩
theorem xJm.m (h : xJm r q r1 q1) (k : xFm9 r1 q1 r2 q2) : xJm r q r2 q2 := by
  refine ⟨h.1.tr k.1 (by decide), h.2.1.tr k.2 (by decide), h.2.2.tr ⟨fun j _ => by rw [k.1 25 rfl], fun a j h1 h2 _ => ?_⟩⟩
  rcases (show a = 26 ∨ a = 27 ∨ a = 28 by omega) with rfl | rfl | rfl
  · rw [k.1 26 rfl]
  · rw [k.1 27 rfl]
  · rw [k.1 28 rfl]
theorem xJm.cell (h : xJm r q r1 q1) {k j : Nat} {v : Int32} (hk : 26 ≤ k ∧ k ≤ 28) (hj : 200 ≤ j) : xJm r q (zset r1 k (upd (r1 k) j v)) q1 := by
  refine ⟨h.1.set (by rcases (show k = 26 ∨ k = 27 ∨ k = 28 by omega) with rfl | rfl | rfl <;> decide), h.2.1, h.2.2.tr ⟨fun i _ => by rw [zset_ne (by omega)], fun a i h1 h2 h3 => ?_⟩⟩
  by_cases e : a = k
  · subst e; rw [zset_eq, pk_un (by omega)]
  · rw [zset_ne e]
theorem xJm.cnt (h : xJm r q r1 q1) {v : Int32} : xJm r q (zset r1 25 (upd (r1 25) 5 v)) q1 :=
  ⟨h.1.set (by decide), h.2.1, h.2.2.tr ⟨fun i hi => by rw [zset_eq, pk_un hi], fun a i h1 h2 _ => by rw [zset_ne (by omega)]⟩⟩
end XJF
section XJT
variable {t p n : Nat} {r r1 : zRr} {q q1 : zRq} {rm rm1 : zRr} {qm qm1 : zRq}
theorem xTd.j (h : xTd t p r q rm qm) (k : xJk r q r1 q1) (m : xJm rm qm rm1 qm1) : xTd t p r1 q1 rm1 qm1 := by
  refine h.fr ⟨fun a h1 h2 => k.1 a ?_, k.2 174 rfl, k.2 179 rfl⟩ (xLow.of (m.1 1 rfl) (fun a h1 h2 => m.1 a ?_) (m.2.1 2 rfl) (m.2.1 3 rfl))
  · rcases (show a = 171 ∨ a = 172 ∨ a = 173 ∨ a = 174 ∨ a = 175 ∨ a = 176 ∨ a = 177 ∨ a = 178 ∨ a = 179 ∨ a = 180 ∨ a = 181 by omega) with rfl | rfl | rfl | rfl | rfl | rfl | rfl | rfl | rfl | rfl | rfl <;> rfl
  · rcases (show a = 4 ∨ a = 5 ∨ a = 6 ∨ a = 7 ∨ a = 8 ∨ a = 9 ∨ a = 10 ∨ a = 11 ∨ a = 12 by omega) with rfl | rfl | rfl | rfl | rfl | rfl | rfl | rfl | rfl <;> rfl
theorem xPd.tok (h : xPd t p n r rm) (fk : xFk r q r1 q1) (fm : xFm9 rm qm rm1 qm1) : xPd t p n r1 rm1 := by
  unfold xPd at h ⊢
  rw [fk.1 142 rfl, fk.1 143 rfl, fk.1 144 rfl, fk.1 145 rfl, fm.1 25 rfl, fm.1 26 rfl, fm.1 27 rfl, fm.1 28 rfl]
  exact h
end XJT
/-- what a line of a JOURNEY comes to, on both sides -/
def xJo (t p L b : Nat) (r : zRr) (q : zRq) (rm : zRr) (qm : zRq) (o om : Int32 × zRr × zRq) : Prop :=
  xJk r q o.2.1 o.2.2 ∧ xJm rm qm om.2.1 om.2.2 ∧ ((o.1 = 0 ∧ om.1 = 0 ∧ o.2.1 196 7 = om.2.1 109 0) ∨ (o.1 = 1 ∧ om.1 = 1 ∧ ∃ b' e' n, b < b' ∧ xTok L b' e' o.2.1 o.2.2 om.2.1 om.2.2 ∧ xPd t p n o.2.1 om.2.1))
section XJO
variable {t p L b : Nat} {r r1 : zRr} {q q1 : zRq} {rm rm1 : zRr} {qm qm1 : zRq}
theorem xJo.fail (hk : xJk r q r1 q1) (hm : xJm rm qm rm1 qm1) (h : r1 196 7 = rm1 109 0) : xJo t p L b r q rm qm (xCL (0, r1, q1)) (0, rm1, qm1) := by
  rw [xCL0]; exact ⟨hk, hm, Or.inl ⟨rfl, rfl, h⟩⟩
theorem xJo.close {b1 e1 n : Nat} (h : xTok L b1 e1 r1 q1 rm1 qm1) (hb : b < b1) (hD : xPd t p n r1 rm1) (hk : xJk r q r1 q1) (hm : xJm rm qm rm1 qm1) : xJo t p L b r q rm qm (xCL (1, r1, q1)) (Gm_closes rm1 qm1) := by
  rw [xCL1]
  have k := xclose h
  generalize Gk_take 28 r1 q1 = o at k ⊢
  generalize Gm_closes rm1 qm1 = om at k ⊢
  obtain ⟨v, r2, q2⟩ := o
  obtain ⟨w, rm2, qm2⟩ := om
  obtain ⟨fk, fm, k⟩ := k
  have fk : xFk r1 q1 r2 q2 := fk
  have fm : xFm9 rm1 qm1 rm2 qm2 := fm
  rw [xcvrq (r := r2), zifnQ]
  rcases k with ⟨a1, a2, a3⟩ | ⟨a1, a2, b', e', a3, a4⟩
  · have a1 : v = 0 := a1
    have a2 : w = 0 := a2
    rw [if_pos a1, a2]
    exact ⟨hk.k fk, hm.m fm, Or.inl ⟨rfl, rfl, a3⟩⟩
  · have a1 : v = 1 := a1
    have a2 : w = 1 := a2
    rw [if_neg (show ¬ v = 0 by rw [a1]; decide), a2]
    exact ⟨hk.k fk, hm.m fm, Or.inr ⟨rfl, rfl, b', e', n, by omega, a4, hD.tok fk fm⟩⟩
end XJO
