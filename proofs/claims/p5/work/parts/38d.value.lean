/-! ===== what a law comes to, on both sides ===== -/
theorem xzz {α : Type} {r : Nat → α} {k : Nat} {f g : α} : zset (zset r k f) k g = zset r k g := by
  funext a
  by_cases e : a = k
  · subst e; rw [zset_eq, zset_eq]
  · rw [zset_ne e, zset_ne e, zset_ne e]
/-- a piece of a code, at its place -/
def xAt (f : Nat → Int32) (m p : Nat) (C : List Int32) : Prop := p + C.length ≤ m ∧ xsg f p C.length = C
theorem xsg_add {f : Nat → Int32} : ∀ (b p a : Nat), xsg f p (a + b) = xsg f p a ++ xsg f (p + a) b := by
  intro b
  induction b with
  | zero => intro p a; show xsg f p a = xsg f p a ++ []; rw [List.append_nil]
  | succ b ih =>
    intro p a
    rw [← Nat.add_assoc, xsg_s, xsg_s, ih, List.append_assoc, Nat.add_assoc]
theorem xAt.app {f : Nat → Int32} {m p : Nat} {C D : List Int32} (h : xAt f m p (C ++ D)) : xAt f m p C ∧ xAt f m (p + C.length) D := by
  obtain ⟨h1, h2⟩ := h
  rw [List.length_append] at h1 h2
  rw [xsg_add] at h2
  have k := List.append_inj h2 xsg_len
  exact ⟨⟨by omega, k.1⟩, ⟨by omega, k.2⟩⟩
theorem xAt.one {f : Nat → Int32} {m p : Nat} {x : Int32} (h : xAt f m p [x]) : p < m ∧ f p = x := by
  obtain ⟨h1, h2⟩ := h
  have h1 : p + 1 ≤ m := h1
  have h2 : xsg f p 1 = [x] := h2
  rw [show (1 : Nat) = 0 + 1 from rfl, xsg_s] at h2
  exact ⟨by omega, (List.cons.inj h2).1⟩
section XKV
variable {a1 a2 a3 a4 : Int32} {m : Nat}
/-- the class works a code: one value more on its stack -/
def xKv (a1 a2 a3 a4 : Int32) (m need : Nat) (C : List Int32) (v : Int32) : Prop :=
  ∀ (n w p : Nat) (r : zRr), r 180 2 = nI m → xAt (r 181) m p C → w + need ≤ 32 → ∃ g : Nat → Int32, (∀ j, j < w → g j = r 182 j) ∧ g w = v ∧ Gk_passes_6 a1 a2 a3 a4 (n + C.length) (nI w) (nI p) r = Gk_passes_6 a1 a2 a3 a4 n (nI (w + 1)) (nI (p + C.length)) (zset r 182 g)
theorem xKv.le {need need1 : Nat} {C : List Int32} {v : Int32} (h : xKv a1 a2 a3 a4 m need C v) (k : need ≤ need1) : xKv a1 a2 a3 a4 m need1 C v :=
  fun n w p r h1 h2 h3 => h n w p r h1 h2 (by omega)
/-- a value is pushed -/
theorem xKv.push (hm : m ≤ 1000) {x : Int32} (hx : ¬ x ≤ -5) : xKv a1 a2 a3 a4 m 1 [x] (Gk_valueOf x a1 a2 a3 a4) := by
  intro n w p r h1 h2 h3
  obtain ⟨h4, h5⟩ := h2.one
  refine ⟨upd (r 182) w (Gk_valueOf x a1 a2 a3 a4), fun j hj => pk_un (by omega), pk_us, ?_⟩
  have e0 : Gk_passes_6 a1 a2 a3 a4 (n + 1) (nI w) (nI p) r = Bk_passes_6 a1 a2 a3 a4 (Gk_passes_6 a1 a2 a3 a4 n) (nI w) (nI p) r := rfl
  show Gk_passes_6 a1 a2 a3 a4 (n + 1) (nI w) (nI p) r = _
  rw [e0]
  have c1 : ¬ nI m ≤ nI p := fun h => by have := (nI_leI (by omega) (by omega)).mp h; omega
  have c2 : nI w < 32 := (nI_ltI (b := 32) (by omega) (by omega)).mpr (by omega)
  unfold Bk_passes_6 Gk_passes_150
  simp only [zifQ, zifnQ, zletQ, h1, if_neg c1, xzn (show p < 2 ^ 31 by omega), xzn (show w < 2 ^ 31 by omega), h5, if_neg hx, if_pos c2, nI_1]
  rfl
/-- NOT -/
theorem xKv.not (hm : m ≤ 1000) {need : Nat} {C : List Int32} {v : Int32} (h : xKv a1 a2 a3 a4 m need C v) (hn : 1 ≤ need) : xKv a1 a2 a3 a4 m need (C ++ [-5]) (if v = 0 then 1 else 0) := by
  intro n w p r h1 h2 h3
  obtain ⟨h4, h5⟩ := h2.app
  obtain ⟨g, g1, g2, g3⟩ := h (n + 1) w p r h1 h4 h3
  obtain ⟨h6, h7⟩ := h5.one
  refine ⟨upd g w (if v = 0 then 1 else 0), fun j hj => by rw [pk_un (by omega)]; exact g1 j hj, pk_us, ?_⟩
  rw [List.length_append, show n + (C.length + [(-5 : Int32)].length) = n + 1 + C.length by show n + (C.length + 1) = _; omega, g3]
  have e0 : Gk_passes_6 a1 a2 a3 a4 (n + 1) (nI (w + 1)) (nI (p + C.length)) (zset r 182 g) = Bk_passes_6 a1 a2 a3 a4 (Gk_passes_6 a1 a2 a3 a4 n) (nI (w + 1)) (nI (p + C.length)) (zset r 182 g) := rfl
  rw [e0]
  have c1 : ¬ nI m ≤ nI (p + C.length) := fun h => by have := (nI_leI (by omega) (by omega)).mp h; omega
  have c2 : ¬ nI (w + 1) ≤ 0 := fun h => by have := (nI_leI (b := 0) (by omega) (by omega)).mp h; omega
  have e1 : nI (w + 1) - 1 = nI w := by rw [← nI_1, Int32.add_sub_cancel]
  have h1' : zset r 182 g 180 2 = nI m := h1
  have h7' : zset r 182 g 181 (p + C.length) = -5 := h7
  have c5 : (-5 : Int32) ≤ -5 := by decide
  unfold Bk_passes_6 Gk_passes_100 Gk_passes_150
  simp only [zifQ, zifnQ, zletQ, h1', if_neg c1, xzn (show p + C.length < 2 ^ 31 by omega), h7', if_pos c5, if_true, if_neg c2, e1, xzn (show w < 2 ^ 31 by omega), nI_1]
  have e9 : zset r 182 g 182 w = v := by rw [zset_eq]; exact g2
  rw [e9]
  by_cases hv : v = 0
  · rw [if_pos hv, if_pos hv, xzz]
    rfl
  · rw [if_neg hv, if_neg hv, xzz]
    rfl
/-- a sign between two -/
theorem xKv.bin (hm : m ≤ 1000) {n1 n2 need k : Nat} {C1 C2 : List Int32} {v1 v2 : Int32} (h1 : xKv a1 a2 a3 a4 m n1 C1 v1) (h2 : xKv a1 a2 a3 a4 m n2 C2 v2) (hn : n1 ≤ need ∧ n2 + 1 ≤ need ∧ 2 ≤ need) (hk : k < 7) : xKv a1 a2 a3 a4 m need (C1 ++ C2 ++ [xok k]) (Gk_join (xok k) v1 v2) := by
  intro n w p r q1 q2 q3
  obtain ⟨q4, q5⟩ := q2.app
  obtain ⟨q6, q7⟩ := q4.app
  rw [List.length_append] at q5
  obtain ⟨q8, q9⟩ := q5.one
  obtain ⟨g, g1, g2, g3⟩ := h1 (n + 1 + C2.length) w p r q1 q6 (by omega)
  obtain ⟨f, f1, f2, f3⟩ := h2 (n + 1) (w + 1) (p + C1.length) (zset r 182 g) q1 q7 (by omega)
  refine ⟨upd f w (Gk_join (xok k) v1 v2), fun j hj => ?_, pk_us, ?_⟩
  · rw [pk_un (by omega), f1 j (by omega), zset_eq]; exact g1 j hj
  rw [xzz] at f3
  rw [List.length_append, List.length_append, show n + (C1.length + C2.length + [xok k].length) = n + 1 + C2.length + C1.length by show n + (C1.length + C2.length + 1) = _; omega, g3, f3, show p + C1.length + C2.length = p + (C1.length + C2.length) by omega]
  have e0 : Gk_passes_6 a1 a2 a3 a4 (n + 1) (nI (w + 1 + 1)) (nI (p + (C1.length + C2.length))) (zset r 182 f) = Bk_passes_6 a1 a2 a3 a4 (Gk_passes_6 a1 a2 a3 a4 n) (nI (w + 1 + 1)) (nI (p + (C1.length + C2.length))) (zset r 182 f) := rfl
  rw [e0]
  have c1 : ¬ nI m ≤ nI (p + (C1.length + C2.length)) := fun h => by have := (nI_leI (by omega) (by omega)).mp h; omega
  have c2 : ¬ nI (w + 1 + 1) ≤ 1 := fun h => by have := (nI_leI (b := 1) (by omega) (by omega)).mp h; omega
  have ed : nI (w + 1 + 1) + -1 = nI (w + 1) := xdec
  have e1 : nI (w + 1) - 1 = nI w := by rw [← nI_1, Int32.add_sub_cancel]
  have h1' : zset r 182 f 180 2 = nI m := q1
  have h7' : zset r 182 f 181 (p + (C1.length + C2.length)) = xok k := q9
  have c5 : xok k ≤ -5 ∧ ¬ xok k = -5 ∧ ¬ (-5 : Int32) ≤ xok k := by
    rcases (show k = 0 ∨ k = 1 ∨ k = 2 ∨ k = 3 ∨ k = 4 ∨ k = 5 ∨ k = 6 by omega) with rfl | rfl | rfl | rfl | rfl | rfl | rfl <;> decide
  unfold Bk_passes_6 Gk_passes_104 Gk_passes_150
  simp only [zifQ, zifnQ, zletQ, h1', if_neg c1, xzn (show p + (C1.length + C2.length) < 2 ^ 31 by omega), h7', if_pos c5.1, if_neg c5.2.1, if_neg c5.2.2, if_neg c2, ed, e1, xzn (show w < 2 ^ 31 by omega), xzn (show w + 1 < 2 ^ 31 by omega), nI_1]
  have ew : zset r 182 f 182 w = v1 := by rw [zset_eq, f1 w (by omega), zset_eq]; exact g2
  have ew1 : zset r 182 f 182 (w + 1) = v2 := by rw [zset_eq]; exact f2
  rw [ew, ew1, xzz]
  rfl
end XKV
