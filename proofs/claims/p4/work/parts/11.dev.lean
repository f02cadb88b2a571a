theorem zset_ne {α : Type} {r : Nat → α} {k a : Nat} {g : α} (h : a ≠ k) : zset r k g a = r a := if_neg h
theorem zset_eq {α : Type} {r : Nat → α} {k : Nat} {g : α} : zset r k g k = g := if_pos rfl
/-- what is left as it was -/
def zFr (M : List Nat) (r r1 : zRr) : Prop := ∀ k, M.contains k = false → r1 k = r k
theorem zFr.refl {M : List Nat} {r : zRr} : zFr M r r := fun _ _ => rfl
theorem zFr.set {M : List Nat} {r r1 : zRr} (h : zFr M r r1) {k : Nat} {g : Nat → Int32} (hk : M.contains k = true) : zFr M r (zset r1 k g) := by
  intro a ha
  rw [zset_ne (fun e => by rw [e, hk] at ha; cases ha)]; exact h a ha
theorem zFr.tr {M M1 : List Nat} {r r1 r2 : zRr} (h : zFr M r r1) (h1 : zFr M1 r1 r2) (hk : M1.all (fun k => M.contains k) = true) : zFr M r r2 := by
  intro a ha
  rw [h1 a ?_]; · exact h a ha
  cases e : M1.contains a with
  | false => rfl
  | true =>
    have := List.all_eq_true.mp hk a (List.contains_iff_mem.mp e)
    rw [ha] at this; cases this
theorem zFr.up {M M1 : List Nat} {r r1 : zRr} (h1 : zFr M1 r r1) (hk : M1.all (fun k => M.contains k) = true) : zFr M r r1 := zFr.refl.tr h1 hk
