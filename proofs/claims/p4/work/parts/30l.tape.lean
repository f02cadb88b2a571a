/-! ===== the tape's own row, its signs, the LAND that is told: as they were ===== -/
def zK3 (k : Nat) : Bool := (Nat.ble 171 k && Nat.ble k 181) || (Nat.beq k 196 || Nat.beq k 197)
def zFt (r r1 : zRr) : Prop := ∀ k, zK3 k = true → r1 k = r k
theorem zFt.refl {r : zRr} : zFt r r := fun _ _ => rfl
theorem zFt.set {r r1 : zRr} (h : zFt r r1) {k : Nat} {g : Nat → Int32} (hk : zK3 k = false) : zFt r (zset r1 k g) := by
  intro a ha
  rw [zset_ne (fun e => by rw [e, hk] at ha; cases ha)]
  exact h a ha
theorem zFt.tr {r r1 r2 : zRr} (h : zFt r r1) (h1 : zFt r1 r2) : zFt r r2 := fun a ha => (h1 a ha).trans (h a ha)
theorem zFt.trF {M : List Nat} {r r1 r2 : zRr} (h : zFt r r1) (h1 : zFr M r1 r2) (hk : M.any zK3 = false) : zFt r r2 := by
  intro a ha
  refine (h1 a ?_).trans (h a ha)
  cases e : M.contains a with
  | false => rfl
  | true =>
    have := List.any_eq_false.mp hk a (List.contains_iff_mem.mp e)
    exact absurd ha this
theorem zK3_lo {a : Nat} (h : zK3 a = true) : 171 ≤ a := by
  unfold zK3 at h
  rcases Bool.or_eq_true _ _ ▸ h with h | h
  · exact Nat.le_of_ble_eq_true (Bool.and_eq_true _ _ ▸ h).1
  · rcases Bool.or_eq_true _ _ ▸ h with h | h
    · rw [Nat.eq_of_beq_eq_true h]; decide
    · rw [Nat.eq_of_beq_eq_true h]; decide
theorem zFt.cp8 {r r1 : zRr} (h : zFt r r1) {n m : Nat} (hn : n + 6 ≤ 171) : zFt r (kcp8 r1 n m) := fun a ha => (kcp8_o (by have := zK3_lo ha; omega)).trans (h a ha)
theorem zFt.cp1 {r r1 : zRr} (h : zFt r r1) {n m : Nat} (hn : n + 4 ≤ 171) : zFt r (kcp1 r1 n m) := fun a ha => (kcp1_o (by have := zK3_lo ha; omega)).trans (h a ha)
theorem zK3_in {a : Nat} (h1 : 171 ≤ a) (h2 : a ≤ 181) : zK3 a = true := by
  rcases (show a = 171 ∨ a = 172 ∨ a = 173 ∨ a = 174 ∨ a = 175 ∨ a = 176 ∨ a = 177 ∨ a = 178 ∨ a = 179 ∨ a = 180 ∨ a = 181 by omega) with rfl | rfl | rfl | rfl | rfl | rfl | rfl | rfl | rfl | rfl | rfl <;> rfl
