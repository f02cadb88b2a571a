/-! ===== what is asked leaves: how it is, what can be undone, marks, the JOURNEY, the LAND, what was SEEN, the tape ===== -/
def zK3 (k : Nat) : Bool := (Nat.ble 6 k && Nat.ble k 11) || ((Nat.ble 18 k && Nat.ble k 141) || ((Nat.ble 146 k && Nat.ble k 181) || (Nat.ble 195 k && Nat.ble k 197)))
def zFt (r r1 : zRr) : Prop := ∀ k, zK3 k = true → r1 k = r k
theorem zFt.refl {r : zRr} : zFt r r := fun _ _ => rfl
theorem zFt.set {r r1 : zRr} (h : zFt r r1) {k : Nat} {g : Nat → Int32} (hk : zK3 k = false) : zFt r (zset r1 k g) := by
  intro a ha
  rw [zset_ne (fun e => by rw [e, hk] at ha; cases ha)]
  exact h a ha
theorem zFt.tr {r r1 r2 : zRr} (h : zFt r r1) (h1 : zFt r1 r2) : zFt r r2 := fun a ha => (h1 a ha).trans (h a ha)
theorem zFt.trF {M : List Nat} {r r1 r2 : zRr} (h : zFt r r1) (h1 : zFr M r1 r2) (hk : M.any zK3 = false) : zFt r r2 := by
  intro a ha
  refine (h1 a ?_).trans (h a ha)
  cases e : M.contains a with
  | false => rfl
  | true =>
    have := List.any_eq_false.mp hk a (List.contains_iff_mem.mp e)
    exact absurd ha this
theorem bleT {a b : Nat} (h : a ≤ b) : Nat.ble a b = true := Nat.ble_eq_true_of_le h
theorem bleF {a b : Nat} (h : ¬ a ≤ b) : Nat.ble a b = false := by
  cases e : Nat.ble a b with
  | false => rfl
  | true => exact absurd (Nat.le_of_ble_eq_true e) h
theorem zK3_in {a : Nat} (h : (6 ≤ a ∧ a < 12) ∨ (18 ≤ a ∧ a < 142) ∨ (146 ≤ a ∧ a < 182) ∨ (195 ≤ a ∧ a < 198)) : zK3 a = true := by
  unfold zK3
  rcases h with ⟨h1, h2⟩ | ⟨h1, h2⟩ | ⟨h1, h2⟩ | ⟨h1, h2⟩
  · rw [bleT h1, bleT (show a ≤ 11 by omega)]; rfl
  · rw [bleT h1, bleT (show a ≤ 141 by omega), Bool.and_true, Bool.true_or, Bool.or_true]
  · rw [bleT h1, bleT (show a ≤ 181 by omega), Bool.and_true, Bool.true_or, Bool.or_true, Bool.or_true]
  · rw [bleT h1, bleT (show a ≤ 197 by omega), Bool.and_true, Bool.or_true, Bool.or_true, Bool.or_true]
theorem zK3_no {a : Nat} (h : a < 6 ∨ (12 ≤ a ∧ a < 18)) : zK3 a = false := by
  unfold zK3
  rcases h with h | ⟨h1, h2⟩
  · rw [bleF (show ¬ 6 ≤ a by omega), bleF (show ¬ 18 ≤ a by omega), bleF (show ¬ 146 ≤ a by omega), bleF (show ¬ 195 ≤ a by omega)]; rfl
  · rw [bleF (show ¬ a ≤ 11 by omega), bleF (show ¬ 18 ≤ a by omega), bleF (show ¬ 146 ≤ a by omega), bleF (show ¬ 195 ≤ a by omega), Bool.and_false]; rfl
theorem zFt.cp8 {r r1 : zRr} (h : zFt r r1) {n m : Nat} (hn : n + 6 ≤ 6 ∨ (12 ≤ n ∧ n + 6 ≤ 18)) : zFt r (kcp8 r1 n m) := fun a ha => (kcp8_o (by
  rcases Nat.lt_or_ge a n with h1 | h1
  · exact Or.inl h1
  · rcases Nat.lt_or_ge a (n + 6) with h2 | h2
    · rw [zK3_no (by omega)] at ha; cases ha
    · exact Or.inr h2)).trans (h a ha)
