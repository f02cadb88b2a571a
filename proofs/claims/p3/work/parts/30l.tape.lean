/-! ===== the tape's own row, and its signs, as they were ===== -/
def zFt (r r1 : zRr) : Prop := r1 196 = r 196 ∧ r1 197 = r 197
theorem zFt.refl {r : zRr} : zFt r r := ⟨rfl, rfl⟩
theorem zFt.set {r r1 : zRr} (h : zFt r r1) {k : Nat} {g : Nat → Int32} (hk : (Nat.beq k 196 || Nat.beq k 197) = false) : zFt r (zset r1 k g) := by
  refine ⟨?_, ?_⟩
  · rw [zset_ne (fun e => by subst e; exact absurd hk (by decide))]; exact h.1
  · rw [zset_ne (fun e => by subst e; exact absurd hk (by decide))]; exact h.2
theorem zFt.tr {r r1 r2 : zRr} (h : zFt r r1) (h1 : zFt r1 r2) : zFt r r2 := ⟨h1.1.trans h.1, h1.2.trans h.2⟩
theorem zFt.trF {M : List Nat} {r r1 r2 : zRr} (h : zFt r r1) (h1 : zFr M r1 r2) (hk : (M.contains 196 || M.contains 197) = false) : zFt r r2 := by
  rw [Bool.or_eq_false_iff] at hk
  exact ⟨(h1 196 hk.1).trans h.1, (h1 197 hk.2).trans h.2⟩
theorem zFt.cp8 {r r1 : zRr} (h : zFt r r1) {n m : Nat} (hn : 197 < n ∨ n + 6 ≤ 196) : zFt r (kcp8 r1 n m) := ⟨(kcp8_o (by omega)).trans h.1, (kcp8_o (by omega)).trans h.2⟩
theorem zFt.cp1 {r r1 : zRr} (h : zFt r r1) {n m : Nat} (hn : 197 < n ∨ n + 4 ≤ 196) : zFt r (kcp1 r1 n m) := ⟨(kcp1_o (by omega)).trans h.1, (kcp1_o (by omega)).trans h.2⟩
theorem zFt.cpL {r r1 : zRr} (h : zFt r r1) {k : Nat} : zFt r (kcpL r1 k) := ⟨(show kcpL r1 k 196 = r1 196 from rfl).trans h.1, (show kcpL r1 k 197 = r1 197 from rfl).trans h.2⟩
