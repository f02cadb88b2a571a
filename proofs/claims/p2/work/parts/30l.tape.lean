/-! ===== the tape's own row as it was ===== -/
def zFt (r r1 : zRr) : Prop := r1 196 = r 196
theorem zFt.refl {r : zRr} : zFt r r := rfl
theorem zFt.set {r r1 : zRr} (h : zFt r r1) {k : Nat} {g : Nat → Int32} (hk : Nat.beq k 196 = false) : zFt r (zset r1 k g) := by
  unfold zFt
  rw [zset_ne (fun e => by subst e; exact absurd hk (by decide))]; exact h
theorem zFt.tr {r r1 r2 : zRr} (h : zFt r r1) (h1 : zFt r1 r2) : zFt r r2 := Eq.trans h1 h
theorem zFt.trF {M : List Nat} {r r1 r2 : zRr} (h : zFt r r1) (h1 : zFr M r1 r2) (hk : M.contains 196 = false) : zFt r r2 := (h1 196 hk).trans h
theorem zFt.cp8 {r r1 : zRr} (h : zFt r r1) {n m : Nat} (hn : 196 < n ∨ n + 6 ≤ 196) : zFt r (kcp8 r1 n m) := (kcp8_o hn).trans h
theorem zFt.cp1 {r r1 : zRr} (h : zFt r r1) {n m : Nat} (hn : 196 < n ∨ n + 4 ≤ 196) : zFt r (kcp1 r1 n m) := (kcp1_o hn).trans h
theorem zFt.cpL {r r1 : zRr} (h : zFt r r1) {k : Nat} : zFt r (kcpL r1 k) := (show kcpL r1 k 196 = r1 196 from rfl).trans h
