def kcp8 (r : zRr) (n m : Nat) : zRr := fun a => if a = n then upd (r n) 5 (r m 5) else if n < a ∧ a < n + 6 then va_cpy (r (a - n + m)) (r a) 0 0 6 else r a
def kcp1 (r : zRr) (n m : Nat) : zRr := fun a => if a = n then upd (r n) 3 (r m 3) else if n < a ∧ a < n + 4 then va_cpy (r (a - n + m)) (r a) 0 0 (zn (r m 3)) else r a
def kcpL (r : zRr) (k : Nat) : zRr := fun a => if a = 171 then upd (upd (upd (upd (r 171) 9 (r 183 9)) 10 (r 183 10)) 11 (r 183 11)) 12 (r 183 12) else if a = 180 then upd (r 180) 2 (nI k) else if a = 181 then va_cpy (r 193) (r 181) 0 0 k else if 172 ≤ a ∧ a ≤ 178 ∧ a ≠ 174 then va_cpy (r (a + 12)) (r a) 0 0 6 else r a
def kcpLq (q : zRq) : zRq := fun a => if a = 174 ∨ a = 179 then va_cpy (q (a + 12)) (q a) 0 0 6 else q a
theorem kcp8_0 {r : zRr} {n m : Nat} : kcp8 r n m n = upd (r n) 5 (r m 5) := if_pos rfl
theorem kcp8_k {r : zRr} {n m : Nat} {k : Nat} (hk : 1 ≤ k ∧ k ≤ 5) : kcp8 r n m (n + k) = va_cpy (r (m + k)) (r (n + k)) 0 0 6 := by
  unfold kcp8
  rw [if_neg (by omega), if_pos (by omega), show n + k - n + m = m + k by omega]
theorem kcp8_o {r : zRr} {n m a : Nat} (h : a < n ∨ n + 6 ≤ a) : kcp8 r n m a = r a := by
  unfold kcp8
  rw [if_neg (by omega), if_neg (by omega)]
theorem kcp1_0 {r : zRr} {n m : Nat} : kcp1 r n m n = upd (r n) 3 (r m 3) := if_pos rfl
theorem kcp1_k {r : zRr} {n m : Nat} {k : Nat} (hk : 1 ≤ k ∧ k ≤ 3) : kcp1 r n m (n + k) = va_cpy (r (m + k)) (r (n + k)) 0 0 (zn (r m 3)) := by
  unfold kcp1
  rw [if_neg (by omega), if_pos (by omega), show n + k - n + m = m + k by omega]
theorem kcp1_o {r : zRr} {n m a : Nat} (h : a < n ∨ n + 4 ≤ a) : kcp1 r n m a = r a := by
  unfold kcp1
  rw [if_neg (by omega), if_neg (by omega)]
