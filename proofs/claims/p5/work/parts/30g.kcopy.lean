/-! ===== the class: standings, journeys, sightings, lands are copied ===== -/
section KC8
variable {ct : Nat → ClassId} {E y : Nat → Nat} {r : zRr} {q : zRq} {n m : Nat}
def kSt (n : Nat) : Prop := n < 138 ∧ n % 6 = 0
theorem kS0 (h : kSt n) : kcl ct E y r q n = (y n, .inr (7, [.ref (y (n + 1)), .ref (y (n + 2)), .ref (y (n + 3)), .ref (y (n + 4)), .ref (y (n + 5)), .int (r n 5)])) := by
  unfold kcl kc; rw [if_pos h.1, if_pos h.2]
theorem kSk (k : Nat) (h : kSt n) (hk : 1 ≤ k ∧ k ≤ 5) : kcl ct E y r q (n + k) = (y (n + k), .inl (ct 0, 6, .inl (r (n + k)))) := by
  obtain ⟨h1, h2⟩ := h
  unfold kcl kc; rw [if_pos (by omega), if_neg (by omega)]
def kis8 (n m : Nat) : List Nat := [n, n + 1, n + 2, n + 3, n + 4, n + 5, m, m + 1, m + 2, m + 3, m + 4, m + 5]
theorem kis8l (hn : kSt n) (hm : kSt m) : ∀ a ∈ kis8 n m, a < 207 := by
  obtain ⟨h1, h2⟩ := hn
  obtain ⟨h3, h4⟩ := hm
  intro a ha
  simp only [kis8, List.mem_cons, List.not_mem_nil, or_false] at ha
  omega
theorem kis8n (hn : kSt n) (hm : kSt m) (hnm : n ≠ m) : va_nd (kis8 n m) = true := by
  obtain ⟨h1, h2⟩ := hn
  obtain ⟨h3, h4⟩ := hm
  simp only [va_nd, kis8, List.mem_cons, List.not_mem_nil, or_false, Bool.and_eq_true, decide_eq_true_eq]
  refine ⟨?_, ?_, ?_, ?_, ?_, ?_, ?_, ?_, ?_, ?_, ?_, not_false, trivial⟩ <;> omega
theorem kis8w (hn : kSt n) (hm : kSt m) : (kis8 n m).map (kcl ct E y r q) = [(y n, .inr (7, [.ref (y (n + 1)), .ref (y (n + 2)), .ref (y (n + 3)), .ref (y (n + 4)), .ref (y (n + 5)), .int (r n 5)])), (y (n + 1), .inl (ct 0, 6, .inl (r (n + 1)))), (y (n + 2), .inl (ct 0, 6, .inl (r (n + 2)))), (y (n + 3), .inl (ct 0, 6, .inl (r (n + 3)))), (y (n + 4), .inl (ct 0, 6, .inl (r (n + 4)))), (y (n + 5), .inl (ct 0, 6, .inl (r (n + 5)))), (y m, .inr (7, [.ref (y (m + 1)), .ref (y (m + 2)), .ref (y (m + 3)), .ref (y (m + 4)), .ref (y (m + 5)), .int (r m 5)])), (y (m + 1), .inl (ct 0, 6, .inl (r (m + 1)))), (y (m + 2), .inl (ct 0, 6, .inl (r (m + 2)))), (y (m + 3), .inl (ct 0, 6, .inl (r (m + 3)))), (y (m + 4), .inl (ct 0, 6, .inl (r (m + 4)))), (y (m + 5), .inl (ct 0, 6, .inl (r (m + 5))))] := by
  simp only [kis8, List.map_cons, List.map_nil]
  rw [kS0 hn, kS0 hm, kSk 1 hn (by decide), kSk 2 hn (by decide), kSk 3 hn (by decide), kSk 4 hn (by decide), kSk 5 hn (by decide), kSk 1 hm (by decide), kSk 2 hm (by decide), kSk 3 hm (by decide), kSk 4 hm (by decide), kSk 5 hm (by decide)]
theorem kis8o (hn : kSt n) : (kW ct E y r q)[n]? = some (y n, .inr (7, [.ref (y (n + 1)), .ref (y (n + 2)), .ref (y (n + 3)), .ref (y (n + 4)), .ref (y (n + 5)), .int (r n 5)])) := by
  rw [kget1 (by have := hn.1; omega), kS0 hn]
def kcp8 (r : zRr) (n m : Nat) : zRr := fun a => if a = n then upd (r n) 5 (r m 5) else if n < a ∧ a < n + 6 then va_cpy (r (a - n + m)) (r a) 0 0 6 else r a
theorem kcp8_0 : kcp8 r n m n = upd (r n) 5 (r m 5) := if_pos rfl
theorem kcp8_k {k : Nat} (hk : 1 ≤ k ∧ k ≤ 5) : kcp8 r n m (n + k) = va_cpy (r (m + k)) (r (n + k)) 0 0 6 := by
  unfold kcp8
  rw [if_neg (by omega), if_pos (by omega), show n + k - n + m = m + k by omega]
theorem kcp8_o {a : Nat} (h : a < n ∨ n + 6 ≤ a) : kcp8 r n m a = r a := by
  unfold kcp8
  rw [if_neg (by omega), if_neg (by omega)]
theorem kis8B (hn : kSt n) (hm : kSt m) (hnm : n ≠ m) : (kis8 n m).map (kcl ct E y (kcp8 r n m) q) = [(y n, .inr (7, [.ref (y (n + 1)), .ref (y (n + 2)), .ref (y (n + 3)), .ref (y (n + 4)), .ref (y (n + 5)), .int (r m 5)])), (y (n + 1), .inl (ct 0, 6, .inl (va_cpy (r (m + 1)) (r (n + 1)) 0 0 6))), (y (n + 2), .inl (ct 0, 6, .inl (va_cpy (r (m + 2)) (r (n + 2)) 0 0 6))), (y (n + 3), .inl (ct 0, 6, .inl (va_cpy (r (m + 3)) (r (n + 3)) 0 0 6))), (y (n + 4), .inl (ct 0, 6, .inl (va_cpy (r (m + 4)) (r (n + 4)) 0 0 6))), (y (n + 5), .inl (ct 0, 6, .inl (va_cpy (r (m + 5)) (r (n + 5)) 0 0 6))), (y m, .inr (7, [.ref (y (m + 1)), .ref (y (m + 2)), .ref (y (m + 3)), .ref (y (m + 4)), .ref (y (m + 5)), .int (r m 5)])), (y (m + 1), .inl (ct 0, 6, .inl (r (m + 1)))), (y (m + 2), .inl (ct 0, 6, .inl (r (m + 2)))), (y (m + 3), .inl (ct 0, 6, .inl (r (m + 3)))), (y (m + 4), .inl (ct 0, 6, .inl (r (m + 4)))), (y (m + 5), .inl (ct 0, 6, .inl (r (m + 5))))] := by
  have hs : m + 6 ≤ n ∨ n + 6 ≤ m := by
    obtain ⟨h1, h2⟩ := hn
    obtain ⟨h3, h4⟩ := hm
    omega
  rw [kis8w hn hm, kcp8_0, pk_us, kcp8_k (k := 1) (by decide), kcp8_k (k := 2) (by decide), kcp8_k (k := 3) (by decide), kcp8_k (k := 4) (by decide), kcp8_k (k := 5) (by decide), kcp8_o (a := m) (by omega), kcp8_o (a := m + 1) (by omega), kcp8_o (a := m + 2) (by omega), kcp8_o (a := m + 3) (by omega), kcp8_o (a := m + 4) (by omega), kcp8_o (a := m + 5) (by omega)]
theorem kis8x (a : Nat) (ha : a ∉ kis8 n m) : kcp8 r n m a = r a ∧ q a = q a := by
  simp only [kis8, List.mem_cons, List.not_mem_nil, or_false, not_or] at ha
  exact ⟨kcp8_o (by omega), rfl⟩
theorem klo8 (h : n < 138) (j : Nat) : klo n j = if n % 6 = 1 then 0 else if n % 6 = 3 then 0 else (-2147483648) := by unfold klo; rw [if_pos h]
theorem khi8 (h : n < 138) (j : Nat) : khi n j = if n % 6 = 1 then 5 else if n % 6 = 3 then 20 else 2147483647 := by unfold khi; rw [if_pos h]
theorem kJ.copy8 (h : kJ r) (hn : kSt n) (hm : kSt m) : kJ (kcp8 r n m) := by
  have o : ∀ a, 138 ≤ a → kcp8 r n m a = r a := fun a ha => kcp8_o (by have := hn.1; have := hn.2; omega)
  refine ⟨?_, h.2.1.row (o _ (by decide)) (o _ (by decide)), h.2.2.1.row (o _ (by decide)) (o _ (by decide)), h.2.2.2.row (fun k hk => o k ?_)⟩
  · intro a j
    by_cases h1 : a < n ∨ n + 6 ≤ a
    · rw [kcp8_o h1]; exact h.i a j
    · obtain ⟨k, hk, rfl⟩ : ∃ k, k ≤ 5 ∧ a = n + k := ⟨a - n, by omega, by omega⟩
      obtain ⟨n1, n2⟩ := hn
      obtain ⟨m1, m2⟩ := hm
      by_cases h0 : k = 0
      · subst h0
        rw [Nat.add_zero, klo8 (by omega), khi8 (by omega), if_neg (by omega), if_neg (by omega), if_neg (by omega), if_neg (by omega)]
        exact zI.top _
      · rw [kcp8_k (by omega)]
        have e1 : klo (n + k) j = klo (m + k) j := by rw [klo8 (by omega), klo8 (by omega), show (n + k) % 6 = (m + k) % 6 by omega]
        have e2 : khi (n + k) j = khi (m + k) j := by rw [khi8 (by omega), khi8 (by omega), show (n + k) % 6 = (m + k) % 6 by omega]
        by_cases hj : j < 6
        · rw [va_cpy_in hj, e1, e2]; exact h.i (m + k) j
        · rw [va_cpy_out (by omega)]; exact h.i (n + k) j
  · have h1 := List.contains_iff_mem.mp hk
    simp only [List.mem_cons, List.not_mem_nil, or_false] at h1
    omega
/-! journeys -/
def kJo (n : Nat) : Prop := 138 ≤ n ∧ n < 162 ∧ (n - 138) % 4 = 0
theorem kj0 (h : kJo n) : kcl ct E y r q n = (y n, .inr (1, [.ref (y (n + 1)), .ref (y (n + 2)), .ref (y (n + 3)), .int (r n 3)])) := by
  obtain ⟨h1, h2, h3⟩ := h
  unfold kcl kc; rw [if_neg (by omega), if_pos h2, if_pos h3]
theorem kjk (k : Nat) (h : kJo n) (hk : 1 ≤ k ∧ k ≤ 3) : kcl ct E y r q (n + k) = (y (n + k), .inl (ct 0, 40, .inl (r (n + k)))) := by
  obtain ⟨h1, h2, h3⟩ := h
  unfold kcl kc; rw [if_neg (by omega), if_pos (by omega), if_neg (by omega)]
def kis1 (n m : Nat) : List Nat := [n, n + 1, n + 2, n + 3, m, m + 1, m + 2, m + 3]
theorem kis1l (hn : kJo n) (hm : kJo m) : ∀ a ∈ kis1 n m, a < 207 := by
  obtain ⟨h1, h2, h3⟩ := hn
  obtain ⟨h4, h5, h6⟩ := hm
  intro a ha
  simp only [kis1, List.mem_cons, List.not_mem_nil, or_false] at ha
  omega
theorem kis1n (hn : kJo n) (hm : kJo m) (hnm : n ≠ m) : va_nd (kis1 n m) = true := by
  obtain ⟨h1, h2, h3⟩ := hn
  obtain ⟨h4, h5, h6⟩ := hm
  simp only [va_nd, kis1, List.mem_cons, List.not_mem_nil, or_false, Bool.and_eq_true, decide_eq_true_eq]
  refine ⟨?_, ?_, ?_, ?_, ?_, ?_, ?_, not_false, trivial⟩ <;> omega
theorem kis1w (hn : kJo n) (hm : kJo m) {v : Int32} (hv : r m 3 = v) : (kis1 n m).map (kcl ct E y r q) = [(y n, .inr (1, [.ref (y (n + 1)), .ref (y (n + 2)), .ref (y (n + 3)), .int (r n 3)])), (y (n + 1), .inl (ct 0, 40, .inl (r (n + 1)))), (y (n + 2), .inl (ct 0, 40, .inl (r (n + 2)))), (y (n + 3), .inl (ct 0, 40, .inl (r (n + 3)))), (y m, .inr (1, [.ref (y (m + 1)), .ref (y (m + 2)), .ref (y (m + 3)), .int v])), (y (m + 1), .inl (ct 0, 40, .inl (r (m + 1)))), (y (m + 2), .inl (ct 0, 40, .inl (r (m + 2)))), (y (m + 3), .inl (ct 0, 40, .inl (r (m + 3))))] := by
  subst hv
  simp only [kis1, List.map_cons, List.map_nil]
  rw [kj0 hn, kj0 hm, kjk 1 hn (by decide), kjk 2 hn (by decide), kjk 3 hn (by decide), kjk 1 hm (by decide), kjk 2 hm (by decide), kjk 3 hm (by decide)]
theorem kis1o (hn : kJo n) : (kW ct E y r q)[n]? = some (y n, .inr (1, [.ref (y (n + 1)), .ref (y (n + 2)), .ref (y (n + 3)), .int (r n 3)])) := by
  rw [kget1 (by have := hn.2.1; omega), kj0 hn]
def kcp1 (r : zRr) (n m : Nat) : zRr := fun a => if a = n then upd (r n) 3 (r m 3) else if n < a ∧ a < n + 4 then va_cpy (r (a - n + m)) (r a) 0 0 (zn (r m 3)) else r a
theorem kcp1_0 : kcp1 r n m n = upd (r n) 3 (r m 3) := if_pos rfl
theorem kcp1_k {k : Nat} (hk : 1 ≤ k ∧ k ≤ 3) : kcp1 r n m (n + k) = va_cpy (r (m + k)) (r (n + k)) 0 0 (zn (r m 3)) := by
  unfold kcp1
  rw [if_neg (by omega), if_pos (by omega), show n + k - n + m = m + k by omega]
theorem kcp1_o {a : Nat} (h : a < n ∨ n + 4 ≤ a) : kcp1 r n m a = r a := by
  unfold kcp1
  rw [if_neg (by omega), if_neg (by omega)]
theorem kis1B (hn : kJo n) (hm : kJo m) (hnm : n ≠ m) {v : Int32} (hv : r m 3 = v) : (kis1 n m).map (kcl ct E y (kcp1 r n m) q) = [(y n, .inr (1, [.ref (y (n + 1)), .ref (y (n + 2)), .ref (y (n + 3)), .int v])), (y (n + 1), .inl (ct 0, 40, .inl (va_cpy (r (m + 1)) (r (n + 1)) 0 0 (zn (r m 3))))), (y (n + 2), .inl (ct 0, 40, .inl (va_cpy (r (m + 2)) (r (n + 2)) 0 0 (zn (r m 3))))), (y (n + 3), .inl (ct 0, 40, .inl (va_cpy (r (m + 3)) (r (n + 3)) 0 0 (zn (r m 3))))), (y m, .inr (1, [.ref (y (m + 1)), .ref (y (m + 2)), .ref (y (m + 3)), .int v])), (y (m + 1), .inl (ct 0, 40, .inl (r (m + 1)))), (y (m + 2), .inl (ct 0, 40, .inl (r (m + 2)))), (y (m + 3), .inl (ct 0, 40, .inl (r (m + 3))))] := by
  have hs : m + 4 ≤ n ∨ n + 4 ≤ m := by
    obtain ⟨h1, h2, h3⟩ := hn
    obtain ⟨h4, h5, h6⟩ := hm
    omega
  rw [kis1w hn hm (v := v) (by rw [kcp1_o (by omega)]; exact hv), kcp1_0, pk_us, kcp1_k (k := 1) (by decide), kcp1_k (k := 2) (by decide), kcp1_k (k := 3) (by decide), kcp1_o (a := m + 1) (by omega), kcp1_o (a := m + 2) (by omega), kcp1_o (a := m + 3) (by omega), hv]
theorem kis1x (a : Nat) (ha : a ∉ kis1 n m) : kcp1 r n m a = r a ∧ q a = q a := by
  simp only [kis1, List.mem_cons, List.not_mem_nil, or_false, not_or] at ha
  exact ⟨kcp1_o (by omega), rfl⟩
/-- the lines of a journey, as far as it goes, are right -/
def kL (r : zRr) (m : Nat) : Prop := ∀ j : Nat, (j : Int) < (r m 3).toInt → (r (m + 1) j = 0 → zI 0 5 (r (m + 3) j)) ∧ zI 0 5 (r (m + 2) j)
theorem kG.L {r : zRr} (h : kJ r) {m : Nat} (hm : m = 138 ∨ m = 146 ∨ m = 150 ∨ m = 154 ∨ m = 158) : kL r m := by
  obtain ⟨h1, -, -, g1, g2, g3, g4, g5⟩ := h
  intro j hj
  rcases hm with rfl | rfl | rfl | rfl | rfl
  · exact ⟨g1 j, h1 140 j⟩
  · exact ⟨g2 j, h1 148 j⟩
  · exact ⟨g3 j, h1 152 j⟩
  · exact ⟨g4 j, h1 156 j⟩
  · exact ⟨g5 j, h1 160 j⟩
theorem kcp1G {r : zRr} {n m : Nat} (hn : kG r n) (hm : kL r m) (hb : 0 ≤ (r m 3).toInt) : kG (kcp1 r n m) n := by
  intro j
  rw [kcp1_k (k := 1) (by decide), kcp1_k (k := 3) (by decide)]
  by_cases hj : j < zn (r m 3)
  · rw [va_cpy_in hj, va_cpy_in hj]
    exact (hm j (by unfold zn at hj; omega)).1
  · rw [va_cpy_out (by omega), va_cpy_out (by omega)]
    exact hn j
theorem kJ.copy1 {r : zRr} (h : kJ r) {n m : Nat} (hn : n = 138 ∨ n = 146 ∨ n = 150 ∨ n = 154 ∨ n = 158) (hm : kL r m) (hb : zI 0 40 (r m 3)) : kJ (kcp1 r n m) := by
  have o : ∀ a, a < n ∨ n + 4 ≤ a → kcp1 r n m a = r a := fun a ha => kcp1_o ha
  have hg := kcp1G (r := r) (n := n) (m := m) (by
    obtain ⟨-, -, -, g1, g2, g3, g4, g5⟩ := h
    rcases hn with rfl | rfl | rfl | rfl | rfl <;> assumption) hm hb.1
  obtain ⟨h1, h2, h3, g1, g2, g3, g4, g5⟩ := h
  have hI : kI (kcp1 r n m) := by
    intro a j
    by_cases ha : a < n ∨ n + 4 ≤ a
    · rw [o a ha]; exact h1 a j
    · obtain ⟨k, hk, rfl⟩ : ∃ k, k ≤ 3 ∧ a = n + k := ⟨a - n, by omega, by omega⟩
      by_cases h0 : k = 0
      · subst h0
        rw [Nat.add_zero, kcp1_0]
        have hz : ∀ v : Int32, zI 0 40 v → zI (klo n j) (khi n j) v := fun v hv => by rcases hn with rfl | rfl | rfl | rfl | rfl <;> exact hv
        by_cases hj : j = 5 - 2
        · subst hj
          rw [pk_us]; exact hz _ hb
        · rw [pk_un hj]; exact h1 n j
      · rw [kcp1_k (by omega)]
        by_cases hj : j < zn (r m 3)
        · rw [va_cpy_in hj]
          have h9 := hm j (by have := hb.1; unfold zn at hj; omega)
          by_cases h8 : k = 2
          · subst h8
            have hz : zI 0 5 (r (m + 2) j) → zI (klo (n + 2) j) (khi (n + 2) j) (r (m + 2) j) := fun hv => by rcases hn with rfl | rfl | rfl | rfl | rfl <;> exact hv
            exact hz h9.2
          · have hz : zI (klo (n + k) j) (khi (n + k) j) (r (m + k) j) := by
              rcases (show k = 1 ∨ k = 3 by omega) with rfl | rfl <;> rcases hn with rfl | rfl | rfl | rfl | rfl <;> exact zI.top _
            exact hz
        · rw [va_cpy_out (by omega)]; exact h1 (n + k) j
  refine ⟨hI, h2.row (o _ (by omega)) (o _ (by omega)), h3.row (o _ (by omega)) (o _ (by omega)), ?_, ?_, ?_, ?_, ?_⟩
  · rcases hn with rfl | rfl | rfl | rfl | rfl
    · exact hg
    all_goals exact g1.row (o _ (by decide)) (o _ (by decide))
  · rcases hn with rfl | rfl | rfl | rfl | rfl
    · exact g2.row (o _ (by decide)) (o _ (by decide))
    · exact hg
    all_goals exact g2.row (o _ (by decide)) (o _ (by decide))
  · rcases hn with rfl | rfl | rfl | rfl | rfl
    · exact g3.row (o _ (by decide)) (o _ (by decide))
    · exact g3.row (o _ (by decide)) (o _ (by decide))
    · exact hg
    all_goals exact g3.row (o _ (by decide)) (o _ (by decide))
  · rcases hn with rfl | rfl | rfl | rfl | rfl
    · exact g4.row (o _ (by decide)) (o _ (by decide))
    · exact g4.row (o _ (by decide)) (o _ (by decide))
    · exact g4.row (o _ (by decide)) (o _ (by decide))
    · exact hg
    · exact g4.row (o _ (by decide)) (o _ (by decide))
  · rcases hn with rfl | rfl | rfl | rfl | rfl
    · exact g5.row (o _ (by decide)) (o _ (by decide))
    · exact g5.row (o _ (by decide)) (o _ (by decide))
    · exact g5.row (o _ (by decide)) (o _ (by decide))
    · exact g5.row (o _ (by decide)) (o _ (by decide))
    · exact hg
/-! lands -/
def kcpL (r : zRr) (k : Nat) : zRr := fun a => if a = 171 then upd (upd (upd (upd (r 171) 9 (r 183 9)) 10 (r 183 10)) 11 (r 183 11)) 12 (r 183 12) else if a = 180 then upd (r 180) 2 (nI k) else if a = 181 then va_cpy (r 193) (r 181) 0 0 k else if 172 ≤ a ∧ a ≤ 178 ∧ a ≠ 174 then va_cpy (r (a + 12)) (r a) 0 0 6 else r a
def kcpLq (q : zRq) : zRq := fun a => if a = 174 ∨ a = 179 then va_cpy (q (a + 12)) (q a) 0 0 6 else q a
def kisL : List Nat := [171, 172, 173, 174, 175, 176, 177, 178, 179, 180, 181, 183, 184, 185, 186, 187, 188, 189, 190, 191, 192, 193]
theorem kisLx {k : Nat} (a : Nat) (ha : a ∉ kisL) : kcpL r k a = r a ∧ kcpLq q a = q a := by
  simp only [kisL, List.mem_cons, List.not_mem_nil, or_false, not_or] at ha
  unfold kcpL kcpLq
  rw [if_neg (by omega), if_neg (by omega), if_neg (by omega), if_neg (by omega), if_neg (by omega)]
  exact ⟨rfl, rfl⟩
theorem kJ.copyL (h : kJ r) {k : Nat} (hk : nI k = r 192 2) : kJ (kcpL r k) := by
  have hI : kI (kcpL r k) := by
    intro a j
    by_cases e1 : a = 171
    · subst e1
      show zI (klo 171 j) (khi 171 j) (upd (upd (upd (upd (r 171) 9 (r 183 9)) 10 (r 183 10)) 11 (r 183 11)) 12 (r 183 12) j)
      by_cases j12 : j = 12
      · subst j12; rw [pk_us]; exact h.i 183 12
      rw [pk_un j12]
      by_cases j11 : j = 11
      · subst j11; rw [pk_us]; exact h.i 183 11
      rw [pk_un j11]
      by_cases j10 : j = 10
      · subst j10; rw [pk_us]; exact h.i 183 10
      rw [pk_un j10]
      by_cases j9 : j = 9
      · subst j9; rw [pk_us]; exact h.i 183 9
      rw [pk_un j9]; exact h.i 171 j
    by_cases e2 : a = 180
    · subst e2
      show zI (klo 180 j) (khi 180 j) (upd (r 180) 2 (nI k) j)
      by_cases j2 : j = 2
      · subst j2; rw [pk_us, hk]; exact h.i 192 2
      rw [pk_un j2]; exact h.i 180 j
    by_cases e3 : a = 181
    · subst e3; exact zI.top _
    by_cases e4 : 172 ≤ a ∧ a ≤ 178 ∧ a ≠ 174
    · unfold kcpL
      rw [if_neg e1, if_neg e2, if_neg e3, if_pos e4]
      by_cases hj : j < 6
      · rw [va_cpy_in hj]
        rcases (show a = 172 ∨ a = 173 ∨ a = 175 ∨ a = 176 ∨ a = 177 ∨ a = 178 by omega) with rfl | rfl | rfl | rfl | rfl | rfl
        · exact h.i 184 j
        · exact h.i 185 j
        · exact h.i 187 j
        · exact h.i 188 j
        · exact h.i 189 j
        · exact h.i 190 j
      · rw [va_cpy_out (by omega)]; exact h.i a j
    · unfold kcpL
      rw [if_neg e1, if_neg e2, if_neg e3, if_neg e4]; exact h.i a j
  refine ⟨hI, ?_, h.2.2.1, h.2.2.2.row (fun a ha => ?_)⟩
  · intro j hj
    have e1 : kcpL r k 171 10 = r 183 10 := rfl
    rw [e1] at hj
    have h9 : zI 0 6 (r 183 10) := h.i 183 10
    have h8 := h.2.2.1 j hj
    show zI 0 5 (va_cpy (r 188) (r 176) 0 0 6 j)
    rw [va_cpy_in (by have := h9.2; omega)]
    exact h8
  · have h1 := List.contains_iff_mem.mp ha
    simp only [List.mem_cons, List.not_mem_nil, or_false] at h1
    rcases h1 with rfl | rfl | rfl | rfl | rfl | rfl | rfl | rfl | rfl | rfl <;> rfl
theorem kJ.fill (h : kJ r) {n N : Nat} {v : Int32} (hn : kfree n = true) (hv : ∀ j, zI (klo n j) (khi n j) v) : kJ (zset r n (zfl (r n) v N)) := h.setr hn (fun j => by
  unfold zfl
  split
  · exact hv j
  · exact h.i n j)
end KC8
section KC9
variable {ct : Nat → ClassId} {E y : Nat → Nat} {r : zRr} {q : zRq} {n m : Nat}
theorem kset1x {g : Nat → Int32} (a : Nat) (ha : a ∉ [n]) : zset r n g a = r a ∧ q a = q a := ⟨zset_ne (fun e => ha (by rw [e]; exact List.mem_singleton.mpr rfl)), rfl⟩
theorem kset2x {g : Nat → Int32} (a : Nat) (ha : a ∉ [n, m]) : zset r n g a = r a ∧ q a = q a := ⟨zset_ne (fun e => ha (by rw [e]; exact List.mem_cons_self)), rfl⟩
theorem kone {ws : va_W} {x : Nat × va_E} (h : ws[n]? = some x) : [n].map (fun i => ws[i]?) = [x].map some := by
  show [ws[n]?] = _
  rw [h]; rfl
theorem ktwo {ws : va_W} {x z : Nat × va_E} (h : ws[n]? = some x) (h2 : ws[m]? = some z) : [n, m].map (fun i => ws[i]?) = [x, z].map some := by
  show [ws[n]?, ws[m]?] = _
  rw [h, h2]; rfl
theorem kisLw {v : Int32} (hv : r 192 2 = v) : kisL.map (kcl ct E y r q) = [(y 171, .inr (2, [.ref (y 172), .ref (y 173), .ref (y 174), .ref (y 175), .ref (y 176), .ref (y 177), .ref (y 178), .ref (y 179), .ref (y 180), .int ((r 171) 9), .int ((r 171) 10), .int ((r 171) 11), .int ((r 171) 12)])), (y 172, .inl (ct 0, 6, .inl (r 172))), (y 173, .inl (ct 0, 6, .inl (r 173))), (y 174, .inl (ct 1, 6, .inr (.inl (q 174)))), (y 175, .inl (ct 0, 6, .inl (r 175))), (y 176, .inl (ct 0, 6, .inl (r 176))), (y 177, .inl (ct 0, 6, .inl (r 177))), (y 178, .inl (ct 0, 6, .inl (r 178))), (y 179, .inl (ct 1, 6, .inr (.inl (q 179)))), (y 180, .inr (4, [.ref (y 181), .ref (y 182), .int ((r 180) 2)])), (y 181, .inl (ct 0, 1000, .inl (r 181))), (y 183, .inr (2, [.ref (y 184), .ref (y 185), .ref (y 186), .ref (y 187), .ref (y 188), .ref (y 189), .ref (y 190), .ref (y 191), .ref (y 192), .int ((r 183) 9), .int ((r 183) 10), .int ((r 183) 11), .int ((r 183) 12)])), (y 184, .inl (ct 0, 6, .inl (r 184))), (y 185, .inl (ct 0, 6, .inl (r 185))), (y 186, .inl (ct 1, 6, .inr (.inl (q 186)))), (y 187, .inl (ct 0, 6, .inl (r 187))), (y 188, .inl (ct 0, 6, .inl (r 188))), (y 189, .inl (ct 0, 6, .inl (r 189))), (y 190, .inl (ct 0, 6, .inl (r 190))), (y 191, .inl (ct 1, 6, .inr (.inl (q 191)))), (y 192, .inr (4, [.ref (y 193), .ref (y 194), .int v])), (y 193, .inl (ct 0, 1000, .inl (r 193)))] := by
  subst hv
  rfl
theorem kisLB (hv : r 192 2 = nI (zn (r 192 2))) : kisL.map (kcl ct E y (kcpL r (zn (r 192 2))) (kcpLq q)) = [(y 171, .inr (2, [.ref (y 172), .ref (y 173), .ref (y 174), .ref (y 175), .ref (y 176), .ref (y 177), .ref (y 178), .ref (y 179), .ref (y 180), .int (r 183 9), .int (r 183 10), .int (r 183 11), .int (r 183 12)])), (y 172, .inl (ct 0, 6, .inl (va_cpy (r 184) (r 172) 0 0 6))), (y 173, .inl (ct 0, 6, .inl (va_cpy (r 185) (r 173) 0 0 6))), (y 174, .inl (ct 1, 6, .inr (.inl (va_cpy (q 186) (q 174) 0 0 6)))), (y 175, .inl (ct 0, 6, .inl (va_cpy (r 187) (r 175) 0 0 6))), (y 176, .inl (ct 0, 6, .inl (va_cpy (r 188) (r 176) 0 0 6))), (y 177, .inl (ct 0, 6, .inl (va_cpy (r 189) (r 177) 0 0 6))), (y 178, .inl (ct 0, 6, .inl (va_cpy (r 190) (r 178) 0 0 6))), (y 179, .inl (ct 1, 6, .inr (.inl (va_cpy (q 191) (q 179) 0 0 6)))), (y 180, .inr (4, [.ref (y 181), .ref (y 182), .int (nI (zn (r 192 2)))])), (y 181, .inl (ct 0, 1000, .inl (va_cpy (r 193) (r 181) 0 0 (zn (r 192 2))))), (y 183, .inr (2, [.ref (y 184), .ref (y 185), .ref (y 186), .ref (y 187), .ref (y 188), .ref (y 189), .ref (y 190), .ref (y 191), .ref (y 192), .int ((r 183) 9), .int ((r 183) 10), .int ((r 183) 11), .int ((r 183) 12)])), (y 184, .inl (ct 0, 6, .inl (r 184))), (y 185, .inl (ct 0, 6, .inl (r 185))), (y 186, .inl (ct 1, 6, .inr (.inl (q 186)))), (y 187, .inl (ct 0, 6, .inl (r 187))), (y 188, .inl (ct 0, 6, .inl (r 188))), (y 189, .inl (ct 0, 6, .inl (r 189))), (y 190, .inl (ct 0, 6, .inl (r 190))), (y 191, .inl (ct 1, 6, .inr (.inl (q 191)))), (y 192, .inr (4, [.ref (y 193), .ref (y 194), .int (nI (zn (r 192 2)))])), (y 193, .inl (ct 0, 1000, .inl (r 193)))] := congrArg (fun v : Int32 => ([(y 171, .inr (2, [.ref (y 172), .ref (y 173), .ref (y 174), .ref (y 175), .ref (y 176), .ref (y 177), .ref (y 178), .ref (y 179), .ref (y 180), .int (r 183 9), .int (r 183 10), .int (r 183 11), .int (r 183 12)])), (y 172, .inl (ct 0, 6, .inl (va_cpy (r 184) (r 172) 0 0 6))), (y 173, .inl (ct 0, 6, .inl (va_cpy (r 185) (r 173) 0 0 6))), (y 174, .inl (ct 1, 6, .inr (.inl (va_cpy (q 186) (q 174) 0 0 6)))), (y 175, .inl (ct 0, 6, .inl (va_cpy (r 187) (r 175) 0 0 6))), (y 176, .inl (ct 0, 6, .inl (va_cpy (r 188) (r 176) 0 0 6))), (y 177, .inl (ct 0, 6, .inl (va_cpy (r 189) (r 177) 0 0 6))), (y 178, .inl (ct 0, 6, .inl (va_cpy (r 190) (r 178) 0 0 6))), (y 179, .inl (ct 1, 6, .inr (.inl (va_cpy (q 191) (q 179) 0 0 6)))), (y 180, .inr (4, [.ref (y 181), .ref (y 182), .int (nI (zn (r 192 2)))])), (y 181, .inl (ct 0, 1000, .inl (va_cpy (r 193) (r 181) 0 0 (zn (r 192 2))))), (y 183, .inr (2, [.ref (y 184), .ref (y 185), .ref (y 186), .ref (y 187), .ref (y 188), .ref (y 189), .ref (y 190), .ref (y 191), .ref (y 192), .int ((r 183) 9), .int ((r 183) 10), .int ((r 183) 11), .int ((r 183) 12)])), (y 184, .inl (ct 0, 6, .inl (r 184))), (y 185, .inl (ct 0, 6, .inl (r 185))), (y 186, .inl (ct 1, 6, .inr (.inl (q 186)))), (y 187, .inl (ct 0, 6, .inl (r 187))), (y 188, .inl (ct 0, 6, .inl (r 188))), (y 189, .inl (ct 0, 6, .inl (r 189))), (y 190, .inl (ct 0, 6, .inl (r 190))), (y 191, .inl (ct 1, 6, .inr (.inl (q 191)))), (y 192, .inr (4, [.ref (y 193), .ref (y 194), .int v])), (y 193, .inl (ct 0, 1000, .inl (r 193)))] : va_W)) hv
end KC9
