/-! ===== the readers of an E at each level ===== -/
theorem xJ1s {s k : Nat} (h : xJ 1 s = some k) : s = 27 ∧ k = 6 := by
  unfold xJ at h; rw [if_pos rfl] at h
  by_cases h1 : s = 27
  · rw [if_pos h1] at h; cases h; exact ⟨h1, rfl⟩
  · rw [if_neg h1] at h; cases h
theorem xJ1n {s : Nat} (h : xJ 1 s = none) : s ≠ 27 := by
  intro h1; unfold xJ at h; rw [if_pos rfl, if_pos h1] at h; cases h
theorem xJ2s {s k : Nat} (h : xJ 2 s = some k) : (s = 25 ∧ k = 4) ∨ (s = 26 ∧ k = 5) := by
  unfold xJ at h; rw [if_neg (by decide), if_pos rfl] at h
  by_cases h1 : s = 25
  · rw [if_pos h1] at h; cases h; exact Or.inl ⟨h1, rfl⟩
  · rw [if_neg h1] at h
    by_cases h2 : s = 26
    · rw [if_pos h2] at h; cases h; exact Or.inr ⟨h2, rfl⟩
    · rw [if_neg h2] at h; cases h
theorem xJ2n {s : Nat} (h : xJ 2 s = none) : s ≠ 25 ∧ s ≠ 26 := by
  unfold xJ at h; rw [if_neg (by decide), if_pos rfl] at h
  refine ⟨fun h1 => ?_, fun h1 => ?_⟩
  · rw [if_pos h1] at h; cases h
  · rw [if_neg (by omega), if_pos h1] at h; cases h
theorem xJ4s {s k : Nat} (h : xJ 4 s = some k) : (s = 19 ∧ k = 0) ∨ (s = 20 ∧ k = 1) := by
  unfold xJ at h; rw [if_neg (by decide), if_neg (by decide)] at h
  by_cases h1 : s = 19
  · rw [if_pos h1] at h; cases h; exact Or.inl ⟨h1, rfl⟩
  · rw [if_neg h1] at h
    by_cases h2 : s = 20
    · rw [if_pos h2] at h; cases h; exact Or.inr ⟨h2, rfl⟩
    · rw [if_neg h2] at h; cases h
theorem xJ4n {s : Nat} (h : xJ 4 s = none) : s ≠ 19 ∧ s ≠ 20 := by
  unfold xJ at h; rw [if_neg (by decide), if_neg (by decide)] at h
  refine ⟨fun h1 => ?_, fun h1 => ?_⟩
  · rw [if_pos h1] at h; cases h
  · rw [if_neg (by omega), if_pos h1] at h; cases h
theorem x1000 {i : Nat} (h : 1000 ≤ i ∧ i ≤ 1001) : (1000 : Int32) ≤ nI i := (nI_leI (a := 1000) (by omega) (by omega)).mpr h.1
theorem x1000n {i : Nat} (h : i < 1000) : ¬ (1000 : Int32) ≤ nI i := fun h2 => by have := (nI_leI (a := 1000) (by omega) (by omega)).mp h2; omega
theorem x513 : ((-5 : Int32) = -13) = False := eq_false (by decide)
theorem x2118 : ((18 : Int32) = 21) = False := eq_false (by decide)
theorem x2118b : ((21 : Int32) = 18) = False := eq_false (by decide)
theorem xP5 : xSimP 5 Gk_readPart5 := by
  refine xpart5 ?_ ?_
  · intro r q h18 h21 hv
    have h18 : ¬ r 196 4 = 18 := h18
    have h21 : ¬ r 196 4 = 21 := h21
    unfold Gk_readPart5 Gk_readPart5_15 Gk_readPart5_31 Gk_readPart5_47 Gk_readPart5_66
    simp only [zifQ, zifnQ, zletQ, if_neg h18, if_neg h21, hv, x00, if_true]
    exact Prod.ext rfl rfl
  · intro r q hv
    by_cases h21 : r 196 4 = 21
    · have h18 : ¬ r 196 4 = 18 := by rw [h21]; decide
      unfold Gk_readPart5 Gk_readPart5_15 Gk_readPart5_31 Gk_readPart5_47 Gk_readPart5_66
      simp only [zifQ, zifnQ, zletQ, if_neg h18, if_pos h21, x00, x10, if_true, if_false]
      exact Prod.ext rfl rfl
    · by_cases h18 : r 196 4 = 18
      · unfold Gk_readPart5 Gk_readPart5_15 Gk_readPart5_31 Gk_readPart5_47 Gk_readPart5_66
        simp only [zifQ, zifnQ, zletQ, if_pos h18, if_neg h21, x00, x10, x513, if_true, if_false]
        exact Prod.ext rfl rfl
      · have hv : ¬ Gk_valueHere r q = -13 := by
          rcases hv with h | h | h
          · exact h
          · exact absurd h h18
          · exact absurd h h21
        unfold Gk_readPart5 Gk_readPart5_15 Gk_readPart5_31 Gk_readPart5_47 Gk_readPart5_66
        simp only [zifQ, zifnQ, zletQ, if_neg h18, if_neg h21, if_neg hv, x00, if_true]
        exact Prod.ext rfl rfl
theorem xR5 : xSim 1 5 6 Gk_readProduct5 := by
  refine xlevel (lev := 1) (w := 5) (c := 6) (Or.inl rfl) (by decide) (fun h => absurd h (by decide)) (K := Gk_readPart5) (loop := Gk_readProduct5_13) xP5.s ?_ ?_ ?_ ?_
  · intro m i r q h
    show Bk_readProduct5_13 (Gk_readProduct5_13 m) (nI i) r q = _
    unfold Bk_readProduct5_13
    simp only [zifQ, if_pos (x1000 h)]
  · intro m i s r q hi hs h32 hj
    have h27 : ¬ r 196 4 = 27 := xne hs (xJ1n hj) (by omega) (b := 27) (by omega)
    show Bk_readProduct5_13 (Gk_readProduct5_13 m) (nI i) r q = _
    unfold Bk_readProduct5_13
    simp only [zifQ, zifnQ, zletQ, if_neg (x1000n hi), if_neg h27]
  · intro m i s k r q hi hs h32 hj
    obtain ⟨rfl, rfl⟩ := xJ1s hj
    have h27 : r 196 4 = 27 := hs
    show Bk_readProduct5_13 (Gk_readProduct5_13 m) (nI i) r q = _
    unfold Bk_readProduct5_13
    simp only [zifQ, zifnQ, zletQ, if_neg (x1000n hi), if_pos h27, nI_1, show xok 6 = -12 from rfl]
  · intro r q
    unfold Gk_readProduct5
    simp only [zifnQ, nI_0]
theorem xZ5 : xSim 2 5 6 Gk_readSum5 := by
  refine xlevel (lev := 2) (w := 5) (c := 6) (Or.inr (Or.inl rfl)) (by decide) (fun h => absurd h (by decide)) (K := Gk_readProduct5) (loop := Gk_readSum5_13) xR5 ?_ ?_ ?_ ?_
  · intro m i r q h
    show Bk_readSum5_13 (Gk_readSum5_13 m) (nI i) r q = _
    unfold Bk_readSum5_13
    simp only [zifQ, if_pos (x1000 h)]
  · intro m i s r q hi hs h32 hj
    have h1 : ¬ r 196 4 = 25 := xne hs (xJ2n hj).1 (by omega) (b := 25) (by omega)
    have h2 : ¬ r 196 4 = 26 := xne hs (xJ2n hj).2 (by omega) (b := 26) (by omega)
    show Bk_readSum5_13 (Gk_readSum5_13 m) (nI i) r q = _
    unfold Bk_readSum5_13
    simp only [zifQ, zifnQ, zletQ, if_neg (x1000n hi), if_neg h1, if_neg h2]
  · intro m i s k r q hi hs h32 hj
    rcases xJ2s hj with ⟨rfl, rfl⟩ | ⟨rfl, rfl⟩
    · have h1 : r 196 4 = 25 := hs
      show Bk_readSum5_13 (Gk_readSum5_13 m) (nI i) r q = _
      unfold Bk_readSum5_13 Gk_readSum5_40 Gk_readSum5_57
      simp only [zifQ, zifnQ, zletQ, if_neg (x1000n hi), if_pos h1, nI_1, show xok 4 = -10 from rfl]
    · have h1 : r 196 4 = 26 := hs
      have h2 : ¬ r 196 4 = 25 := by rw [h1]; decide
      show Bk_readSum5_13 (Gk_readSum5_13 m) (nI i) r q = _
      unfold Bk_readSum5_13 Gk_readSum5_40 Gk_readSum5_57
      simp only [zifQ, zifnQ, zletQ, if_neg (x1000n hi), if_pos h1, if_neg h2, nI_1, show xok 5 = -11 from rfl]
  · intro r q
    unfold Gk_readSum5
    simp only [zifnQ, nI_0]
noncomputable def xT5 (r : zRr) (q : zRq) : Int32 × zRr × zRq := zif (r 196 4 = 23) (Gk_readTest5_33 r q) (zif (r 196 4 = 24) (Gk_readTest5_33 r q) (1, r, q))
theorem xY5 : xSim 3 5 5 Gk_readTest5 := by
  refine xtest (w := 5) (by decide) (K := Gk_readSum5) (T := xT5) xZ5 ?_ ?_ ?_
  · intro r q h1 h2
    have h1 : ¬ r 196 4 = 23 := h1
    have h2 : ¬ r 196 4 = 24 := h2
    unfold xT5
    simp only [zifQ, if_neg h1, if_neg h2]
  · intro r q k hk hs
    rcases hk with rfl | rfl
    · have h1 : r 196 4 = 23 := hs
      unfold xT5 Gk_readTest5_33 Gk_readTest5_50
      simp only [zifQ, zifnQ, zletQ, if_pos h1, show xok 2 = -8 from rfl]
    · have h1 : r 196 4 = 24 := hs
      have h2 : ¬ r 196 4 = 23 := by rw [h1]; decide
      unfold xT5 Gk_readTest5_33 Gk_readTest5_50
      simp only [zifQ, zifnQ, zletQ, if_pos h1, if_neg h2, show xok 3 = -9 from rfl]
  · intro r q
    unfold Gk_readTest5 xT5
    simp only [zletQ]
theorem xW5 : xSim 4 5 5 Gk_readWhole5 := by
  refine xlevel (lev := 4) (w := 5) (c := 5) (Or.inr (Or.inr rfl)) (by decide) (fun h => rfl) (K := Gk_readTest5) (loop := Gk_readWhole5_13) xY5 ?_ ?_ ?_ ?_
  · intro m i r q h
    show Bk_readWhole5_13 (Gk_readWhole5_13 m) (nI i) r q = _
    unfold Bk_readWhole5_13
    simp only [zifQ, if_pos (x1000 h)]
  · intro m i s r q hi hs h32 hj
    have h1 : ¬ r 196 4 = 19 := xne hs (xJ4n hj).1 (by omega) (b := 19) (by omega)
    have h2 : ¬ r 196 4 = 20 := xne hs (xJ4n hj).2 (by omega) (b := 20) (by omega)
    show Bk_readWhole5_13 (Gk_readWhole5_13 m) (nI i) r q = _
    unfold Bk_readWhole5_13
    simp only [zifQ, zifnQ, zletQ, if_neg (x1000n hi), if_neg h1, if_neg h2]
  · intro m i s k r q hi hs h32 hj
    rcases xJ4s hj with ⟨rfl, rfl⟩ | ⟨rfl, rfl⟩
    · have h1 : r 196 4 = 19 := hs
      show Bk_readWhole5_13 (Gk_readWhole5_13 m) (nI i) r q = _
      unfold Bk_readWhole5_13 Gk_readWhole5_40 Gk_readWhole5_57
      simp only [zifQ, zifnQ, zletQ, if_neg (x1000n hi), if_pos h1, nI_1, show xok 0 = -6 from rfl]
    · have h1 : r 196 4 = 20 := hs
      have h2 : ¬ r 196 4 = 19 := by rw [h1]; decide
      show Bk_readWhole5_13 (Gk_readWhole5_13 m) (nI i) r q = _
      unfold Bk_readWhole5_13 Gk_readWhole5_40 Gk_readWhole5_57
      simp only [zifQ, zifnQ, zletQ, if_neg (x1000n hi), if_pos h1, if_neg h2, nI_1, show xok 1 = -7 from rfl]
  · intro r q
    unfold Gk_readWhole5
    simp only [zifnQ, nI_0]
theorem xP4 : xSimP 4 Gk_readPart4 := by
  refine xpart (w := 4) (by decide) xP5 xW5 ?_ ?_ ?_ ?_
  · intro r q h18 h21 hv
    have h18 : ¬ r 196 4 = 18 := h18
    have h21 : ¬ r 196 4 = 21 := h21
    unfold Gk_readPart4 Gk_readPart4_15 Gk_readPart4_31 Gk_readPart4_47 Gk_readPart4_66
    simp only [zifQ, zifnQ, zletQ, if_neg h18, if_neg h21, hv, x00, if_true]
    exact Prod.ext rfl rfl
  · intro r q h18 h21 hv
    have h18 : ¬ r 196 4 = 18 := h18
    have h21 : ¬ r 196 4 = 21 := h21
    unfold Gk_readPart4 Gk_readPart4_15 Gk_readPart4_31 Gk_readPart4_47 Gk_readPart4_66 Gk_readPart4_130
    simp only [zifQ, zifnQ, zletQ, if_neg h18, if_neg h21, if_neg hv, x00, if_true]
  · intro r q h18
    have h18 : r 196 4 = 18 := h18
    have h21 : ¬ r 196 4 = 21 := by rw [h18]; decide
    unfold Gk_readPart4 Gk_readPart4_15 Gk_readPart4_31 Gk_readPart4_47 Gk_readPart4_66 Gk_readPart4_130
    simp only [zifQ, zifnQ, zletQ, if_pos h18, if_neg h21, x00, x10, x513, if_true, if_false]
  · intro r q h21
    have h21 : r 196 4 = 21 := h21
    have h18 : ¬ r 196 4 = 18 := by rw [h21]; decide
    unfold Gk_readPart4 Gk_readPart4_15 Gk_readPart4_31 Gk_readPart4_47 Gk_readPart4_66
    simp only [zifQ, zifnQ, zletQ, if_pos h21, if_neg h18, x00, x10, if_true, if_false]
theorem xR4 : xSim 1 4 5 Gk_readProduct4 := by
  refine xlevel (lev := 1) (w := 4) (c := 5) (Or.inl rfl) (by decide) (fun h => absurd h (by decide)) (K := Gk_readPart4) (loop := Gk_readProduct4_13) xP4.s ?_ ?_ ?_ ?_
  · intro m i r q h
    show Bk_readProduct4_13 (Gk_readProduct4_13 m) (nI i) r q = _
    unfold Bk_readProduct4_13
    simp only [zifQ, if_pos (x1000 h)]
  · intro m i s r q hi hs h32 hj
    have h27 : ¬ r 196 4 = 27 := xne hs (xJ1n hj) (by omega) (b := 27) (by omega)
    show Bk_readProduct4_13 (Gk_readProduct4_13 m) (nI i) r q = _
    unfold Bk_readProduct4_13
    simp only [zifQ, zifnQ, zletQ, if_neg (x1000n hi), if_neg h27]
  · intro m i s k r q hi hs h32 hj
    obtain ⟨rfl, rfl⟩ := xJ1s hj
    have h27 : r 196 4 = 27 := hs
    show Bk_readProduct4_13 (Gk_readProduct4_13 m) (nI i) r q = _
    unfold Bk_readProduct4_13
    simp only [zifQ, zifnQ, zletQ, if_neg (x1000n hi), if_pos h27, nI_1, show xok 6 = -12 from rfl]
  · intro r q
    unfold Gk_readProduct4
    simp only [zifnQ, nI_0]
theorem xZ4 : xSim 2 4 5 Gk_readSum4 := by
  refine xlevel (lev := 2) (w := 4) (c := 5) (Or.inr (Or.inl rfl)) (by decide) (fun h => absurd h (by decide)) (K := Gk_readProduct4) (loop := Gk_readSum4_13) xR4 ?_ ?_ ?_ ?_
  · intro m i r q h
    show Bk_readSum4_13 (Gk_readSum4_13 m) (nI i) r q = _
    unfold Bk_readSum4_13
    simp only [zifQ, if_pos (x1000 h)]
  · intro m i s r q hi hs h32 hj
    have h1 : ¬ r 196 4 = 25 := xne hs (xJ2n hj).1 (by omega) (b := 25) (by omega)
    have h2 : ¬ r 196 4 = 26 := xne hs (xJ2n hj).2 (by omega) (b := 26) (by omega)
    show Bk_readSum4_13 (Gk_readSum4_13 m) (nI i) r q = _
    unfold Bk_readSum4_13
    simp only [zifQ, zifnQ, zletQ, if_neg (x1000n hi), if_neg h1, if_neg h2]
  · intro m i s k r q hi hs h32 hj
    rcases xJ2s hj with ⟨rfl, rfl⟩ | ⟨rfl, rfl⟩
    · have h1 : r 196 4 = 25 := hs
      show Bk_readSum4_13 (Gk_readSum4_13 m) (nI i) r q = _
      unfold Bk_readSum4_13 Gk_readSum4_40 Gk_readSum4_57
      simp only [zifQ, zifnQ, zletQ, if_neg (x1000n hi), if_pos h1, nI_1, show xok 4 = -10 from rfl]
    · have h1 : r 196 4 = 26 := hs
      have h2 : ¬ r 196 4 = 25 := by rw [h1]; decide
      show Bk_readSum4_13 (Gk_readSum4_13 m) (nI i) r q = _
      unfold Bk_readSum4_13 Gk_readSum4_40 Gk_readSum4_57
      simp only [zifQ, zifnQ, zletQ, if_neg (x1000n hi), if_pos h1, if_neg h2, nI_1, show xok 5 = -11 from rfl]
  · intro r q
    unfold Gk_readSum4
    simp only [zifnQ, nI_0]
noncomputable def xT4 (r : zRr) (q : zRq) : Int32 × zRr × zRq := zif (r 196 4 = 23) (Gk_readTest4_33 r q) (zif (r 196 4 = 24) (Gk_readTest4_33 r q) (1, r, q))
theorem xY4 : xSim 3 4 4 Gk_readTest4 := by
  refine xtest (w := 4) (by decide) (K := Gk_readSum4) (T := xT4) xZ4 ?_ ?_ ?_
  · intro r q h1 h2
    have h1 : ¬ r 196 4 = 23 := h1
    have h2 : ¬ r 196 4 = 24 := h2
    unfold xT4
    simp only [zifQ, if_neg h1, if_neg h2]
  · intro r q k hk hs
    rcases hk with rfl | rfl
    · have h1 : r 196 4 = 23 := hs
      unfold xT4 Gk_readTest4_33 Gk_readTest4_50
      simp only [zifQ, zifnQ, zletQ, if_pos h1, show xok 2 = -8 from rfl]
    · have h1 : r 196 4 = 24 := hs
      have h2 : ¬ r 196 4 = 23 := by rw [h1]; decide
      unfold xT4 Gk_readTest4_33 Gk_readTest4_50
      simp only [zifQ, zifnQ, zletQ, if_pos h1, if_neg h2, show xok 3 = -9 from rfl]
  · intro r q
    unfold Gk_readTest4 xT4
    simp only [zletQ]
theorem xW4 : xSim 4 4 4 Gk_readWhole4 := by
  refine xlevel (lev := 4) (w := 4) (c := 4) (Or.inr (Or.inr rfl)) (by decide) (fun h => rfl) (K := Gk_readTest4) (loop := Gk_readWhole4_13) xY4 ?_ ?_ ?_ ?_
  · intro m i r q h
    show Bk_readWhole4_13 (Gk_readWhole4_13 m) (nI i) r q = _
    unfold Bk_readWhole4_13
    simp only [zifQ, if_pos (x1000 h)]
  · intro m i s r q hi hs h32 hj
    have h1 : ¬ r 196 4 = 19 := xne hs (xJ4n hj).1 (by omega) (b := 19) (by omega)
    have h2 : ¬ r 196 4 = 20 := xne hs (xJ4n hj).2 (by omega) (b := 20) (by omega)
    show Bk_readWhole4_13 (Gk_readWhole4_13 m) (nI i) r q = _
    unfold Bk_readWhole4_13
    simp only [zifQ, zifnQ, zletQ, if_neg (x1000n hi), if_neg h1, if_neg h2]
  · intro m i s k r q hi hs h32 hj
    rcases xJ4s hj with ⟨rfl, rfl⟩ | ⟨rfl, rfl⟩
    · have h1 : r 196 4 = 19 := hs
      show Bk_readWhole4_13 (Gk_readWhole4_13 m) (nI i) r q = _
      unfold Bk_readWhole4_13 Gk_readWhole4_40 Gk_readWhole4_57
      simp only [zifQ, zifnQ, zletQ, if_neg (x1000n hi), if_pos h1, nI_1, show xok 0 = -6 from rfl]
    · have h1 : r 196 4 = 20 := hs
      have h2 : ¬ r 196 4 = 19 := by rw [h1]; decide
      show Bk_readWhole4_13 (Gk_readWhole4_13 m) (nI i) r q = _
      unfold Bk_readWhole4_13 Gk_readWhole4_40 Gk_readWhole4_57
      simp only [zifQ, zifnQ, zletQ, if_neg (x1000n hi), if_pos h1, if_neg h2, nI_1, show xok 1 = -7 from rfl]
  · intro r q
    unfold Gk_readWhole4
    simp only [zifnQ, nI_0]
theorem xP3 : xSimP 3 Gk_readPart3 := by
  refine xpart (w := 3) (by decide) xP4 xW4 ?_ ?_ ?_ ?_
  · intro r q h18 h21 hv
    have h18 : ¬ r 196 4 = 18 := h18
    have h21 : ¬ r 196 4 = 21 := h21
    unfold Gk_readPart3 Gk_readPart3_15 Gk_readPart3_31 Gk_readPart3_47 Gk_readPart3_66
    simp only [zifQ, zifnQ, zletQ, if_neg h18, if_neg h21, hv, x00, if_true]
    exact Prod.ext rfl rfl
  · intro r q h18 h21 hv
    have h18 : ¬ r 196 4 = 18 := h18
    have h21 : ¬ r 196 4 = 21 := h21
    unfold Gk_readPart3 Gk_readPart3_15 Gk_readPart3_31 Gk_readPart3_47 Gk_readPart3_66 Gk_readPart3_130
    simp only [zifQ, zifnQ, zletQ, if_neg h18, if_neg h21, if_neg hv, x00, if_true]
  · intro r q h18
    have h18 : r 196 4 = 18 := h18
    have h21 : ¬ r 196 4 = 21 := by rw [h18]; decide
    unfold Gk_readPart3 Gk_readPart3_15 Gk_readPart3_31 Gk_readPart3_47 Gk_readPart3_66 Gk_readPart3_130
    simp only [zifQ, zifnQ, zletQ, if_pos h18, if_neg h21, x00, x10, x513, if_true, if_false]
  · intro r q h21
    have h21 : r 196 4 = 21 := h21
    have h18 : ¬ r 196 4 = 18 := by rw [h21]; decide
    unfold Gk_readPart3 Gk_readPart3_15 Gk_readPart3_31 Gk_readPart3_47 Gk_readPart3_66
    simp only [zifQ, zifnQ, zletQ, if_pos h21, if_neg h18, x00, x10, if_true, if_false]
theorem xR3 : xSim 1 3 4 Gk_readProduct3 := by
  refine xlevel (lev := 1) (w := 3) (c := 4) (Or.inl rfl) (by decide) (fun h => absurd h (by decide)) (K := Gk_readPart3) (loop := Gk_readProduct3_13) xP3.s ?_ ?_ ?_ ?_
  · intro m i r q h
    show Bk_readProduct3_13 (Gk_readProduct3_13 m) (nI i) r q = _
    unfold Bk_readProduct3_13
    simp only [zifQ, if_pos (x1000 h)]
  · intro m i s r q hi hs h32 hj
    have h27 : ¬ r 196 4 = 27 := xne hs (xJ1n hj) (by omega) (b := 27) (by omega)
    show Bk_readProduct3_13 (Gk_readProduct3_13 m) (nI i) r q = _
    unfold Bk_readProduct3_13
    simp only [zifQ, zifnQ, zletQ, if_neg (x1000n hi), if_neg h27]
  · intro m i s k r q hi hs h32 hj
    obtain ⟨rfl, rfl⟩ := xJ1s hj
    have h27 : r 196 4 = 27 := hs
    show Bk_readProduct3_13 (Gk_readProduct3_13 m) (nI i) r q = _
    unfold Bk_readProduct3_13
    simp only [zifQ, zifnQ, zletQ, if_neg (x1000n hi), if_pos h27, nI_1, show xok 6 = -12 from rfl]
  · intro r q
    unfold Gk_readProduct3
    simp only [zifnQ, nI_0]
theorem xZ3 : xSim 2 3 4 Gk_readSum3 := by
  refine xlevel (lev := 2) (w := 3) (c := 4) (Or.inr (Or.inl rfl)) (by decide) (fun h => absurd h (by decide)) (K := Gk_readProduct3) (loop := Gk_readSum3_13) xR3 ?_ ?_ ?_ ?_
  · intro m i r q h
    show Bk_readSum3_13 (Gk_readSum3_13 m) (nI i) r q = _
    unfold Bk_readSum3_13
    simp only [zifQ, if_pos (x1000 h)]
  · intro m i s r q hi hs h32 hj
    have h1 : ¬ r 196 4 = 25 := xne hs (xJ2n hj).1 (by omega) (b := 25) (by omega)
    have h2 : ¬ r 196 4 = 26 := xne hs (xJ2n hj).2 (by omega) (b := 26) (by omega)
    show Bk_readSum3_13 (Gk_readSum3_13 m) (nI i) r q = _
    unfold Bk_readSum3_13
    simp only [zifQ, zifnQ, zletQ, if_neg (x1000n hi), if_neg h1, if_neg h2]
  · intro m i s k r q hi hs h32 hj
    rcases xJ2s hj with ⟨rfl, rfl⟩ | ⟨rfl, rfl⟩
    · have h1 : r 196 4 = 25 := hs
      show Bk_readSum3_13 (Gk_readSum3_13 m) (nI i) r q = _
      unfold Bk_readSum3_13 Gk_readSum3_40 Gk_readSum3_57
      simp only [zifQ, zifnQ, zletQ, if_neg (x1000n hi), if_pos h1, nI_1, show xok 4 = -10 from rfl]
    · have h1 : r 196 4 = 26 := hs
      have h2 : ¬ r 196 4 = 25 := by rw [h1]; decide
      show Bk_readSum3_13 (Gk_readSum3_13 m) (nI i) r q = _
      unfold Bk_readSum3_13 Gk_readSum3_40 Gk_readSum3_57
      simp only [zifQ, zifnQ, zletQ, if_neg (x1000n hi), if_pos h1, if_neg h2, nI_1, show xok 5 = -11 from rfl]
  · intro r q
    unfold Gk_readSum3
    simp only [zifnQ, nI_0]
noncomputable def xT3 (r : zRr) (q : zRq) : Int32 × zRr × zRq := zif (r 196 4 = 23) (Gk_readTest3_33 r q) (zif (r 196 4 = 24) (Gk_readTest3_33 r q) (1, r, q))
theorem xY3 : xSim 3 3 3 Gk_readTest3 := by
  refine xtest (w := 3) (by decide) (K := Gk_readSum3) (T := xT3) xZ3 ?_ ?_ ?_
  · intro r q h1 h2
    have h1 : ¬ r 196 4 = 23 := h1
    have h2 : ¬ r 196 4 = 24 := h2
    unfold xT3
    simp only [zifQ, if_neg h1, if_neg h2]
  · intro r q k hk hs
    rcases hk with rfl | rfl
    · have h1 : r 196 4 = 23 := hs
      unfold xT3 Gk_readTest3_33 Gk_readTest3_50
      simp only [zifQ, zifnQ, zletQ, if_pos h1, show xok 2 = -8 from rfl]
    · have h1 : r 196 4 = 24 := hs
      have h2 : ¬ r 196 4 = 23 := by rw [h1]; decide
      unfold xT3 Gk_readTest3_33 Gk_readTest3_50
      simp only [zifQ, zifnQ, zletQ, if_pos h1, if_neg h2, show xok 3 = -9 from rfl]
  · intro r q
    unfold Gk_readTest3 xT3
    simp only [zletQ]
theorem xW3 : xSim 4 3 3 Gk_readWhole3 := by
  refine xlevel (lev := 4) (w := 3) (c := 3) (Or.inr (Or.inr rfl)) (by decide) (fun h => rfl) (K := Gk_readTest3) (loop := Gk_readWhole3_13) xY3 ?_ ?_ ?_ ?_
  · intro m i r q h
    show Bk_readWhole3_13 (Gk_readWhole3_13 m) (nI i) r q = _
    unfold Bk_readWhole3_13
    simp only [zifQ, if_pos (x1000 h)]
  · intro m i s r q hi hs h32 hj
    have h1 : ¬ r 196 4 = 19 := xne hs (xJ4n hj).1 (by omega) (b := 19) (by omega)
    have h2 : ¬ r 196 4 = 20 := xne hs (xJ4n hj).2 (by omega) (b := 20) (by omega)
    show Bk_readWhole3_13 (Gk_readWhole3_13 m) (nI i) r q = _
    unfold Bk_readWhole3_13
    simp only [zifQ, zifnQ, zletQ, if_neg (x1000n hi), if_neg h1, if_neg h2]
  · intro m i s k r q hi hs h32 hj
    rcases xJ4s hj with ⟨rfl, rfl⟩ | ⟨rfl, rfl⟩
    · have h1 : r 196 4 = 19 := hs
      show Bk_readWhole3_13 (Gk_readWhole3_13 m) (nI i) r q = _
      unfold Bk_readWhole3_13 Gk_readWhole3_40 Gk_readWhole3_57
      simp only [zifQ, zifnQ, zletQ, if_neg (x1000n hi), if_pos h1, nI_1, show xok 0 = -6 from rfl]
    · have h1 : r 196 4 = 20 := hs
      have h2 : ¬ r 196 4 = 19 := by rw [h1]; decide
      show Bk_readWhole3_13 (Gk_readWhole3_13 m) (nI i) r q = _
      unfold Bk_readWhole3_13 Gk_readWhole3_40 Gk_readWhole3_57
      simp only [zifQ, zifnQ, zletQ, if_neg (x1000n hi), if_pos h1, if_neg h2, nI_1, show xok 1 = -7 from rfl]
  · intro r q
    unfold Gk_readWhole3
    simp only [zifnQ, nI_0]
theorem xP2 : xSimP 2 Gk_readPart2 := by
  refine xpart (w := 2) (by decide) xP3 xW3 ?_ ?_ ?_ ?_
  · intro r q h18 h21 hv
    have h18 : ¬ r 196 4 = 18 := h18
    have h21 : ¬ r 196 4 = 21 := h21
    unfold Gk_readPart2 Gk_readPart2_15 Gk_readPart2_31 Gk_readPart2_47 Gk_readPart2_66
    simp only [zifQ, zifnQ, zletQ, if_neg h18, if_neg h21, hv, x00, if_true]
    exact Prod.ext rfl rfl
  · intro r q h18 h21 hv
    have h18 : ¬ r 196 4 = 18 := h18
    have h21 : ¬ r 196 4 = 21 := h21
    unfold Gk_readPart2 Gk_readPart2_15 Gk_readPart2_31 Gk_readPart2_47 Gk_readPart2_66 Gk_readPart2_130
    simp only [zifQ, zifnQ, zletQ, if_neg h18, if_neg h21, if_neg hv, x00, if_true]
  · intro r q h18
    have h18 : r 196 4 = 18 := h18
    have h21 : ¬ r 196 4 = 21 := by rw [h18]; decide
    unfold Gk_readPart2 Gk_readPart2_15 Gk_readPart2_31 Gk_readPart2_47 Gk_readPart2_66 Gk_readPart2_130
    simp only [zifQ, zifnQ, zletQ, if_pos h18, if_neg h21, x00, x10, x513, if_true, if_false]
  · intro r q h21
    have h21 : r 196 4 = 21 := h21
    have h18 : ¬ r 196 4 = 18 := by rw [h21]; decide
    unfold Gk_readPart2 Gk_readPart2_15 Gk_readPart2_31 Gk_readPart2_47 Gk_readPart2_66
    simp only [zifQ, zifnQ, zletQ, if_pos h21, if_neg h18, x00, x10, if_true, if_false]
theorem xR2 : xSim 1 2 3 Gk_readProduct2 := by
  refine xlevel (lev := 1) (w := 2) (c := 3) (Or.inl rfl) (by decide) (fun h => absurd h (by decide)) (K := Gk_readPart2) (loop := Gk_readProduct2_13) xP2.s ?_ ?_ ?_ ?_
  · intro m i r q h
    show Bk_readProduct2_13 (Gk_readProduct2_13 m) (nI i) r q = _
    unfold Bk_readProduct2_13
    simp only [zifQ, if_pos (x1000 h)]
  · intro m i s r q hi hs h32 hj
    have h27 : ¬ r 196 4 = 27 := xne hs (xJ1n hj) (by omega) (b := 27) (by omega)
    show Bk_readProduct2_13 (Gk_readProduct2_13 m) (nI i) r q = _
    unfold Bk_readProduct2_13
    simp only [zifQ, zifnQ, zletQ, if_neg (x1000n hi), if_neg h27]
  · intro m i s k r q hi hs h32 hj
    obtain ⟨rfl, rfl⟩ := xJ1s hj
    have h27 : r 196 4 = 27 := hs
    show Bk_readProduct2_13 (Gk_readProduct2_13 m) (nI i) r q = _
    unfold Bk_readProduct2_13
    simp only [zifQ, zifnQ, zletQ, if_neg (x1000n hi), if_pos h27, nI_1, show xok 6 = -12 from rfl]
  · intro r q
    unfold Gk_readProduct2
    simp only [zifnQ, nI_0]
theorem xZ2 : xSim 2 2 3 Gk_readSum2 := by
  refine xlevel (lev := 2) (w := 2) (c := 3) (Or.inr (Or.inl rfl)) (by decide) (fun h => absurd h (by decide)) (K := Gk_readProduct2) (loop := Gk_readSum2_13) xR2 ?_ ?_ ?_ ?_
  · intro m i r q h
    show Bk_readSum2_13 (Gk_readSum2_13 m) (nI i) r q = _
    unfold Bk_readSum2_13
    simp only [zifQ, if_pos (x1000 h)]
  · intro m i s r q hi hs h32 hj
    have h1 : ¬ r 196 4 = 25 := xne hs (xJ2n hj).1 (by omega) (b := 25) (by omega)
    have h2 : ¬ r 196 4 = 26 := xne hs (xJ2n hj).2 (by omega) (b := 26) (by omega)
    show Bk_readSum2_13 (Gk_readSum2_13 m) (nI i) r q = _
    unfold Bk_readSum2_13
    simp only [zifQ, zifnQ, zletQ, if_neg (x1000n hi), if_neg h1, if_neg h2]
  · intro m i s k r q hi hs h32 hj
    rcases xJ2s hj with ⟨rfl, rfl⟩ | ⟨rfl, rfl⟩
    · have h1 : r 196 4 = 25 := hs
      show Bk_readSum2_13 (Gk_readSum2_13 m) (nI i) r q = _
      unfold Bk_readSum2_13 Gk_readSum2_40 Gk_readSum2_57
      simp only [zifQ, zifnQ, zletQ, if_neg (x1000n hi), if_pos h1, nI_1, show xok 4 = -10 from rfl]
    · have h1 : r 196 4 = 26 := hs
      have h2 : ¬ r 196 4 = 25 := by rw [h1]; decide
      show Bk_readSum2_13 (Gk_readSum2_13 m) (nI i) r q = _
      unfold Bk_readSum2_13 Gk_readSum2_40 Gk_readSum2_57
      simp only [zifQ, zifnQ, zletQ, if_neg (x1000n hi), if_pos h1, if_neg h2, nI_1, show xok 5 = -11 from rfl]
  · intro r q
    unfold Gk_readSum2
    simp only [zifnQ, nI_0]
noncomputable def xT2 (r : zRr) (q : zRq) : Int32 × zRr × zRq := zif (r 196 4 = 23) (Gk_readTest2_33 r q) (zif (r 196 4 = 24) (Gk_readTest2_33 r q) (1, r, q))
theorem xY2 : xSim 3 2 2 Gk_readTest2 := by
  refine xtest (w := 2) (by decide) (K := Gk_readSum2) (T := xT2) xZ2 ?_ ?_ ?_
  · intro r q h1 h2
    have h1 : ¬ r 196 4 = 23 := h1
    have h2 : ¬ r 196 4 = 24 := h2
    unfold xT2
    simp only [zifQ, if_neg h1, if_neg h2]
  · intro r q k hk hs
    rcases hk with rfl | rfl
    · have h1 : r 196 4 = 23 := hs
      unfold xT2 Gk_readTest2_33 Gk_readTest2_50
      simp only [zifQ, zifnQ, zletQ, if_pos h1, show xok 2 = -8 from rfl]
    · have h1 : r 196 4 = 24 := hs
      have h2 : ¬ r 196 4 = 23 := by rw [h1]; decide
      unfold xT2 Gk_readTest2_33 Gk_readTest2_50
      simp only [zifQ, zifnQ, zletQ, if_pos h1, if_neg h2, show xok 3 = -9 from rfl]
  · intro r q
    unfold Gk_readTest2 xT2
    simp only [zletQ]
theorem xW2 : xSim 4 2 2 Gk_readWhole2 := by
  refine xlevel (lev := 4) (w := 2) (c := 2) (Or.inr (Or.inr rfl)) (by decide) (fun h => rfl) (K := Gk_readTest2) (loop := Gk_readWhole2_13) xY2 ?_ ?_ ?_ ?_
  · intro m i r q h
    show Bk_readWhole2_13 (Gk_readWhole2_13 m) (nI i) r q = _
    unfold Bk_readWhole2_13
    simp only [zifQ, if_pos (x1000 h)]
  · intro m i s r q hi hs h32 hj
    have h1 : ¬ r 196 4 = 19 := xne hs (xJ4n hj).1 (by omega) (b := 19) (by omega)
    have h2 : ¬ r 196 4 = 20 := xne hs (xJ4n hj).2 (by omega) (b := 20) (by omega)
    show Bk_readWhole2_13 (Gk_readWhole2_13 m) (nI i) r q = _
    unfold Bk_readWhole2_13
    simp only [zifQ, zifnQ, zletQ, if_neg (x1000n hi), if_neg h1, if_neg h2]
  · intro m i s k r q hi hs h32 hj
    rcases xJ4s hj with ⟨rfl, rfl⟩ | ⟨rfl, rfl⟩
    · have h1 : r 196 4 = 19 := hs
      show Bk_readWhole2_13 (Gk_readWhole2_13 m) (nI i) r q = _
      unfold Bk_readWhole2_13 Gk_readWhole2_40 Gk_readWhole2_57
      simp only [zifQ, zifnQ, zletQ, if_neg (x1000n hi), if_pos h1, nI_1, show xok 0 = -6 from rfl]
    · have h1 : r 196 4 = 20 := hs
      have h2 : ¬ r 196 4 = 19 := by rw [h1]; decide
      show Bk_readWhole2_13 (Gk_readWhole2_13 m) (nI i) r q = _
      unfold Bk_readWhole2_13 Gk_readWhole2_40 Gk_readWhole2_57
      simp only [zifQ, zifnQ, zletQ, if_neg (x1000n hi), if_pos h1, if_neg h2, nI_1, show xok 1 = -7 from rfl]
  · intro r q
    unfold Gk_readWhole2
    simp only [zifnQ, nI_0]
theorem xP1 : xSimP 1 Gk_readPart1 := by
  refine xpart (w := 1) (by decide) xP2 xW2 ?_ ?_ ?_ ?_
  · intro r q h18 h21 hv
    have h18 : ¬ r 196 4 = 18 := h18
    have h21 : ¬ r 196 4 = 21 := h21
    unfold Gk_readPart1 Gk_readPart1_15 Gk_readPart1_31 Gk_readPart1_47 Gk_readPart1_66
    simp only [zifQ, zifnQ, zletQ, if_neg h18, if_neg h21, hv, x00, if_true]
    exact Prod.ext rfl rfl
  · intro r q h18 h21 hv
    have h18 : ¬ r 196 4 = 18 := h18
    have h21 : ¬ r 196 4 = 21 := h21
    unfold Gk_readPart1 Gk_readPart1_15 Gk_readPart1_31 Gk_readPart1_47 Gk_readPart1_66 Gk_readPart1_130
    simp only [zifQ, zifnQ, zletQ, if_neg h18, if_neg h21, if_neg hv, x00, if_true]
  · intro r q h18
    have h18 : r 196 4 = 18 := h18
    have h21 : ¬ r 196 4 = 21 := by rw [h18]; decide
    unfold Gk_readPart1 Gk_readPart1_15 Gk_readPart1_31 Gk_readPart1_47 Gk_readPart1_66 Gk_readPart1_130
    simp only [zifQ, zifnQ, zletQ, if_pos h18, if_neg h21, x00, x10, x513, if_true, if_false]
  · intro r q h21
    have h21 : r 196 4 = 21 := h21
    have h18 : ¬ r 196 4 = 18 := by rw [h21]; decide
    unfold Gk_readPart1 Gk_readPart1_15 Gk_readPart1_31 Gk_readPart1_47 Gk_readPart1_66
    simp only [zifQ, zifnQ, zletQ, if_pos h21, if_neg h18, x00, x10, if_true, if_false]
theorem xR1 : xSim 1 1 2 Gk_readProduct1 := by
  refine xlevel (lev := 1) (w := 1) (c := 2) (Or.inl rfl) (by decide) (fun h => absurd h (by decide)) (K := Gk_readPart1) (loop := Gk_readProduct1_13) xP1.s ?_ ?_ ?_ ?_
  · intro m i r q h
    show Bk_readProduct1_13 (Gk_readProduct1_13 m) (nI i) r q = _
    unfold Bk_readProduct1_13
    simp only [zifQ, if_pos (x1000 h)]
  · intro m i s r q hi hs h32 hj
    have h27 : ¬ r 196 4 = 27 := xne hs (xJ1n hj) (by omega) (b := 27) (by omega)
    show Bk_readProduct1_13 (Gk_readProduct1_13 m) (nI i) r q = _
    unfold Bk_readProduct1_13
    simp only [zifQ, zifnQ, zletQ, if_neg (x1000n hi), if_neg h27]
  · intro m i s k r q hi hs h32 hj
    obtain ⟨rfl, rfl⟩ := xJ1s hj
    have h27 : r 196 4 = 27 := hs
    show Bk_readProduct1_13 (Gk_readProduct1_13 m) (nI i) r q = _
    unfold Bk_readProduct1_13
    simp only [zifQ, zifnQ, zletQ, if_neg (x1000n hi), if_pos h27, nI_1, show xok 6 = -12 from rfl]
  · intro r q
    unfold Gk_readProduct1
    simp only [zifnQ, nI_0]
theorem xZ1 : xSim 2 1 2 Gk_readSum1 := by
  refine xlevel (lev := 2) (w := 1) (c := 2) (Or.inr (Or.inl rfl)) (by decide) (fun h => absurd h (by decide)) (K := Gk_readProduct1) (loop := Gk_readSum1_13) xR1 ?_ ?_ ?_ ?_
  · intro m i r q h
    show Bk_readSum1_13 (Gk_readSum1_13 m) (nI i) r q = _
    unfold Bk_readSum1_13
    simp only [zifQ, if_pos (x1000 h)]
  · intro m i s r q hi hs h32 hj
    have h1 : ¬ r 196 4 = 25 := xne hs (xJ2n hj).1 (by omega) (b := 25) (by omega)
    have h2 : ¬ r 196 4 = 26 := xne hs (xJ2n hj).2 (by omega) (b := 26) (by omega)
    show Bk_readSum1_13 (Gk_readSum1_13 m) (nI i) r q = _
    unfold Bk_readSum1_13
    simp only [zifQ, zifnQ, zletQ, if_neg (x1000n hi), if_neg h1, if_neg h2]
  · intro m i s k r q hi hs h32 hj
    rcases xJ2s hj with ⟨rfl, rfl⟩ | ⟨rfl, rfl⟩
    · have h1 : r 196 4 = 25 := hs
      show Bk_readSum1_13 (Gk_readSum1_13 m) (nI i) r q = _
      unfold Bk_readSum1_13 Gk_readSum1_40 Gk_readSum1_57
      simp only [zifQ, zifnQ, zletQ, if_neg (x1000n hi), if_pos h1, nI_1, show xok 4 = -10 from rfl]
    · have h1 : r 196 4 = 26 := hs
      have h2 : ¬ r 196 4 = 25 := by rw [h1]; decide
      show Bk_readSum1_13 (Gk_readSum1_13 m) (nI i) r q = _
      unfold Bk_readSum1_13 Gk_readSum1_40 Gk_readSum1_57
      simp only [zifQ, zifnQ, zletQ, if_neg (x1000n hi), if_pos h1, if_neg h2, nI_1, show xok 5 = -11 from rfl]
  · intro r q
    unfold Gk_readSum1
    simp only [zifnQ, nI_0]
noncomputable def xT1 (r : zRr) (q : zRq) : Int32 × zRr × zRq := zif (r 196 4 = 23) (Gk_readTest1_33 r q) (zif (r 196 4 = 24) (Gk_readTest1_33 r q) (1, r, q))
theorem xY1 : xSim 3 1 1 Gk_readTest1 := by
  refine xtest (w := 1) (by decide) (K := Gk_readSum1) (T := xT1) xZ1 ?_ ?_ ?_
  · intro r q h1 h2
    have h1 : ¬ r 196 4 = 23 := h1
    have h2 : ¬ r 196 4 = 24 := h2
    unfold xT1
    simp only [zifQ, if_neg h1, if_neg h2]
  · intro r q k hk hs
    rcases hk with rfl | rfl
    · have h1 : r 196 4 = 23 := hs
      unfold xT1 Gk_readTest1_33 Gk_readTest1_50
      simp only [zifQ, zifnQ, zletQ, if_pos h1, show xok 2 = -8 from rfl]
    · have h1 : r 196 4 = 24 := hs
      have h2 : ¬ r 196 4 = 23 := by rw [h1]; decide
      unfold xT1 Gk_readTest1_33 Gk_readTest1_50
      simp only [zifQ, zifnQ, zletQ, if_pos h1, if_neg h2, show xok 3 = -9 from rfl]
  · intro r q
    unfold Gk_readTest1 xT1
    simp only [zletQ]
theorem xW1 : xSim 4 1 1 Gk_readWhole1 := by
  refine xlevel (lev := 4) (w := 1) (c := 1) (Or.inr (Or.inr rfl)) (by decide) (fun h => rfl) (K := Gk_readTest1) (loop := Gk_readWhole1_13) xY1 ?_ ?_ ?_ ?_
  · intro m i r q h
    show Bk_readWhole1_13 (Gk_readWhole1_13 m) (nI i) r q = _
    unfold Bk_readWhole1_13
    simp only [zifQ, if_pos (x1000 h)]
  · intro m i s r q hi hs h32 hj
    have h1 : ¬ r 196 4 = 19 := xne hs (xJ4n hj).1 (by omega) (b := 19) (by omega)
    have h2 : ¬ r 196 4 = 20 := xne hs (xJ4n hj).2 (by omega) (b := 20) (by omega)
    show Bk_readWhole1_13 (Gk_readWhole1_13 m) (nI i) r q = _
    unfold Bk_readWhole1_13
    simp only [zifQ, zifnQ, zletQ, if_neg (x1000n hi), if_neg h1, if_neg h2]
  · intro m i s k r q hi hs h32 hj
    rcases xJ4s hj with ⟨rfl, rfl⟩ | ⟨rfl, rfl⟩
    · have h1 : r 196 4 = 19 := hs
      show Bk_readWhole1_13 (Gk_readWhole1_13 m) (nI i) r q = _
      unfold Bk_readWhole1_13 Gk_readWhole1_40 Gk_readWhole1_57
      simp only [zifQ, zifnQ, zletQ, if_neg (x1000n hi), if_pos h1, nI_1, show xok 0 = -6 from rfl]
    · have h1 : r 196 4 = 20 := hs
      have h2 : ¬ r 196 4 = 19 := by rw [h1]; decide
      show Bk_readWhole1_13 (Gk_readWhole1_13 m) (nI i) r q = _
      unfold Bk_readWhole1_13 Gk_readWhole1_40 Gk_readWhole1_57
      simp only [zifQ, zifnQ, zletQ, if_neg (x1000n hi), if_pos h1, if_neg h2, nI_1, show xok 1 = -7 from rfl]
  · intro r q
    unfold Gk_readWhole1
    simp only [zifnQ, nI_0]
theorem xP0 : xSimP 0 Gk_readPart0 := by
  refine xpart (w := 0) (by decide) xP1 xW1 ?_ ?_ ?_ ?_
  · intro r q h18 h21 hv
    have h18 : ¬ r 196 4 = 18 := h18
    have h21 : ¬ r 196 4 = 21 := h21
    unfold Gk_readPart0 Gk_readPart0_15 Gk_readPart0_31 Gk_readPart0_47 Gk_readPart0_66
    simp only [zifQ, zifnQ, zletQ, if_neg h18, if_neg h21, hv, x00, if_true]
    exact Prod.ext rfl rfl
  · intro r q h18 h21 hv
    have h18 : ¬ r 196 4 = 18 := h18
    have h21 : ¬ r 196 4 = 21 := h21
    unfold Gk_readPart0 Gk_readPart0_15 Gk_readPart0_31 Gk_readPart0_47 Gk_readPart0_66 Gk_readPart0_130
    simp only [zifQ, zifnQ, zletQ, if_neg h18, if_neg h21, if_neg hv, x00, if_true]
  · intro r q h18
    have h18 : r 196 4 = 18 := h18
    have h21 : ¬ r 196 4 = 21 := by rw [h18]; decide
    unfold Gk_readPart0 Gk_readPart0_15 Gk_readPart0_31 Gk_readPart0_47 Gk_readPart0_66 Gk_readPart0_130
    simp only [zifQ, zifnQ, zletQ, if_pos h18, if_neg h21, x00, x10, x513, if_true, if_false]
  · intro r q h21
    have h21 : r 196 4 = 21 := h21
    have h18 : ¬ r 196 4 = 18 := by rw [h21]; decide
    unfold Gk_readPart0 Gk_readPart0_15 Gk_readPart0_31 Gk_readPart0_47 Gk_readPart0_66
    simp only [zifQ, zifnQ, zletQ, if_pos h21, if_neg h18, x00, x10, if_true, if_false]
theorem xR0 : xSim 1 0 1 Gk_readProduct0 := by
  refine xlevel (lev := 1) (w := 0) (c := 1) (Or.inl rfl) (by decide) (fun h => absurd h (by decide)) (K := Gk_readPart0) (loop := Gk_readProduct0_13) xP0.s ?_ ?_ ?_ ?_
  · intro m i r q h
    show Bk_readProduct0_13 (Gk_readProduct0_13 m) (nI i) r q = _
    unfold Bk_readProduct0_13
    simp only [zifQ, if_pos (x1000 h)]
  · intro m i s r q hi hs h32 hj
    have h27 : ¬ r 196 4 = 27 := xne hs (xJ1n hj) (by omega) (b := 27) (by omega)
    show Bk_readProduct0_13 (Gk_readProduct0_13 m) (nI i) r q = _
    unfold Bk_readProduct0_13
    simp only [zifQ, zifnQ, zletQ, if_neg (x1000n hi), if_neg h27]
  · intro m i s k r q hi hs h32 hj
    obtain ⟨rfl, rfl⟩ := xJ1s hj
    have h27 : r 196 4 = 27 := hs
    show Bk_readProduct0_13 (Gk_readProduct0_13 m) (nI i) r q = _
    unfold Bk_readProduct0_13
    simp only [zifQ, zifnQ, zletQ, if_neg (x1000n hi), if_pos h27, nI_1, show xok 6 = -12 from rfl]
  · intro r q
    unfold Gk_readProduct0
    simp only [zifnQ, nI_0]
theorem xZ0 : xSim 2 0 1 Gk_readSum0 := by
  refine xlevel (lev := 2) (w := 0) (c := 1) (Or.inr (Or.inl rfl)) (by decide) (fun h => absurd h (by decide)) (K := Gk_readProduct0) (loop := Gk_readSum0_13) xR0 ?_ ?_ ?_ ?_
  · intro m i r q h
    show Bk_readSum0_13 (Gk_readSum0_13 m) (nI i) r q = _
    unfold Bk_readSum0_13
    simp only [zifQ, if_pos (x1000 h)]
  · intro m i s r q hi hs h32 hj
    have h1 : ¬ r 196 4 = 25 := xne hs (xJ2n hj).1 (by omega) (b := 25) (by omega)
    have h2 : ¬ r 196 4 = 26 := xne hs (xJ2n hj).2 (by omega) (b := 26) (by omega)
    show Bk_readSum0_13 (Gk_readSum0_13 m) (nI i) r q = _
    unfold Bk_readSum0_13
    simp only [zifQ, zifnQ, zletQ, if_neg (x1000n hi), if_neg h1, if_neg h2]
  · intro m i s k r q hi hs h32 hj
    rcases xJ2s hj with ⟨rfl, rfl⟩ | ⟨rfl, rfl⟩
    · have h1 : r 196 4 = 25 := hs
      show Bk_readSum0_13 (Gk_readSum0_13 m) (nI i) r q = _
      unfold Bk_readSum0_13 Gk_readSum0_40 Gk_readSum0_57
      simp only [zifQ, zifnQ, zletQ, if_neg (x1000n hi), if_pos h1, nI_1, show xok 4 = -10 from rfl]
    · have h1 : r 196 4 = 26 := hs
      have h2 : ¬ r 196 4 = 25 := by rw [h1]; decide
      show Bk_readSum0_13 (Gk_readSum0_13 m) (nI i) r q = _
      unfold Bk_readSum0_13 Gk_readSum0_40 Gk_readSum0_57
      simp only [zifQ, zifnQ, zletQ, if_neg (x1000n hi), if_pos h1, if_neg h2, nI_1, show xok 5 = -11 from rfl]
  · intro r q
    unfold Gk_readSum0
    simp only [zifnQ, nI_0]
noncomputable def xT0 (r : zRr) (q : zRq) : Int32 × zRr × zRq := zif (r 196 4 = 23) (Gk_readTest0_33 r q) (zif (r 196 4 = 24) (Gk_readTest0_33 r q) (1, r, q))
theorem xY0 : xSim 3 0 0 Gk_readTest0 := by
  refine xtest (w := 0) (by decide) (K := Gk_readSum0) (T := xT0) xZ0 ?_ ?_ ?_
  · intro r q h1 h2
    have h1 : ¬ r 196 4 = 23 := h1
    have h2 : ¬ r 196 4 = 24 := h2
    unfold xT0
    simp only [zifQ, if_neg h1, if_neg h2]
  · intro r q k hk hs
    rcases hk with rfl | rfl
    · have h1 : r 196 4 = 23 := hs
      unfold xT0 Gk_readTest0_33 Gk_readTest0_50
      simp only [zifQ, zifnQ, zletQ, if_pos h1, show xok 2 = -8 from rfl]
    · have h1 : r 196 4 = 24 := hs
      have h2 : ¬ r 196 4 = 23 := by rw [h1]; decide
      unfold xT0 Gk_readTest0_33 Gk_readTest0_50
      simp only [zifQ, zifnQ, zletQ, if_pos h1, if_neg h2, show xok 3 = -9 from rfl]
  · intro r q
    unfold Gk_readTest0 xT0
    simp only [zletQ]
theorem xW0 : xSim 4 0 0 Gk_readWhole0 := by
  refine xlevel (lev := 4) (w := 0) (c := 0) (Or.inr (Or.inr rfl)) (by decide) (fun h => rfl) (K := Gk_readTest0) (loop := Gk_readWhole0_13) xY0 ?_ ?_ ?_ ?_
  · intro m i r q h
    show Bk_readWhole0_13 (Gk_readWhole0_13 m) (nI i) r q = _
    unfold Bk_readWhole0_13
    simp only [zifQ, if_pos (x1000 h)]
  · intro m i s r q hi hs h32 hj
    have h1 : ¬ r 196 4 = 19 := xne hs (xJ4n hj).1 (by omega) (b := 19) (by omega)
    have h2 : ¬ r 196 4 = 20 := xne hs (xJ4n hj).2 (by omega) (b := 20) (by omega)
    show Bk_readWhole0_13 (Gk_readWhole0_13 m) (nI i) r q = _
    unfold Bk_readWhole0_13
    simp only [zifQ, zifnQ, zletQ, if_neg (x1000n hi), if_neg h1, if_neg h2]
  · intro m i s k r q hi hs h32 hj
    rcases xJ4s hj with ⟨rfl, rfl⟩ | ⟨rfl, rfl⟩
    · have h1 : r 196 4 = 19 := hs
      show Bk_readWhole0_13 (Gk_readWhole0_13 m) (nI i) r q = _
      unfold Bk_readWhole0_13 Gk_readWhole0_40 Gk_readWhole0_57
      simp only [zifQ, zifnQ, zletQ, if_neg (x1000n hi), if_pos h1, nI_1, show xok 0 = -6 from rfl]
    · have h1 : r 196 4 = 20 := hs
      have h2 : ¬ r 196 4 = 19 := by rw [h1]; decide
      show Bk_readWhole0_13 (Gk_readWhole0_13 m) (nI i) r q = _
      unfold Bk_readWhole0_13 Gk_readWhole0_40 Gk_readWhole0_57
      simp only [zifQ, zifnQ, zletQ, if_neg (x1000n hi), if_pos h1, if_neg h2, nI_1, show xok 1 = -7 from rfl]
  · intro r q
    unfold Gk_readWhole0
    simp only [zifnQ, nI_0]
