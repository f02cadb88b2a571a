/-! ===== whither one can come: sets of towns as numbers ===== -/
theorem xOr64 : ∀ m k : Fin 64, nI m.val ||| nI k.val = nI (m.val ||| k.val) := by decide +kernel
theorem xAnd64 : ∀ m k : Fin 64, nI m.val &&& nI k.val = nI (m.val &&& k.val) := by decide +kernel
theorem xBit64 : ∀ (m : Fin 64) (i : Fin 6), (nI m.val >>> (nI i.val &&& 31)) &&& 1 = if m.val.testBit i.val = true then 1 else 0 := by decide +kernel
theorem xOne6 : ∀ i : Fin 6, (1 : Int32) <<< (nI i.val &&& 31) = nI (2 ^ i.val) := by decide +kernel
theorem nOr {m k : Nat} (hm : m < 64) (hk : k < 64) : nI m ||| nI k = nI (m ||| k) := xOr64 ⟨m, hm⟩ ⟨k, hk⟩
theorem nAnd {m k : Nat} (hm : m < 64) (hk : k < 64) : nI m &&& nI k = nI (m &&& k) := xAnd64 ⟨m, hm⟩ ⟨k, hk⟩
theorem nBit {m i : Nat} (hm : m < 64) (hi : i < 6) : (nI m >>> (nI i &&& 31)) &&& 1 = if m.testBit i = true then 1 else 0 := xBit64 ⟨m, hm⟩ ⟨i, hi⟩
theorem nOne {i : Nat} (hi : i < 6) : (1 : Int32) <<< (nI i &&& 31) = nI (2 ^ i) := xOne6 ⟨i, hi⟩
theorem nBit0 {m i : Nat} (hm : m < 64) (hi : i < 6) : ((nI m >>> (nI i &&& 31)) &&& 1 = 0) ↔ ¬ m.testBit i = true := by
  rw [nBit hm hi]
  by_cases c : m.testBit i = true
  · rw [if_pos c]; exact ⟨fun h => absurd h (by decide), fun h => absurd c h⟩
  · rw [if_neg c]; exact ⟨fun _ => c, fun _ => rfl⟩
theorem p64 {t x : Nat} (ht : t ≤ 6) (hx : x < 2 ^ t) : x < 64 := by
  have : 2 ^ t ≤ 2 ^ 6 := Nat.pow_le_pow_right (by decide) ht
  have e6 : (2 : Nat) ^ 6 = 64 := by decide
  omega
noncomputable def yN (f : Nat → Int32) : Nat → Nat
  | 0 => 0
  | n + 1 => if f n = 0 then yN f n else yN f n ||| 2 ^ n
theorem yN_s {f : Nat → Int32} {n : Nat} : yN f (n + 1) = if f n = 0 then yN f n else yN f n ||| 2 ^ n := rfl
theorem yN_lt {f : Nat → Int32} : ∀ n, yN f n < 2 ^ n := by
  intro n
  induction n with
  | zero => show 0 < 2 ^ 0; decide
  | succ n ih =>
    have h : yN f n < 2 ^ (n + 1) := Nat.lt_of_lt_of_le ih (Nat.pow_le_pow_right (by decide) (by omega))
    rw [yN_s]
    by_cases c : f n = 0
    · rw [if_pos c]; exact h
    · rw [if_neg c]; exact Nat.or_lt_two_pow h (Nat.pow_lt_pow_right (by decide) (by omega))
theorem yN_bit {f : Nat → Int32} {i : Nat} : ∀ n, ((yN f n).testBit i = true) ↔ (i < n ∧ ¬ f i = 0) := by
  intro n
  induction n with
  | zero =>
    show ((0 : Nat).testBit i = true) ↔ _
    rw [Nat.zero_testBit]
    exact ⟨fun h => absurd h (by decide), fun h => absurd h.1 (by omega)⟩
  | succ n ih =>
    rw [yN_s]
    by_cases c : f n = 0
    · rw [if_pos c, ih]
      refine ⟨fun h => ⟨by omega, h.2⟩, fun h => ⟨?_, h.2⟩⟩
      by_cases e : i = n
      · subst e; exact absurd c h.2
      · omega
    · rw [if_neg c, Nat.testBit_or, Bool.or_eq_true, ih]
      by_cases e : i = n
      · subst e
        rw [Nat.testBit_two_pow_self]
        exact ⟨fun _ => ⟨by omega, c⟩, fun _ => Or.inr rfl⟩
      · rw [Nat.testBit_two_pow_of_ne (fun h => e h.symm)]
        refine ⟨fun h => ?_, fun h => Or.inl ⟨by omega, h.2⟩⟩
        rcases h with h | h
        · exact ⟨by omega, h.2⟩
        · cases h
theorem yB_N {f : Nat → Int32} : ∀ n, n ≤ 6 → yB f n = nI (yN f n) := by
  intro n
  induction n with
  | zero => intro _; rfl
  | succ n ih =>
    intro h
    rw [yB_s, yN_s, ih (by omega)]
    by_cases c : f n = 0
    · rw [if_pos c, if_pos c]
    · have h1 : yN f n < 64 := p64 (t := n) (by omega) (yN_lt n)
      have h2 : 2 ^ n < 64 := p64 (t := n + 1) h (Nat.pow_lt_pow_right (by decide) (by omega))
      rw [if_neg c, if_neg c, nOne (by omega), nOr h1 h2]
/-- a step further -/
noncomputable def yF (T : Nat → Nat) (x : Nat) : Nat → Nat
  | 0 => x
  | n + 1 => if x.testBit n = true then yF T x n ||| T n else yF T x n
theorem yF_s {T : Nat → Nat} {x n : Nat} : yF T x (n + 1) = if x.testBit n = true then yF T x n ||| T n else yF T x n := rfl
theorem yF_lt {T : Nat → Nat} {x t : Nat} (hT : ∀ i, T i < 2 ^ t) (hx : x < 2 ^ t) : ∀ n, yF T x n < 2 ^ t := by
  intro n
  induction n with
  | zero => exact hx
  | succ n ih =>
    rw [yF_s]
    by_cases c : x.testBit n = true
    · rw [if_pos c]; exact Nat.or_lt_two_pow ih (hT n)
    · rw [if_neg c]; exact ih
theorem yF_le {T : Nat → Nat} {x i : Nat} (h : x.testBit i = true) : ∀ n, (yF T x n).testBit i = true := by
  intro n
  induction n with
  | zero => exact h
  | succ n ih =>
    rw [yF_s]
    by_cases c : x.testBit n = true
    · rw [if_pos c, Nat.testBit_or, ih, Bool.true_or]
    · rw [if_neg c]; exact ih
noncomputable def yI (T : Nat → Nat) (t : Nat) : Nat → Nat → Nat
  | 0, x => x
  | k + 1, x => yI T t k (yF T x t)
theorem yI_s {T : Nat → Nat} {t k x : Nat} : yI T t (k + 1) x = yI T t k (yF T x t) := rfl
theorem yI_c {T : Nat → Nat} {t : Nat} : ∀ k x, yI T t (k + 1) x = yF T (yI T t k x) t := by
  intro k
  induction k with
  | zero => intro x; rfl
  | succ k ih => intro x; rw [yI_s, ih]; rfl
theorem yI_lt {T : Nat → Nat} {t : Nat} (hT : ∀ i, T i < 2 ^ t) : ∀ k x, x < 2 ^ t → yI T t k x < 2 ^ t := by
  intro k
  induction k with
  | zero => intro x h; exact h
  | succ k ih => intro x h; rw [yI_s]; exact ih _ (yF_lt hT h t)
/-- how many -/
noncomputable def yC (x : Nat) : Nat → Nat
  | 0 => 0
  | n + 1 => yC x n + if x.testBit n = true then 1 else 0
theorem yC_s {x n : Nat} : yC x (n + 1) = yC x n + if x.testBit n = true then 1 else 0 := rfl
theorem yC_le {x : Nat} : ∀ n, yC x n ≤ n := by
  intro n
  induction n with
  | zero => exact Nat.le_refl 0
  | succ n ih =>
    rw [yC_s]
    by_cases c : x.testBit n = true
    · rw [if_pos c]; omega
    · rw [if_neg c]; omega
theorem yC_mono {x y : Nat} (h : ∀ i, x.testBit i = true → y.testBit i = true) : ∀ n, yC x n ≤ yC y n ∧ (yC x n = yC y n → ∀ i, i < n → y.testBit i = true → x.testBit i = true) := by
  intro n
  induction n with
  | zero => exact ⟨Nat.le_refl _, fun _ i hi => absurd hi (by omega)⟩
  | succ n ih =>
    rw [yC_s, yC_s]
    by_cases c : x.testBit n = true
    · rw [if_pos c, if_pos (h n c)]
      refine ⟨by omega, fun e i hi hy => ?_⟩
      by_cases ei : i = n
      · subst ei; exact c
      · exact ih.2 (by omega) i (by omega) hy
    · rw [if_neg c]
      by_cases d : y.testBit n = true
      · rw [if_pos d]
        exact ⟨by omega, fun e => absurd e (by have := ih.1; omega)⟩
      · rw [if_neg d]
        refine ⟨ih.1, fun e i hi hy => ?_⟩
        by_cases ei : i = n
        · subst ei; exact absurd hy d
        · exact ih.2 (by omega) i (by omega) hy
theorem yC_full {x : Nat} : ∀ n, yC x n = n → ∀ i, i < n → x.testBit i = true := by
  intro n
  induction n with
  | zero => intro _ i hi; omega
  | succ n ih =>
    intro e i hi
    have h1 := yC_le (x := x) n
    rw [yC_s] at e
    by_cases c : x.testBit n = true
    · rw [if_pos c] at e
      by_cases ei : i = n
      · subst ei; exact c
      · exact ih (by omega) i (by omega)
    · rw [if_neg c] at e; omega
theorem yC_pos {x t : Nat} (hx : x < 2 ^ t) (h0 : x ≠ 0) : 1 ≤ yC x t := by
  have k := (yC_mono (x := 0) (y := x) (fun i h => by rw [Nat.zero_testBit] at h; cases h) t)
  by_cases e : yC x t = 0
  · exfalso
    apply h0
    refine Nat.eq_of_testBit_eq (fun i => ?_)
    rw [Nat.zero_testBit]
    cases hb : x.testBit i with
    | false => rfl
    | true =>
      have hi : i < t := by
        rcases Nat.lt_or_ge i t with h | h
        · exact h
        · have := Nat.testBit_lt_two_pow (Nat.lt_of_lt_of_le hx (Nat.pow_le_pow_right (by decide) h))
          rw [this] at hb; cases hb
      have := k.2 (by omega) i hi hb
      rw [Nat.zero_testBit] at this; cases this
  · omega
/-- a step adds, or all is there -/
theorem yF_grow {T : Nat → Nat} {x t : Nat} (hT : ∀ i, T i < 2 ^ t) (hx : x < 2 ^ t) : yF T x t = x ∨ yC x t + 1 ≤ yC (yF T x t) t := by
  have k := yC_mono (x := x) (y := yF T x t) (fun i h => yF_le h t) t
  by_cases e : yC x t = yC (yF T x t) t
  · left
    refine Nat.eq_of_testBit_eq (fun i => ?_)
    rcases Nat.lt_or_ge i t with h | h
    · cases hb : x.testBit i with
      | true => exact yF_le hb t
      | false =>
        cases hy : (yF T x t).testBit i with
        | false => rfl
        | true => rw [k.2 e i h hy] at hb; cases hb
    · rw [Nat.testBit_lt_two_pow (Nat.lt_of_lt_of_le hx (Nat.pow_le_pow_right (by decide) h)), Nat.testBit_lt_two_pow (Nat.lt_of_lt_of_le (yF_lt hT hx t) (Nat.pow_le_pow_right (by decide) h))]
  · right; have := k.1; omega
theorem yI_grow {T : Nat → Nat} {x t : Nat} (hT : ∀ i, T i < 2 ^ t) (hx : x < 2 ^ t) : ∀ k, yF T (yI T t k x) t = yI T t k x ∨ yC x t + k ≤ yC (yI T t k x) t := by
  intro k
  induction k with
  | zero => right; exact Nat.le_refl _
  | succ k ih =>
    rw [yI_c]
    rcases ih with h | h
    · left; rw [h, h]
    · rcases yF_grow hT (yI_lt hT k x hx) with g | g
      · left; rw [g, g]
      · right; omega
theorem yI_fix {T : Nat → Nat} {x t : Nat} (hT : ∀ i, T i < 2 ^ t) (hx : x < 2 ^ t) (h0 : x ≠ 0) : yF T (yI T t (t - 1) x) t = yI T t (t - 1) x := by
  rcases yI_grow hT hx (t - 1) with h | h
  · exact h
  · have h1 := yC_pos hx h0
    have h2 := yC_le (x := yI T t (t - 1) x) t
    rcases yF_grow hT (yI_lt hT (t - 1) x hx) with g | g
    · exact g
    · have h3 := yC_le (x := yF T (yI T t (t - 1) x) t) t
      by_cases e : t = 0
      · subst e
        have : x < 1 := hx
        omega
      · omega
/-- what stays, stays -/
theorem yI_stay {T : Nat → Nat} {x t k : Nat} (h : yF T (yI T t k x) t = yI T t k x) : ∀ n, yI T t (k + n) x = yI T t k x := by
  intro n
  induction n with
  | zero => rfl
  | succ n ih => rw [← Nat.add_assoc, yI_c, ih, h]
