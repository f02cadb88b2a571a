section
/-! ===== round: where one can stand, having been where ===== -/
theorem yF_bit {T : Nat → Nat} {x u : Nat} : ∀ n, ((yF T x n).testBit u = true) ↔ (x.testBit u = true ∨ ∃ i, i < n ∧ x.testBit i = true ∧ (T i).testBit u = true) := by
  intro n
  induction n with
  | zero => exact ⟨fun h => Or.inl h, fun h => h.elim id (fun ⟨i, hi, _⟩ => absurd hi (by omega))⟩
  | succ n ih =>
    rw [yF_s]
    by_cases c : x.testBit n = true
    · rw [if_pos c, Nat.testBit_or, Bool.or_eq_true, ih]
      constructor
      · rintro ((h | ⟨i, h1, h2, h3⟩) | h)
        · exact Or.inl h
        · exact Or.inr ⟨i, by omega, h2, h3⟩
        · exact Or.inr ⟨n, by omega, c, h⟩
      · rintro (h | ⟨i, h1, h2, h3⟩)
        · exact Or.inl (Or.inl h)
        · by_cases e : i = n
          · subst e; exact Or.inr h3
          · exact Or.inl (Or.inr ⟨i, by omega, h2, h3⟩)
    · rw [if_neg c, ih]
      constructor
      · rintro (h | ⟨i, h1, h2, h3⟩)
        · exact Or.inl h
        · exact Or.inr ⟨i, by omega, h2, h3⟩
      · rintro (h | ⟨i, h1, h2, h3⟩)
        · exact Or.inl h
        · by_cases e : i = n
          · subst e; exact absurd h2 c
          · exact Or.inr ⟨i, by omega, h2, h3⟩
/-- within a set -/
theorem yF_msk {T : Nat → Nat} {s x t : Nat} : s ||| (yF T s t &&& x) = yF (fun i => T i &&& x) s t := by
  refine Nat.eq_of_testBit_eq (fun u => ?_)
  rw [Bool.eq_iff_iff, Nat.testBit_or, Nat.testBit_and, Bool.or_eq_true, Bool.and_eq_true, yF_bit, yF_bit]
  constructor
  · rintro (h | ⟨h | ⟨i, h1, h2, h3⟩, h4⟩)
    · exact Or.inl h
    · exact Or.inl h
    · exact Or.inr ⟨i, h1, h2, show (T i &&& x).testBit u = true by rw [Nat.testBit_and, h3, h4]; rfl⟩
  · rintro (h | ⟨i, h1, h2, h3⟩)
    · exact Or.inl h
    · have h3 : (T i &&& x).testBit u = true := h3
      rw [Nat.testBit_and, Bool.and_eq_true] at h3
      exact Or.inr ⟨Or.inr ⟨i, h1, h2, h3.1⟩, h3.2⟩
theorem yI_ind {T : Nat → Nat} {t : Nat} {Q : Nat → Prop} (hs : ∀ i v, i < t → Q i → (T i).testBit v = true → Q v) : ∀ k x, (∀ v, x.testBit v = true → Q v) → ∀ v, (yI T t k x).testBit v = true → Q v := by
  intro k
  induction k with
  | zero => intro x h; exact h
  | succ k ih =>
    intro x h
    rw [yI_s]
    refine ih _ (fun v hv => ?_)
    rcases (yF_bit t).mp hv with g | ⟨i, g1, g2, g3⟩
    · exact h v g
    · exact hs i v g1 (h i g2) g3
theorem bLt {x t v : Nat} (hx : x < 2 ^ t) (h : x.testBit v = true) : v < t := by
  rcases Nat.lt_or_ge v t with g | g
  · exact g
  · rw [Nat.testBit_lt_two_pow (Nat.lt_of_lt_of_le hx (Nat.pow_le_pow_right (by decide) g))] at h
    cases h
theorem orIn {y v : Nat} (h : y.testBit v = true) : y ||| 2 ^ v = y := by
  refine Nat.eq_of_testBit_eq (fun u => ?_)
  rw [Nat.testBit_or]
  by_cases e : u = v
  · subst e; rw [h, Bool.true_or]
  · rw [Nat.testBit_two_pow_of_ne (fun h => e h.symm), Bool.or_false]
theorem orSelf {y v : Nat} : (y ||| 2 ^ v).testBit v = true := by
  rw [Nat.testBit_or, Nat.testBit_two_pow_self, Bool.or_true]
theorem orGt {y v : Nat} (h : y.testBit v = false) : y < y ||| 2 ^ v := by
  have h1 : y ≤ y ||| 2 ^ v := Nat.left_le_or
  have h2 : y ≠ y ||| 2 ^ v := fun e => by
    have := orSelf (y := y) (v := v)
    rw [← e, h] at this
    cases this
  omega
noncomputable def yCs (T : Nat → Nat) (Z : Nat → Nat → Prop) : Prop := ∀ i x u, Z i x → (T i).testBit u = true → Z u (x ||| 2 ^ u)
/-- Y is what comes of X, and no more -/
noncomputable def yCl (T : Nat → Nat) (X Y : Nat → Nat → Prop) : Prop := (∀ i x, X i x → Y i x) ∧ yCs T Y ∧ ∀ Z : Nat → Nat → Prop, (∀ i x, X i x → Z i x) → yCs T Z → ∀ i x, Y i x → Z i x
theorem yCl.same {T : Nat → Nat} {X X1 Y Y1 : Nat → Nat → Prop} (h : yCl T X Y) (k : yCl T X1 Y1) (e : ∀ i x, X i x ↔ X1 i x) : ∀ i x, Y i x ↔ Y1 i x := fun i x => ⟨h.2.2 Y1 (fun i x g => k.1 i x ((e i x).mp g)) k.2.1 i x, k.2.2 Y (fun i x g => h.1 i x ((e i x).mpr g)) h.2.1 i x⟩
noncomputable def yA (A : Nat → Nat) (i x : Nat) : Prop := x < 64 ∧ (A x).testBit i = true
noncomputable def yAs (t b : Nat) (A : Nat → Nat) : Prop := ∀ x, x < 64 → A x < 2 ^ t ∧ (¬ A x = 0 → b ≤ x ∧ x < 2 ^ t) ∧ ∀ v, (A x).testBit v = true → x.testBit v = true
noncomputable def yWi (T : Nat → Nat) (t b y : Nat) (X : Nat → Nat → Prop) (A : Nat → Nat) : Prop := yAs t b A ∧ (∀ i x, X i x → yA A i x) ∧ (∀ Z : Nat → Nat → Prop, (∀ i x, X i x → Z i x) → yCs T Z → ∀ i x, yA A i x → Z i x) ∧ ∀ x, x < y → ∀ i u, yA A i x → (T i).testBit u = true → yA A u (x ||| 2 ^ u)
theorem yb0 {x v : Nat} (h : x.testBit v = true) : ¬ x = 0 := fun e => by rw [e, Nat.zero_testBit] at h; cases h
section YW
variable {T : Nat → Nat} {t b y : Nat} {X : Nat → Nat → Prop} {A A1 : Nat → Nat}
theorem yWi.first (h : yAs t b A) : yWi T t b b (yA A) A := ⟨h, fun _ _ g => g, fun _ h1 _ => h1, fun x hx i u g _ => absurd ((h x g.1).2.1 (yb0 g.2)).1 (by omega)⟩
theorem yWi.skip (h : yWi T t b y X A) (h0 : A y = 0) : yWi T t b (y + 1) X A := ⟨h.1, h.2.1, h.2.2.1, fun x hx i u g k => by
  by_cases e : x = y
  · subst e; exact absurd h0 (yb0 g.2)
  · exact h.2.2.2 x (by omega) i u g k⟩
theorem yWi.last (ht : t ≤ 6) (h : yWi T t b (2 ^ t) X A) : yCl T X (yA A) := ⟨h.2.1, fun i x u g k => h.2.2.2 x ((h.1 x g.1).2.1 (yb0 g.2)).2 i u g k, h.2.2.1⟩
theorem yWi.step (ht : t ≤ 6) (hT : ∀ i, T i < 2 ^ t) (hy : y < 2 ^ t) (h : yWi T t b y X A) (h0 : ¬ A y = 0) {cl : Nat} (hcl : cl = yI (fun i => T i &&& y) t (t - 1) (A y)) (hs : ∀ x, x < 64 → A1 x < 2 ^ t) (i1 : ∀ z v, z < 64 → (A z).testBit v = true → (A1 z).testBit v = true) (i2 : ∀ z v, z < 64 → (A1 z).testBit v = true → (A z).testBit v = true ∨ (z = y ∧ cl.testBit v = true) ∨ (z = y ||| 2 ^ v ∧ y.testBit v = false ∧ (yF T cl t).testBit v = true)) (i3 : ∀ v, cl.testBit v = true → (A1 y).testBit v = true) (i4 : ∀ v, v < t → (yF T cl t).testBit v = true → y.testBit v = false → (A1 (y ||| 2 ^ v)).testBit v = true) : yWi T t b (y + 1) X A1 := by
  have y64 := p64 ht hy
  obtain ⟨a1, a2, a3⟩ := h.1 y y64
  have hTm : ∀ i, (fun i => T i &&& y) i < 2 ^ t := fun i => Nat.lt_of_le_of_lt Nat.and_le_left (hT i)
  have fx : yF (fun i => T i &&& y) cl t = cl := by rw [hcl]; exact yI_fix hTm a1 h0
  have clt : cl < 2 ^ t := by rw [hcl]; exact yI_lt hTm _ _ a1
  have inT : ∀ i v, ((fun i => T i &&& y) i).testBit v = true → (T i).testBit v = true ∧ y.testBit v = true := fun i v g => by
    have g : (T i &&& y).testBit v = true := g
    rw [Nat.testBit_and, Bool.and_eq_true] at g
    exact g
  have cly : ∀ v, cl.testBit v = true → y.testBit v = true := by
    rw [hcl]
    exact yI_ind (Q := fun v => y.testBit v = true) (fun i v _ _ g => (inT i v g).2) _ _ a3
  have ult : ∀ {s v : Nat}, s < 2 ^ t → (yF T s t).testBit v = true → v < t := fun hs g => bLt (yF_lt hT hs t) g
  have or64 : ∀ {u : Nat}, u < t → y ||| 2 ^ u < 2 ^ t := fun hu => Nat.or_lt_two_pow hy (Nat.pow_lt_pow_right (by decide) hu)
  refine ⟨fun x hx => ⟨hs x hx, fun hne => ?_, fun v hv => ?_⟩, fun i x g => ?_, fun Z z1 z2 i x g => ?_, fun x hx i u g k => ?_⟩
  · obtain ⟨v, hv⟩ := Nat.exists_testBit_of_ne_zero hne
    rcases i2 x v hx hv with g | ⟨g, _⟩ | ⟨g, g1, g2⟩
    · exact (h.1 x hx).2.1 (yb0 g)
    · subst g; exact a2 h0
    · have := orGt g1
      have l := or64 (ult clt g2)
      rw [g]
      exact ⟨by have := (a2 h0).1; omega, l⟩
  · rcases i2 x v hx hv with g | ⟨g, g1⟩ | ⟨g, g1, g2⟩
    · exact (h.1 x hx).2.2 v g
    · subst g; exact cly v g1
    · rw [g]; exact orSelf
  · obtain ⟨k1, k2⟩ := h.2.1 i x g
    exact ⟨k1, i1 x i k1 k2⟩
  · have clZ : ∀ v, cl.testBit v = true → Z v y := by
      rw [hcl]
      refine yI_ind (Q := fun v => Z v y) (fun i v _ q1 g => ?_) _ _ (fun v hv => h.2.2.1 Z z1 z2 v y ⟨y64, hv⟩)
      have := z2 i y v q1 (inT i v g).1
      rw [orIn (inT i v g).2] at this
      exact this
    rcases i2 x i g.1 g.2 with q1 | ⟨q1, q2⟩ | ⟨q1, q2, q3⟩
    · exact h.2.2.1 Z z1 z2 i x ⟨g.1, q1⟩
    · subst q1; exact clZ i q2
    · rcases (yF_bit t).mp q3 with q4 | ⟨i', _, q5, q6⟩
      · rw [cly i q4] at q2; cases q2
      · rw [q1]; exact z2 i' y i (clZ i' q5) q6
  · have hu : u < t := bLt (hT i) k
    by_cases e : x = y
    · subst e
      have hc : cl.testBit i = true := by
        rcases i2 x i g.1 g.2 with q1 | ⟨_, q2⟩ | ⟨q1, q2, _⟩
        · rw [hcl]; exact yI_le _ _ q1
        · exact q2
        · have := orGt q2; omega
      have hi : i < t := bLt clt hc
      by_cases d : x.testBit u = true
      · rw [orIn d]
        refine ⟨y64, i3 u ?_⟩
        rw [← fx]
        exact (yF_bit t).mpr (Or.inr ⟨i, hi, hc, show (T i &&& x).testBit u = true by rw [Nat.testBit_and, k, d]; rfl⟩)
      · have d : x.testBit u = false := by
          cases q : x.testBit u with
          | false => rfl
          | true => exact absurd q d
        exact ⟨p64 ht (or64 hu), i4 u hu ((yF_bit t).mpr (Or.inr ⟨i, hi, hc, k⟩)) d⟩
    · have hx2 : x < y := by omega
      have ga : (A x).testBit i = true := by
        rcases i2 x i g.1 g.2 with q1 | ⟨q1, _⟩ | ⟨q1, q2, _⟩
        · exact q1
        · exact absurd q1 e
        · have := orGt q2; omega
      obtain ⟨k1, k2⟩ := h.2.2.2 x hx2 i u ⟨g.1, ga⟩ k
      exact ⟨k1, i1 _ _ k1 k2⟩
end YW
end
section
/-! ===== round: a week, on the class's side ===== -/
theorem xAnt64 : ∀ m k : Fin 64, nI m.val &&& (nI k.val ^^^ (-1)) = nI (m.val &&& (63 ^^^ k.val)) := by decide +kernel
theorem nAnt {m k : Nat} (hm : m < 64) (hk : k < 64) : nI m &&& (nI k ^^^ (-1)) = nI (m &&& (63 ^^^ k)) := xAnt64 ⟨m, hm⟩ ⟨k, hk⟩
theorem xb63 : ∀ u : Fin 6, (63 : Nat).testBit u.val = true := by decide
theorem nAntB {m k v : Nat} (hv : v < 6) : ((m &&& (63 ^^^ k)).testBit v = true) ↔ (m.testBit v = true ∧ k.testBit v = false) := by
  rw [Nat.testBit_and, Nat.testBit_xor, xb63 ⟨v, hv⟩, Bool.and_eq_true]
  cases k.testBit v with
  | false => exact ⟨fun h => ⟨h.1, rfl⟩, fun h => ⟨h.1, rfl⟩⟩
  | true => exact ⟨fun h => absurd h.2 (by decide), fun h => absurd h.2 (by decide)⟩
section XWDR
variable {t : Nat} {T : Nat → Nat} {q : zRq}
theorem kWd66 (ht : t ≤ 6) {y R : Nat} (hy : y < 2 ^ t) (hR : R < 2 ^ t) : ∀ (n u : Nat) (r : zRr) (A : Nat → Nat), u ≤ t → t < n + u → r 171 9 = nI t → (∀ x, x < 64 → r 201 x = nI (A x) ∧ A x < 2 ^ t) → ∃ A1 : Nat → Nat, zFr [201] r (Gk_wander_66 (nI y) n (nI R) (nI u) r) ∧ (∀ x, x < 64 → Gk_wander_66 (nI y) n (nI R) (nI u) r 201 x = nI (A1 x) ∧ A1 x < 2 ^ t) ∧ (∀ z v, (A z).testBit v = true → (A1 z).testBit v = true) ∧ (∀ z v, (A1 z).testBit v = true → (A z).testBit v = true ∨ (z = y ||| 2 ^ v ∧ R.testBit v = true)) ∧ ∀ v, u ≤ v → v < t → R.testBit v = true → (A1 (y ||| 2 ^ v)).testBit v = true := by
  intro n
  induction n with
  | zero => intro u r A h1 h2; omega
  | succ n ih =>
    intro u r A h1 h2 h9 hA
    have e0 : Gk_wander_66 (nI y) (n + 1) (nI R) (nI u) r = Bk_wander_66 (nI y) (Gk_wander_66 (nI y) n) (nI R) (nI u) r := rfl
    rw [e0]
    unfold Bk_wander_66 Gk_wander_105
    simp only [zletQ, zifQ, h9, nI_1, xh0]
    by_cases e : u = t
    · subst e
      rw [if_pos (nI_leP (by omega) (by omega) (by omega))]
      exact ⟨A, zFr.refl, hA, fun _ _ h => h, fun _ _ h => Or.inl h, fun v a1 a2 => absurd a1 (by omega)⟩
    · rw [if_neg (nI_leN (by omega) (by omega) (by omega))]
      have hb := nBit0 (m := R) (i := u) (p64 ht hR) (by omega)
      by_cases c : R.testBit u = true
      · have hu : 2 ^ u < 2 ^ t := Nat.pow_lt_pow_right (by decide) (by omega)
        have hl : y ||| 2 ^ u < 2 ^ t := Nat.or_lt_two_pow hy hu
        have hl64 := p64 ht hl
        rw [if_neg (fun h => hb.mp h c), nOne (by omega), nOr (p64 ht hy) (p64 ht hu), xzn (show y ||| 2 ^ u < 2 ^ 31 by omega), (hA _ hl64).1, nOr (p64 ht (hA _ hl64).2) (p64 ht hu)]
        obtain ⟨A0, hA0⟩ : ∃ A0 : Nat → Nat, ∀ z, A0 z = if z = y ||| 2 ^ u then A z ||| 2 ^ u else A z := ⟨_, fun _ => rfl⟩
        obtain ⟨A1, g1, g2, g3, g4, g5⟩ := ih (u + 1) (zset r 201 (upd (r 201) (y ||| 2 ^ u) (nI (A (y ||| 2 ^ u) ||| 2 ^ u)))) A0 (by omega) (by omega) (by rw [zset_ne (by decide)]; exact h9) (fun x hx => by
          rw [zset_eq, hA0 x]
          by_cases d : x = y ||| 2 ^ u
          · rw [if_pos d]
            subst d
            rw [pk_us]
            exact ⟨rfl, Nat.or_lt_two_pow (hA _ hx).2 hu⟩
          · rw [if_neg d, pk_un d]; exact hA x hx)
        refine ⟨A1, (zFr.refl.set rfl).tr g1 (by decide), g2, fun z v h => g3 z v ?_, fun z v h => ?_, fun v a1 a2 a3 => ?_⟩
        · rw [hA0 z]
          by_cases d : z = y ||| 2 ^ u
          · rw [if_pos d, Nat.testBit_or, h, Bool.true_or]
          · rw [if_neg d]; exact h
        · rcases g4 z v h with k | k
          · rw [hA0 z] at k
            by_cases d : z = y ||| 2 ^ u
            · rw [if_pos d, Nat.testBit_or, Bool.or_eq_true] at k
              rcases k with k | k
              · exact Or.inl k
              · by_cases f : v = u
                · subst f; exact Or.inr ⟨d, c⟩
                · rw [Nat.testBit_two_pow_of_ne (fun h => f h.symm)] at k; cases k
            · rw [if_neg d] at k; exact Or.inl k
          · exact Or.inr k
        · by_cases f : v = u
          · subst f
            apply g3
            rw [hA0 (y ||| 2 ^ v), if_pos rfl]; exact orSelf
          · exact g5 v (by omega) a2 a3
      · rw [if_pos (hb.mpr c)]
        obtain ⟨A1, g1, g2, g3, g4, g5⟩ := ih (u + 1) r A (by omega) (by omega) h9 hA
        refine ⟨A1, g1, g2, g3, g4, fun v a1 a2 a3 => ?_⟩
        by_cases f : v = u
        · subst f; exact absurd a3 c
        · exact g5 v (by omega) a2 a3
theorem kWd19 (ht : t ≤ 6) {y : Nat} {r : zRr} (hy : y < 2 ^ t) (h9 : r 171 9 = nI t) (h2 : ∀ i, i < t → r 202 i = nI (T i)) (hT : ∀ i, T i < 2 ^ t) : ∀ n i s, s < 2 ^ t → 1 ≤ n → t < n + i → i ≤ 7 → Gk_wander_19 (nI y) r q n (nI s) (nI i) = Gk_wander_66 (nI y) 7 (nI (yF T (yI (fun i => T i &&& y) t (t - i) s) t &&& (63 ^^^ y))) 0 (zset r 201 (upd (r 201) y (nI (yI (fun i => T i &&& y) t (t - i) s)))) := by
  have y64 := p64 ht hy
  have hTm : ∀ i, (fun i => T i &&& y) i < 2 ^ t := fun i => Nat.lt_of_le_of_lt Nat.and_le_left (hT i)
  intro n
  induction n with
  | zero => intro i s hs h1; omega
  | succ n ih =>
    intro i s hs h1 h3 h4
    have e0 : Gk_wander_19 (nI y) r q (n + 1) (nI s) (nI i) = Bk_wander_19 (nI y) r q (Gk_wander_19 (nI y) r q n) (nI s) (nI i) := rfl
    rw [e0]
    unfold Bk_wander_19
    simp only [zletQ, zifQ, h9, nI_1]
    by_cases e : t ≤ i
    · have y0 : yI (fun i => T i &&& y) t 0 s = s := rfl
      have k := kWid (q := q) (x := s) (T := T) (r := zset r 201 (upd (r 201) y (nI s))) (t := t) (by rw [zset_ne (by decide)]; exact h9) ht (fun i hi => by rw [zset_ne (by decide)]; exact h2 i hi) hT hs
      rw [if_pos (nI_leP e (by omega) (by omega)), show t - i = 0 by omega, y0, xzn (show y < 2 ^ 31 by omega), k, nAnt (p64 ht (yF_lt hT hs t)) y64]
    · rw [if_neg (nI_leN e (by omega) (by omega)), kWid h9 ht h2 hT hs, nAnd (p64 ht (yF_lt hT hs t)) y64, nOr (p64 ht hs) (Nat.lt_of_le_of_lt Nat.and_le_left (p64 ht (yF_lt hT hs t))), yF_msk, show t - i = t - (i + 1) + 1 by omega, yI_s]
      exact ih (i + 1) _ (yF_lt hTm hs t) (by omega) (by omega) (by omega)
/-- one set of towns -/
theorem kWdr (ht : t ≤ 6) {b y : Nat} {X : Nat → Nat → Prop} {A : Nat → Nat} {r : zRr} (hy : y < 2 ^ t) (h9 : r 171 9 = nI t) (h2 : ∀ i, i < t → r 202 i = nI (T i)) (hT : ∀ i, T i < 2 ^ t) (hA : ∀ x, x < 64 → r 201 x = nI (A x)) (hW : yWi T t b y X A) : ∃ A1 : Nat → Nat, zFr [201] r (Gk_wander (nI y) r q) ∧ (∀ x, x < 64 → Gk_wander (nI y) r q 201 x = nI (A1 x)) ∧ yWi T t b (y + 1) X A1 := by
  have y64 := p64 ht hy
  have a1 := (hW.1 y y64).1
  unfold Gk_wander
  simp only [zletQ, zifnQ, xzn (show y < 2 ^ 31 by omega), hA y y64]
  by_cases c : A y = 0
  · rw [if_pos ((nI0 (p64 ht a1)).mpr c)]
    exact ⟨A, zFr.refl, hA, hW.skip c⟩
  · rw [if_neg (fun h => c ((nI0 (p64 ht a1)).mp h))]
    have k := kWd19 (q := q) (T := T) ht hy h9 h2 hT 6 1 (A y) a1 (by omega) (by omega) (by omega)
    have k : Gk_wander_19 (nI y) r q 6 (nI (A y)) 1 = _ := k
    rw [k]
    have hTm : ∀ i, (fun i => T i &&& y) i < 2 ^ t := fun i => Nat.lt_of_le_of_lt Nat.and_le_left (hT i)
    have clt : yI (fun i => T i &&& y) t (t - 1) (A y) < 2 ^ t := yI_lt hTm _ _ a1
    have up : ∀ v, (A y).testBit v = true → (yI (fun i => T i &&& y) t (t - 1) (A y)).testBit v = true := fun v h => yI_le _ _ h
    obtain ⟨cl, ecl⟩ : ∃ cl, cl = yI (fun i => T i &&& y) t (t - 1) (A y) := ⟨_, rfl⟩
    rw [← ecl] at clt up ⊢
    have hFl := yF_lt hT clt t
    obtain ⟨A0, hA0⟩ : ∃ A0 : Nat → Nat, ∀ z, A0 z = if z = y then cl else A z := ⟨_, fun _ => rfl⟩
    obtain ⟨A1, g1, g2, g3, g4, g5⟩ := kWd66 ht hy (R := yF T cl t &&& (63 ^^^ y)) (Nat.lt_of_le_of_lt Nat.and_le_left hFl) 7 0 (zset r 201 (upd (r 201) y (nI cl))) A0 (by omega) (by omega) (by rw [zset_ne (by decide)]; exact h9) (fun x hx => by
      rw [zset_eq, hA0 x]
      by_cases d : x = y
      · rw [if_pos d, d, pk_us]; exact ⟨rfl, clt⟩
      · rw [if_neg d, pk_un d]; exact ⟨hA x hx, (hW.1 x hx).1⟩)
    rw [nI_0] at g1 g2
    refine ⟨A1, (zFr.refl.set rfl).tr g1 (by decide), fun x hx => (g2 x hx).1, hW.step ht hT hy c ecl (fun x hx => (g2 x hx).2) (fun z v _ h => g3 z v ?_) (fun z v hz h => ?_) (fun v h => g3 y v ?_) (fun v hv h1 h2 => g5 v (by omega) hv ((nAntB (by omega)).mpr ⟨h1, h2⟩))⟩
    · rw [hA0 z]
      by_cases d : z = y
      · rw [if_pos d]; subst d; exact up v h
      · rw [if_neg d]; exact h
    · rcases g4 z v h with k | ⟨k1, k2⟩
      · rw [hA0 z] at k
        by_cases d : z = y
        · rw [if_pos d] at k; exact Or.inr (Or.inl ⟨d, k⟩)
        · rw [if_neg d] at k; exact Or.inl k
      · have k3 : (yF T cl t).testBit v = true := by
          rw [Nat.testBit_and, Bool.and_eq_true] at k2; exact k2.1
        have hv : v < t := bLt hFl k3
        exact Or.inr (Or.inr ⟨k1, ((nAntB (by omega)).mp k2).2, k3⟩)
    · rw [hA0 y, if_pos rfl]; exact h
/-- all sets of towns, the lesser first -/
theorem kSr92 (ht : t ≤ 6) {b w : Nat} {X : Nat → Nat → Prop} (hT : ∀ i, T i < 2 ^ t) {ih71 : Int32 → Int32 → Int32 → zRr → (Int32 × zRr)} {r0 : zRr} (h9 : r0 171 9 = nI t) (h2 : ∀ i, i < t → r0 202 i = nI (T i)) : ∀ (n y : Nat) (r : zRr) (A : Nat → Nat), y ≤ 2 ^ t → 2 ^ t < n + y → zFr [201] r0 r → (∀ x, x < 64 → r 201 x = nI (A x)) → yWi T t b y X A → ∃ (r1 : zRr) (A1 : Nat → Nat), zFr [201] r0 r1 ∧ (∀ x, x < 64 → r1 201 x = nI (A1 x)) ∧ yWi T t b (2 ^ t) X A1 ∧ Gk_soonestRound_92 q (nI (2 ^ t - 1)) (nI b) (nI w) ih71 n (nI y) r = if A1 (2 ^ t - 1) = 0 then ih71 (nI (2 ^ t - 1)) (nI b) (nI (w + 1)) (Gk_passWeekA r1 q) else (nI w, r1) := by
  have h64 : 2 ^ t ≤ 64 := Nat.pow_le_pow_right (n := 2) (by decide) ht
  have hpos := Nat.two_pow_pos t
  intro n
  induction n with
  | zero => intro y r A h1 h3; omega
  | succ n ih =>
    intro y r A h1 h3 f hA hW
    have e0 : Gk_soonestRound_92 q (nI (2 ^ t - 1)) (nI b) (nI w) ih71 (n + 1) (nI y) r = Bk_soonestRound_92 q (nI (2 ^ t - 1)) (nI b) (nI w) ih71 (Gk_soonestRound_92 q (nI (2 ^ t - 1)) (nI b) (nI w) ih71 n) (nI y) r := rfl
    rw [e0]
    unfold Bk_soonestRound_92
    simp only [zletQ, zifQ, nI_1]
    by_cases e : y = 2 ^ t
    · have hl : nI (2 ^ t - 1) < nI y := (nI_ltI (by omega) (by omega)).mpr (by omega)
      rw [if_pos hl, xzn (show 2 ^ t - 1 < 2 ^ 31 by omega), hA (2 ^ t - 1) (by omega)]
      rw [e] at hW
      refine ⟨r, A, f, hA, hW, ?_⟩
      have a1 := p64 ht (hW.1 (2 ^ t - 1) (by omega)).1
      by_cases c : A (2 ^ t - 1) = 0
      · rw [if_pos ((nI0 a1).mpr c), if_pos c]
      · rw [if_neg (fun h => c ((nI0 a1).mp h)), if_neg c]
    · have hl : ¬ nI (2 ^ t - 1) < nI y := fun h => by
        have := (nI_ltI (by omega) (by omega)).mp h
        omega
      rw [if_neg hl]
      obtain ⟨A1, g1, g2, g3⟩ := kWdr (q := q) ht (r := r) (show y < 2 ^ t by omega) (by rw [f 171 rfl]; exact h9) (fun i hi => by rw [f 202 rfl]; exact h2 i hi) hT hA hW
      exact ih (y + 1) _ A1 (by omega) (by omega) (f.tr g1 (by decide)) g2 g3
end XWDR
end
section
/-! ===== round: a week, on the reference's side ===== -/
noncomputable def zP (f : Nat → Int32) (i x : Nat) : Prop := i < 6 ∧ x < 64 ∧ ¬ f (64 * i + x) = 0
noncomputable def zSu (t : Nat) (f : Nat → Int32) : Prop := ∀ c, c < 384 → ¬ f c = 0 → c / 64 < t ∧ c % 64 < 2 ^ t
/-- how many -/
noncomputable def yK (f : Nat → Int32) : Nat → Nat
  | 0 => 0
  | n + 1 => yK f n + if f n = 0 then 0 else 1
theorem yK_s {f : Nat → Int32} {n : Nat} : yK f (n + 1) = yK f n + if f n = 0 then 0 else 1 := rfl
theorem yK_le {f : Nat → Int32} : ∀ n, yK f n ≤ n := by
  intro n
  induction n with
  | zero => exact Nat.le_refl 0
  | succ n ih =>
    rw [yK_s]
    by_cases c : f n = 0
    · rw [if_pos c]; omega
    · rw [if_neg c]; omega
theorem yK_mono {f g : Nat → Int32} : ∀ n, (∀ c, c < n → ¬ f c = 0 → ¬ g c = 0) → yK f n ≤ yK g n := by
  intro n
  induction n with
  | zero => intro _; exact Nat.le_refl 0
  | succ n ih =>
    intro h
    have := ih (fun c hc => h c (by omega))
    rw [yK_s, yK_s]
    by_cases c : f n = 0
    · rw [if_pos c]; omega
    · rw [if_neg c, if_neg (h n (by omega) c)]; omega
theorem yK_lt {f g : Nat → Int32} {d : Nat} (h0 : f d = 0) (h1 : ¬ g d = 0) : ∀ n, d < n → (∀ c, c < n → ¬ f c = 0 → ¬ g c = 0) → yK f n < yK g n := by
  intro n
  induction n with
  | zero => intro hd; omega
  | succ n ih =>
    intro hd h
    rw [yK_s, yK_s]
    by_cases e : d = n
    · subst e
      have := yK_mono (f := f) (g := g) d (fun c hc => h c (by omega))
      rw [if_pos h0, if_neg h1]; omega
    · have := ih (by omega) (fun c hc => h c (by omega))
      by_cases c : f n = 0
      · rw [if_pos c]; omega
      · rw [if_neg c, if_neg (h n (by omega) c)]; omega
theorem xDm : ∀ n : Fin 384, nI n.val / 64 = nI (n.val / 64) ∧ nI n.val - nI n.val / 64 * 64 = nI (n.val % 64) := by decide +kernel
theorem nDm {k : Nat} (h : k < 384) : nI k / 64 = nI (k / 64) ∧ nI k - nI k / 64 * 64 = nI (k % 64) := xDm ⟨k, h⟩
/-- a pass over all stands: f0 as it was ahead of it -/
noncomputable def zRo (T : Nat → Nat) (t al : Nat) (f0 f : Nat → Int32) (mo is : Int32) (D : Nat → Nat → Prop) : Prop := (∀ c, c < 384 → ¬ f0 c = 0 → ¬ f c = 0) ∧ zSu t f ∧ (∀ Z : Nat → Nat → Prop, (∀ i x, zP f0 i x → Z i x) → yCs T Z → ∀ i x, zP f i x → Z i x) ∧ (mo = 0 → f = f0 ∧ ∀ c u, c < 384 → D c u → ¬ f0 c = 0 → (T (c / 64)).testBit u = true → ¬ f0 (64 * u + (c % 64 ||| 2 ^ u)) = 0) ∧ (¬ mo = 0 → yK f0 384 < yK f 384) ∧ (¬ is = 0 → ∃ c, c < 384 ∧ ¬ f c = 0 ∧ c % 64 = al)
theorem zRo.D {T : Nat → Nat} {t al : Nat} {f0 f : Nat → Int32} {mo is : Int32} {D D1 : Nat → Nat → Prop} (h : zRo T t al f0 f mo is D) (k : mo = 0 → ∀ c u, c < 384 → D1 c u → ¬ f0 c = 0 → (T (c / 64)).testBit u = true → D c u ∨ ¬ f0 (64 * u + (c % 64 ||| 2 ^ u)) = 0) : zRo T t al f0 f mo is D1 := ⟨h.1, h.2.1, h.2.2.1, fun m => ⟨(h.2.2.2.1 m).1, fun c u a1 a2 a3 a4 => (k m c u a1 a2 a3 a4).elim (fun d => (h.2.2.2.1 m).2 c u a1 d a3 a4) id⟩, h.2.2.2.2.1, h.2.2.2.2.2⟩
section XRM
variable {Lf : xLT} {t p : Nat} {E S : Nat → Nat → Int32} {rm0 : zRr} {q : zRq}
theorem mRm77 (hE : xMe Lf t p E 0 rm0) (hS : xMs t p S (rm0 32)) {j i x al : Nat} (hj : j < p) (hi : i < t) (hx : x < 2 ^ t) {f0 : Nat → Int32} {is : Int32} {ih25 : Int32 → Int32 → Int32 → zRr → (Int32 × zRr)} : ∀ (n u : Nat) (mo : Int32) (rm : zRr), u ≤ t → t < n + u → zFr [15, 16, 17, 18, 19, 20, 21, 22, 23, 24, 38] rm0 rm → ¬ rm 38 (64 * i + x) = 0 → zRo (sT Lf t p E S 0 j) t al f0 (rm 38) mo is (fun c v => c < 64 * i + x ∨ (c = 64 * i + x ∧ v < u)) → ∃ mo1 rm1, zFr [15, 16, 17, 18, 19, 20, 21, 22, 23, 24, 38] rm0 rm1 ∧ zRo (sT Lf t p E S 0 j) t al f0 (rm1 38) mo1 is (fun c _ => c < 64 * i + x + 1) ∧ Gm_roams_77 (nI j) q (nI (64 * i + x)) ih25 n mo is (nI i) (nI u) rm = ih25 mo1 is (nI (64 * i + x + 1)) rm1 := by
  have ht := hE.2.1.1
  have x64 := p64 ht hx
  have k384 : 64 * i + x < 384 := by omega
  have kd : (64 * i + x) / 64 = i := by omega
  have km : (64 * i + x) % 64 = x := by omega
  intro n
  induction n with
  | zero => intro u mo rm h1 h2; omega
  | succ n ih =>
    intro u mo rm h1 h2 g1 hk hR
    have e0 : Gm_roams_77 (nI j) q (nI (64 * i + x)) ih25 (n + 1) mo is (nI i) (nI u) rm = Bm_roams_77 (nI j) q (nI (64 * i + x)) ih25 (Gm_roams_77 (nI j) q (nI (64 * i + x)) ih25 n) mo is (nI i) (nI u) rm := rfl
    have hE2 := hE.fr g1 (by decide)
    have hS2 := hS.fr (g1 32 rfl)
    rw [e0]
    unfold Bm_roams_77 Gm_roams_162 Gm_roams_156
    simp only [zletQ, zifQ, zifnQ, hE2.1.1, nI_1]
    by_cases e : u = t
    · subst e
      rw [if_pos (nI_leP (by omega) (by omega) (by omega))]
      refine ⟨mo, rm, g1, hR.D (fun _ c v _ a2 _ a4 => Or.inl ?_), rfl⟩
      have hv : v < u := bLt (sT_lt _) a4
      have a2 : c < 64 * i + x + 1 := a2
      by_cases d : c = 64 * i + x
      · exact Or.inr ⟨d, hv⟩
      · exact Or.inl (by omega)
    · have hu : 2 ^ u < 2 ^ t := Nat.pow_lt_pow_right (by decide) (by omega)
      have hl : x ||| 2 ^ u < 2 ^ t := Nat.or_lt_two_pow hx hu
      have hl64 := p64 ht hl
      have dm := nDm k384
      have ev : (64 : Int32) * nI u + ((nI (64 * i + x) - nI (64 * i + x) / 64 * 64) ||| ((1 : Int32) <<< (nI u &&& 31))) = nI (64 * u + (x ||| 2 ^ u)) := by
        rw [dm.2, nOne (by omega), show (64 * i + x) % 64 = x from km, nOr x64 (p64 ht hu)]
        have : (64 : Int32) * nI u = nI (64 * u) := nI_mulL 64 u
        rw [this]; exact nI_add _ _
      rw [if_neg (nI_leN (by omega) (by omega) (by omega)), ev, xzn (show i < 2 ^ 31 by omega), (hE2.2.2.1 i hi).2, xzn (show 64 * u + (x ||| 2 ^ u) < 2 ^ 31 by omega)]
      have hT := yN_bit (f := sSp Lf p E S 0 j i) (i := u) t
      have skip : ∀ rm3 : zRr, rm3 38 = rm 38 → (mo = 0 → (sT Lf t p E S 0 j i).testBit u = true → ¬ f0 (64 * u + (x ||| 2 ^ u)) = 0) → zRo (sT Lf t p E S 0 j) t al f0 (rm3 38) mo is (fun c v => c < 64 * i + x ∨ (c = 64 * i + x ∧ v < u + 1)) := fun rm3 e3 hq => by
        rw [e3]
        refine hR.D (fun m c v _ a2 _ a4 => ?_)
        have a2 : c < 64 * i + x ∨ (c = 64 * i + x ∧ v < u + 1) := a2
        by_cases d : c < 64 * i + x
        · exact Or.inl (Or.inl d)
        · have dc : c = 64 * i + x := by omega
          by_cases f : v = u
          · subst f
            subst dc
            rw [kd] at a4
            rw [km]
            exact Or.inr (hq m a4)
          · exact Or.inl (Or.inr ⟨dc, by omega⟩)
      rcases xbit (E 1 i >>> (nI u &&& 31)) with c | c
      · rw [if_pos c]
        exact ih (u + 1) mo rm (by omega) (by omega) g1 hk (skip rm rfl (fun _ k => absurd (show sSp Lf p E S 0 j i u = 0 from if_pos c) (hT.mp k).2))
      · rw [if_neg (show ¬ (E 1 i >>> (nI u &&& 31)) &&& 1 = 0 by rw [c]; decide)]
        have es : sSp Lf p E S 0 j i u = sLe Lf p E S 0 (nI i) j u := if_neg (by rw [c]; decide)
        by_cases d : rm 38 (64 * u + (x ||| 2 ^ u)) = 0
        · rw [if_pos d]
          obtain ⟨r3, f3, e3⟩ := mLe (q := q) hE2 hS2 (at_ := nI i) hj (i := u) (by omega)
          have g3 := g1.tr f3 (by decide)
          rw [e3, xcvr (r := r3)]
          by_cases l : sLe Lf p E S 0 (nI i) j u = 0
          · rw [if_pos l]
            exact ih (u + 1) mo r3 (by omega) (by omega) g3 (by rw [f3 38 rfl]; exact hk) (skip r3 (f3 38 rfl) (fun _ k => absurd (es.trans l) (hT.mp k).2))
          · rw [if_neg l, f3 38 rfl]
            have hTu : (sT Lf t p E S 0 j i).testBit u = true := hT.mpr ⟨by omega, fun h => l (es.symm.trans h)⟩
            have old : ∀ c, ¬ rm 38 c = 0 → ¬ upd (rm 38) (64 * u + (x ||| 2 ^ u)) 1 c = 0 := fun c hc => by
              by_cases f : c = 64 * u + (x ||| 2 ^ u)
              · subst f; exact absurd d hc
              · rw [pk_un f]; exact hc
            refine ih (u + 1) 1 (zset r3 38 (upd (rm 38) (64 * u + (x ||| 2 ^ u)) 1)) (by omega) (by omega) (g3.set rfl) (by rw [zset_eq]; exact old _ hk) ?_
            rw [zset_eq]
            refine ⟨fun c hc h => old c (hR.1 c hc h), fun c hc h => ?_, fun Z z1 z2 i' x' h => ?_, fun h => absurd h (by decide), fun _ => ?_, fun h => ?_⟩
            · by_cases f : c = 64 * u + (x ||| 2 ^ u)
              · subst f
                exact ⟨by omega, by rw [show (64 * u + (x ||| 2 ^ u)) % 64 = x ||| 2 ^ u by omega]; exact hl⟩
              · rw [pk_un f] at h; exact hR.2.1 c hc h
            · by_cases f : 64 * i' + x' = 64 * u + (x ||| 2 ^ u)
              · obtain ⟨b1, b2, _⟩ := h
                have f1 : i' = u := by omega
                have f2 : x' = x ||| 2 ^ u := by omega
                subst f1
                subst f2
                exact z2 i x i' (hR.2.2.1 Z z1 z2 i x ⟨by omega, x64, hk⟩) hTu
              · obtain ⟨b1, b2, b3⟩ := h
                rw [pk_un f] at b3
                exact hR.2.2.1 Z z1 z2 i' x' ⟨b1, b2, b3⟩
            · have m1 := yK_mono (f := f0) (g := rm 38) 384 hR.1
              have m2 := yK_lt (f := rm 38) (g := upd (rm 38) (64 * u + (x ||| 2 ^ u)) 1) (d := 64 * u + (x ||| 2 ^ u)) d (by rw [pk_us]; decide) 384 (by omega) (fun c _ h => old c h)
              omega
            · obtain ⟨c', b1, b2, b3⟩ := hR.2.2.2.2.2 h
              exact ⟨c', b1, old c' b2, b3⟩
        · rw [if_neg d]
          exact ih (u + 1) mo rm (by omega) (by omega) g1 hk (skip rm rfl (fun m _ => by rw [← (hR.2.2.2.1 m).1]; exact d))
theorem zRo.is {T : Nat → Nat} {al : Nat} {f0 f : Nat → Int32} {mo is is1 : Int32} {D : Nat → Nat → Prop} (h : zRo T t al f0 f mo is D) (k : ¬ is1 = 0 → ∃ c, c < 384 ∧ ¬ f c = 0 ∧ c % 64 = al) : zRo T t al f0 f mo is1 D := ⟨h.1, h.2.1, h.2.2.1, h.2.2.2.1, h.2.2.2.2.1, k⟩
theorem mRm25 (hE : xMe Lf t p E 0 rm0) (hS : xMs t p S (rm0 32)) {j al : Nat} (hj : j < p) (hal : al < 64) {f0 : Nat → Int32} {ih16 : Int32 → Int32 → Int32 → zRr → (Int32 × zRr)} : ∀ (n k : Nat) (mo is : Int32) (rm : zRr), k ≤ 384 → 384 < n + k → zFr [15, 16, 17, 18, 19, 20, 21, 22, 23, 24, 38] rm0 rm → zRo (sT Lf t p E S 0 j) t al f0 (rm 38) mo is (fun c _ => c < k) → (∀ c, c < k → ¬ f0 c = 0 → c % 64 = al → ¬ is = 0) → ∃ mo1 is1 rm1, zFr [15, 16, 17, 18, 19, 20, 21, 22, 23, 24, 38] rm0 rm1 ∧ zRo (sT Lf t p E S 0 j) t al f0 (rm1 38) mo1 is1 (fun c _ => c < 384) ∧ (∀ c, c < 384 → ¬ f0 c = 0 → c % 64 = al → ¬ is1 = 0) ∧ Gm_roams_25 (nI j) q (nI al) ih16 n mo is (nI k) rm = ih16 (nI al) mo1 is1 rm1 := by
  have ht := hE.2.1.1
  intro n
  induction n with
  | zero => intro k mo is rm h1 h2; omega
  | succ n ih =>
    intro k mo is rm h1 h2 g1 hR hI
    have e0 : Gm_roams_25 (nI j) q (nI al) ih16 (n + 1) mo is (nI k) rm = Bm_roams_25 (nI j) q (nI al) ih16 (Gm_roams_25 (nI j) q (nI al) ih16 n) mo is (nI k) rm := rfl
    rw [e0]
    unfold Bm_roams_25 Gm_roams_67 Gm_roams_72 Gm_roams_162
    simp only [zletQ, zifQ, zifnQ, nI_1, xzn (show k < 2 ^ 31 by omega)]
    by_cases e : k = 384
    · subst e
      rw [if_pos (show (384 : Int32) ≤ nI 384 from nI_leP (a := 384) (by omega) (by omega) (by omega))]
      exact ⟨mo, is, rm, g1, hR, hI, rfl⟩
    · rw [if_neg (show ¬ (384 : Int32) ≤ nI k from nI_leN (a := 384) (by omega) (by omega) (by omega))]
      by_cases c : rm 38 k = 0
      · rw [if_pos c]
        have n0 : f0 k = 0 := by
          by_cases d : f0 k = 0
          · exact d
          · exact absurd c (hR.1 k (by omega) d)
        refine ih (k + 1) mo is rm (by omega) (by omega) g1 (hR.D (fun _ c u _ a2 a3 _ => Or.inl (show c < k from ?_))) (fun c hc a1 a2 => ?_)
        · have a2 : c < k + 1 := a2
          by_cases d : c = k
          · subst d; exact absurd n0 a3
          · omega
        · by_cases d : c = k
          · subst d; exact absurd n0 a1
          · exact hI c (by omega) a1 a2
      · obtain ⟨hi, hx⟩ := hR.2.1 k (by omega) c
        have dm := nDm (show k < 384 by omega)
        have hk : 64 * (k / 64) + k % 64 = k := Nat.div_add_mod k 64
        have go : ∀ is2 : Int32, (¬ is2 = 0 → ∃ c, c < 384 ∧ ¬ rm 38 c = 0 ∧ c % 64 = al) → (∀ c, c < k + 1 → ¬ f0 c = 0 → c % 64 = al → ¬ is2 = 0) → ∃ mo1 is1 rm1, zFr [15, 16, 17, 18, 19, 20, 21, 22, 23, 24, 38] rm0 rm1 ∧ zRo (sT Lf t p E S 0 j) t al f0 (rm1 38) mo1 is1 (fun c _ => c < 384) ∧ (∀ c, c < 384 → ¬ f0 c = 0 → c % 64 = al → ¬ is1 = 0) ∧ Gm_roams_77 (nI j) q (nI k) (Gm_roams_25 (nI j) q (nI al) ih16 n) 7 mo is2 (nI (k / 64)) 0 rm = ih16 (nI al) mo1 is1 rm1 := by
          intro is2 b1 b2
          have k77 := mRm77 (q := q) (al := al) hE hS (i := k / 64) (x := k % 64) hj hi hx (f0 := f0) (is := is2) (ih25 := Gm_roams_25 (nI j) q (nI al) ih16 n) 7 0 mo rm (by omega) (by omega) g1 (by rw [hk]; exact c) ((hR.is b1).D (fun _ c u _ a2 _ _ => Or.inl (by
            have a2 : c < 64 * (k / 64) + k % 64 ∨ (c = 64 * (k / 64) + k % 64 ∧ u < 0) := a2
            rw [hk] at a2
            rcases a2 with a2 | a2
            · exact a2
            · exact absurd a2.2 (Nat.not_lt_zero _))))
          rw [hk] at k77
          obtain ⟨mo1, rm1, q1, q2, q3⟩ := k77
          have q3 : Gm_roams_77 (nI j) q (nI k) (Gm_roams_25 (nI j) q (nI al) ih16 n) 7 mo is2 (nI (k / 64)) 0 rm = Gm_roams_25 (nI j) q (nI al) ih16 n mo1 is2 (nI (k + 1)) rm1 := q3
          rw [q3]
          exact ih (k + 1) mo1 is2 rm1 (by omega) (by omega) q1 q2 b2
        rw [if_neg c, dm.2, dm.1]
        by_cases d : is = 0
        · rw [if_pos d]
          by_cases f : k % 64 = al
          · rw [if_pos (show nI (k % 64) = nI al by rw [f])]
            exact go 1 (fun _ => ⟨k, by omega, c, f⟩) (fun _ _ _ _ => by decide)
          · rw [if_neg (fun h => f ((nI_eq (by omega) (by omega)).mp h))]
            exact go 0 (fun h => absurd rfl h) (fun c' hc' a1 a2 => by
              by_cases g : c' = k
              · subst g; exact absurd a2 f
              · exact absurd d (hI c' (by omega) a1 a2))
        · rw [if_neg d]
          exact go 1 (fun _ => hR.2.2.2.2.2 d) (fun _ _ _ _ => by decide)
theorem zSu.P {f : Nat → Int32} (h : zSu t f) (ht : t ≤ 6) {i x : Nat} (k : zP f i x) : i < t ∧ x < 2 ^ t := by
  obtain ⟨h1, h2, h3⟩ := k
  have := h (64 * i + x) (by omega) h3
  rw [show (64 * i + x) / 64 = i by omega, show (64 * i + x) % 64 = x by omega] at this
  exact this
theorem mRm16 {j al : Nat} (hj : j < p) (hal : al < 64) : ∀ (n : Nat) (mo is : Int32) (rm : zRr), xMe Lf t p E 0 rm → xMs t p S (rm 32) → ¬ mo = 0 → 386 ≤ n + yK (rm 38) 384 → zSu t (rm 38) → (¬ is = 0 → ∃ c, c < 384 ∧ ¬ rm 38 c = 0 ∧ c % 64 = al) → ∃ is1 rm1, Gm_roams_16 (nI j) q n (nI al) mo is rm = (is1, rm1) ∧ zFr [15, 16, 17, 18, 19, 20, 21, 22, 23, 24, 38] rm rm1 ∧ zSu t (rm1 38) ∧ yCl (sT Lf t p E S 0 j) (zP (rm 38)) (zP (rm1 38)) ∧ ((¬ is1 = 0) ↔ ∃ c, c < 384 ∧ ¬ rm1 38 c = 0 ∧ c % 64 = al) := by
  intro n
  induction n with
  | zero => intro mo is rm _ _ _ h; have := yK_le (f := rm 38) 384; omega
  | succ n ih =>
    intro mo is rm hE hS hm hn hs hi
    have ht := hE.2.1.1
    have e0 : Gm_roams_16 (nI j) q (n + 1) (nI al) mo is rm = Bm_roams_16 (nI j) q (Gm_roams_16 (nI j) q n) (nI al) mo is rm := rfl
    rw [e0]
    unfold Bm_roams_16
    rw [zifQ, if_neg hm]
    obtain ⟨mo1, is1, rm1, q1, q2, q3, q4⟩ := mRm25 (q := q) hE hS hj hal (f0 := rm 38) (ih16 := Gm_roams_16 (nI j) q n) 385 0 0 is rm (by omega) (by omega) zFr.refl ⟨fun _ _ h => h, hs, fun Z z1 _ => z1, fun _ => ⟨rfl, fun c u _ a2 => absurd a2 (Nat.not_lt_zero _)⟩, fun h => absurd rfl h, hi⟩ (fun c hc => absurd hc (by omega))
    have q4 : Gm_roams_25 (nI j) q (nI al) (Gm_roams_16 (nI j) q n) 385 0 is 0 rm = Gm_roams_16 (nI j) q n (nI al) mo1 is1 rm1 := q4
    rw [q4]
    by_cases c : mo1 = 0
    · obtain ⟨n', rfl⟩ : ∃ n', n = n' + 1 := ⟨n - 1, by have := yK_le (f := rm 38) 384; omega⟩
      have e1 : Gm_roams_16 (nI j) q (n' + 1) (nI al) mo1 is1 rm1 = Bm_roams_16 (nI j) q (Gm_roams_16 (nI j) q n') (nI al) mo1 is1 rm1 := rfl
      rw [e1]
      unfold Bm_roams_16
      rw [zifQ, if_pos c]
      obtain ⟨w1, w2⟩ := q2.2.2.2.1 c
      refine ⟨is1, rm1, rfl, q1, q2.2.1, ⟨fun i x h => by rw [w1]; exact h, fun i x u h k => ?_, fun Z z1 z2 => q2.2.2.1 Z z1 z2⟩, ⟨q2.2.2.2.2.2, fun ⟨c', b1, b2, b3⟩ => q3 c' b1 (by rw [← w1]; exact b2) b3⟩⟩
      obtain ⟨a1, a2⟩ := q2.2.1.P ht h
      obtain ⟨b1, b2, b3⟩ := h
      have hu : u < t := bLt (sT_lt _) k
      rw [w1] at b3
      have := w2 (64 * i + x) u (show 64 * i + x < 384 by omega) (show 64 * i + x < 384 by omega) b3 (by rw [show (64 * i + x) / 64 = i by omega]; exact k)
      rw [show (64 * i + x) % 64 = x by omega] at this
      refine ⟨by omega, p64 ht (Nat.or_lt_two_pow a2 (Nat.pow_lt_pow_right (by decide) hu)), ?_⟩
      rw [w1]; exact this
    · have hc := q2.2.2.2.2.1 c
      obtain ⟨is2, rm2, v1, v2, v3, v4, v5⟩ := ih mo1 is1 rm1 (hE.fr q1 (by decide)) (hS.fr (q1 32 rfl)) c (by omega) q2.2.1 q2.2.2.2.2.2
      refine ⟨is2, rm2, v1, q1.tr v2 (by decide), v3, ⟨fun i x h => v4.1 i x ⟨h.1, h.2.1, q2.1 _ (by have := h.1; have := h.2.1; omega) h.2.2⟩, v4.2.1, fun Z z1 z2 => v4.2.2 Z (q2.2.2.1 Z z1 z2) z2⟩, v5⟩
theorem xAl : ∀ t : Fin 7, ((1 : Int32) <<< (nI t.val &&& 31)) - 1 = nI (2 ^ t.val - 1) := by decide +kernel
theorem nAl {t : Nat} (h : t ≤ 6) : ((1 : Int32) <<< (nI t &&& 31)) - 1 = nI (2 ^ t - 1) := xAl ⟨t, by omega⟩
theorem mRms {j : Nat} (hj : j < p) {rm : zRr} (hE : xMe Lf t p E 0 rm) (hS : xMs t p S (rm 32)) (hs : zSu t (rm 38)) : ∃ is1 rm1, Gm_roams (nI j) rm q = (is1, rm1) ∧ zFr [15, 16, 17, 18, 19, 20, 21, 22, 23, 24, 38] rm rm1 ∧ zSu t (rm1 38) ∧ yCl (sT Lf t p E S 0 j) (zP (rm 38)) (zP (rm1 38)) ∧ ((¬ is1 = 0) ↔ ∃ i, zP (rm1 38) i (2 ^ t - 1)) := by
  have ht := hE.2.1.1
  have h64 : 2 ^ t ≤ 64 := Nat.pow_le_pow_right (n := 2) (by decide) ht
  have hpos := Nat.two_pow_pos t
  unfold Gm_roams
  simp only [zletQ, hE.1.1]
  rw [nAl ht]
  obtain ⟨is1, rm1, v1, v2, v3, v4, v5⟩ := mRm16 (q := q) (S := S) hj (show 2 ^ t - 1 < 64 by omega) 386 1 0 rm hE hS (by decide) (by omega) hs (fun h => absurd rfl h)
  refine ⟨is1, rm1, v1, v2, v3, v4, v5.trans ⟨fun ⟨c, b1, b2, b3⟩ => ⟨c / 64, by omega, by omega, ?_⟩, fun ⟨i, b1, b2, b3⟩ => ⟨64 * i + (2 ^ t - 1), by omega, b3, by omega⟩⟩⟩
  rw [← b3, Nat.div_add_mod]; exact b2
end XRM
end
section
/-! ===== answers: round ===== -/
section XRD
variable {Lf : xLT} {t p : Nat} {E S : Nat → Nat → Int32} {q qm : zRq}
/-- weeks, on both sides -/
theorem xRd79 (hR : xRd t E) {j b : Nat} (hj : j < p) : ∀ (n w : Nat) (r rm : zRr) (A : Nat → Nat), w ≤ 100 → 100 < n + w → xCe Lf t p E r → xCs t p 0 (sWs E S w) r → (∀ x, x < 64 → r 201 x = nI (A x)) → yAs t b A → b < 2 ^ t → xMe Lf t p E 0 rm → xMs t p (sWs E S w) (rm 32) → xZr t p (rm 32) → zSu t (rm 38) → (∀ i x, yA A i x ↔ zP (rm 38) i x) → (Gk_soonestRound_71 (nI j) q n (nI (2 ^ t - 1)) (nI b) (nI w) r).1 = (Gm_round_79 (nI j) qm n (nI w) rm).1 := by
  intro n
  induction n with
  | zero => intro w r rm A h1 h2; omega
  | succ n ih =>
    intro w r rm A h1 h2 hE hS hA hs hb mE mS mz ms hAP
    have ht := hE.2.1.1
    have h64 : 2 ^ t ≤ 64 := Nat.pow_le_pow_right (n := 2) (by decide) ht
    have hpos := Nat.two_pow_pos t
    have e0 : Gk_soonestRound_71 (nI j) q (n + 1) (nI (2 ^ t - 1)) (nI b) (nI w) r = Bk_soonestRound_71 (nI j) q (Gk_soonestRound_71 (nI j) q n) (nI (2 ^ t - 1)) (nI b) (nI w) r := rfl
    have e1 : Gm_round_79 (nI j) qm (n + 1) (nI w) rm = Bm_round_79 (nI j) qm (Gm_round_79 (nI j) qm n) (nI w) rm := rfl
    rw [e0, e1]
    unfold Bk_soonestRound_71 Bm_round_79 Gm_round_103
    simp only [zletQ, zifQ, zifnQ, nI_1]
    by_cases e : w = 100
    · subst e
      rw [if_pos (show (99 : Int32) < nI 100 from (nI_ltI (a := 99) (by omega) (by omega)).mpr (by omega)), if_pos (show (100 : Int32) ≤ nI 100 from nI_leP (a := 100) (by omega) (by omega) (by omega)), if_neg (show ¬ nI 100 ≤ (99 : Int32) from nI_leN (b := 99) (by omega) (by omega) (by omega))]
    · rw [if_neg (show ¬ (99 : Int32) < nI w from fun h => by have := (nI_ltI (a := 99) (by omega) (by omega)).mp h; omega), if_neg (show ¬ (100 : Int32) ≤ nI w from nI_leN (a := 100) (by omega) (by omega) (by omega))]
      obtain ⟨f, c⟩ := kLayA (q := q) hE hS hR (mo := 0) hj
      generalize Gk_layA (nI j) 0 r q = r1 at f c ⊢
      have h9 : r1 171 9 = nI t := by rw [f 171 rfl]; exact hE.1.1
      obtain ⟨r2, A2, f2, c2, w2, x2⟩ := kSr92 (q := q) (T := sT Lf t p E (sWs E S w) 0 j) ht (b := b) (w := w) (X := yA A) sT_lt (ih71 := Gk_soonestRound_71 (nI j) q n) h9 c 65 b r1 A (by omega) (by omega) zFr.refl (fun x hx => by rw [f 201 rfl]; exact hA x hx) (yWi.first hs)
      obtain ⟨is1, rm1, m1, m2, m3, m4, m5⟩ := mRms (q := qm) hj mE mS ms
      rw [x2, m1, xcvr (r := rm1)]
      have same := (w2.last ht).same m4 hAP
      have hi : (¬ is1 = 0) ↔ ¬ A2 (2 ^ t - 1) = 0 := by
        rw [m5]
        refine ⟨fun ⟨i, h⟩ => yb0 ((same i _).mpr h).2, fun h => ?_⟩
        obtain ⟨v, hv⟩ := Nat.exists_testBit_of_ne_zero h
        exact ⟨v, (same v _).mp ⟨by omega, hv⟩⟩
      by_cases d : A2 (2 ^ t - 1) = 0
      · have di : is1 = 0 := by
          by_cases g : is1 = 0
          · exact g
          · exact absurd d (hi.mp g)
        rw [if_pos d, if_pos di]
        have hE2 := (hE.fr f (by decide)).fr f2 (by decide)
        have hS2 : xCs t p 0 (sWs E S w) r2 := (hS.sA f rfl rfl rfl rfl rfl rfl).sA f2 rfl rfl rfl rfl rfl rfl
        obtain ⟨v1, v2⟩ := kWkA (q := q) hE2 hS2
        have mE1 := mE.fr m2 (by decide)
        obtain ⟨u1, u2, u3⟩ := mWk (q := qm) mE1 (mS.fr (m2 32 rfl)) (by rw [m2 32 rfl]; exact mz)
        exact ih (w + 1) _ _ A2 (by omega) (by omega) (hE2.fr v2 (by decide)) v1 (fun x hx => by rw [v2 201 rfl]; exact c2 x hx) w2.1 hb (mE1.fr u3 (by decide)) u1 u2 (by rw [u3 38 rfl]; exact m3) (by rw [u3 38 rfl]; exact same)
      · rw [if_neg d, if_neg (hi.mpr d), if_pos (show nI w ≤ (99 : Int32) from nI_leP (b := 99) (by omega) (by omega) (by omega))]
/-- where no road leads, nobody comes -/
theorem mRdN {j m L : Nat} (hR : xRd t E) (hj : j < p) (hL : L < 2 ^ t) (hF : yF (sRn t E) L t = L) (hm : m ||| L < 2 ^ t) (hne : ¬ m ||| L = 2 ^ t - 1) : ∀ (n w : Nat) (rm : zRr), w ≤ 100 → 100 < n + w → xMe Lf t p E 0 rm → xMs t p (sWs E S w) (rm 32) → xZr t p (rm 32) → zSu t (rm 38) → (∀ i x, zP (rm 38) i x → L.testBit i = true ∧ ∀ v, x.testBit v = true → (m ||| L).testBit v = true) → (Gm_round_79 (nI j) qm n (nI w) rm).1 = -1 := by
  intro n
  induction n with
  | zero => intro w rm h1 h2; omega
  | succ n ih =>
    intro w rm h1 h2 mE mS mz ms hAP
    have ht := mE.2.1.1
    have e1 : Gm_round_79 (nI j) qm (n + 1) (nI w) rm = Bm_round_79 (nI j) qm (Gm_round_79 (nI j) qm n) (nI w) rm := rfl
    rw [e1]
    unfold Bm_round_79 Gm_round_103
    simp only [zletQ, zifQ, zifnQ, nI_1]
    by_cases e : w = 100
    · subst e
      rw [if_pos (show (100 : Int32) ≤ nI 100 from nI_leP (a := 100) (by omega) (by omega) (by omega)), if_neg (show ¬ nI 100 ≤ (99 : Int32) from nI_leN (b := 99) (by omega) (by omega) (by omega))]
    · rw [if_neg (show ¬ (100 : Int32) ≤ nI w from nI_leN (a := 100) (by omega) (by omega) (by omega))]
      obtain ⟨is1, rm1, m1, m2, m3, m4, m5⟩ := mRms (q := qm) hj mE mS ms
      have in1 := m4.2.2 (fun i x => L.testBit i = true ∧ ∀ v, x.testBit v = true → (m ||| L).testBit v = true) hAP (fun i x u g g3 => by
        obtain ⟨g1, g2⟩ := g
        have hi : i < t := bLt hL g1
        have hu : L.testBit u = true := by
          rw [← hF]
          exact (yF_bit t).mpr (Or.inr ⟨i, hi, g1, sT_in hR ht i hi u g3⟩)
        refine ⟨hu, fun v hv => ?_⟩
        rw [Nat.testBit_or, Bool.or_eq_true] at hv
        rcases hv with hv | hv
        · exact g2 v hv
        · by_cases g : v = u
          · subst g; rw [Nat.testBit_or, hu, Bool.or_true]
          · rw [Nat.testBit_two_pow_of_ne (fun h => g h.symm)] at hv; cases hv)
      have di : is1 = 0 := by
        by_cases g : is1 = 0
        · exact g
        · exfalso
          obtain ⟨i, hi⟩ := m5.mp g
          have k := (in1 i _ hi).2
          apply hne
          refine Nat.eq_of_testBit_eq (fun v => ?_)
          rw [Nat.testBit_two_pow_sub_one]
          by_cases hv : v < t
          · rw [decide_eq_true hv]
            exact k v (by rw [Nat.testBit_two_pow_sub_one, decide_eq_true hv])
          · rw [decide_eq_false hv]
            cases hb : (m ||| L).testBit v with
            | false => rfl
            | true => exact absurd (bLt hm hb) hv
      rw [m1, xcvr (r := rm1), if_pos di]
      have mE1 := mE.fr m2 (by decide)
      obtain ⟨u1, u2, u3⟩ := mWk (q := qm) mE1 (mS.fr (m2 32 rfl)) (by rw [m2 32 rfl]; exact mz)
      exact ih (w + 1) _ (by omega) (by omega) (mE1.fr u3 (by decide)) u1 u2 (by rw [u3 38 rfl]; exact m3) (by rw [u3 38 rfl]; exact in1)
/-- cells cleared, the first one laid -/
theorem mRd30 {j a m : Nat} (hj : j < 6) (ha : a < 6) (hm : m < 64) : ∀ (n k : Nat) (rm : zRr), k ≤ 384 → 384 < n + k → rm 32 (1 + j) = nI a → rm 32 (25 + j) = nI m → (∀ c, c < k → rm 38 c = 0) → ∃ rm1, zFr [38] rm rm1 ∧ (∀ c, c < 384 → (¬ rm1 38 c = 0 ↔ c = 64 * a + m)) ∧ Gm_round_30 (nI j) qm n (nI k) rm = Gm_round_79 (nI j) qm 101 0 rm1 := by
  intro n
  induction n with
  | zero => intro k rm h1 h2; omega
  | succ n ih =>
    intro k rm h1 h2 h3 h4 h5
    have e1 : Gm_round_30 (nI j) qm (n + 1) (nI k) rm = Bm_round_30 (nI j) qm (Gm_round_30 (nI j) qm n) (nI k) rm := rfl
    have n1 : (1 : Int32) + nI j = nI (1 + j) := nI_add 1 j
    have n25 : (25 : Int32) + nI j = nI (25 + j) := nI_add 25 j
    rw [e1]
    unfold Bm_round_30
    simp only [zletQ, zifQ, nI_1, n1, n25, xzn (show 1 + j < 2 ^ 31 by omega), xzn (show 25 + j < 2 ^ 31 by omega), h3, h4]
    by_cases e : k = 384
    · subst e
      have ev : (64 : Int32) * nI a + nI m = nI (64 * a + m) := by
        have : (64 : Int32) * nI a = nI (64 * a) := nI_mulL 64 a
        rw [this]; exact nI_add _ _
      rw [if_pos (show (384 : Int32) ≤ nI 384 from nI_leP (a := 384) (by omega) (by omega) (by omega)), ev, xzn (show 64 * a + m < 2 ^ 31 by omega)]
      refine ⟨_, zFr.refl.set rfl, fun c hc => ?_, rfl⟩
      rw [zset_eq]
      by_cases d : c = 64 * a + m
      · subst d; rw [pk_us]; exact ⟨fun _ => rfl, fun _ => by decide⟩
      · rw [pk_un d]; exact ⟨fun h => absurd (h5 c hc) h, fun h => absurd h d⟩
    · rw [if_neg (show ¬ (384 : Int32) ≤ nI k from nI_leN (a := 384) (by omega) (by omega) (by omega)), xzn (show k < 2 ^ 31 by omega)]
      obtain ⟨rm1, g1, g2, g3⟩ := ih (k + 1) (zset rm 38 (upd (rm 38) k 0)) (by omega) (by omega) (by rw [zset_ne (by decide)]; exact h3) (by rw [zset_ne (by decide)]; exact h4) (fun c hc => by
        rw [zset_eq]
        by_cases d : c = k
        · subst d; rw [pk_us]
        · rw [pk_un d]; exact h5 c (by omega))
      exact ⟨rm1, (zFr.refl.set rfl).tr g1 (by decide), g2, g3⟩
end XRD
theorem xAndAl : ∀ (t : Fin 7) (m : Fin 64), m.val < 2 ^ t.val → m.val &&& (2 ^ t.val - 1) = m.val := by decide +kernel
theorem xRoundW {t p : Nat} {r rm : zRr} {q qm : zRq} {a : Int32} (h : xHow t p r q rm qm) : (Gk_round a r q).1 = (Gm_round a rm qm).1 := by
  have ht := h.le.1
  have hp := h.le.2
  have h64 : 2 ^ t ≤ 64 := Nat.pow_le_pow_right (n := 2) (by decide) ht
  have hpos := Nat.two_pow_pos t
  have h1 := h.z100
  have hR := h.R
  unfold Gk_round Gm_round
  simp only [zletQ, zifQ, zifnQ]
  rw [h.isP a]
  by_cases c1 : Gm_isPerson a (zset rm 100 (fun _ => 0)) qm = 0
  · rw [if_pos c1, if_pos c1]
  rw [if_neg c1, if_neg c1]
  obtain ⟨j, hj, ea⟩ := h.pI c1
  subst ea
  obtain ⟨hE, hE'⟩ := h1.E
  obtain ⟨S, s1, s2, s3⟩ := h1.2.1
  obtain ⟨k, m, hk, hm, z1, z2, hbit⟩ := s3.2.2 j hj
  have ek : S 1 j = nI k := (s2.2 j hj).2.1.symm.trans z1
  have em : S 5 j = nI m := (s2.2 j hj).2.2.2.2.2.symm.trans z2
  have m64 := p64 ht hm
  -- the reference's start
  have mE : xMe (sL r) t p (sE r) 0 (zset (zset rm 100 (fun _ => 0)) 34 (zcp (zset rm 100 (fun _ => 0) 32) (zset rm 100 (fun _ => 0) 34) 0 0 31)) := hE'.fr (zFr.refl.set (M := [34]) rfl) (by decide)
  have mS : xMs t p S (zset (zset rm 100 (fun _ => 0)) 34 (zcp (zset rm 100 (fun _ => 0) 32) (zset rm 100 (fun _ => 0) 34) 0 0 31) 32) := s2
  have mZ : xZr t p (zset (zset rm 100 (fun _ => 0)) 34 (zcp (zset rm 100 (fun _ => 0) 32) (zset rm 100 (fun _ => 0) 34) 0 0 31) 32) := s3
  have y1 : zset (zset rm 100 (fun _ => 0)) 34 (zcp (zset rm 100 (fun _ => 0) 32) (zset rm 100 (fun _ => 0) 34) 0 0 31) 32 (1 + j) = nI k := z1
  have y2 : zset (zset rm 100 (fun _ => 0)) 34 (zcp (zset rm 100 (fun _ => 0) 32) (zset rm 100 (fun _ => 0) 34) 0 0 31) 32 (25 + j) = nI m := z2
  generalize zset (zset rm 100 (fun _ => 0)) 34 (zcp (zset rm 100 (fun _ => 0) 32) (zset rm 100 (fun _ => 0) 34) 0 0 31) = rm0 at mE mS mZ y1 y2 ⊢
  obtain ⟨rm1, g1, g2, g3⟩ := mRd30 (qm := qm) (show j < 6 by omega) (show k < 6 by omega) m64 385 0 rm0 (by omega) (by omega) y1 y2 (fun c hc => absurd hc (by omega))
  rw [nI_0] at g3
  rw [g3]
  have mE1 := mE.fr g1 (by decide)
  have mS1 := mS.fr (g1 32 rfl)
  have mZ1 : xZr t p (rm1 32) := by rw [g1 32 rfl]; exact mZ
  have mP : ∀ i x, zP (rm1 38) i x ↔ (i = k ∧ x = m) := fun i x => by
    refine ⟨fun ⟨b1, b2, b3⟩ => ?_, fun ⟨b1, b2⟩ => ?_⟩
    · have := (g2 (64 * i + x) (by omega)).mp b3
      omega
    · subst b1; subst b2
      exact ⟨by omega, m64, (g2 _ (by omega)).mpr rfl⟩
  have mSu : zSu t (rm1 38) := fun c hc b => by
    have := (g2 c hc).mp b
    subst this
    rw [show (64 * k + m) / 64 = k by omega, show (64 * k + m) % 64 = m by omega]
    exact ⟨hk, hm⟩
  -- the class's
  have hx : 2 ^ k < 2 ^ t := Nat.pow_lt_pow_right (by decide) hk
  have e7 : r 7 j = nI k := (s1.2 j hj).2.1.trans ek
  have e11 : r 11 j = nI m := (s1.2 j hj).2.2.2.2.2.trans em
  have f1 : zFr [202] r (zset r 202 (va_cpy (r 173) (r 202) 0 0 6)) := zFr.refl.set rfl
  have c3 : ∀ i, i < t → zset r 202 (va_cpy (r 173) (r 202) 0 0 6) 202 i = nI (sRn t (sE r) i) := fun i hi => by
    rw [zset_eq, xcpy (by omega), (hE.2.2.1 i hi).2]; exact (sRn_e hR ht hi).2
  have h9 : zset r 202 (va_cpy (r 173) (r 202) 0 0 6) 171 9 = nI t := by rw [f1 171 rfl]; exact hE.1.1
  have el : Gk_linkedTo (nI k) r q = (nI (yI (sRn t (sE r)) t (t - 1) (2 ^ k)), zset r 202 (va_cpy (r 173) (r 202) 0 0 6)) := by
    unfold Gk_linkedTo
    simp only [zletQ, nOne (show k < 6 by omega)]
    rw [kSpd (q := q) h9 ht c3 (sRn_lt hR ht) hx]
  have hL : yI (sRn t (sE r)) t (t - 1) (2 ^ k) < 2 ^ t := yI_lt (sRn_lt hR ht) _ _ hx
  have hF := yI_fix (T := sRn t (sE r)) (sRn_lt hR ht) hx (two0 k)
  have hkL : (yI (sRn t (sE r)) t (t - 1) (2 ^ k)).testBit k = true := yI_le _ _ Nat.testBit_two_pow_self
  generalize yI (sRn t (sE r)) t (t - 1) (2 ^ k) = L at el hL hF hkL
  have eall : Gk_allTowns r q = nI (2 ^ t - 1) := by
    unfold Gk_allTowns
    simp only [zletQ, hE.1.1]
    exact nAl ht
  have ema : m &&& (2 ^ t - 1) = m := xAndAl ⟨t, by omega⟩ ⟨m, m64⟩ hm
  have hmL : m ||| L < 2 ^ t := Nat.or_lt_two_pow hm hL
  have er : zc_vr (Gk_soonestRound (nI j) r q) (fun v7 r8 => (v7, r8)) = Gk_soonestRound (nI j) r q := zc_vrQ _ _
  rw [er]
  unfold Gk_soonestRound
  simp only [zletQ, zifQ, eall, xzn (show j < 2 ^ 31 by omega), e7, e11]
  rw [nAnd m64 (show 2 ^ t - 1 < 64 by omega), ema, el, xcvr (r := zset r 202 (va_cpy (r 173) (r 202) 0 0 6)), nOr m64 (p64 ht hL)]
  by_cases d : m ||| L = 2 ^ t - 1
  · rw [if_pos (show nI (m ||| L) = nI (2 ^ t - 1) by rw [d])]
    generalize zset r 202 (va_cpy (r 173) (r 202) 0 0 6) = r25 at f1 ⊢
    have q7 : zset r25 201 (zfl (r25 201) 0 64) 7 j = nI k := by rw [zset_ne (by decide), f1 7 rfl]; exact e7
    rw [q7, nOne (show k < 6 by omega), xzn (show m < 2 ^ 31 by omega)]
    have f3 : zFr [201, 202] r (zset (zset r25 201 (zfl (r25 201) 0 64)) 201 (upd (zset r25 201 (zfl (r25 201) 0 64) 201) m (nI (2 ^ k)))) := ((f1.up (by decide)).set rfl).set rfl
    have z3 : ∀ x, x < 64 → zset (zset r25 201 (zfl (r25 201) 0 64)) 201 (upd (zset r25 201 (zfl (r25 201) 0 64) 201) m (nI (2 ^ k))) 201 x = nI (if x = m then 2 ^ k else 0) := fun x hx => by
      rw [zset_eq, zset_eq]
      by_cases g : x = m
      · rw [if_pos g, g, pk_us]
      · rw [if_neg g, pk_un g, nI_0]; exact if_pos hx
    generalize zset (zset r25 201 (zfl (r25 201) 0 64)) 201 (upd (zset r25 201 (zfl (r25 201) 0 64) 201) m (nI (2 ^ k))) = r36 at f3 z3 ⊢
    have hS36 := s1.sN f3 rfl rfl rfl rfl rfl rfl
    have hE36 := hE.fr f3 (by decide)
    have kk : ∀ a, 6 ≤ a → kcp8 r36 0 6 a = r36 a := fun a ha => kcp8_o (by omega)
    have hE37 : xCe (sL r) t p (sE r) (kcp8 r36 0 6) := by
      obtain ⟨q1, q2, q3, q4, q5⟩ := hE36
      refine ⟨by rw [kk 171 (by omega)]; exact q1, q2, fun i hi => by rw [kk 172 (by omega), kk 173 (by omega)]; exact q3 i hi, fun j hj => by rw [kk 175 (by omega)]; exact q4 j hj, fun r2 k1 k2 => q5 r2 (by rw [k1, kk 180 (by omega)]) (by rw [k2, kk 181 (by omega)])⟩
    obtain ⟨A, hA⟩ : ∃ A : Nat → Nat, ∀ x, A x = if x = m then 2 ^ k else 0 := ⟨_, fun _ => rfl⟩
    have key := xRd79 (q := q) (qm := qm) (Lf := sL r) (S := S) hR (b := m) hj 101 0 (kcp8 r36 0 6) rm1 A (by omega) (by omega) hE37 (hS36.cp hp) (fun x hx => by rw [kk 201 (by omega), hA x]; exact z3 x hx) (fun x hx9 => by
      rw [hA x]
      by_cases g : x = m
      · rw [if_pos g]
        refine ⟨hx, fun _ => by rw [g]; exact ⟨Nat.le_refl m, hm⟩, fun v hv => ?_⟩
        by_cases gv : v = k
        · rw [gv, g]; exact hbit
        · rw [Nat.testBit_two_pow_of_ne (fun h => gv h.symm)] at hv; cases hv
      · rw [if_neg g]
        exact ⟨hpos, fun n => absurd rfl n, fun v hv => by rw [Nat.zero_testBit] at hv; cases hv⟩) hm mE1 mS1 mZ1 mSu (fun i x => by
      rw [mP i x]
      refine ⟨fun ⟨b1, b2⟩ => ?_, fun ⟨b1, b2⟩ => ?_⟩
      · rw [hA x] at b2
        by_cases g : x = m
        · rw [if_pos g] at b2
          by_cases gv : i = k
          · exact ⟨gv, g⟩
          · rw [Nat.testBit_two_pow_of_ne (fun h => gv h.symm)] at b2; cases b2
        · rw [if_neg g, Nat.zero_testBit] at b2; cases b2
      · subst b1; subst b2
        refine ⟨m64, ?_⟩
        rw [hA, if_pos rfl]; exact Nat.testBit_two_pow_self)
    rw [nI_0] at key
    exact key
  · rw [if_neg (fun h => d ((nI_eq (by omega) (by omega)).mp h))]
    have key := mRdN (qm := qm) (Lf := sL r) (S := S) (m := m) hR hj hL hF hmL d 101 0 rm1 (by omega) (by omega) mE1 mS1 mZ1 mSu (fun i x hP => by
      obtain ⟨b1, b2⟩ := (mP i x).mp hP
      subst b1; subst b2
      exact ⟨hkL, fun v hv => by rw [Nat.testBit_or, hv, Bool.true_or]⟩)
    rw [nI_0] at key
    exact key.symm
end
section
/-! ===== what holds between two calls: the tapes alike, the same LAND told, all as it is on either side ===== -/
noncomputable def lR (r : zRr) (q : zRq) (rm : zRr) (qm : zRq) : Prop := lT r rm ∧ (∃ t p, xHow t p r q rm qm) ∧ lM r rm ∧ lS r rm
section LR
variable {r r1 : zRr} {q : zRq} {rm rm1 : zRr} {qm qm1 : zRq}
theorem lR.w {M : List Nat} (h : lR r q rm qm) (fk : zFt r r1) (fm : zFr M rm rm1) (m32 : zRs rm rm1) (m152 : rm1 152 0 = 0) (hM : ([0, 1, 4, 5, 6, 7, 8, 9, 10, 11, 12, 25, 26, 27, 28, 29, 35, 36, 37, 101, 151].all fun k => !M.contains k) = true) : lR r1 q rm1 qm := by
  have g : ∀ a, [0, 1, 4, 5, 6, 7, 8, 9, 10, 11, 12, 25, 26, 27, 28, 29, 35, 36, 37, 101, 151].contains a = true → M.contains a = false := fun a ha => by
    have := List.all_eq_true.mp hM a (List.contains_iff_mem.mp ha)
    revert this
    cases M.contains a with
    | false => intro _; rfl
    | true => intro h; cases h
  obtain ⟨h1, ⟨t, p, h2⟩, h3, h4⟩ := h
  refine ⟨(h1.k ⟨fk 196 rfl, fk 197 rfl⟩).m (fm 0 (g 0 rfl)) (fm 101 (g 101 rfl)), ⟨t, p, h2.fr (fun a ha => fk a (zK3_in (by omega))) m32 m152 fm ?_⟩, h3.fr (fun k hk => fk _ (zK3_in (by omega))) (fm 37 (g 37 rfl)), h4.fr (fun k hk => fk _ (zK3_in (by omega))) (fm 29 (g 29 rfl))⟩
  rw [List.all_eq_true]
  intro a ha
  have ha : [1, 4, 5, 6, 7, 8, 9, 10, 11, 12, 25, 26, 27, 28, 35, 36, 37, 151].contains a = true := List.contains_iff_mem.mpr ha
  have : [0, 1, 4, 5, 6, 7, 8, 9, 10, 11, 12, 25, 26, 27, 28, 29, 35, 36, 37, 101, 151].contains a = true := by
    have h9 := List.contains_iff_mem.mp ha
    simp only [List.mem_cons, List.not_mem_nil, or_false] at h9
    rw [List.contains_iff_mem]
    simp only [List.mem_cons, List.not_mem_nil, or_false]
    omega
  rw [g a this]; rfl
theorem lR.z (h : lR r q rm qm) : rm 152 0 = 0 := by
  obtain ⟨_, ⟨_, _, h2⟩, _⟩ := h
  exact h2.2.2.2.2.2
theorem lR.s {M : List Nat} (h : lR r q rm qm) (fk : zFt r r1) (fm : zFr M rm rm1) (m32 : zRs rm rm1) (k152 : M.contains 152 = false) (hM : ([0, 1, 4, 5, 6, 7, 8, 9, 10, 11, 12, 25, 26, 27, 28, 29, 35, 36, 37, 101, 151].all fun k => !M.contains k) = true) : lR r1 q rm1 qm := h.w fk fm m32 (by rw [fm 152 k152]; exact h.z) hM
theorem lR.n (h : lR r q rm qm) (n : mNm qm qm1) : lR r q rm qm1 := by
  obtain ⟨h1, ⟨t, p, h2, h3⟩, h4⟩ := h
  exact ⟨h1, ⟨t, p, h2.fr ⟨fun _ _ _ => rfl, rfl, rfl⟩ (xLow.of rfl (fun _ _ _ => rfl) n.1 n.2), h3⟩, h4⟩
theorem mJ.fo (hM : mJ 20 rm) : ∀ j, j < 6 → zI 0 20 (rm 32 (13 + j)) := by
  intro j hj
  rcases (show j = 0 ∨ j = 1 ∨ j = 2 ∨ j = 3 ∨ j = 4 ∨ j = 5 by omega) with rfl | rfl | rfl | rfl | rfl | rfl
  · exact hM.i 32 13
  · exact hM.i 32 14
  · exact hM.i 32 15
  · exact hM.i 32 16
  · exact hM.i 32 17
  · exact hM.i 32 18
/-- what is asked: the standing is back as it was -/
theorem lR.sJ {a : Int32} {um : Int32 × zRr} (em : um = Gm_judged a rm qm) (h : lR r q rm qm) : zRs rm um.2 := by
  obtain ⟨_, ⟨t, p, h2⟩, _⟩ := h
  obtain ⟨n, hn, _, h25, _⟩ := h2.2.2.2.2.1
  rw [em]; exact rs_judged h25 hn h2.1.2.1.2.1 h2.le.2
theorem lR.sN {a b : Int32} {um : Int32 × zRr} (em : um = Gm_need a b rm qm) (hM : mJ 20 rm) (h : lR r q rm qm) : zRs rm um.2 := by
  obtain ⟨_, ⟨t, p, h2⟩, _⟩ := h
  rw [em]; exact rs_need h2.1.2.1.2.1 h2.le.2 hM.fo
theorem lR.sD {a b : Int32} {um : Int32 × zRr} (em : um = Gm_debt a b rm qm) (hM : mJ 20 rm) (h : lR r q rm qm) : zRs rm um.2 := by
  obtain ⟨_, ⟨t, p, h2⟩, _⟩ := h
  rw [em]; exact rs_debt h2.1.2.1.2.1 h2.le.2 hM.fo
theorem lR.sC {a : Int32} {um : Int32 × zRr} (em : um = Gm_cheapest a rm qm) (hM : mJ 20 rm) (h : lR r q rm qm) : zRs rm um.2 := by
  obtain ⟨_, ⟨t, p, h2⟩, _⟩ := h
  rw [em]; exact rs_cheapest h2.1.2.1.2.1 h2.le.2 hM.fo
theorem lR.sT {a b : Int32} {um : Int32 × zRr} (em : um = Gm_stricter a b rm qm) (h : lR r q rm qm) : um.2 152 0 = 0 := by
  have h0 := h.z
  obtain ⟨_, ⟨t, p, h2⟩, _⟩ := h
  rw [em]; exact rs_stricter h0 h2.1.2.1.2.1 h2.le.2
/-- a move -/
theorem lR.mv {M : List Nat} {u um : Int32 × zRr} (h : lR r q rm qm) (k : ∀ t p, xHow t p r q rm qm → u.1 = um.1 ∧ xHow t p u.2 q um.2 qm ∧ xK1 r u.2) (fm : zFr M rm um.2) (hM : ([0, 29, 37, 101].all fun k => !M.contains k) = true) : u.1 = um.1 ∧ lR u.2 q um.2 qm := by
  have g : ∀ a, [0, 29, 37, 101].contains a = true → M.contains a = false := fun a ha => by
    have := List.all_eq_true.mp hM a (List.contains_iff_mem.mp ha)
    revert this
    cases M.contains a with
    | false => intro _; rfl
    | true => intro h; cases h
  obtain ⟨h1, ⟨t, p, h2⟩, h3, h4⟩ := h
  obtain ⟨k1, k2, k3⟩ := k t p h2
  exact ⟨k1, (h1.k ⟨k3 196 (by omega) (by omega) (by omega), k3 197 (by omega) (by omega) (by omega)⟩).m (fm 0 (g 0 rfl)) (fm 101 (g 101 rfl)), ⟨t, p, k2⟩, h3.fr (fun k hk => k3 _ (by omega) (by omega) (by omega)) (fm 37 (g 37 rfl)), h4.fr (fun k hk => k3 _ (by omega) (by omega) (by omega)) (fm 29 (g 29 rfl))⟩
theorem lR.go {a b : Int32} {M : List Nat} {u um : Int32 × zRr} (e : u = Gk_go a b r q) (em : um = Gm_go a b rm qm) (h : lR r q rm qm) (fm : zFr M rm um.2) (hM : ([0, 29, 37, 101].all fun k => !M.contains k) = true) : u.1 = um.1 ∧ lR u.2 q um.2 qm :=
  h.mv (fun t p k => by rw [e, em]; exact xGoW k) fm hM
theorem lR.forge {a b : Int32} {M : List Nat} {u um : Int32 × zRr} (e : u = Gk_forge a b r q) (em : um = Gm_forge a b rm qm) (hJ : mJ 20 rm) (h : lR r q rm qm) (fm : zFr M rm um.2) (hM : ([0, 29, 37, 101].all fun k => !M.contains k) = true) : u.1 = um.1 ∧ lR u.2 q um.2 qm :=
  h.mv (fun t p k => by rw [e, em]; exact xFgW k hJ.fo) fm hM
theorem lR.shave {a : Int32} {M : List Nat} {u um : Int32 × zRr} (e : u = Gk_shave a r q) (em : um = Gm_shave a rm qm) (h : lR r q rm qm) (fm : zFr M rm um.2) (hM : ([0, 29, 37, 101].all fun k => !M.contains k) = true) : u.1 = um.1 ∧ lR u.2 q um.2 qm :=
  h.mv (fun t p k => by rw [e, em]; exact xShW k) fm hM
theorem lR.week {M : List Nat} {u um : Int32 × zRr} (e : u = Gk_week r q) (em : um = Gm_week rm qm) (h : lR r q rm qm) (fm : zFr M rm um.2) (hM : ([0, 29, 37, 101].all fun k => !M.contains k) = true) : u.1 = um.1 ∧ lR u.2 q um.2 qm :=
  h.mv (fun t p k => by rw [e, em]; exact xWkW k) fm hM
theorem lR.undo {M : List Nat} {u um : Int32 × zRr} (e : u = Gk_undo r q) (em : um = Gm_undo rm qm) (h : lR r q rm qm) (fm : zFr M rm um.2) (hM : ([0, 29, 37, 101].all fun k => !M.contains k) = true) : u.1 = um.1 ∧ lR u.2 q um.2 qm :=
  h.mv (fun t p k => by rw [e, em]; exact xUnW k) fm hM
theorem lR.land {B : Int} {u um : Int32 × zRr × zRq} (e : u = Gk_land r q) (em : um = Gm_land rm qm) (hM : mJ B rm) (h : lR r q rm qm) (z : u.2.1 196 1 = 0) (zm : um.2.1 101 0 = 0) : u.1 = um.1 ∧ lR u.2.1 u.2.2 um.2.1 um.2.2 := by
  obtain ⟨h1, ⟨t, p, h2⟩, h3, h4⟩ := h
  have hp := h1.p hM
  have k := xLandM (q := q) (qm := qm) hp h3 h4
  refine ⟨by rw [e, em]; exact xLandA hp, lT.z z zm, ?_, ?_⟩
  · rw [e, em]; exact xLandW hp h2
  · rw [e, em]; exact k
theorem xJourF {L t p : Nat} (h : xTp L r rm) (hD : xTd t p r q rm qm) {a : Nat} (h1 : 146 ≤ a) (h2 : a ≠ 196) : (Gk_journey r q).2.1 a = r a := by
  obtain ⟨⟨hk, k⟩, _⟩ := xjourney h hD
  unfold Gk_journey
  generalize Gk_readJ r q = o at hk k ⊢
  obtain ⟨v, r3, q4⟩ := o
  have hk : xJk (xRj r) q r3 q4 := hk
  have e3 : r3 a = r a := by
    rw [hk.1 a ?_]
    · show xs (xs (xs r 142 3 0) 196 3 0) 196 7 0 a = r a
      unfold xs
      rw [zset_ne h2, zset_ne h2, zset_ne (by omega)]
    · cases e : [142, 143, 144, 145, 196].contains a with
      | false => rfl
      | true =>
        have := List.contains_iff_mem.mp e
        simp only [List.mem_cons, List.not_mem_nil, or_false] at this
        omega
  rw [xcvrq (r := r3)]
  simp only [zletQ, zifnQ]
  by_cases hv : v = 0
  · rw [if_pos hv]
    show zset r3 196 (upd (r3 196) 1 0) a = r a
    rw [zset_ne h2]; exact e3
  · rw [if_neg hv]
    show kcp1 (zset r3 196 (upd (r3 196) 1 0)) 138 142 a = r a
    rw [kcp1_o (by omega), zset_ne h2]; exact e3
theorem lR.jour {B : Int} {M : List Nat} {u um : Int32 × zRr × zRq} (e : u = Gk_journey r q) (em : um = Gm_journey rm qm) (hM : mJ B rm) (h : lR r q rm qm) (z : u.2.1 196 1 = 0) (zm : um.2.1 101 0 = 0) (f : zFr M rm um.2.1) (h3 : M.contains 29 = false) (h4 : M.contains 37 = false) : u.1 = um.1 ∧ lR u.2.1 u.2.2 um.2.1 um.2.2 := by
  obtain ⟨g1, ⟨t, p, g2⟩, g3, g4⟩ := h
  have k := xJourW (g1.p hM) g2
  have kf : ∀ a, 146 ≤ a → a ≠ 196 → u.2.1 a = r a := fun a a1 a2 => by rw [e]; exact xJourF (g1.p hM) g2.1 a1 a2
  refine ⟨by rw [e, em]; exact k.1, lT.z z zm, ⟨t, p, by rw [e, em]; exact k.2⟩, g3.fr (fun k hk => kf _ (by omega) (by omega)) (f 37 h4), g4.fr (fun k hk => kf _ (by omega) (by omega)) (f 29 h3)⟩
theorem xMarkF {a b : Int32} {c : Nat} (h1 : 171 ≤ c) (h2 : c ≠ 195) : (Gk_mark a b r q).2 c = r c := by
  by_cases h0 : a < 0
  · unfold Gk_mark; rw [zifQ, if_pos h0]
  by_cases h4 : a < 4
  · obtain ⟨k, hk, ea⟩ : ∃ k, k < 4 ∧ a = nI k := by
      have hz : zI 0 3 a := by
        rw [Int32.lt_iff_toInt_lt] at h0 h4
        have c0 : (0 : Int32).toInt = 0 := by decide
        have c4 : (4 : Int32).toInt = 4 := by decide
        exact ⟨by omega, by omega⟩
      obtain ⟨e1, e2⟩ := hz.ix (n := 4) (by decide)
      exact ⟨_, e2, e1⟩
    subst ea
    rw [xmarkK hk]
    by_cases hb : b = 0
    · rw [if_pos hb]
      show xLay k r c = r c
      unfold xLay
      rw [zset_ne (by omega), zset_ne (by omega), kcp1_o (by omega), kcp8_o (by omega)]
    · rw [if_neg hb]
      by_cases hz : r (167 + k) 3 = 0
      · rw [if_pos hz]
      · rw [if_neg hz]
        show xBack k r q c = r c
        unfold xBack Gk_forgetPast
        simp only [zletQ]
        rw [zset_ne h2, zset_ne h2, zset_ne (by omega), kcp1_o (by omega), kcp8_o (by omega)]
  · unfold Gk_mark
    simp only [zifQ, if_neg h0, if_neg h4]
theorem lR.mark {a b : Int32} {u um : Int32 × zRr} (e : u = Gk_mark a b r q) (em : um = Gm_mark a b rm qm) (h : lR r q rm qm) (f : zFr [100, 37, 25, 26, 27, 28, 29, 30, 31, 32, 151, 35] rm um.2) : u.1 = um.1 ∧ lR u.2 q um.2 qm := by
  obtain ⟨g1, ⟨t, p, g2⟩, g3, g4⟩ := h
  obtain ⟨k1, k2, k3⟩ := xMark (a := a) (b := b) (q := q) (qm := qm) g3 g4
  have kf : ∀ c, 171 ≤ c → c ≠ 195 → u.2 c = r c := fun c c1 c2 => by rw [e]; exact xMarkF c1 c2
  have kw := xMarkW (a := a) (b := b) (q := q) (qm := qm) g3 g4 g2
  rw [← e, ← em] at k1 k2 k3 kw
  exact ⟨k1, (g1.k ⟨kf 196 (by omega) (by omega), kf 197 (by omega) (by omega)⟩).m (f 0 rfl) (f 101 rfl), ⟨t, p, kw ⟨k1, kf⟩ f⟩, k2, k3⟩
theorem lR.see {a b : Int32} {B : Int} {u um : Int32 × zRr} (e : u = Gk_see a b r q) (em : um = Gm_see a b rm qm) (hM : mJ B rm) (h : lR r q rm qm) : u.1 = um.1 ∧ lR u.2 q um.2 qm := by
  obtain ⟨g1, ⟨t, p, g2⟩, g3, g4⟩ := h
  obtain ⟨k1, k2, k3, k4⟩ := xSee (a := a) (b := b) g2.1 g4 (show zI 0 8 (rm 29 0) from hM.i 29 0)
  rw [← e] at k1 k2 k4
  rw [← em] at k1 k3 k4
  have kf : ∀ a, a ≠ 162 → a ≠ 182 → u.2 a = r a := fun a a1 a2 => k2 a (by
    cases e : [162, 182].contains a with
    | false => rfl
    | true =>
      have := List.contains_iff_mem.mp e
      simp only [List.mem_cons, List.not_mem_nil, or_false] at this
      omega)
  refine ⟨k1, (g1.k ⟨kf 196 (by omega) (by omega), kf 197 (by omega) (by omega)⟩).m (k3 0 (by decide)) (k3 101 (by decide)), ⟨t, p, ?_⟩, g3.fr (fun k hk => kf _ (by omega) (by omega)) (k3 37 (by decide)), k4⟩
  exact (xHow.see g2 kf k3)
end LR
theorem lR.q {r r1 : zRr} {q : zRq} {rm rm1 : zRr} {qm : zRq} {M : List Nat} (h : lR r q rm qm) (fk : zFt r r1) (fm : zFr M rm rm1) (k32 : M.contains 32 = false) (k152 : M.contains 152 = false) (hM : ([0, 1, 4, 5, 6, 7, 8, 9, 10, 11, 12, 25, 26, 27, 28, 29, 35, 36, 37, 101, 151].all fun k => !M.contains k) = true) : lR r1 q rm1 qm := h.w fk fm (fun i _ => by rw [fm 32 k32]) (by rw [fm 152 k152]; exact h.z) hM
end
section
/-! ===== the comparisons ===== -/
section LC
variable {r : zRr} {q : zRq} {rm : zRr} {qm : zRq} {a b : Int32}
theorem lR.cRound {u um : Int32 × zRr} (e : u = Gk_round a r q) (em : um = Gm_round a rm qm) (_ : mJ 20 rm) (_ : kJ r) (h : lR r q rm qm) : u.1 = um.1 := by
  obtain ⟨_, ⟨t, p, h2⟩, _⟩ := h
  rw [e, em]; exact xRoundW h2
end LC
end
