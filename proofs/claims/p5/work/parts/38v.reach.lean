/-! ===== whither one can come ===== -/
noncomputable def sSp (Lf : xLT) (p : Nat) (E S : Nat → Nat → Int32) (mo : Int32) (j i u : Nat) : Int32 := if (E 1 i >>> (nI u &&& 31)) &&& 1 = 0 then 0 else sLe Lf p E S mo (nI i) j u
noncomputable def sT (Lf : xLT) (t p : Nat) (E S : Nat → Nat → Int32) (mo : Int32) (j i : Nat) : Nat := yN (sSp Lf p E S mo j i) t
theorem sT_lt {Lf : xLT} {t p : Nat} {E S : Nat → Nat → Int32} {mo : Int32} {j : Nat} : ∀ i, sT Lf t p E S mo j i < 2 ^ t := fun _ => yN_lt t
/-- roads are within six towns -/
def xRd (t : Nat) (E : Nat → Nat → Int32) : Prop := ∀ i, i < t → ∃ m, m < 2 ^ t ∧ E 1 i = nI m
theorem yN_eq {f g : Nat → Int32} : ∀ n, (∀ u, u < n → (f u = 0 ↔ g u = 0)) → yN f n = yN g n := by
  intro n
  induction n with
  | zero => intro _; rfl
  | succ n ih =>
    intro h
    rw [yN_s, yN_s, ih (fun u hu => h u (by omega))]
    by_cases c : f n = 0
    · rw [if_pos c, if_pos ((h n (by omega)).mp c)]
    · rw [if_neg c, if_neg (fun d => c ((h n (by omega)).mpr d))]
theorem yN_0 {f : Nat → Int32} {n : Nat} : yN f (n + 1) = 0 ↔ (yN f n = 0 ∧ f n = 0) := by
  rw [yN_s]
  by_cases c : f n = 0
  · rw [if_pos c]; exact ⟨fun h => ⟨h, c⟩, fun h => h.1⟩
  · rw [if_neg c]
    refine ⟨fun h => ?_, fun h => absurd h.2 c⟩
    have := Nat.testBit_or (yN f n) (2 ^ n) n
    rw [h, Nat.zero_testBit, Nat.testBit_two_pow_self, Bool.or_true] at this
    cases this
theorem nI0 {m : Nat} (h : m < 64) : nI m = 0 ↔ m = 0 := by
  have := nI_eq (a := m) (b := 0) (by omega) (by omega)
  rw [nI_0] at this
  exact this
theorem yB_0 {f : Nat → Int32} {n : Nat} (h : n < 6) : yB f (n + 1) = 0 ↔ (yB f n = 0 ∧ f n = 0) := by
  rw [yB_N (n + 1) (by omega), yB_N n (by omega), nI0 (p64 (t := n + 1) (by omega) (yN_lt _)), nI0 (p64 (t := n) (by omega) (yN_lt _))]
  exact yN_0
/-- a road's bits, and guards' -/
theorem yAnd {f g : Nat → Int32} {m t : Nat} (hm : m < 64) (ht : t ≤ 6) (h : ∀ u, u < t → (g u = 0 ↔ ((nI m >>> (nI u &&& 31)) &&& 1 = 0 ∨ f u = 0))) : m &&& yN f t = yN g t := by
  refine Nat.eq_of_testBit_eq (fun u => ?_)
  rw [Nat.testBit_and]
  have hf := yN_bit (f := f) (i := u) t
  have hg := yN_bit (f := g) (i := u) t
  cases a : (yN g t).testBit u with
  | true =>
    obtain ⟨a1, a2⟩ := hg.mp a
    have hu := h u a1
    have b1 : m.testBit u = true := by
      cases b : m.testBit u with
      | true => rfl
      | false => exact absurd (hu.mpr (Or.inl ((nBit0 hm (by omega)).mpr (by rw [b]; decide)))) a2
    rw [b1, hf.mpr ⟨a1, fun c => a2 (hu.mpr (Or.inr c))⟩]; rfl
  | false =>
    cases b : m.testBit u with
    | false => rfl
    | true =>
      cases c : (yN f t).testBit u with
      | false => rfl
      | true =>
        exfalso
        obtain ⟨c1, c2⟩ := hf.mp c
        have : (yN g t).testBit u = true := hg.mpr ⟨c1, fun d => by
          rcases (h u c1).mp d with e | e
          · exact (nBit0 hm (by omega)).mp e b
          · exact c2 e⟩
        rw [this] at a; cases a
theorem yOr {f g k : Nat → Int32} {t : Nat} (h : ∀ u, u < t → (k u = 0 ↔ (f u = 0 ∧ g u = 0))) : yN f t ||| yN g t = yN k t := by
  refine Nat.eq_of_testBit_eq (fun u => ?_)
  rw [Nat.testBit_or]
  have hf := yN_bit (f := f) (i := u) t
  have hg := yN_bit (f := g) (i := u) t
  have hk := yN_bit (f := k) (i := u) t
  cases a : (yN f t).testBit u with
  | true =>
    obtain ⟨a1, a2⟩ := hf.mp a
    rw [hk.mpr ⟨a1, fun c => a2 ((h u a1).mp c).1⟩]; rfl
  | false =>
    cases b : (yN g t).testBit u with
    | true =>
      obtain ⟨b1, b2⟩ := hg.mp b
      rw [hk.mpr ⟨b1, fun c => b2 ((h u b1).mp c).2⟩]; rfl
    | false =>
      cases c : (yN k t).testBit u with
      | false => rfl
      | true =>
        exfalso
        obtain ⟨c1, c2⟩ := hk.mp c
        refine c2 ((h u c1).mpr ⟨?_, ?_⟩)
        · by_cases d : f u = 0
          · exact d
          · rw [hf.mpr ⟨c1, d⟩] at a; cases a
        · by_cases d : g u = 0
          · exact d
          · rw [hg.mpr ⟨c1, d⟩] at b; cases b
section XWD
variable {t : Nat} {r : zRr} {q : zRq} {T : Nat → Nat}
theorem kWid {x : Nat} (h9 : r 171 9 = nI t) (ht : t ≤ 6) (h2 : ∀ i, i < t → r 202 i = nI (T i)) (hT : ∀ i, T i < 2 ^ t) (hx : x < 2 ^ t) : Gk_widen (nI x) r q = nI (yF T x t) := by
  have k : ∀ n i, i ≤ t → t < n + i → Gk_widen_4 (nI x) r n (nI (yF T x i)) (nI i) = nI (yF T x t) := by
    intro n
    induction n with
    | zero => intro i h1 h2; omega
    | succ n ih =>
      intro i h1 h3
      have e0 : Gk_widen_4 (nI x) r (n + 1) (nI (yF T x i)) (nI i) = Bk_widen_4 (nI x) r (Gk_widen_4 (nI x) r n) (nI (yF T x i)) (nI i) := rfl
      rw [e0]
      unfold Bk_widen_4 Gk_widen_32
      simp only [zletQ, zifQ, h9, nI_1, xzn (show i < 2 ^ 31 by omega), xh0]
      by_cases e : i = t
      · subst e; rw [if_pos (nI_leP (by omega) (by omega) (by omega))]
      · rw [if_neg (nI_leN (by omega) (by omega) (by omega))]
        have hb := nBit0 (m := x) (i := i) (p64 ht hx) (by omega)
        have hs := yF_s (T := T) (x := x) (n := i)
        by_cases c : x.testBit i = true
        · rw [if_neg (fun h => hb.mp h c), h2 i (by omega), nOr (p64 ht (yF_lt hT hx i)) (p64 ht (hT i))]
          rw [if_pos c] at hs
          rw [← hs]
          exact ih (i + 1) (by omega) (by omega)
        · rw [if_pos (hb.mpr c)]
          rw [if_neg c] at hs
          rw [← hs]
          exact ih (i + 1) (by omega) (by omega)
  unfold Gk_widen
  exact k 7 0 (by omega) (by omega)
theorem kSpd {x : Nat} (h9 : r 171 9 = nI t) (ht : t ≤ 6) (h2 : ∀ i, i < t → r 202 i = nI (T i)) (hT : ∀ i, T i < 2 ^ t) (hx : x < 2 ^ t) : Gk_spread (nI x) r q = nI (yI T t (t - 1) x) := by
  have k : ∀ n i x, x < 2 ^ t → 1 ≤ n → t < n + i → i ≤ 7 → Gk_spread_4 r q n (nI x) (nI i) = nI (yI T t (t - i) x) := by
    intro n
    induction n with
    | zero => intro i x hx h1; omega
    | succ n ih =>
      intro i x hx h1 h3 h4
      have e0 : Gk_spread_4 r q (n + 1) (nI x) (nI i) = Bk_spread_4 r q (Gk_spread_4 r q n) (nI x) (nI i) := rfl
      rw [e0]
      unfold Bk_spread_4
      simp only [zletQ, zifQ, h9, nI_1]
      by_cases e : t ≤ i
      · rw [if_pos (nI_leP e (by omega) (by omega)), show t - i = 0 by omega]; rfl
      · rw [if_neg (nI_leN e (by omega) (by omega)), kWid h9 ht h2 hT hx, show t - i = t - (i + 1) + 1 by omega, yI_s]
        exact ih (i + 1) _ (yF_lt hT hx t) (by omega) (by omega) (by omega)
  unfold Gk_spread
  exact k 6 1 x hx (by omega) (by omega) (by omega)
end XWD
section XLYA
variable {Lf : xLT} {t p : Nat} {E S : Nat → Nat → Int32} {r : zRr} {q : zRq}
theorem kLayA (hE : xCe Lf t p E r) (hS : xCs t p 0 S r) (hR : xRd t E) {mo : Int32} {j : Nat} (hj : j < p) : zFr [182, 202] r (Gk_layA (nI j) mo r q) ∧ ∀ i, i < t → Gk_layA (nI j) mo r q 202 i = nI (sT Lf t p E S mo j i) := by
  have ht : t ≤ 6 := hE.2.1.1
  have hp : p ≤ 6 := hE.2.1.2
  have f0 : zFr [182, 202] r (zset r 202 (zfl (r 202) 0 6)) := zFr.refl.set rfl
  have z0 : ∀ i, i < t → zset r 202 (zfl (r 202) 0 6) 202 i = 0 := fun i hi => by
    rw [zset_eq]; exact if_pos (by omega)
  have k5 : zset r 202 (zfl (r 202) 0 6) 175 j = E 2 j := by rw [zset_ne (by decide)]; exact hE.2.2.2.1 j hj
  unfold Gk_layA
  simp only [zletQ, zifQ, xzn (show j < 2 ^ 31 by omega), k5]
  generalize zset r 202 (zfl (r 202) 0 6) = r26 at f0 z0 ⊢
  by_cases h1 : E 2 j = 1
  · rw [if_pos h1]
    have k := xLpS (p := p) (G := Gk_layA_78 mo q) (I := fun k r1 => zFr [182, 202] r r1 ∧ ∀ i, i < t → r1 202 i = nI (yN (fun u => if (E 1 i >>> (nI u &&& 31)) &&& 1 = 0 then 0 else yB (sVo Lf E S mo (nI i) u) k) t)) (Q := fun r1 => zFr [182, 202] r r1 ∧ ∀ i, i < t → r1 202 i = nI (sT Lf t p E S mo j i)) (by
      intro n k r2 hk ⟨f2, c2⟩
      have e0 : Gk_layA_78 mo q (n + 1) (nI k) r2 = Bk_layA_78 mo q (Gk_layA_78 mo q n) (nI k) r2 := rfl
      have hE2 := hE.fr f2 (by decide)
      have hS2 := hS.sA f2 rfl rfl rfl rfl rfl rfl
      have g5 := hE2.2.2.2.1 k hk
      have g7 : r2 1 k = S 1 k := (hS2.2 k hk).2.1
      obtain ⟨a, ha, ea⟩ := (hS2.2 k hk).1
      rw [e0]
      unfold Bk_layA_78 Gk_layA_145
      simp only [zletQ, zifQ, hE2.1.2.1, nI_1, xzn (show k < 2 ^ 31 by omega), g5, g7, ea, xzn (show a < 2 ^ 31 by omega)]
      rw [if_neg (nI_leN (by omega) (by omega) (by omega))]
      by_cases hk1 : E 2 k = 1
      · rw [if_pos hk1]
        refine ⟨r2, ⟨f2, fun i hi => ?_⟩, rfl⟩
        rw [c2 i hi]
        refine congrArg nI (yN_eq t (fun u _ => ?_))
        have e1 : yB (sVo Lf E S mo (nI i) u) (k + 1) = yB (sVo Lf E S mo (nI i) u) k := by
          rw [yB_s, if_pos (show sVo Lf E S mo (nI i) u k = 0 from if_pos hk1)]
        rw [e1]
      · rw [if_neg hk1]
        obtain ⟨r3, f3, e3⟩ := kOpA (q := q) hE2 hS2 (mo := mo) hk
        rw [e3, xcvr (r := r3)]
        have f4 : zFr [182, 202] r r3 := f2.tr f3 (by decide)
        refine ⟨zset r3 202 (upd (r3 202) a (r2 202 a ||| r2 173 a &&& yB (fun i => sAl Lf E S mo k i) t)), ⟨f4.set rfl, fun i hi => ?_⟩, rfl⟩
        rw [zset_eq, f3 202 rfl]
        by_cases e : i = a
        · subst e
          obtain ⟨m, hm0, em⟩ := hR i hi
          have hm := p64 ht hm0
          have er : r2 173 i = nI m := by rw [(hE2.2.2.1 i hi).2]; exact em
          rw [pk_us, c2 i hi, er, yB_N t ht, nAnd hm (p64 ht (yN_lt t)), yAnd (g := fun u => if (E 1 i >>> (nI u &&& 31)) &&& 1 = 0 then 0 else sAl Lf E S mo k u) hm ht (fun u _ => by
            show (if (E 1 i >>> (nI u &&& 31)) &&& 1 = 0 then 0 else sAl Lf E S mo k u) = 0 ↔ _
            rw [em]
            by_cases c : (nI m >>> (nI u &&& 31)) &&& 1 = 0
            · rw [if_pos c]; exact ⟨fun _ => Or.inl c, fun _ => rfl⟩
            · rw [if_neg c]; exact ⟨fun h => Or.inr h, fun h => h.resolve_left c⟩), nOr (p64 ht (yN_lt t)) (p64 ht (yN_lt t))]
          refine congrArg nI (yOr (fun u _ => ?_))
          by_cases c : (E 1 i >>> (nI u &&& 31)) &&& 1 = 0
          · rw [if_pos c, if_pos c, if_pos c]; exact ⟨fun _ => ⟨rfl, rfl⟩, fun _ => rfl⟩
          · rw [if_neg c, if_neg c, if_neg c, yB_0 (by omega)]
            have e1 : sVo Lf E S mo (nI i) u k = sAl Lf E S mo k u := by
              show (if E 2 k = 1 then 0 else if S 1 k = nI i then sAl Lf E S mo k u else 0) = _
              rw [if_neg hk1, if_pos ea]
            rw [e1]
        · rw [pk_un e, c2 i hi]
          refine congrArg nI (yN_eq t (fun u _ => ?_))
          have e1 : sVo Lf E S mo (nI i) u k = 0 := by
            show (if E 2 k = 1 then 0 else if S 1 k = nI i then sAl Lf E S mo k u else 0) = _
            rw [if_neg hk1, if_neg (fun h => e ((nI_eq (by omega) (by omega)).mp (h.symm.trans ea)))]
          rw [yB_s, if_pos e1]) (by
      intro n r2 ⟨f2, c2⟩
      have e0 : Gk_layA_78 mo q (n + 1) (nI p) r2 = Bk_layA_78 mo q (Gk_layA_78 mo q n) (nI p) r2 := rfl
      have hE2 := hE.fr f2 (by decide)
      rw [e0]
      unfold Bk_layA_78
      simp only [zletQ, zifQ, hE2.1.2.1]
      rw [if_pos (nI_leP (by omega) (by omega) (by omega))]
      refine ⟨f2, fun i hi => ?_⟩
      rw [c2 i hi]
      refine congrArg nI (yN_eq t (fun u _ => ?_))
      show (if (E 1 i >>> (nI u &&& 31)) &&& 1 = 0 then 0 else yB (sVo Lf E S mo (nI i) u) p) = 0 ↔ (if (E 1 i >>> (nI u &&& 31)) &&& 1 = 0 then 0 else sLe Lf p E S mo (nI i) j u) = 0
      have e1 : sLe Lf p E S mo (nI i) j u = if yB (sVo Lf E S mo (nI i) u) p = 0 then 0 else 1 := if_pos h1
      by_cases c : (E 1 i >>> (nI u &&& 31)) &&& 1 = 0
      · rw [if_pos c, if_pos c]
      · rw [if_neg c, if_neg c, e1]
        by_cases d : yB (sVo Lf E S mo (nI i) u) p = 0
        · rw [if_pos d]; exact ⟨fun _ => rfl, fun _ => d⟩
        · rw [if_neg d]; exact ⟨fun h => absurd h d, fun h => absurd h (by decide)⟩) 7 0 r26 (by omega) (by omega) ⟨f0, fun i hi => ?_⟩
    · exact k
    · rw [z0 i hi]
      have : yN (fun u => if (E 1 i >>> (nI u &&& 31)) &&& 1 = 0 then 0 else yB (sVo Lf E S mo (nI i) u) 0) t = yN (fun _ => 0) t := yN_eq t (fun u _ => by
        show (if (E 1 i >>> (nI u &&& 31)) &&& 1 = 0 then (0 : Int32) else 0) = 0 ↔ (0 : Int32) = 0
        rw [ite_self])
      rw [this]
      have z : ∀ n, yN (fun _ => 0) n = 0 := by
        intro n
        induction n with
        | zero => rfl
        | succ n ih => rw [yN_s, if_pos rfl]; exact ih
      rw [z]; rfl
  · rw [if_neg h1]
    have hE2 := hE.fr f0 (by decide)
    have hS2 := hS.sA f0 rfl rfl rfl rfl rfl rfl
    obtain ⟨r3, f3, e3⟩ := kOpA (q := q) hE2 hS2 (mo := mo) hj
    rw [e3, xcvr (r := r3)]
    have f4 : zFr [182, 202] r r3 := f0.tr f3 (by decide)
    exact xLpS (p := t) (G := fun n i r => Gk_layA_36 n (yB (fun i => sAl Lf E S mo j i) t) i r) (I := fun k r1 => zFr [182, 202] r r1 ∧ ∀ i, i < k → r1 202 i = nI (sT Lf t p E S mo j i)) (Q := fun r1 => zFr [182, 202] r r1 ∧ ∀ i, i < t → r1 202 i = nI (sT Lf t p E S mo j i)) (by
      intro n k r2 hk ⟨f2, c2⟩
      have e0 : Gk_layA_36 (n + 1) (yB (fun i => sAl Lf E S mo j i) t) (nI k) r2 = Bk_layA_36 (Gk_layA_36 n) (yB (fun i => sAl Lf E S mo j i) t) (nI k) r2 := rfl
      have hE3 := hE.fr f2 (by decide)
      obtain ⟨m, hm0, em⟩ := hR k hk
      have hm := p64 ht hm0
      have er : r2 173 k = nI m := by rw [(hE3.2.2.1 k hk).2]; exact em
      show ∃ r1, _ ∧ Gk_layA_36 (n + 1) (yB (fun i => sAl Lf E S mo j i) t) (nI k) r2 = Gk_layA_36 n (yB (fun i => sAl Lf E S mo j i) t) (nI (k + 1)) r1
      rw [e0]
      unfold Bk_layA_36
      simp only [zletQ, zifQ, hE3.1.1, nI_1, xzn (show k < 2 ^ 31 by omega)]
      rw [if_neg (nI_leN (by omega) (by omega) (by omega))]
      refine ⟨_, ⟨f2.set rfl, fun i hi => ?_⟩, rfl⟩
      rw [zset_eq]
      by_cases e : i = k
      · subst e
        rw [pk_us, er, yB_N t ht, nAnd hm (p64 ht (yN_lt t))]
        refine congrArg nI (yAnd hm ht (fun u _ => ?_))
        show (if (E 1 i >>> (nI u &&& 31)) &&& 1 = 0 then 0 else sLe Lf p E S mo (nI i) j u) = 0 ↔ _
        have e1 : sLe Lf p E S mo (nI i) j u = sAl Lf E S mo j u := if_neg h1
        rw [em, e1]
        by_cases c : (nI m >>> (nI u &&& 31)) &&& 1 = 0
        · rw [if_pos c]; exact ⟨fun _ => Or.inl c, fun _ => rfl⟩
        · rw [if_neg c]; exact ⟨fun h => Or.inr h, fun h => h.resolve_left c⟩
      · rw [pk_un e]; exact c2 i (by omega)) (by
      intro n r2 ⟨f2, c2⟩
      have e0 : Gk_layA_36 (n + 1) (yB (fun i => sAl Lf E S mo j i) t) (nI t) r2 = Bk_layA_36 (Gk_layA_36 n) (yB (fun i => sAl Lf E S mo j i) t) (nI t) r2 := rfl
      have hE3 := hE.fr f2 (by decide)
      show zFr [182, 202] r (Gk_layA_36 (n + 1) (yB (fun i => sAl Lf E S mo j i) t) (nI t) r2) ∧ ∀ i, i < t → Gk_layA_36 (n + 1) (yB (fun i => sAl Lf E S mo j i) t) (nI t) r2 202 i = nI (sT Lf t p E S mo j i)
      rw [e0]
      unfold Bk_layA_36
      simp only [zletQ, zifQ, hE3.1.1]
      rw [if_pos (nI_leP (by omega) (by omega) (by omega))]
      exact ⟨f2, c2⟩) 7 0 r3 (by omega) (by omega) ⟨f4, fun i hi => absurd hi (by omega)⟩
end XLYA
section XLYN
variable {Lf : xLT} {t p : Nat} {E S : Nat → Nat → Int32} {r : zRr} {q : zRq}
theorem kLayN (hE : xCe Lf t p E r) (hS : xCs t p 6 S r) (hR : xRd t E) {mo : Int32} {j : Nat} (hj : j < p) : zFr [182, 202] r (Gk_layN (nI j) mo r q) ∧ ∀ i, i < t → Gk_layN (nI j) mo r q 202 i = nI (sT Lf t p E S mo j i) := by
  have ht : t ≤ 6 := hE.2.1.1
  have hp : p ≤ 6 := hE.2.1.2
  have f0 : zFr [182, 202] r (zset r 202 (zfl (r 202) 0 6)) := zFr.refl.set rfl
  have z0 : ∀ i, i < t → zset r 202 (zfl (r 202) 0 6) 202 i = 0 := fun i hi => by
    rw [zset_eq]; exact if_pos (by omega)
  have k5 : zset r 202 (zfl (r 202) 0 6) 175 j = E 2 j := by rw [zset_ne (by decide)]; exact hE.2.2.2.1 j hj
  unfold Gk_layN
  simp only [zletQ, zifQ, xzn (show j < 2 ^ 31 by omega), k5]
  generalize zset r 202 (zfl (r 202) 0 6) = r26 at f0 z0 ⊢
  by_cases h1 : E 2 j = 1
  · rw [if_pos h1]
    have k := xLpS (p := p) (G := Gk_layN_78 mo q) (I := fun k r1 => zFr [182, 202] r r1 ∧ ∀ i, i < t → r1 202 i = nI (yN (fun u => if (E 1 i >>> (nI u &&& 31)) &&& 1 = 0 then 0 else yB (sVo Lf E S mo (nI i) u) k) t)) (Q := fun r1 => zFr [182, 202] r r1 ∧ ∀ i, i < t → r1 202 i = nI (sT Lf t p E S mo j i)) (by
      intro n k r2 hk ⟨f2, c2⟩
      have e0 : Gk_layN_78 mo q (n + 1) (nI k) r2 = Bk_layN_78 mo q (Gk_layN_78 mo q n) (nI k) r2 := rfl
      have hE2 := hE.fr f2 (by decide)
      have hS2 := hS.sN f2 rfl rfl rfl rfl rfl rfl
      have g5 := hE2.2.2.2.1 k hk
      have g7 : r2 7 k = S 1 k := (hS2.2 k hk).2.1
      obtain ⟨a, ha, ea⟩ := (hS2.2 k hk).1
      rw [e0]
      unfold Bk_layN_78 Gk_layN_145
      simp only [zletQ, zifQ, hE2.1.2.1, nI_1, xzn (show k < 2 ^ 31 by omega), g5, g7, ea, xzn (show a < 2 ^ 31 by omega)]
      rw [if_neg (nI_leN (by omega) (by omega) (by omega))]
      by_cases hk1 : E 2 k = 1
      · rw [if_pos hk1]
        refine ⟨r2, ⟨f2, fun i hi => ?_⟩, rfl⟩
        rw [c2 i hi]
        refine congrArg nI (yN_eq t (fun u _ => ?_))
        have e1 : yB (sVo Lf E S mo (nI i) u) (k + 1) = yB (sVo Lf E S mo (nI i) u) k := by
          rw [yB_s, if_pos (show sVo Lf E S mo (nI i) u k = 0 from if_pos hk1)]
        rw [e1]
      · rw [if_neg hk1]
        obtain ⟨r3, f3, e3⟩ := kOpN (q := q) hE2 hS2 (mo := mo) hk
        rw [e3, xcvr (r := r3)]
        have f4 : zFr [182, 202] r r3 := f2.tr f3 (by decide)
        refine ⟨zset r3 202 (upd (r3 202) a (r2 202 a ||| r2 173 a &&& yB (fun i => sAl Lf E S mo k i) t)), ⟨f4.set rfl, fun i hi => ?_⟩, rfl⟩
        rw [zset_eq, f3 202 rfl]
        by_cases e : i = a
        · subst e
          obtain ⟨m, hm0, em⟩ := hR i hi
          have hm := p64 ht hm0
          have er : r2 173 i = nI m := by rw [(hE2.2.2.1 i hi).2]; exact em
          rw [pk_us, c2 i hi, er, yB_N t ht, nAnd hm (p64 ht (yN_lt t)), yAnd (g := fun u => if (E 1 i >>> (nI u &&& 31)) &&& 1 = 0 then 0 else sAl Lf E S mo k u) hm ht (fun u _ => by
            show (if (E 1 i >>> (nI u &&& 31)) &&& 1 = 0 then 0 else sAl Lf E S mo k u) = 0 ↔ _
            rw [em]
            by_cases c : (nI m >>> (nI u &&& 31)) &&& 1 = 0
            · rw [if_pos c]; exact ⟨fun _ => Or.inl c, fun _ => rfl⟩
            · rw [if_neg c]; exact ⟨fun h => Or.inr h, fun h => h.resolve_left c⟩), nOr (p64 ht (yN_lt t)) (p64 ht (yN_lt t))]
          refine congrArg nI (yOr (fun u _ => ?_))
          by_cases c : (E 1 i >>> (nI u &&& 31)) &&& 1 = 0
          · rw [if_pos c, if_pos c, if_pos c]; exact ⟨fun _ => ⟨rfl, rfl⟩, fun _ => rfl⟩
          · rw [if_neg c, if_neg c, if_neg c, yB_0 (by omega)]
            have e1 : sVo Lf E S mo (nI i) u k = sAl Lf E S mo k u := by
              show (if E 2 k = 1 then 0 else if S 1 k = nI i then sAl Lf E S mo k u else 0) = _
              rw [if_neg hk1, if_pos ea]
            rw [e1]
        · rw [pk_un e, c2 i hi]
          refine congrArg nI (yN_eq t (fun u _ => ?_))
          have e1 : sVo Lf E S mo (nI i) u k = 0 := by
            show (if E 2 k = 1 then 0 else if S 1 k = nI i then sAl Lf E S mo k u else 0) = _
            rw [if_neg hk1, if_neg (fun h => e ((nI_eq (by omega) (by omega)).mp (h.symm.trans ea)))]
          rw [yB_s, if_pos e1]) (by
      intro n r2 ⟨f2, c2⟩
      have e0 : Gk_layN_78 mo q (n + 1) (nI p) r2 = Bk_layN_78 mo q (Gk_layN_78 mo q n) (nI p) r2 := rfl
      have hE2 := hE.fr f2 (by decide)
      rw [e0]
      unfold Bk_layN_78
      simp only [zletQ, zifQ, hE2.1.2.1]
      rw [if_pos (nI_leP (by omega) (by omega) (by omega))]
      refine ⟨f2, fun i hi => ?_⟩
      rw [c2 i hi]
      refine congrArg nI (yN_eq t (fun u _ => ?_))
      show (if (E 1 i >>> (nI u &&& 31)) &&& 1 = 0 then 0 else yB (sVo Lf E S mo (nI i) u) p) = 0 ↔ (if (E 1 i >>> (nI u &&& 31)) &&& 1 = 0 then 0 else sLe Lf p E S mo (nI i) j u) = 0
      have e1 : sLe Lf p E S mo (nI i) j u = if yB (sVo Lf E S mo (nI i) u) p = 0 then 0 else 1 := if_pos h1
      by_cases c : (E 1 i >>> (nI u &&& 31)) &&& 1 = 0
      · rw [if_pos c, if_pos c]
      · rw [if_neg c, if_neg c, e1]
        by_cases d : yB (sVo Lf E S mo (nI i) u) p = 0
        · rw [if_pos d]; exact ⟨fun _ => rfl, fun _ => d⟩
        · rw [if_neg d]; exact ⟨fun h => absurd h d, fun h => absurd h (by decide)⟩) 7 0 r26 (by omega) (by omega) ⟨f0, fun i hi => ?_⟩
    · exact k
    · rw [z0 i hi]
      have : yN (fun u => if (E 1 i >>> (nI u &&& 31)) &&& 1 = 0 then 0 else yB (sVo Lf E S mo (nI i) u) 0) t = yN (fun _ => 0) t := yN_eq t (fun u _ => by
        show (if (E 1 i >>> (nI u &&& 31)) &&& 1 = 0 then (0 : Int32) else 0) = 0 ↔ (0 : Int32) = 0
        rw [ite_self])
      rw [this]
      have z : ∀ n, yN (fun _ => 0) n = 0 := by
        intro n
        induction n with
        | zero => rfl
        | succ n ih => rw [yN_s, if_pos rfl]; exact ih
      rw [z]; rfl
  · rw [if_neg h1]
    have hE2 := hE.fr f0 (by decide)
    have hS2 := hS.sN f0 rfl rfl rfl rfl rfl rfl
    obtain ⟨r3, f3, e3⟩ := kOpN (q := q) hE2 hS2 (mo := mo) hj
    rw [e3, xcvr (r := r3)]
    have f4 : zFr [182, 202] r r3 := f0.tr f3 (by decide)
    exact xLpS (p := t) (G := fun n i r => Gk_layN_36 n (yB (fun i => sAl Lf E S mo j i) t) i r) (I := fun k r1 => zFr [182, 202] r r1 ∧ ∀ i, i < k → r1 202 i = nI (sT Lf t p E S mo j i)) (Q := fun r1 => zFr [182, 202] r r1 ∧ ∀ i, i < t → r1 202 i = nI (sT Lf t p E S mo j i)) (by
      intro n k r2 hk ⟨f2, c2⟩
      have e0 : Gk_layN_36 (n + 1) (yB (fun i => sAl Lf E S mo j i) t) (nI k) r2 = Bk_layN_36 (Gk_layN_36 n) (yB (fun i => sAl Lf E S mo j i) t) (nI k) r2 := rfl
      have hE3 := hE.fr f2 (by decide)
      obtain ⟨m, hm0, em⟩ := hR k hk
      have hm := p64 ht hm0
      have er : r2 173 k = nI m := by rw [(hE3.2.2.1 k hk).2]; exact em
      show ∃ r1, _ ∧ Gk_layN_36 (n + 1) (yB (fun i => sAl Lf E S mo j i) t) (nI k) r2 = Gk_layN_36 n (yB (fun i => sAl Lf E S mo j i) t) (nI (k + 1)) r1
      rw [e0]
      unfold Bk_layN_36
      simp only [zletQ, zifQ, hE3.1.1, nI_1, xzn (show k < 2 ^ 31 by omega)]
      rw [if_neg (nI_leN (by omega) (by omega) (by omega))]
      refine ⟨_, ⟨f2.set rfl, fun i hi => ?_⟩, rfl⟩
      rw [zset_eq]
      by_cases e : i = k
      · subst e
        rw [pk_us, er, yB_N t ht, nAnd hm (p64 ht (yN_lt t))]
        refine congrArg nI (yAnd hm ht (fun u _ => ?_))
        show (if (E 1 i >>> (nI u &&& 31)) &&& 1 = 0 then 0 else sLe Lf p E S mo (nI i) j u) = 0 ↔ _
        have e1 : sLe Lf p E S mo (nI i) j u = sAl Lf E S mo j u := if_neg h1
        rw [em, e1]
        by_cases c : (nI m >>> (nI u &&& 31)) &&& 1 = 0
        · rw [if_pos c]; exact ⟨fun _ => Or.inl c, fun _ => rfl⟩
        · rw [if_neg c]; exact ⟨fun h => Or.inr h, fun h => h.resolve_left c⟩
      · rw [pk_un e]; exact c2 i (by omega)) (by
      intro n r2 ⟨f2, c2⟩
      have e0 : Gk_layN_36 (n + 1) (yB (fun i => sAl Lf E S mo j i) t) (nI t) r2 = Bk_layN_36 (Gk_layN_36 n) (yB (fun i => sAl Lf E S mo j i) t) (nI t) r2 := rfl
      have hE3 := hE.fr f2 (by decide)
      show zFr [182, 202] r (Gk_layN_36 (n + 1) (yB (fun i => sAl Lf E S mo j i) t) (nI t) r2) ∧ ∀ i, i < t → Gk_layN_36 (n + 1) (yB (fun i => sAl Lf E S mo j i) t) (nI t) r2 202 i = nI (sT Lf t p E S mo j i)
      rw [e0]
      unfold Bk_layN_36
      simp only [zletQ, zifQ, hE3.1.1]
      rw [if_pos (nI_leP (by omega) (by omega) (by omega))]
      exact ⟨f2, c2⟩) 7 0 r3 (by omega) (by omega) ⟨f4, fun i hi => absurd hi (by omega)⟩
end XLYN
section XLYT
variable {Lf : xLT} {t p : Nat} {E S : Nat → Nat → Int32} {r : zRr} {q : zRq}
theorem kLayT (hE : xCe Lf t p E r) (hS : xCs t p 12 S r) (hR : xRd t E) {mo : Int32} {j : Nat} (hj : j < p) : zFr [182, 202] r (Gk_layT (nI j) mo r q) ∧ ∀ i, i < t → Gk_layT (nI j) mo r q 202 i = nI (sT Lf t p E S mo j i) := by
  have ht : t ≤ 6 := hE.2.1.1
  have hp : p ≤ 6 := hE.2.1.2
  have f0 : zFr [182, 202] r (zset r 202 (zfl (r 202) 0 6)) := zFr.refl.set rfl
  have z0 : ∀ i, i < t → zset r 202 (zfl (r 202) 0 6) 202 i = 0 := fun i hi => by
    rw [zset_eq]; exact if_pos (by omega)
  have k5 : zset r 202 (zfl (r 202) 0 6) 175 j = E 2 j := by rw [zset_ne (by decide)]; exact hE.2.2.2.1 j hj
  unfold Gk_layT
  simp only [zletQ, zifQ, xzn (show j < 2 ^ 31 by omega), k5]
  generalize zset r 202 (zfl (r 202) 0 6) = r26 at f0 z0 ⊢
  by_cases h1 : E 2 j = 1
  · rw [if_pos h1]
    have k := xLpS (p := p) (G := Gk_layT_78 mo q) (I := fun k r1 => zFr [182, 202] r r1 ∧ ∀ i, i < t → r1 202 i = nI (yN (fun u => if (E 1 i >>> (nI u &&& 31)) &&& 1 = 0 then 0 else yB (sVo Lf E S mo (nI i) u) k) t)) (Q := fun r1 => zFr [182, 202] r r1 ∧ ∀ i, i < t → r1 202 i = nI (sT Lf t p E S mo j i)) (by
      intro n k r2 hk ⟨f2, c2⟩
      have e0 : Gk_layT_78 mo q (n + 1) (nI k) r2 = Bk_layT_78 mo q (Gk_layT_78 mo q n) (nI k) r2 := rfl
      have hE2 := hE.fr f2 (by decide)
      have hS2 := hS.sT f2 rfl rfl rfl rfl rfl rfl
      have g5 := hE2.2.2.2.1 k hk
      have g7 : r2 13 k = S 1 k := (hS2.2 k hk).2.1
      obtain ⟨a, ha, ea⟩ := (hS2.2 k hk).1
      rw [e0]
      unfold Bk_layT_78 Gk_layT_145
      simp only [zletQ, zifQ, hE2.1.2.1, nI_1, xzn (show k < 2 ^ 31 by omega), g5, g7, ea, xzn (show a < 2 ^ 31 by omega)]
      rw [if_neg (nI_leN (by omega) (by omega) (by omega))]
      by_cases hk1 : E 2 k = 1
      · rw [if_pos hk1]
        refine ⟨r2, ⟨f2, fun i hi => ?_⟩, rfl⟩
        rw [c2 i hi]
        refine congrArg nI (yN_eq t (fun u _ => ?_))
        have e1 : yB (sVo Lf E S mo (nI i) u) (k + 1) = yB (sVo Lf E S mo (nI i) u) k := by
          rw [yB_s, if_pos (show sVo Lf E S mo (nI i) u k = 0 from if_pos hk1)]
        rw [e1]
      · rw [if_neg hk1]
        obtain ⟨r3, f3, e3⟩ := kOpT (q := q) hE2 hS2 (mo := mo) hk
        rw [e3, xcvr (r := r3)]
        have f4 : zFr [182, 202] r r3 := f2.tr f3 (by decide)
        refine ⟨zset r3 202 (upd (r3 202) a (r2 202 a ||| r2 173 a &&& yB (fun i => sAl Lf E S mo k i) t)), ⟨f4.set rfl, fun i hi => ?_⟩, rfl⟩
        rw [zset_eq, f3 202 rfl]
        by_cases e : i = a
        · subst e
          obtain ⟨m, hm0, em⟩ := hR i hi
          have hm := p64 ht hm0
          have er : r2 173 i = nI m := by rw [(hE2.2.2.1 i hi).2]; exact em
          rw [pk_us, c2 i hi, er, yB_N t ht, nAnd hm (p64 ht (yN_lt t)), yAnd (g := fun u => if (E 1 i >>> (nI u &&& 31)) &&& 1 = 0 then 0 else sAl Lf E S mo k u) hm ht (fun u _ => by
            show (if (E 1 i >>> (nI u &&& 31)) &&& 1 = 0 then 0 else sAl Lf E S mo k u) = 0 ↔ _
            rw [em]
            by_cases c : (nI m >>> (nI u &&& 31)) &&& 1 = 0
            · rw [if_pos c]; exact ⟨fun _ => Or.inl c, fun _ => rfl⟩
            · rw [if_neg c]; exact ⟨fun h => Or.inr h, fun h => h.resolve_left c⟩), nOr (p64 ht (yN_lt t)) (p64 ht (yN_lt t))]
          refine congrArg nI (yOr (fun u _ => ?_))
          by_cases c : (E 1 i >>> (nI u &&& 31)) &&& 1 = 0
          · rw [if_pos c, if_pos c, if_pos c]; exact ⟨fun _ => ⟨rfl, rfl⟩, fun _ => rfl⟩
          · rw [if_neg c, if_neg c, if_neg c, yB_0 (by omega)]
            have e1 : sVo Lf E S mo (nI i) u k = sAl Lf E S mo k u := by
              show (if E 2 k = 1 then 0 else if S 1 k = nI i then sAl Lf E S mo k u else 0) = _
              rw [if_neg hk1, if_pos ea]
            rw [e1]
        · rw [pk_un e, c2 i hi]
          refine congrArg nI (yN_eq t (fun u _ => ?_))
          have e1 : sVo Lf E S mo (nI i) u k = 0 := by
            show (if E 2 k = 1 then 0 else if S 1 k = nI i then sAl Lf E S mo k u else 0) = _
            rw [if_neg hk1, if_neg (fun h => e ((nI_eq (by omega) (by omega)).mp (h.symm.trans ea)))]
          rw [yB_s, if_pos e1]) (by
      intro n r2 ⟨f2, c2⟩
      have e0 : Gk_layT_78 mo q (n + 1) (nI p) r2 = Bk_layT_78 mo q (Gk_layT_78 mo q n) (nI p) r2 := rfl
      have hE2 := hE.fr f2 (by decide)
      rw [e0]
      unfold Bk_layT_78
      simp only [zletQ, zifQ, hE2.1.2.1]
      rw [if_pos (nI_leP (by omega) (by omega) (by omega))]
      refine ⟨f2, fun i hi => ?_⟩
      rw [c2 i hi]
      refine congrArg nI (yN_eq t (fun u _ => ?_))
      show (if (E 1 i >>> (nI u &&& 31)) &&& 1 = 0 then 0 else yB (sVo Lf E S mo (nI i) u) p) = 0 ↔ (if (E 1 i >>> (nI u &&& 31)) &&& 1 = 0 then 0 else sLe Lf p E S mo (nI i) j u) = 0
      have e1 : sLe Lf p E S mo (nI i) j u = if yB (sVo Lf E S mo (nI i) u) p = 0 then 0 else 1 := if_pos h1
      by_cases c : (E 1 i >>> (nI u &&& 31)) &&& 1 = 0
      · rw [if_pos c, if_pos c]
      · rw [if_neg c, if_neg c, e1]
        by_cases d : yB (sVo Lf E S mo (nI i) u) p = 0
        · rw [if_pos d]; exact ⟨fun _ => rfl, fun _ => d⟩
        · rw [if_neg d]; exact ⟨fun h => absurd h d, fun h => absurd h (by decide)⟩) 7 0 r26 (by omega) (by omega) ⟨f0, fun i hi => ?_⟩
    · exact k
    · rw [z0 i hi]
      have : yN (fun u => if (E 1 i >>> (nI u &&& 31)) &&& 1 = 0 then 0 else yB (sVo Lf E S mo (nI i) u) 0) t = yN (fun _ => 0) t := yN_eq t (fun u _ => by
        show (if (E 1 i >>> (nI u &&& 31)) &&& 1 = 0 then (0 : Int32) else 0) = 0 ↔ (0 : Int32) = 0
        rw [ite_self])
      rw [this]
      have z : ∀ n, yN (fun _ => 0) n = 0 := by
        intro n
        induction n with
        | zero => rfl
        | succ n ih => rw [yN_s, if_pos rfl]; exact ih
      rw [z]; rfl
  · rw [if_neg h1]
    have hE2 := hE.fr f0 (by decide)
    have hS2 := hS.sT f0 rfl rfl rfl rfl rfl rfl
    obtain ⟨r3, f3, e3⟩ := kOpT (q := q) hE2 hS2 (mo := mo) hj
    rw [e3, xcvr (r := r3)]
    have f4 : zFr [182, 202] r r3 := f0.tr f3 (by decide)
    exact xLpS (p := t) (G := fun n i r => Gk_layT_36 n (yB (fun i => sAl Lf E S mo j i) t) i r) (I := fun k r1 => zFr [182, 202] r r1 ∧ ∀ i, i < k → r1 202 i = nI (sT Lf t p E S mo j i)) (Q := fun r1 => zFr [182, 202] r r1 ∧ ∀ i, i < t → r1 202 i = nI (sT Lf t p E S mo j i)) (by
      intro n k r2 hk ⟨f2, c2⟩
      have e0 : Gk_layT_36 (n + 1) (yB (fun i => sAl Lf E S mo j i) t) (nI k) r2 = Bk_layT_36 (Gk_layT_36 n) (yB (fun i => sAl Lf E S mo j i) t) (nI k) r2 := rfl
      have hE3 := hE.fr f2 (by decide)
      obtain ⟨m, hm0, em⟩ := hR k hk
      have hm := p64 ht hm0
      have er : r2 173 k = nI m := by rw [(hE3.2.2.1 k hk).2]; exact em
      show ∃ r1, _ ∧ Gk_layT_36 (n + 1) (yB (fun i => sAl Lf E S mo j i) t) (nI k) r2 = Gk_layT_36 n (yB (fun i => sAl Lf E S mo j i) t) (nI (k + 1)) r1
      rw [e0]
      unfold Bk_layT_36
      simp only [zletQ, zifQ, hE3.1.1, nI_1, xzn (show k < 2 ^ 31 by omega)]
      rw [if_neg (nI_leN (by omega) (by omega) (by omega))]
      refine ⟨_, ⟨f2.set rfl, fun i hi => ?_⟩, rfl⟩
      rw [zset_eq]
      by_cases e : i = k
      · subst e
        rw [pk_us, er, yB_N t ht, nAnd hm (p64 ht (yN_lt t))]
        refine congrArg nI (yAnd hm ht (fun u _ => ?_))
        show (if (E 1 i >>> (nI u &&& 31)) &&& 1 = 0 then 0 else sLe Lf p E S mo (nI i) j u) = 0 ↔ _
        have e1 : sLe Lf p E S mo (nI i) j u = sAl Lf E S mo j u := if_neg h1
        rw [em, e1]
        by_cases c : (nI m >>> (nI u &&& 31)) &&& 1 = 0
        · rw [if_pos c]; exact ⟨fun _ => Or.inl c, fun _ => rfl⟩
        · rw [if_neg c]; exact ⟨fun h => Or.inr h, fun h => h.resolve_left c⟩
      · rw [pk_un e]; exact c2 i (by omega)) (by
      intro n r2 ⟨f2, c2⟩
      have e0 : Gk_layT_36 (n + 1) (yB (fun i => sAl Lf E S mo j i) t) (nI t) r2 = Bk_layT_36 (Gk_layT_36 n) (yB (fun i => sAl Lf E S mo j i) t) (nI t) r2 := rfl
      have hE3 := hE.fr f2 (by decide)
      show zFr [182, 202] r (Gk_layT_36 (n + 1) (yB (fun i => sAl Lf E S mo j i) t) (nI t) r2) ∧ ∀ i, i < t → Gk_layT_36 (n + 1) (yB (fun i => sAl Lf E S mo j i) t) (nI t) r2 202 i = nI (sT Lf t p E S mo j i)
      rw [e0]
      unfold Bk_layT_36
      simp only [zletQ, zifQ, hE3.1.1]
      rw [if_pos (nI_leP (by omega) (by omega) (by omega))]
      exact ⟨f2, c2⟩) 7 0 r3 (by omega) (by omega) ⟨f4, fun i hi => absurd hi (by omega)⟩
end XLYT
section XSPM
variable {Lf : xLT} {t p : Nat} {E S : Nat → Nat → Int32} {mo : Int32} {r0 : zRr} {q : zRq}
theorem mSp31 (hE : xMe Lf t p E mo r0) (hS : xMs t p S (r0 32)) (hR : xRd t E) {j i x : Nat} (hj : j < p) (hi : i < t) (hx : x < 2 ^ t) {ih5 : Int32 → Int32 → zRr → Int32 × zRr} : ∀ (n u : Nat) (r : zRr), u ≤ t → t < n + u → zFr [15, 16, 17, 18, 19, 20, 21, 22, 23, 24] r0 r → ∃ r1, zFr [15, 16, 17, 18, 19, 20, 21, 22, 23, 24] r0 r1 ∧ Gm_spreads_31 (nI j) q (nI i) ih5 n (nI (x ||| yN (sSp Lf p E S mo j i) u)) (nI u) r = ih5 (nI (x ||| sT Lf t p E S mo j i)) (nI (i + 1)) r1 := by
  have ht := hE.2.1.1
  intro n
  induction n with
  | zero => intro u r h1 h2; omega
  | succ n ih =>
    intro u r h1 h2 g1
    have e0 : Gm_spreads_31 (nI j) q (nI i) ih5 (n + 1) (nI (x ||| yN (sSp Lf p E S mo j i) u)) (nI u) r = Bm_spreads_31 (nI j) q (nI i) ih5 (Gm_spreads_31 (nI j) q (nI i) ih5 n) (nI (x ||| yN (sSp Lf p E S mo j i) u)) (nI u) r := rfl
    have hE2 := hE.fr g1 (by decide)
    have hS2 := hS.fr (g1 32 rfl)
    rw [e0]
    unfold Bm_spreads_31 Gm_spreads_78 Gm_spreads_79 Gm_spreads_87
    simp only [zletQ, zifQ, zifnQ, hE2.1.1, nI_1, xzn (show i < 2 ^ 31 by omega), or0]
    by_cases e : u = t
    · subst e
      rw [if_pos (nI_leP (by omega) (by omega) (by omega))]
      exact ⟨r, g1, rfl⟩
    · rw [if_neg (nI_leN (by omega) (by omega) (by omega)), (hE2.2.2.1 i hi).2]
      have hs := yN_s (f := sSp Lf p E S mo j i) (n := u)
      have hlt : x ||| yN (sSp Lf p E S mo j i) u < 64 := p64 ht (Nat.or_lt_two_pow hx (Nat.lt_of_lt_of_le (yN_lt u) (Nat.pow_le_pow_right (by decide) h1)))
      rcases xbit (E 1 i >>> (nI u &&& 31)) with c | c
      · rw [if_neg (by rw [c]; decide)]
        rw [if_pos (show sSp Lf p E S mo j i u = 0 from if_pos c)] at hs
        rw [← hs]
        exact ih (u + 1) r (by omega) (by omega) g1
      · rw [if_pos c]
        obtain ⟨r3, f3, e3⟩ := mLe (q := q) hE2 hS2 (at_ := nI i) hj (i := u) (by omega)
        have g3 := g1.tr f3 (by decide)
        have es : sSp Lf p E S mo j i u = sLe Lf p E S mo (nI i) j u := if_neg (by rw [c]; decide)
        rw [e3, xcvr (r := r3)]
        by_cases d : sLe Lf p E S mo (nI i) j u = 0
        · rw [if_pos d]
          rw [es, if_pos d] at hs
          rw [← hs]
          exact ih (u + 1) r3 (by omega) (by omega) g3
        · rw [if_neg d, nOne (by omega), nOr hlt (p64 (t := u + 1) (by omega) (Nat.pow_lt_pow_right (by decide) (by omega))), Nat.or_assoc]
          rw [es, if_neg d] at hs
          rw [← hs]
          exact ih (u + 1) r3 (by omega) (by omega) g3
theorem mSp5 (hE : xMe Lf t p E mo r0) (hS : xMs t p S (r0 32)) (hR : xRd t E) {j x : Nat} (hj : j < p) (hx : x < 2 ^ t) : ∀ (n i : Nat) (r : zRr), i ≤ t → t < n + i → zFr [15, 16, 17, 18, 19, 20, 21, 22, 23, 24] r0 r → ∃ r1, zFr [15, 16, 17, 18, 19, 20, 21, 22, 23, 24] r0 r1 ∧ Gm_spreads_5 (nI j) (nI x) q n (nI (yF (sT Lf t p E S mo j) x i)) (nI i) r = (nI (yF (sT Lf t p E S mo j) x t), r1) := by
  have ht := hE.2.1.1
  intro n
  induction n with
  | zero => intro i r h1 h2; omega
  | succ n ih =>
    intro i r h1 h2 g1
    have e0 : Gm_spreads_5 (nI j) (nI x) q (n + 1) (nI (yF (sT Lf t p E S mo j) x i)) (nI i) r = Bm_spreads_5 (nI j) (nI x) q (Gm_spreads_5 (nI j) (nI x) q n) (nI (yF (sT Lf t p E S mo j) x i)) (nI i) r := rfl
    have hE2 := hE.fr g1 (by decide)
    rw [e0]
    unfold Bm_spreads_5 Gm_spreads_87
    simp only [zletQ, zifQ, zifnQ, hE2.1.1, nI_1]
    by_cases e : i = t
    · subst e
      rw [if_pos (nI_leP (by omega) (by omega) (by omega))]
      exact ⟨r, g1, rfl⟩
    · rw [if_neg (nI_leN (by omega) (by omega) (by omega))]
      have hb := nBit0 (m := x) (i := i) (p64 ht hx) (by omega)
      have hs := yF_s (T := sT Lf t p E S mo j) (x := x) (n := i)
      by_cases c : x.testBit i = true
      · rw [if_neg (fun h => hb.mp h c)]
        obtain ⟨r3, f3, e3⟩ := mSp31 (q := q) hE hS hR (i := i) (x := yF (sT Lf t p E S mo j) x i) hj (by omega) (yF_lt sT_lt hx i) (ih5 := Gm_spreads_5 (nI j) (nI x) q n) 7 0 r (by omega) (by omega) g1
        rw [show yF (sT Lf t p E S mo j) x i ||| yN (sSp Lf p E S mo j i) 0 = yF (sT Lf t p E S mo j) x i from Nat.or_zero _, nI_0] at e3
        rw [if_pos c] at hs
        rw [e3, ← hs]
        exact ih (i + 1) r3 (by omega) (by omega) f3
      · rw [if_pos (hb.mpr c)]
        rw [if_neg c] at hs
        rw [← hs]
        exact ih (i + 1) r (by omega) (by omega) g1
theorem mSpd (hE : xMe Lf t p E mo r0) (hS : xMs t p S (r0 32)) (hR : xRd t E) {j x : Nat} (hj : j < p) (hx : x < 2 ^ t) : ∃ r1, zFr [15, 16, 17, 18, 19, 20, 21, 22, 23, 24] r0 r1 ∧ Gm_spreads (nI j) (nI x) r0 q = (nI (yF (sT Lf t p E S mo j) x t), r1) := by
  have ht := hE.2.1.1
  unfold Gm_spreads
  exact mSp5 hE hS hR hj hx 7 0 r0 (by omega) (by omega) zFr.refl
theorem mRc5 (hE : xMe Lf t p E mo r0) (hS : xMs t p S (r0 32)) (hR : xRd t E) {j x : Nat} (hj : j < p) (hx : x < 2 ^ t) (h0 : x ≠ 0) : ∀ (n k : Nat) (r : zRr), k ≤ t - 1 → t < n + k → zFr [15, 16, 17, 18, 19, 20, 21, 22, 23, 24] r0 r → ∃ r1, zFr [15, 16, 17, 18, 19, 20, 21, 22, 23, 24] r0 r1 ∧ Gm_reachFrom_5 (nI j) q n (nI (yI (sT Lf t p E S mo j) t (k + 1) x)) (nI (yI (sT Lf t p E S mo j) t k x)) r = (nI (yI (sT Lf t p E S mo j) t (t - 1) x), r1) := by
  have ht := hE.2.1.1
  have hlt : ∀ k, yI (sT Lf t p E S mo j) t k x < 2 ^ t := fun k => yI_lt sT_lt k x hx
  intro n
  induction n with
  | zero => intro k r h1 h2; omega
  | succ n ih =>
    intro k r h1 h2 g1
    have e0 : Gm_reachFrom_5 (nI j) q (n + 1) (nI (yI (sT Lf t p E S mo j) t (k + 1) x)) (nI (yI (sT Lf t p E S mo j) t k x)) r = Bm_reachFrom_5 (nI j) q (Gm_reachFrom_5 (nI j) q n) (nI (yI (sT Lf t p E S mo j) t (k + 1) x)) (nI (yI (sT Lf t p E S mo j) t k x)) r := rfl
    rw [e0]
    unfold Bm_reachFrom_5
    rw [zifQ]
    by_cases c : yI (sT Lf t p E S mo j) t (k + 1) x = yI (sT Lf t p E S mo j) t k x
    · rw [if_pos (by rw [c])]
      refine ⟨r, g1, ?_⟩
      have hst := yI_stay (T := sT Lf t p E S mo j) (x := x) (t := t) (k := k) (by rw [← yI_c]; exact c) (t - 1 - k)
      rw [show k + (t - 1 - k) = t - 1 by omega] at hst
      rw [c, hst]
    · have a1 := p64 ht (hlt (k + 1))
      have a2 := p64 ht (hlt k)
      rw [if_neg (fun h => c ((nI_eq (by omega) (by omega)).mp h))]
      have hk : k < t - 1 := by
        rcases Nat.lt_or_ge k (t - 1) with h | h
        · exact h
        · exfalso
          have ek : k = t - 1 := by omega
          subst ek
          exact c (by rw [yI_c]; exact yI_fix sT_lt hx h0)
      obtain ⟨r3, f3, e3⟩ := mSpd (q := q) (hE.fr g1 (by decide)) (hS.fr (g1 32 rfl)) hR hj (hlt (k + 1))
      rw [e3, xcvr (r := r3), ← yI_c]
      exact ih (k + 1) r3 (by omega) (by omega) (g1.tr f3 (by decide))
theorem mRch (hE : xMe Lf t p E mo r0) (hS : xMs t p S (r0 32)) (hR : xRd t E) {j x : Nat} (hj : j < p) (hx : x < 2 ^ t) (h0 : x ≠ 0) : ∃ r1, zFr [15, 16, 17, 18, 19, 20, 21, 22, 23, 24] r0 r1 ∧ Gm_reachFrom (nI j) (nI x) r0 q = (nI (yI (sT Lf t p E S mo j) t (t - 1) x), r1) := by
  have ht := hE.2.1.1
  have a1 := p64 ht hx
  unfold Gm_reachFrom
  have k : ∀ n, t < n → ∃ r1, zFr [15, 16, 17, 18, 19, 20, 21, 22, 23, 24] r0 r1 ∧ Gm_reachFrom_5 (nI j) q (n + 1) (nI x) 0 r0 = (nI (yI (sT Lf t p E S mo j) t (t - 1) x), r1) := by
    intro n hn
    have e0 : Gm_reachFrom_5 (nI j) q (n + 1) (nI x) 0 r0 = Bm_reachFrom_5 (nI j) q (Gm_reachFrom_5 (nI j) q n) (nI x) 0 r0 := rfl
    rw [e0]
    unfold Bm_reachFrom_5
    rw [zifQ, if_neg (fun h => h0 ((nI0 a1).mp h))]
    obtain ⟨r3, f3, e3⟩ := mSpd (q := q) hE hS hR hj hx
    rw [e3, xcvr (r := r3)]
    exact mRc5 hE hS hR hj hx h0 n 0 r3 (by omega) (by omega) f3
  exact k 63 (by omega)
end XSPM
