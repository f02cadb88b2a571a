/-! ===== the reader of lands: what a store to a draft leaves as it was ===== -/
theorem mrun_c {f g : Nat → Int32} {a : Nat} : ∀ n, (∀ i, i < n → f (a + i) = g (a + i)) → mrun f a n = mrun g a n
  | 0, _ => rfl
  | n + 1, h => by
    show mst _ _ = mst _ _
    rw [h n (by omega), mrun_c n (fun i hi => h i (by omega))]
theorem mDf_c {f g : Nat → Int32} {a b : Nat} (h : ∀ i, a ≤ i → i < b → f i = g i) (hd : mDf f a b) : mDf g a b := by
  intro n hn
  have e := mrun_c (f := f) (g := g) (a := a) n (fun i hi => h _ (by omega) (by omega))
  have h2 := hd n hn
  rw [h (a + n) (by omega) hn, e] at h2
  exact h2
theorem mJ.setL {B : Int} {r : zRr} (h : mJ B r) {j : Nat} {v : Int32} (hj : 4 ≤ j) (hv : zI (mlo 1 j) (mhi B 1 j) v) : mJ B (zset r 1 (upd (r 1) j v)) := by
  have hI := h.i.set hv
  obtain ⟨b1, b2, b3, b4, b5, b6⟩ := h
  have n : ∀ c, c ≠ 1 → zset r 1 (upd (r 1) j v) c = r c := fun c hc => zset_ne hc
  refine ⟨b1, b2, hI, ?_, ?_, ?_⟩
  · show mDf _ _ _
    rw [n 12 (by decide), n 10 (by decide), n 11 (by decide)]; exact b4
  · intro b j2
    rw [n 25 (by decide), n 26 (by decide), n 28 (by decide)]; exact b5 b j2
  · show _ → _
    rw [zset_eq, pk_un (by omega), pk_un (by omega)]; exact b6
theorem mJ.setC {B : Int} {r : zRr} (h : mJ B r) {j : Nat} {v : Int32} (hj : 1000 ≤ j) : mJ B (zset r 12 (upd (r 12) j v)) := by
  have hI : mI B (zset r 12 (upd (r 12) j v)) := h.i.set (zI.top v)
  obtain ⟨b1, b2, b3, b4, b5, b6⟩ := h
  have n : ∀ c, c ≠ 12 → zset r 12 (upd (r 12) j v) c = r c := fun c hc => zset_ne hc
  refine ⟨b1, b2, hI, ?_, ?_, ?_⟩
  · show mDf _ _ _
    rw [n 10 (by decide), n 11 (by decide), zset_eq]
    have h8 : zI 0 1000 (r 11 0) := b3 11 0
    have h9 := h8.nn (by decide)
    exact mDf_c (fun i _ hi => (pk_un (by omega)).symm) b4
  · intro b j2
    rw [n 25 (by decide), n 26 (by decide), n 28 (by decide)]; exact b5 b j2
  · show _ → _
    rw [n 1 (by decide)]; exact b6
theorem mJ.setF {B : Int} {r : zRr} (h : mJ B r) {k : Nat} {v : Int32} (hk : k = 10 ∨ k = 11) (hv : zI 1000 2000 v) : mJ B (zset r k (upd (r k) 1 v)) := by
  have hI : mI B (zset r k (upd (r k) 1 v)) := h.i.set (by rcases hk with rfl | rfl <;> exact (hv.w (c := 0) (d := 2000) ⟨by decide, by decide⟩))
  obtain ⟨b1, b2, b3, b4, b5, b6⟩ := h
  have n : ∀ c, c ≠ k → zset r k (upd (r k) 1 v) c = r c := fun c hc => zset_ne hc
  refine ⟨b1, b2, hI, ?_, ?_, ?_⟩
  · show mDf _ _ _
    rcases hk with rfl | rfl
    · rw [n 12 (by decide), n 11 (by decide), zset_eq, pk_un (by decide)]; exact b4
    · rw [n 12 (by decide), n 10 (by decide), zset_eq, pk_un (by decide)]; exact b4
  · intro b j2
    rw [n 25 (by omega), n 26 (by omega), n 28 (by omega)]; exact b5 b j2
  · show _ → _
    rw [n 1 (by omega)]; exact b6
theorem mJ.setW {B : Int} {r : zRr} (h : mJ B r) {k : Nat} {i v : Int32} {x : Int32} {lo up : Int} (hk : k = 26 ∨ k = 28) (hv : zI (mlo k (zn i)) (mhi B k (zn i)) v) (hi : i = 200 + x) (hx : zI lo up x) (hb : 0 ≤ lo ∧ up ≤ 39) (he : (r 25 5).toInt ≤ x.toInt) : mJ B (zset r k (upd (r k) (zn i) v)) := by
  have hI : mI B (zset r k (upd (r k) (zn i) v)) := h.i.set hv
  obtain ⟨b1, b2, b3, b4, b5, b6⟩ := h
  have n : ∀ c, c ≠ k → zset r k (upd (r k) (zn i) v) c = r c := fun c hc => zset_ne hc
  have c200 : (200 : Int32).toInt = 200 := by decide
  have e2 : (200 + x).toInt = 200 + x.toInt := by
    obtain ⟨q1, q2⟩ := hx
    rw [Jvm.Kit.i32_add (by omega) (by omega), c200]
  have e3 : zn i = 200 + zn x := by
    have := hx.1
    rw [hi]; unfold zn; omega
  have e4 : (zn x : Int) = x.toInt := by have := hx.1; unfold zn; omega
  have ne : ∀ b j2 : Nat, j2 < 40 → (j2 : Int) < (r 25 b).toInt → 40 * b + j2 ≠ zn i := by
    intro b j2 hj hlt e
    have hb5 : b = 5 := by have := hx.2; omega
    subst hb5
    omega
  refine ⟨b1, b2, hI, ?_, ?_, ?_⟩
  · show mDf _ _ _
    rw [n 12 (by omega), n 10 (by omega), n 11 (by omega)]; exact b4
  · intro b j2 hj h1 h2
    rw [n 25 (by omega)] at h1
    have e5 := ne b j2 hj h1
    rcases hk with rfl | rfl
    · rw [zset_eq, pk_un e5] at h2
      rw [n 28 (by decide)]; exact b5 b j2 hj h1 h2
    · rw [n 26 (by decide)] at h2
      rw [zset_eq, pk_un e5]; exact b5 b j2 hj h1 h2
  · show _ → _
    rw [n 1 (by omega)]; exact b6
theorem mJ.line0 {B : Int} {r : zRr} (h : mJ B r) {j : Nat} {v : Int32} (hv : v = 0) : mJ B (zset r 25 (upd (r 25) j v)) := by
  have hI : mI B (zset r 25 (upd (r 25) j v)) := h.i.set (by subst hv; exact (show zI 0 40 (0 : Int32) from ⟨by decide, by decide⟩))
  obtain ⟨b1, b2, b3, b4, b5, b6⟩ := h
  have n : ∀ c, c ≠ 25 → zset r 25 (upd (r 25) j v) c = r c := fun c hc => zset_ne hc
  refine ⟨b1, b2, hI, ?_, ?_, ?_⟩
  · show mDf _ _ _
    rw [n 12 (by decide), n 10 (by decide), n 11 (by decide)]; exact b4
  · intro b j2 hj h1 h2
    rw [n 26 (by decide)] at h2
    rw [n 28 (by decide)]
    rw [zset_eq] at h1
    by_cases e : b = j
    · subst e; rw [pk_us, hv] at h1
      have e0 : (0 : Int32).toInt = 0 := by decide
      omega
    · rw [pk_un e] at h1; exact b5 b j2 hj h1 h2
  · show _ → _
    rw [n 1 (by decide)]; exact b6
theorem mJ.line1 {B : Int} {r : zRr} (h : mJ B r) (hx : zI 0 39 (r 25 5)) {i : Int32} (hi : i = 200 + r 25 5) (hw : r 26 (zn i) = 0 → zI 0 5 (r 28 (zn i))) : mJ B (zset r 25 (upd (r 25) 5 (r 25 5 + 1))) := by
  have c1 : (1 : Int32).toInt = 1 := by decide
  have e1 : (r 25 5 + 1).toInt = (r 25 5).toInt + 1 := i32_s hx (by decide)
  have hI : mI B (zset r 25 (upd (r 25) 5 (r 25 5 + 1))) := h.i.set (show zI 0 40 (r 25 5 + 1) by obtain ⟨q1, q2⟩ := hx; constructor <;> omega)
  obtain ⟨b1, b2, b3, b4, b5, b6⟩ := h
  have n : ∀ c, c ≠ 25 → zset r 25 (upd (r 25) 5 (r 25 5 + 1)) c = r c := fun c hc => zset_ne hc
  have c200 : (200 : Int32).toInt = 200 := by decide
  have e2 : (200 + r 25 5).toInt = 200 + (r 25 5).toInt := by
    obtain ⟨q1, q2⟩ := hx
    rw [Jvm.Kit.i32_add (by omega) (by omega), c200]
  have e3 : zn i = 200 + zn (r 25 5) := by
    have := hx.1
    rw [hi]; unfold zn; omega
  have e4 : (zn (r 25 5) : Int) = (r 25 5).toInt := by have := hx.1; unfold zn; omega
  refine ⟨b1, b2, hI, ?_, ?_, ?_⟩
  · show mDf _ _ _
    rw [n 12 (by decide), n 10 (by decide), n 11 (by decide)]; exact b4
  · intro b j2 hj h1 h2
    rw [n 26 (by decide)] at h2
    rw [n 28 (by decide)]
    rw [zset_eq] at h1
    by_cases e : b = 5
    · subst e; rw [pk_us, e1] at h1
      by_cases e6 : j2 = zn (r 25 5)
      · subst e6
        rw [show 40 * 5 + zn (r 25 5) = zn i by omega] at h2 ⊢
        exact hw h2
      · exact b5 5 j2 hj (by omega) h2
    · rw [pk_un e] at h1; exact b5 b j2 hj h1 h2
  · show _ → _
    rw [n 1 (by decide)]; exact b6
/-! the signs of an E as they are laid -/
def mg (F : Nat) (R : zRr) : List Bool := mrun (R 12) F (zn (R 122 0) - F)
def mX0 (F : Nat) (R : zRr) : Prop := F ≤ zn (R 122 0) ∧ mDf (R 12) F (zn (R 122 0))
def mX (F : Nat) (R : zRr) (d : Int32) : Prop := mX0 F R ∧ mG (R 13) d (mg F R)
def mY (F : Nat) (R : zRr) (d : Int32) : Prop := mX0 F R ∧ ∃ g, mG (R 13) d g ∧ g.dropWhile id = mg F R
theorem mX0.put {F : Nat} {R R1 : zRr} {c : Int32} {a b : Int} (h : mX0 F R) (hk : zI a b (R 122 0)) (k : 0 ≤ a ∧ b < 2147483647) (e1 : R1 12 = upd (R 12) (zn (R 122 0)) c) (e2 : R1 122 0 = R 122 0 + 1) (hok : mok c (mg F R)) : mX0 F R1 ∧ mg F R1 = mst c (mg F R) := by
  have e3 : zn (R1 122 0) = zn (R 122 0) + 1 := by rw [e2]; exact zn_s hk k
  obtain ⟨h1, h2⟩ := h
  have e4 : ∀ n, F + n ≤ zn (R 122 0) → mrun (R1 12) F n = mrun (R 12) F n := fun n hn => mrun_c n (fun i hi => by rw [e1, pk_un (by omega)])
  refine ⟨⟨by omega, ?_⟩, ?_⟩
  · intro n hn
    rw [e4 n (by omega)]
    by_cases e5 : F + n = zn (R 122 0)
    · rw [e1, e5, pk_us]
      have e6 : n = zn (R 122 0) - F := by omega
      rw [e6]; exact hok
    · rw [e1, pk_un e5]; exact h2 n (by omega)
  · unfold mg
    rw [show zn (R1 122 0) - F = (zn (R 122 0) - F) + 1 by omega]
    show mst (R1 12 (F + (zn (R 122 0) - F))) _ = _
    rw [e4 _ (by omega), show F + (zn (R 122 0) - F) = zn (R 122 0) by omega, e1, pk_us]
theorem mX.row {F : Nat} {R R1 : zRr} {d : Int32} (h : mX F R d) (e1 : R1 12 = R 12) (e2 : R1 122 = R 122) (e3 : R1 13 = R 13) : mX F R1 d := by
  unfold mX mX0 mg at *; rw [e1, e2, e3]; exact h
theorem mY.row {F : Nat} {R R1 : zRr} {d : Int32} (h : mY F R d) (e1 : R1 12 = R 12) (e2 : R1 122 = R 122) (e3 : R1 13 = R 13) : mY F R1 d := by
  unfold mY mX0 mg at *; rw [e1, e2, e3]; exact h
theorem mok_v {c : Int32} {g : List Bool} (h : ¬ c = 28) (h2 : ¬ c = 30) (h3 : ¬ c = 29) (h4 : 0 ≤ c.toInt) : mok c g := ⟨fun e => by rcases e with e | e <;> contradiction, fun e => absurd e h3, h4⟩
section MX
variable {F : Nat} {R R1 : zRr} {d c : Int32} {a b : Int}
theorem mX.op (h : mX F R d) (hk : zI a b (R 122 0)) (k : 0 ≤ a ∧ b < 2147483647) (e1 : R1 12 = upd (R 12) (zn (R 122 0)) c) (e2 : R1 122 0 = R 122 0 + 1) (e3 : R1 13 = R 13) (hc : c = 20 ∨ c = 21 ∨ c = 22 ∨ c = 24 ∨ c = 25 ∨ c = 26 ∨ c = 27) : mX F R1 d := by
  obtain ⟨p1, p2⟩ := h.1.put hk k e1 e2 (by rcases hc with h | h | h | h | h | h | h <;> subst h <;> exact mok_v (by decide) (by decide) (by decide) (by decide))
  exact ⟨p1, (h.2.row e3).to (p2.trans (mst_k hc))⟩
theorem mX.push (h : mX F R d) (hk : zI a b (R 122 0)) (k : 0 ≤ a ∧ b < 2147483647) (hd : zI 0 4 d) (e1 : R1 12 = upd (R 12) (zn (R 122 0)) c) (e2 : R1 122 0 = R 122 0 + 1) {v : Int32} (e3 : R1 13 = upd (R 13) (zn (d + 1)) v) (hc : (c = 28 ∧ v = 2) ∨ (c = 30 ∧ v = 1)) : mX F R1 (d + 1) := by
  have hl : (mg F R).length ≤ 4 := by
    have h1 := h.2.1.2.1
    have h2 := hd.nn (by decide)
    omega
  rcases hc with ⟨rfl, rfl⟩ | ⟨rfl, rfl⟩
  · obtain ⟨p1, p2⟩ := h.1.put hk k e1 e2 ⟨fun _ => hl, fun e => absurd e (by decide), by decide⟩
    exact ⟨p1, ((h.2.push (v := 2) (x := false) hl (by decide)).row e3).to (p2.trans (mst_28 rfl))⟩
  · obtain ⟨p1, p2⟩ := h.1.put hk k e1 e2 ⟨fun _ => hl, fun e => absurd e (by decide), by decide⟩
    exact ⟨p1, ((h.2.push (v := 1) (x := true) hl (by decide)).row e3).to (p2.trans (mst_30 rfl))⟩
theorem mX.val (h : mX F R d) (hk : zI a b (R 122 0)) (k : 0 ≤ a ∧ b < 2147483647) (e1 : R1 12 = upd (R 12) (zn (R 122 0)) c) (e2 : R1 122 0 = R 122 0 + 1) (e3 : R1 13 = R 13) {x y : Int} (hc : zI x y c) (k2 : 0 ≤ x ∧ (y < 20 ∨ 30 < x)) : mY F R1 d := by
  have hn : ∀ z : Int32, 20 ≤ z.toInt → z.toInt ≤ 30 → ¬ c = z := fun z h1 h2 e => by
    rw [e] at hc
    obtain ⟨q1, q2⟩ := hc
    omega
  obtain ⟨p1, p2⟩ := h.1.put hk k e1 e2 (mok_v (hn _ (by decide) (by decide)) (hn _ (by decide) (by decide)) (hn _ (by decide) (by decide)) (by have := hc.1; omega))
  exact ⟨p1, mg F R, h.2.row e3, (p2.trans (mst_v (hn _ (by decide) (by decide)) (hn _ (by decide) (by decide)) (hn _ (by decide) (by decide)) (hn _ (by decide) (by decide)) (hn _ (by decide) (by decide)) (hn _ (by decide) (by decide)) (hn _ (by decide) (by decide)) (hn _ (by decide) (by decide)) (hn _ (by decide) (by decide)) (hn _ (by decide) (by decide)))).symm⟩
theorem mX.close (h : mX F R d) (hk : zI a b (R 122 0)) (k : 0 ≤ a ∧ b < 2147483647) (hd : zI 1 5 d) (e1 : R1 12 = upd (R 12) (zn (R 122 0)) 29) (e2 : R1 122 0 = R 122 0 + 1) (e3 : R1 13 = R 13) : mY F R1 (d + (-1)) := by
  have hl : 1 ≤ (mg F R).length := by
    have h1 := h.2.1.2.1
    have h2 := hd.nn (by decide)
    omega
  obtain ⟨p1, p2⟩ := h.1.put hk k e1 e2 ⟨fun e => absurd e (by decide), fun _ => hl, by decide⟩
  exact ⟨p1, (mg F R).tail, (h.2.pop1 hl).row e3, (p2.trans (mst_29 rfl)).symm⟩
theorem mY.back (h : mY F R d) (h0 : (0 : Int32) < d) (h1 : R 13 (zn d) = 1) : mY F R (d + (-1)) := ⟨h.1, xG.back h.2 h0 h1⟩
theorem mY.exit0 (h : mY F R d) (h0 : d ≤ (0 : Int32)) : mX F R d := ⟨h.1, xG.exit0 h.2 h0⟩
theorem mY.exit1 (h : mY F R d) (h1 : ¬ R 13 (zn d) = 1) : mX F R d := ⟨h.1, xG.exit1 h.2 h1⟩
end MX
theorem mX.new {R : zRr} (e : True) : mX (zn (R 122 0)) R 0 := by
  refine ⟨⟨Nat.le_refl _, fun n hn => by omega⟩, ?_⟩
  unfold mg
  rw [Nat.sub_self]
  exact mG.nil
def mT1 (r : zRr) : Prop := 0 < (r 1 5).toInt → 0 < (r 1 4).toInt
def mD1 (r : zRr) : Prop := mDf (r 12) (zn (r 10 1)) (zn (r 11 1))
def mC (r : zRr) : Prop := 1000 ≤ (r 122 0).toInt ∧ (r 122 0).toInt ≤ 1000 + (r 105 0).toInt
theorem mC.k {r : zRr} (h : mC r) (hb : zI 0 999 (r 105 0)) : zI 1000 1999 (r 122 0) := ⟨h.1, by have := h.2; have := hb.2; omega⟩
theorem mT1.row {r r1 : zRr} (h : mT1 r) (e : r1 1 = r 1) : mT1 r1 := by unfold mT1; rw [e]; exact h
theorem mD1.row {r r1 : zRr} (h : mD1 r) (e : r1 12 = r 12) (e1 : r1 10 = r 10) (e2 : r1 11 = r 11) : mD1 r1 := by unfold mD1; rw [e, e1, e2]; exact h
theorem mT1.two {r r1 : zRr} (h : mT1 r) (e1 : r1 1 4 = r 1 4) (e2 : r1 1 5 = r 1 5) : mT1 r1 := by unfold mT1; rw [e1, e2]; exact h
theorem mC.row {r r1 : zRr} (h : mC r) (e1 : r1 122 = r 122) (e2 : r1 105 = r 105) : mC r1 := by unfold mC; rw [e1, e2]; exact h
theorem mC.up {r r1 : zRr} (h : mC r) (e1 : r1 122 = r 122) (hb : (r 105 0).toInt ≤ (r1 105 0).toInt) : mC r1 := by
  unfold mC at *; rw [e1]; exact ⟨h.1, by have := h.2; omega⟩
theorem mC.w {B : Int} {r : zRr} (h : mC r) (hI : mI B r) : zI 1000 2000 (r 122 0) := by
  have h2 : zI 0 1000 (r 105 0) := hI 105 0
  exact ⟨h.1, by have := h.2; have := h2.2; omega⟩
theorem mD1.set {f g : Nat → Int32} {a b : Nat} (h : mDf f a b) (e : g = f) : mDf g a b := e ▸ h
def mF1 (r : zRr) : Prop := zI 1000 2000 (r 10 1) ∧ zI 1000 2000 (r 11 1)
theorem mF1.row {r r1 : zRr} (h : mF1 r) (e1 : r1 10 = r 10) (e2 : r1 11 = r 11) : mF1 r1 := by unfold mF1; rw [e1, e2]; exact h
theorem mF1.mk' {r : zRr} (h1 : zI 1000 2000 (r 10 1)) (h2 : zI 1000 2000 (r 11 1)) : mF1 r := ⟨h1, h2⟩
