/-! ===== letters, and the two ways to keep a word as one number ===== -/
abbrev xLet (s : Int32) : Prop := 97 ≤ s.toInt ∧ s.toInt ≤ 122
def xe27 (l : List Int32) : Int64 := l.foldl (fun w s => w * 27 + s.toInt64 - 96) 0
def xe5 (l : List Int32) : Int64 := l.foldl (fun w s => (w <<< ((5 : Int32).toInt64 &&& 63)) ||| (s - 97 + 1).toInt64) 0
def xrv (b : Int) : List Int32 → Int
  | [] => 0
  | s :: t => xrv b t * b + (s.toInt - 96)
theorem xrv_inj {b : Int} (hb : 27 ≤ b) : ∀ {l m : List Int32}, (∀ s ∈ l, xLet s) → (∀ s ∈ m, xLet s) → xrv b l = xrv b m → l = m := by
  have nn : ∀ l : List Int32, (∀ s ∈ l, xLet s) → 0 ≤ xrv b l := by
    intro l
    induction l with
    | nil => intro _; exact Int.le_refl _
    | cons s t ih =>
      intro h
      have h1 := h s (List.mem_cons_self ..)
      have h2 := ih (fun x hx => h x (List.mem_cons_of_mem _ hx))
      show 0 ≤ xrv b t * b + (s.toInt - 96)
      have h3 : 0 ≤ xrv b t * b := Int.mul_nonneg h2 (by omega)
      have := h1.1
      omega
  intro l
  induction l with
  | nil =>
    intro m _ hm e
    match m, hm, e with
    | [], _, _ => rfl
    | s :: t, hm, e =>
      have h1 := hm s (List.mem_cons_self ..)
      have h2 := nn t (fun x hx => hm x (List.mem_cons_of_mem _ hx))
      have h3 : 0 ≤ xrv b t * b := Int.mul_nonneg h2 (by omega)
      have h4 : (0 : Int) = xrv b t * b + (s.toInt - 96) := e
      have := h1.1
      omega
  | cons s t ih =>
    intro m hl hm e
    match m, hm, e with
    | [], hm, e =>
      have h1 := hl s (List.mem_cons_self ..)
      have h2 := nn t (fun x hx => hl x (List.mem_cons_of_mem _ hx))
      have h3 : 0 ≤ xrv b t * b := Int.mul_nonneg h2 (by omega)
      have h4 : xrv b t * b + (s.toInt - 96) = 0 := e
      have := h1.1
      omega
    | s2 :: t2, hm, e =>
      have h1 := hl s (List.mem_cons_self ..)
      have h2 := hm s2 (List.mem_cons_self ..)
      have e4 : xrv b t * b + (s.toInt - 96) = xrv b t2 * b + (s2.toInt - 96) := e
      have e5 : (s.toInt - 96) % b = s.toInt - 96 := Int.emod_eq_of_lt (by have := h1.1; omega) (by have := h1.2; omega)
      have e6 : (s2.toInt - 96) % b = s2.toInt - 96 := Int.emod_eq_of_lt (by have := h2.1; omega) (by have := h2.2; omega)
      have e7 : (xrv b t * b + (s.toInt - 96)) % b = s.toInt - 96 := by rw [Int.add_comm, Int.add_mul_emod_self_right, e5]
      have e8 : (xrv b t2 * b + (s2.toInt - 96)) % b = s2.toInt - 96 := by rw [Int.add_comm, Int.add_mul_emod_self_right, e6]
      have e9 : s.toInt = s2.toInt := by rw [e4, e8] at e7; omega
      have e10 : xrv b t * b = xrv b t2 * b := by omega
      have e11 : xrv b t = xrv b t2 := Int.eq_of_mul_eq_mul_right (by omega) e10
      rw [Int32.toInt_inj.mp e9, ih (fun x hx => hl x (List.mem_cons_of_mem _ hx)) (fun x hx => hm x (List.mem_cons_of_mem _ hx)) e11]
theorem xrv_lt {b : Int} (hb : 27 ≤ b) : ∀ l : List Int32, (∀ s ∈ l, xLet s) → 0 ≤ xrv b l ∧ xrv b l < b ^ l.length
  | [], _ => ⟨Int.le_refl _, by simp [xrv]⟩
  | s :: t, h => by
    have h1 := h s (List.mem_cons_self ..)
    have ⟨h2, h3⟩ := xrv_lt hb t (fun x hx => h x (List.mem_cons_of_mem _ hx))
    have h4 : 0 ≤ xrv b t * b := Int.mul_nonneg h2 (by omega)
    have h5 : (xrv b t + 1) * b ≤ b ^ t.length * b := Int.mul_le_mul_of_nonneg_right (by omega) (by omega)
    rw [Int.add_mul] at h5
    show 0 ≤ xrv b t * b + (s.toInt - 96) ∧ xrv b t * b + (s.toInt - 96) < b ^ (t.length + 1)
    rw [Int.pow_succ]
    have := h1.1; have := h1.2
    constructor <;> omega
theorem xp27 {n : Nat} (h : n ≤ 8) : (27 : Int) ^ n ≤ 282429536481 := by
  match n, h with
  | 0, _ => decide
  | 1, _ => decide
  | 2, _ => decide
  | 3, _ => decide
  | 4, _ => decide
  | 5, _ => decide
  | 6, _ => decide
  | 7, _ => decide
  | 8, _ => decide
theorem xp32 {n : Nat} (h : n ≤ 8) : (32 : Int) ^ n ≤ 1099511627776 := by
  match n, h with
  | 0, _ => decide
  | 1, _ => decide
  | 2, _ => decide
  | 3, _ => decide
  | 4, _ => decide
  | 5, _ => decide
  | 6, _ => decide
  | 7, _ => decide
  | 8, _ => decide
theorem xs27 {w : Int64} {s : Int32} {v : Int} (hw : w.toInt = v) (h0 : 0 ≤ v ∧ v < 282429536481) (hs : xLet s) : (w * 27 + s.toInt64 - 96).toInt = v * 27 + (s.toInt - 96) := by
  have c27 : (27 : Int64).toInt = 27 := by decide
  have c96 : (96 : Int64).toInt = 96 := by decide
  have es : s.toInt64.toInt = s.toInt := Jvm.Kit.i64_of_i32 s
  have := hs.1; have := hs.2
  have e1 : (w * 27).toInt = v * 27 := by rw [Jvm.Kit.i64_mul (by rw [hw, c27]; omega) (by rw [hw, c27]; omega), hw, c27]
  have e2 : (w * 27 + s.toInt64).toInt = v * 27 + s.toInt := by rw [Jvm.Kit.i64_add (by rw [e1, es]; omega) (by rw [e1, es]; omega), e1, es]
  rw [Jvm.Kit.i64_sub (by rw [e2, c96]; omega) (by rw [e2, c96]; omega), e2, c96]
  omega
theorem xs5 {w : Int64} {s : Int32} {v : Int} (hw : w.toInt = v) (h0 : 0 ≤ v ∧ v < 1099511627776) (hs : xLet s) : ((w <<< ((5 : Int32).toInt64 &&& 63)) ||| (s - 97 + 1).toInt64).toInt = v * 32 + (s.toInt - 96) := by
  have c97 : (97 : Int32).toInt = 97 := by decide
  have c1 : (1 : Int32).toInt = 1 := by decide
  obtain ⟨hs1, hs2⟩ := hs
  have e1 : (s - 97).toInt = s.toInt - 97 := by rw [Jvm.Kit.i32_sub (by rw [c97]; omega) (by rw [c97]; omega), c97]
  have e2 : (s - 97 + 1).toInt = s.toInt - 96 := by rw [Jvm.Kit.i32_add (by rw [e1, c1]; omega) (by rw [e1, c1]; omega), e1, c1]; omega
  have e3 : (s - 97 + 1).toInt64.toInt = s.toInt - 96 := by rw [Jvm.Kit.i64_of_i32, e2]
  have bw := w.toBitVec.isLt
  have n1 : w.toBitVec.toNat = v.toNat ∧ (v.toNat : Int) = v := by
    rw [← Int64.toInt_toBitVec, BitVec.toInt_eq_toNat_cond] at hw
    split at hw <;> omega
  have bd := (s - 97 + 1).toInt64.toBitVec.isLt
  have n2 : (s - 97 + 1).toInt64.toBitVec.toNat = (s.toInt - 96).toNat ∧ ((s.toInt - 96).toNat : Int) = s.toInt - 96 := by
    rw [← Int64.toInt_toBitVec, BitVec.toInt_eq_toNat_cond] at e3
    split at e3 <;> omega
  have sh : (w <<< ((5 : Int32).toInt64 &&& 63)).toBitVec.toNat = v.toNat * 32 := by
    rw [Int64.toBitVec_shiftLeft]
    show (w.toBitVec <<< (((5 : Int32).toInt64 &&& 63).toBitVec.smod 64)).toNat = _
    rw [show (((5 : Int32).toInt64 &&& 63).toBitVec.smod 64) = 5#64 by decide]
    rw [BitVec.shiftLeft_eq', BitVec.toNat_shiftLeft, n1.1]
    rw [show (5#64).toNat = 5 by decide, Nat.shiftLeft_eq]
    omega
  have eo : ((w <<< ((5 : Int32).toInt64 &&& 63)) ||| (s - 97 + 1).toInt64).toBitVec.toNat = v.toNat * 32 + (s.toInt - 96).toNat := by
    rw [Int64.toBitVec_or, BitVec.toNat_or, sh, n2.1]
    have h5 := Nat.shiftLeft_add_eq_or_of_lt (i := 5) (b := (s.toInt - 96).toNat) (by omega) v.toNat
    rw [Nat.shiftLeft_eq] at h5
    exact h5.symm
  rw [← Int64.toInt_toBitVec, BitVec.toInt_eq_toNat_of_lt (by rw [eo]; omega), eo]
  omega
theorem xe27_app {l : List Int32} {s : Int32} : xe27 (l ++ [s]) = xe27 l * 27 + s.toInt64 - 96 := by
  unfold xe27; rw [List.foldl_append]; rfl
theorem xe5_app {l : List Int32} {s : Int32} : xe5 (l ++ [s]) = (xe5 l <<< ((5 : Int32).toInt64 &&& 63)) ||| (s - 97 + 1).toInt64 := by
  unfold xe5; rw [List.foldl_append]; rfl
theorem xe27_v : ∀ t : List Int32, t.length ≤ 8 → (∀ s ∈ t, xLet s) → (xe27 t.reverse).toInt = xrv 27 t
  | [], _, _ => by decide
  | s :: t, hl, h => by
    have hl2 : t.length ≤ 7 := by simpa using hl
    have h2 : ∀ x ∈ t, xLet x := fun x hx => h x (List.mem_cons_of_mem _ hx)
    have b := xrv_lt (b := 27) (by decide) t h2
    have b2 := xp27 (n := t.length) (by omega)
    rw [List.reverse_cons, xe27_app]
    exact xs27 (xe27_v t (by omega) h2) (by omega) (h s (List.mem_cons_self ..))
theorem xe5_v : ∀ t : List Int32, t.length ≤ 8 → (∀ s ∈ t, xLet s) → (xe5 t.reverse).toInt = xrv 32 t
  | [], _, _ => by decide
  | s :: t, hl, h => by
    have hl2 : t.length ≤ 7 := by simpa using hl
    have h2 : ∀ x ∈ t, xLet x := fun x hx => h x (List.mem_cons_of_mem _ hx)
    have b := xrv_lt (b := 32) (by decide) t h2
    have b2 := xp32 (n := t.length) (by omega)
    rw [List.reverse_cons, xe5_app]
    exact xs5 (xe5_v t (by omega) h2) (by omega) (h s (List.mem_cons_self ..))
/-- letters, 8 at most -/
abbrev xW (l : List Int32) : Prop := l.length ≤ 8 ∧ ∀ s ∈ l, xLet s
theorem xe27_inj {l m : List Int32} (hl : xW l) (hm : xW m) : xe27 l = xe27 m ↔ l = m := by
  refine ⟨fun e => ?_, fun e => by rw [e]⟩
  have h1 := xe27_v l.reverse (by simpa using hl.1) (by simpa using hl.2)
  have h2 := xe27_v m.reverse (by simpa using hm.1) (by simpa using hm.2)
  rw [List.reverse_reverse] at h1 h2
  have := xrv_inj (b := 27) (by decide) (l := l.reverse) (m := m.reverse) (by simpa using hl.2) (by simpa using hm.2) (by rw [← h1, ← h2, e])
  exact List.reverse_inj.mp this
theorem xe5_inj {l m : List Int32} (hl : xW l) (hm : xW m) : xe5 l = xe5 m ↔ l = m := by
  refine ⟨fun e => ?_, fun e => by rw [e]⟩
  have h1 := xe5_v l.reverse (by simpa using hl.1) (by simpa using hl.2)
  have h2 := xe5_v m.reverse (by simpa using hm.1) (by simpa using hm.2)
  rw [List.reverse_reverse] at h1 h2
  have := xrv_inj (b := 32) (by decide) (l := l.reverse) (m := m.reverse) (by simpa using hl.2) (by simpa using hm.2) (by rw [← h1, ← h2, e])
  exact List.reverse_inj.mp this
/-- one word, kept in both ways -/
def xN (x y : Int64) : Prop := ∃ l, xW l ∧ x = xe5 l ∧ y = xe27 l
theorem xN.eq {x y u v : Int64} (h : xN x y) (k : xN u v) : x = u ↔ y = v := by
  obtain ⟨l, hl, rfl, rfl⟩ := h
  obtain ⟨m, hm, rfl, rfl⟩ := k
  rw [xe5_inj hl hm, xe27_inj hl hm]
theorem xcmp {x y : Int64} : lg_cmp x y = 0 ↔ x = y := by
  unfold lg_cmp
  by_cases h : x = y
  · rw [if_neg (by rw [h]; exact Int64.lt_irrefl), if_pos h]; simp [h]
  · by_cases h2 : x > y
    · rw [if_pos h2]; simp [h]
    · rw [if_neg h2, if_neg h]; simp [h]
