/-! ===== letters, and the two ways to keep a word as one number ===== -/
noncomputable abbrev xLet (s : Int32) : Prop := 97 ≤ s.toInt ∧ s.toInt ≤ 122
noncomputable def xe27 (l : List Int32) : Int64 := l.foldl (fun w s => w * 27 + s.toInt64 - 96) 0
noncomputable def xe5 (l : List Int32) : Int64 := l.foldl (fun w s => (w <<< ((5 : Int32).toInt64 &&& 63)) ||| (s - 97 + 1).toInt64) 0
noncomputable def xrv (b : Int) : List Int32 → Int
  | [] => 0
  | s :: t => xrv b t * b + (s.toInt - 96)
theorem xrv_inj {b : Int} (hb : 27 ≤ b) : ∀ {l m : List Int32}, (∀ s ∈ l, xLet s) → (∀ s ∈ m, xLet s) → xrv b l = xrv b m → l = m := by
  have nn : ∀ l : List Int32, (∀ s ∈ l, xLet s) → 0 ≤ xrv b l := by
    intro l
    induction l with
    | nil => intro _; exact Int.le_refl _
    | cons s t ih =>
      intro h
      have h1 := h s (List.mem_cons_self ..)
      have h2 := ih (fun x hx => h x (List.mem_cons_of_mem _ hx))
      show 0 ≤ xrv b t * b + (s.toInt - 96)
      have h3 : 0 ≤ xrv b t * b := Int.mul_nonneg h2 (by omega)
      have := h1.1
      omega
  intro l
  induction l with
  | nil =>
    intro m _ hm e
    match m, hm, e with
    | [], _, _ => rfl
    | s :: t, hm, e =>
      have h1 := hm s (List.mem_cons_self ..)
      have h2 := nn t (fun x hx => hm x (List.mem_cons_of_mem _ hx))
      have h3 : 0 ≤ xrv b t * b := Int.mul_nonneg h2 (by omega)
      have h4 : (0 : Int) = xrv b t * b + (s.toInt - 96) := e
      have := h1.1
      omega
  | cons s t ih =>
    intro m hl hm e
    match m, hm, e with
    | [], hm, e =>
      have h1 := hl s (List.mem_cons_self ..)
      have h2 := nn t (fun x hx => hl x (List.mem_cons_of_mem _ hx))
      have h3 : 0 ≤ xrv b t * b := Int.mul_nonneg h2 (by omega)
      have h4 : xrv b t * b + (s.toInt - 96) = 0 := e
      have := h1.1
      omega
    | s2 :: t2, hm, e =>
      have h1 := hl s (List.mem_cons_self ..)
      have h2 := hm s2 (List.mem_cons_self ..)
      have e4 : xrv b t * b + (s.toInt - 96) = xrv b t2 * b + (s2.toInt - 96) := e
      have e5 : (s.toInt - 96) % b = s.toInt - 96 := Int.emod_eq_of_lt (by have := h1.1; omega) (by have := h1.2; omega)
      have e6 : (s2.toInt - 96) % b = s2.toInt - 96 := Int.emod_eq_of_lt (by have := h2.1; omega) (by have := h2.2; omega)
      have e7 : (xrv b t * b + (s.toInt - 96)) % b = s.toInt - 96 := by rw [Int.add_comm, Int.add_mul_emod_self_right, e5]
      have e8 : (xrv b t2 * b + (s2.toInt - 96)) % b = s2.toInt - 96 := by rw [Int.add_comm, Int.add_mul_emod_self_right, e6]
      have e9 : s.toInt = s2.toInt := by rw [e4, e8] at e7; omega
      have e10 : xrv b t * b = xrv b t2 * b := by omega
      have e11 : xrv b t = xrv b t2 := Int.eq_of_mul_eq_mul_right (by omega) e10
      rw [Int32.toInt_inj.mp e9, ih (fun x hx => hl x (List.mem_cons_of_mem _ hx)) (fun x hx => hm x (List.mem_cons_of_mem _ hx)) e11]
theorem xrv_lt {b : Int} (hb : 27 ≤ b) : ∀ l : List Int32, (∀ s ∈ l, xLet s) → 0 ≤ xrv b l ∧ xrv b l < b ^ l.length
  | [], _ => ⟨Int.le_refl _, by simp [xrv]⟩
  | s :: t, h => by
    have h1 := h s (List.mem_cons_self ..)
    have ⟨h2, h3⟩ := xrv_lt hb t (fun x hx => h x (List.mem_cons_of_mem _ hx))
    have h4 : 0 ≤ xrv b t * b := Int.mul_nonneg h2 (by omega)
    have h5 : (xrv b t + 1) * b ≤ b ^ t.length * b := Int.mul_le_mul_of_nonneg_right (by omega) (by omega)
    rw [Int.add_mul] at h5
    show 0 ≤ xrv b t * b + (s.toInt - 96) ∧ xrv b t * b + (s.toInt - 96) < b ^ (t.length + 1)
    rw [Int.pow_succ]
    have := h1.1; have := h1.2
    constructor <;> omega
theorem xp27 {n : Nat} (h : n ≤ 8) : (27 : Int) ^ n ≤ 282429536481 := by
  match n, h with
  | 0, _ => decide
  | 1, _ => decide
  | 2, _ => decide
  | 3, _ => decide
  | 4, _ => decide
  | 5, _ => decide
  | 6, _ => decide
  | 7, _ => decide
  | 8, _ => decide
theorem xp32 {n : Nat} (h : n ≤ 8) : (32 : Int) ^ n ≤ 1099511627776 := by
  match n, h with
  | 0, _ => decide
  | 1, _ => decide
  | 2, _ => decide
  | 3, _ => decide
  | 4, _ => decide
  | 5, _ => decide
  | 6, _ => decide
  | 7, _ => decide
  | 8, _ => decide
theorem xs27 {w : Int64} {s : Int32} {v : Int} (hw : w.toInt = v) (h0 : 0 ≤ v ∧ v < 282429536481) (hs : xLet s) : (w * 27 + s.toInt64 - 96).toInt = v * 27 + (s.toInt - 96) := by
  have c27 : (27 : Int64).toInt = 27 := by decide
  have c96 : (96 : Int64).toInt = 96 := by decide
  have es : s.toInt64.toInt = s.toInt := Jvm.Kit.i64_of_i32 s
  have := hs.1; have := hs.2
  have e1 : (w * 27).toInt = v * 27 := by rw [Jvm.Kit.i64_mul (by rw [hw, c27]; omega) (by rw [hw, c27]; omega), hw, c27]
  have e2 : (w * 27 + s.toInt64).toInt = v * 27 + s.toInt := by rw [Jvm.Kit.i64_add (by rw [e1, es]; omega) (by rw [e1, es]; omega), e1, es]
  rw [Jvm.Kit.i64_sub (by rw [e2, c96]; omega) (by rw [e2, c96]; omega), e2, c96]
  omega
theorem xs5 {w : Int64} {s : Int32} {v : Int} (hw : w.toInt = v) (h0 : 0 ≤ v ∧ v < 1099511627776) (hs : xLet s) : ((w <<< ((5 : Int32).toInt64 &&& 63)) ||| (s - 97 + 1).toInt64).toInt = v * 32 + (s.toInt - 96) := by
  have c97 : (97 : Int32).toInt = 97 := by decide
  have c1 : (1 : Int32).toInt = 1 := by decide
  obtain ⟨hs1, hs2⟩ := hs
  have e1 : (s - 97).toInt = s.toInt - 97 := by rw [Jvm.Kit.i32_sub (by rw [c97]; omega) (by rw [c97]; omega), c97]
  have e2 : (s - 97 + 1).toInt = s.toInt - 96 := by rw [Jvm.Kit.i32_add (by rw [e1, c1]; omega) (by rw [e1, c1]; omega), e1, c1]; omega
  have e3 : (s - 97 + 1).toInt64.toInt = s.toInt - 96 := by rw [Jvm.Kit.i64_of_i32, e2]
  have bw := w.toBitVec.isLt
  have n1 : w.toBitVec.toNat = v.toNat ∧ (v.toNat : Int) = v := by
    rw [← Int64.toInt_toBitVec, BitVec.toInt_eq_toNat_cond] at hw
    split at hw <;> omega
  have bd := (s - 97 + 1).toInt64.toBitVec.isLt
  have n2 : (s - 97 + 1).toInt64.toBitVec.toNat = (s.toInt - 96).toNat ∧ ((s.toInt - 96).toNat : Int) = s.toInt - 96 := by
    rw [← Int64.toInt_toBitVec, BitVec.toInt_eq_toNat_cond] at e3
    split at e3 <;> omega
  have sh : (w <<< ((5 : Int32).toInt64 &&& 63)).toBitVec.toNat = v.toNat * 32 := by
    rw [Int64.toBitVec_shiftLeft]
    show (w.toBitVec <<< (((5 : Int32).toInt64 &&& 63).toBitVec.smod 64)).toNat = _
    rw [show (((5 : Int32).toInt64 &&& 63).toBitVec.smod 64) = 5#64 by decide]
    rw [BitVec.shiftLeft_eq', BitVec.toNat_shiftLeft, n1.1]
    rw [show (5#64).toNat = 5 by decide, Nat.shiftLeft_eq]
    omega
  have eo : ((w <<< ((5 : Int32).toInt64 &&& 63)) ||| (s - 97 + 1).toInt64).toBitVec.toNat = v.toNat * 32 + (s.toInt - 96).toNat := by
    rw [Int64.toBitVec_or, BitVec.toNat_or, sh, n2.1]
    have h5 := Nat.shiftLeft_add_eq_or_of_lt (i := 5) (b := (s.toInt - 96).toNat) (by omega) v.toNat
    rw [Nat.shiftLeft_eq] at h5
    exact h5.symm
  rw [← Int64.toInt_toBitVec, BitVec.toInt_eq_toNat_of_lt (by rw [eo]; omega), eo]
  omega
theorem xe27_app {l : List Int32} {s : Int32} : xe27 (l ++ [s]) = xe27 l * 27 + s.toInt64 - 96 := by
  unfold xe27; rw [List.foldl_append]; rfl
theorem xe5_app {l : List Int32} {s : Int32} : xe5 (l ++ [s]) = (xe5 l <<< ((5 : Int32).toInt64 &&& 63)) ||| (s - 97 + 1).toInt64 := by
  unfold xe5; rw [List.foldl_append]; rfl
theorem xe27_v : ∀ t : List Int32, t.length ≤ 8 → (∀ s ∈ t, xLet s) → (xe27 t.reverse).toInt = xrv 27 t
  | [], _, _ => by decide
  | s :: t, hl, h => by
    have hl2 : t.length ≤ 7 := by simpa using hl
    have h2 : ∀ x ∈ t, xLet x := fun x hx => h x (List.mem_cons_of_mem _ hx)
    have b := xrv_lt (b := 27) (by decide) t h2
    have b2 := xp27 (n := t.length) (by omega)
    rw [List.reverse_cons, xe27_app]
    exact xs27 (xe27_v t (by omega) h2) (by omega) (h s (List.mem_cons_self ..))
theorem xe5_v : ∀ t : List Int32, t.length ≤ 8 → (∀ s ∈ t, xLet s) → (xe5 t.reverse).toInt = xrv 32 t
  | [], _, _ => by decide
  | s :: t, hl, h => by
    have hl2 : t.length ≤ 7 := by simpa using hl
    have h2 : ∀ x ∈ t, xLet x := fun x hx => h x (List.mem_cons_of_mem _ hx)
    have b := xrv_lt (b := 32) (by decide) t h2
    have b2 := xp32 (n := t.length) (by omega)
    rw [List.reverse_cons, xe5_app]
    exact xs5 (xe5_v t (by omega) h2) (by omega) (h s (List.mem_cons_self ..))
/-- letters, 8 at most -/
noncomputable abbrev xW (l : List Int32) : Prop := l.length ≤ 8 ∧ ∀ s ∈ l, xLet s
theorem xe27_inj {l m : List Int32} (hl : xW l) (hm : xW m) : xe27 l = xe27 m ↔ l = m := by
  refine ⟨fun e => ?_, fun e => by rw [e]⟩
  have h1 := xe27_v l.reverse (by simpa using hl.1) (by simpa using hl.2)
  have h2 := xe27_v m.reverse (by simpa using hm.1) (by simpa using hm.2)
  rw [List.reverse_reverse] at h1 h2
  have := xrv_inj (b := 27) (by decide) (l := l.reverse) (m := m.reverse) (by simpa using hl.2) (by simpa using hm.2) (by rw [← h1, ← h2, e])
  exact List.reverse_inj.mp this
theorem xe5_inj {l m : List Int32} (hl : xW l) (hm : xW m) : xe5 l = xe5 m ↔ l = m := by
  refine ⟨fun e => ?_, fun e => by rw [e]⟩
  have h1 := xe5_v l.reverse (by simpa using hl.1) (by simpa using hl.2)
  have h2 := xe5_v m.reverse (by simpa using hm.1) (by simpa using hm.2)
  rw [List.reverse_reverse] at h1 h2
  have := xrv_inj (b := 32) (by decide) (l := l.reverse) (m := m.reverse) (by simpa using hl.2) (by simpa using hm.2) (by rw [← h1, ← h2, e])
  exact List.reverse_inj.mp this
/-- one word, kept in both ways -/
noncomputable def xN (x y : Int64) : Prop := ∃ l, xW l ∧ x = xe5 l ∧ y = xe27 l
theorem xN.eq {x y u v : Int64} (h : xN x y) (k : xN u v) : x = u ↔ y = v := by
  obtain ⟨l, hl, rfl, rfl⟩ := h
  obtain ⟨m, hm, rfl, rfl⟩ := k
  rw [xe5_inj hl hm, xe27_inj hl hm]
theorem xcmp {x y : Int64} : lg_cmp x y = 0 ↔ x = y := by
  unfold lg_cmp
  by_cases h : x = y
  · rw [if_neg (by rw [h]; exact Int64.lt_irrefl), if_pos h]; simp [h]
  · by_cases h2 : x > y
    · rw [if_pos h2]; simp [h]
    · rw [if_neg h2, if_neg h]; simp [h]
/-! ===== what stands on the tape, and which constant of Sort it spells ===== -/
theorem xzn {n : Nat} (h : n < 2 ^ 31) : zn (nI n) = n := by
  unfold zn; rw [nI_toInt h]; omega
noncomputable def xsg (f : Nat → Int32) (p c : Nat) : List Int32 := (List.range c).map (fun j => f (p + j))
theorem xsg_len {f : Nat → Int32} {p c : Nat} : (xsg f p c).length = c := by unfold xsg; rw [List.length_map, List.length_range]
theorem xsg_get {f : Nat → Int32} {p c j : Nat} (h : j < c) : (xsg f p c)[j]? = some (f (p + j)) := by
  unfold xsg; rw [List.getElem?_map, List.getElem?_range h]; rfl
theorem xsg_s {f : Nat → Int32} {p c : Nat} : xsg f p (c + 1) = xsg f p c ++ [f (p + c)] := by
  unfold xsg; rw [List.range_succ, List.map_append]; rfl
theorem xsg_congr {f g : Nat → Int32} {p c : Nat} (h : ∀ j, j < c → f (p + j) = g (p + j)) : xsg f p c = xsg g p c := by
  unfold xsg
  exact List.map_congr_left (fun j hj => h j (List.mem_range.mp hj))
theorem xeL : ∀ t, t < 37 → (eB.getD t []).length = eL.getD t 0 ∧ eL.getD t 0 ≤ 8 := by decide +kernel
theorem xklen : ∀ t, t < 37 → Gk_length t = nI (eL.getD t 0) := by decide +kernel
theorem xkchar : ∀ t, t < 37 → ∀ j, j < 8 → Gk_charAt t (nI j) = (eB.getD t []).getD j 0 := by decide +kernel
theorem xspell_loop {r : zRr} {t p L : Nat} (ht : t < 37) (hb : r 196 2 = nI p) (hL : r 196 1 = nI L) (hc : p + eL.getD t 0 ≤ L) (h1000 : L ≤ 1000) : ∀ n j : Nat, j ≤ eL.getD t 0 → eL.getD t 0 < n + j → ((∀ i, j ≤ i → i < eL.getD t 0 → r 197 (p + i) = (eB.getD t []).getD i 0) → Gk_spells_20 t r n (nI j) = 1) ∧ ((¬ ∀ i, j ≤ i → i < eL.getD t 0 → r 197 (p + i) = (eB.getD t []).getD i 0) → Gk_spells_20 t r n (nI j) = 0) := by
  intro n
  have h8 := (xeL t ht).2
  induction n with
  | zero => intro j h1 h2; omega
  | succ n ih =>
    intro j h1 h2
    have e0 : Gk_spells_20 t r (n + 1) (nI j) = Bk_spells_20 t r (Gk_spells_20 t r n) (nI j) := rfl
    rw [e0]
    simp only [Bk_spells_20, zlet, zif, xklen t ht, hb, hL]
    by_cases hj : eL.getD t 0 ≤ j
    · rw [if_pos ((nI_leI (by omega) (by omega)).mpr hj)]
      exact ⟨fun _ => rfl, fun h => absurd (fun i h3 h4 => by omega) h⟩
    · rw [if_neg (fun h => hj ((nI_leI (by omega) (by omega)).mp h)), nI_add, if_neg (fun h => by have := (nI_leI (by omega) (by omega)).mp h; omega), xzn (by omega), xkchar t ht j (by omega)]
      by_cases he : r 197 (p + j) = (eB.getD t []).getD j 0
      · rw [if_pos he, nI_1]
        obtain ⟨i1, i2⟩ := ih (j + 1) (by omega) (by omega)
        refine ⟨fun h => i1 (fun i h3 h4 => h i (by omega) h4), fun h => i2 (fun h5 => h (fun i h3 h4 => ?_))⟩
        by_cases e : i = j
        · rw [e]; exact he
        · exact h5 i (by omega) h4
      · rw [if_neg he]
        exact ⟨fun h => absurd (h j (Nat.le_refl _) (by omega)) he, fun _ => rfl⟩
theorem xspells {r : zRr} {q : zRq} {t p c L : Nat} (ht : t < 37) (hb : r 196 2 = nI p) (hn : r 196 3 = nI (p + c)) (hL : r 196 1 = nI L) (hc : p + c ≤ L) (h1000 : L ≤ 1000) : Gk_spells t r q = if xsg (r 197) p c = eB.getD t [] then 1 else 0 := by
  have h8 := xeL t ht
  unfold Gk_spells
  simp only [zlet, zif, xklen t ht, hb, hn]
  have e1 : nI (p + c) - nI p = nI c := by rw [← nI_add, Int32.add_comm, Int32.add_sub_cancel]
  rw [e1]
  by_cases hcl : c = eL.getD t 0
  · rw [if_pos (by rw [hcl]), ← nI_0]
    obtain ⟨i1, i2⟩ := xspell_loop ht hb hL (by omega) h1000 9 0 (by omega) (by omega)
    by_cases h : xsg (r 197) p c = eB.getD t []
    · rw [if_pos h]
      refine i1 (fun i _ h4 => ?_)
      have h5 := xsg_get (f := r 197) (p := p) (c := c) (j := i) (by omega)
      rw [h] at h5
      rw [List.getD_eq_getElem?_getD, h5]; rfl
    · rw [if_neg h]
      refine i2 (fun h9 => h ?_)
      apply List.ext_getElem?
      intro j
      by_cases hj : j < c
      · rw [xsg_get hj, h9 j (by omega) (by omega), List.getD_eq_getElem?_getD, List.getElem?_eq_getElem (by omega)]; rfl
      · rw [List.getElem?_eq_none (by rw [xsg_len]; omega), List.getElem?_eq_none (by omega)]
  · rw [if_neg (fun h => hcl ((nI_eq (by omega) (by omega)).mp h)), if_neg (fun h => hcl (by rw [← h8.1, ← h, xsg_len]))]
noncomputable def xfi (l : List Int32) : Nat := (eB.take 29).findIdx (fun x => x == l)
theorem xsort_loop {r : zRr} {q : zRq} {P : Nat → Prop} [DecidablePred P] (hs : ∀ t, t < 33 → Gk_spells t r q = if P t then 1 else 0) (a : Int32) : ∀ n k : Nat, 33 < n + k → k ≤ 33 → (∀ i, k ≤ i → i < 33 → (∀ j, k ≤ j → j < i → ¬ P j) → P i → Gk_sortAs_2 r q n a (nI k) = nI i) ∧ ((∀ j, k ≤ j → j < 33 → ¬ P j) → Gk_sortAs_2 r q n a (nI k) = a) := by
  intro n
  induction n with
  | zero => intro k h1 h2; omega
  | succ n ih =>
    intro k h1 h2
    have e0 : Gk_sortAs_2 r q (n + 1) a (nI k) = Bk_sortAs_2 r q (Gk_sortAs_2 r q n) a (nI k) := rfl
    rw [e0]
    simp only [Bk_sortAs_2, zlet, zif]
    rw [show (33 : Int32) = nI 33 from rfl]
    by_cases hk : 33 ≤ k
    · rw [if_pos ((nI_leI (by omega) (by omega)).mpr hk)]
      exact ⟨fun i h3 h4 => by omega, fun _ => rfl⟩
    · rw [if_neg (fun h => hk ((nI_leI (by omega) (by omega)).mp h)), xzn (by omega), hs k (by omega)]
      obtain ⟨i1, i2⟩ := ih (k + 1) (by omega) (by omega)
      by_cases hP : P k
      · rw [if_pos hP, if_neg (by decide)]
        refine ⟨fun i h3 h4 h5 h6 => ?_, fun h => absurd hP (h k (Nat.le_refl _) (by omega))⟩
        by_cases e : i = k
        · rw [e]
        · exact absurd hP (h5 k (Nat.le_refl _) (by omega))
      · rw [if_neg hP, if_pos rfl, nI_1]
        refine ⟨fun i h3 h4 h5 h6 => i1 i ?_ h4 (fun j h7 h8 => h5 j (by omega) h8) h6, fun h => i2 (fun j h7 h8 => h j (by omega) h8)⟩
        rcases Nat.lt_or_ge k i with h | h
        · exact h
        · have : i = k := by omega
          rw [this] at h6; exact absurd h6 hP
theorem xeB4' : ∀ t, t < 33 → 29 ≤ t → eB.getD t [] = [] := by decide +kernel
theorem xeB4 (t : Nat) (h : 29 ≤ t) (h2 : t < 33) : eB.getD t [] = [] := xeB4' t h2 h
theorem xsortAs {r : zRr} {q : zRq} {a : Int32} {p c L : Nat} (hb : r 196 2 = nI p) (hn : r 196 3 = nI (p + c)) (hL : r 196 1 = nI L) (hc : p + c ≤ L) (h1000 : L ≤ 1000) (h1 : 1 ≤ c) : Gk_sortAs a r q = if xfi (xsg (r 197) p c) < 29 then nI (xfi (xsg (r 197) p c)) else a := by
  have hs : ∀ t, t < 33 → Gk_spells t r q = if xsg (r 197) p c = eB.getD t [] then 1 else 0 := fun t ht => xspells (by omega) hb hn hL hc h1000
  have hlp := xsort_loop hs a 34 0 (by omega) (by omega)
  have l29 : (eB.take 29).length = 29 := by decide
  have hge : ∀ t, 29 ≤ t → t < 33 → ¬ xsg (r 197) p c = eB.getD t [] := by
    intro t h2 h3 e
    rw [xeB4 t h2 h3] at e
    have := xsg_len (f := r 197) (p := p) (c := c)
    rw [e] at this
    simp at this
    omega
  have hgt : ∀ t, t < 29 → (eB.take 29)[t]? = some (eB.getD t []) := by decide +kernel
  unfold Gk_sortAs
  rw [show (0 : Int32) = nI 0 from nI_0.symm]
  by_cases hf : xfi (xsg (r 197) p c) < 29
  · rw [if_pos hf]
    have hf2 : (eB.take 29).findIdx (fun x => x == xsg (r 197) p c) < (eB.take 29).length := by rw [l29]; exact hf
    refine hlp.1 _ (by omega) (by omega) ?_ ?_
    · intro j _ hj e
      have h5 := List.not_of_lt_findIdx (xs := eB.take 29) (p := fun x => x == xsg (r 197) p c) (i := j) hj
      have h6 := hgt j (by omega)
      rw [List.getElem?_eq_getElem (by omega)] at h6
      rw [Option.some.inj h6, ← e] at h5
      simp at h5
    · have h5 := List.findIdx_getElem (xs := eB.take 29) (p := fun x => x == xsg (r 197) p c) (w := hf2)
      have h6 := hgt (xfi (xsg (r 197) p c)) hf
      unfold xfi at h6
      rw [List.getElem?_eq_getElem hf2] at h6
      rw [Option.some.inj h6] at h5
      exact (eq_of_beq h5).symm
  · rw [if_neg hf]
    refine hlp.2 ?_
    intro j _ hj e
    by_cases h29 : 29 ≤ j
    · exact hge j h29 hj e
    · apply hf
      have h6 := hgt j (by omega)
      have hm : eB.getD j [] ∈ eB.take 29 := List.mem_of_getElem? h6
      have := List.findIdx_lt_length_of_exists (p := fun x => x == xsg (r 197) p c) ⟨_, hm, by rw [e]; simp⟩
      rw [l29] at this
      exact this
section
/-! ===== the two readers of tokens, side by side ===== -/
noncomputable abbrev xP (L p : Nat) (r rm : zRr) : Prop := r 196 1 = nI L ∧ rm 103 0 = nI L ∧ r 196 3 = nI p ∧ rm 104 0 = nI p ∧ (∀ i, i < L → r 197 i = rm 0 i) ∧ L ≤ 1000 ∧ p ≤ L
noncomputable abbrev xB (b : Nat) (r rm : zRr) : Prop := r 196 2 = nI b ∧ rm 105 0 = nI b
section XPB
variable {L p b : Nat} {r rm : zRr}
theorem xP.l1 (h : xP L p r rm) : r 196 1 = nI L := h.1
theorem xP.l2 (h : xP L p r rm) : rm 103 0 = nI L := h.2.1
theorem xP.p1 (h : xP L p r rm) : r 196 3 = nI p := h.2.2.1
theorem xP.p2 (h : xP L p r rm) : rm 104 0 = nI p := h.2.2.2.1
theorem xP.cell (h : xP L p r rm) : ∀ i, i < L → r 197 i = rm 0 i := h.2.2.2.2.1
theorem xP.hL (h : xP L p r rm) : L ≤ 1000 := h.2.2.2.2.2.1
theorem xP.hp (h : xP L p r rm) : p ≤ L := h.2.2.2.2.2.2
theorem xB.b1 (h : xB b r rm) : r 196 2 = nI b := h.1
theorem xB.b2 (h : xB b r rm) : rm 105 0 = nI b := h.2
end XPB
noncomputable def xFq (M : List Nat) (q q1 : zRq) : Prop := ∀ k, M.contains k = false → q1 k = q k
theorem xFq.refl {M : List Nat} {q : zRq} : xFq M q q := fun _ _ => rfl
theorem xFq.set {M : List Nat} {q q1 : zRq} (h : xFq M q q1) {k : Nat} {g : Nat → Int64} (hk : M.contains k = true) : xFq M q (zset q1 k g) := by
  intro a ha
  rw [zset_ne (fun e => by rw [e, hk] at ha; cases ha)]; exact h a ha
theorem xFq.tr {M M1 : List Nat} {q q1 q2 : zRq} (h : xFq M q q1) (h1 : xFq M1 q1 q2) (hk : M1.all (fun k => M.contains k) = true) : xFq M q q2 := by
  intro a ha
  rw [h1 a ?_]; · exact h a ha
  cases e : M1.contains a with
  | false => rfl
  | true =>
    have := List.all_eq_true.mp hk a (List.contains_iff_mem.mp e)
    rw [ha] at this; cases this
/-- what a reader of tokens leaves as it was: the class, the reference -/
noncomputable def xFk (r : zRr) (q : zRq) (r1 : zRr) (q1 : zRq) : Prop := zFr [196] r r1 ∧ xFq [196] q q1
noncomputable def xFm (r : zRr) (q : zRq) (r1 : zRr) (q1 : zRq) : Prop := zFr [104, 105, 106, 108] r r1 ∧ xFq [107] q q1
theorem xFk.refl {r : zRr} {q : zRq} : xFk r q r q := ⟨zFr.refl, xFq.refl⟩
theorem xFm.refl {r : zRr} {q : zRq} : xFm r q r q := ⟨zFr.refl, xFq.refl⟩
theorem xFk.tr {r r1 r2 : zRr} {q q1 q2 : zRq} (h : xFk r q r1 q1) (k : xFk r1 q1 r2 q2) : xFk r q r2 q2 := ⟨h.1.tr k.1 rfl, h.2.tr k.2 rfl⟩
theorem xFm.tr {r r1 r2 : zRr} {q q1 q2 : zRq} (h : xFm r q r1 q1) (k : xFm r1 q1 r2 q2) : xFm r q r2 q2 := ⟨h.1.tr k.1 rfl, h.2.tr k.2 rfl⟩
theorem xlet_iff {v : Int32} : Gk_isLetter v = 0 ↔ ¬ xLet v := by
  have c97 : (97 : Int32).toInt = 97 := by decide
  have c122 : (122 : Int32).toInt = 122 := by decide
  unfold Gk_isLetter xLet zif
  by_cases h1 : v < 97
  · rw [if_pos h1]; have := Int32.lt_iff_toInt_lt.mp h1; simp; omega
  · rw [if_neg h1]; rw [Int32.lt_iff_toInt_lt] at h1
    by_cases h2 : 122 < v
    · rw [if_pos h2]; rw [Int32.lt_iff_toInt_lt] at h2; simp; omega
    · rw [if_neg h2]; rw [Int32.lt_iff_toInt_lt] at h2; simp; omega
noncomputable def xDig (s : Int32) : Prop := 48 ≤ s.toInt ∧ s.toInt ≤ 57
theorem xdig_iff {v : Int32} : Gk_isDigit v = 0 ↔ ¬ xDig v := by
  have c97 : (48 : Int32).toInt = 48 := by decide
  have c122 : (57 : Int32).toInt = 57 := by decide
  unfold Gk_isDigit xDig zif
  by_cases h1 : v < 48
  · rw [if_pos h1]; have := Int32.lt_iff_toInt_lt.mp h1; simp; omega
  · rw [if_neg h1]; rw [Int32.lt_iff_toInt_lt] at h1
    by_cases h2 : 57 < v
    · rw [if_pos h2]; rw [Int32.lt_iff_toInt_lt] at h2; simp; omega
    · rw [if_neg h2]; rw [Int32.lt_iff_toInt_lt] at h2; simp; omega
theorem xsignAt {rm : zRr} {qm : zRq} {L p : Nat} (hL : rm 103 0 = nI L) (h : L ≤ 1000) (hp : p ≤ L) : Gm_signAt (nI p) rm qm = if p < L then rm 0 p else 0 := by
  unfold Gm_signAt zif
  rw [hL]
  by_cases h1 : p < L
  · rw [if_pos h1, if_neg (fun h2 => by have := (nI_leI (by omega) (by omega)).mp h2; omega), xzn (by omega)]
  · rw [if_neg h1, if_pos ((nI_leI (by omega) (by omega)).mpr (by omega))]
/-- a word, sign by sign -/
theorem xword {L b : Nat} : ∀ (n p : Nat) (r : zRr) (q : zRq) (rm : zRr) (qm : zRq), xP L p r rm → xB b r rm → b ≤ p → (∀ s ∈ xsg (r 197) b (p - b), xLet s) → (p - b ≤ 8 → q 196 6 = xe5 (xsg (r 197) b (p - b)) ∧ qm 107 0 = xe27 (xsg (r 197) b (p - b))) → L - p < n →
    ∃ e r1 q1 rm1 qm1, Gk_stepOverWord_5 n r q = (r1, q1) ∧ Gm_nextToken_109 n rm qm = Gm_nextToken_188 rm1 qm1 ∧ xP L e r1 rm1 ∧ xB b r1 rm1 ∧ p ≤ e ∧ (∀ s ∈ xsg (r 197) b (e - b), xLet s) ∧ (e - b ≤ 8 → q1 196 6 = xe5 (xsg (r 197) b (e - b)) ∧ qm1 107 0 = xe27 (xsg (r 197) b (e - b))) ∧ (p < L → xLet (r 197 p) → p < e) ∧ xFk r q r1 q1 ∧ xFm rm qm rm1 qm1 := by
  intro n
  induction n with
  | zero => intro p r q rm qm hP hB hbp hl hw hn; omega
  | succ n ih =>
    intro p r q rm qm hP hB hbp hl hw hn
    have e0 : Gk_stepOverWord_5 (n + 1) r q = Bk_stepOverWord_5 (Gk_stepOverWord_5 n) r q := rfl
    have e1 : Gm_nextToken_109 (n + 1) rm qm = Bm_nextToken_109 (Gm_nextToken_109 n) rm qm := rfl
    have hL := hP.hL; have hp := hP.hp
    rw [e0, e1]
    simp only [Bk_stepOverWord_5, Bm_nextToken_109, zlet, zif, hP.l1, hP.p1, hP.p2, xsignAt hP.l2 hP.hL hP.hp]
    by_cases h1 : p < L
    · rw [if_neg (fun h => by have := (nI_leI (by omega) (by omega)).mp h; omega), xzn (by omega), if_pos h1, ← hP.cell p h1]
      by_cases h2 : xLet (r 197 p)
      · have c97 : (97 : Int32).toInt = 97 := by decide
        have c122 : (122 : Int32).toInt = 122 := by decide
        rw [if_neg (fun h => xlet_iff.mp h h2), if_neg (fun h => by have := Int32.lt_iff_toInt_lt.mp h; have := h2.1; omega), if_neg (fun h => by have := Int32.lt_iff_toInt_lt.mp h; have := h2.2; omega)]
        have hs : xsg (r 197) b (p + 1 - b) = xsg (r 197) b (p - b) ++ [r 197 p] := by
          rw [show p + 1 - b = p - b + 1 by omega, xsg_s, show b + (p - b) = p by omega]
        have hl2 : ∀ s ∈ xsg (r 197) b (p + 1 - b), xLet s := by
          intro s hs2
          rw [hs] at hs2
          rcases List.mem_append.mp hs2 with h | h
          · exact hl s h
          · rw [List.mem_singleton.mp h]; exact h2
        have ed : nI p - rm 105 0 = nI (p - b) := by
          rw [hB.b2]
          have : p = (p - b) + b := by omega
          rw [show nI p = nI ((p - b) + b) by rw [← this], ← nI_add, Int32.add_sub_cancel]
        rw [ed, show (8 : Int32) = nI 8 from rfl]
        by_cases h3 : 8 ≤ p - b
        · rw [if_pos ((nI_leI (a := 8) (by omega) (by omega)).mpr h3)]
          obtain ⟨e, r1, q1, rm1, qm1, a1, a2, a3, a4, a5, a6, a7, a8, a9, a10⟩ := ih (p + 1) (zset r 196 (upd (r 196) 3 (nI p + 1))) (zset q 196 (vp_updL (q 196) 6 ((q 196 6 <<< ((5 : Int32).toInt64 &&& 63)) ||| (r 197 p - 97 + 1).toInt64))) (zset rm 104 (fun _ => nI p + 1)) qm ⟨hP.l1, hP.l2, nI_1 p, nI_1 p, hP.cell, hP.hL, h1⟩ ⟨hB.b1, hB.b2⟩ (by omega) hl2 (fun h => by omega) (by omega)
          exact ⟨e, r1, q1, rm1, qm1, a1, a2, a3, a4, by omega, a6, a7, fun _ _ => by omega, ⟨(zFr.refl.set rfl).tr a9.1 rfl, (xFq.refl.set rfl).tr a9.2 rfl⟩, ⟨(zFr.refl.set rfl).tr a10.1 rfl, a10.2⟩⟩
        · rw [if_neg (fun h => h3 ((nI_leI (a := 8) (by omega) (by omega)).mp h))]
          obtain ⟨w1, w2⟩ := hw (by omega)
          obtain ⟨e, r1, q1, rm1, qm1, a1, a2, a3, a4, a5, a6, a7, a8, a9, a10⟩ := ih (p + 1) (zset r 196 (upd (r 196) 3 (nI p + 1))) (zset q 196 (vp_updL (q 196) 6 ((q 196 6 <<< ((5 : Int32).toInt64 &&& 63)) ||| (r 197 p - 97 + 1).toInt64))) (zset rm 104 (fun _ => nI p + 1)) (zset qm 107 (fun _ => qm 107 0 * 27 + (r 197 p).toInt64 - 96)) ⟨hP.l1, hP.l2, nI_1 p, nI_1 p, hP.cell, hP.hL, h1⟩ ⟨hB.b1, hB.b2⟩ (by omega) hl2 (fun _ => by
            show (q 196 6 <<< ((5 : Int32).toInt64 &&& 63)) ||| (r 197 p - 97 + 1).toInt64 = xe5 (xsg (r 197) b (p + 1 - b)) ∧ qm 107 0 * 27 + (r 197 p).toInt64 - 96 = xe27 (xsg (r 197) b (p + 1 - b))
            rw [hs, xe5_app, xe27_app, w1, w2]; exact ⟨rfl, rfl⟩) (by omega)
          exact ⟨e, r1, q1, rm1, qm1, a1, a2, a3, a4, by omega, a6, a7, fun _ _ => by omega, ⟨(zFr.refl.set rfl).tr a9.1 rfl, (xFq.refl.set rfl).tr a9.2 rfl⟩, ⟨(zFr.refl.set rfl).tr a10.1 rfl, (xFq.refl.set rfl).tr a10.2 rfl⟩⟩
      · rw [if_pos (xlet_iff.mpr h2)]
        refine ⟨p, r, q, rm, qm, rfl, ?_, hP, hB, Nat.le_refl _, hl, hw, fun _ h => absurd h h2, xFk.refl, xFm.refl⟩
        by_cases h3 : r 197 p < 97
        · rw [if_pos h3]
        · rw [if_neg h3, if_pos]
          have c97 : (97 : Int32).toInt = 97 := by decide
          have c122 : (122 : Int32).toInt = 122 := by decide
          rw [Int32.lt_iff_toInt_lt] at h3 ⊢
          unfold xLet at h2
          omega
    · rw [if_pos ((nI_leI (by omega) (by omega)).mpr (by omega)), if_neg h1, if_pos (by decide)]
      exact ⟨p, r, q, rm, qm, rfl, rfl, hP, hB, Nat.le_refl _, hl, hw, fun h => absurd h h1, xFk.refl, xFm.refl⟩
/-- a number, digit by digit -/
theorem xnumber {L b : Nat} {qm : zRq} : ∀ (n p : Nat) (r rm : zRr), xP L p r rm → xB b r rm → b ≤ p → (p - b ≤ 4 → r 196 5 = rm 108 0 ∧ 0 ≤ (rm 108 0).toInt ∧ (rm 108 0).toInt < 10 ^ (p - b)) → L - p < n →
    ∃ e r1 rm1, Gk_stepOverNumber_5 n r = r1 ∧ Gm_nextToken_224 n rm qm = Gm_nextToken_299 rm1 qm ∧ xP L e r1 rm1 ∧ xB b r1 rm1 ∧ p ≤ e ∧ (e - b ≤ 4 → r1 196 5 = rm1 108 0 ∧ 0 ≤ (rm1 108 0).toInt ∧ (rm1 108 0).toInt < 10 ^ (e - b)) ∧ (p < L → xDig (r 197 p) → p < e) ∧ zFr [196] r r1 ∧ zFr [104, 105, 106, 108] rm rm1 := by
  intro n
  induction n with
  | zero => intro p r rm hP hB hbp hw hn; omega
  | succ n ih =>
    intro p r rm hP hB hbp hw hn
    have e0 : Gk_stepOverNumber_5 (n + 1) r = Bk_stepOverNumber_5 (Gk_stepOverNumber_5 n) r := rfl
    have e1 : Gm_nextToken_224 (n + 1) rm qm = Bm_nextToken_224 (Gm_nextToken_224 n) rm qm := rfl
    have hL := hP.hL; have hp := hP.hp
    rw [e0, e1]
    simp only [Bk_stepOverNumber_5, Bm_nextToken_224, zlet, zif, hP.l1, hP.p1, hP.p2, xsignAt hP.l2 hP.hL hP.hp]
    by_cases h1 : p < L
    · rw [if_neg (fun h => by have := (nI_leI (by omega) (by omega)).mp h; omega), xzn (by omega), if_pos h1, ← hP.cell p h1]
      by_cases h2 : xDig (r 197 p)
      · have c97 : (48 : Int32).toInt = 48 := by decide
        have c122 : (57 : Int32).toInt = 57 := by decide
        rw [if_neg (fun h => xdig_iff.mp h h2), if_neg (fun h => by have := Int32.lt_iff_toInt_lt.mp h; have := h2.1; omega), if_neg (fun h => by have := Int32.lt_iff_toInt_lt.mp h; have := h2.2; omega)]
        have ed : nI p - rm 105 0 = nI (p - b) := by
          rw [hB.b2]
          have : p = (p - b) + b := by omega
          rw [show nI p = nI ((p - b) + b) by rw [← this], ← nI_add, Int32.add_sub_cancel]
        rw [ed, show (4 : Int32) = nI 4 from rfl]
        by_cases h3 : 4 ≤ p - b
        · rw [if_pos ((nI_leI (a := 4) (by omega) (by omega)).mpr h3)]
          obtain ⟨e, r1, rm1, a1, a2, a3, a4, a5, a6, a7, a8, a9⟩ := ih (p + 1) (zset (zset r 196 (upd (r 196) 5 (r 196 5 * 10 + (r 197 p - 48)))) 196 (upd (zset r 196 (upd (r 196) 5 (r 196 5 * 10 + (r 197 p - 48))) 196) 3 (zset r 196 (upd (r 196) 5 (r 196 5 * 10 + (r 197 p - 48))) 196 3 + 1))) (zset rm 104 (fun _ => nI p + 1)) ⟨hP.l1, hP.l2, by show r 196 3 + 1 = _; rw [hP.p1]; exact nI_1 p, nI_1 p, hP.cell, hP.hL, h1⟩ ⟨hB.b1, hB.b2⟩ (by omega) (fun h => by omega) (by omega)
          exact ⟨e, r1, rm1, a1, a2, a3, a4, by omega, a6, fun _ _ => by omega, ((zFr.refl.set rfl).set rfl).tr a8 rfl, (zFr.refl.set rfl).tr a9 rfl⟩
        · rw [if_neg (fun h => h3 ((nI_leI (a := 4) (by omega) (by omega)).mp h))]
          obtain ⟨w1, w2, w3⟩ := hw (by omega)
          have w4 : (10 : Int) ^ (p - b) ≤ 1000 := by
            rcases (show p - b = 0 ∨ p - b = 1 ∨ p - b = 2 ∨ p - b = 3 by omega) with h | h | h | h <;> rw [h] <;> decide
          have w5 := mtold (t := rm 108 0) (u := r 197 p) ⟨w2, by omega⟩ h2
          obtain ⟨e, r1, rm1, a1, a2, a3, a4, a5, a6, a7, a8, a9⟩ := ih (p + 1) (zset (zset r 196 (upd (r 196) 5 (r 196 5 * 10 + (r 197 p - 48)))) 196 (upd (zset r 196 (upd (r 196) 5 (r 196 5 * 10 + (r 197 p - 48))) 196) 3 (zset r 196 (upd (r 196) 5 (r 196 5 * 10 + (r 197 p - 48))) 196 3 + 1))) (zset (zset rm 108 (fun _ => rm 108 0 * 10 + r 197 p - 48)) 104 (fun _ => zset rm 108 (fun _ => rm 108 0 * 10 + r 197 p - 48) 104 0 + 1)) ⟨hP.l1, hP.l2, by show r 196 3 + 1 = _; rw [hP.p1]; exact nI_1 p, by show rm 104 0 + 1 = _; rw [hP.p2]; exact nI_1 p, hP.cell, hP.hL, h1⟩ ⟨hB.b1, hB.b2⟩ (by omega) (fun _ => by
            show r 196 5 * 10 + (r 197 p - 48) = rm 108 0 * 10 + r 197 p - 48 ∧ 0 ≤ (rm 108 0 * 10 + r 197 p - 48).toInt ∧ (rm 108 0 * 10 + r 197 p - 48).toInt < 10 ^ (p + 1 - b)
            rw [show p + 1 - b = p - b + 1 by omega, Int.pow_succ, w5]
            have := h2.1; have := h2.2
            refine ⟨by rw [w1, Int32.sub_eq_add_neg, Int32.sub_eq_add_neg, Int32.add_assoc], by omega, by omega⟩) (by omega)
          exact ⟨e, r1, rm1, a1, a2, a3, a4, by omega, a6, fun _ _ => by omega, ((zFr.refl.set rfl).set rfl).tr a8 rfl, ((zFr.refl.set rfl).set rfl).tr a9 rfl⟩
      · rw [if_pos (xdig_iff.mpr h2)]
        refine ⟨p, r, rm, rfl, ?_, hP, hB, Nat.le_refl _, hw, fun _ h => absurd h h2, zFr.refl, zFr.refl⟩
        by_cases h3 : r 197 p < 48
        · rw [if_pos h3]
        · rw [if_neg h3, if_pos]
          have c97 : (48 : Int32).toInt = 48 := by decide
          have c122 : (57 : Int32).toInt = 57 := by decide
          rw [Int32.lt_iff_toInt_lt] at h3 ⊢
          unfold xDig at h2
          omega
    · rw [if_pos ((nI_leI (by omega) (by omega)).mpr (by omega)), if_neg h1, if_pos (by decide)]
      exact ⟨p, r, rm, rfl, rfl, hP, hB, Nat.le_refl _, hw, fun h => absurd h h1, zFr.refl, zFr.refl⟩
end
section
/-! ===== one token further, on both sides ===== -/
noncomputable def xKd (L b p : Nat) (r : zRr) (q : zRq) (rm : zRr) (qm : zRq) : Prop :=
  (r 196 4 = 31 ∧ rm 106 0 = 0 ∧ b = L) ∨
  (b < p ∧ ((rm 106 0 = 1 ∧ xW (xsg (r 197) b (p - b)) ∧ r 196 4 = nI (xfi (xsg (r 197) b (p - b))) ∧ q 196 6 = xe5 (xsg (r 197) b (p - b)) ∧ qm 107 0 = xe27 (xsg (r 197) b (p - b))) ∨
   (rm 106 0 = 2 ∧ r 196 4 = 30 ∧ r 196 5 = rm 108 0 ∧ zI 0 9999 (rm 108 0)) ∨
   (rm 106 0 = 3 ∧ p = b + 1 ∧ 21 ≤ xfi [r 197 b] ∧ xfi [r 197 b] < 29 ∧ r 196 4 = nI (xfi [r 197 b])) ∨
   (rm 106 0 = 4 ∧ r 196 4 = 32)))
noncomputable abbrev xTok (L b p : Nat) (r : zRr) (q : zRq) (rm : zRr) (qm : zRq) : Prop := xP L p r rm ∧ xB b r rm ∧ b ≤ p ∧ xKd L b p r q rm qm
section XTK
variable {L b p : Nat} {r : zRr} {q : zRq} {rm : zRr} {qm : zRq}
theorem xTok.P (h : xTok L b p r q rm qm) : xP L p r rm := h.1
theorem xTok.B (h : xTok L b p r q rm qm) : xB b r rm := h.2.1
theorem xTok.hb (h : xTok L b p r q rm qm) : b ≤ p := h.2.2.1
theorem xTok.k (h : xTok L b p r q rm qm) : xKd L b p r q rm qm := h.2.2.2
end XTK
theorem xfi1 {s : Int32} : xfi [s] = if s = 40 then 21 else if s = 41 then 22 else if s = 60 then 23 else if s = 61 then 24 else if s = 43 then 25 else if s = 45 then 26 else if s = 42 then 27 else if s = 59 then 28 else 29 := by
  have h : ∀ x : Int32, (([x] : List Int32) == [s]) = decide (s = x) := by
    intro x
    by_cases e : s = x
    · rw [e]; simp
    · rw [decide_eq_false e]
      apply beq_false_of_ne
      intro e2
      exact e (List.cons.inj e2).1.symm
  have h2 : ∀ (x y : Int32) (t : List Int32), ((x :: y :: t) == [s]) = false := by
    intro x y t
    apply beq_false_of_ne
    intro e2
    exact absurd (List.cons.inj e2).2 (by simp)
  simp only [xfi, eB, List.take, List.findIdx_cons, h, h2, cond_false, List.findIdx_nil]
  by_cases e1 : s = 40
  · simp [e1]
  by_cases e2 : s = 41
  · simp [e2]
  by_cases e3 : s = 60
  · simp [e3]
  by_cases e4 : s = 61
  · simp [e4]
  by_cases e5 : s = 43
  · simp [e5]
  by_cases e6 : s = 45
  · simp [e6]
  by_cases e7 : s = 42
  · simp [e7]
  by_cases e8 : s = 59
  · simp [e8]
  simp [e1, e2, e3, e4, e5, e6, e7, e8]
theorem xfi1_ge {s : Int32} : 21 ≤ xfi [s] := by
  rw [xfi1]
  repeat' split
  all_goals omega
/-- a sign alone -/
theorem xsign {rm : zRr} {qm : zRq} {s : Int32} (h1 : ¬ xLet s) (h2 : ¬ xDig s) : ∃ rm1, Gm_nextToken_322 s rm qm = (rm1, qm) ∧ rm1 = zset (zset rm 104 (fun _ => rm 104 0 + 1)) 106 (fun _ => if xfi [s] < 29 then 3 else 4) := by
  have key : Gm_nextToken_322 s rm qm = (zset (zset rm 104 (fun _ => rm 104 0 + 1)) 106 (fun _ => if xfi [s] < 29 then 3 else 4), qm) := by
    have c40 : (40 : Int32).toInt = 40 := by decide
    have c43 : (43 : Int32).toInt = 43 := by decide
    have c59 : (59 : Int32).toInt = 59 := by decide
    have c61 : (61 : Int32).toInt = 61 := by decide
    have hv : ∀ n : Int32, s.toInt = n.toInt → s = n := fun n h => Int32.toInt_inj.mp h
    simp only [Gm_nextToken_322, zlet, zif, xfi1]
    by_cases a1 : s < 40
    · have a1' := Int32.lt_iff_toInt_lt.mp a1
      have hne : ∀ n : Int32, 40 ≤ n.toInt → ¬ s = n := fun n hn e => by rw [e] at a1'; omega
      rw [if_pos a1, if_neg (hne 45 (by decide)), if_pos (Int32.lt_iff_toInt_lt.mpr (by omega)), if_neg (hne 40 (by decide)), if_neg (hne 41 (by decide)), if_neg (hne 60 (by decide)), if_neg (hne 61 (by decide)), if_neg (hne 43 (by decide)), if_neg (hne 45 (by decide)), if_neg (hne 42 (by decide)), if_neg (hne 59 (by decide))]
      rfl
    · rw [if_neg a1]
      rw [Int32.lt_iff_toInt_lt] at a1
      by_cases a2 : s ≤ 43
      · rw [if_pos a2]
        rw [Int32.le_iff_toInt_le] at a2
        rcases (show s.toInt = 40 ∨ s.toInt = 41 ∨ s.toInt = 42 ∨ s.toInt = 43 by omega) with e | e | e | e
        · rw [hv 40 e]; rfl
        · rw [hv 41 e]; rfl
        · rw [hv 42 e]; rfl
        · rw [hv 43 e]; rfl
      · rw [if_neg a2]
        rw [Int32.le_iff_toInt_le] at a2
        by_cases a3 : s = 45
        · rw [if_pos a3, a3]; rfl
        · rw [if_neg a3]
          by_cases a4 : s < 59
          · have a4' := Int32.lt_iff_toInt_lt.mp a4
            have hne : ∀ n : Int32, 59 ≤ n.toInt ∨ n.toInt ≤ 43 → ¬ s = n := fun n hn e => by rw [e] at a4' a2; omega
            rw [if_pos a4, if_neg (hne 40 (by decide)), if_neg (hne 41 (by decide)), if_neg (hne 60 (by decide)), if_neg (hne 61 (by decide)), if_neg (hne 43 (by decide)), if_neg a3, if_neg (hne 42 (by decide)), if_neg (hne 59 (by decide))]
            rfl
          · rw [if_neg a4]
            rw [Int32.lt_iff_toInt_lt] at a4
            by_cases a5 : 61 < s
            · have a5' := Int32.lt_iff_toInt_lt.mp a5
              have hne : ∀ n : Int32, n.toInt ≤ 61 → ¬ s = n := fun n hn e => by rw [e] at a5'; omega
              rw [if_pos a5, if_neg (hne 40 (by decide)), if_neg (hne 41 (by decide)), if_neg (hne 60 (by decide)), if_neg (hne 61 (by decide)), if_neg (hne 43 (by decide)), if_neg a3, if_neg (hne 42 (by decide)), if_neg (hne 59 (by decide))]
              rfl
            · rw [if_neg a5]
              rw [Int32.lt_iff_toInt_lt] at a5
              rcases (show s.toInt = 59 ∨ s.toInt = 60 ∨ s.toInt = 61 by omega) with e | e | e
              · rw [hv 59 e]; rfl
              · rw [hv 60 e]; rfl
              · rw [hv 61 e]; rfl
  exact ⟨_, key, rfl⟩
theorem xsub {p b : Nat} (h : b ≤ p) : nI p - nI b = nI (p - b) := by
  have : p = (p - b) + b := by omega
  rw [show nI p = nI ((p - b) + b) by rw [← this], ← nI_add, Int32.add_sub_cancel]
theorem xfi_le {l : List Int32} : xfi l ≤ 29 := by
  have := List.findIdx_le_length (xs := eB.take 29) (p := fun x => x == l)
  rw [show (eB.take 29).length = 29 by decide] at this
  exact this
theorem xstep52 {L p : Nat} {r : zRr} {q : zRq} {rm : zRr} {qm : zRq} (hP : xP L p r rm) : ∃ e r1 q1 rm1 qm1, Gk_step_52 q r = (r1, q1) ∧ Gm_nextToken_52 qm rm = (rm1, qm1) ∧ xTok L p e r1 q1 rm1 qm1 ∧ xFk r q r1 q1 ∧ xFm rm qm rm1 qm1 := by
  have hL := hP.hL; have hp := hP.hp
  have hP3 : xP L p (zset r 196 (upd (r 196) 2 (r 196 3))) (zset (zset rm 105 (fun _ => rm 104 0)) 108 (fun _ => 0)) := ⟨hP.l1, hP.l2, hP.p1, hP.p2, hP.cell, hP.hL, hP.hp⟩
  have hB3 : xB p (zset r 196 (upd (r 196) 2 (r 196 3))) (zset (zset rm 105 (fun _ => rm 104 0)) 108 (fun _ => 0)) := ⟨hP.p1, hP.p2⟩
  have fk : zFr [196] r (zset r 196 (upd (r 196) 2 (r 196 3))) := zFr.refl.set rfl
  have fm : zFr [104, 105, 106, 108] rm (zset (zset rm 105 (fun _ => rm 104 0)) 108 (fun _ => 0)) := (zFr.refl.set rfl).set rfl
  have fq : xFq [107] qm (zset qm 107 (fun _ => (0 : Int64))) := xFq.refl.set rfl
  simp only [Gk_step_52, Gm_nextToken_52, zlet, zif, zifn]
  generalize hr3 : zset r 196 (upd (r 196) 2 (r 196 3)) = r3 at *
  generalize hm3 : zset (zset rm 105 (fun _ => rm 104 0)) 108 (fun _ => 0) = m3 at *
  generalize hq3 : zset qm 107 (fun _ => (0 : Int64)) = q3 at *
  have hq0 : q3 107 0 = 0 := by rw [← hq3]; rfl
  have hm108 : m3 108 0 = 0 := by rw [← hm3]; rfl
  rw [hP3.p1, hP3.l1, hP3.p2, hP3.l2]
  by_cases h1 : p < L
  · have hpL : ¬ nI p = nI L := fun h => by have := (nI_eq (by omega) (by omega)).mp h; omega
    rw [if_pos ((nI_ltI (by omega) (by omega)).mpr h1), if_neg hpL, xzn (by omega), ← hP3.cell p h1]
    have c97 : (97 : Int32).toInt = 97 := by decide
    have c122 : (122 : Int32).toInt = 122 := by decide
    have c48 : (48 : Int32).toInt = 48 := by decide
    have c57 : (57 : Int32).toInt = 57 := by decide
    by_cases h2 : xLet (r3 197 p)
    · obtain ⟨e, r1, q1, rm1, qm1, a1, a2, a3, a4, a5, a6, a7, a8, a9, a10⟩ := xword 1001 p r3 (zset q 196 (vp_updL (q 196) 6 (0 : Int64))) m3 q3 hP3 hB3 (Nat.le_refl _) (by rw [Nat.sub_self]; intro s hs; simp [xsg] at hs) (fun _ => by rw [Nat.sub_self]; exact ⟨rfl, hq0⟩) (by omega)
      have hpe := a8 h1 h2
      have he := a3.hp
      have d1 : ¬ r3 197 p < 97 := fun h => by have := Int32.lt_iff_toInt_lt.mp h; have := h2.1; omega
      have d2 : ¬ 122 < r3 197 p := fun h => by have := Int32.lt_iff_toInt_lt.mp h; have := h2.2; omega
      rw [if_neg (fun h => xlet_iff.mp h h2), if_neg d1, if_neg d2, a2]
      have e1 : Gk_stepOverWord r3 q = (r1, q1) := a1
      have f97 : r1 197 = r3 197 := a9.1 197 rfl
      simp only [zc_rq, e1, Gm_nextToken_188, zlet, zif, Gk_step_128]
      rw [a3.p1, a4.b1, a3.p2, a4.b2, xsub a5, show (8 : Int32) = nI 8 from rfl]
      by_cases h8 : e - p ≤ 8
      · rw [if_pos ((nI_leI (by omega) (by omega)).mpr h8), if_pos ((nI_leI (by omega) (by omega)).mpr h8)]
        have hs := xsortAs (r := r1) (q := q1) (a := 29) (p := p) (c := e - p) (L := L) a4.b1 (by rw [a3.p1]; congr 1; omega) a3.l1 (by omega) hL (by omega)
        rw [f97] at hs
        have hs2 : Gk_sortAs 29 r1 q1 = nI (xfi (xsg (r3 197) p (e - p))) := by
          rw [hs]
          by_cases h9 : xfi (xsg (r3 197) p (e - p)) < 29
          · rw [if_pos h9]
          · have := xfi_le (l := xsg (r3 197) p (e - p))
            rw [if_neg h9, show xfi (xsg (r3 197) p (e - p)) = 29 by omega]; rfl
        obtain ⟨w1, w2⟩ := a7 h8
        refine ⟨e, _, _, _, _, rfl, rfl, ⟨⟨a3.l1, a3.l2, a3.p1, a3.p2, a3.cell, a3.hL, a3.hp⟩, ⟨a4.b1, a4.b2⟩, a5, Or.inr ⟨hpe, Or.inl ⟨rfl, ?_, ?_, ?_, ?_⟩⟩⟩, ⟨(fk.tr a9.1 rfl).set rfl, (xFq.refl.set rfl).tr a9.2 rfl⟩, ⟨(fm.tr a10.1 rfl).set rfl, fq.tr a10.2 rfl⟩⟩
        · show xW (xsg (r1 197) p (e - p))
          rw [f97]; exact ⟨by rw [xsg_len]; exact h8, a6⟩
        · show Gk_sortAs 29 r1 q1 = nI (xfi (xsg (r1 197) p (e - p)))
          rw [f97]; exact hs2
        · show q1 196 6 = xe5 (xsg (r1 197) p (e - p))
          rw [f97]; exact w1
        · show qm1 107 0 = xe27 (xsg (r1 197) p (e - p))
          rw [f97]; exact w2
      · rw [if_neg (fun h => h8 ((nI_leI (by omega) (by omega)).mp h)), if_neg (fun h => h8 ((nI_leI (by omega) (by omega)).mp h))]
        exact ⟨e, _, _, _, _, rfl, rfl, ⟨⟨a3.l1, a3.l2, a3.p1, a3.p2, a3.cell, a3.hL, a3.hp⟩, ⟨a4.b1, a4.b2⟩, a5, Or.inr ⟨hpe, Or.inr (Or.inr (Or.inr ⟨rfl, rfl⟩))⟩⟩, ⟨(fk.tr a9.1 rfl).set rfl, (xFq.refl.set rfl).tr a9.2 rfl⟩, ⟨(fm.tr a10.1 rfl).set rfl, fq.tr a10.2 rfl⟩⟩
    · rw [if_pos (xlet_iff.mpr h2)]
      by_cases h3 : xDig (r3 197 p)
      · have d1 : r3 197 p < 97 := Int32.lt_iff_toInt_lt.mpr (by have := h3.2; omega)
        have d2 : ¬ r3 197 p < 48 := fun h => by have := Int32.lt_iff_toInt_lt.mp h; have := h3.1; omega
        have d3 : ¬ 57 < r3 197 p := fun h => by have := Int32.lt_iff_toInt_lt.mp h; have := h3.2; omega
        rw [if_neg (fun h => xdig_iff.mp h h3), if_pos d1, if_neg d2, if_neg d3]
        obtain ⟨e, r1, rm1, a1, a2, a3, a4, a5, a6, a7, a8, a9⟩ := xnumber (qm := q3) 1001 p (zset r3 196 (upd (r3 196) 5 (0 : Int32))) m3 ⟨hP3.l1, hP3.l2, hP3.p1, hP3.p2, hP3.cell, hP3.hL, hP3.hp⟩ ⟨hB3.b1, hB3.b2⟩ (Nat.le_refl _) (fun _ => by rw [Nat.sub_self]; refine ⟨hm108.symm, ?_, ?_⟩ <;> rw [hm108] <;> decide) (by omega)
        have hpe := a7 h1 h3
        have he := a3.hp
        have e1 : Gk_stepOverNumber r3 q = r1 := a1
        rw [a2, e1]
        simp only [Gm_nextToken_299, zlet, zif, Gk_step_176]
        rw [a3.p1, a4.b1, a3.p2, a4.b2, xsub a5, show (4 : Int32) = nI 4 from rfl]
        have f1 : zFr [196] r r1 := (fk.set rfl).tr a8 rfl
        by_cases h4 : e - p ≤ 4
        · rw [if_pos ((nI_leI (by omega) (by omega)).mpr h4), if_pos ((nI_leI (by omega) (by omega)).mpr h4)]
          obtain ⟨g1, g2, g3⟩ := a6 h4
          have g4 : (10 : Int) ^ (e - p) ≤ 10000 := by
            rcases (show e - p = 0 ∨ e - p = 1 ∨ e - p = 2 ∨ e - p = 3 ∨ e - p = 4 by omega) with h | h | h | h | h <;> rw [h] <;> decide
          exact ⟨e, _, _, _, _, rfl, rfl, ⟨⟨a3.l1, a3.l2, a3.p1, a3.p2, a3.cell, a3.hL, a3.hp⟩, ⟨a4.b1, a4.b2⟩, a5, Or.inr ⟨hpe, Or.inr (Or.inl ⟨rfl, rfl, g1, g2, (show (rm1 108 0).toInt ≤ 9999 by omega)⟩)⟩⟩, ⟨f1.set rfl, xFq.refl⟩, ⟨(fm.tr a9 rfl).set rfl, fq⟩⟩
        · rw [if_neg (fun h => h4 ((nI_leI (by omega) (by omega)).mp h)), if_neg (fun h => h4 ((nI_leI (by omega) (by omega)).mp h))]
          exact ⟨e, _, _, _, _, rfl, rfl, ⟨⟨a3.l1, a3.l2, a3.p1, a3.p2, a3.cell, a3.hL, a3.hp⟩, ⟨a4.b1, a4.b2⟩, a5, Or.inr ⟨hpe, Or.inr (Or.inr (Or.inr ⟨rfl, rfl⟩))⟩⟩, ⟨f1.set rfl, xFq.refl⟩, ⟨(fm.tr a9 rfl).set rfl, fq⟩⟩
      · rw [if_pos (xdig_iff.mpr h3)]
        obtain ⟨rm1, b1, b2⟩ := xsign (rm := m3) (qm := q3) h2 h3
        have hs := xsortAs (r := zset r3 196 (upd (r3 196) 3 (nI p + 1))) (q := q) (a := 32) (p := p) (c := 1) (L := L) hB3.b1 (nI_1 p) hP3.l1 (by omega) hL (by omega)
        have hsg : xsg (zset r3 196 (upd (r3 196) 3 (nI p + 1)) 197) p 1 = [r3 197 p] := rfl
        rw [hsg] at hs
        rw [hs]
        have hX : (if r3 197 p < 97 then if r3 197 p < 48 then Gm_nextToken_322 (r3 197 p) m3 q3 else if 57 < r3 197 p then Gm_nextToken_322 (r3 197 p) m3 q3 else Gm_nextToken_224 1001 m3 q3 else if 122 < r3 197 p then if r3 197 p < 48 then default else if 57 < r3 197 p then Gm_nextToken_322 (r3 197 p) m3 q3 else default else Gm_nextToken_109 1001 m3 q3) = (rm1, q3) := by
          unfold xLet at h2; unfold xDig at h3
          by_cases d1 : r3 197 p < 97
          · rw [if_pos d1]
            by_cases d2 : r3 197 p < 48
            · rw [if_pos d2]; exact b1
            · rw [if_neg d2, if_pos]
              · exact b1
              · rw [Int32.lt_iff_toInt_lt] at d1 d2 ⊢; omega
          · rw [if_neg d1]
            by_cases d2 : 122 < r3 197 p
            · rw [if_pos d2, if_neg (fun h => by rw [Int32.lt_iff_toInt_lt] at h d2; omega), if_pos (Int32.lt_iff_toInt_lt.mpr (by rw [Int32.lt_iff_toInt_lt] at d2; omega))]
              exact b1
            · rw [Int32.lt_iff_toInt_lt] at d1 d2; omega
        rw [hX]
        refine ⟨p + 1, _, _, _, _, rfl, rfl, ⟨⟨hP3.l1, ?_, nI_1 p, ?_, ?_, hP3.hL, h1⟩, ⟨hB3.b1, ?_⟩, by omega, Or.inr ⟨by omega, ?_⟩⟩, ⟨(fk.set rfl).set rfl, xFq.refl⟩, ⟨?_, fq⟩⟩
        · rw [b2]; exact hP3.l2
        · rw [b2]; show m3 104 0 + 1 = _; rw [hP3.p2]; exact nI_1 p
        · rw [b2]; exact hP3.cell
        · rw [b2]; exact hB3.b2
        · by_cases h9 : xfi [r3 197 p] < 29
          · refine Or.inr (Or.inr (Or.inl ⟨?_, rfl, xfi1_ge, h9, ?_⟩))
            · rw [b2]; exact if_pos h9
            · exact if_pos h9
          · refine Or.inr (Or.inr (Or.inr ⟨?_, ?_⟩))
            · rw [b2]; exact if_neg h9
            · exact if_neg h9
        · rw [b2]; exact (fm.set rfl).set rfl
  · rw [if_neg (fun h => h1 ((nI_ltI (by omega) (by omega)).mp h)), if_pos (by congr 1; omega)]
    exact ⟨p, _, _, _, _, rfl, rfl, ⟨⟨hP3.l1, hP3.l2, hP3.p1, hP3.p2, hP3.cell, hP3.hL, hP3.hp⟩, ⟨hB3.b1, hB3.b2⟩, Nat.le_refl _, Or.inl ⟨rfl, rfl, by omega⟩⟩, ⟨fk.set rfl, xFq.refl⟩, ⟨fm.set rfl, fq⟩⟩
theorem xstep0 {L : Nat} {q : zRq} {qm : zRq} : ∀ (n p : Nat) (r rm : zRr), xP L p r rm → L - p < n → ∃ b e r1 q1 rm1 qm1, Gk_step_0 q n r = (r1, q1) ∧ Gm_nextToken_0 qm n rm = (rm1, qm1) ∧ xTok L b e r1 q1 rm1 qm1 ∧ p ≤ b ∧ xFk r q r1 q1 ∧ xFm rm qm rm1 qm1 := by
  intro n
  induction n with
  | zero => intro p r rm hP hn; omega
  | succ n ih =>
    intro p r rm hP hn
    have hL := hP.hL; have hp := hP.hp
    have e0 : Gk_step_0 q (n + 1) r = Bk_step_0 q (Gk_step_0 q n) r := rfl
    have e1 : Gm_nextToken_0 qm (n + 1) rm = Bm_nextToken_0 qm (Gm_nextToken_0 qm n) rm := rfl
    rw [e0, e1]
    simp only [Bk_step_0, Bm_nextToken_0, Gk_step_39, zlet, zif, zifn, hP.l1, hP.l2, hP.p1, hP.p2]
    by_cases h1 : L ≤ p
    · rw [if_pos ((nI_leI (by omega) (by omega)).mpr h1), if_pos ((nI_leI (by omega) (by omega)).mpr h1)]
      obtain ⟨e, r1, q1, rm1, qm1, a1, a2, a3, a4, a5⟩ := xstep52 (q := q) (qm := qm) hP
      exact ⟨p, e, r1, q1, rm1, qm1, a1, a2, a3, Nat.le_refl _, a4, a5⟩
    · rw [if_neg (fun h => h1 ((nI_leI (by omega) (by omega)).mp h)), if_neg (fun h => h1 ((nI_leI (by omega) (by omega)).mp h)), xzn (by omega), ← hP.cell p (by omega)]
      have go : ∃ b e r1 q1 rm1 qm1, Gk_step_0 q n (zset r 196 (upd (r 196) 3 (nI p + 1))) = (r1, q1) ∧ Gm_nextToken_0 qm n (zset rm 104 (fun _ => nI p + 1)) = (rm1, qm1) ∧ xTok L b e r1 q1 rm1 qm1 ∧ p ≤ b ∧ xFk r q r1 q1 ∧ xFm rm qm rm1 qm1 := by
        obtain ⟨b, e, r1, q1, rm1, qm1, a1, a2, a3, a4, a5, a6⟩ := ih (p + 1) (zset r 196 (upd (r 196) 3 (nI p + 1))) (zset rm 104 (fun _ => nI p + 1)) ⟨hP.l1, hP.l2, nI_1 p, nI_1 p, hP.cell, hP.hL, by omega⟩ (by omega)
        exact ⟨b, e, r1, q1, rm1, qm1, a1, a2, a3, by omega, ⟨(zFr.refl.set rfl).tr a5.1 rfl, a5.2⟩, ⟨(zFr.refl.set rfl).tr a6.1 rfl, a6.2⟩⟩
      by_cases h2 : r 197 p = 32
      · rw [if_pos h2, if_pos h2]; exact go
      · rw [if_neg h2, if_neg h2]
        by_cases h3 : r 197 p = 10
        · rw [if_pos h3, if_pos h3]; exact go
        · rw [if_neg h3, if_neg h3]
          obtain ⟨e, r1, q1, rm1, qm1, a1, a2, a3, a4, a5⟩ := xstep52 (q := q) (qm := qm) hP
          exact ⟨p, e, r1, q1, rm1, qm1, a1, a2, a3, Nat.le_refl _, a4, a5⟩
/-- one token further -/
theorem xstep {L p : Nat} {r : zRr} {q : zRq} {rm : zRr} {qm : zRq} (hP : xP L p r rm) : ∃ b e r1 q1 rm1 qm1, Gk_step r q = (r1, q1) ∧ Gm_nextToken rm qm = (rm1, qm1) ∧ xTok L b e r1 q1 rm1 qm1 ∧ p ≤ b ∧ xFk r q r1 q1 ∧ xFm rm qm rm1 qm1 :=
  xstep0 1001 p r rm hP (by have := hP.hL; omega)
end
section
/-! ===== what a reader asks of a token, on both sides ===== -/
theorem xeB_inj : ∀ i, i < 29 → ∀ j, j < 29 → eB.getD i [] = eB.getD j [] → i = j := by decide +kernel
theorem xfi_get {l : List Int32} (h : xfi l < 29) : eB.getD (xfi l) [] = l := by
  have l29 : (eB.take 29).length = 29 := by decide
  have hf2 : (eB.take 29).findIdx (fun x => x == l) < (eB.take 29).length := by rw [l29]; exact h
  have hgt : ∀ t, t < 29 → (eB.take 29)[t]? = some (eB.getD t []) := by decide +kernel
  have h5 := List.findIdx_getElem (xs := eB.take 29) (p := fun x => x == l) (w := hf2)
  have h6 := hgt (xfi l) h
  unfold xfi at h6 ⊢
  rw [List.getElem?_eq_getElem hf2] at h6
  rw [Option.some.inj h6] at h5
  exact eq_of_beq h5
theorem xfi_iff {l : List Int32} {i : Nat} (hi : i < 29) : xfi l = i ↔ l = eB.getD i [] := by
  constructor
  · intro e
    have := xfi_get (l := l) (by omega)
    rw [e] at this
    exact this.symm
  · intro e
    have l29 : (eB.take 29).length = 29 := by decide
    have hgt : ∀ t, t < 29 → (eB.take 29)[t]? = some (eB.getD t []) := by decide +kernel
    have hm : eB.getD i [] ∈ eB.take 29 := List.mem_of_getElem? (hgt i hi)
    have h1 := List.findIdx_lt_length_of_exists (p := fun x => x == l) ⟨_, hm, by rw [e]; simp⟩
    rw [l29] at h1
    have h2 := xfi_get (l := l) h1
    exact xeB_inj (xfi l) h1 _ hi (h2.trans e)
theorem xwk : ∀ i, i < 21 → xW (eB.getD i []) := by decide +kernel
theorem xwf : ∀ i, i < 37 → 33 ≤ i → xW (eB.getD i []) := by decide +kernel
theorem xnl' : ∀ i, i < 29 → 21 ≤ i → ¬ xW (eB.getD i []) := by decide +kernel
theorem xw_or {l : List Int32} (h : xW l) : xfi l < 21 ∨ xfi l = 29 := by
  have h1 := xfi_le (l := l)
  rcases Nat.lt_or_ge (xfi l) 21 with h2 | h2
  · exact Or.inl h2
  · rcases Nat.lt_or_ge (xfi l) 29 with h3 | h3
    · have := xfi_get h3
      exact absurd (by rw [this]; exact h) (xnl' _ h3 h2)
    · exact Or.inr (by omega)
section XF
variable {L b e : Nat} {r : zRr} {q : zRq} {rm : zRr} {qm : zRq}
theorem xTok.sort_lt (h : xTok L b e r q rm qm) : ∃ k, k ≤ 32 ∧ r 196 4 = nI k := by
  rcases h.k with ⟨h1, _, _⟩ | ⟨_, ⟨_, _, h1, _⟩ | ⟨_, h1, _⟩ | ⟨_, _, _, h2, h1⟩ | ⟨_, h1⟩⟩
  · exact ⟨31, by omega, h1⟩
  · have := xfi_le (l := xsg (r 197) b (e - b)); exact ⟨_, by omega, h1⟩
  · exact ⟨30, by omega, h1⟩
  · exact ⟨_, by omega, h1⟩
  · exact ⟨32, by omega, h1⟩
/-- a word that is kept -/
theorem xTok.word (h : xTok L b e r q rm qm) {C : Int64} (i : Nat) (hi : i < 21) (hC : C = xe27 (eB.getD i [])) : Gm_isWord C rm qm = if r 196 4 = nI i then 1 else 0 := by
  simp only [Gm_isWord, zlet, zifn]
  rcases h.k with ⟨h1, h2, _⟩ | ⟨_, ⟨h2, hw, h1, _, h3⟩ | ⟨h2, h1, _⟩ | ⟨h2, _, h4, h3, h1⟩ | ⟨h2, h1⟩⟩
  · rw [h2, h1, if_neg (by decide), if_neg (fun e => by have := (nI_eq (a := 31) (by omega) (by omega)).mp e; omega)]
  · rw [h2, if_pos rfl, h3, h1, hC]
    have k : xe27 (xsg (r 197) b (e - b)) = xe27 (eB.getD i []) ↔ xfi (xsg (r 197) b (e - b)) = i := (xe27_inj hw (xwk i hi)).trans (xfi_iff (by omega)).symm
    have := xfi_le (l := xsg (r 197) b (e - b))
    by_cases e1 : xfi (xsg (r 197) b (e - b)) = i
    · rw [if_pos (xcmp.mpr (k.mpr e1)), if_pos (by rw [e1])]
    · rw [if_neg (fun e2 => e1 (k.mp (xcmp.mp e2))), if_neg (fun e2 => e1 ((nI_eq (by omega) (by omega)).mp e2))]
  · rw [h2, h1, if_neg (by decide), if_neg (fun e => by have := (nI_eq (a := 30) (by omega) (by omega)).mp e; omega)]
  · rw [h2, h1, if_neg (by decide), if_neg (fun e => by have := (nI_eq (by omega) (by omega)).mp e; omega)]
  · rw [h2, h1, if_neg (by decide), if_neg (fun e => by have := (nI_eq (a := 32) (by omega) (by omega)).mp e; omega)]
/-- a sign -/
theorem xTok.sign (h : xTok L b e r q rm qm) {s : Int32} (i : Nat) (hi : 21 ≤ i ∧ i < 29) (hs : [s] = eB.getD i []) : Gm_isSign s rm qm = if r 196 4 = nI i then 1 else 0 := by
  simp only [Gm_isSign, zlet, zifn]
  have hL := h.P.hL; have hp := h.P.hp
  rcases h.k with ⟨h1, h2, _⟩ | ⟨hbe, ⟨h2, hw, h1, _, h3⟩ | ⟨h2, h1, _⟩ | ⟨h2, h5, h4, h3, h1⟩ | ⟨h2, h1⟩⟩
  · rw [h2, h1, if_neg (by decide), if_neg (fun e => by have := (nI_eq (a := 31) (by omega) (by omega)).mp e; omega)]
  · have h9 := xw_or hw
    rw [h2, h1, if_neg (by decide), if_neg (fun e => by have := (nI_eq (by omega) (by omega)).mp e; omega)]
  · rw [h2, h1, if_neg (by decide), if_neg (fun e => by have := (nI_eq (a := 30) (by omega) (by omega)).mp e; omega)]
  · rw [h2, if_pos rfl, h.B.b2, xzn (by omega), ← h.P.cell b (by omega), h1]
    have k : r 197 b = s ↔ xfi [r 197 b] = i := by
      rw [xfi_iff hi.2, ← hs]
      exact ⟨fun e => by rw [e], fun e => (List.cons.inj e).1⟩
    by_cases e1 : r 197 b = s
    · rw [if_pos e1, if_pos (by rw [k.mp e1])]
    · rw [if_neg e1, if_neg (fun e2 => e1 (k.mpr ((nI_eq (by omega) (by omega)).mp e2)))]
  · rw [h2, h1, if_neg (by decide), if_neg (fun e => by have := (nI_eq (a := 32) (by omega) (by omega)).mp e; omega)]
theorem xTok.end_ (h : xTok L b e r q rm qm) : rm 106 0 = 0 ↔ r 196 4 = 31 := by
  rcases h.k with ⟨h1, h2, _⟩ | ⟨_, ⟨h2, hw, h1, _, h3⟩ | ⟨h2, h1, _⟩ | ⟨h2, _, h4, h3, h1⟩ | ⟨h2, h1⟩⟩
  · rw [h1, h2]; simp
  · have := xfi_le (l := xsg (r 197) b (e - b))
    rw [h1, h2]; exact ⟨fun e => absurd e (by decide), fun e => by have := (nI_eq (b := 31) (by omega) (by omega)).mp e; omega⟩
  · rw [h1, h2]; decide
  · rw [h1, h2]; exact ⟨fun e => absurd e (by decide), fun e => by have := (nI_eq (b := 31) (by omega) (by omega)).mp e; omega⟩
  · rw [h1, h2]; decide
theorem xTok.num (h : xTok L b e r q rm qm) : rm 106 0 = 2 ↔ r 196 4 = 30 := by
  rcases h.k with ⟨h1, h2, _⟩ | ⟨_, ⟨h2, hw, h1, _, h3⟩ | ⟨h2, h1, _⟩ | ⟨h2, _, h4, h3, h1⟩ | ⟨h2, h1⟩⟩
  · rw [h1, h2]; decide
  · have := xw_or hw
    rw [h1, h2]; exact ⟨fun e => absurd e (by decide), fun e => by have := (nI_eq (b := 30) (by omega) (by omega)).mp e; omega⟩
  · rw [h1, h2]; simp
  · rw [h1, h2]; exact ⟨fun e => absurd e (by decide), fun e => by have := (nI_eq (b := 30) (by omega) (by omega)).mp e; omega⟩
  · rw [h1, h2]; decide
theorem xTok.number (h : xTok L b e r q rm qm) (hs : r 196 4 = 30) : r 196 5 = rm 108 0 ∧ zI 0 9999 (rm 108 0) := by
  have h0 := h.num.mpr hs
  rcases h.k with ⟨h1, h2, _⟩ | ⟨_, ⟨h2, _⟩ | ⟨_, _, h1⟩ | ⟨h2, _⟩ | ⟨h2, h1⟩⟩
  · rw [h0] at h2; exact absurd h2 (by decide)
  · rw [h0] at h2; exact absurd h2 (by decide)
  · exact h1
  · rw [h0] at h2; exact absurd h2 (by decide)
  · rw [h0] at h2; exact absurd h2 (by decide)
/-- a name: the word that it is -/
theorem xTok.name (h : xTok L b e r q rm qm) (hs : r 196 4 = 29) : xW (xsg (r 197) b (e - b)) ∧ q 196 6 = xe5 (xsg (r 197) b (e - b)) ∧ qm 107 0 = xe27 (xsg (r 197) b (e - b)) ∧ rm 106 0 = 1 ∧ xfi (xsg (r 197) b (e - b)) = 29 := by
  rcases h.k with ⟨h1, h2, _⟩ | ⟨_, ⟨h2, hw, h1, h4, h3⟩ | ⟨_, h1, _⟩ | ⟨h2, _, _, h3, h1⟩ | ⟨h2, h1⟩⟩
  · rw [hs] at h1; exact absurd h1 (by decide)
  · have := xfi_le (l := xsg (r 197) b (e - b))
    rw [hs] at h1
    exact ⟨hw, h4, h3, h2, ((nI_eq (a := 29) (by omega) (by omega)).mp h1).symm⟩
  · rw [hs] at h1; exact absurd h1 (by decide)
  · rw [hs] at h1; have := (nI_eq (a := 29) (by omega) (by omega)).mp h1; omega
  · rw [hs] at h1; exact absurd h1 (by decide)
theorem xTok.nm (h : xTok L b e r q rm qm) (hs : r 196 4 = 29) : xN (q 196 6) (qm 107 0) := by
  obtain ⟨h1, h2, h3, _⟩ := h.name hs
  exact ⟨_, h1, h2, h3⟩
theorem xkept (n : Nat) (h : n < 21 ∨ n = 29) : (if n = 0 then (1 : Int32) else if n = 1 then 1 else if n = 2 then 1 else if n = 3 then 1 else if n = 4 then 1 else if n = 5 then 1 else if n = 6 then 1 else if n = 7 then 1 else if n = 8 then 1 else if n = 9 then 1 else if n = 10 then 1 else if n = 11 then 1 else if n = 12 then 1 else if n = 13 then 1 else if n = 14 then 1 else if n = 15 then 1 else if n = 16 then 1 else if n = 17 then 1 else if n = 18 then 1 else if n = 19 then 1 else if n = 20 then 1 else 0) = if nI n = 29 then 0 else 1 := by
  have k : ∀ n, n < 30 → n < 21 ∨ n = 29 → (if n = 0 then (1 : Int32) else if n = 1 then 1 else if n = 2 then 1 else if n = 3 then 1 else if n = 4 then 1 else if n = 5 then 1 else if n = 6 then 1 else if n = 7 then 1 else if n = 8 then 1 else if n = 9 then 1 else if n = 10 then 1 else if n = 11 then 1 else if n = 12 then 1 else if n = 13 then 1 else if n = 14 then 1 else if n = 15 then 1 else if n = 16 then 1 else if n = 17 then 1 else if n = 18 then 1 else if n = 19 then 1 else if n = 20 then 1 else 0) = if nI n = 29 then 0 else 1 := by decide +kernel
  exact k n (by omega) h
theorem xif {α : Type} {p p' : Prop} [Decidable p] [Decidable p'] {a b b' : α} (h : p ↔ p') (hb : b = b') : (if p then a else b) = if p' then a else b' := by
  subst hb
  by_cases h1 : p
  · rw [if_pos h1, if_pos (h.mp h1)]
  · rw [if_neg h1, if_neg (fun h2 => h1 (h.mpr h2))]
theorem xTok.kept (h : xTok L b e r q rm qm) : Gm_isKept rm qm = if r 196 4 = 29 then 0 else 1 := by
  by_cases ht : rm 106 0 = 1
  · have hk : xW (xsg (r 197) b (e - b)) ∧ r 196 4 = nI (xfi (xsg (r 197) b (e - b))) ∧ qm 107 0 = xe27 (xsg (r 197) b (e - b)) := by
      rcases h.k with ⟨h1, h2, _⟩ | ⟨_, ⟨h2, hw, h1, h4, h3⟩ | ⟨h2, _⟩ | ⟨h2, _⟩ | ⟨h2, _⟩⟩
      · rw [ht] at h2; exact absurd h2 (by decide)
      · exact ⟨hw, h1, h3⟩
      · rw [ht] at h2; exact absurd h2 (by decide)
      · rw [ht] at h2; exact absurd h2 (by decide)
      · rw [ht] at h2; exact absurd h2 (by decide)
    obtain ⟨hw, h1, h3⟩ := hk
    unfold Gm_isKept
    simp only [zlet, zif, zifn]
    rw [if_pos ht, h3, h1, ← xkept _ (xw_or hw)]
    have k : ∀ (i : Nat) (C : Int64), i < 21 → C = xe27 (eB.getD i []) → (lg_cmp (xe27 (xsg (r 197) b (e - b))) C = 0 ↔ xfi (xsg (r 197) b (e - b)) = i) := by
      intro i C hi hC
      rw [xcmp, hC]
      exact (xe27_inj hw (xwk i hi)).trans (xfi_iff (by omega)).symm
    exact xif (k 0 _ (by decide) (by decide)) (xif (k 1 _ (by decide) (by decide)) (xif (k 2 _ (by decide) (by decide)) (xif (k 3 _ (by decide) (by decide)) (xif (k 4 _ (by decide) (by decide)) (xif (k 5 _ (by decide) (by decide)) (xif (k 6 _ (by decide) (by decide)) (xif (k 7 _ (by decide) (by decide)) (xif (k 8 _ (by decide) (by decide)) (xif (k 9 _ (by decide) (by decide)) (xif (k 10 _ (by decide) (by decide)) (xif (k 11 _ (by decide) (by decide)) (xif (k 12 _ (by decide) (by decide)) (xif (k 13 _ (by decide) (by decide)) (xif (k 14 _ (by decide) (by decide)) (xif (k 15 _ (by decide) (by decide)) (xif (k 16 _ (by decide) (by decide)) (xif (k 17 _ (by decide) (by decide)) (xif (k 18 _ (by decide) (by decide)) (xif (k 19 _ (by decide) (by decide)) (xif (k 20 _ (by decide) (by decide)) rfl))))))))))))))))))))
  · unfold Gm_isKept
    simp only [zlet, zif, zifn]
    rw [if_neg ht, if_neg (fun e => ht (h.name e).2.2.2.1)]
end XF
end
