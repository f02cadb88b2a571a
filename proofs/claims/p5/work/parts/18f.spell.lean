/-! ===== what stands on the tape, and which constant of Sort it spells ===== -/
theorem xzn {n : Nat} (h : n < 2 ^ 31) : zn (nI n) = n := by
  unfold zn; rw [nI_toInt h]; omega
def xsg (f : Nat → Int32) (p c : Nat) : List Int32 := (List.range c).map (fun j => f (p + j))
theorem xsg_len {f : Nat → Int32} {p c : Nat} : (xsg f p c).length = c := by unfold xsg; rw [List.length_map, List.length_range]
theorem xsg_get {f : Nat → Int32} {p c j : Nat} (h : j < c) : (xsg f p c)[j]? = some (f (p + j)) := by
  unfold xsg; rw [List.getElem?_map, List.getElem?_range h]; rfl
theorem xsg_s {f : Nat → Int32} {p c : Nat} : xsg f p (c + 1) = xsg f p c ++ [f (p + c)] := by
  unfold xsg; rw [List.range_succ, List.map_append]; rfl
theorem xsg_congr {f g : Nat → Int32} {p c : Nat} (h : ∀ j, j < c → f (p + j) = g (p + j)) : xsg f p c = xsg g p c := by
  unfold xsg
  exact List.map_congr_left (fun j hj => h j (List.mem_range.mp hj))
theorem xeL : ∀ t, t < 37 → (eB.getD t []).length = eL.getD t 0 ∧ eL.getD t 0 ≤ 8 := by decide +kernel
theorem xklen : ∀ t, t < 37 → Gk_length t = nI (eL.getD t 0) := by decide +kernel
theorem xkchar : ∀ t, t < 37 → ∀ j, j < 8 → Gk_charAt t (nI j) = (eB.getD t []).getD j 0 := by decide +kernel
theorem xspell_loop {r : zRr} {t p L : Nat} (ht : t < 37) (hb : r 196 2 = nI p) (hL : r 196 1 = nI L) (hc : p + eL.getD t 0 ≤ L) (h1000 : L ≤ 1000) : ∀ n j : Nat, j ≤ eL.getD t 0 → eL.getD t 0 < n + j → ((∀ i, j ≤ i → i < eL.getD t 0 → r 197 (p + i) = (eB.getD t []).getD i 0) → Gk_spells_20 t r n (nI j) = 1) ∧ ((¬ ∀ i, j ≤ i → i < eL.getD t 0 → r 197 (p + i) = (eB.getD t []).getD i 0) → Gk_spells_20 t r n (nI j) = 0) := by
  intro n
  have h8 := (xeL t ht).2
  induction n with
  | zero => intro j h1 h2; omega
  | succ n ih =>
    intro j h1 h2
    have e0 : Gk_spells_20 t r (n + 1) (nI j) = Bk_spells_20 t r (Gk_spells_20 t r n) (nI j) := rfl
    rw [e0]
    simp only [Bk_spells_20, zlet, zif, xklen t ht, hb, hL]
    by_cases hj : eL.getD t 0 ≤ j
    · rw [if_pos ((nI_leI (by omega) (by omega)).mpr hj)]
      exact ⟨fun _ => rfl, fun h => absurd (fun i h3 h4 => by omega) h⟩
    · rw [if_neg (fun h => hj ((nI_leI (by omega) (by omega)).mp h)), nI_add, if_neg (fun h => by have := (nI_leI (by omega) (by omega)).mp h; omega), xzn (by omega), xkchar t ht j (by omega)]
      by_cases he : r 197 (p + j) = (eB.getD t []).getD j 0
      · rw [if_pos he, nI_1]
        obtain ⟨i1, i2⟩ := ih (j + 1) (by omega) (by omega)
        refine ⟨fun h => i1 (fun i h3 h4 => h i (by omega) h4), fun h => i2 (fun h5 => h (fun i h3 h4 => ?_))⟩
        by_cases e : i = j
        · rw [e]; exact he
        · exact h5 i (by omega) h4
      · rw [if_neg he]
        exact ⟨fun h => absurd (h j (Nat.le_refl _) (by omega)) he, fun _ => rfl⟩
theorem xspells {r : zRr} {q : zRq} {t p c L : Nat} (ht : t < 37) (hb : r 196 2 = nI p) (hn : r 196 3 = nI (p + c)) (hL : r 196 1 = nI L) (hc : p + c ≤ L) (h1000 : L ≤ 1000) : Gk_spells t r q = if xsg (r 197) p c = eB.getD t [] then 1 else 0 := by
  have h8 := xeL t ht
  unfold Gk_spells
  simp only [zlet, zif, xklen t ht, hb, hn]
  have e1 : nI (p + c) - nI p = nI c := by rw [← nI_add, Int32.add_comm, Int32.add_sub_cancel]
  rw [e1]
  by_cases hcl : c = eL.getD t 0
  · rw [if_pos (by rw [hcl]), ← nI_0]
    obtain ⟨i1, i2⟩ := xspell_loop ht hb hL (by omega) h1000 9 0 (by omega) (by omega)
    by_cases h : xsg (r 197) p c = eB.getD t []
    · rw [if_pos h]
      refine i1 (fun i _ h4 => ?_)
      have h5 := xsg_get (f := r 197) (p := p) (c := c) (j := i) (by omega)
      rw [h] at h5
      rw [List.getD_eq_getElem?_getD, h5]; rfl
    · rw [if_neg h]
      refine i2 (fun h9 => h ?_)
      apply List.ext_getElem?
      intro j
      by_cases hj : j < c
      · rw [xsg_get hj, h9 j (by omega) (by omega), List.getD_eq_getElem?_getD, List.getElem?_eq_getElem (by omega)]; rfl
      · rw [List.getElem?_eq_none (by rw [xsg_len]; omega), List.getElem?_eq_none (by omega)]
  · rw [if_neg (fun h => hcl ((nI_eq (by omega) (by omega)).mp h)), if_neg (fun h => hcl (by rw [← h8.1, ← h, xsg_len]))]
def xfi (l : List Int32) : Nat := (eB.take 29).findIdx (fun x => x == l)
theorem xsort_loop {r : zRr} {q : zRq} {P : Nat → Prop} [DecidablePred P] (hs : ∀ t, t < 33 → Gk_spells t r q = if P t then 1 else 0) (a : Int32) : ∀ n k : Nat, 33 < n + k → k ≤ 33 → (∀ i, k ≤ i → i < 33 → (∀ j, k ≤ j → j < i → ¬ P j) → P i → Gk_sortAs_2 r q n a (nI k) = nI i) ∧ ((∀ j, k ≤ j → j < 33 → ¬ P j) → Gk_sortAs_2 r q n a (nI k) = a) := by
  intro n
  induction n with
  | zero => intro k h1 h2; omega
  | succ n ih =>
    intro k h1 h2
    have e0 : Gk_sortAs_2 r q (n + 1) a (nI k) = Bk_sortAs_2 r q (Gk_sortAs_2 r q n) a (nI k) := rfl
    rw [e0]
    simp only [Bk_sortAs_2, zlet, zif]
    rw [show (33 : Int32) = nI 33 from rfl]
    by_cases hk : 33 ≤ k
    · rw [if_pos ((nI_leI (by omega) (by omega)).mpr hk)]
      exact ⟨fun i h3 h4 => by omega, fun _ => rfl⟩
    · rw [if_neg (fun h => hk ((nI_leI (by omega) (by omega)).mp h)), xzn (by omega), hs k (by omega)]
      obtain ⟨i1, i2⟩ := ih (k + 1) (by omega) (by omega)
      by_cases hP : P k
      · rw [if_pos hP, if_neg (by decide)]
        refine ⟨fun i h3 h4 h5 h6 => ?_, fun h => absurd hP (h k (Nat.le_refl _) (by omega))⟩
        by_cases e : i = k
        · rw [e]
        · exact absurd hP (h5 k (Nat.le_refl _) (by omega))
      · rw [if_neg hP, if_pos rfl, nI_1]
        refine ⟨fun i h3 h4 h5 h6 => i1 i ?_ h4 (fun j h7 h8 => h5 j (by omega) h8) h6, fun h => i2 (fun j h7 h8 => h j (by omega) h8)⟩
        rcases Nat.lt_or_ge k i with h | h
        · exact h
        · have : i = k := by omega
          rw [this] at h6; exact absurd h6 hP
theorem xeB4' : ∀ t, t < 33 → 29 ≤ t → eB.getD t [] = [] := by decide +kernel
theorem xeB4 (t : Nat) (h : 29 ≤ t) (h2 : t < 33) : eB.getD t [] = [] := xeB4' t h2 h
theorem xsortAs {r : zRr} {q : zRq} {a : Int32} {p c L : Nat} (hb : r 196 2 = nI p) (hn : r 196 3 = nI (p + c)) (hL : r 196 1 = nI L) (hc : p + c ≤ L) (h1000 : L ≤ 1000) (h1 : 1 ≤ c) : Gk_sortAs a r q = if xfi (xsg (r 197) p c) < 29 then nI (xfi (xsg (r 197) p c)) else a := by
  have hs : ∀ t, t < 33 → Gk_spells t r q = if xsg (r 197) p c = eB.getD t [] then 1 else 0 := fun t ht => xspells (by omega) hb hn hL hc h1000
  have hlp := xsort_loop hs a 34 0 (by omega) (by omega)
  have l29 : (eB.take 29).length = 29 := by decide
  have hge : ∀ t, 29 ≤ t → t < 33 → ¬ xsg (r 197) p c = eB.getD t [] := by
    intro t h2 h3 e
    rw [xeB4 t h2 h3] at e
    have := xsg_len (f := r 197) (p := p) (c := c)
    rw [e] at this
    simp at this
    omega
  have hgt : ∀ t, t < 29 → (eB.take 29)[t]? = some (eB.getD t []) := by decide +kernel
  unfold Gk_sortAs
  rw [show (0 : Int32) = nI 0 from nI_0.symm]
  by_cases hf : xfi (xsg (r 197) p c) < 29
  · rw [if_pos hf]
    have hf2 : (eB.take 29).findIdx (fun x => x == xsg (r 197) p c) < (eB.take 29).length := by rw [l29]; exact hf
    refine hlp.1 _ (by omega) (by omega) ?_ ?_
    · intro j _ hj e
      have h5 := List.not_of_lt_findIdx (xs := eB.take 29) (p := fun x => x == xsg (r 197) p c) (i := j) hj
      have h6 := hgt j (by omega)
      rw [List.getElem?_eq_getElem (by omega)] at h6
      rw [Option.some.inj h6, ← e] at h5
      simp at h5
    · have h5 := List.findIdx_getElem (xs := eB.take 29) (p := fun x => x == xsg (r 197) p c) (w := hf2)
      have h6 := hgt (xfi (xsg (r 197) p c)) hf
      unfold xfi at h6
      rw [List.getElem?_eq_getElem hf2] at h6
      rw [Option.some.inj h6] at h5
      exact (eq_of_beq h5).symm
  · rw [if_neg hf]
    refine hlp.2 ?_
    intro j _ hj e
    by_cases h29 : 29 ≤ j
    · exact hge j h29 hj e
    · apply hf
      have h6 := hgt j (by omega)
      have hm : eB.getD j [] ∈ eB.take 29 := List.mem_of_getElem? h6
      have := List.findIdx_lt_length_of_exists (p := fun x => x == xsg (r 197) p c) ⟨_, hm, by rw [e]; simp⟩
      rw [l29] at this
      exact this
