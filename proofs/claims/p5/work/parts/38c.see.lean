/-! ===== what the guards' reading leaves as it was; see ===== -/
theorem xpas {a1 a2 a3 a4 : Int32} {m : Nat} (hm : m ≤ 1000) : ∀ (n i : Nat) (w : Int32) (r : zRr), r 180 2 = nI m → i ≤ m → m < n + i → zFr [182] r (Gk_passes_6 a1 a2 a3 a4 n w (nI i) r).2 := by
  intro n
  induction n with
  | zero => intro i w r h1 h2 h3; omega
  | succ n ih =>
    intro i w r h1 h2 h3
    have e0 : Gk_passes_6 a1 a2 a3 a4 (n + 1) w (nI i) r = Bk_passes_6 a1 a2 a3 a4 (Gk_passes_6 a1 a2 a3 a4 n) w (nI i) r := rfl
    rw [e0]
    unfold Bk_passes_6 Gk_passes_104 Gk_passes_100 Gk_passes_150
    simp only [zifQ, zifnQ, zletQ, h1, nI_1]
    by_cases hp : m ≤ i
    · have c : nI m ≤ nI i := (nI_leI (by omega) (by omega)).mpr hp
      rw [if_pos c]
      split
      · exact zFr.refl
      · split <;> exact zFr.refl
    · have c : ¬ nI m ≤ nI i := fun h => hp ((nI_leI (by omega) (by omega)).mp h)
      rw [if_neg c]
      have s0 : ∀ v, zFr [182] r (Gk_passes_6 a1 a2 a3 a4 n v (nI (i + 1)) r).2 := fun v => ih (i + 1) v r h1 (by omega) (by omega)
      have s1 : ∀ v j x, zFr [182] r (Gk_passes_6 a1 a2 a3 a4 n v (nI (i + 1)) (zset r 182 (upd (r 182) j x))).2 := fun v j x => (zFr.refl.set rfl).tr (ih (i + 1) v _ h1 (by omega) (by omega)) (by decide)
      repeat' split
      all_goals first | exact s0 _ | exact s1 _ _ _ | exact zFr.refl
theorem xpasF {a1 a2 a3 a4 : Int32} {m : Nat} {r : zRr} {q : zRq} (hm : m ≤ 1000) (h1 : r 180 2 = nI m) : zFr [182] r (Gk_passes a1 a2 a3 a4 r q).2 := by
  unfold Gk_passes
  exact xpas hm 1001 0 0 r h1 (Nat.zero_le _) (by omega)
theorem xunl {a1 a2 : Int32} {q : zRq} {m : Nat} (hm : m ≤ 1000) : ∀ (n i : Nat) (w : Int32) (r : zRr), r 180 2 = nI m → i ≤ 31 → 31 < n + i → zFr [182] r (Gk_unreadLet_5 a1 a2 q n w (nI i) r).2 := by
  intro n
  induction n with
  | zero => intro i w r h1 h2 h3; omega
  | succ n ih =>
    intro i w r h1 h2 h3
    have e0 : Gk_unreadLet_5 a1 a2 q (n + 1) w (nI i) r = Bk_unreadLet_5 a1 a2 q (Gk_unreadLet_5 a1 a2 q n) w (nI i) r := rfl
    rw [e0]
    unfold Bk_unreadLet_5 Gk_unreadLet_39
    simp only [zifQ, zletQ, nI_1]
    by_cases hp : 30 < i
    · have c : (30 : Int32) < nI i := (nI_ltI (a := 30) (by omega) (by omega)).mpr hp
      rw [if_pos c]
      exact zFr.refl
    · have c : ¬ (30 : Int32) < nI i := fun h => hp ((nI_ltI (a := 30) (by omega) (by omega)).mp h)
      rw [if_neg c]
      have f := xpasF (a1 := nI i) (a2 := 0) (a3 := r 172 (zn a1)) (a4 := a2) (q := q) hm h1
      generalize Gk_passes (nI i) 0 (r 172 (zn a1)) a2 r q = o at f ⊢
      obtain ⟨v, r8⟩ := o
      have f : zFr [182] r r8 := f
      have h8 : r8 180 2 = nI m := by rw [f 180 (by decide)]; exact h1
      rw [xcvr (r := r8)]
      by_cases hv : v = 0
      · rw [if_pos hv]
        exact f.tr (ih (i + 1) _ r8 h8 (by omega) (by omega)) (by decide)
      · rw [if_neg hv]
        exact f.tr (ih (i + 1) _ r8 h8 (by omega) (by omega)) (by decide)
theorem xunlF {a1 a2 : Int32} {m : Nat} {r : zRr} {q : zRq} (hm : m ≤ 1000) (h1 : r 180 2 = nI m) : zFr [182] r (Gk_unreadLet a1 a2 r q).2 := by
  unfold Gk_unreadLet
  exact xunl hm 32 0 0 r h1 (by omega) (by omega)
theorem xLw.len {r rm : zRr} (h : xLw r rm) : ∃ m, r 180 2 = nI m ∧ m ≤ 1000 := by
  rcases h.2 with ⟨_, h1, _⟩ | ⟨C, F, _, _, _, h1, _, _, h2, _⟩
  · exact ⟨4, h1, by decide⟩
  · exact ⟨C.length, h2, h1⟩
theorem xSee {t p : Nat} {a b : Int32} {r : zRr} {q : zRq} {rm : zRr} {qm : zRq} (hD : xTd t p r q rm qm) (hS : lS r rm) (h8 : zI 0 8 (rm 29 0)) : (Gk_see a b r q).1 = (Gm_see a b rm qm).1 ∧ zFr [162, 182] r (Gk_see a b r q).2 ∧ zFr [29, 30, 31, 100] rm (Gm_see a b rm qm).2 ∧ lS (Gk_see a b r q).2 (Gm_see a b rm qm).2 := by
  have e : Gk_isTown a r q = Gm_isTown a (zset rm 100 (fun _ => 0)) qm := xTownK (hD.1.1.trans hD.1.2.1.symm)
  obtain ⟨m, em, hm⟩ := hD.2.2.2.2.2.len
  have hS0 : r 162 1 = rm 29 0 := hS 0 (by omega)
  unfold Gk_see Gm_see Gk_see_53 Gk_add6
  simp only [zletQ, zifQ, zifnQ]
  rw [e]
  have f100 : zFr [29, 30, 31, 100] rm (zset rm 100 (fun _ => 0)) := zFr.refl.set (by decide)
  have hS1 : lS r (zset rm 100 (fun _ => 0)) := hS
  by_cases h : Gm_isTown a (zset rm 100 (fun _ => 0)) qm = 0
  · rw [if_pos h, if_pos h]
    exact ⟨rfl, zFr.refl, f100, hS1⟩
  · rw [if_neg h, if_neg h, hS0]
    by_cases h9 : rm 29 0 = 8
    · have c : ¬ rm 29 0 < 8 := by rw [h9]; decide
      have c2 : (zset rm 100 (fun _ => 0)) 29 0 = (8 : Int32) := h9
      rw [if_neg c, if_pos c2]
      exact ⟨rfl, zFr.refl, f100, hS1⟩
    · have c : rm 29 0 < 8 := by
        rw [Int32.lt_iff_toInt_lt]
        have c8 : (8 : Int32).toInt = 8 := by decide
        have h1 := h8.1; have h2 := h8.2
        rcases Int.lt_or_eq_of_le h2 with h3 | h3
        · rw [c8]; exact h3
        · exact absurd (Int32.toInt_inj.mp (h3.trans c8.symm)) h9
      have c2 : ¬ (zset rm 100 (fun _ => 0)) 29 0 = (8 : Int32) := h9
      rw [if_pos c, if_neg c2]
      have f := xunlF (a1 := a) (a2 := r 6 5) (q := q) hm em
      generalize Gk_unreadLet a (r 6 5) r q = o at f ⊢
      obtain ⟨v, r14⟩ := o
      have f : zFr [182] r r14 := f
      rw [xcvr (r := r14)]
      have key : ∀ x : Int32, zFr [162, 182] r (zset (zset r14 162 (upd (r14 162) 0 (r14 162 0 &&& x))) 162 (upd (zset r14 162 (upd (r14 162) 0 (r14 162 0 &&& x)) 162) 1 (zset r14 162 (upd (r14 162) 0 (r14 162 0 &&& x)) 162 1 + 1))) ∧ lS (zset (zset r14 162 (upd (r14 162) 0 (r14 162 0 &&& x))) 162 (upd (zset r14 162 (upd (r14 162) 0 (r14 162 0 &&& x)) 162) 1 (zset r14 162 (upd (r14 162) 0 (r14 162 0 &&& x)) 162 1 + 1))) (zset (zset (zset (zset rm 100 (fun _ => 0)) 30 (upd (zset rm 100 (fun _ => 0) 30) (zn (zset rm 100 (fun _ => 0) 29 0)) a)) 31 (upd (zset (zset rm 100 (fun _ => 0)) 30 (upd (zset rm 100 (fun _ => 0) 30) (zn (zset rm 100 (fun _ => 0) 29 0)) a) 31) (zn (zset (zset rm 100 (fun _ => 0)) 30 (upd (zset rm 100 (fun _ => 0) 30) (zn (zset rm 100 (fun _ => 0) 29 0)) a) 29 0)) b)) 29 (upd (rm 29) 0 (rm 29 0 + 1))) := by
        intro x
        refine ⟨((f.up (by decide)).set (by decide)).set (by decide), fun k hk => ?_⟩
        show (zset (zset r14 162 (upd (r14 162) 0 (r14 162 0 &&& x))) 162 (upd (zset r14 162 (upd (r14 162) 0 (r14 162 0 &&& x)) 162) 1 (zset r14 162 (upd (r14 162) 0 (r14 162 0 &&& x)) 162 1 + 1))) (162 + k) 1 = upd (rm 29) 0 (rm 29 0 + 1) k
        by_cases ek : k = 0
        · subst ek
          rw [zset_eq, pk_us, zset_eq, pk_un (by decide), pk_us, f 162 (by decide), hS0]
        · rw [zset_ne (by omega), zset_ne (by omega), pk_un ek, f (162 + k) (by rcases (show k = 1 ∨ k = 2 ∨ k = 3 ∨ k = 4 by omega) with rfl | rfl | rfl | rfl <;> decide)]
          exact hS k hk
      by_cases hb : b = 0
      · rw [if_pos hb]
        exact ⟨rfl, (key _).1, ((f100.set (by decide)).set (by decide)).set (by decide), (key _).2⟩
      · rw [if_neg hb]
        exact ⟨rfl, (key _).1, ((f100.set (by decide)).set (by decide)).set (by decide), (key _).2⟩
