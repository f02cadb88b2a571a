section
/-! ===== what holds between two calls: the tapes alike, the same LAND told, all as it is on either side ===== -/
noncomputable def lR (r : zRr) (q : zRq) (rm : zRr) (qm : zRq) : Prop := lT r rm ∧ (∃ t p, xHow t p r q rm qm) ∧ lM r rm ∧ lS r rm
section LR
variable {r r1 : zRr} {q : zRq} {rm rm1 : zRr} {qm qm1 : zRq}
theorem lR.w {M : List Nat} (h : lR r q rm qm) (fk : zFt r r1) (fm : zFr M rm rm1) (m32 : zRs rm rm1) (m152 : rm1 152 0 = 0) (hM : ([0, 1, 4, 5, 6, 7, 8, 9, 10, 11, 12, 25, 26, 27, 28, 29, 35, 36, 37, 101, 151].all fun k => !M.contains k) = true) : lR r1 q rm1 qm := by
  have g : ∀ a, [0, 1, 4, 5, 6, 7, 8, 9, 10, 11, 12, 25, 26, 27, 28, 29, 35, 36, 37, 101, 151].contains a = true → M.contains a = false := fun a ha => by
    have := List.all_eq_true.mp hM a (List.contains_iff_mem.mp ha)
    revert this
    cases M.contains a with
    | false => intro _; rfl
    | true => intro h; cases h
  obtain ⟨h1, ⟨t, p, h2⟩, h3, h4⟩ := h
  refine ⟨(h1.k ⟨fk 196 rfl, fk 197 rfl⟩).m (fm 0 (g 0 rfl)) (fm 101 (g 101 rfl)), ⟨t, p, h2.fr (fun a ha => fk a (zK3_in (by omega))) m32 m152 fm ?_⟩, h3.fr (fun k hk => fk _ (zK3_in (by omega))) (fm 37 (g 37 rfl)), h4.fr (fun k hk => fk _ (zK3_in (by omega))) (fm 29 (g 29 rfl))⟩
  rw [List.all_eq_true]
  intro a ha
  have ha : [1, 4, 5, 6, 7, 8, 9, 10, 11, 12, 25, 26, 27, 28, 35, 36, 37, 151].contains a = true := List.contains_iff_mem.mpr ha
  have : [0, 1, 4, 5, 6, 7, 8, 9, 10, 11, 12, 25, 26, 27, 28, 29, 35, 36, 37, 101, 151].contains a = true := by
    have h9 := List.contains_iff_mem.mp ha
    simp only [List.mem_cons, List.not_mem_nil, or_false] at h9
    rw [List.contains_iff_mem]
    simp only [List.mem_cons, List.not_mem_nil, or_false]
    omega
  rw [g a this]; rfl
theorem lR.z (h : lR r q rm qm) : rm 152 0 = 0 := by
  obtain ⟨_, ⟨_, _, h2⟩, _⟩ := h
  exact h2.2.2.2.2.2
theorem lR.s {M : List Nat} (h : lR r q rm qm) (fk : zFt r r1) (fm : zFr M rm rm1) (m32 : zRs rm rm1) (k152 : M.contains 152 = false) (hM : ([0, 1, 4, 5, 6, 7, 8, 9, 10, 11, 12, 25, 26, 27, 28, 29, 35, 36, 37, 101, 151].all fun k => !M.contains k) = true) : lR r1 q rm1 qm := h.w fk fm m32 (by rw [fm 152 k152]; exact h.z) hM
theorem lR.n (h : lR r q rm qm) (n : mNm qm qm1) : lR r q rm qm1 := by
  obtain ⟨h1, ⟨t, p, h2, h3⟩, h4⟩ := h
  exact ⟨h1, ⟨t, p, h2.fr ⟨fun _ _ _ => rfl, rfl, rfl⟩ (xLow.of rfl (fun _ _ _ => rfl) n.1 n.2), h3⟩, h4⟩
theorem mJ.fo (hM : mJ 20 rm) : ∀ j, j < 6 → zI 0 20 (rm 32 (13 + j)) := by
  intro j hj
  rcases (show j = 0 ∨ j = 1 ∨ j = 2 ∨ j = 3 ∨ j = 4 ∨ j = 5 by omega) with rfl | rfl | rfl | rfl | rfl | rfl
  · exact hM.i 32 13
  · exact hM.i 32 14
  · exact hM.i 32 15
  · exact hM.i 32 16
  · exact hM.i 32 17
  · exact hM.i 32 18
/-- what is asked: the standing is back as it was -/
theorem lR.sJ {a : Int32} {um : Int32 × zRr} (em : um = Gm_judged a rm qm) (h : lR r q rm qm) : zRs rm um.2 := by
  obtain ⟨_, ⟨t, p, h2⟩, _⟩ := h
  obtain ⟨n, hn, _, h25, _⟩ := h2.2.2.2.2.1
  rw [em]; exact rs_judged h25 hn h2.1.2.1.2.1 h2.le.2
theorem lR.sN {a b : Int32} {um : Int32 × zRr} (em : um = Gm_need a b rm qm) (hM : mJ 20 rm) (h : lR r q rm qm) : zRs rm um.2 := by
  obtain ⟨_, ⟨t, p, h2⟩, _⟩ := h
  rw [em]; exact rs_need h2.1.2.1.2.1 h2.le.2 hM.fo
theorem lR.sD {a b : Int32} {um : Int32 × zRr} (em : um = Gm_debt a b rm qm) (hM : mJ 20 rm) (h : lR r q rm qm) : zRs rm um.2 := by
  obtain ⟨_, ⟨t, p, h2⟩, _⟩ := h
  rw [em]; exact rs_debt h2.1.2.1.2.1 h2.le.2 hM.fo
theorem lR.sC {a : Int32} {um : Int32 × zRr} (em : um = Gm_cheapest a rm qm) (hM : mJ 20 rm) (h : lR r q rm qm) : zRs rm um.2 := by
  obtain ⟨_, ⟨t, p, h2⟩, _⟩ := h
  rw [em]; exact rs_cheapest h2.1.2.1.2.1 h2.le.2 hM.fo
theorem lR.sT {a b : Int32} {um : Int32 × zRr} (em : um = Gm_stricter a b rm qm) (h : lR r q rm qm) : um.2 152 0 = 0 := by
  have h0 := h.z
  obtain ⟨_, ⟨t, p, h2⟩, _⟩ := h
  rw [em]; exact rs_stricter h0 h2.1.2.1.2.1 h2.le.2
/-- a move -/
theorem lR.mv {M : List Nat} {u um : Int32 × zRr} (h : lR r q rm qm) (k : ∀ t p, xHow t p r q rm qm → u.1 = um.1 ∧ xHow t p u.2 q um.2 qm ∧ xK1 r u.2) (fm : zFr M rm um.2) (hM : ([0, 29, 37, 101].all fun k => !M.contains k) = true) : u.1 = um.1 ∧ lR u.2 q um.2 qm := by
  have g : ∀ a, [0, 29, 37, 101].contains a = true → M.contains a = false := fun a ha => by
    have := List.all_eq_true.mp hM a (List.contains_iff_mem.mp ha)
    revert this
    cases M.contains a with
    | false => intro _; rfl
    | true => intro h; cases h
  obtain ⟨h1, ⟨t, p, h2⟩, h3, h4⟩ := h
  obtain ⟨k1, k2, k3⟩ := k t p h2
  exact ⟨k1, (h1.k ⟨k3 196 (by omega) (by omega) (by omega), k3 197 (by omega) (by omega) (by omega)⟩).m (fm 0 (g 0 rfl)) (fm 101 (g 101 rfl)), ⟨t, p, k2⟩, h3.fr (fun k hk => k3 _ (by omega) (by omega) (by omega)) (fm 37 (g 37 rfl)), h4.fr (fun k hk => k3 _ (by omega) (by omega) (by omega)) (fm 29 (g 29 rfl))⟩
theorem lR.go {a b : Int32} {M : List Nat} {u um : Int32 × zRr} (e : u = Gk_go a b r q) (em : um = Gm_go a b rm qm) (h : lR r q rm qm) (fm : zFr M rm um.2) (hM : ([0, 29, 37, 101].all fun k => !M.contains k) = true) : u.1 = um.1 ∧ lR u.2 q um.2 qm :=
  h.mv (fun t p k => by rw [e, em]; exact xGoW k) fm hM
theorem lR.forge {a b : Int32} {M : List Nat} {u um : Int32 × zRr} (e : u = Gk_forge a b r q) (em : um = Gm_forge a b rm qm) (hJ : mJ 20 rm) (h : lR r q rm qm) (fm : zFr M rm um.2) (hM : ([0, 29, 37, 101].all fun k => !M.contains k) = true) : u.1 = um.1 ∧ lR u.2 q um.2 qm :=
  h.mv (fun t p k => by rw [e, em]; exact xFgW k hJ.fo) fm hM
theorem lR.shave {a : Int32} {M : List Nat} {u um : Int32 × zRr} (e : u = Gk_shave a r q) (em : um = Gm_shave a rm qm) (h : lR r q rm qm) (fm : zFr M rm um.2) (hM : ([0, 29, 37, 101].all fun k => !M.contains k) = true) : u.1 = um.1 ∧ lR u.2 q um.2 qm :=
  h.mv (fun t p k => by rw [e, em]; exact xShW k) fm hM
theorem lR.week {M : List Nat} {u um : Int32 × zRr} (e : u = Gk_week r q) (em : um = Gm_week rm qm) (h : lR r q rm qm) (fm : zFr M rm um.2) (hM : ([0, 29, 37, 101].all fun k => !M.contains k) = true) : u.1 = um.1 ∧ lR u.2 q um.2 qm :=
  h.mv (fun t p k => by rw [e, em]; exact xWkW k) fm hM
theorem lR.undo {M : List Nat} {u um : Int32 × zRr} (e : u = Gk_undo r q) (em : um = Gm_undo rm qm) (h : lR r q rm qm) (fm : zFr M rm um.2) (hM : ([0, 29, 37, 101].all fun k => !M.contains k) = true) : u.1 = um.1 ∧ lR u.2 q um.2 qm :=
  h.mv (fun t p k => by rw [e, em]; exact xUnW k) fm hM
theorem lR.land {B : Int} {u um : Int32 × zRr × zRq} (e : u = Gk_land r q) (em : um = Gm_land rm qm) (hM : mJ B rm) (h : lR r q rm qm) (z : u.2.1 196 1 = 0) (zm : um.2.1 101 0 = 0) : u.1 = um.1 ∧ lR u.2.1 u.2.2 um.2.1 um.2.2 := by
  obtain ⟨h1, ⟨t, p, h2⟩, h3, h4⟩ := h
  have hp := h1.p hM
  have k := xLandM (q := q) (qm := qm) hp h3 h4
  refine ⟨by rw [e, em]; exact xLandA hp, lT.z z zm, ?_, ?_⟩
  · rw [e, em]; exact xLandW hp h2
  · rw [e, em]; exact k
theorem xJourF {L t p : Nat} (h : xTp L r rm) (hD : xTd t p r q rm qm) {a : Nat} (h1 : 146 ≤ a) (h2 : a ≠ 196) : (Gk_journey r q).2.1 a = r a := by
  obtain ⟨⟨hk, k⟩, _⟩ := xjourney h hD
  unfold Gk_journey
  generalize Gk_readJ r q = o at hk k ⊢
  obtain ⟨v, r3, q4⟩ := o
  have hk : xJk (xRj r) q r3 q4 := hk
  have e3 : r3 a = r a := by
    rw [hk.1 a ?_]
    · show xs (xs (xs r 142 3 0) 196 3 0) 196 7 0 a = r a
      unfold xs
      rw [zset_ne h2, zset_ne h2, zset_ne (by omega)]
    · cases e : [142, 143, 144, 145, 196].contains a with
      | false => rfl
      | true =>
        have := List.contains_iff_mem.mp e
        simp only [List.mem_cons, List.not_mem_nil, or_false] at this
        omega
  rw [xcvrq (r := r3)]
  simp only [zletQ, zifnQ]
  by_cases hv : v = 0
  · rw [if_pos hv]
    show zset r3 196 (upd (r3 196) 1 0) a = r a
    rw [zset_ne h2]; exact e3
  · rw [if_neg hv]
    show kcp1 (zset r3 196 (upd (r3 196) 1 0)) 138 142 a = r a
    rw [kcp1_o (by omega), zset_ne h2]; exact e3
theorem lR.jour {B : Int} {M : List Nat} {u um : Int32 × zRr × zRq} (e : u = Gk_journey r q) (em : um = Gm_journey rm qm) (hM : mJ B rm) (h : lR r q rm qm) (z : u.2.1 196 1 = 0) (zm : um.2.1 101 0 = 0) (f : zFr M rm um.2.1) (h3 : M.contains 29 = false) (h4 : M.contains 37 = false) : u.1 = um.1 ∧ lR u.2.1 u.2.2 um.2.1 um.2.2 := by
  obtain ⟨g1, ⟨t, p, g2⟩, g3, g4⟩ := h
  have k := xJourW (g1.p hM) g2
  have kf : ∀ a, 146 ≤ a → a ≠ 196 → u.2.1 a = r a := fun a a1 a2 => by rw [e]; exact xJourF (g1.p hM) g2.1 a1 a2
  refine ⟨by rw [e, em]; exact k.1, lT.z z zm, ⟨t, p, by rw [e, em]; exact k.2⟩, g3.fr (fun k hk => kf _ (by omega) (by omega)) (f 37 h4), g4.fr (fun k hk => kf _ (by omega) (by omega)) (f 29 h3)⟩
theorem xMarkF {a b : Int32} {c : Nat} (h1 : 171 ≤ c) (h2 : c ≠ 195) : (Gk_mark a b r q).2 c = r c := by
  by_cases h0 : a < 0
  · unfold Gk_mark; rw [zifQ, if_pos h0]
  by_cases h4 : a < 4
  · obtain ⟨k, hk, ea⟩ : ∃ k, k < 4 ∧ a = nI k := by
      have hz : zI 0 3 a := by
        rw [Int32.lt_iff_toInt_lt] at h0 h4
        have c0 : (0 : Int32).toInt = 0 := by decide
        have c4 : (4 : Int32).toInt = 4 := by decide
        exact ⟨by omega, by omega⟩
      obtain ⟨e1, e2⟩ := hz.ix (n := 4) (by decide)
      exact ⟨_, e2, e1⟩
    subst ea
    rw [xmarkK hk]
    by_cases hb : b = 0
    · rw [if_pos hb]
      show xLay k r c = r c
      unfold xLay
      rw [zset_ne (by omega), zset_ne (by omega), kcp1_o (by omega), kcp8_o (by omega)]
    · rw [if_neg hb]
      by_cases hz : r (167 + k) 3 = 0
      · rw [if_pos hz]
      · rw [if_neg hz]
        show xBack k r q c = r c
        unfold xBack Gk_forgetPast
        simp only [zletQ]
        rw [zset_ne h2, zset_ne h2, zset_ne (by omega), kcp1_o (by omega), kcp8_o (by omega)]
  · unfold Gk_mark
    simp only [zifQ, if_neg h0, if_neg h4]
theorem lR.mark {a b : Int32} {u um : Int32 × zRr} (e : u = Gk_mark a b r q) (em : um = Gm_mark a b rm qm) (h : lR r q rm qm) (f : zFr [100, 37, 25, 26, 27, 28, 29, 30, 31, 32, 151, 35] rm um.2) : u.1 = um.1 ∧ lR u.2 q um.2 qm := by
  obtain ⟨g1, ⟨t, p, g2⟩, g3, g4⟩ := h
  obtain ⟨k1, k2, k3⟩ := xMark (a := a) (b := b) (q := q) (qm := qm) g3 g4
  have kf : ∀ c, 171 ≤ c → c ≠ 195 → u.2 c = r c := fun c c1 c2 => by rw [e]; exact xMarkF c1 c2
  have kw := xMarkW (a := a) (b := b) (q := q) (qm := qm) g3 g4 g2
  rw [← e, ← em] at k1 k2 k3 kw
  exact ⟨k1, (g1.k ⟨kf 196 (by omega) (by omega), kf 197 (by omega) (by omega)⟩).m (f 0 rfl) (f 101 rfl), ⟨t, p, kw ⟨k1, kf⟩ f⟩, k2, k3⟩
theorem lR.see {a b : Int32} {B : Int} {u um : Int32 × zRr} (e : u = Gk_see a b r q) (em : um = Gm_see a b rm qm) (hM : mJ B rm) (h : lR r q rm qm) : u.1 = um.1 ∧ lR u.2 q um.2 qm := by
  obtain ⟨g1, ⟨t, p, g2⟩, g3, g4⟩ := h
  obtain ⟨k1, k2, k3, k4⟩ := xSee (a := a) (b := b) g2.1 g4 (show zI 0 8 (rm 29 0) from hM.i 29 0)
  rw [← e] at k1 k2 k4
  rw [← em] at k1 k3 k4
  have kf : ∀ a, a ≠ 162 → a ≠ 182 → u.2 a = r a := fun a a1 a2 => k2 a (by
    cases e : [162, 182].contains a with
    | false => rfl
    | true =>
      have := List.contains_iff_mem.mp e
      simp only [List.mem_cons, List.not_mem_nil, or_false] at this
      omega)
  refine ⟨k1, (g1.k ⟨kf 196 (by omega) (by omega), kf 197 (by omega) (by omega)⟩).m (k3 0 (by decide)) (k3 101 (by decide)), ⟨t, p, ?_⟩, g3.fr (fun k hk => kf _ (by omega) (by omega)) (k3 37 (by decide)), k4⟩
  exact (xHow.see g2 kf k3)
end LR
theorem lR.q {r r1 : zRr} {q : zRq} {rm rm1 : zRr} {qm : zRq} {M : List Nat} (h : lR r q rm qm) (fk : zFt r r1) (fm : zFr M rm rm1) (k32 : M.contains 32 = false) (k152 : M.contains 152 = false) (hM : ([0, 1, 4, 5, 6, 7, 8, 9, 10, 11, 12, 25, 26, 27, 28, 29, 35, 36, 37, 101, 151].all fun k => !M.contains k) = true) : lR r1 q rm1 qm := h.w fk fm (fun i _ => by rw [fm 32 k32]) (by rw [fm 152 k152]; exact h.z) hM
end
section
/-! ===== the comparisons ===== -/
section LC
variable {r : zRr} {q : zRq} {rm : zRr} {qm : zRq} {a b : Int32}
theorem lR.cTrapped {u um : Int32 × zRr} (e : u = Gk_trapped r q) (em : um = Gm_trapped rm qm) (_ : mJ 20 rm) (_ : kJ r) (h : lR r q rm qm) : u.1 = um.1 := by
  obtain ⟨_, ⟨t, p, h2⟩, _⟩ := h
  rw [e, em]; exact xTrapW h2
end LC
end
