/-! ===== land, journey, mark, see: how it is then ===== -/
section XLW
variable {t p : Nat} {r rm : zRr} {q qm : zRq}
theorem xTdL {r17 rm9 : zRr} {q16 qm10 : zRq} (hD17 : xD t p r17 q16 rm9 qm10) : xTd t p (kcpL r17 (zn (r17 192 2))) (kcpLq q16) (Gm_lays rm9 qm10).1 (Gm_lays rm9 qm10).2 := by
  obtain ⟨m, em, hm⟩ := hD17.len
  refine xtell hD17 rfl (fun a h1 h2 h3 => ?_) ?_ rfl rfl rfl ?_ (fun a h1 h2 => ?_) ?_ ?_ ?_ ?_ ?_
  · unfold kcpL
    rw [if_neg (by omega), if_neg (by omega), if_neg (by omega), if_pos ⟨h1, h2, h3⟩]
  · show upd (r17 180) 2 (nI (zn (r17 192 2))) 2 = r17 192 2
    rw [pk_us, em, xzn (by omega)]
  all_goals (unfold Gm_lays; simp only [zletQ])
  · rfl
  · rcases (show a = 4 ∨ a = 5 ∨ a = 6 ∨ a = 7 ∨ a = 8 ∨ a = 9 by omega) with rfl | rfl | rfl | rfl | rfl | rfl <;> rfl
  · rfl
  · rfl
  · rfl
  · rfl
  · rfl
theorem xLays152 {rm9 : zRr} {qm10 : zRq} {a : Nat} (ha : [1, 4, 5, 6, 7, 8, 9, 10, 11, 12].contains a = false) : (Gm_lays rm9 qm10).1 a = rm9 a := by
  have f : zFr [1, 4, 5, 6, 7, 8, 9, 10, 11, 12] rm9 (Gm_lays rm9 qm10).1 := by
    unfold Gm_lays
    simp only [zletQ]
    repeat (first | with_reducible exact zFr.refl | with_reducible refine zFr.set ?_ ?_ | decide)
  exact f a ha
theorem xLandW {L : Nat} (h : xTp L r rm) (hW : xHow t p r q rm qm) : ∃ t p, xHow t p (Gk_land r q).2.1 (Gk_land r q).2.2 (Gm_land rm qm).2.1 (Gm_land rm qm).2.2 := by
  rcases xLandC (q := q) (qm := qm) h with ⟨r15, q16, rm9, qm10, gk, gm, ek, em⟩ | ⟨t1, p1, r15, q16, rm9, qm10, r17, gk, gm, e17, hD, ek, em⟩
  · have hp := hW.le.2
    obtain ⟨hD, h6, hP, hR, hL, h0⟩ := hW
    rw [ek, em]
    show ∃ t p, xHow t p (zset r15 196 (upd (r15 196) 1 0)) q16 rm9 qm10
    have k15 : ∀ a, a < 182 ∨ a = 195 → zset r15 196 (upd (r15 196) 1 0) a = r a := by
      intro a h1
      have hk : xKM.contains a = false := by
        cases e : xKM.contains a with
        | false => rfl
        | true =>
          have := List.contains_iff_mem.mp e
          unfold xKM at this
          simp only [List.mem_cons, List.not_mem_nil, or_false] at this
          omega
      rw [zset_ne (by omega), gk.1 a hk, xRak ?_]
      cases e : [183, 185, 192, 193, 196, 198].contains a with
      | false => rfl
      | true =>
        have := List.contains_iff_mem.mp e
        simp only [List.mem_cons, List.not_mem_nil, or_false] at this
        omega
    have m9 : ∀ a, 25 ≤ a → a ≠ 100 → a ≠ 101 → a ≠ 103 → a ≠ 104 → a ≠ 105 → a ≠ 106 → a ≠ 108 → a ≠ 109 → a ≠ 122 → a ≠ 123 → a ≠ 136 → rm9 a = rm a := by
      intro a a0 a1 a2 a3 a4 a5 a6 a7 a8 a9 b1 b2
      have hk : xMM.contains a = false := by
        cases e : xMM.contains a with
        | false => rfl
        | true =>
          have := List.contains_iff_mem.mp e
          unfold xMM at this
          simp only [List.mem_cons, List.not_mem_nil, or_false] at this
          omega
      rw [gm.1 a hk]
      unfold xMb xMa xs
      rw [zset_ne a4, zset_ne a2, zset_ne a3, zset_ne a9, zset_ne b1, zset_ne (by omega), zset_ne (by omega), zset_ne (by omega), zset_ne (by omega), zset_ne (by omega), zset_ne (by omega), zset_ne a1]
    have e26 : ∀ c, 26 ≤ c → c ≤ 28 → rm9 c = rm c := fun c c1 c2 => m9 c (by omega) (by omega) (by omega) (by omega) (by omega) (by omega) (by omega) (by omega) (by omega) (by omega) (by omega) (by omega)
    have me : ∀ a, [25, 32, 35, 36, 37, 151, 152].contains a = true → rm9 a = rm a := fun a ha => by
      have := List.contains_iff_mem.mp ha
      simp only [List.mem_cons, List.not_mem_nil, or_false] at this
      exact m9 a (by omega) (by omega) (by omega) (by omega) (by omega) (by omega) (by omega) (by omega) (by omega) (by omega) (by omega) (by omega)
    obtain ⟨t2, p2, hT2⟩ := xLand (q := q) (qm := qm) h hD
    rw [ek, em] at hT2
    have et : t2 = t := by
      have a1 := hT2.1.1
      have a2 := hD.1.1
      have a3 : zset r15 196 (upd (r15 196) 1 0) 171 9 = r 171 9 := by rw [k15 171 (by omega)]
      exact (nI_eq (by have := hT2.1.2.2; omega) (by have := hD.1.2.2; omega)).mp (a1.symm.trans (a3.trans a2))
    have ep : p2 = p := by
      have a1 := hT2.2.1.1
      have a2 := hD.2.1.1
      have a3 : zset r15 196 (upd (r15 196) 1 0) 171 10 = r 171 10 := by rw [k15 171 (by omega)]
      exact (nI_eq (by have := hT2.2.1.2.2; omega) (by have := hD.2.1.2.2; omega)).mp (a1.symm.trans (a3.trans a2))
    subst et
    subst ep
    refine ⟨t2, p2, hT2, h6.eq hp (fun i hi => k15 _ (by omega)) (fun i _ => by rw [me 32 rfl]), hP.fr hp (fun a a1 a2 => k15 a (by omega)) (k15 195 (by omega)) (me 36 rfl) (by rw [me 151 rfl]), hR.fr hp (fun a a1 a2 a3 => k15 a (by omega)) (me 35 rfl) (me 37 rfl) (fun o _ _ => by rw [me 25 rfl]) (fun c i c1 c2 _ _ => by rw [e26 c c1 c2]), hL.fr (fun i hi => k15 _ (by omega)) (by rw [me 25 rfl]) (fun c i c1 c2 _ => by rw [e26 c c1 c2]), by rw [me 152 rfl]; exact h0⟩
  · have h0 := hW.2.2.2.2.2
    have hp6 : p1 ≤ 6 := hD.2.1.2.2.1
    have hT := xTdL hD
    rw [ek, em]
    have r152 : (Gm_lays rm9 qm10).1 152 0 = 0 := by
      rw [xLays152 rfl, gm.1 152 rfl]
      unfold xMb xMa xs
      rw [zset_ne (by decide), zset_ne (by decide), zset_ne (by decide), zset_ne (by decide), zset_ne (by decide), zset_ne (by decide), zset_ne (by decide), zset_ne (by decide), zset_ne (by decide), zset_ne (by decide), zset_ne (by decide), zset_ne (by decide)]
      exact h0
    generalize kcpLq q16 = q20 at hT ⊢
    generalize kcpL r17 (zn (r17 192 2)) = r21 at hT ⊢
    generalize Gm_lays rm9 qm10 = ol at hT r152 ⊢
    obtain ⟨rm14, qm15⟩ := ol
    have hT : xTd t1 p1 r21 q20 rm14 qm15 := hT
    have r152 : rm14 152 0 = 0 := r152
    obtain ⟨hE, hE', hC, hC'⟩ := xCe.of hT
    obtain ⟨c8, f8⟩ := kBgN (q := q20) hE hC
    obtain ⟨m8, z8, g8⟩ := mBg (q := qm15) hE' hC'
    show ∃ t p, xHow t p (Gk_land_79 5 0 (Gk_forgetPast (Gk_clear6 (zset (Gk_begin8N r21 q20) 138 (upd (Gk_begin8N r21 q20 138) 3 0)) q20) q20) q20).2.1 (Gk_land_79 5 0 (Gk_forgetPast (Gk_clear6 (zset (Gk_begin8N r21 q20) 138 (upd (Gk_begin8N r21 q20 138) 3 0)) q20) q20) q20).2.2 (Gm_land_46 5 0 (zset (zset (zset (Gm_fresh0 rm14 qm15) 25 (upd (Gm_fresh0 rm14 qm15 25) 0 0)) 29 (upd (zset (Gm_fresh0 rm14 qm15) 25 (upd (Gm_fresh0 rm14 qm15 25) 0 0) 29) 0 0)) 151 (fun _ => 0)) qm15).2.1 (Gm_land_46 5 0 (zset (zset (zset (Gm_fresh0 rm14 qm15) 25 (upd (Gm_fresh0 rm14 qm15 25) 0 0)) 29 (upd (zset (Gm_fresh0 rm14 qm15) 25 (upd (Gm_fresh0 rm14 qm15 25) 0 0) 29) 0 0)) 151 (fun _ => 0)) qm15).2.2
    generalize Gk_begin8N r21 q20 = u22 at c8 f8 ⊢
    generalize Gm_fresh0 rm14 qm15 = um at m8 z8 g8 ⊢
    have f6 := xclear6 (r := zset u22 138 (upd (u22 138) 3 0)) (q := q20)
    generalize Gk_clear6 (zset u22 138 (upd (u22 138) 3 0)) q20 = u25 at f6 ⊢
    have f5 := xforget (r := u25) (q := q20)
    have v5 : Gk_forgetPast u25 q20 195 13 = 0 ∧ Gk_forgetPast u25 q20 195 14 = 0 := by
      unfold Gk_forgetPast
      simp only [zletQ]
      rw [zset_eq]
      refine ⟨?_, pk_us⟩
      rw [pk_un (by decide), zset_eq, pk_us]
    generalize Gk_forgetPast u25 q20 = u27 at f5 v5 ⊢
    obtain ⟨f4, f4q⟩ := xl79f 5 0 u27 q20 (by omega) (by omega)
    rw [nI_0] at f4 f4q
    obtain ⟨w4, w4q⟩ := xm46f 5 0 (zset (zset (zset um 25 (upd (um 25) 0 0)) 29 (upd (zset um 25 (upd (um 25) 0 0) 29) 0 0)) 151 (fun _ => 0)) qm15 (by omega) (by omega)
    have v4 := xm46v 5 0 (zset (zset (zset um 25 (upd (um 25) 0 0)) 29 (upd (zset um 25 (upd (um 25) 0 0) 29) 0 0)) 151 (fun _ => 0)) qm15 (by omega) (by omega) (fun j hj => absurd hj (Nat.not_lt_zero _))
    rw [nI_0] at w4 w4q v4
    have b1 : zFr [6, 7, 8, 9, 10, 11, 138, 162, 167, 168, 169, 170, 195] r21 (zset u22 138 (upd (u22 138) 3 0)) := (f8.up (by decide)).set (by decide)
    have b4 := ((b1.tr f6 (by decide)).tr f5 (by decide)).tr f4 (by decide)
    have n4 : zFr [25, 29, 32, 37, 151] rm14 (Gm_land_46 5 0 (zset (zset (zset um 25 (upd (um 25) 0 0)) 29 (upd (zset um 25 (upd (um 25) 0 0) 29) 0 0)) 151 (fun _ => 0)) qm15).2.1 := ((((g8.up (by decide)).set (by decide)).set (by decide)).set (by decide)).tr w4 (by decide)
    have u6 : ∀ i, i < 6 → (Gk_land_79 5 0 u27 q20).2.1 (6 + i) = u22 (6 + i) := fun i hi => by
      rcases (show i = 0 ∨ i = 1 ∨ i = 2 ∨ i = 3 ∨ i = 4 ∨ i = 5 by omega) with rfl | rfl | rfl | rfl | rfl | rfl
      all_goals rw [f4 _ rfl, f5 _ rfl, f6 _ rfl, zset_ne (by decide)]
    refine ⟨t1, p1, hT.fr (xKk.of b4 f4q (by decide)) (xLow.of_ n4 w4q (by decide)), ⟨_, c8.eq u6, m8.fr (by rw [w4 32 rfl]; rfl), by rw [w4 32 rfl]; exact z8⟩, xPs.nil (by rw [f4 195 rfl]; exact v5.1) (by rw [f4 195 rfl]; exact v5.2) (by rw [w4 151 rfl, zset_eq]), fun k hk hz => absurd (v4 k hk) hz, xPl.nil (by rw [f4 138 rfl, f5 138 rfl, f6 138 rfl, zset_eq, pk_us]) (by rw [w4 25 rfl, zset_ne (by decide), zset_ne (by decide), zset_eq, pk_us]), by rw [n4 152 rfl]; exact r152⟩
theorem xJourW {L : Nat} (h : xTp L r rm) (hW : xHow t p r q rm qm) : (Gk_journey r q).1 = (Gm_journey rm qm).1 ∧ xHow t p (Gk_journey r q).2.1 (Gk_journey r q).2.2 (Gm_journey rm qm).2.1 (Gm_journey rm qm).2.2 := by
  have hp := hW.le.2
  obtain ⟨hD, h6, hP, hR, hL, h0⟩ := hW
  obtain ⟨ka, kd⟩ := xJour (q := q) (qm := qm) h hD
  refine ⟨ka, kd, ?_⟩
  obtain ⟨⟨hk, k⟩, _⟩ := xjourney h hD
  have mj : ∀ a, a ≠ 25 → a ≠ 100 → a ≠ 101 → a ≠ 103 → a ≠ 104 → a ≠ 136 → xMk rm a = rm a := fun a a1 a2 a3 a4 a5 a6 => by
    unfold xMk xMj xs
    rw [zset_ne a5, zset_ne a3, zset_ne a4, zset_ne a6, zset_ne a1, zset_ne a2]
  have mj25 : ∀ o, o ≠ 5 → xMk rm 25 o = rm 25 o := fun o ho => by
    unfold xMk xMj xs
    rw [zset_ne (by decide), zset_ne (by decide), zset_ne (by decide), zset_ne (by decide), zset_eq, pk_un ho, zset_ne (by decide)]
  have rj : ∀ a, a ≠ 142 → a ≠ 196 → xRj r a = r a := fun a a1 a2 => by
    unfold xRj xs
    rw [zset_ne a2, zset_ne a2, zset_ne a1]
  unfold Gk_journey
  generalize Gk_readJ r q = o at hk k ⊢
  generalize Gm_journey rm qm = om at k ⊢
  obtain ⟨v, r3, q4⟩ := o
  obtain ⟨w, rm3, qm4⟩ := om
  have hk : xJk (xRj r) q r3 q4 := hk
  have k3 : ∀ a, a < 142 ∨ (146 ≤ a ∧ a < 182) ∨ a = 195 → zset r3 196 (upd (r3 196) 1 0) a = r a := fun a ha => by
    rw [zset_ne (by omega), hk.1 a ?_, rj a (by omega) (by omega)]
    cases e : [142, 143, 144, 145, 196].contains a with
    | false => rfl
    | true =>
      have := List.contains_iff_mem.mp e
      simp only [List.mem_cons, List.not_mem_nil, or_false] at this
      omega
  rw [xcvrq (r := r3)]
  simp only [zletQ, zifnQ]
  rcases k with ⟨g1, g2, g3⟩ | ⟨g1, g2, n, rm1, g3, g4, g5⟩
  · have g1 : v = 0 := g1
    have g2 : xJm (xMk rm) qm rm3 qm4 := g2
    rw [if_pos g1]
    show xSt t p 6 (zset r3 196 (upd (r3 196) 1 0)) (rm3 32) ∧ xPs t p (zset r3 196 (upd (r3 196) 1 0)) rm3 ∧ xMr t p (zset r3 196 (upd (r3 196) 1 0)) rm3 ∧ xPl t p 138 0 (zset r3 196 (upd (r3 196) 1 0)) rm3 ∧ rm3 152 0 = 0
    have me : ∀ a, [32, 35, 36, 37, 151, 152].contains a = true → rm3 a = rm a := fun a ha => by
      have := List.contains_iff_mem.mp ha
      simp only [List.mem_cons, List.not_mem_nil, or_false] at this
      rw [g2.1 a ?_, mj a (by omega) (by omega) (by omega) (by omega) (by omega) (by omega)]
      cases e : [25, 26, 27, 28, 104, 105, 106, 108, 109, 136].contains a with
      | false => rfl
      | true =>
        have := List.contains_iff_mem.mp e
        simp only [List.mem_cons, List.not_mem_nil, or_false] at this
        omega
    have e25 : ∀ o, o ≠ 5 → rm3 25 o = rm 25 o := fun o ho => by rw [g2.2.2.1 o ho, mj25 o ho]
    have e26 : ∀ c i, 26 ≤ c → c ≤ 28 → i < 200 → rm3 c i = rm c i := fun c i c1 c2 hi => by rw [g2.2.2.2 c i c1 c2 hi, mj c (by omega) (by omega) (by omega) (by omega) (by omega) (by omega)]
    exact ⟨h6.eq hp (fun i hi => k3 _ (by omega)) (fun i _ => by rw [me 32 rfl]), hP.fr hp (fun a a1 a2 => k3 a (by omega)) (k3 195 (by omega)) (me 36 rfl) (by rw [me 151 rfl]), hR.fr hp (fun a a1 a2 a3 => k3 a (by omega)) (me 35 rfl) (me 37 rfl) (fun o o1 o2 => e25 o (by omega)) (fun c i c1 c2 _ hi => e26 c i c1 c2 hi), hL.fr (fun i hi => k3 _ (by omega)) (e25 0 (by omega)) (fun c i c1 c2 hi => e26 c _ c1 c2 (by omega)), by rw [me 152 rfl]; exact h0⟩
  · have g1 : v = 1 := g1
    have g3 : xJm (xMk rm) qm rm1 qm4 := g3
    have g4 : rm3 = Gm_laysLines 5 0 rm1 qm4 := g4
    have g5 : xPd t p n r3 rm1 := g5
    rw [if_neg (show ¬ v = 0 by rw [g1]; decide)]
    show xSt t p 6 (kcp1 (zset r3 196 (upd (r3 196) 1 0)) 138 142) (rm3 32) ∧ xPs t p (kcp1 (zset r3 196 (upd (r3 196) 1 0)) 138 142) rm3 ∧ xMr t p (kcp1 (zset r3 196 (upd (r3 196) 1 0)) 138 142) rm3 ∧ xPl t p 138 0 (kcp1 (zset r3 196 (upd (r3 196) 1 0)) 138 142) rm3 ∧ rm3 152 0 = 0
    have lf := xlaysL (a := 5) (b := 0) (r := rm1) (q := qm4)
    obtain ⟨l1, l2, l3, l4⟩ := xlaysX2 (a := 5) (b := 0) (r := rm1) (q := qm4) (by omega) (by omega) (by omega)
    rw [show nI 0 = (0 : Int32) from nI_0, show nI 5 = (5 : Int32) from rfl] at l1 l2 l3 l4
    rw [← g4] at lf l1 l2 l3 l4
    have me : ∀ a, [32, 35, 36, 37, 151, 152].contains a = true → rm3 a = rm a := fun a ha => by
      have := List.contains_iff_mem.mp ha
      simp only [List.mem_cons, List.not_mem_nil, or_false] at this
      rw [lf a ?_, g3.1 a ?_, mj a (by omega) (by omega) (by omega) (by omega) (by omega) (by omega)]
      · cases e : [25, 26, 27, 28, 104, 105, 106, 108, 109, 136].contains a with
        | false => rfl
        | true =>
          have := List.contains_iff_mem.mp e
          simp only [List.mem_cons, List.not_mem_nil, or_false] at this
          omega
      · cases e : [25, 26, 27, 28].contains a with
        | false => rfl
        | true =>
          have := List.contains_iff_mem.mp e
          simp only [List.mem_cons, List.not_mem_nil, or_false] at this
          omega
    have e25 : ∀ o, o ≠ 5 → o ≠ 0 → rm3 25 o = rm 25 o := fun o ho h0 => by rw [l1 o h0, g3.2.2.1 o ho, mj25 o ho]
    have e26 : ∀ o c i, o ≠ 0 → o < 5 → 26 ≤ c → c ≤ 28 → i < 40 → rm3 c (40 * o + i) = rm c (40 * o + i) := fun o c i o1 o2 c1 c2 hi => by rw [l4 o c i o1 c1 c2 hi, g3.2.2.2 c _ c1 c2 (by omega), mj c (by omega) (by omega) (by omega) (by omega) (by omega) (by omega)]
    have kr : ∀ a, a < 138 ∨ (146 ≤ a ∧ a < 182) ∨ a = 195 → kcp1 (zset r3 196 (upd (r3 196) 1 0)) 138 142 a = r a := fun a ha => by
      rw [kcp1_o (by omega)]; exact k3 a (by omega)
    have hPl : xPl t p 142 5 (zset r3 196 (upd (r3 196) 1 0)) rm1 := by
      obtain ⟨p1, p2, p3, p4⟩ := g5
      refine ⟨n, p3, by rw [zset_ne (by decide)]; exact p1, p2, fun k hk => ?_⟩
      exact p4 k hk
    refine ⟨h6.eq hp (fun i hi => kr _ (by omega)) (fun i _ => by rw [me 32 rfl]), hP.fr hp (fun a a1 a2 => kr a (by omega)) (kr 195 (by omega)) (me 36 rfl) (by rw [me 151 rfl]), hR.fr hp (fun a a1 a2 a3 => kr a (by omega)) (me 35 rfl) (me 37 rfl) (fun o o1 o2 => e25 o (by omega) (by omega)) (fun c i c1 c2 i1 i2 => ?_), hPl.cp (n := 138) (b := 0) l2 l3, by rw [me 152 rfl]; exact h0⟩
    have := e26 (i / 40) c (i % 40) (by omega) (by omega) c1 c2 (by omega)
    rw [show 40 * (i / 40) + i % 40 = i by omega] at this
    exact this
theorem xMarkW {a b : Int32} (hM : lM r rm) (hS : lS r rm) (hW : xHow t p r q rm qm) : (Gk_mark a b r q).1 = (Gm_mark a b rm qm).1 ∧ (∀ c, 171 ≤ c → c ≠ 195 → (Gk_mark a b r q).2 c = r c) → zFr [100, 37, 25, 26, 27, 28, 29, 30, 31, 32, 151, 35] rm (Gm_mark a b rm qm).2 → xHow t p (Gk_mark a b r q).2 q (Gm_mark a b rm qm).2 qm := by
  intro ⟨_, hk⟩ f
  have hp := hW.le.2
  obtain ⟨hD, h6, hP, hR, hL, h0⟩ := hW
  obtain ⟨k1, k2, k3, k4⟩ := xMarkR (a := a) (b := b) (q := q) (qm := qm) hp hM h6 hP hR hL
  exact ⟨hD.fr ⟨fun c c1 c2 => hk c c1 (by omega), rfl, rfl⟩ (xLow.of_ f rfl (by decide)), k1, k2, k3, k4, by rw [f 152 rfl]; exact h0⟩
end XLW
theorem xHow.see {t p : Nat} {r r1 rm rm1 : zRr} {q qm : zRq} (h : xHow t p r q rm qm) (k : ∀ a, a ≠ 162 → a ≠ 182 → r1 a = r a) (m : zFr [29, 30, 31, 100] rm rm1) : xHow t p r1 q rm1 qm := by
  have hp := h.le.2
  obtain ⟨hD, h6, hP, hR, hL, h0⟩ := h
  exact ⟨hD.fr ⟨fun a h1 h2 => k a (by omega) (by omega), rfl, rfl⟩ (xLow.of_ m rfl (by decide)), h6.eq hp (fun i hi => k _ (by omega) (by omega)) (fun i _ => by rw [m 32 rfl]), hP.fr hp (fun a a1 a2 => k a (by omega) (by omega)) (k 195 (by omega) (by omega)) (m 36 rfl) (by rw [m 151 rfl]), hR.fr hp (fun a a1 a2 a3 => k a (by omega) (by omega)) (m 35 rfl) (m 37 rfl) (fun o _ _ => by rw [m 25 rfl]) (fun c i c1 c2 _ _ => by rcases (show c = 26 ∨ c = 27 ∨ c = 28 by omega) with rfl | rfl | rfl <;> rw [m _ rfl]), hL.fr (fun i hi => k _ (by omega) (by omega)) (by rw [m 25 rfl]) (fun c i c1 c2 _ => by rcases (show c = 26 ∨ c = 27 ∨ c = 28 by omega) with rfl | rfl | rfl <;> rw [m _ rfl]), by rw [m 152 rfl]; exact h0⟩
