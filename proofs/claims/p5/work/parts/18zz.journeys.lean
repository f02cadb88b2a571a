/-! ===== all lines of a JOURNEY ===== -/
section XJA
variable {L b e n t p : Nat} {r : zRr} {q : zRq} {rm : zRr} {qm : zRq}
theorem xdeed : Gk_deedHere r q = if r 196 4 = 10 then 0 else if r 196 4 = 11 then 1 else if r 196 4 = 12 then 2 else if r 196 4 = 13 then 3 else -1 := by
  unfold Gk_deedHere
  simp only [zifnQ, zletQ]
/-- both sides step over the deed's word -/
theorem xJhead (h : xTok L b e r q rm qm) (hD : xTd t p r q rm qm) (hP : xPd t p n r rm) (hn : n < 40) (hs : ¬ r 196 4 = 31) (d : Int32) : ∃ b1 e1 r1 q1 rm1 qm1, Gk_step (xKh n d r) q = (r1, q1) ∧ Gm_nextToken rm qm = (rm1, qm1) ∧ b < b1 ∧ xTok L b1 e1 r1 q1 rm1 qm1 ∧ xTd t p r1 q1 rm1 qm1 ∧ xQd t p n r1 rm1 ∧ r1 143 n = d ∧ r1 145 n = 0 ∧ rm1 25 5 = nI n ∧ xJk r q r1 q1 ∧ xJm rm qm rm1 qm1 := by
  have hTa : xTok L b e (xKh n d r) q rm qm := h.row rfl rfl rfl rfl rfl rfl rfl rfl rfl rfl
  obtain ⟨b1, e1, r1, q1, rm1, qm1, s1, s2, hT1, hb1, fk, fm⟩ := hTa.next
  have hlt := h.lt hs
  have hk0 : xJk r q (xKh n d r) q := (((xJk.refl.set (k := 142) (by decide)).set (k := 143) (by decide)).set (k := 144) (by decide)).set (k := 145) (by decide)
  have hk : xJk r q r1 q1 := hk0.k fk
  have hm : xJm rm qm rm1 qm1 := xJm.refl.m (xFm9.m fm)
  refine ⟨b1, e1, r1, q1, rm1, qm1, s1, s2, by omega, hT1, hD.j hk hm, (hP.head hn).tok fk (xFm9.m fm), ?_, ?_, ?_, hk, hm⟩
  · rw [fk.1 143 rfl]
    show upd (r 143) n d n = d
    rw [pk_us]
  · rw [fk.1 145 rfl]
    show upd (r 145) n 0 n = 0
    rw [pk_us]
  · rw [fm.1 25 rfl]; exact hP.2.1
theorem xlJ (h : xTok L b e r q rm qm) (hD : xTd t p r q rm qm) (hP : xPd t p n r rm) (hs : ¬ r 196 4 = 31) : xJo t p L b r q rm qm (xCL (Gk_readLineJ r q)) (Gm_readsLine rm qm) := by
  have w10 := h.word (C := 204) 10 (by decide) (by decide)
  have w11 := h.word (C := 3497207) 11 (by decide) (by decide)
  have w12 := h.word (C := 10256171) 12 (by decide) (by decide)
  have w13 := h.word (C := 456500) 13 (by decide) (by decide)
  rw [show nI 10 = (10 : Int32) from rfl] at w10
  rw [show nI 11 = (11 : Int32) from rfl] at w11
  rw [show nI 12 = (12 : Int32) from rfl] at w12
  rw [show nI 13 = (13 : Int32) from rfl] at w13
  have e3 : r 142 3 = nI n := hP.1
  have e25 : rm 25 5 = nI n := hP.2.1
  have hn40 : n ≤ 40 := hP.2.2.1
  have e200 : (200 : Int32) + nI n = nI (200 + n) := nI_add 200 n
  have z200 : zn (nI (200 + n)) = 200 + n := xzn (by omega)
  by_cases hn : n < 40
  · have c40 : ¬ nI n = 40 := fun h9 => by have := (nI_eq (b := 40) (by omega) (by omega)).mp h9; omega
    unfold Gm_readsLine
    simp only [zifQ, zifnQ, zletQ, xfm, xeta, w10, w11, w12, w13, e25, if_neg c40]
    by_cases c0 : r 196 4 = 10
    · simp only [if_pos c0, x10, if_false]
      have hd : Gk_deedHere r q = 0 := by rw [xdeed, if_pos c0]
      rw [xlineJk e3 hn hd (by decide)]
      obtain ⟨b1, e1, r1, q1, rm1, qm1, s1, s2, hb1, hT1, hD1, hQ1, g1, g2, g3, hk, hm⟩ := xJhead h hD hP hn hs 0
      rw [xrw s1, xrw s2, if_neg (show ¬ (0 : Int32) = 3 by decide)]
      simp only [g3, e200, z200]
      have hm1 := hm.cell (k := 26) (j := 200 + n) (v := 0) ⟨by omega, by omega⟩ (by omega)
      refine xJperson (d := 0) (rm1 := zset rm1 26 (upd (rm1 26) (200 + n) 0)) hn (hT1.row rfl rfl rfl rfl rfl rfl rfl rfl rfl rfl) hb1 (hD1.j xJk.refl (xJm.refl.cell (k := 26) (j := 200 + n) (v := 0) ⟨by omega, by omega⟩ (by omega))) (hQ1.m ⟨by omega, by omega⟩) g1 (by rw [zset_eq, pk_us]) g2 hk hm1 _ ?_
      intro b2 e2 r2 q2 rm2 qm2 k1 k2 k3 k4 k5 k6 k7 kb k8 k9 k10
      exact xJgo k1 k2 k3 k4 k5 k6 k7 kb k9 k10
    · simp only [if_neg c0, if_true]
      by_cases c1 : r 196 4 = 11
      · simp only [if_pos c1, x10, if_false]
        have hd : Gk_deedHere r q = 1 := by rw [xdeed, if_neg c0, if_pos c1]
        rw [xlineJk e3 hn hd (by decide)]
        obtain ⟨b1, e1, r1, q1, rm1, qm1, s1, s2, hb1, hT1, hD1, hQ1, g1, g2, g3, hk, hm⟩ := xJhead h hD hP hn hs 1
        rw [xrw s1, xrw s2, if_neg (show ¬ (1 : Int32) = 3 by decide)]
        simp only [g3, e200, z200]
        have hm1 := hm.cell (k := 26) (j := 200 + n) (v := 1) ⟨by omega, by omega⟩ (by omega)
        refine xJperson (d := 1) (rm1 := zset rm1 26 (upd (rm1 26) (200 + n) 1)) hn (hT1.row rfl rfl rfl rfl rfl rfl rfl rfl rfl rfl) hb1 (hD1.j xJk.refl (xJm.refl.cell (k := 26) (j := 200 + n) (v := 1) ⟨by omega, by omega⟩ (by omega))) (hQ1.m ⟨by omega, by omega⟩) g1 (by rw [zset_eq, pk_us]) g2 hk hm1 _ ?_
        intro b2 e2 r2 q2 rm2 qm2 k1 k2 k3 k4 k5 k6 k7 kb k8 k9 k10
        exact xJforge k1 k2 k4 k5 k6 k7 kb k9 k10
      · simp only [if_neg c1, if_true]
        by_cases c2 : r 196 4 = 12
        · simp only [if_pos c2, x10, if_false]
          have hd : Gk_deedHere r q = 2 := by rw [xdeed, if_neg c0, if_neg c1, if_pos c2]
          rw [xlineJk e3 hn hd (by decide)]
          obtain ⟨b1, e1, r1, q1, rm1, qm1, s1, s2, hb1, hT1, hD1, hQ1, g1, g2, g3, hk, hm⟩ := xJhead h hD hP hn hs 2
          rw [xrw s1, xrw s2, if_neg (show ¬ (2 : Int32) = 3 by decide)]
          simp only [g3, e200, z200]
          have hm1 := hm.cell (k := 26) (j := 200 + n) (v := 2) ⟨by omega, by omega⟩ (by omega)
          refine xJperson (d := 2) (rm1 := zset rm1 26 (upd (rm1 26) (200 + n) 2)) hn (hT1.row rfl rfl rfl rfl rfl rfl rfl rfl rfl rfl) hb1 (hD1.j xJk.refl (xJm.refl.cell (k := 26) (j := 200 + n) (v := 2) ⟨by omega, by omega⟩ (by omega))) (hQ1.m ⟨by omega, by omega⟩) g1 (by rw [zset_eq, pk_us]) g2 hk hm1 _ ?_
          intro b2 e2 r2 q2 rm2 qm2 k1 k2 k3 k4 k5 k6 k7 kb k8 k9 k10
          exact xJshave k1 k2 k4 k5 k6 k7 kb k8 k9 k10
        · simp only [if_neg c2, if_true]
          by_cases c3 : r 196 4 = 13
          · simp only [if_pos c3, x10, if_false]
            have hd : Gk_deedHere r q = 3 := by rw [xdeed, if_neg c0, if_neg c1, if_neg c2, if_pos c3]
            rw [xlineJk e3 hn hd (by decide)]
            obtain ⟨b1, e1, r1, q1, rm1, qm1, s1, s2, hb1, hT1, hD1, hQ1, g1, g2, g3, hk, hm⟩ := xJhead h hD hP hn hs 3
            rw [xrw s1, xrw s2, if_pos rfl]
            simp only [g3, e200, z200]
            have hm1 := hm.cell (k := 26) (j := 200 + n) (v := 3) ⟨by omega, by omega⟩ (by omega)
            exact xJend (rm1 := zset rm1 26 (upd (rm1 26) (200 + n) 3)) (hT1.row rfl rfl rfl rfl rfl rfl rfl rfl rfl rfl) hb1 (hQ1.m ⟨by omega, by omega⟩) (by rw [zset_eq, pk_us]; exact g1) (fun h9 => absurd g1 h9) (fun h9 => by rw [g1] at h9; exact absurd h9 (by decide)) ⟨Or.inr (Or.inr (Or.inr g1)), fun h9 => absurd g1 h9, fun h9 => by rw [g1] at h9; exact absurd h9 (by decide), fun h9 => by rw [g1] at h9; exact absurd h9 (by decide)⟩ hk hm1
          · simp only [if_neg c3, if_true]
            have hd : Gk_deedHere r q = -1 := by rw [xdeed, if_neg c0, if_neg c1, if_neg c2, if_neg c3]
            have ek : Gk_readLineJ r q = (0, (Gk_wrong 1 r q).2, q) := by
              unfold Gk_readLineJ
              simp only [zifQ, zifnQ, zletQ, xfr, hd, if_true]
            obtain ⟨r1, rm1, h1, h2, h3, h4, h5⟩ := h.fails 1
            rw [ek, h1, h2]
            exact xJo.fail (xJk.refl.k ⟨h4, xFq.refl⟩) (xJm.refl.m ⟨h5.up rfl, xFq.refl⟩) h3
  · have h40 : n = 40 := by omega
    subst h40
    have c40 : ¬ nI 40 < (40 : Int32) := by decide
    have d40 : nI 40 = (40 : Int32) := rfl
    unfold Gm_readsLine
    simp only [zifQ, zifnQ, zletQ, xfm, xeta, w10, w11, w12, w13, e25, d40, if_true]
    by_cases hd : Gk_deedHere r q = -1
    · have ek : Gk_readLineJ r q = (0, (Gk_wrong 1 r q).2, q) := by
        unfold Gk_readLineJ
        simp only [zifQ, zifnQ, zletQ, xfr, hd, if_true]
      rw [xdeed] at hd
      have c0 : ¬ r 196 4 = 10 := fun c => by rw [if_pos c] at hd; exact absurd hd (by decide)
      rw [if_neg c0] at hd
      have c1 : ¬ r 196 4 = 11 := fun c => by rw [if_pos c] at hd; exact absurd hd (by decide)
      rw [if_neg c1] at hd
      have c2 : ¬ r 196 4 = 12 := fun c => by rw [if_pos c] at hd; exact absurd hd (by decide)
      rw [if_neg c2] at hd
      have c3 : ¬ r 196 4 = 13 := fun c => by rw [if_pos c] at hd; exact absurd hd (by decide)
      simp only [if_neg c0, if_neg c1, if_neg c2, if_neg c3, if_true]
      obtain ⟨r1, rm1, h1, h2, h3, h4, h5⟩ := h.fails 1
      rw [ek, h1, h2]
      exact xJo.fail (xJk.refl.k ⟨h4, xFq.refl⟩) (xJm.refl.m ⟨h5.up rfl, xFq.refl⟩) h3
    · have ek : Gk_readLineJ r q = (0, (Gk_wrong 5 r q).2, q) := by
        unfold Gk_readLineJ
        simp only [zifQ, zifnQ, zletQ, xfr, if_neg hd, e3, if_neg c40]
      obtain ⟨r1, rm1, h1, h2, h3, h4, h5⟩ := h.fails 5
      rw [ek, h1, h2]
      have key : xJo t p L b r q rm qm (xCL (0, r1, q)) (0, rm1, qm) := xJo.fail (xJk.refl.k ⟨h4, xFq.refl⟩) (xJm.refl.m ⟨h5.up rfl, xFq.refl⟩) h3
      rw [xdeed] at hd
      by_cases c0 : r 196 4 = 10
      · simp only [if_pos c0, x10, if_false]; exact key
      · by_cases c1 : r 196 4 = 11
        · simp only [if_neg c0, if_true, if_pos c1, x10, if_false]; exact key
        · by_cases c2 : r 196 4 = 12
          · simp only [if_neg c0, if_neg c1, if_true, if_pos c2, x10, if_false]; exact key
          · by_cases c3 : r 196 4 = 13
            · simp only [if_neg c0, if_neg c1, if_neg c2, if_true, if_pos c3, x10, if_false]; exact key
            · rw [if_neg c0, if_neg c1, if_neg c2, if_neg c3] at hd
              exact absurd rfl hd
end XJA
/-- all of it: the same fault, or the same lines -/
def xJA (t p : Nat) (r : zRr) (q : zRq) (rm : zRr) (qm : zRq) (o om : Int32 × zRr × zRq) : Prop :=
  xJk r q o.2.1 o.2.2 ∧ ((o.1 = 0 ∧ xJm rm qm om.2.1 om.2.2 ∧ om.1 = o.2.1 196 7) ∨ (o.1 = 1 ∧ om.1 = 0 ∧ ∃ n rm1, xJm rm qm rm1 om.2.2 ∧ om.2.1 = Gm_laysLines 5 0 rm1 om.2.2 ∧ xPd t p n o.2.1 rm1))
theorem xJA.ok {t p n : Nat} {r X : zRr} {q : zRq} {rm : zRr} {qm : zRq} (hX : X = Gm_laysLines 5 0 rm qm) (hP : xPd t p n r rm) : xJA t p r q rm qm (1, r, q) (0, X, qm) := ⟨xJk.refl, Or.inr ⟨rfl, rfl, n, rm, xJm.refl, hX, hP⟩⟩
theorem xlinesJ : ∀ (m i L b e c n t p : Nat) (r : zRr) (q : zRq) (rm : zRr) (qm : zRq), xTok L b e r q rm qm → xTd t p r q rm qm → xPd t p n r rm → m + i = 1001 → i ≤ b → 1001 < c + b → xJA t p r q rm qm (Gk_readJ_11 m (nI i) r q) (Gm_journey_21 c rm qm) := by
  intro m
  induction m with
  | zero =>
    intro i L b e c n t p r q rm qm hT hD hP hm hi hc
    have := hT.P.hp; have := hT.P.hL; have := hT.hb
    omega
  | succ m ih =>
    intro i L b e c n t p r q rm qm hT hD hP hm hi hc
    have hp := hT.P.hp; have hL := hT.P.hL; have hb := hT.hb
    obtain ⟨c0, rfl⟩ : ∃ c0, c = c0 + 1 := ⟨c - 1, by omega⟩
    have e0 : Gk_readJ_11 (m + 1) (nI i) r q = Bk_readJ_11 (Gk_readJ_11 m) (nI i) r q := rfl
    have e1 : Gm_journey_21 (c0 + 1) rm qm = Bm_journey_21 (Gm_journey_21 c0) rm qm := rfl
    rw [e0, e1]
    by_cases h31 : r 196 4 = 31
    · have ek : Bk_readJ_11 (Gk_readJ_11 m) (nI i) r q = (1, r, q) := by
        unfold Bk_readJ_11
        simp only [zifQ, zletQ, if_pos h31, ite_self]
      have em : Bm_journey_21 (Gm_journey_21 c0) rm qm = (0, Gm_laysLines 5 0 rm qm, qm) := by
        unfold Bm_journey_21
        rw [zifQ, if_pos (hT.end_.mpr h31), zletQ]
      rw [ek, em]
      exact xJA.ok (Eq.refl (Gm_laysLines 5 0 rm qm)) hP
    · have hlt := hT.lt h31
      have hi1 : i < 1000 := by omega
      have hLo := xlJ hT hD hP h31
      have em : Bm_journey_21 (Gm_journey_21 c0) rm qm = zc_vrq (Gm_readsLine rm qm) (fun v r q => zifn (v = 0) (Gm_journey_21 c0 r q) (r 109 0, r, q)) := by
        unfold Bm_journey_21
        rw [zifQ, if_neg (fun h9 => h31 (hT.end_.mp h9))]
        simp only [zletQ]
      have ek : Bk_readJ_11 (Gk_readJ_11 m) (nI i) r q = zc_vrq (xCL (Gk_readLineJ r q)) (fun v r q => zifn (v = 0) (Gk_readJ_11 m (nI i + 1) r q) (0, r, q)) := by
        unfold Bk_readJ_11 xCL
        simp only [zifQ, zifnQ, zletQ, if_neg (x1000n hi1), if_neg h31]
        generalize Gk_readLineJ r q = o
        obtain ⟨v, r8, q9⟩ := o
        rw [xcvrq (r := r8), xcvrq (r := r8)]
        by_cases hv : v = 0
        · rw [if_pos hv, if_pos hv, xcvrq (r := r8), if_pos rfl]
        · rw [if_neg hv, if_neg hv]
          generalize Gk_take 28 r8 q9 = o2
          obtain ⟨v2, r15, q16⟩ := o2
          rw [xcvrq (r := r15), xcvrq (r := r15)]
          by_cases hv2 : v2 = 0
          · rw [if_pos hv2, if_pos hv2, xcvrq (r := r15), if_pos rfl]
          · rw [if_neg hv2, if_neg hv2, xcvrq (r := r15), if_neg (show ¬ (1 : Int32) = 0 by decide)]
      rw [ek, em, nI_1]
      generalize xCL (Gk_readLineJ r q) = o at hLo ⊢
      generalize Gm_readsLine rm qm = om at hLo ⊢
      obtain ⟨v, r8, q9⟩ := o
      obtain ⟨w, rm8, qm9⟩ := om
      obtain ⟨gk, gm, hLo⟩ := hLo
      have gk : xJk r q r8 q9 := gk
      have gm : xJm rm qm rm8 qm9 := gm
      rw [xcvrq (r := r8), xcvrq (r := rm8), zifnQ, zifnQ]
      rcases hLo with ⟨a1, a2, a3⟩ | ⟨a1, a2, b', e', n', a3, a4, a5⟩
      · have a1 : v = 0 := a1
        have a2 : w = 0 := a2
        rw [if_pos a1, if_pos a2]
        exact ⟨gk, Or.inl ⟨rfl, gm, a3.symm⟩⟩
      · have a1 : v = 1 := a1
        have a2 : w = 1 := a2
        rw [if_neg (show ¬ v = 0 by rw [a1]; decide), if_neg (show ¬ w = 0 by rw [a2]; decide)]
        obtain ⟨k1, k2⟩ := ih (i + 1) L b' e' c0 n' t p r8 q9 rm8 qm9 a4 (hD.j gk gm) a5 (by omega) (by omega) (by omega)
        refine ⟨gk.tr k1, ?_⟩
        rcases k2 with ⟨g1, g2, g3⟩ | ⟨g1, g2, n1, rm1, g3, g4, g5⟩
        · exact Or.inl ⟨g1, gm.tr g2, g3⟩
        · exact Or.inr ⟨g1, g2, n1, rm1, gm.tr g3, g4, g5⟩
/-- the class before its first token, the reference before its -/
noncomputable def xRj (r : zRr) : zRr := xs (xs (xs r 142 3 0) 196 3 0) 196 7 0
noncomputable def xMj (rm : zRr) : zRr := zset (xs (zset rm 100 (fun _ => 0)) 25 5 0) 136 (fun _ => 0)
noncomputable def xMk (rm : zRr) : zRr := zset (zset (zset (xMj rm) 103 (fun _ => xMj rm 101 0)) 101 (fun _ => 0)) 104 (fun _ => 0)
theorem xreadJ {r : zRr} {q : zRq} : Gk_readJ r q = zc_rq (Gk_step (xRj r) q) (fun a b => Gk_readJ_11 1001 0 a b) := by
  unfold Gk_readJ Gk_begin xRj
  simp only [zletQ, zc_rqQ, xs]
theorem xjourM {rm : zRr} {qm : zRq} : Gm_journey rm qm = zc_rq (Gm_nextToken (xMk rm) qm) (fun a b => Gm_journey_21 1002 a b) := by
  unfold Gm_journey Gm_begins xMk xMj
  simp only [zletQ, zc_rqQ, xs]
theorem xTd.js {t p : Nat} {r : zRr} {q : zRq} {rm : zRr} {qm : zRq} (h : xTd t p r q rm qm) : xTd t p (xRj r) q (xMk rm) qm := by
  refine h.fr ⟨fun a h1 h2 => ?_, rfl, rfl⟩ (xLow.of rfl (fun a h1 h2 => ?_) rfl rfl)
  · rcases (show a = 171 ∨ a = 172 ∨ a = 173 ∨ a = 174 ∨ a = 175 ∨ a = 176 ∨ a = 177 ∨ a = 178 ∨ a = 179 ∨ a = 180 ∨ a = 181 by omega) with rfl | rfl | rfl | rfl | rfl | rfl | rfl | rfl | rfl | rfl | rfl <;> rfl
  · rcases (show a = 4 ∨ a = 5 ∨ a = 6 ∨ a = 7 ∨ a = 8 ∨ a = 9 ∨ a = 10 ∨ a = 11 ∨ a = 12 by omega) with rfl | rfl | rfl | rfl | rfl | rfl | rfl | rfl | rfl <;> rfl
/-- a JOURNEY is read: the same fault on both sides, or none and the same lines -/
theorem xjourney {L t p : Nat} {r : zRr} {q : zRq} {rm : zRr} {qm : zRq} (h : xTp L r rm) (hD : xTd t p r q rm qm) : xJA t p (xRj r) q (xMk rm) qm (Gk_readJ r q) (Gm_journey rm qm) ∧ xTd t p (xRj r) q (xMk rm) qm := by
  obtain ⟨h1, h2, h3, h4⟩ := h
  refine ⟨?_, hD.js⟩
  rw [xreadJ, xjourM]
  have hP : xP L 0 (xRj r) (xMk rm) := by
    refine ⟨?_, ?_, rfl, rfl, fun i hi => ?_, h3, Nat.zero_le _⟩
    · show r 196 1 = _
      exact h1
    · show rm 101 0 = _
      exact h2
    · show r 197 i = rm 0 i
      exact h4 i hi
  have hPd : xPd t p 0 (xRj r) (xMk rm) := ⟨rfl, rfl, by decide, fun k hk => absurd hk (Nat.not_lt_zero _)⟩
  obtain ⟨b1, e1, r1, q1, rm1, qm1, s1, s2, hT, hb, fk, fm⟩ := xstep (q := q) (qm := qm) hP
  have hk : xJk (xRj r) q r1 q1 := xJk.refl.k fk
  have hm : xJm (xMk rm) qm rm1 qm1 := xJm.refl.m (xFm9.m fm)
  rw [xrw s1, xrw s2, ← nI_0]
  obtain ⟨k1, k2⟩ := xlinesJ 1001 0 L b1 e1 1002 0 t p r1 q1 rm1 qm1 hT (hD.js.j hk hm) (hPd.tok fk (xFm9.m fm)) rfl (Nat.zero_le _) (by omega)
  refine ⟨hk.tr k1, ?_⟩
  rcases k2 with ⟨g1, g2, g3⟩ | ⟨g1, g2, n1, rm2, g3, g4, g5⟩
  · exact Or.inl ⟨g1, hm.tr g2, g3⟩
  · exact Or.inr ⟨g1, g2, n1, rm2, hm.tr g3, g4, g5⟩
