/-! ===== all lines of a LAND ===== -/
section XAL
variable {L b e t p : Nat} {r : zRr} {q : zRq} {rm : zRr} {qm : zRq}
/-- a line, whichever it is -/
theorem xline (h : xTok L b e r q rm qm) (hD : xD t p r q rm qm) (hs : ¬ r 196 4 = 31) : ∃ om, xLo L b r q rm qm (xCL (Gk_readLineL r q)) om ∧ ∀ ih, Bm_readsAll_64 ih rm qm = zc_vrq om (fun v r q => zifn (v = 0) (ih r q) (0, r, q)) := by
  have hne : ¬ rm 106 0 = 0 := fun h9 => hs (h.end_.mp h9)
  have w0 := h.word (C := 405230) 0 (by decide) (by decide)
  have w2 := h.word (C := 365260) 2 (by decide) (by decide)
  have w3 := h.word (C := 232608281) 3 (by decide) (by decide)
  have w7 := h.word (C := 4085956) 7 (by decide) (by decide)
  have w8 := h.word (C := 187442) 8 (by decide) (by decide)
  have w9 := h.word (C := 9665209) 9 (by decide) (by decide)
  rw [show nI 0 = (0 : Int32) from rfl] at w0
  rw [show nI 2 = (2 : Int32) from rfl] at w2
  rw [show nI 3 = (3 : Int32) from rfl] at w3
  rw [show nI 7 = (7 : Int32) from rfl] at w7
  rw [show nI 8 = (8 : Int32) from rfl] at w8
  rw [show nI 9 = (9 : Int32) from rfl] at w9
  unfold Gk_readLineL Bm_readsAll_64
  simp only [zifQ, zifnQ, zletQ, xfr, xeta, w0, w2, w3, w7, w8, w9, if_neg hne]
  by_cases c0 : r 196 4 = 0
  · simp only [if_pos c0, x10, if_false]
    exact ⟨_, xlTown h hD hs, fun ih => rfl⟩
  · simp only [if_neg c0, if_true]
    by_cases c2 : r 196 4 = 2
    · simp only [if_pos c2, x10, if_false]
      exact ⟨_, xlRoad h hD hs, fun ih => rfl⟩
    · simp only [if_neg c2, if_true]
      by_cases c3 : r 196 4 = 3
      · simp only [if_pos c3, x10, if_false]
        refine ⟨_, ?_, fun ih => rfl⟩
        have k := xlPerson h hD hs
        unfold xPL at k
        simp only [zifQ, zletQ] at k
        exact k
      · simp only [if_neg c3, if_true]
        by_cases c7 : r 196 4 = 7
        · simp only [if_pos c7, x10, if_false]
          exact ⟨_, xlGrows h hD hs, fun ih => rfl⟩
        · simp only [if_neg c7, if_true]
          by_cases c8 : r 196 4 = 8
          · simp only [if_pos c8, x10, if_false]
            exact ⟨_, xlInch h hD hs, fun ih => rfl⟩
          · simp only [if_neg c8, if_true]
            by_cases c9 : r 196 4 = 9
            · simp only [if_pos c9, x10, if_false]
              refine ⟨_, ?_, fun ih => rfl⟩
              have k := xlReads h hD hs
              unfold xRL at k
              simp only [zifQ] at k
              exact k
            · simp only [if_neg c9, if_true]
              obtain ⟨r1, rm1, h1, h2, h3, h4, h5⟩ := h.fails 1
              rw [h1, h2]
              exact ⟨(0, rm1, qm), xLo.fail (xGk.refl.k ⟨h4, xFq.refl⟩) (xGm.refl.m ⟨h5.up rfl, xFq.refl⟩) h3, fun ih => by rw [xcvr (r := rm1), xcvrq (r := rm1), if_pos rfl, if_pos rfl]⟩
end XAL
def xAll (r : zRr) (q : zRq) (rm : zRr) (qm : zRq) (o om : Int32 × zRr × zRq) : Prop :=
  xGk r q o.2.1 o.2.2 ∧ xGm rm qm om.2.1 om.2.2 ∧ ((o.1 = 0 ∧ om.1 = 0 ∧ o.2.1 196 7 = om.2.1 109 0) ∨ (o.1 = 1 ∧ om.1 = 1 ∧ ∃ t p, xD t p o.2.1 o.2.2 om.2.1 om.2.2))
theorem xlines : ∀ (m i L b e n t p : Nat) (r : zRr) (q : zRq) (rm : zRr) (qm : zRq), xTok L b e r q rm qm → xD t p r q rm qm → m + i = 1001 → i ≤ b → 1001 < n + b → xAll r q rm qm (Gk_readL_25 m (nI i) r q) (Gm_readsAll_64 n rm qm) := by
  intro m
  induction m with
  | zero =>
    intro i L b e n t p r q rm qm hT hD hm hi hn
    have := hT.P.hp; have := hT.P.hL; have := hT.hb
    omega
  | succ m ih =>
    intro i L b e n t p r q rm qm hT hD hm hi hn
    have hp := hT.P.hp; have hL := hT.P.hL; have hb := hT.hb
    obtain ⟨n0, rfl⟩ : ∃ n0, n = n0 + 1 := ⟨n - 1, by omega⟩
    have e0 : Gk_readL_25 (m + 1) (nI i) r q = Bk_readL_25 (Gk_readL_25 m) (nI i) r q := rfl
    have e1 : Gm_readsAll_64 (n0 + 1) rm qm = Bm_readsAll_64 (Gm_readsAll_64 n0) rm qm := rfl
    rw [e0, e1]
    by_cases h31 : r 196 4 = 31
    · have ek : Bk_readL_25 (Gk_readL_25 m) (nI i) r q = (1, r, q) := by
        unfold Bk_readL_25
        simp only [zifQ, zletQ, if_pos h31, ite_self]
      have em : Bm_readsAll_64 (Gm_readsAll_64 n0) rm qm = (1, rm, qm) := by
        unfold Bm_readsAll_64
        rw [zifQ, if_pos (hT.end_.mpr h31)]
      rw [ek, em]
      exact ⟨xGk.refl, xGm.refl, Or.inr ⟨rfl, rfl, t, p, hD⟩⟩
    · have hlt := hT.lt h31
      have hi1 : i < 1000 := by omega
      obtain ⟨om, hLo, hom⟩ := xline hT hD h31
      rw [hom]
      have ek : Bk_readL_25 (Gk_readL_25 m) (nI i) r q = zc_vrq (xCL (Gk_readLineL r q)) (fun v r q => zifn (v = 0) (Gk_readL_25 m (nI i + 1) r q) (0, r, q)) := by
        unfold Bk_readL_25 xCL
        simp only [zifQ, zifnQ, zletQ, if_neg (x1000n hi1), if_neg h31]
        generalize Gk_readLineL r q = o
        obtain ⟨v, r8, q9⟩ := o
        rw [xcvrq (r := r8), xcvrq (r := r8)]
        by_cases hv : v = 0
        · rw [if_pos hv, if_pos hv, xcvrq (r := r8), if_pos rfl]
        · rw [if_neg hv, if_neg hv]
          generalize Gk_take 28 r8 q9 = o2
          obtain ⟨v2, r15, q16⟩ := o2
          rw [xcvrq (r := r15), xcvrq (r := r15)]
          by_cases hv2 : v2 = 0
          · rw [if_pos hv2, if_pos hv2, xcvrq (r := r15), if_pos rfl]
          · rw [if_neg hv2, if_neg hv2, xcvrq (r := r15), if_neg (show ¬ (1 : Int32) = 0 by decide)]
      rw [ek, nI_1]
      generalize xCL (Gk_readLineL r q) = o at hLo ⊢
      obtain ⟨v, r8, q9⟩ := o
      obtain ⟨w, rm8, qm9⟩ := om
      obtain ⟨gk, gm, hLo⟩ := hLo
      have gk : xGk r q r8 q9 := gk
      have gm : xGm rm qm rm8 qm9 := gm
      rw [xcvrq (r := r8), xcvrq (r := rm8), zifnQ, zifnQ]
      rcases hLo with ⟨a1, a2, a3⟩ | ⟨a1, a2, b', e', t', p', a3, a4, a5⟩
      · have a1 : v = 0 := a1
        have a2 : w = 0 := a2
        rw [if_pos a1, if_pos a2]
        exact ⟨gk, gm, Or.inl ⟨rfl, rfl, a3⟩⟩
      · have a1 : v = 1 := a1
        have a2 : w = 1 := a2
        rw [if_neg (show ¬ v = 0 by rw [a1]; decide), if_neg (show ¬ w = 0 by rw [a2]; decide)]
        obtain ⟨k1, k2, k3⟩ := ih (i + 1) L b' e' n0 t' p' r8 q9 rm8 qm9 a4 a5 (by omega) (by omega) (by omega)
        exact ⟨gk.tr k1, gm.tr k2, k3⟩
/-- the tapes are alike -/
def xTp (L : Nat) (r rm : zRr) : Prop := r 196 1 = nI L ∧ rm 101 0 = nI L ∧ L ≤ 1000 ∧ ∀ i, i < L → r 197 i = rm 0 i
theorem xuntold {r rm : zRr} {q : zRq} (h : xsg (rm 12) 1000 0 = []) (h122 : rm 122 0 = nI 1000) : xCod [-1, -3, -8, -5] [] (Gk_untold r q) rm ∧ zFr [192, 193] r (Gk_untold r q) := by
  unfold Gk_untold
  simp only [zletQ]
  have c0 : xCod [] [] (zset r 192 (upd (r 192) 2 0)) rm := ⟨by show upd (r 192) 2 0 2 = _; rw [pk_us]; rfl, rfl, h122, rfl⟩
  have f0 : zFr [192, 193] r (zset r 192 (upd (r 192) 2 0)) := zFr.refl.set rfl
  generalize zset r 192 (upd (r 192) 2 0) = ra at c0 f0 ⊢
  obtain ⟨c1, f1⟩ := xadd (a := -1) (q := q) c0 (by decide)
  generalize Gk_add (-1) ra q = rb at c1 f1 ⊢
  obtain ⟨c2, f2⟩ := xadd (a := -3) (q := q) c1 (by decide)
  generalize Gk_add (-3) rb q = rc at c2 f2 ⊢
  obtain ⟨c3, f3⟩ := xadd (a := -8) (q := q) c2 (by decide)
  generalize Gk_add (-8) rc q = rd at c3 f3 ⊢
  obtain ⟨c4, f4⟩ := xadd (a := -5) (q := q) c3 (by decide)
  exact ⟨c4, (((f0.tr f1 rfl).tr f2 rfl).tr f3 rfl).tr f4 rfl⟩
def xs (r : zRr) (k j : Nat) (v : Int32) : zRr := zset r k (upd (r k) j v)
/-- the class before its first token, the reference before its -/
def xRa (u : zRr) : zRr := xs (xs (xs (xs (xs u 198 0 0) 198 1 0) 198 2 0) 196 3 0) 196 7 0
def xMa (rm : zRr) : zRr := zset (zset (xs (xs (xs (xs (xs (xs rm 1 4 0) 1 5 0) 1 6 1) 1 7 2) 10 1 1000) 11 1 1000) 123 (fun _ => 0)) 122 (fun _ => 1000)
def xMb (rm : zRr) : zRr := zset (zset (zset (xMa rm) 103 (fun _ => xMa rm 101 0)) 101 (fun _ => 0)) 104 (fun _ => 0)
theorem xreadL {r : zRr} {q : zRq} : Gk_readL r q = zc_rq (Gk_step (xRa (Gk_clear r q)) q) (fun a b => Gk_readL_25 1001 0 a b) := by
  unfold Gk_readL Gk_begin xRa
  simp only [zletQ, zc_rqQ, xs]
theorem xreadM {rm : zRr} {qm : zRq} : Gm_readsAll rm qm = zc_rq (Gm_nextToken (xMb rm) qm) (fun a b => Gm_readsAll_64 1002 a b) := by
  unfold Gm_readsAll Gm_begins xMb xMa
  simp only [zletQ, zc_rqQ, xs]
theorem xclear {r rm : zRr} {q : zRq} (h122 : rm 122 0 = nI 1000) : Gk_clear r q 183 9 = 0 ∧ Gk_clear r q 183 10 = 0 ∧ Gk_clear r q 183 11 = 1 ∧ Gk_clear r q 183 12 = 2 ∧ (∀ i, i < 6 → Gk_clear r q 185 i = 0) ∧ Gk_clear r q 196 = r 196 ∧ Gk_clear r q 197 = r 197 ∧ xCod [-1, -3, -8, -5] [] (Gk_clear r q) rm ∧ zFr [183, 185, 192, 193] r (Gk_clear r q) := by
  unfold Gk_clear
  simp only [zletQ]
  have k : ∀ X : zRr, X 183 9 = 0 → X 183 10 = 0 → X 183 11 = 1 → X 183 12 = 2 → (∀ i, i < 6 → X 185 i = 0) → zFr [183, 185] r X → Gk_untold X q 183 9 = 0 ∧ Gk_untold X q 183 10 = 0 ∧ Gk_untold X q 183 11 = 1 ∧ Gk_untold X q 183 12 = 2 ∧ (∀ i, i < 6 → Gk_untold X q 185 i = 0) ∧ Gk_untold X q 196 = r 196 ∧ Gk_untold X q 197 = r 197 ∧ xCod [-1, -3, -8, -5] [] (Gk_untold X q) rm ∧ zFr [183, 185, 192, 193] r (Gk_untold X q) := by
    intro X a1 a2 a3 a4 a5 f
    obtain ⟨c, g⟩ := xuntold (r := X) (q := q) (rm := rm) rfl h122
    refine ⟨by rw [g 183 rfl]; exact a1, by rw [g 183 rfl]; exact a2, by rw [g 183 rfl]; exact a3, by rw [g 183 rfl]; exact a4, fun i hi => by rw [g 185 rfl]; exact a5 i hi, by rw [g 196 rfl, f 196 rfl], by rw [g 197 rfl, f 197 rfl], c, (f.up rfl).tr g rfl⟩
  refine k _ rfl rfl rfl rfl (fun i hi => ?_) (((((zFr.refl.set rfl).set rfl).set rfl).set rfl).set rfl)
  show zfl _ 0 6 i = 0
  exact if_pos hi
/-- a LAND is read: the same fault on both sides, or none and the same is told -/
theorem xland {L : Nat} {r : zRr} {q : zRq} {rm : zRr} {qm : zRq} (h : xTp L r rm) : xAll (xRa (Gk_clear r q)) q (xMb rm) qm (Gk_readL r q) (Gm_readsAll rm qm) := by
  obtain ⟨h1, h2, h3, h4⟩ := h
  obtain ⟨c1, c2, c3, c4, c5, c6, c7, c8, c9⟩ := xclear (r := r) (q := q) (rm := xMb rm) (show xMb rm 122 0 = nI 1000 from rfl)
  rw [xreadL, xreadM]
  generalize Gk_clear r q = u at c1 c2 c3 c4 c5 c6 c7 c8 c9 ⊢
  have hP : xP L 0 (xRa u) (xMb rm) := by
    refine ⟨?_, ?_, rfl, rfl, fun i hi => ?_, h3, Nat.zero_le _⟩
    · show u 196 1 = _
      rw [c6]; exact h1
    · show rm 101 0 = _
      exact h2
    · show u 197 i = rm 0 i
      rw [c7]; exact h4 i hi
  have hD : xD 0 0 (xRa u) q (xMb rm) qm := by
    refine ⟨⟨?_, rfl, by decide, fun i hi => by omega, fun i _ hi => ?_⟩, ⟨?_, rfl, by decide, fun i hi => by omega⟩, ⟨?_, ?_, 0, 0, by decide, by decide, rfl, rfl, rfl⟩, rfl, Or.inl ⟨rfl, rfl, ?_⟩⟩
    · show u 183 9 = _
      rw [c1]; rfl
    · show u 185 i = 0
      exact c5 i hi
    · show u 183 10 = _
      rw [c2]; rfl
    · show u 183 11 = _
      rw [c3]; rfl
    · show u 183 12 = _
      rw [c4]; rfl
    · exact ⟨c8.c1, c8.c2, rfl, rfl⟩
  obtain ⟨b1, e1, r1, q1, rm1, qm1, s1, s2, hT, hb, fk, fm⟩ := xstep (q := q) (qm := qm) hP
  have hD1 := hD.tok fk (xFm9.m fm)
  rw [xrw s1, xrw s2, ← nI_0]
  obtain ⟨k1, k2, k3⟩ := xlines 1001 0 L b1 e1 1002 0 0 r1 q1 rm1 qm1 hT hD1 rfl (Nat.zero_le _) (by omega)
  exact ⟨(xGk.refl.k fk).tr k1, (xGm.refl.m (xFm9.m fm)).tr k2, k3⟩
