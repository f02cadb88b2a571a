/-! ===== one token further, on both sides ===== -/
def xKd (L b p : Nat) (r : zRr) (q : zRq) (rm : zRr) (qm : zRq) : Prop :=
  (r 196 4 = 31 ∧ rm 106 0 = 0 ∧ b = L) ∨
  (b < p ∧ ((rm 106 0 = 1 ∧ xW (xsg (r 197) b (p - b)) ∧ r 196 4 = nI (xfi (xsg (r 197) b (p - b))) ∧ q 196 6 = xe5 (xsg (r 197) b (p - b)) ∧ qm 107 0 = xe27 (xsg (r 197) b (p - b))) ∨
   (rm 106 0 = 2 ∧ r 196 4 = 30 ∧ r 196 5 = rm 108 0 ∧ zI 0 9999 (rm 108 0)) ∨
   (rm 106 0 = 3 ∧ p = b + 1 ∧ 21 ≤ xfi [r 197 b] ∧ xfi [r 197 b] < 29 ∧ r 196 4 = nI (xfi [r 197 b])) ∨
   (rm 106 0 = 4 ∧ r 196 4 = 32)))
abbrev xTok (L b p : Nat) (r : zRr) (q : zRq) (rm : zRr) (qm : zRq) : Prop := xP L p r rm ∧ xB b r rm ∧ b ≤ p ∧ xKd L b p r q rm qm
section XTK
variable {L b p : Nat} {r : zRr} {q : zRq} {rm : zRr} {qm : zRq}
theorem xTok.P (h : xTok L b p r q rm qm) : xP L p r rm := h.1
theorem xTok.B (h : xTok L b p r q rm qm) : xB b r rm := h.2.1
theorem xTok.hb (h : xTok L b p r q rm qm) : b ≤ p := h.2.2.1
theorem xTok.k (h : xTok L b p r q rm qm) : xKd L b p r q rm qm := h.2.2.2
end XTK
theorem xfi1 {s : Int32} : xfi [s] = if s = 40 then 21 else if s = 41 then 22 else if s = 60 then 23 else if s = 61 then 24 else if s = 43 then 25 else if s = 45 then 26 else if s = 42 then 27 else if s = 59 then 28 else 29 := by
  have h : ∀ x : Int32, (([x] : List Int32) == [s]) = decide (s = x) := by
    intro x
    by_cases e : s = x
    · rw [e]; simp
    · rw [decide_eq_false e]
      apply beq_false_of_ne
      intro e2
      exact e (List.cons.inj e2).1.symm
  have h2 : ∀ (x y : Int32) (t : List Int32), ((x :: y :: t) == [s]) = false := by
    intro x y t
    apply beq_false_of_ne
    intro e2
    exact absurd (List.cons.inj e2).2 (by simp)
  simp only [xfi, eB, List.take, List.findIdx_cons, h, h2, cond_false, List.findIdx_nil]
  by_cases e1 : s = 40
  · simp [e1]
  by_cases e2 : s = 41
  · simp [e2]
  by_cases e3 : s = 60
  · simp [e3]
  by_cases e4 : s = 61
  · simp [e4]
  by_cases e5 : s = 43
  · simp [e5]
  by_cases e6 : s = 45
  · simp [e6]
  by_cases e7 : s = 42
  · simp [e7]
  by_cases e8 : s = 59
  · simp [e8]
  simp [e1, e2, e3, e4, e5, e6, e7, e8]
theorem xfi1_ge {s : Int32} : 21 ≤ xfi [s] := by
  rw [xfi1]
  repeat' split
  all_goals omega
/-- a sign alone -/
theorem xsign {rm : zRr} {qm : zRq} {s : Int32} (h1 : ¬ xLet s) (h2 : ¬ xDig s) : ∃ rm1, Gm_nextToken_322 s rm qm = (rm1, qm) ∧ rm1 = zset (zset rm 104 (fun _ => rm 104 0 + 1)) 106 (fun _ => if xfi [s] < 29 then 3 else 4) := by
  have key : Gm_nextToken_322 s rm qm = (zset (zset rm 104 (fun _ => rm 104 0 + 1)) 106 (fun _ => if xfi [s] < 29 then 3 else 4), qm) := by
    have c40 : (40 : Int32).toInt = 40 := by decide
    have c43 : (43 : Int32).toInt = 43 := by decide
    have c59 : (59 : Int32).toInt = 59 := by decide
    have c61 : (61 : Int32).toInt = 61 := by decide
    have hv : ∀ n : Int32, s.toInt = n.toInt → s = n := fun n h => Int32.toInt_inj.mp h
    simp only [Gm_nextToken_322, zlet, zif, xfi1]
    by_cases a1 : s < 40
    · have a1' := Int32.lt_iff_toInt_lt.mp a1
      have hne : ∀ n : Int32, 40 ≤ n.toInt → ¬ s = n := fun n hn e => by rw [e] at a1'; omega
      rw [if_pos a1, if_neg (hne 45 (by decide)), if_pos (Int32.lt_iff_toInt_lt.mpr (by omega)), if_neg (hne 40 (by decide)), if_neg (hne 41 (by decide)), if_neg (hne 60 (by decide)), if_neg (hne 61 (by decide)), if_neg (hne 43 (by decide)), if_neg (hne 45 (by decide)), if_neg (hne 42 (by decide)), if_neg (hne 59 (by decide))]
      rfl
    · rw [if_neg a1]
      rw [Int32.lt_iff_toInt_lt] at a1
      by_cases a2 : s ≤ 43
      · rw [if_pos a2]
        rw [Int32.le_iff_toInt_le] at a2
        rcases (show s.toInt = 40 ∨ s.toInt = 41 ∨ s.toInt = 42 ∨ s.toInt = 43 by omega) with e | e | e | e
        · rw [hv 40 e]; rfl
        · rw [hv 41 e]; rfl
        · rw [hv 42 e]; rfl
        · rw [hv 43 e]; rfl
      · rw [if_neg a2]
        rw [Int32.le_iff_toInt_le] at a2
        by_cases a3 : s = 45
        · rw [if_pos a3, a3]; rfl
        · rw [if_neg a3]
          by_cases a4 : s < 59
          · have a4' := Int32.lt_iff_toInt_lt.mp a4
            have hne : ∀ n : Int32, 59 ≤ n.toInt ∨ n.toInt ≤ 43 → ¬ s = n := fun n hn e => by rw [e] at a4' a2; omega
            rw [if_pos a4, if_neg (hne 40 (by decide)), if_neg (hne 41 (by decide)), if_neg (hne 60 (by decide)), if_neg (hne 61 (by decide)), if_neg (hne 43 (by decide)), if_neg a3, if_neg (hne 42 (by decide)), if_neg (hne 59 (by decide))]
            rfl
          · rw [if_neg a4]
            rw [Int32.lt_iff_toInt_lt] at a4
            by_cases a5 : 61 < s
            · have a5' := Int32.lt_iff_toInt_lt.mp a5
              have hne : ∀ n : Int32, n.toInt ≤ 61 → ¬ s = n := fun n hn e => by rw [e] at a5'; omega
              rw [if_pos a5, if_neg (hne 40 (by decide)), if_neg (hne 41 (by decide)), if_neg (hne 60 (by decide)), if_neg (hne 61 (by decide)), if_neg (hne 43 (by decide)), if_neg a3, if_neg (hne 42 (by decide)), if_neg (hne 59 (by decide))]
              rfl
            · rw [if_neg a5]
              rw [Int32.lt_iff_toInt_lt] at a5
              rcases (show s.toInt = 59 ∨ s.toInt = 60 ∨ s.toInt = 61 by omega) with e | e | e
              · rw [hv 59 e]; rfl
              · rw [hv 60 e]; rfl
              · rw [hv 61 e]; rfl
  exact ⟨_, key, rfl⟩
theorem xsub {p b : Nat} (h : b ≤ p) : nI p - nI b = nI (p - b) := by
  have : p = (p - b) + b := by omega
  rw [show nI p = nI ((p - b) + b) by rw [← this], ← nI_add, Int32.add_sub_cancel]
theorem xfi_le {l : List Int32} : xfi l ≤ 29 := by
  have := List.findIdx_le_length (xs := eB.take 29) (p := fun x => x == l)
  rw [show (eB.take 29).length = 29 by decide] at this
  exact this
theorem xstep52 {L p : Nat} {r : zRr} {q : zRq} {rm : zRr} {qm : zRq} (hP : xP L p r rm) : ∃ e r1 q1 rm1 qm1, Gk_step_52 q r = (r1, q1) ∧ Gm_nextToken_52 qm rm = (rm1, qm1) ∧ xTok L p e r1 q1 rm1 qm1 ∧ xFk r q r1 q1 ∧ xFm rm qm rm1 qm1 := by
  have hL := hP.hL; have hp := hP.hp
  have hP3 : xP L p (zset r 196 (upd (r 196) 2 (r 196 3))) (zset (zset rm 105 (fun _ => rm 104 0)) 108 (fun _ => 0)) := ⟨hP.l1, hP.l2, hP.p1, hP.p2, hP.cell, hP.hL, hP.hp⟩
  have hB3 : xB p (zset r 196 (upd (r 196) 2 (r 196 3))) (zset (zset rm 105 (fun _ => rm 104 0)) 108 (fun _ => 0)) := ⟨hP.p1, hP.p2⟩
  have fk : zFr [196] r (zset r 196 (upd (r 196) 2 (r 196 3))) := zFr.refl.set rfl
  have fm : zFr [104, 105, 106, 108] rm (zset (zset rm 105 (fun _ => rm 104 0)) 108 (fun _ => 0)) := (zFr.refl.set rfl).set rfl
  have fq : xFq [107] qm (zset qm 107 (fun _ => (0 : Int64))) := xFq.refl.set rfl
  simp only [Gk_step_52, Gm_nextToken_52, zlet, zif, zifn]
  generalize hr3 : zset r 196 (upd (r 196) 2 (r 196 3)) = r3 at *
  generalize hm3 : zset (zset rm 105 (fun _ => rm 104 0)) 108 (fun _ => 0) = m3 at *
  generalize hq3 : zset qm 107 (fun _ => (0 : Int64)) = q3 at *
  have hq0 : q3 107 0 = 0 := by rw [← hq3]; rfl
  have hm108 : m3 108 0 = 0 := by rw [← hm3]; rfl
  rw [hP3.p1, hP3.l1, hP3.p2, hP3.l2]
  by_cases h1 : p < L
  · have hpL : ¬ nI p = nI L := fun h => by have := (nI_eq (by omega) (by omega)).mp h; omega
    rw [if_pos ((nI_ltI (by omega) (by omega)).mpr h1), if_neg hpL, xzn (by omega), ← hP3.cell p h1]
    have c97 : (97 : Int32).toInt = 97 := by decide
    have c122 : (122 : Int32).toInt = 122 := by decide
    have c48 : (48 : Int32).toInt = 48 := by decide
    have c57 : (57 : Int32).toInt = 57 := by decide
    by_cases h2 : xLet (r3 197 p)
    · obtain ⟨e, r1, q1, rm1, qm1, a1, a2, a3, a4, a5, a6, a7, a8, a9, a10⟩ := xword 1001 p r3 (zset q 196 (vp_updL (q 196) 6 (0 : Int64))) m3 q3 hP3 hB3 (Nat.le_refl _) (by rw [Nat.sub_self]; intro s hs; simp [xsg] at hs) (fun _ => by rw [Nat.sub_self]; exact ⟨rfl, hq0⟩) (by omega)
      have hpe := a8 h1 h2
      have he := a3.hp
      have d1 : ¬ r3 197 p < 97 := fun h => by have := Int32.lt_iff_toInt_lt.mp h; have := h2.1; omega
      have d2 : ¬ 122 < r3 197 p := fun h => by have := Int32.lt_iff_toInt_lt.mp h; have := h2.2; omega
      rw [if_neg (fun h => xlet_iff.mp h h2), if_neg d1, if_neg d2, a2]
      have e1 : Gk_stepOverWord r3 q = (r1, q1) := a1
      have f97 : r1 197 = r3 197 := a9.1 197 rfl
      simp only [zc_rq, e1, Gm_nextToken_188, zlet, zif, Gk_step_128]
      rw [a3.p1, a4.b1, a3.p2, a4.b2, xsub a5, show (8 : Int32) = nI 8 from rfl]
      by_cases h8 : e - p ≤ 8
      · rw [if_pos ((nI_leI (by omega) (by omega)).mpr h8), if_pos ((nI_leI (by omega) (by omega)).mpr h8)]
        have hs := xsortAs (r := r1) (q := q1) (a := 29) (p := p) (c := e - p) (L := L) a4.b1 (by rw [a3.p1]; congr 1; omega) a3.l1 (by omega) hL (by omega)
        rw [f97] at hs
        have hs2 : Gk_sortAs 29 r1 q1 = nI (xfi (xsg (r3 197) p (e - p))) := by
          rw [hs]
          by_cases h9 : xfi (xsg (r3 197) p (e - p)) < 29
          · rw [if_pos h9]
          · have := xfi_le (l := xsg (r3 197) p (e - p))
            rw [if_neg h9, show xfi (xsg (r3 197) p (e - p)) = 29 by omega]; rfl
        obtain ⟨w1, w2⟩ := a7 h8
        refine ⟨e, _, _, _, _, rfl, rfl, ⟨⟨a3.l1, a3.l2, a3.p1, a3.p2, a3.cell, a3.hL, a3.hp⟩, ⟨a4.b1, a4.b2⟩, a5, Or.inr ⟨hpe, Or.inl ⟨rfl, ?_, ?_, ?_, ?_⟩⟩⟩, ⟨(fk.tr a9.1 rfl).set rfl, (xFq.refl.set rfl).tr a9.2 rfl⟩, ⟨(fm.tr a10.1 rfl).set rfl, fq.tr a10.2 rfl⟩⟩
        · show xW (xsg (r1 197) p (e - p))
          rw [f97]; exact ⟨by rw [xsg_len]; exact h8, a6⟩
        · show Gk_sortAs 29 r1 q1 = nI (xfi (xsg (r1 197) p (e - p)))
          rw [f97]; exact hs2
        · show q1 196 6 = xe5 (xsg (r1 197) p (e - p))
          rw [f97]; exact w1
        · show qm1 107 0 = xe27 (xsg (r1 197) p (e - p))
          rw [f97]; exact w2
      · rw [if_neg (fun h => h8 ((nI_leI (by omega) (by omega)).mp h)), if_neg (fun h => h8 ((nI_leI (by omega) (by omega)).mp h))]
        exact ⟨e, _, _, _, _, rfl, rfl, ⟨⟨a3.l1, a3.l2, a3.p1, a3.p2, a3.cell, a3.hL, a3.hp⟩, ⟨a4.b1, a4.b2⟩, a5, Or.inr ⟨hpe, Or.inr (Or.inr (Or.inr ⟨rfl, rfl⟩))⟩⟩, ⟨(fk.tr a9.1 rfl).set rfl, (xFq.refl.set rfl).tr a9.2 rfl⟩, ⟨(fm.tr a10.1 rfl).set rfl, fq.tr a10.2 rfl⟩⟩
    · rw [if_pos (xlet_iff.mpr h2)]
      by_cases h3 : xDig (r3 197 p)
      · have d1 : r3 197 p < 97 := Int32.lt_iff_toInt_lt.mpr (by have := h3.2; omega)
        have d2 : ¬ r3 197 p < 48 := fun h => by have := Int32.lt_iff_toInt_lt.mp h; have := h3.1; omega
        have d3 : ¬ 57 < r3 197 p := fun h => by have := Int32.lt_iff_toInt_lt.mp h; have := h3.2; omega
        rw [if_neg (fun h => xdig_iff.mp h h3), if_pos d1, if_neg d2, if_neg d3]
        obtain ⟨e, r1, rm1, a1, a2, a3, a4, a5, a6, a7, a8, a9⟩ := xnumber (qm := q3) 1001 p (zset r3 196 (upd (r3 196) 5 (0 : Int32))) m3 ⟨hP3.l1, hP3.l2, hP3.p1, hP3.p2, hP3.cell, hP3.hL, hP3.hp⟩ ⟨hB3.b1, hB3.b2⟩ (Nat.le_refl _) (fun _ => by rw [Nat.sub_self]; refine ⟨hm108.symm, ?_, ?_⟩ <;> rw [hm108] <;> decide) (by omega)
        have hpe := a7 h1 h3
        have he := a3.hp
        have e1 : Gk_stepOverNumber r3 q = r1 := a1
        rw [a2, e1]
        simp only [Gm_nextToken_299, zlet, zif, Gk_step_176]
        rw [a3.p1, a4.b1, a3.p2, a4.b2, xsub a5, show (4 : Int32) = nI 4 from rfl]
        have f1 : zFr [196] r r1 := (fk.set rfl).tr a8 rfl
        by_cases h4 : e - p ≤ 4
        · rw [if_pos ((nI_leI (by omega) (by omega)).mpr h4), if_pos ((nI_leI (by omega) (by omega)).mpr h4)]
          obtain ⟨g1, g2, g3⟩ := a6 h4
          have g4 : (10 : Int) ^ (e - p) ≤ 10000 := by
            rcases (show e - p = 0 ∨ e - p = 1 ∨ e - p = 2 ∨ e - p = 3 ∨ e - p = 4 by omega) with h | h | h | h | h <;> rw [h] <;> decide
          exact ⟨e, _, _, _, _, rfl, rfl, ⟨⟨a3.l1, a3.l2, a3.p1, a3.p2, a3.cell, a3.hL, a3.hp⟩, ⟨a4.b1, a4.b2⟩, a5, Or.inr ⟨hpe, Or.inr (Or.inl ⟨rfl, rfl, g1, g2, (show (rm1 108 0).toInt ≤ 9999 by omega)⟩)⟩⟩, ⟨f1.set rfl, xFq.refl⟩, ⟨(fm.tr a9 rfl).set rfl, fq⟩⟩
        · rw [if_neg (fun h => h4 ((nI_leI (by omega) (by omega)).mp h)), if_neg (fun h => h4 ((nI_leI (by omega) (by omega)).mp h))]
          exact ⟨e, _, _, _, _, rfl, rfl, ⟨⟨a3.l1, a3.l2, a3.p1, a3.p2, a3.cell, a3.hL, a3.hp⟩, ⟨a4.b1, a4.b2⟩, a5, Or.inr ⟨hpe, Or.inr (Or.inr (Or.inr ⟨rfl, rfl⟩))⟩⟩, ⟨f1.set rfl, xFq.refl⟩, ⟨(fm.tr a9 rfl).set rfl, fq⟩⟩
      · rw [if_pos (xdig_iff.mpr h3)]
        obtain ⟨rm1, b1, b2⟩ := xsign (rm := m3) (qm := q3) h2 h3
        have hs := xsortAs (r := zset r3 196 (upd (r3 196) 3 (nI p + 1))) (q := q) (a := 32) (p := p) (c := 1) (L := L) hB3.b1 (nI_1 p) hP3.l1 (by omega) hL (by omega)
        have hsg : xsg (zset r3 196 (upd (r3 196) 3 (nI p + 1)) 197) p 1 = [r3 197 p] := rfl
        rw [hsg] at hs
        rw [hs]
        have hX : (if r3 197 p < 97 then if r3 197 p < 48 then Gm_nextToken_322 (r3 197 p) m3 q3 else if 57 < r3 197 p then Gm_nextToken_322 (r3 197 p) m3 q3 else Gm_nextToken_224 1001 m3 q3 else if 122 < r3 197 p then if r3 197 p < 48 then default else if 57 < r3 197 p then Gm_nextToken_322 (r3 197 p) m3 q3 else default else Gm_nextToken_109 1001 m3 q3) = (rm1, q3) := by
          unfold xLet at h2; unfold xDig at h3
          by_cases d1 : r3 197 p < 97
          · rw [if_pos d1]
            by_cases d2 : r3 197 p < 48
            · rw [if_pos d2]; exact b1
            · rw [if_neg d2, if_pos]
              · exact b1
              · rw [Int32.lt_iff_toInt_lt] at d1 d2 ⊢; omega
          · rw [if_neg d1]
            by_cases d2 : 122 < r3 197 p
            · rw [if_pos d2, if_neg (fun h => by rw [Int32.lt_iff_toInt_lt] at h d2; omega), if_pos (Int32.lt_iff_toInt_lt.mpr (by rw [Int32.lt_iff_toInt_lt] at d2; omega))]
              exact b1
            · rw [Int32.lt_iff_toInt_lt] at d1 d2; omega
        rw [hX]
        refine ⟨p + 1, _, _, _, _, rfl, rfl, ⟨⟨hP3.l1, ?_, nI_1 p, ?_, ?_, hP3.hL, h1⟩, ⟨hB3.b1, ?_⟩, by omega, Or.inr ⟨by omega, ?_⟩⟩, ⟨(fk.set rfl).set rfl, xFq.refl⟩, ⟨?_, fq⟩⟩
        · rw [b2]; exact hP3.l2
        · rw [b2]; show m3 104 0 + 1 = _; rw [hP3.p2]; exact nI_1 p
        · rw [b2]; exact hP3.cell
        · rw [b2]; exact hB3.b2
        · by_cases h9 : xfi [r3 197 p] < 29
          · refine Or.inr (Or.inr (Or.inl ⟨?_, rfl, xfi1_ge, h9, ?_⟩))
            · rw [b2]; exact if_pos h9
            · exact if_pos h9
          · refine Or.inr (Or.inr (Or.inr ⟨?_, ?_⟩))
            · rw [b2]; exact if_neg h9
            · exact if_neg h9
        · rw [b2]; exact (fm.set rfl).set rfl
  · rw [if_neg (fun h => h1 ((nI_ltI (by omega) (by omega)).mp h)), if_pos (by congr 1; omega)]
    exact ⟨p, _, _, _, _, rfl, rfl, ⟨⟨hP3.l1, hP3.l2, hP3.p1, hP3.p2, hP3.cell, hP3.hL, hP3.hp⟩, ⟨hB3.b1, hB3.b2⟩, Nat.le_refl _, Or.inl ⟨rfl, rfl, by omega⟩⟩, ⟨fk.set rfl, xFq.refl⟩, ⟨fm.set rfl, fq⟩⟩
theorem xstep0 {L : Nat} {q : zRq} {qm : zRq} : ∀ (n p : Nat) (r rm : zRr), xP L p r rm → L - p < n → ∃ b e r1 q1 rm1 qm1, Gk_step_0 q n r = (r1, q1) ∧ Gm_nextToken_0 qm n rm = (rm1, qm1) ∧ xTok L b e r1 q1 rm1 qm1 ∧ p ≤ b ∧ xFk r q r1 q1 ∧ xFm rm qm rm1 qm1 := by
  intro n
  induction n with
  | zero => intro p r rm hP hn; omega
  | succ n ih =>
    intro p r rm hP hn
    have hL := hP.hL; have hp := hP.hp
    have e0 : Gk_step_0 q (n + 1) r = Bk_step_0 q (Gk_step_0 q n) r := rfl
    have e1 : Gm_nextToken_0 qm (n + 1) rm = Bm_nextToken_0 qm (Gm_nextToken_0 qm n) rm := rfl
    rw [e0, e1]
    simp only [Bk_step_0, Bm_nextToken_0, Gk_step_39, zlet, zif, zifn, hP.l1, hP.l2, hP.p1, hP.p2]
    by_cases h1 : L ≤ p
    · rw [if_pos ((nI_leI (by omega) (by omega)).mpr h1), if_pos ((nI_leI (by omega) (by omega)).mpr h1)]
      obtain ⟨e, r1, q1, rm1, qm1, a1, a2, a3, a4, a5⟩ := xstep52 (q := q) (qm := qm) hP
      exact ⟨p, e, r1, q1, rm1, qm1, a1, a2, a3, Nat.le_refl _, a4, a5⟩
    · rw [if_neg (fun h => h1 ((nI_leI (by omega) (by omega)).mp h)), if_neg (fun h => h1 ((nI_leI (by omega) (by omega)).mp h)), xzn (by omega), ← hP.cell p (by omega)]
      have go : ∃ b e r1 q1 rm1 qm1, Gk_step_0 q n (zset r 196 (upd (r 196) 3 (nI p + 1))) = (r1, q1) ∧ Gm_nextToken_0 qm n (zset rm 104 (fun _ => nI p + 1)) = (rm1, qm1) ∧ xTok L b e r1 q1 rm1 qm1 ∧ p ≤ b ∧ xFk r q r1 q1 ∧ xFm rm qm rm1 qm1 := by
        obtain ⟨b, e, r1, q1, rm1, qm1, a1, a2, a3, a4, a5, a6⟩ := ih (p + 1) (zset r 196 (upd (r 196) 3 (nI p + 1))) (zset rm 104 (fun _ => nI p + 1)) ⟨hP.l1, hP.l2, nI_1 p, nI_1 p, hP.cell, hP.hL, by omega⟩ (by omega)
        exact ⟨b, e, r1, q1, rm1, qm1, a1, a2, a3, by omega, ⟨(zFr.refl.set rfl).tr a5.1 rfl, a5.2⟩, ⟨(zFr.refl.set rfl).tr a6.1 rfl, a6.2⟩⟩
      by_cases h2 : r 197 p = 32
      · rw [if_pos h2, if_pos h2]; exact go
      · rw [if_neg h2, if_neg h2]
        by_cases h3 : r 197 p = 10
        · rw [if_pos h3, if_pos h3]; exact go
        · rw [if_neg h3, if_neg h3]
          obtain ⟨e, r1, q1, rm1, qm1, a1, a2, a3, a4, a5⟩ := xstep52 (q := q) (qm := qm) hP
          exact ⟨p, e, r1, q1, rm1, qm1, a1, a2, a3, Nat.le_refl _, a4, a5⟩
/-- one token further -/
theorem xstep {L p : Nat} {r : zRr} {q : zRq} {rm : zRr} {qm : zRq} (hP : xP L p r rm) : ∃ b e r1 q1 rm1 qm1, Gk_step r q = (r1, q1) ∧ Gm_nextToken rm qm = (rm1, qm1) ∧ xTok L b e r1 q1 rm1 qm1 ∧ p ≤ b ∧ xFk r q r1 q1 ∧ xFm rm qm rm1 qm1 :=
  xstep0 1001 p r rm hP (by have := hP.hL; omega)
