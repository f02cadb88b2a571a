/-! ===== what a line wants of its tokens, on both sides ===== -/
def xFm9 (rm : zRr) (qm : zRq) (rm1 : zRr) (qm1 : zRq) : Prop := zFr [104, 105, 106, 108, 109, 136] rm rm1 ∧ xFq [107] qm qm1
theorem xFm9.refl {r : zRr} {q : zRq} : xFm9 r q r q := ⟨zFr.refl, xFq.refl⟩
theorem xFm9.tr {r r1 r2 : zRr} {q q1 q2 : zRq} (h : xFm9 r q r1 q1) (k : xFm9 r1 q1 r2 q2) : xFm9 r q r2 q2 := ⟨h.1.tr k.1 rfl, h.2.tr k.2 rfl⟩
theorem xFm9.m {r r1 : zRr} {q q1 : zRq} (h : xFm r q r1 q1) : xFm9 r q r1 q1 := ⟨h.1.up rfl, h.2⟩
/-- the same fault on both sides, or both go on -/
def xTk (L b : Nat) (r : zRr) (q : zRq) (rm : zRr) (qm : zRq) (o om : Int32 × zRr × zRq) : Prop :=
  xFk r q o.2.1 o.2.2 ∧ xFm9 rm qm om.2.1 om.2.2 ∧ ((o.1 = 0 ∧ om.1 = 0 ∧ o.2.1 196 7 = om.2.1 109 0) ∨ (o.1 = 1 ∧ om.1 = 1 ∧ ∃ b' e', b < b' ∧ xTok L b' e' o.2.1 o.2.2 om.2.1 om.2.2))
section XN
variable {L b e : Nat} {r : zRr} {q : zRq} {rm : zRr} {qm : zRq}
theorem xTk.bad (h : xTok L b e r q rm qm) (k : Int32) : xTk L b r q rm qm (0, (Gk_wrong k r q).2, q) (0, (Gm_fails k rm qm).2, qm) := by
  obtain ⟨r1, rm1, h1, h2, h3, h4, h5⟩ := h.fails k
  rw [h1, h2]
  exact ⟨⟨h4, xFq.refl⟩, ⟨h5.up rfl, xFq.refl⟩, Or.inl ⟨rfl, rfl, h3⟩⟩
theorem xTk.go (h : xTok L b e r q rm qm) (hs : ¬ r 196 4 = 31) : xTk L b r q rm qm (zc_rq (Gk_step r q) (fun r q => ((1 : Int32), r, q))) (zc_rq (Gm_nextToken rm qm) (fun r q => ((1 : Int32), r, q))) := by
  obtain ⟨b1, e1, r1, q1, rm1, qm1, s1, s2, h1, hb, fk, fm⟩ := h.next
  rw [xrw s1, xrw s2]
  have := h.lt hs
  exact ⟨fk, xFm9.m fm, Or.inr ⟨rfl, rfl, b1, e1, by omega, h1⟩⟩
theorem xfr {k : Int32} : zc_vr (Gk_wrong k r q) (fun v r1 => (v, r1, q)) = (0, (Gk_wrong k r q).2, q) := Prod.ext rfl rfl
theorem xfm {k : Int32} : zc_vr (Gm_fails k rm qm) (fun v r1 => (v, r1, qm)) = (0, (Gm_fails k rm qm).2, qm) := Prod.ext rfl rfl
/-- a word that must stand there -/
theorem xtakeW (h : xTok L b e r q rm qm) {C : Int64} {i : Nat} (hi : i < 21) (hC : C = xe27 (eB.getD i [])) : xTk L b r q rm qm (Gk_take (nI i) r q) (Gm_needsWord C rm qm) := by
  unfold Gk_take Gm_needsWord
  simp only [zifQ, zifnQ, zletQ, xfr, xfm, h.word i hi hC]
  by_cases h1 : r 196 4 = nI i
  · rw [if_pos h1, if_pos h1]
    simp only [x10, if_false]
    exact xTk.go h (by rw [h1]; intro h9; have := (nI_eq (b := 31) (by omega) (by omega)).mp h9; omega)
  · rw [if_neg h1, if_neg h1]
    simp only [x00, if_true]
    exact xTk.bad h 1
/-- ; at the end of a line -/
theorem xclose (h : xTok L b e r q rm qm) : xTk L b r q rm qm (Gk_take 28 r q) (Gm_closes rm qm) := by
  unfold Gk_take Gm_closes
  simp only [zifQ, zifnQ, zletQ, xfr, xfm, h.sign (s := 59) 28 (by decide) rfl]
  by_cases h1 : r 196 4 = nI 28
  · have h1' : r 196 4 = 28 := h1
    rw [if_pos h1, if_pos h1']
    simp only [x10, if_false]
    exact xTk.go h (by rw [h1]; decide)
  · have h1' : ¬ r 196 4 = 28 := h1
    rw [if_neg h1, if_neg h1']
    simp only [x00, if_true]
    exact xTk.bad h 1
/-- a number that must stand there -/
theorem xnum (h : xTok L b e r q rm qm) {lo hi : Int32} (hlo : 0 ≤ lo.toInt) : xFk r q (Gk_takeNumber lo hi r q).2.1 (Gk_takeNumber lo hi r q).2.2 ∧ xFm9 rm qm (Gm_needsNumber lo hi rm qm).2.1 (Gm_needsNumber lo hi rm qm).2.2 ∧
    (((Gk_takeNumber lo hi r q).1 = -1 ∧ (Gm_needsNumber lo hi rm qm).1 = 0 ∧ (Gk_takeNumber lo hi r q).2.1 196 7 = (Gm_needsNumber lo hi rm qm).2.1 109 0) ∨
     ((Gm_needsNumber lo hi rm qm).1 = 1 ∧ (Gk_takeNumber lo hi r q).1 = (Gm_needsNumber lo hi rm qm).2.1 136 0 ∧ zI lo.toInt hi.toInt (Gk_takeNumber lo hi r q).1 ∧ ∃ b' e', b < b' ∧ xTok L b' e' (Gk_takeNumber lo hi r q).2.1 (Gk_takeNumber lo hi r q).2.2 (Gm_needsNumber lo hi rm qm).2.1 (Gm_needsNumber lo hi rm qm).2.2)) := by
  have key : ∃ o om, Gk_takeNumber lo hi r q = o ∧ Gm_needsNumber lo hi rm qm = om ∧ xFk r q o.2.1 o.2.2 ∧ xFm9 rm qm om.2.1 om.2.2 ∧ ((o.1 = -1 ∧ om.1 = 0 ∧ o.2.1 196 7 = om.2.1 109 0) ∨ (om.1 = 1 ∧ o.1 = om.2.1 136 0 ∧ zI lo.toInt hi.toInt o.1 ∧ ∃ b' e', b < b' ∧ xTok L b' e' o.2.1 o.2.2 om.2.1 om.2.2)) := by
    unfold Gk_takeNumber Gm_needsNumber Gk_takeNumber_26 Gm_within
    simp only [zifQ, zifnQ, zletQ, xfm]
    have bad : ∀ k : Int32, xFk r q (zc_vr (Gk_wrong k r q) (fun _ r5 => (((-1) : Int32), r5, q))).2.1 (zc_vr (Gk_wrong k r q) (fun _ r5 => (((-1) : Int32), r5, q))).2.2 ∧ xFm9 rm qm (Gm_fails k rm qm).2 qm ∧ (zc_vr (Gk_wrong k r q) (fun _ r5 => (((-1) : Int32), r5, q))).1 = -1 ∧ (zc_vr (Gk_wrong k r q) (fun _ r5 => (((-1) : Int32), r5, q))).2.1 196 7 = (Gm_fails k rm qm).2 109 0 := by
      intro k
      obtain ⟨r1, rm1, h1, h2, h3, h4, h5⟩ := h.fails k
      rw [h1, h2]
      exact ⟨⟨h4, xFq.refl⟩, ⟨h5.up rfl, xFq.refl⟩, rfl, h3⟩
    by_cases h30 : r 196 4 = 30
    · have h2 := h.num.mpr h30
      obtain ⟨hv, hz⟩ := h.number h30
      rw [if_pos h30, if_pos h30, if_pos h2, hv]
      by_cases c1 : rm 108 0 < lo
      · rw [if_pos c1, if_pos c1]
        obtain ⟨q1, q2, q3, q4⟩ := bad 4
        exact ⟨_, _, rfl, rfl, q1, q2, Or.inl ⟨q3, rfl, q4⟩⟩
      · rw [if_neg c1, if_neg c1]
        by_cases c2 : hi < rm 108 0
        · have c3 : ¬ rm 108 0 ≤ hi := fun h9 => by have := Int32.le_iff_toInt_le.mp h9; have := Int32.lt_iff_toInt_lt.mp c2; omega
          rw [if_pos c2, if_neg c3]
          obtain ⟨q1, q2, q3, q4⟩ := bad 4
          exact ⟨_, _, rfl, rfl, q1, q2, Or.inl ⟨q3, rfl, q4⟩⟩
        · have c3 : rm 108 0 ≤ hi := by
            rw [Int32.le_iff_toInt_le]; rw [Int32.lt_iff_toInt_lt] at c2; omega
          rw [if_neg c2, if_pos c3]
          simp only [x10, if_false]
          have hT1 := h.pre (rm1 := zset rm 136 (fun _ => rm 108 0)) (M := [136]) (zFr.refl.set rfl) (by decide)
          obtain ⟨b1, e1, r1, q1, rm1, qm1, s1, s2, h1, hb, fk, fm⟩ := hT1.next
          rw [xrw s1, xrw s2]
          have := h.lt (by rw [h30]; decide)
          refine ⟨_, _, rfl, rfl, fk, ⟨(zFr.refl.set rfl).tr (fm.1.up (M := [104, 105, 106, 108, 109, 136]) rfl) rfl, fm.2⟩, Or.inr ⟨rfl, ?_, ?_, b1, e1, by omega, h1⟩⟩
          · show rm 108 0 = rm1 136 0
            rw [fm.1 136 rfl]; rfl
          · rw [Int32.lt_iff_toInt_lt] at c1
            rw [Int32.le_iff_toInt_le] at c3
            exact ⟨by show lo.toInt ≤ (rm 108 0).toInt; omega, c3⟩
    · have h2 : ¬ rm 106 0 = 2 := fun e9 => h30 (h.num.mp e9)
      rw [if_neg h30, if_neg h30, if_neg h2]
      obtain ⟨q1, q2, q3, q4⟩ := bad 1
      exact ⟨_, _, rfl, rfl, q1, q2, Or.inl ⟨q3, rfl, q4⟩⟩
  obtain ⟨o, om, e1, e2, h1, h2, h3⟩ := key
  rw [e1, e2]
  exact ⟨h1, h2, h3⟩
end XN
/-- a name among those told: the class's search, the reference's -/
theorem xnamed {t : Nat} {a : Int64} {w : Int64} {r : zRr} {q : zRq} {rm : zRr} {qm : zRq} (ht : t ≤ 6) (h1 : r 183 9 = nI t) (h2 : rm 1 4 = nI t) (hn : ∀ i, i < t → xN (q 186 i) (qm 2 (6 + i))) (hw : qm 107 0 = w) (ha : xN a w) : ∀ n i : Nat, i ≤ t → t < n + i → Gk_townNamedD_2 a r q n (nI i) = Gm_townNamed1_5 rm qm n (nI (6 + i)) ∧ (Gk_townNamedD_2 a r q n (nI i) = -1 ∨ ∃ j, j < t ∧ Gk_townNamedD_2 a r q n (nI i) = nI j) := by
  intro n
  induction n with
  | zero => intro i h3 h4; omega
  | succ n ih =>
    intro i h3 h4
    have e0 : Gk_townNamedD_2 a r q (n + 1) (nI i) = Bk_townNamedD_2 a r q (Gk_townNamedD_2 a r q n) (nI i) := rfl
    have e1 : Gm_townNamed1_5 rm qm (n + 1) (nI (6 + i)) = Bm_townNamed1_5 rm qm (Gm_townNamed1_5 rm qm n) (nI (6 + i)) := rfl
    rw [e0, e1]
    unfold Bk_townNamedD_2 Bm_townNamed1_5
    simp only [zifQ, zifnQ, zletQ, h1, h2, hw]
    rw [show (6 : Int32) + nI t = nI (6 + t) from nI_add 6 t]
    by_cases hi : t ≤ i
    · rw [if_pos ((nI_leI (by omega) (by omega)).mpr hi), if_pos ((nI_leI (by omega) (by omega)).mpr (by omega))]
      exact ⟨rfl, Or.inl rfl⟩
    · have c1 : ¬ nI t ≤ nI i := fun h => hi ((nI_leI (by omega) (by omega)).mp h)
      have c2 : ¬ nI (6 + t) ≤ nI (6 + i) := fun h => by have := (nI_leI (by omega) (by omega)).mp h; omega
      rw [if_neg c1, if_neg c2, xzn (show i < 2 ^ 31 by omega), xzn (show 6 + i < 2 ^ 31 by omega)]
      have k := (hn i (by omega)).eq ha
      by_cases hq : q 186 i = a
      · rw [if_pos (xcmp.mpr hq), if_pos (xcmp.mpr (k.mp hq)), show (6 : Int32) = nI 6 from rfl, xsub (show 6 ≤ 6 + i by omega), show 6 + i - 6 = i by omega]
        exact ⟨rfl, Or.inr ⟨i, by omega, rfl⟩⟩
      · rw [if_neg (fun h => hq (xcmp.mp h)), if_neg (fun h => hq (k.mpr (xcmp.mp h))), nI_1, nI_1]
        exact ih (i + 1) (by omega) (by omega)
theorem xnamedP {t : Nat} {a : Int64} {w : Int64} {r : zRr} {q : zRq} {rm : zRr} {qm : zRq} (ht : t ≤ 6) (h1 : r 183 10 = nI t) (h2 : rm 1 5 = nI t) (hn : ∀ i, i < t → xN (q 191 i) (qm 3 (6 + i))) (hw : qm 107 0 = w) (ha : xN a w) : ∀ n i : Nat, i ≤ t → t < n + i → Gk_personNamedD_2 a r q n (nI i) = Gm_personNamed1_5 rm qm n (nI (6 + i)) ∧ (Gk_personNamedD_2 a r q n (nI i) = -1 ∨ ∃ j, j < t ∧ Gk_personNamedD_2 a r q n (nI i) = nI j) := by
  intro n
  induction n with
  | zero => intro i h3 h4; omega
  | succ n ih =>
    intro i h3 h4
    have e0 : Gk_personNamedD_2 a r q (n + 1) (nI i) = Bk_personNamedD_2 a r q (Gk_personNamedD_2 a r q n) (nI i) := rfl
    have e1 : Gm_personNamed1_5 rm qm (n + 1) (nI (6 + i)) = Bm_personNamed1_5 rm qm (Gm_personNamed1_5 rm qm n) (nI (6 + i)) := rfl
    rw [e0, e1]
    unfold Bk_personNamedD_2 Bm_personNamed1_5
    simp only [zifQ, zifnQ, zletQ, h1, h2, hw]
    rw [show (6 : Int32) + nI t = nI (6 + t) from nI_add 6 t]
    by_cases hi : t ≤ i
    · rw [if_pos ((nI_leI (by omega) (by omega)).mpr hi), if_pos ((nI_leI (by omega) (by omega)).mpr (by omega))]
      exact ⟨rfl, Or.inl rfl⟩
    · have c1 : ¬ nI t ≤ nI i := fun h => hi ((nI_leI (by omega) (by omega)).mp h)
      have c2 : ¬ nI (6 + t) ≤ nI (6 + i) := fun h => by have := (nI_leI (by omega) (by omega)).mp h; omega
      rw [if_neg c1, if_neg c2, xzn (show i < 2 ^ 31 by omega), xzn (show 6 + i < 2 ^ 31 by omega)]
      have k := (hn i (by omega)).eq ha
      by_cases hq : q 191 i = a
      · rw [if_pos (xcmp.mpr hq), if_pos (xcmp.mpr (k.mp hq)), show (6 : Int32) = nI 6 from rfl, xsub (show 6 ≤ 6 + i by omega), show 6 + i - 6 = i by omega]
        exact ⟨rfl, Or.inr ⟨i, by omega, rfl⟩⟩
      · rw [if_neg (fun h => hq (xcmp.mp h)), if_neg (fun h => hq (k.mpr (xcmp.mp h))), nI_1, nI_1]
        exact ih (i + 1) (by omega) (by omega)
