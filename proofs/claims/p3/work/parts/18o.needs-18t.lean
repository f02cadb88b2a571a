section
/-! ===== what a line wants of its tokens, on both sides ===== -/
noncomputable def xFm9 (rm : zRr) (qm : zRq) (rm1 : zRr) (qm1 : zRq) : Prop := zFr [104, 105, 106, 108, 109, 136] rm rm1 ∧ xFq [107] qm qm1
theorem xFm9.refl {r : zRr} {q : zRq} : xFm9 r q r q := ⟨zFr.refl, xFq.refl⟩
theorem xFm9.tr {r r1 r2 : zRr} {q q1 q2 : zRq} (h : xFm9 r q r1 q1) (k : xFm9 r1 q1 r2 q2) : xFm9 r q r2 q2 := ⟨h.1.tr k.1 rfl, h.2.tr k.2 rfl⟩
theorem xFm9.m {r r1 : zRr} {q q1 : zRq} (h : xFm r q r1 q1) : xFm9 r q r1 q1 := ⟨h.1.up rfl, h.2⟩
/-- the same fault on both sides, or both go on -/
noncomputable def xTk (L b : Nat) (r : zRr) (q : zRq) (rm : zRr) (qm : zRq) (o om : Int32 × zRr × zRq) : Prop :=
  xFk r q o.2.1 o.2.2 ∧ xFm9 rm qm om.2.1 om.2.2 ∧ ((o.1 = 0 ∧ om.1 = 0 ∧ o.2.1 196 7 = om.2.1 109 0) ∨ (o.1 = 1 ∧ om.1 = 1 ∧ ∃ b' e', b < b' ∧ xTok L b' e' o.2.1 o.2.2 om.2.1 om.2.2))
section XN
variable {L b e : Nat} {r : zRr} {q : zRq} {rm : zRr} {qm : zRq}
theorem xTk.bad (h : xTok L b e r q rm qm) (k : Int32) : xTk L b r q rm qm (0, (Gk_wrong k r q).2, q) (0, (Gm_fails k rm qm).2, qm) := by
  obtain ⟨r1, rm1, h1, h2, h3, h4, h5⟩ := h.fails k
  rw [h1, h2]
  exact ⟨⟨h4, xFq.refl⟩, ⟨h5.up rfl, xFq.refl⟩, Or.inl ⟨rfl, rfl, h3⟩⟩
theorem xTk.go (h : xTok L b e r q rm qm) (hs : ¬ r 196 4 = 31) : xTk L b r q rm qm (zc_rq (Gk_step r q) (fun r q => ((1 : Int32), r, q))) (zc_rq (Gm_nextToken rm qm) (fun r q => ((1 : Int32), r, q))) := by
  obtain ⟨b1, e1, r1, q1, rm1, qm1, s1, s2, h1, hb, fk, fm⟩ := h.next
  rw [xrw s1, xrw s2]
  have := h.lt hs
  exact ⟨fk, xFm9.m fm, Or.inr ⟨rfl, rfl, b1, e1, by omega, h1⟩⟩
theorem xfr {k : Int32} : zc_vr (Gk_wrong k r q) (fun v r1 => (v, r1, q)) = (0, (Gk_wrong k r q).2, q) := Prod.ext rfl rfl
theorem xfm {k : Int32} : zc_vr (Gm_fails k rm qm) (fun v r1 => (v, r1, qm)) = (0, (Gm_fails k rm qm).2, qm) := Prod.ext rfl rfl
/-- a word that must stand there -/
theorem xtakeW (h : xTok L b e r q rm qm) {C : Int64} {i : Nat} (hi : i < 21) (hC : C = xe27 (eB.getD i [])) : xTk L b r q rm qm (Gk_take (nI i) r q) (Gm_needsWord C rm qm) := by
  unfold Gk_take Gm_needsWord
  simp only [zifQ, zifnQ, zletQ, xfr, xfm, h.word i hi hC]
  by_cases h1 : r 196 4 = nI i
  · rw [if_pos h1, if_pos h1]
    simp only [x10, if_false]
    exact xTk.go h (by rw [h1]; intro h9; have := (nI_eq (b := 31) (by omega) (by omega)).mp h9; omega)
  · rw [if_neg h1, if_neg h1]
    simp only [x00, if_true]
    exact xTk.bad h 1
/-- ; at the end of a line -/
theorem xclose (h : xTok L b e r q rm qm) : xTk L b r q rm qm (Gk_take 28 r q) (Gm_closes rm qm) := by
  unfold Gk_take Gm_closes
  simp only [zifQ, zifnQ, zletQ, xfr, xfm, h.sign (s := 59) 28 (by decide) rfl]
  by_cases h1 : r 196 4 = nI 28
  · have h1' : r 196 4 = 28 := h1
    rw [if_pos h1, if_pos h1']
    simp only [x10, if_false]
    exact xTk.go h (by rw [h1]; decide)
  · have h1' : ¬ r 196 4 = 28 := h1
    rw [if_neg h1, if_neg h1']
    simp only [x00, if_true]
    exact xTk.bad h 1
/-- a number that must stand there -/
theorem xnum (h : xTok L b e r q rm qm) {lo hi : Int32} (hlo : 0 ≤ lo.toInt) : xFk r q (Gk_takeNumber lo hi r q).2.1 (Gk_takeNumber lo hi r q).2.2 ∧ xFm9 rm qm (Gm_needsNumber lo hi rm qm).2.1 (Gm_needsNumber lo hi rm qm).2.2 ∧
    (((Gk_takeNumber lo hi r q).1 = -1 ∧ (Gm_needsNumber lo hi rm qm).1 = 0 ∧ (Gk_takeNumber lo hi r q).2.1 196 7 = (Gm_needsNumber lo hi rm qm).2.1 109 0) ∨
     ((Gm_needsNumber lo hi rm qm).1 = 1 ∧ (Gk_takeNumber lo hi r q).1 = (Gm_needsNumber lo hi rm qm).2.1 136 0 ∧ zI lo.toInt hi.toInt (Gk_takeNumber lo hi r q).1 ∧ ∃ b' e', b < b' ∧ xTok L b' e' (Gk_takeNumber lo hi r q).2.1 (Gk_takeNumber lo hi r q).2.2 (Gm_needsNumber lo hi rm qm).2.1 (Gm_needsNumber lo hi rm qm).2.2)) := by
  have key : ∃ o om, Gk_takeNumber lo hi r q = o ∧ Gm_needsNumber lo hi rm qm = om ∧ xFk r q o.2.1 o.2.2 ∧ xFm9 rm qm om.2.1 om.2.2 ∧ ((o.1 = -1 ∧ om.1 = 0 ∧ o.2.1 196 7 = om.2.1 109 0) ∨ (om.1 = 1 ∧ o.1 = om.2.1 136 0 ∧ zI lo.toInt hi.toInt o.1 ∧ ∃ b' e', b < b' ∧ xTok L b' e' o.2.1 o.2.2 om.2.1 om.2.2)) := by
    unfold Gk_takeNumber Gm_needsNumber Gk_takeNumber_26 Gm_within
    simp only [zifQ, zifnQ, zletQ, xfm]
    have bad : ∀ k : Int32, xFk r q (zc_vr (Gk_wrong k r q) (fun _ r5 => (((-1) : Int32), r5, q))).2.1 (zc_vr (Gk_wrong k r q) (fun _ r5 => (((-1) : Int32), r5, q))).2.2 ∧ xFm9 rm qm (Gm_fails k rm qm).2 qm ∧ (zc_vr (Gk_wrong k r q) (fun _ r5 => (((-1) : Int32), r5, q))).1 = -1 ∧ (zc_vr (Gk_wrong k r q) (fun _ r5 => (((-1) : Int32), r5, q))).2.1 196 7 = (Gm_fails k rm qm).2 109 0 := by
      intro k
      obtain ⟨r1, rm1, h1, h2, h3, h4, h5⟩ := h.fails k
      rw [h1, h2]
      exact ⟨⟨h4, xFq.refl⟩, ⟨h5.up rfl, xFq.refl⟩, rfl, h3⟩
    by_cases h30 : r 196 4 = 30
    · have h2 := h.num.mpr h30
      obtain ⟨hv, hz⟩ := h.number h30
      rw [if_pos h30, if_pos h30, if_pos h2, hv]
      by_cases c1 : rm 108 0 < lo
      · rw [if_pos c1, if_pos c1]
        obtain ⟨q1, q2, q3, q4⟩ := bad 4
        exact ⟨_, _, rfl, rfl, q1, q2, Or.inl ⟨q3, rfl, q4⟩⟩
      · rw [if_neg c1, if_neg c1]
        by_cases c2 : hi < rm 108 0
        · have c3 : ¬ rm 108 0 ≤ hi := fun h9 => by have := Int32.le_iff_toInt_le.mp h9; have := Int32.lt_iff_toInt_lt.mp c2; omega
          rw [if_pos c2, if_neg c3]
          obtain ⟨q1, q2, q3, q4⟩ := bad 4
          exact ⟨_, _, rfl, rfl, q1, q2, Or.inl ⟨q3, rfl, q4⟩⟩
        · have c3 : rm 108 0 ≤ hi := by
            rw [Int32.le_iff_toInt_le]; rw [Int32.lt_iff_toInt_lt] at c2; omega
          rw [if_neg c2, if_pos c3]
          simp only [x10, if_false]
          have hT1 := h.pre (rm1 := zset rm 136 (fun _ => rm 108 0)) (M := [136]) (zFr.refl.set rfl) (by decide)
          obtain ⟨b1, e1, r1, q1, rm1, qm1, s1, s2, h1, hb, fk, fm⟩ := hT1.next
          rw [xrw s1, xrw s2]
          have := h.lt (by rw [h30]; decide)
          refine ⟨_, _, rfl, rfl, fk, ⟨(zFr.refl.set rfl).tr (fm.1.up (M := [104, 105, 106, 108, 109, 136]) rfl) rfl, fm.2⟩, Or.inr ⟨rfl, ?_, ?_, b1, e1, by omega, h1⟩⟩
          · show rm 108 0 = rm1 136 0
            rw [fm.1 136 rfl]; rfl
          · rw [Int32.lt_iff_toInt_lt] at c1
            rw [Int32.le_iff_toInt_le] at c3
            exact ⟨by show lo.toInt ≤ (rm 108 0).toInt; omega, c3⟩
    · have h2 : ¬ rm 106 0 = 2 := fun e9 => h30 (h.num.mp e9)
      rw [if_neg h30, if_neg h30, if_neg h2]
      obtain ⟨q1, q2, q3, q4⟩ := bad 1
      exact ⟨_, _, rfl, rfl, q1, q2, Or.inl ⟨q3, rfl, q4⟩⟩
  obtain ⟨o, om, e1, e2, h1, h2, h3⟩ := key
  rw [e1, e2]
  exact ⟨h1, h2, h3⟩
end XN
/-- a name among those told: the class's search, the reference's -/
theorem xnamed {t : Nat} {a : Int64} {w : Int64} {r : zRr} {q : zRq} {rm : zRr} {qm : zRq} (ht : t ≤ 6) (h1 : r 183 9 = nI t) (h2 : rm 1 4 = nI t) (hn : ∀ i, i < t → xN (q 186 i) (qm 2 (6 + i))) (hw : qm 107 0 = w) (ha : xN a w) : ∀ n i : Nat, i ≤ t → t < n + i → Gk_townNamedD_2 a r q n (nI i) = Gm_townNamed1_5 rm qm n (nI (6 + i)) ∧ (Gk_townNamedD_2 a r q n (nI i) = -1 ∨ ∃ j, j < t ∧ Gk_townNamedD_2 a r q n (nI i) = nI j) := by
  intro n
  induction n with
  | zero => intro i h3 h4; omega
  | succ n ih =>
    intro i h3 h4
    have e0 : Gk_townNamedD_2 a r q (n + 1) (nI i) = Bk_townNamedD_2 a r q (Gk_townNamedD_2 a r q n) (nI i) := rfl
    have e1 : Gm_townNamed1_5 rm qm (n + 1) (nI (6 + i)) = Bm_townNamed1_5 rm qm (Gm_townNamed1_5 rm qm n) (nI (6 + i)) := rfl
    rw [e0, e1]
    unfold Bk_townNamedD_2 Bm_townNamed1_5
    simp only [zifQ, zifnQ, zletQ, h1, h2, hw]
    rw [show (6 : Int32) + nI t = nI (6 + t) from nI_add 6 t]
    by_cases hi : t ≤ i
    · rw [if_pos ((nI_leI (by omega) (by omega)).mpr hi), if_pos ((nI_leI (by omega) (by omega)).mpr (by omega))]
      exact ⟨rfl, Or.inl rfl⟩
    · have c1 : ¬ nI t ≤ nI i := fun h => hi ((nI_leI (by omega) (by omega)).mp h)
      have c2 : ¬ nI (6 + t) ≤ nI (6 + i) := fun h => by have := (nI_leI (by omega) (by omega)).mp h; omega
      rw [if_neg c1, if_neg c2, xzn (show i < 2 ^ 31 by omega), xzn (show 6 + i < 2 ^ 31 by omega)]
      have k := (hn i (by omega)).eq ha
      by_cases hq : q 186 i = a
      · rw [if_pos (xcmp.mpr hq), if_pos (xcmp.mpr (k.mp hq)), show (6 : Int32) = nI 6 from rfl, xsub (show 6 ≤ 6 + i by omega), show 6 + i - 6 = i by omega]
        exact ⟨rfl, Or.inr ⟨i, by omega, rfl⟩⟩
      · rw [if_neg (fun h => hq (xcmp.mp h)), if_neg (fun h => hq (k.mpr (xcmp.mp h))), nI_1, nI_1]
        exact ih (i + 1) (by omega) (by omega)
theorem xnamedP {t : Nat} {a : Int64} {w : Int64} {r : zRr} {q : zRq} {rm : zRr} {qm : zRq} (ht : t ≤ 6) (h1 : r 183 10 = nI t) (h2 : rm 1 5 = nI t) (hn : ∀ i, i < t → xN (q 191 i) (qm 3 (6 + i))) (hw : qm 107 0 = w) (ha : xN a w) : ∀ n i : Nat, i ≤ t → t < n + i → Gk_personNamedD_2 a r q n (nI i) = Gm_personNamed1_5 rm qm n (nI (6 + i)) ∧ (Gk_personNamedD_2 a r q n (nI i) = -1 ∨ ∃ j, j < t ∧ Gk_personNamedD_2 a r q n (nI i) = nI j) := by
  intro n
  induction n with
  | zero => intro i h3 h4; omega
  | succ n ih =>
    intro i h3 h4
    have e0 : Gk_personNamedD_2 a r q (n + 1) (nI i) = Bk_personNamedD_2 a r q (Gk_personNamedD_2 a r q n) (nI i) := rfl
    have e1 : Gm_personNamed1_5 rm qm (n + 1) (nI (6 + i)) = Bm_personNamed1_5 rm qm (Gm_personNamed1_5 rm qm n) (nI (6 + i)) := rfl
    rw [e0, e1]
    unfold Bk_personNamedD_2 Bm_personNamed1_5
    simp only [zifQ, zifnQ, zletQ, h1, h2, hw]
    rw [show (6 : Int32) + nI t = nI (6 + t) from nI_add 6 t]
    by_cases hi : t ≤ i
    · rw [if_pos ((nI_leI (by omega) (by omega)).mpr hi), if_pos ((nI_leI (by omega) (by omega)).mpr (by omega))]
      exact ⟨rfl, Or.inl rfl⟩
    · have c1 : ¬ nI t ≤ nI i := fun h => hi ((nI_leI (by omega) (by omega)).mp h)
      have c2 : ¬ nI (6 + t) ≤ nI (6 + i) := fun h => by have := (nI_leI (by omega) (by omega)).mp h; omega
      rw [if_neg c1, if_neg c2, xzn (show i < 2 ^ 31 by omega), xzn (show 6 + i < 2 ^ 31 by omega)]
      have k := (hn i (by omega)).eq ha
      by_cases hq : q 191 i = a
      · rw [if_pos (xcmp.mpr hq), if_pos (xcmp.mpr (k.mp hq)), show (6 : Int32) = nI 6 from rfl, xsub (show 6 ≤ 6 + i by omega), show 6 + i - 6 = i by omega]
        exact ⟨rfl, Or.inr ⟨i, by omega, rfl⟩⟩
      · rw [if_neg (fun h => hq (xcmp.mp h)), if_neg (fun h => hq (k.mpr (xcmp.mp h))), nI_1, nI_1]
        exact ih (i + 1) (by omega) (by omega)
end
section
/-! ===== what is told so far, on both sides; what a line leaves as it was ===== -/
noncomputable def xDt (t : Nat) (r : zRr) (q : zRq) (rm : zRr) (qm : zRq) : Prop := r 183 9 = nI t ∧ rm 1 4 = nI t ∧ t ≤ 6 ∧ (∀ i, i < t → r 184 i = rm 4 (6 + i) ∧ (r 185 i = rm 5 (6 + i) ∧ ∃ m, m < 2 ^ t ∧ r 185 i = nI m) ∧ xN (q 186 i) (qm 2 (6 + i))) ∧ ∀ i, t ≤ i → i < 6 → r 185 i = 0
noncomputable def xDp (t p : Nat) (r : zRr) (q : zRq) (rm : zRr) (qm : zRq) : Prop := r 183 10 = nI p ∧ rm 1 5 = nI p ∧ p ≤ 6 ∧ ∀ i, i < p → r 187 i = rm 6 (6 + i) ∧ (r 188 i = rm 7 (6 + i) ∧ ∃ a, a < t ∧ r 188 i = nI a) ∧ r 189 i = rm 8 (6 + i) ∧ r 190 i = rm 9 (6 + i) ∧ xN (q 191 i) (qm 3 (6 + i))
noncomputable def xDn (r rm : zRr) : Prop := r 183 11 = rm 1 6 ∧ r 183 12 = rm 1 7 ∧ ∃ g i : Nat, g ≤ 1 ∧ i ≤ 1 ∧ r 198 0 = nI g ∧ r 198 1 = nI i ∧ rm 123 0 = nI (4 * g + 8 * i)
/-- the law: not told, or told -/
noncomputable def xDl (r rm : zRr) : Prop := rm 10 1 = 1000 ∧ ((r 198 2 = 0 ∧ rm 11 1 = 1000 ∧ xCod [-1, -3, -8, -5] [] r rm) ∨ (r 198 2 = 1 ∧ ∃ C F, xEq 4 5 C F ∧ 1 ≤ F.length ∧ F.length ≤ 1000 ∧ C.length ≤ 1000 ∧ rm 11 1 = nI (1000 + F.length) ∧ xCod C F r rm))
noncomputable def xD (t p : Nat) (r : zRr) (q : zRq) (rm : zRr) (qm : zRq) : Prop := xDt t r q rm qm ∧ xDp t p r q rm qm ∧ xDn r rm ∧ xDl r rm
section XD
variable {t p : Nat} {r r1 : zRr} {q q1 : zRq} {rm rm1 : zRr} {qm qm1 : zRq}
theorem xDt.fr (h : xDt t r q rm qm) (e9 : r1 183 9 = r 183 9) (e1 : r1 184 = r 184) (e2 : r1 185 = r 185) (eq : q1 186 = q 186) (m4 : rm1 1 4 = rm 1 4) (m1 : rm1 4 = rm 4) (m2 : rm1 5 = rm 5) (mq : qm1 2 = qm 2) : xDt t r1 q1 rm1 qm1 := by
  unfold xDt at h ⊢
  rw [e9, e1, e2, eq, m4, m1, m2, mq]; exact h
theorem xDp.fr (h : xDp t p r q rm qm) (e9 : r1 183 10 = r 183 10) (e1 : r1 187 = r 187) (e2 : r1 188 = r 188) (e3 : r1 189 = r 189) (e4 : r1 190 = r 190) (eq : q1 191 = q 191) (m9 : rm1 1 5 = rm 1 5) (m1 : rm1 6 = rm 6) (m2 : rm1 7 = rm 7) (m3 : rm1 8 = rm 8) (m4 : rm1 9 = rm 9) (mq : qm1 3 = qm 3) : xDp t p r1 q1 rm1 qm1 := by
  unfold xDp at h ⊢
  rw [e9, e1, e2, e3, e4, eq, m9, m1, m2, m3, m4, mq]; exact h
theorem xDp.mono (h : xDp t p r q rm qm) : xDp (t + 1) p r q rm qm := by
  obtain ⟨h1, h2, h3, h4⟩ := h
  refine ⟨h1, h2, h3, fun i hi => ?_⟩
  obtain ⟨k1, ⟨k2, a, ha, ea⟩, k3⟩ := h4 i hi
  exact ⟨k1, ⟨k2, a, by omega, ea⟩, k3⟩
theorem xDn.fr (h : xDn r rm) (e1 : r1 183 11 = r 183 11) (e2 : r1 183 12 = r 183 12) (e3 : r1 198 0 = r 198 0) (e4 : r1 198 1 = r 198 1) (m1 : rm1 1 6 = rm 1 6) (m2 : rm1 1 7 = rm 1 7) (m3 : rm1 123 = rm 123) : xDn r1 rm1 := by
  unfold xDn at h ⊢
  rw [e1, e2, e3, e4, m1, m2, m3]; exact h
theorem xDl.fr (h : xDl r rm) (e1 : r1 198 2 = r 198 2) (e2 : r1 192 = r 192) (e3 : r1 193 = r 193) (m1 : rm1 10 = rm 10) (m2 : rm1 11 = rm 11) (m3 : rm1 12 = rm 12) (m4 : rm1 122 = rm 122) : xDl r1 rm1 := by
  unfold xDl xCod at h ⊢
  rw [e1, e2, e3, m1, m2, m3, m4]; exact h
theorem xD.tok (h : xD t p r q rm qm) (fk : xFk r q r1 q1) (fm : xFm9 rm qm rm1 qm1) : xD t p r1 q1 rm1 qm1 := by
  obtain ⟨h1, h2, h3, h4⟩ := h
  have k : ∀ a, [196].contains a = false → r1 a = r a := fun a ha => fk.1 a ha
  have m : ∀ a, [104, 105, 106, 108, 109, 136].contains a = false → rm1 a = rm a := fun a ha => fm.1 a ha
  exact ⟨h1.fr (by rw [k 183 rfl]) (k 184 rfl) (k 185 rfl) (fk.2 186 rfl) (by rw [m 1 rfl]) (m 4 rfl) (m 5 rfl) (fm.2 2 rfl), h2.fr (by rw [k 183 rfl]) (k 187 rfl) (k 188 rfl) (k 189 rfl) (k 190 rfl) (fk.2 191 rfl) (by rw [m 1 rfl]) (m 6 rfl) (m 7 rfl) (m 8 rfl) (m 9 rfl) (fm.2 3 rfl), h3.fr (by rw [k 183 rfl]) (by rw [k 183 rfl]) (by rw [k 198 rfl]) (by rw [k 198 rfl]) (by rw [m 1 rfl]) (by rw [m 1 rfl]) (m 123 rfl), h4.fr (by rw [k 198 rfl]) (k 192 rfl) (k 193 rfl) (m 10 rfl) (m 11 rfl) (m 12 rfl) (m 122 rfl)⟩
end XD
noncomputable def xKM : List Nat := [183, 184, 185, 187, 188, 189, 190, 192, 193, 196, 198]
noncomputable def xKQ : List Nat := [186, 191, 196]
noncomputable def xMM : List Nat := [1, 4, 5, 6, 7, 8, 9, 10, 11, 12, 13, 14, 104, 105, 106, 108, 109, 122, 123, 136]
noncomputable def xMQ : List Nat := [2, 3, 107, 137]
noncomputable def xGk (r : zRr) (q : zRq) (r1 : zRr) (q1 : zRq) : Prop := zFr xKM r r1 ∧ xFq xKQ q q1
/-- the lower halves of the reference's rows: what was told before -/
noncomputable def xLow (rm : zRr) (qm : zRq) (rm1 : zRr) (qm1 : zRq) : Prop := (∀ j, j < 4 → rm1 1 j = rm 1 j) ∧ (∀ k j, 4 ≤ k → k ≤ 9 → j < 6 → rm1 k j = rm k j) ∧ rm1 10 0 = rm 10 0 ∧ rm1 11 0 = rm 11 0 ∧ (∀ j, j < 1000 → rm1 12 j = rm 12 j) ∧ (∀ j, j < 6 → qm1 2 j = qm 2 j) ∧ ∀ j, j < 6 → qm1 3 j = qm 3 j
noncomputable def xGm (rm : zRr) (qm : zRq) (rm1 : zRr) (qm1 : zRq) : Prop := zFr xMM rm rm1 ∧ xFq xMQ qm qm1 ∧ xLow rm qm rm1 qm1
section XGF
variable {r r1 r2 : zRr} {q q1 q2 : zRq}
theorem xGk.refl : xGk r q r q := ⟨zFr.refl, xFq.refl⟩
theorem xGk.tr (h : xGk r q r1 q1) (k : xGk r1 q1 r2 q2) : xGk r q r2 q2 := ⟨h.1.tr k.1 (by decide), h.2.tr k.2 (by decide)⟩
theorem xGk.k (h : xGk r q r1 q1) (k : xFk r1 q1 r2 q2) : xGk r q r2 q2 := ⟨h.1.tr k.1 (by decide), h.2.tr k.2 (by decide)⟩
theorem xGk.e (h : xGk r q r1 q1) (k : xFe r1 q1 r2 q2) : xGk r q r2 q2 := ⟨h.1.tr k.1 (by decide), h.2.tr k.2 (by decide)⟩
theorem xGk.set (h : xGk r q r1 q1) {k : Nat} {g : Nat → Int32} (hk : xKM.contains k = true) : xGk r q (zset r1 k g) q1 := ⟨h.1.set hk, h.2⟩
theorem xGk.setq (h : xGk r q r1 q1) {k : Nat} {g : Nat → Int64} (hk : xKQ.contains k = true) : xGk r q r1 (zset q1 k g) := ⟨h.1, h.2.set hk⟩
theorem xLow.refl : xLow r q r q := ⟨fun _ _ => rfl, fun _ _ _ _ _ => rfl, rfl, rfl, fun _ _ => rfl, fun _ _ => rfl, fun _ _ => rfl⟩
theorem xLow.tr (h : xLow r q r1 q1) (k : xLow r1 q1 r2 q2) : xLow r q r2 q2 := by
  obtain ⟨a1, a2, a3, a4, a5, a6, a7⟩ := h
  obtain ⟨b1, b2, b3, b4, b5, b6, b7⟩ := k
  exact ⟨fun j hj => (b1 j hj).trans (a1 j hj), fun k j h1 h2 h3 => (b2 k j h1 h2 h3).trans (a2 k j h1 h2 h3), b3.trans a3, b4.trans a4, fun j hj => (b5 j hj).trans (a5 j hj), fun j hj => (b6 j hj).trans (a6 j hj), fun j hj => (b7 j hj).trans (a7 j hj)⟩
theorem xLow.of (h1 : r1 1 = r 1) (h4 : ∀ k, 4 ≤ k → k ≤ 12 → r1 k = r k) (h2 : q1 2 = q 2) (h3 : q1 3 = q 3) : xLow r q r1 q1 :=
  ⟨fun j _ => by rw [h1], fun k j a b _ => by rw [h4 k a (by omega)], by rw [h4 10 (by omega) (by omega)], by rw [h4 11 (by omega) (by omega)], fun j _ => by rw [h4 12 (by omega) (by omega)], fun j _ => by rw [h2], fun j _ => by rw [h3]⟩
theorem xGm.refl : xGm r q r q := ⟨zFr.refl, xFq.refl, xLow.refl⟩
theorem xGm.tr (h : xGm r q r1 q1) (k : xGm r1 q1 r2 q2) : xGm r q r2 q2 := ⟨h.1.tr k.1 (by decide), h.2.1.tr k.2.1 (by decide), h.2.2.tr k.2.2⟩
theorem xGm.m (h : xGm r q r1 q1) (k : xFm9 r1 q1 r2 q2) : xGm r q r2 q2 := by
  refine ⟨h.1.tr k.1 (by decide), h.2.1.tr k.2 (by decide), h.2.2.tr (xLow.of (k.1 1 rfl) (fun a h1 h2 => k.1 a ?_) (k.2 2 rfl) (k.2 3 rfl))⟩
  rcases (show a = 4 ∨ a = 5 ∨ a = 6 ∨ a = 7 ∨ a = 8 ∨ a = 9 ∨ a = 10 ∨ a = 11 ∨ a = 12 by omega) with rfl | rfl | rfl | rfl | rfl | rfl | rfl | rfl | rfl <;> rfl
theorem xGm.l (h : xGm r q r1 q1) (k : xRl r1 q1 r2 q2) : xGm r q r2 q2 := by
  refine ⟨h.1.tr k.1 (by decide), h.2.1.tr k.2.1 (by decide), h.2.2.tr ⟨fun j _ => by rw [k.1 1 rfl], fun a j h1 h2 _ => ?_, by rw [k.1 10 rfl], by rw [k.1 11 rfl], k.2.2, fun j _ => by rw [k.2.1 2 rfl], fun j _ => by rw [k.2.1 3 rfl]⟩⟩
  rcases (show a = 4 ∨ a = 5 ∨ a = 6 ∨ a = 7 ∨ a = 8 ∨ a = 9 by omega) with rfl | rfl | rfl | rfl | rfl | rfl
  · rw [k.1 4 rfl]
  · rw [k.1 5 rfl]
  · rw [k.1 6 rfl]
  · rw [k.1 7 rfl]
  · rw [k.1 8 rfl]
  · rw [k.1 9 rfl]
/-- a cell of the reference's upper halves -/
theorem xGm.cell (h : xGm r q r1 q1) {k j : Nat} {v : Int32} (hk : xMM.contains k = true) (h1 : k = 1 → 4 ≤ j) (h4 : 4 ≤ k → k ≤ 9 → 6 ≤ j) (h10 : k = 10 ∨ k = 11 → 1 ≤ j) (h12 : k = 12 → 1000 ≤ j) : xGm r q (zset r1 k (upd (r1 k) j v)) q1 := by
  refine ⟨h.1.set hk, h.2.1, h.2.2.tr ⟨fun i hi => ?_, fun a i ha hb hi => ?_, ?_, ?_, fun i hi => ?_, fun _ _ => rfl, fun _ _ => rfl⟩⟩
  · by_cases e : 1 = k
    · subst e; rw [zset_eq, pk_un (by have := h1 rfl; omega)]
    · rw [zset_ne e]
  · by_cases e : a = k
    · subst e; rw [zset_eq, pk_un (by have := h4 ha hb; omega)]
    · rw [zset_ne e]
  · by_cases e : 10 = k
    · subst e; rw [zset_eq, pk_un (by have := h10 (Or.inl rfl); omega)]
    · rw [zset_ne e]
  · by_cases e : 11 = k
    · subst e; rw [zset_eq, pk_un (by have := h10 (Or.inr rfl); omega)]
    · rw [zset_ne e]
  · by_cases e : 12 = k
    · subst e; rw [zset_eq, pk_un (by have := h12 rfl; omega)]
    · rw [zset_ne e]
theorem xGm.fld (h : xGm r q r1 q1) {k : Nat} {g : Nat → Int32} (hk : xMM.contains k = true) (h13 : 13 ≤ k) : xGm r q (zset r1 k g) q1 :=
  ⟨h.1.set hk, h.2.1, h.2.2.tr ⟨fun i _ => by rw [zset_ne (by omega)], fun a i ha hb _ => by rw [zset_ne (by omega)], by rw [zset_ne (by omega)], by rw [zset_ne (by omega)], fun i _ => by rw [zset_ne (by omega)], fun _ _ => rfl, fun _ _ => rfl⟩⟩
theorem xGm.cellq (h : xGm r q r1 q1) {k j : Nat} {v : Int64} (hk : k = 2 ∨ k = 3) (hj : 6 ≤ j) : xGm r q r1 (zset q1 k (vp_updL (q1 k) j v)) := by
  refine ⟨h.1, h.2.1.set (by rcases hk with rfl | rfl <;> decide), h.2.2.tr ⟨fun _ _ => rfl, fun _ _ _ _ _ => rfl, rfl, rfl, fun _ _ => rfl, fun i hi => ?_, fun i hi => ?_⟩⟩
  · by_cases e : 2 = k
    · subst e; rw [zset_eq]; exact if_neg (by omega)
    · rw [zset_ne e]
  · by_cases e : 3 = k
    · subst e; rw [zset_eq]; exact if_neg (by omega)
    · rw [zset_ne e]
theorem xGm.fldq (h : xGm r q r1 q1) {g : Nat → Int64} : xGm r q r1 (zset q1 137 g) :=
  ⟨h.1, h.2.1.set (by decide), h.2.2.tr ⟨fun _ _ => rfl, fun _ _ _ _ _ => rfl, rfl, rfl, fun _ _ => rfl, fun i _ => by rw [zset_ne (by decide)], fun i _ => by rw [zset_ne (by decide)]⟩⟩
end XGF
section XW
variable {L b e t p : Nat} {r : zRr} {q : zRq} {rm : zRr} {qm : zRq}
theorem xtownN (h : xTok L b e r q rm qm) (hD : xDt t r q rm qm) (hs : r 196 4 = 29) : Gk_townNamedD (q 196 6) r q = Gm_townNamed1 rm qm ∧ (Gk_townNamedD (q 196 6) r q = -1 ∨ ∃ j, j < t ∧ Gk_townNamedD (q 196 6) r q = nI j) := by
  obtain ⟨h1, h2, h3, h4, _⟩ := hD
  have := xnamed (n := 7) (i := 0) h3 h1 h2 (fun i hi => (h4 i hi).2.2) rfl (h.nm hs) (by omega) (by omega)
  exact this
theorem xpersN (h : xTok L b e r q rm qm) (hD : xDp t p r q rm qm) (hs : r 196 4 = 29) : Gk_personNamedD (q 196 6) r q = Gm_personNamed1 rm qm ∧ (Gk_personNamedD (q 196 6) r q = -1 ∨ ∃ j, j < p ∧ Gk_personNamedD (q 196 6) r q = nI j) := by
  obtain ⟨h1, h2, h3, h4⟩ := hD
  have := xnamedP (n := 7) (i := 0) h3 h1 h2 (fun i hi => (h4 i hi).2.2.2.2) rfl (h.nm hs) (by omega) (by omega)
  exact this
theorem xnn {j : Nat} (h : j < 6) : 0 ≤ nI j ∧ ¬ nI j < 0 ∧ ¬ nI j = -1 := by
  have e0 : (0 : Int32) = nI 0 := nI_0.symm
  refine ⟨by rw [e0]; exact (nI_leI (by omega) (by omega)).mpr (by omega), by rw [e0]; intro h9; have := (nI_ltI (by omega) (by omega)).mp h9; omega, fun h9 => ?_⟩
  have h8 := congrArg Int32.toInt h9
  rw [nI_toInt (by omega)] at h8
  have c : (-1 : Int32).toInt = -1 := by decide
  omega
/-- a name that is new -/
theorem xnew (h : xTok L b e r q rm qm) (hD : xD t p r q rm qm) :
    (∃ r1 rm1, Gk_isNewName r q = (0, r1) ∧ Gm_needsNew rm qm = (0, rm1, qm) ∧ r1 196 7 = rm1 109 0 ∧ zFr [196] r r1 ∧ zFr [109] rm rm1) ∨
    (Gk_isNewName r q = (1, r) ∧ Gm_needsNew rm qm = zc_rq (Gm_nextToken rm (zset qm 137 (fun _ => qm 107 0))) (fun r q => ((1 : Int32), r, q)) ∧ r 196 4 = 29) := by
  unfold Gk_isNewName Gm_needsNew Gk_isNewName_40
  simp only [zifQ, zifnQ, zletQ, xfm, h.kept]
  by_cases hs : r 196 4 = 29
  · obtain ⟨a1, a2⟩ := xtownN h hD.1 hs
    obtain ⟨c1, c2⟩ := xpersN h hD.2.1 hs
    rw [if_pos hs, if_pos hs, ← a1, ← c1]
    simp only [x00, if_true]
    rcases a2 with e1 | ⟨j, hj, e1⟩
    · rw [e1, if_pos rfl, if_neg (show ¬ (0 : Int32) ≤ -1 by decide)]
      rcases c2 with e2 | ⟨k, hk, e2⟩
      · right
        rw [e2, if_pos rfl, if_pos (show (-1 : Int32) < 0 by decide)]
        exact ⟨rfl, rfl, hs⟩
      · left
        have hp6 := hD.2.1.2.2.1
        obtain ⟨n1, n2, n3⟩ := xnn (j := k) (by omega)
        obtain ⟨r1, rm1, h1, h2, h3, h4, h5⟩ := h.fails 3
        rw [e2, if_neg n3, if_neg n2, h1, h2]
        exact ⟨r1, rm1, rfl, rfl, h3, h4, h5⟩
    · left
      have ht6 := hD.1.2.2.1
      obtain ⟨n1, n2, n3⟩ := xnn (j := j) (by omega)
      obtain ⟨r1, rm1, h1, h2, h3, h4, h5⟩ := h.fails 3
      rw [e1, if_neg n3, if_pos n1, h1, h2]
      exact ⟨r1, rm1, rfl, rfl, h3, h4, h5⟩
  · left
    obtain ⟨r1, rm1, h1, h2, h3, h4, h5⟩ := h.fails 1
    rw [if_neg hs, if_neg hs, h1, h2]
    simp only [x10, if_false]
    exact ⟨r1, rm1, rfl, rfl, h3, h4, h5⟩
/-- a TOWN that was told -/
theorem xhere (h : xTok L b e r q rm qm) (hD : xD t p r q rm qm) :
    (∃ r1 rm1, Gk_townHereD r q = (-1, r1) ∧ Gm_needsTown1 rm qm = (0, rm1) ∧ r1 196 7 = rm1 109 0 ∧ zFr [196] r r1 ∧ zFr [109, 136] rm rm1) ∨
    (∃ j, j < t ∧ Gk_townHereD r q = (nI j, r) ∧ Gm_needsTown1 rm qm = (1, zset rm 136 (fun _ => nI j)) ∧ r 196 4 = 29) := by
  unfold Gk_townHereD Gm_needsTown1 Gk_townHereD_22 Gk_townHereD_44
  simp only [zifQ, zifnQ, zletQ, h.kept]
  by_cases hs : r 196 4 = 29
  · obtain ⟨a1, a2⟩ := xtownN h hD.1 hs
    simp only [if_pos hs, x00, if_true, ← a1]
    rcases a2 with e1 | ⟨j, hj, e1⟩
    · left
      have hT := h.pre (rm1 := zset rm 136 (fun _ => (-1 : Int32))) (M := [136]) (zFr.refl.set rfl) (by decide)
      obtain ⟨r1, rm1, h1, h2, h3, h4, h5⟩ := hT.fails 2
      rw [e1, if_pos rfl, h1]
      refine ⟨r1, rm1, rfl, ?_, h3, h4, (zFr.refl.set rfl).tr h5 rfl⟩
      rw [show (zset rm 136 (fun _ => (-1 : Int32))) 136 0 = -1 from rfl, if_neg (by decide), h2]
      rfl
    · right
      have ht6 := hD.1.2.2.1
      obtain ⟨n1, n2, n3⟩ := xnn (j := j) (by omega)
      rw [e1, if_neg n3]
      refine ⟨j, hj, rfl, ?_, hs⟩
      rw [show (zset rm 136 (fun _ => nI j)) 136 0 = nI j from rfl, if_pos n1]
  · left
    obtain ⟨r1, rm1, h1, h2, h3, h4, h5⟩ := h.fails 1
    simp only [if_neg hs, x10, if_true, if_false, h1, h2]
    exact ⟨r1, rm1, rfl, rfl, h3, h4, h5.up rfl⟩
end XW
end
section
/-! ===== a line of a LAND, on both sides: a town ===== -/
noncomputable def xCL (o : Int32 × zRr × zRq) : Int32 × zRr × zRq := zc_vrq o (fun v r8 q9 => zif (v = 0) (0, r8, q9) (zc_vrq (Gk_take 28 r8 q9) (fun v r15 q16 => zifn (v = 0) (1, r15, q16) (0, r15, q16))))
noncomputable def xLo (L b : Nat) (r : zRr) (q : zRq) (rm : zRr) (qm : zRq) (o om : Int32 × zRr × zRq) : Prop :=
  xGk r q o.2.1 o.2.2 ∧ xGm rm qm om.2.1 om.2.2 ∧ ((o.1 = 0 ∧ om.1 = 0 ∧ o.2.1 196 7 = om.2.1 109 0) ∨ (o.1 = 1 ∧ om.1 = 1 ∧ ∃ b' e' t p, b < b' ∧ xTok L b' e' o.2.1 o.2.2 om.2.1 om.2.2 ∧ xD t p o.2.1 o.2.2 om.2.1 om.2.2))
theorem xeta {α : Type} {o : α × zRr × zRq} : zc_vrq o (fun v r q => (v, r, q)) = o := rfl
theorem xcvrq {α β : Type} {v : α} {r : zRr} {q : zRq} {K : α → zRr → zRq → β} : zc_vrq (v, r, q) K = K v r q := zc_vrqQ _ _
theorem xcvr {α β : Type} {v : α} {r : zRr} {K : α → zRr → β} : zc_vr (v, r) K = K v r := zc_vrQ _ _
theorem xcrq {β : Type} {r : zRr} {q : zRq} {K : zRr → zRq → β} : zc_rq (r, q) K = K r q := zc_rqQ _ _
section XLO
variable {L b : Nat} {r r1 : zRr} {q q1 : zRq} {rm rm1 : zRr} {qm qm1 : zRq}
theorem xCL0 : xCL (0, r, q) = (0, r, q) := by
  unfold xCL; rw [xcvrq, zifQ, if_pos rfl]
theorem xCL1 : xCL (1, r, q) = zc_vrq (Gk_take 28 r q) (fun v r15 q16 => zifn (v = 0) (1, r15, q16) (0, r15, q16)) := by
  unfold xCL; rw [xcvrq, zifQ, if_neg (by decide)]
theorem xLo.fail (hk : xGk r q r1 q1) (hm : xGm rm qm rm1 qm1) (h : r1 196 7 = rm1 109 0) : xLo L b r q rm qm (xCL (0, r1, q1)) (0, rm1, qm1) := by
  rw [xCL0]; exact ⟨hk, hm, Or.inl ⟨rfl, rfl, h⟩⟩
theorem xLo.close {b1 e1 t p : Nat} (h : xTok L b1 e1 r1 q1 rm1 qm1) (hb : b < b1) (hD : xD t p r1 q1 rm1 qm1) (hk : xGk r q r1 q1) (hm : xGm rm qm rm1 qm1) : xLo L b r q rm qm (xCL (1, r1, q1)) (Gm_closes rm1 qm1) := by
  rw [xCL1]
  have k := xclose h
  generalize Gk_take 28 r1 q1 = o at k ⊢
  generalize Gm_closes rm1 qm1 = om at k ⊢
  obtain ⟨v, r2, q2⟩ := o
  obtain ⟨w, rm2, qm2⟩ := om
  obtain ⟨fk, fm, k⟩ := k
  rw [xcvrq, zifnQ]
  rcases k with ⟨a1, a2, a3⟩ | ⟨a1, a2, b', e', a3, a4⟩
  · have a1 : v = 0 := a1
    have a2 : w = 0 := a2
    rw [if_pos a1, a2]
    exact ⟨hk.k fk, hm.m fm, Or.inl ⟨rfl, rfl, a3⟩⟩
  · have a1 : v = 1 := a1
    have a2 : w = 1 := a2
    rw [if_neg (by rw [a1]; decide), a2]
    exact ⟨hk.k fk, hm.m fm, Or.inr ⟨rfl, rfl, b', e', t, p, by omega, a4, hD.tok fk fm⟩⟩
end XLO
section XT
variable {L b e t p : Nat} {r : zRr} {q : zRq} {rm : zRr} {qm : zRq}
theorem xDt.nm {r1 : zRr} {q1 : zRq} {rm1 : zRr} {qm1 : zRq} (h : xDt t r q rm qm) {j : Nat} {w : Int64} (hj : t ≤ j) : xDt t r (zset q 186 (vp_updL (q 186) j w)) rm qm := by
  obtain ⟨h1, h2, h3, h4, h5⟩ := h
  refine ⟨h1, h2, h3, fun i hi => ?_, h5⟩
  obtain ⟨k1, k2, k3⟩ := h4 i hi
  refine ⟨k1, k2, ?_⟩
  rw [zset_eq, show vp_updL (q 186) j w i = q 186 i from if_neg (by omega)]
  exact k3
theorem xlTown (h : xTok L b e r q rm qm) (hD : xD t p r q rm qm) (hs : ¬ r 196 4 = 31) : xLo L b r q rm qm (xCL (Gk_readTown r q)) (Gm_readsTown rm qm) := by
  have hD0 := hD
  obtain ⟨hDt, hDp, hDn, hDl⟩ := hD
  have e9 : r 183 9 = nI t := hDt.1
  have e4 : rm 1 4 = nI t := hDt.2.1
  have ht6 : t ≤ 6 := hDt.2.2.1
  have e6 : (6 : Int32) + nI t = nI (6 + t) := nI_add 6 t
  unfold Gk_readTown Gm_readsTown
  simp only [zifQ, zifnQ, zletQ, xfr, xfm, xeta, e9, e4, e6, xzn (show 6 + t < 2 ^ 31 by omega), xzn (show t < 2 ^ 31 by omega)]
  by_cases ht : t < 6
  · have c1 : nI t < 6 := (nI_ltI (b := 6) (by omega) (by omega)).mpr ht
    have c2 : ¬ nI (6 + t) = 12 := fun h9 => by have := (nI_eq (b := 12) (by omega) (by omega)).mp h9; omega
    rw [if_pos c1, if_neg c2]
    obtain ⟨b1, e1, r4, q5, rm6, qm7, s1, s2, hT1, hb1, fk1, fm1⟩ := h.next
    have hlt := h.lt hs
    have hD1 := hD0.tok fk1 (xFm9.m fm1)
    have GK1 : xGk r q r4 q5 := xGk.refl.k fk1
    have GM1 : xGm rm qm rm6 qm7 := xGm.refl.m (xFm9.m fm1)
    rw [s1, s2, xcrq, xcrq]
    rcases xnew hT1 hD1 with ⟨r8, rm8, n1, n2, n3, n4, n5⟩ | ⟨n1, n2, n3⟩
    · rw [n1, n2, xcvr, xcvrq (r := rm8), if_pos rfl, if_pos rfl]
      exact xLo.fail (GK1.k ⟨n4, xFq.refl⟩) (GM1.m ⟨n5.up rfl, xFq.refl⟩) n3
    · rw [n1, n2, xcvr, if_neg (show ¬ (1 : Int32) = 0 by decide)]
      have hT2 : xTok L b1 e1 r4 (zset q5 186 (vp_updL (q5 186) t (q5 196 6))) rm6 (zset qm7 137 (fun _ => qm7 107 0)) := hT1.row rfl rfl (zset_ne (by decide)) rfl rfl rfl rfl rfl rfl (zset_ne (by decide))
      obtain ⟨b2, e2, r14, q15, rm10, qm11, s3, s4, hT3, hb2, fk2, fm2⟩ := hT2.next
      have hD2 : xD t p r14 q15 rm10 qm11 := by
        refine xD.tok (r := r4) (q := zset q5 186 (vp_updL (q5 186) t (q5 196 6))) (rm := rm6) (qm := zset qm7 137 (fun _ => qm7 107 0)) ?_ fk2 (xFm9.m fm2)
        obtain ⟨d1, d2, d3, d4⟩ := hD1
        exact ⟨(d1.nm (r1 := r) (q1 := q) (rm1 := rm) (qm1 := qm) (Nat.le_refl t)).fr rfl rfl rfl rfl rfl rfl rfl (zset_ne (by decide)), d2.fr rfl rfl rfl rfl rfl (zset_ne (by decide)) rfl rfl rfl rfl rfl (zset_ne (by decide)), d3, d4⟩
      have GK2 : xGk r q r14 q15 := (GK1.setq (k := 186) (by decide)).k fk2
      have GM2 : xGm rm qm rm10 qm11 := (GM1.fldq).m (xFm9.m fm2)
      have qn : q15 186 t = q5 196 6 := by rw [fk2.2 186 rfl, zset_eq]; exact if_pos rfl
      have qf : qm11 137 0 = qm7 107 0 := by rw [fm2.2 137 rfl, zset_eq]
      have hN := hT1.nm n3
      rw [s3, s4, xcrq, xcrq, xcvrq (r := rm10), if_neg (show ¬ (1 : Int32) = 0 by decide)]
      unfold Gm_needsBoth
      simp only [zifQ]
      have k1 := xtakeW (C := 33850) hT3 (i := 1) (by decide) (by decide)
      rw [show nI 1 = (1 : Int32) from rfl] at k1
      generalize Gk_take 1 r14 q15 = o at k1 ⊢
      generalize Gm_needsWord 33850 rm10 qm11 = om at k1 ⊢
      obtain ⟨v, r18, q19⟩ := o
      obtain ⟨w, rm11, qm12⟩ := om
      obtain ⟨fk3, fm3, k1⟩ := k1
      have fk3 : xFk r14 q15 r18 q19 := fk3
      have fm3 : xFm9 rm10 qm11 rm11 qm12 := fm3
      have GK3 := GK2.k fk3
      have GM3 := GM2.m fm3
      rw [xcvrq (r := r18), xcvrq (r := rm11)]
      rcases k1 with ⟨a1, a2, a3⟩ | ⟨a1, a2, b3, e3, a3, hT4⟩
      · have a1 : v = 0 := a1
        have a2 : w = 0 := a2
        rw [if_pos a1, if_pos a2, xcvrq (r := rm11), if_pos rfl]
        exact xLo.fail GK3 GM3 a3
      · have a1 : v = 1 := a1
        have a2 : w = 1 := a2
        have hD3 := hD2.tok fk3 fm3
        rw [if_neg (show ¬ v = 0 by rw [a1]; decide), if_neg (show ¬ w = 0 by rw [a2]; decide)]
        have k2 := xnum hT4 (lo := 0) (hi := 30) (by decide)
        generalize Gk_takeNumber 0 30 r18 q19 = o at k2 ⊢
        generalize Gm_needsNumber 0 30 rm11 qm12 = om at k2 ⊢
        obtain ⟨v, r24, q25⟩ := o
        obtain ⟨w, rm17, qm18⟩ := om
        obtain ⟨fk4, fm4, k2⟩ := k2
        have fk4 : xFk r18 q19 r24 q25 := fk4
        have fm4 : xFm9 rm11 qm12 rm17 qm18 := fm4
        have GK4 := GK3.k fk4
        have GM4 := GM3.m fm4
        rw [xcvrq (r := r24), xcvrq (r := rm17)]
        rcases k2 with ⟨c1, c2, c3⟩ | ⟨c1, c2, c3, b4, e4', c4, hT5⟩
        · have c1 : v = -1 := c1
          have c2 : w = 0 := c2
          rw [if_pos c2, xcvrq (r := rm17), if_pos rfl]
          rw [if_pos (show (zset (zset r24 184 (upd (r24 184) t v)) 183 (upd (zset r24 184 (upd (r24 184) t v) 183) 9 (zset r24 184 (upd (r24 184) t v) 183 9 + 1))) 184 t = -1 by
            rw [zset_ne (by decide), zset_eq, pk_us]; exact c1)]
          exact xLo.fail ((GK4.set (by decide)).set (by decide)) GM4 c3
        · have c1 : w = 1 := c1
          have c2 : v = rm17 136 0 := c2
          have c3 : zI 0 30 v := c3
          have hD4 := hD3.tok fk4 fm4
          have qn4 : q25 186 t = q5 196 6 := by rw [fk4.2 186 rfl, fk3.2 186 rfl]; exact qn
          have qf4 : qm18 137 0 = qm7 107 0 := by rw [fm4.2 137 rfl, fm3.2 137 rfl]; exact qf
          rw [if_neg (show ¬ w = 0 by rw [c1]; decide), xcvrq (r := rm17), if_neg (show ¬ (1 : Int32) = 0 by decide), ← c2]
          rw [if_neg (show ¬ (zset (zset r24 184 (upd (r24 184) t v)) 183 (upd (zset r24 184 (upd (r24 184) t v) 183) 9 (zset r24 184 (upd (r24 184) t v) 183 9 + 1))) 184 t = -1 by
            rw [zset_ne (by decide), zset_eq, pk_us]; intro h9; rw [h9] at c3; exact absurd c3.1 (by decide))]
          obtain ⟨d1, d2, d3, d4⟩ := hD4
          obtain ⟨t1, t2, t3, t4, t5⟩ := d1
          refine xLo.close (b1 := b4) (e1 := e4') (t := t + 1) (p := p) (hT5.row rfl rfl rfl rfl rfl rfl rfl rfl rfl (zset_ne (by decide))) (by omega) ⟨⟨?_, ?_, by omega, fun i hi => ?_, fun i hi hi6 => ?_⟩, ?_, ?_, ?_⟩ ((GK4.set (by decide)).set (by decide)) ?_
          · show r24 183 9 + 1 = _
            rw [t1, nI_1]
          · show rm17 1 4 + 1 = _
            rw [t2, nI_1]
          · show upd (r24 184) t v i = upd (rm17 4) (6 + t) v (6 + i) ∧ (r24 185 i = upd (rm17 5) (6 + t) 0 (6 + i) ∧ ∃ m, m < 2 ^ (t + 1) ∧ r24 185 i = nI m) ∧ xN (q25 186 i) (vp_updL (qm18 2) (6 + t) (qm18 137 0) (6 + i))
            by_cases e : i = t
            · subst e
              rw [pk_us, pk_us, pk_us, show vp_updL (qm18 2) (6 + i) (qm18 137 0) (6 + i) = qm18 137 0 from if_pos rfl, qn4, qf4]
              exact ⟨rfl, ⟨t5 i (Nat.le_refl _) ht, 0, Nat.two_pow_pos _, (t5 i (Nat.le_refl _) ht).trans nI_0.symm⟩, hN⟩
            · rw [pk_un e, pk_un (by omega), pk_un (by omega), show vp_updL (qm18 2) (6 + t) (qm18 137 0) (6 + i) = qm18 2 (6 + i) from if_neg (by omega)]
              obtain ⟨k1, ⟨k2, m, hm, em⟩, k3⟩ := t4 i (by omega)
              exact ⟨k1, ⟨k2, m, Nat.lt_of_lt_of_le hm (Nat.pow_le_pow_right (by decide) (by omega)), em⟩, k3⟩
          · exact t5 i (by omega) hi6
          · exact xDp.mono (d2.fr rfl rfl rfl rfl rfl rfl rfl rfl rfl rfl rfl (zset_ne (by decide)))
          · exact d3.fr rfl rfl rfl rfl rfl rfl rfl
          · exact d4.fr rfl rfl rfl rfl rfl rfl rfl
          · exact (((GM4.cell (by decide) (by omega) (by omega) (by omega) (by omega)).cell (by decide) (by omega) (by omega) (by omega) (by omega)).cellq (Or.inl rfl) (by omega)).cell (by decide) (by omega) (by omega) (by omega) (by omega)
  · have h6 : t = 6 := by omega
    subst h6
    rw [if_neg (by decide), if_pos (by decide)]
    obtain ⟨r1, rm1, h1, h2, h3, h4, h5⟩ := h.fails 5
    rw [h1, h2]
    exact xLo.fail (xGk.refl.k ⟨h4, xFq.refl⟩) (xGm.refl.m ⟨h5.up rfl, xFq.refl⟩) h3
end XT
end
section
/-! ===== a road; what grows, what an inch costs ===== -/
theorem xbit (x : Int32) : x &&& 1 = 0 ∨ x &&& 1 = 1 := by
  have h : zI 0 1 (x &&& 1) := zI.and (c := 1) (d := 1) (show zI 1 1 (1 : Int32) from ⟨by decide, by decide⟩) (by decide)
  obtain ⟨h1, h2⟩ := h
  rcases (show (x &&& 1).toInt = 0 ∨ (x &&& 1).toInt = 1 by omega) with e | e
  · exact Or.inl (Int32.toInt_inj.mp e)
  · exact Or.inr (Int32.toInt_inj.mp e)
section XRD
variable {L b e t p : Nat} {r : zRr} {q : zRq} {rm : zRr} {qm : zRq}
theorem xor6 : ∀ (m : Fin 64) (j : Fin 6), nI m.val ||| ((1 : Int32) <<< (nI j.val &&& 31)) = nI (m.val ||| 2 ^ j.val) := by decide +kernel
theorem xorI {x : Int32} {j t : Nat} (h : ∃ m, m < 2 ^ t ∧ x = nI m) (hj : j < t) (ht : t ≤ 6) : ∃ m, m < 2 ^ t ∧ x ||| ((1 : Int32) <<< (nI j &&& 31)) = nI m := by
  obtain ⟨m, hm, e⟩ := h
  have h6 : 2 ^ t ≤ 2 ^ 6 := Nat.pow_le_pow_right (by decide) ht
  have e6 : (2 : Nat) ^ 6 = 64 := by decide
  refine ⟨m ||| 2 ^ j, Nat.or_lt_two_pow hm (Nat.pow_lt_pow_right (by decide) hj), ?_⟩
  rw [e]; exact xor6 ⟨m, by omega⟩ ⟨j, by omega⟩
theorem xlRoad (h : xTok L b e r q rm qm) (hD : xD t p r q rm qm) (hs : ¬ r 196 4 = 31) : xLo L b r q rm qm (xCL (Gk_readRoad r q)) (Gm_readsRoad rm qm) := by
  have hlt := h.lt hs
  obtain ⟨b1, e1, r5, q6, rm2, qm3, s1, s2, hT1, hb1, fk1, fm1⟩ := h.next
  have hD1 := hD.tok fk1 (xFm9.m fm1)
  have GK1 : xGk r q r5 q6 := xGk.refl.k fk1
  have GM1 : xGm rm qm rm2 qm3 := xGm.refl.m (xFm9.m fm1)
  unfold Gk_readRoad Gm_readsRoad Gk_readRoad_56
  simp only [zifQ, zifnQ, zletQ, xfr, xfm, xeta]
  rw [s1, s2, xcrq, xcrq]
  rcases xhere hT1 hD1 with ⟨r9, rm9, n1, n2, n3, n4, n5⟩ | ⟨j1, hj1, n1, n2, n3⟩
  · rw [n1, n2, xcvr, xcvr, if_pos rfl, if_pos rfl]
    exact xLo.fail (GK1.k ⟨n4, xFq.refl⟩) (GM1.m ⟨n5.up rfl, xFq.refl⟩) n3
  · have ht6 : t ≤ 6 := hD.1.2.2.1
    have nj1 := (xnn (j := j1) (by omega)).2.2
    rw [n1, n2, xcvr, xcvr, if_neg nj1, if_neg (show ¬ (1 : Int32) = 0 by decide)]
    have fA : zFr [136] rm2 (zset rm2 136 (fun _ => nI j1)) := zFr.refl.set rfl
    have hT2 := hT1.pre fA (by decide)
    have hD2 : xD t p r5 q6 (zset rm2 136 (fun _ => nI j1)) qm3 := hD1.tok xFk.refl ⟨fA.up rfl, xFq.refl⟩
    have GM2 : xGm rm qm (zset rm2 136 (fun _ => nI j1)) qm3 := GM1.m ⟨fA.up rfl, xFq.refl⟩
    have g1 : (zset rm2 136 (fun _ => nI j1)) 136 0 = nI j1 := rfl
    rw [g1]
    generalize zset rm2 136 (fun _ => nI j1) = rm6 at hT2 hD2 GM2 g1 ⊢
    obtain ⟨b2, e2, r13, q14, rm10, qm11, s3, s4, hT3, hb2, fk2, fm2⟩ := hT2.next
    have hD3 := hD2.tok fk2 (xFm9.m fm2)
    have GK3 := GK1.k fk2
    have GM3 := GM2.m (xFm9.m fm2)
    rw [s3, s4, xcrq, xcrq]
    rcases xhere hT3 hD3 with ⟨r9, rm9, n1, n2, n3, n4, n5⟩ | ⟨j2, hj2, n1, n2, n3⟩
    · rw [n1, n2, xcvr, xcvr, if_pos rfl, if_pos rfl]
      exact xLo.fail (GK3.k ⟨n4, xFq.refl⟩) (GM3.m ⟨n5.up rfl, xFq.refl⟩) n3
    · have nj2 := (xnn (j := j2) (by omega)).2.2
      rw [n1, n2, xcvr, xcvr, if_neg nj2, if_neg (show ¬ (1 : Int32) = 0 by decide)]
      have fB : zFr [136] rm10 (zset rm10 136 (fun _ => nI j2)) := zFr.refl.set rfl
      have hT4 := hT3.pre fB (by decide)
      have hD4 : xD t p r13 q14 (zset rm10 136 (fun _ => nI j2)) qm11 := hD3.tok xFk.refl ⟨fB.up rfl, xFq.refl⟩
      have GM4 : xGm rm qm (zset rm10 136 (fun _ => nI j2)) qm11 := GM3.m ⟨fB.up rfl, xFq.refl⟩
      have g2 : (zset rm10 136 (fun _ => nI j2)) 136 0 = nI j2 := rfl
      rw [g2]
      generalize zset rm10 136 (fun _ => nI j2) = rm14 at hT4 hD4 GM4 g2 ⊢
      have bad : xLo L b r q rm qm (xCL (0, (Gk_wrong 3 r13 q14).2, q14)) (0, (Gm_fails 3 rm14 qm11).2, qm11) := by
        obtain ⟨r1, rm1, h1, h2, h3, h4, h5⟩ := hT4.fails 3
        rw [h1, h2]
        exact xLo.fail (GK3.k ⟨h4, xFq.refl⟩) (GM4.m ⟨h5.up rfl, xFq.refl⟩) h3
      have e61 : (6 : Int32) + nI j1 = nI (6 + j1) := nI_add 6 j1
      by_cases hjj : j1 = j2
      · have c1 : nI j1 = nI j2 := by rw [hjj]
        rw [if_pos c1, if_pos c1.symm]
        exact bad
      · have c1 : ¬ nI j1 = nI j2 := fun h9 => hjj ((nI_eq (by omega) (by omega)).mp h9)
        have c1' : ¬ nI j2 = nI j1 := fun h9 => c1 h9.symm
        have hro : r13 185 j1 = rm14 5 (6 + j1) := (hD4.1.2.2.2.1 j1 hj1).2.1.1
        rw [if_neg c1, if_neg c1', e61, xzn (show j1 < 2 ^ 31 by omega), xzn (show 6 + j1 < 2 ^ 31 by omega), ← hro]
        unfold Gk_has
        simp only [zifQ, zletQ]
        rcases xbit (r13 185 j1 >>> (nI j2 &&& 31)) with hb | hb
        · rw [hb]
          simp only [x00, if_true]
          rw [if_neg (show ¬ (0 : Int32) = 1 by decide)]
          have cong : ∀ (R : zRr), R 5 = upd (rm14 5) (6 + j1) (r13 185 j1 ||| 1 <<< (nI j2 &&& 31)) → R 136 0 = nI j2 → (6 : Int32) + R 136 0 = nI (6 + j2) := fun R _ h2 => by rw [h2]; exact nI_add 6 j2
          have g3 : (zset rm14 5 (upd (rm14 5) (6 + j1) (r13 185 j1 ||| 1 <<< (nI j2 &&& 31)))) 136 0 = nI j2 := g2
          rw [cong _ zset_eq g3, xzn (show 6 + j2 < 2 ^ 31 by omega), xzn (show j2 < 2 ^ 31 by omega), zset_eq]
          have fC : zFr [5] rm14 (zset (zset rm14 5 (upd (rm14 5) (6 + j1) (r13 185 j1 ||| 1 <<< (nI j2 &&& 31)))) 5 (upd (upd (rm14 5) (6 + j1) (r13 185 j1 ||| 1 <<< (nI j2 &&& 31))) (6 + j2) (upd (rm14 5) (6 + j1) (r13 185 j1 ||| 1 <<< (nI j2 &&& 31)) (6 + j2) ||| 1 <<< (nI j1 &&& 31)))) := (zFr.refl.set rfl).set rfl
          have hT5 := hT4.row (r1 := r13) (q1 := q14) (qm1 := qm11) rfl rfl rfl (fC 0 rfl) (fC 103 rfl) (fC 104 rfl) (fC 105 rfl) (fC 106 rfl) (fC 108 rfl) rfl
          have GM5 := (GM4.cell (k := 5) (j := 6 + j1) (v := r13 185 j1 ||| 1 <<< (nI j2 &&& 31)) (by decide) (by omega) (by omega) (by omega) (by omega)).cell (k := 5) (j := 6 + j2) (v := upd (rm14 5) (6 + j1) (r13 185 j1 ||| 1 <<< (nI j2 &&& 31)) (6 + j2) ||| 1 <<< (nI j1 &&& 31)) (by decide) (by omega) (by omega) (by omega) (by omega)
          rw [zset_eq] at GM5
          have m5 : (zset (zset rm14 5 (upd (rm14 5) (6 + j1) (r13 185 j1 ||| 1 <<< (nI j2 &&& 31)))) 5 (upd (upd (rm14 5) (6 + j1) (r13 185 j1 ||| 1 <<< (nI j2 &&& 31))) (6 + j2) (upd (rm14 5) (6 + j1) (r13 185 j1 ||| 1 <<< (nI j2 &&& 31)) (6 + j2) ||| 1 <<< (nI j1 &&& 31)))) 5 = upd (upd (rm14 5) (6 + j1) (r13 185 j1 ||| 1 <<< (nI j2 &&& 31))) (6 + j2) (upd (rm14 5) (6 + j1) (r13 185 j1 ||| 1 <<< (nI j2 &&& 31)) (6 + j2) ||| 1 <<< (nI j1 &&& 31)) := zset_eq
          generalize zset (zset rm14 5 (upd (rm14 5) (6 + j1) (r13 185 j1 ||| 1 <<< (nI j2 &&& 31)))) 5 (upd (upd (rm14 5) (6 + j1) (r13 185 j1 ||| 1 <<< (nI j2 &&& 31))) (6 + j2) (upd (rm14 5) (6 + j1) (r13 185 j1 ||| 1 <<< (nI j2 &&& 31)) (6 + j2) ||| 1 <<< (nI j1 &&& 31))) = rmr at fC hT5 GM5 m5 ⊢
          obtain ⟨b3, e3, r27, q28, rm38, qm39, s5, s6, hT6, hb3, fk3, fm3⟩ := hT5.next
          rw [s5, s6, xcrq, xcrq]
          have GK6 := GK3.k fk3
          have GM6 := GM5.m (xFm9.m fm3)
          have k185 : r27 185 = r13 185 := fk3.1 185 rfl
          rw [k185, zset_eq]
          obtain ⟨d1, d2, d3, d4⟩ := hD4
          obtain ⟨t1, t2, t3, t4, t5⟩ := d1
          refine xLo.close (b1 := b3) (e1 := e3) (t := t) (p := p) (hT6.row rfl rfl rfl rfl rfl rfl rfl rfl rfl rfl) (by omega) ⟨⟨?_, ?_, ht6, fun i hi => ?_, fun i hi hi6 => ?_⟩, ?_, ?_, ?_⟩ ((GK6.set (by decide)).set (by decide)) GM6
          · show r27 183 9 = _
            rw [fk3.1 183 rfl]; exact t1
          · rw [fm3.1 1 rfl, fC 1 rfl]; exact t2
          · have m5b : rm38 5 = _ := (fm3.1 5 rfl).trans m5
            rw [fm3.1 4 rfl, fC 4 rfl, m5b, fm3.2 2 rfl]
            show r27 184 i = _ ∧ (upd (upd (r13 185) j1 (r13 185 j1 ||| 1 <<< (nI j2 &&& 31))) j2 (upd (r13 185) j1 (r13 185 j1 ||| 1 <<< (nI j2 &&& 31)) j2 ||| 1 <<< (nI j1 &&& 31)) i = _ ∧ ∃ m, m < 2 ^ t ∧ upd (upd (r13 185) j1 (r13 185 j1 ||| 1 <<< (nI j2 &&& 31))) j2 (upd (r13 185) j1 (r13 185 j1 ||| 1 <<< (nI j2 &&& 31)) j2 ||| 1 <<< (nI j1 &&& 31)) i = nI m) ∧ xN (q28 186 i) _
            rw [fk3.1 184 rfl, fk3.2 186 rfl]
            obtain ⟨u1, ⟨u2, u4⟩, u3⟩ := t4 i hi
            refine ⟨u1, ⟨?_, ?_⟩, u3⟩
            rotate_left
            · by_cases ei : i = j2
              · subst ei
                rw [pk_us, pk_un (by omega)]
                exact xorI u4 (by omega) ht6
              · rw [pk_un ei]
                by_cases ej : i = j1
                · subst ej; rw [pk_us]; exact xorI u4 (by omega) ht6
                · rw [pk_un ej]; exact u4
            have w2 : r13 185 j2 = rm14 5 (6 + j2) := (t4 j2 hj2).2.1.1
            by_cases ei : i = j2
            · subst ei
              rw [pk_us, pk_us, pk_un (by omega), pk_un (by omega), w2]
            · rw [pk_un ei, pk_un (show 6 + i ≠ 6 + j2 by omega)]
              by_cases ej : i = j1
              · subst ej; rw [pk_us, pk_us]
              · rw [pk_un ej, pk_un (show 6 + i ≠ 6 + j1 by omega)]; exact u2
          · show upd (upd (r13 185) j1 (r13 185 j1 ||| 1 <<< (nI j2 &&& 31))) j2 (upd (r13 185) j1 (r13 185 j1 ||| 1 <<< (nI j2 &&& 31)) j2 ||| 1 <<< (nI j1 &&& 31)) i = 0
            rw [pk_un (by omega), pk_un (by omega)]
            exact t5 i hi hi6
          · refine d2.fr ?_ (fk3.1 187 rfl) (fk3.1 188 rfl) (fk3.1 189 rfl) (fk3.1 190 rfl) (fk3.2 191 rfl) ?_ ((fm3.1 6 rfl).trans (fC 6 rfl)) ((fm3.1 7 rfl).trans (fC 7 rfl)) ((fm3.1 8 rfl).trans (fC 8 rfl)) ((fm3.1 9 rfl).trans (fC 9 rfl)) (fm3.2 3 rfl)
            · show r27 183 10 = _; rw [fk3.1 183 rfl]
            · rw [fm3.1 1 rfl, fC 1 rfl]
          · refine d3.fr ?_ ?_ ?_ ?_ ?_ ?_ ((fm3.1 123 rfl).trans (fC 123 rfl))
            · show r27 183 11 = _; rw [fk3.1 183 rfl]
            · show r27 183 12 = _; rw [fk3.1 183 rfl]
            · show r27 198 0 = _; rw [fk3.1 198 rfl]
            · show r27 198 1 = _; rw [fk3.1 198 rfl]
            · rw [fm3.1 1 rfl, fC 1 rfl]
            · rw [fm3.1 1 rfl, fC 1 rfl]
          · refine d4.fr ?_ (fk3.1 192 rfl) (fk3.1 193 rfl) ((fm3.1 10 rfl).trans (fC 10 rfl)) ((fm3.1 11 rfl).trans (fC 11 rfl)) ((fm3.1 12 rfl).trans (fC 12 rfl)) ((fm3.1 122 rfl).trans (fC 122 rfl))
            show r27 198 2 = _; rw [fk3.1 198 rfl]
        · rw [hb, if_neg (show ¬ (1 : Int32) = 0 by decide), if_neg (show ¬ (1 : Int32) = 0 by decide), if_pos rfl]
          exact bad
end XRD
end
section
/-! ===== grows, inch ===== -/
section XON
variable {L b e t p : Nat} {r : zRr} {q : zRq} {rm : zRr} {qm : zRq}
theorem xlGrows (h : xTok L b e r q rm qm) (hD : xD t p r q rm qm) (hs : ¬ r 196 4 = 31) : xLo L b r q rm qm (xCL (Gk_readGrows r q)) (Gm_readsOne2 0 5 rm qm) := by
  have hlt := h.lt hs
  have hD0 := hD
  obtain ⟨hDt, hDp, ⟨f1, f2, g, i, hg, hi, f3, f4, f5⟩, hDl⟩ := hD
  have hbit : (nI (4 * g + 8 * i) >>> (2 &&& 31)) &&& 1 = nI g := by
    rcases (show (g = 0 ∧ i = 0) ∨ (g = 0 ∧ i = 1) ∨ (g = 1 ∧ i = 0) ∨ (g = 1 ∧ i = 1) by omega) with ⟨rfl, rfl⟩ | ⟨rfl, rfl⟩ | ⟨rfl, rfl⟩ | ⟨rfl, rfl⟩ <;> decide
  unfold Gk_readGrows Gm_readsOne2
  simp only [zifQ, zifnQ, zletQ, xfr, xfm, xeta]
  rw [f3, f5, hbit]
  rcases (show g = 0 ∨ g = 1 by omega) with rfl | rfl
  · rw [if_pos (show nI 0 = (0 : Int32) from rfl), if_neg (show ¬ nI 0 = (1 : Int32) by decide)]
    have hor : nI (4 * 0 + 8 * i) ||| 4 = nI (4 * 1 + 8 * i) := by
      rcases (show i = 0 ∨ i = 1 by omega) with rfl | rfl <;> decide
    rw [hor]
    have fA : zFr [198] r (zset r 198 (upd (r 198) 0 1)) := zFr.refl.set rfl
    have fB : zFr [123] rm (zset rm 123 (fun _ => nI (4 * 1 + 8 * i))) := zFr.refl.set rfl
    have hT1 := h.row (r1 := zset r 198 (upd (r 198) 0 1)) (q1 := q) (rm1 := zset rm 123 (fun _ => nI (4 * 1 + 8 * i))) (qm1 := qm) rfl rfl rfl rfl rfl rfl rfl rfl rfl rfl
    have hD1 : xD t p (zset r 198 (upd (r 198) 0 1)) q (zset rm 123 (fun _ => nI (4 * 1 + 8 * i))) qm := ⟨hDt.fr rfl rfl rfl rfl rfl rfl rfl rfl, hDp.fr rfl rfl rfl rfl rfl rfl rfl rfl rfl rfl rfl rfl, ⟨f1, f2, 1, i, by omega, hi, rfl, f4, rfl⟩, hDl.fr rfl rfl rfl rfl rfl rfl rfl⟩
    have GK1 : xGk r q (zset r 198 (upd (r 198) 0 1)) q := xGk.refl.set (by decide)
    have GM1 : xGm rm qm (zset rm 123 (fun _ => nI (4 * 1 + 8 * i))) qm := xGm.refl.fld (by decide) (by decide)
    generalize zset r 198 (upd (r 198) 0 1) = ra at hT1 hD1 GK1 ⊢
    generalize zset rm 123 (fun _ => nI (4 * 1 + 8 * i)) = rma at hT1 hD1 GM1 ⊢
    obtain ⟨b1, e1, r6, q7, rm10, qm11, s1, s2, hT2, hb1, fk1, fm1⟩ := hT1.next
    have hD2 := hD1.tok fk1 (xFm9.m fm1)
    have GK2 := GK1.k fk1
    have GM2 := GM1.m (xFm9.m fm1)
    rw [s1, s2, xcrq, xcrq]
    have k2 := xnum hT2 (lo := 0) (hi := 5) (by decide)
    generalize Gk_takeNumber 0 5 r6 q7 = o at k2 ⊢
    generalize Gm_needsNumber 0 5 rm10 qm11 = om at k2 ⊢
    obtain ⟨v, r24, q25⟩ := o
    obtain ⟨w, rm17, qm18⟩ := om
    obtain ⟨fk4, fm4, k2⟩ := k2
    have fk4 : xFk r6 q7 r24 q25 := fk4
    have fm4 : xFm9 rm10 qm11 rm17 qm18 := fm4
    have GK4 := GK2.k fk4
    have GM4 := GM2.m fm4
    rw [xcvrq (r := r24), xcvrq (r := rm17)]
    rcases k2 with ⟨c1, c2, c3⟩ | ⟨c1, c2, c3, b4, e4', c4, hT5⟩
    · have c1 : v = -1 := c1
      have c2 : w = 0 := c2
      rw [if_pos (show (zset r24 183 (upd (r24 183) 11 v)) 183 11 = -1 by rw [zset_eq, pk_us]; exact c1), if_pos c2]
      exact xLo.fail (GK4.set (by decide)) GM4 c3
    · have c1 : w = 1 := c1
      have c2 : v = rm17 136 0 := c2
      have c3 : zI 0 5 v := c3
      rw [if_neg (show ¬ (zset r24 183 (upd (r24 183) 11 v)) 183 11 = -1 by rw [zset_eq, pk_us]; intro h9; rw [h9] at c3; exact absurd c3.1 (by decide)), if_neg (show ¬ w = 0 by rw [c1]; decide), ← c2]
      obtain ⟨d1, d2, ⟨u1, u2, u3⟩, d4⟩ := hD2.tok fk4 fm4
      exact xLo.close (b1 := b4) (e1 := e4') (t := t) (p := p) (hT5.row rfl rfl rfl rfl rfl rfl rfl rfl rfl rfl) (by omega) ⟨d1.fr rfl rfl rfl rfl rfl rfl rfl rfl, d2.fr rfl rfl rfl rfl rfl rfl rfl rfl rfl rfl rfl rfl, ⟨(show upd (r24 183) 11 v 11 = upd (rm17 1) 6 v 6 by rw [pk_us, pk_us]), u2, u3⟩, d4.fr rfl rfl rfl rfl rfl rfl rfl⟩ (GK4.set (by decide)) (GM4.cell (by decide) (by omega) (by omega) (by omega) (by omega))
  · rw [if_neg (show ¬ nI 1 = (0 : Int32) by decide), if_pos (show nI 1 = (1 : Int32) from rfl)]
    obtain ⟨r1, rm1, h1, h2, h3, h4, h5⟩ := h.fails 3
    rw [h1, h2]
    exact xLo.fail (xGk.refl.k ⟨h4, xFq.refl⟩) (xGm.refl.m ⟨h5.up rfl, xFq.refl⟩) h3
theorem xlInch (h : xTok L b e r q rm qm) (hD : xD t p r q rm qm) (hs : ¬ r 196 4 = 31) : xLo L b r q rm qm (xCL (Gk_readInch r q)) (Gm_readsOne3 1 9 rm qm) := by
  have hlt := h.lt hs
  have hD0 := hD
  obtain ⟨hDt, hDp, ⟨f1, f2, g, i, hg, hi, f3, f4, f5⟩, hDl⟩ := hD
  have hbit : (nI (4 * g + 8 * i) >>> (3 &&& 31)) &&& 1 = nI i := by
    rcases (show (g = 0 ∧ i = 0) ∨ (g = 0 ∧ i = 1) ∨ (g = 1 ∧ i = 0) ∨ (g = 1 ∧ i = 1) by omega) with ⟨rfl, rfl⟩ | ⟨rfl, rfl⟩ | ⟨rfl, rfl⟩ | ⟨rfl, rfl⟩ <;> decide
  unfold Gk_readInch Gm_readsOne3
  simp only [zifQ, zifnQ, zletQ, xfr, xfm, xeta]
  rw [f4, f5, hbit]
  rcases (show i = 0 ∨ i = 1 by omega) with rfl | rfl
  · rw [if_pos (show nI 0 = (0 : Int32) from rfl), if_neg (show ¬ nI 0 = (1 : Int32) by decide)]
    have hor : nI (4 * g + 8 * 0) ||| 8 = nI (4 * g + 8 * 1) := by
      rcases (show g = 0 ∨ g = 1 by omega) with rfl | rfl <;> decide
    rw [hor]
    have fA : zFr [198] r (zset r 198 (upd (r 198) 1 1)) := zFr.refl.set rfl
    have fB : zFr [123] rm (zset rm 123 (fun _ => nI (4 * g + 8 * 1))) := zFr.refl.set rfl
    have hT1 := h.row (r1 := zset r 198 (upd (r 198) 1 1)) (q1 := q) (rm1 := zset rm 123 (fun _ => nI (4 * g + 8 * 1))) (qm1 := qm) rfl rfl rfl rfl rfl rfl rfl rfl rfl rfl
    have hD1 : xD t p (zset r 198 (upd (r 198) 1 1)) q (zset rm 123 (fun _ => nI (4 * g + 8 * 1))) qm := ⟨hDt.fr rfl rfl rfl rfl rfl rfl rfl rfl, hDp.fr rfl rfl rfl rfl rfl rfl rfl rfl rfl rfl rfl rfl, ⟨f1, f2, g, 1, hg, by omega, f3, rfl, rfl⟩, hDl.fr rfl rfl rfl rfl rfl rfl rfl⟩
    have GK1 : xGk r q (zset r 198 (upd (r 198) 1 1)) q := xGk.refl.set (by decide)
    have GM1 : xGm rm qm (zset rm 123 (fun _ => nI (4 * g + 8 * 1))) qm := xGm.refl.fld (by decide) (by decide)
    generalize zset r 198 (upd (r 198) 1 1) = ra at hT1 hD1 GK1 ⊢
    generalize zset rm 123 (fun _ => nI (4 * g + 8 * 1)) = rma at hT1 hD1 GM1 ⊢
    obtain ⟨b1, e1, r6, q7, rm10, qm11, s1, s2, hT2, hb1, fk1, fm1⟩ := hT1.next
    have hD2 := hD1.tok fk1 (xFm9.m fm1)
    have GK2 := GK1.k fk1
    have GM2 := GM1.m (xFm9.m fm1)
    rw [s1, s2, xcrq, xcrq]
    have k2 := xnum hT2 (lo := 1) (hi := 9) (by decide)
    generalize Gk_takeNumber 1 9 r6 q7 = o at k2 ⊢
    generalize Gm_needsNumber 1 9 rm10 qm11 = om at k2 ⊢
    obtain ⟨v, r24, q25⟩ := o
    obtain ⟨w, rm17, qm18⟩ := om
    obtain ⟨fk4, fm4, k2⟩ := k2
    have fk4 : xFk r6 q7 r24 q25 := fk4
    have fm4 : xFm9 rm10 qm11 rm17 qm18 := fm4
    have GK4 := GK2.k fk4
    have GM4 := GM2.m fm4
    rw [xcvrq (r := r24), xcvrq (r := rm17)]
    rcases k2 with ⟨c1, c2, c3⟩ | ⟨c1, c2, c3, b4, e4', c4, hT5⟩
    · have c1 : v = -1 := c1
      have c2 : w = 0 := c2
      rw [if_pos (show (zset r24 183 (upd (r24 183) 12 v)) 183 12 = -1 by rw [zset_eq, pk_us]; exact c1), if_pos c2]
      exact xLo.fail (GK4.set (by decide)) GM4 c3
    · have c1 : w = 1 := c1
      have c2 : v = rm17 136 0 := c2
      have c3 : zI 1 9 v := c3
      rw [if_neg (show ¬ (zset r24 183 (upd (r24 183) 12 v)) 183 12 = -1 by rw [zset_eq, pk_us]; intro h9; rw [h9] at c3; exact absurd c3.1 (by decide)), if_neg (show ¬ w = 0 by rw [c1]; decide), ← c2]
      obtain ⟨d1, d2, ⟨u1, u2, u3⟩, d4⟩ := hD2.tok fk4 fm4
      exact xLo.close (b1 := b4) (e1 := e4') (t := t) (p := p) (hT5.row rfl rfl rfl rfl rfl rfl rfl rfl rfl rfl) (by omega) ⟨d1.fr rfl rfl rfl rfl rfl rfl rfl rfl, d2.fr rfl rfl rfl rfl rfl rfl rfl rfl rfl rfl rfl rfl, ⟨u1, (show upd (r24 183) 12 v 12 = upd (rm17 1) 7 v 7 by rw [pk_us, pk_us]), u3⟩, d4.fr rfl rfl rfl rfl rfl rfl rfl⟩ (GK4.set (by decide)) (GM4.cell (by decide) (by omega) (by omega) (by omega) (by omega))
  · rw [if_neg (show ¬ nI 1 = (0 : Int32) by decide), if_pos (show nI 1 = (1 : Int32) from rfl)]
    obtain ⟨r1, rm1, h1, h2, h3, h4, h5⟩ := h.fails 3
    rw [h1, h2]
    exact xLo.fail (xGk.refl.k ⟨h4, xFq.refl⟩) (xGm.refl.m ⟨h5.up rfl, xFq.refl⟩) h3
end XON
end
section
/-! ===== the line of reads ===== -/
theorem xRel_ne : ∀ (n lev d : Nat) (C F : List Int32), xRel n lev d C F → 1 ≤ F.length
  | 0, _, _, _, _, h => absurd h (fun h => h)
  | n + 1, lev, d, C, F, h => by
    rcases h with ⟨_, v, _, _, rfl⟩ | ⟨_, k, _, _, _, rfl⟩ | ⟨_, d', C', F', _, _, _, rfl⟩ | ⟨_, d', F', _, _, rfl⟩ | ⟨l, _, h2⟩ | ⟨k, C1, F1, C2, F2, l1, l2, _, _, _, _, rfl⟩
    · exact Nat.le_refl _
    · exact Nat.le_refl _
    · simp only [List.length_cons]; omega
    · simp only [List.length_cons]; omega
    · exact xRel_ne n l d C F h2
    · simp only [List.length_append, List.length_cons]; omega
noncomputable def xRL (r : zRr) (q : zRq) : Int32 × zRr × zRq := zc_vrq (Gk_beginReads r q) (fun v17 r18 q19 => zif (v17 = 0) (0, r18, q19) (zc_vrq (Gk_readWhole0 r18 q19) (fun v24 r25 q26 => zif (v24 = 0) (0, r25, q26) (1, r25, q26))))
section XRE
variable {L b e t p : Nat} {r : zRr} {q : zRq} {rm : zRr} {qm : zRq}
theorem xlReads (h : xTok L b e r q rm qm) (hD : xD t p r q rm qm) (hs : ¬ r 196 4 = 31) : xLo L b r q rm qm (xCL (xRL r q)) (Gm_readsReads rm qm) := by
  have hlt := h.lt hs
  have hL := h.P.hL
  obtain ⟨hDt, hDp, hDn, m10, hl⟩ := hD
  unfold xRL Gk_beginReads Gm_readsReads
  simp only [zifQ, zifnQ, zletQ, xfr, xfm, xeta]
  rcases hl with ⟨f2, m11, hC⟩ | ⟨f2, C, F, hE, hF1, hF2, hC2, m11, hC⟩
  · rw [f2, m10, m11]
    simp only [x00, if_true]
    rw [if_pos (show (1000 : Int32) ≤ 1000 by decide)]
    have hT1 := h.row (r1 := zset r 198 (upd (r 198) 2 1)) (q1 := q) (rm1 := rm) (qm1 := qm) rfl rfl rfl rfl rfl rfl rfl rfl rfl rfl
    have GK1 : xGk r q (zset r 198 (upd (r 198) 2 1)) q := xGk.refl.set (by decide)
    obtain ⟨b1, e1, r6, q7, rm5, qm6, s1, s2, hT2, hb1, fk1, fm1⟩ := hT1.next
    rw [s1, s2, xcrq, xcrq, xcvrq (r := zset r6 192 (upd (r6 192) 2 0)), if_neg (show ¬ (1 : Int32) = 0 by decide)]
    have GK2 := (GK1.k fk1).set (k := 192) (g := upd (r6 192) 2 0) (by decide)
    have GM2 : xGm rm qm rm5 qm6 := xGm.refl.m (xFm9.m fm1)
    have e122 : rm5 122 0 = nI 1000 := by rw [fm1.1 122 rfl]; exact hC.f1
    unfold Gm_reads
    simp only [zletQ]
    rw [e122]
    have fB : zFr [10, 14] rm5 (zset (zset rm5 10 (upd (rm5 10) 1 (nI 1000))) 14 (upd (zset rm5 10 (upd (rm5 10) 1 (nI 1000)) 14) 0 0)) := (zFr.refl.set rfl).set rfl
    have GM3 : xGm rm qm (zset (zset rm5 10 (upd (rm5 10) 1 (nI 1000))) 14 (upd (zset rm5 10 (upd (rm5 10) 1 (nI 1000)) 14) 0 0)) qm6 := (GM2.cell (by decide) (by omega) (by omega) (by omega) (by omega)).fld (by decide) (by decide)
    have x10b : (zset (zset rm5 10 (upd (rm5 10) 1 (nI 1000))) 14 (upd (zset rm5 10 (upd (rm5 10) 1 (nI 1000)) 14) 0 0)) 10 1 = 1000 := by
      rw [zset_ne (by decide), zset_eq, pk_us]; rfl
    have x14 : (zset (zset rm5 10 (upd (rm5 10) 1 (nI 1000))) 14 (upd (zset rm5 10 (upd (rm5 10) 1 (nI 1000)) 14) 0 0)) 14 0 = 0 := by
      rw [zset_eq, pk_us]
    have hT3 := hT2.row (r1 := zset r6 192 (upd (r6 192) 2 0)) (q1 := q7) (rm1 := zset (zset rm5 10 (upd (rm5 10) 1 (nI 1000))) 14 (upd (zset rm5 10 (upd (rm5 10) 1 (nI 1000)) 14) 0 0)) (qm1 := qm6) rfl rfl rfl (fB 0 rfl) (fB 103 rfl) (fB 104 rfl) (fB 105 rfl) (fB 106 rfl) (fB 108 rfl) rfl
    have hC3 : xCod [] [] (zset r6 192 (upd (r6 192) 2 0)) (zset (zset rm5 10 (upd (rm5 10) 1 (nI 1000))) 14 (upd (zset rm5 10 (upd (rm5 10) 1 (nI 1000)) 14) 0 0)) := ⟨rfl, rfl, by rw [fB 122 rfl]; exact e122, rfl⟩
    have hDt3 := hDt.fr (r1 := zset r6 192 (upd (r6 192) 2 0)) (q1 := q7) (rm1 := zset (zset rm5 10 (upd (rm5 10) 1 (nI 1000))) 14 (upd (zset rm5 10 (upd (rm5 10) 1 (nI 1000)) 14) 0 0)) (qm1 := qm6) (by show r6 183 9 = _; rw [fk1.1 183 rfl]; rfl) (fk1.1 184 rfl) (fk1.1 185 rfl) (fk1.2 186 rfl) (by rw [fB 1 rfl, fm1.1 1 rfl]) ((fB 4 rfl).trans (fm1.1 4 rfl)) ((fB 5 rfl).trans (fm1.1 5 rfl)) (fm1.2 2 rfl)
    have hDp3 := hDp.fr (r1 := zset r6 192 (upd (r6 192) 2 0)) (q1 := q7) (rm1 := zset (zset rm5 10 (upd (rm5 10) 1 (nI 1000))) 14 (upd (zset rm5 10 (upd (rm5 10) 1 (nI 1000)) 14) 0 0)) (qm1 := qm6) (by show r6 183 10 = _; rw [fk1.1 183 rfl]; rfl) (fk1.1 187 rfl) (fk1.1 188 rfl) (fk1.1 189 rfl) (fk1.1 190 rfl) (fk1.2 191 rfl) (by rw [fB 1 rfl, fm1.1 1 rfl]) ((fB 6 rfl).trans (fm1.1 6 rfl)) ((fB 7 rfl).trans (fm1.1 7 rfl)) ((fB 8 rfl).trans (fm1.1 8 rfl)) ((fB 9 rfl).trans (fm1.1 9 rfl)) (fm1.2 3 rfl)
    have hDn3 := hDn.fr (r1 := zset r6 192 (upd (r6 192) 2 0)) (rm1 := zset (zset rm5 10 (upd (rm5 10) 1 (nI 1000))) 14 (upd (zset rm5 10 (upd (rm5 10) 1 (nI 1000)) 14) 0 0)) (by show r6 183 11 = _; rw [fk1.1 183 rfl]; rfl) (by show r6 183 12 = _; rw [fk1.1 183 rfl]; rfl) (by show r6 198 0 = _; rw [fk1.1 198 rfl]; rfl) (by show r6 198 1 = _; rw [fk1.1 198 rfl]; rfl) (by rw [fB 1 rfl, fm1.1 1 rfl]) (by rw [fB 1 rfl, fm1.1 1 rfl]) ((fB 123 rfl).trans (fm1.1 123 rfl))
    have k198 : (zset r6 192 (upd (r6 192) 2 0)) 198 2 = 1 := by rw [zset_ne (by decide), fk1.1 198 rfl, zset_eq, pk_us]
    generalize zset (zset rm5 10 (upd (rm5 10) 1 (nI 1000))) 14 (upd (zset rm5 10 (upd (rm5 10) 1 (nI 1000)) 14) 0 0) = rmx at GM3 x10b x14 hT3 hC3 hDt3 hDp3 hDn3 ⊢
    generalize zset r6 192 (upd (r6 192) 2 0) = rx at GK2 hT3 hC3 hDt3 hDp3 hDn3 k198 ⊢
    have k := xW0 L b1 e1 1002 rx q7 rmx qm6 [] [] hT3 hC3 (Nat.zero_le _) (Nat.zero_le _) (by omega) rfl (fun _ => x14)
    rw [nI_0] at k
    generalize Gk_readWhole0 rx q7 = o at k ⊢
    obtain ⟨v, r25, q26⟩ := o
    obtain ⟨hfe, k⟩ := k
    have hfe : xFe rx q7 r25 q26 := hfe
    have GK4 := GK2.e hfe
    rw [xcvrq (r := r25)]
    rcases k with ⟨a1, a2, a3, a4⟩ | ⟨a0, b', e', n', rm1, qm1, CE, FE, a1, a2, a3, a4, a5, a6, a7, a8, a9, a10, a11⟩
    · have a1 : v = 0 := a1
      rw [if_pos a1]
      generalize Gm_reads_11 1002 0 1 rmx qm6 = om at a2 a3 a4 ⊢
      obtain ⟨w, rm9, qm9⟩ := om
      have a2 : w = 0 := a2
      rw [xcvrq (r := rm9), if_pos a2]
      exact xLo.fail GK4 (GM3.l a4) a3
    · have a0 : v = 1 := a0
      have a4 : xTok L b' e' r25 q26 rm1 qm1 := a4
      have a8 : xCod CE FE r25 rm1 := a8
      rw [if_neg (show ¬ v = 0 by rw [a0]; decide), a1]
      have hp' := a4.P.hp; have hb' := a4.hb
      have hn' : 1001 < n' + b' := a3
      obtain ⟨n0, rfl⟩ : ∃ n0, n' = n0 + 1 := ⟨n' - 1, by omega⟩
      have GM4 := GM3.l a5
      rw [xCL1]
      by_cases h28 : r25 196 4 = nI 28
      · have h28' : r25 196 4 = 28 := h28
        rw [nI_0, xhStop a4 h28]
        obtain ⟨b2, e2, r29, q30, rm29, qm30, t1, t2, hT5, hb2, fk2, fm2⟩ := a4.next
        have ht : Gk_take 28 r25 q26 = (1, r29, q30) := by
          unfold Gk_take
          simp only [zifQ, zletQ]
          rw [if_pos h28']
          exact xrw t1
        rw [ht, t2, xcrq, xcvrq (r := r29), xcvrq (r := rm29), if_neg (show ¬ (1 : Int32) = 0 by decide), zifnQ, if_neg (show ¬ (1 : Int32) = 0 by decide)]
        have hlt2 : b' < e' := a4.lt (by rw [h28]; decide)
        have hC5 : xCod CE FE r29 rm29 := a8.row (fk2.1 192 rfl) (fk2.1 193 rfl) (fm2.1 122 rfl) (fm2.1 12 rfl)
        have l1 : CE.length + b1 ≤ b' + 0 := a9
        have l2 : FE.length + b1 ≤ b' + 0 := a10
        obtain ⟨n9, a7'⟩ := a7
        have hne := xRel_ne _ _ _ _ _ a7'
        have kk : ∀ a, [192, 193, 196].contains a = false → r29 a = rx a := fun a ha => (fk2.1 a (by
          cases e9 : [196].contains a with
          | false => rfl
          | true => have := List.contains_iff_mem.mp e9; simp at this; subst this; exact absurd ha (by decide))).trans (hfe.1 a ha)
        have mm : ∀ a, [12, 13, 14, 104, 105, 106, 108, 109, 122].contains a = false → rm29 a = rmx a := fun a ha => (fm2.1 a (by
          cases e9 : [104, 105, 106, 108].contains a with
          | false => rfl
          | true =>
            have h9 := List.contains_iff_mem.mp e9
            have : a ∈ [12, 13, 14, 104, 105, 106, 108, 109, 122] := by
              simp only [List.mem_cons, List.not_mem_nil, or_false] at h9 ⊢
              omega
            rw [List.contains_iff_mem.mpr this] at ha; cases ha)).trans (a5.1 a ha)
        have qk : ∀ a, [196].contains a = false → q30 a = q7 a := fun a ha => (fk2.2 a ha).trans (hfe.2 a ha)
        have qmm : ∀ a, [107].contains a = false → qm30 a = qm6 a := fun a ha => (fm2.2 a ha).trans (a5.2.1 a ha)
        refine ⟨GK4.k fk2, (GM4.m (xFm9.m fm2)).cell (by decide) (by omega) (by omega) (by omega) (by omega), Or.inr ⟨rfl, rfl, b2, e2, t, p, by omega, hT5.row rfl rfl rfl rfl rfl rfl rfl rfl rfl rfl, ?_, ?_, ?_, ?_⟩⟩
        · exact hDt3.fr (by show r29 183 9 = _; rw [kk 183 rfl]) (kk 184 rfl) (kk 185 rfl) (qk 186 rfl) (by show rm29 1 4 = _; rw [mm 1 rfl]) (mm 4 rfl) (mm 5 rfl) (qmm 2 rfl)
        · exact hDp3.fr (by show r29 183 10 = _; rw [kk 183 rfl]) (kk 187 rfl) (kk 188 rfl) (kk 189 rfl) (kk 190 rfl) (qk 191 rfl) (by show rm29 1 5 = _; rw [mm 1 rfl]) (mm 6 rfl) (mm 7 rfl) (mm 8 rfl) (mm 9 rfl) (qmm 3 rfl)
        · exact hDn3.fr (by show r29 183 11 = _; rw [kk 183 rfl]) (by show r29 183 12 = _; rw [kk 183 rfl]) (by show r29 198 0 = _; rw [kk 198 rfl]) (by show r29 198 1 = _; rw [kk 198 rfl]) (by show rm29 1 6 = _; rw [mm 1 rfl]) (by show rm29 1 7 = _; rw [mm 1 rfl]) (mm 123 rfl)
        · refine ⟨?_, Or.inr ⟨?_, CE, FE, ⟨n9, a7'⟩, hne, by omega, by omega, ?_, hC5⟩⟩
          · show rm29 10 1 = _
            rw [mm 10 rfl]; exact x10b
          · show r29 198 2 = 1
            rw [kk 198 rfl]; exact k198
          · show upd (rm29 11) 1 (rm29 122 0) 1 = _
            rw [pk_us]; exact hC5.f1
      · have h28' : ¬ r25 196 4 = 28 := h28
        obtain ⟨g1, g2, g3, g4⟩ := a11
        have hbad := xhBad (n := n0) a4 (d := 0) (by omega) (g2 (by omega)).1 (g2 (by omega)).2 (g1 (by omega)) (g3 (by omega)) (g4 (by omega)).1 (g4 (by omega)).2 (fun _ => rfl) (fun h9 => absurd h9 h28)
        have ht : Gk_take 28 r25 q26 = (0, (Gk_wrong 1 r25 q26).2, q26) := by
          unfold Gk_take
          simp only [zifQ, zletQ]
          rw [if_neg h28']
          rfl
        obtain ⟨r1, rm9, h1, h2, h3, h4, h5⟩ := a4.fails 1
        rw [ht, hbad, h1, h2, xcvrq (r := r1), xcvrq (r := rm9), if_pos rfl, zifnQ, if_pos rfl]
        exact ⟨GK4.k ⟨h4, xFq.refl⟩, GM4.m ⟨h5.up rfl, xFq.refl⟩, Or.inl ⟨rfl, rfl, h3⟩⟩
  · have hgt : ¬ nI (1000 + F.length) ≤ (1000 : Int32) := fun h9 => by have := (nI_leI (b := 1000) (by omega) (by omega)).mp h9; omega
    rw [f2, m10, m11, if_neg (show ¬ (1 : Int32) = 0 by decide), if_neg hgt]
    obtain ⟨r1, rm1, h1, h2, h3, h4, h5⟩ := h.fails 3
    rw [h1, h2, xcvrq (r := r1), if_pos rfl]
    exact xLo.fail (xGk.refl.k ⟨h4, xFq.refl⟩) (xGm.refl.m ⟨h5.up rfl, xFq.refl⟩) h3
end XRE
end
