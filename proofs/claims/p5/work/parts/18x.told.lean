/-! ===== the LAND that is told, on both sides ===== -/
/-- the law by which guards read: not told, or told -/
def xLw (r rm : zRr) : Prop := rm 10 0 = 0 ∧ ((rm 11 0 = 0 ∧ r 180 2 = nI 4 ∧ xsg (r 181) 0 4 = [-1, -3, -8, -5]) ∨ ∃ C F, xEq 4 5 C F ∧ 1 ≤ F.length ∧ F.length ≤ 1000 ∧ C.length ≤ 1000 ∧ rm 11 0 = nI F.length ∧ xsg (rm 12) 0 F.length = F ∧ r 180 2 = nI C.length ∧ xsg (r 181) 0 C.length = C)
def xTd (t p : Nat) (r : zRr) (q : zRq) (rm : zRr) (qm : zRq) : Prop :=
  (r 171 9 = nI t ∧ rm 1 0 = nI t ∧ t ≤ 6) ∧ (r 171 10 = nI p ∧ rm 1 1 = nI p ∧ p ≤ 6) ∧ (r 171 11 = rm 1 2 ∧ r 171 12 = rm 1 3) ∧
  (∀ i, i < t → r 172 i = rm 4 i ∧ (r 173 i = rm 5 i ∧ ∃ m, m < 2 ^ t ∧ r 173 i = nI m) ∧ xN (q 174 i) (qm 2 i)) ∧
  (∀ i, i < p → r 175 i = rm 6 i ∧ (r 176 i = rm 7 i ∧ ∃ a, a < t ∧ r 176 i = nI a) ∧ r 177 i = rm 8 i ∧ r 178 i = rm 9 i ∧ xN (q 179 i) (qm 3 i)) ∧ xLw r rm
/-- what the class keeps of it, what the reference does -/
def xKk (r : zRr) (q : zRq) (r1 : zRr) (q1 : zRq) : Prop := (∀ a, 171 ≤ a → a ≤ 181 → r1 a = r a) ∧ q1 174 = q 174 ∧ q1 179 = q 179
section XTD
variable {t p : Nat} {r r1 : zRr} {q q1 : zRq} {rm rm1 : zRr} {qm qm1 : zRq}
theorem xTd.fr (h : xTd t p r q rm qm) (k : xKk r q r1 q1) (m : xLow rm qm rm1 qm1) : xTd t p r1 q1 rm1 qm1 := by
  obtain ⟨⟨a1, a2, a3⟩, ⟨b1, b2, b3⟩, ⟨c1, c2⟩, d, e, f⟩ := h
  obtain ⟨k1, k2, k3⟩ := k
  obtain ⟨m1, m2, m3, m4, m5, m6, m7⟩ := m
  have e171 := k1 171 (by omega) (by omega)
  refine ⟨⟨by rw [e171]; exact a1, by rw [m1 0 (by omega)]; exact a2, a3⟩, ⟨by rw [e171]; exact b1, by rw [m1 1 (by omega)]; exact b2, b3⟩, ⟨by rw [e171, m1 2 (by omega)]; exact c1, by rw [e171, m1 3 (by omega)]; exact c2⟩, fun i hi => ?_, fun i hi => ?_, ?_⟩
  · rw [k1 172 (by omega) (by omega), k1 173 (by omega) (by omega), k2, m2 4 i (by omega) (by omega) (by omega), m2 5 i (by omega) (by omega) (by omega), m6 i (by omega)]
    exact d i hi
  · rw [k1 175 (by omega) (by omega), k1 176 (by omega) (by omega), k1 177 (by omega) (by omega), k1 178 (by omega) (by omega), k3, m2 6 i (by omega) (by omega) (by omega), m2 7 i (by omega) (by omega) (by omega), m2 8 i (by omega) (by omega) (by omega), m2 9 i (by omega) (by omega) (by omega), m7 i (by omega)]
    exact e i hi
  · obtain ⟨f1, f2⟩ := f
    refine ⟨m3.trans f1, ?_⟩
    rw [k1 180 (by omega) (by omega), k1 181 (by omega) (by omega), m4]
    rcases f2 with f2 | ⟨C, F, g1, g2, g3, g4, g5, g6, g7⟩
    · exact Or.inl f2
    · refine Or.inr ⟨C, F, g1, g2, g3, g4, g5, ?_, g7⟩
      rw [xsg_congr (g := rm 12) (fun j hj => m5 (0 + j) (by omega))]
      exact g6
theorem xcpy {α : Type} {f g : Nat → α} {n i : Nat} (h : i < n) : va_cpy f g 0 0 n i = f i := by
  show (if 0 ≤ i ∧ i < 0 + n then f (0 + (i - 0)) else g i) = f i
  rw [if_pos ⟨Nat.zero_le _, by omega⟩, Nat.zero_add, Nat.sub_zero]
theorem xzsf {f : Nat → Int32} {n i j : Nat} (h : j < i) : zsf f n i j = f (n + j) := if_pos h
theorem xzsL {f : Nat → Int64} {n i j : Nat} (h : j < i) : zsL f n i j = f (n + j) := if_pos h
theorem xm1000 {n : Nat} (h : n ≤ 1000) : nI (1000 + n) - 1000 = nI n := by
  rw [show (1000 : Int32) = nI 1000 from rfl, xsub (by omega), show 1000 + n - 1000 = n by omega]
/-- a draft is laid down -/
theorem xtell (h : xD t p r q rm qm) (e171 : r1 171 = upd (upd (upd (upd (r 171) 9 (r 183 9)) 10 (r 183 10)) 11 (r 183 11)) 12 (r 183 12)) (e172 : ∀ a, 172 ≤ a → a ≤ 178 → a ≠ 174 → r1 a = va_cpy (r (a + 12)) (r a) 0 0 6) (e180 : r1 180 2 = r 192 2) (e181 : r1 181 = va_cpy (r 193) (r 181) 0 0 (zn (r 192 2))) (q174 : q1 174 = va_cpy (q 186) (q 174) 0 0 6) (q179 : q1 179 = va_cpy (q 191) (q 179) 0 0 6)
    (m1 : rm1 1 = zsf (rm 1) 4 4) (m4 : ∀ a, 4 ≤ a → a ≤ 9 → rm1 a = zsf (rm a) 6 6) (m12 : rm1 12 = zsf (rm 12) 1000 1000) (m10 : rm1 10 0 = rm 10 1 - 1000) (m11 : rm1 11 0 = rm 11 1 - 1000) (n2 : qm1 2 = zsL (qm 2) 6 6) (n3 : qm1 3 = zsL (qm 3) 6 6) : xTd t p r1 q1 rm1 qm1 := by
  obtain ⟨⟨a1, a2, a3, a4, a5⟩, ⟨b1, b2, b3, b4⟩, ⟨c1, c2, _⟩, d1, d2⟩ := h
  refine ⟨⟨?_, ?_, a3⟩, ⟨?_, ?_, b3⟩, ⟨?_, ?_⟩, fun i hi => ?_, fun i hi => ?_, ?_, ?_⟩
  · rw [e171, pk_un (by decide), pk_un (by decide), pk_un (by decide), pk_us]; exact a1
  · rw [m1, xzsf (by decide)]; exact a2
  · rw [e171, pk_un (by decide), pk_un (by decide), pk_us]; exact b1
  · rw [m1, xzsf (by decide)]; exact b2
  · rw [e171, pk_un (by decide), pk_us, m1, xzsf (by decide)]; exact c1
  · rw [e171, pk_us, m1, xzsf (by decide)]; exact c2
  · rw [e172 172 (by omega) (by omega) (by omega), e172 173 (by omega) (by omega) (by omega), q174, xcpy (by omega), xcpy (by omega), xcpy (by omega), m4 4 (by omega) (by omega), m4 5 (by omega) (by omega), n2, xzsf (by omega), xzsf (by omega), xzsL (by omega)]
    exact a4 i hi
  · rw [e172 175 (by omega) (by omega) (by omega), e172 176 (by omega) (by omega) (by omega), e172 177 (by omega) (by omega) (by omega), e172 178 (by omega) (by omega) (by omega), q179, xcpy (by omega), xcpy (by omega), xcpy (by omega), xcpy (by omega), xcpy (by omega), m4 6 (by omega) (by omega), m4 7 (by omega) (by omega), m4 8 (by omega) (by omega), m4 9 (by omega) (by omega), n3, xzsf (by omega), xzsf (by omega), xzsf (by omega), xzsf (by omega), xzsL (by omega)]
    exact b4 i hi
  · rw [m10, d1]; decide
  · rcases d2 with ⟨_, g2, g3⟩ | ⟨_, C, F, g1, g2, g3, g4, g5, g6⟩
    · left
      have e4 : r 192 2 = nI 4 := g3.c1
      refine ⟨by rw [m11, g2]; decide, by rw [e180]; exact e4, ?_⟩
      rw [e181, e4, xzn (by decide), xsg_congr (g := r 193) (fun j hj => by rw [Nat.zero_add]; exact xcpy hj)]
      exact g3.c2
    · right
      have ec : r 192 2 = nI C.length := g6.c1
      refine ⟨C, F, g1, g2, g3, g4, by rw [m11, g5]; exact xm1000 g3, ?_, by rw [e180]; exact ec, ?_⟩
      · rw [m12, show xsg (zsf (rm 12) 1000 1000) 0 F.length = xsg (rm 12) 1000 F.length from ?_]
        · exact g6.f2
        · unfold xsg
          exact List.map_congr_left (fun j hj => by
            have hj := List.mem_range.mp hj
            rw [Nat.zero_add]; exact xzsf (by omega))
      · rw [e181, ec, xzn (by omega), xsg_congr (g := r 193) (fun j hj => by rw [Nat.zero_add]; exact xcpy hj)]
        exact g6.c2
end XTD
/-- a name among those told: the class's search, the reference's -/
theorem xnamed0 {t : Nat} {a : Int64} {w : Int64} {r : zRr} {q : zRq} {rm : zRr} {qm : zRq} (ht : t ≤ 6) (h1 : r 171 9 = nI t) (h2 : rm 1 0 = nI t) (hn : ∀ i, i < t → xN (q 174 i) (qm 2 i)) (hw : qm 107 0 = w) (ha : xN a w) : ∀ n i : Nat, i ≤ t → t < n + i → Gk_townNamed_2 a r q n (nI i) = Gm_townNamed0_5 rm qm n (nI i) ∧ (Gk_townNamed_2 a r q n (nI i) = -1 ∨ ∃ j, j < t ∧ Gk_townNamed_2 a r q n (nI i) = nI j) := by
  intro n
  induction n with
  | zero => intro i h3 h4; omega
  | succ n ih =>
    intro i h3 h4
    have e0 : Gk_townNamed_2 a r q (n + 1) (nI i) = Bk_townNamed_2 a r q (Gk_townNamed_2 a r q n) (nI i) := rfl
    have e1 : Gm_townNamed0_5 rm qm (n + 1) (nI i) = Bm_townNamed0_5 rm qm (Gm_townNamed0_5 rm qm n) (nI i) := rfl
    rw [e0, e1]
    unfold Bk_townNamed_2 Bm_townNamed0_5
    simp only [zifQ, zifnQ, zletQ, h1, h2, hw]
    rw [show (0 : Int32) + nI t = nI t by rw [Int32.zero_add]]
    by_cases hi : t ≤ i
    · have c1 : nI t ≤ nI i := (nI_leI (by omega) (by omega)).mpr hi
      rw [if_pos c1, if_pos c1]
      exact ⟨rfl, Or.inl rfl⟩
    · have c1 : ¬ nI t ≤ nI i := fun h => hi ((nI_leI (by omega) (by omega)).mp h)
      rw [if_neg c1, if_neg c1, xzn (show i < 2 ^ 31 by omega)]
      have k := (hn i (by omega)).eq ha
      by_cases hq : q 174 i = a
      · rw [if_pos (xcmp.mpr hq), if_pos (xcmp.mpr (k.mp hq)), Int32.sub_zero]
        exact ⟨rfl, Or.inr ⟨i, by omega, rfl⟩⟩
      · rw [if_neg (fun h => hq (xcmp.mp h)), if_neg (fun h => hq (k.mpr (xcmp.mp h))), nI_1]
        exact ih (i + 1) (by omega) (by omega)
theorem xnamedP0 {t : Nat} {a : Int64} {w : Int64} {r : zRr} {q : zRq} {rm : zRr} {qm : zRq} (ht : t ≤ 6) (h1 : r 171 10 = nI t) (h2 : rm 1 1 = nI t) (hn : ∀ i, i < t → xN (q 179 i) (qm 3 i)) (hw : qm 107 0 = w) (ha : xN a w) : ∀ n i : Nat, i ≤ t → t < n + i → Gk_personNamed_2 a r q n (nI i) = Gm_personNamed0_5 rm qm n (nI i) ∧ (Gk_personNamed_2 a r q n (nI i) = -1 ∨ ∃ j, j < t ∧ Gk_personNamed_2 a r q n (nI i) = nI j) := by
  intro n
  induction n with
  | zero => intro i h3 h4; omega
  | succ n ih =>
    intro i h3 h4
    have e0 : Gk_personNamed_2 a r q (n + 1) (nI i) = Bk_personNamed_2 a r q (Gk_personNamed_2 a r q n) (nI i) := rfl
    have e1 : Gm_personNamed0_5 rm qm (n + 1) (nI i) = Bm_personNamed0_5 rm qm (Gm_personNamed0_5 rm qm n) (nI i) := rfl
    rw [e0, e1]
    unfold Bk_personNamed_2 Bm_personNamed0_5
    simp only [zifQ, zifnQ, zletQ, h1, h2, hw]
    rw [show (0 : Int32) + nI t = nI t by rw [Int32.zero_add]]
    by_cases hi : t ≤ i
    · have c1 : nI t ≤ nI i := (nI_leI (by omega) (by omega)).mpr hi
      rw [if_pos c1, if_pos c1]
      exact ⟨rfl, Or.inl rfl⟩
    · have c1 : ¬ nI t ≤ nI i := fun h => hi ((nI_leI (by omega) (by omega)).mp h)
      rw [if_neg c1, if_neg c1, xzn (show i < 2 ^ 31 by omega)]
      have k := (hn i (by omega)).eq ha
      by_cases hq : q 179 i = a
      · rw [if_pos (xcmp.mpr hq), if_pos (xcmp.mpr (k.mp hq)), Int32.sub_zero]
        exact ⟨rfl, Or.inr ⟨i, by omega, rfl⟩⟩
      · rw [if_neg (fun h => hq (xcmp.mp h)), if_neg (fun h => hq (k.mpr (xcmp.mp h))), nI_1]
        exact ih (i + 1) (by omega) (by omega)
section XWJ
variable {L b e t p : Nat} {r : zRr} {q : zRq} {rm : zRr} {qm : zRq}
/-- a TOWN of the LAND -/
theorem xhereT (h : xTok L b e r q rm qm) (hD : xTd t p r q rm qm) :
    (∃ r1 rm1, Gk_townHere r q = (-1, r1) ∧ Gm_needsTown0 rm qm = (0, rm1) ∧ r1 196 7 = rm1 109 0 ∧ zFr [196] r r1 ∧ zFr [109, 136] rm rm1) ∨
    (∃ j, j < t ∧ Gk_townHere r q = (nI j, r) ∧ Gm_needsTown0 rm qm = (1, zset rm 136 (fun _ => nI j)) ∧ r 196 4 = 29) := by
  unfold Gk_townHere Gm_needsTown0 Gk_townHere_22 Gk_townHere_44
  simp only [zifQ, zifnQ, zletQ, h.kept]
  by_cases hs : r 196 4 = 29
  · obtain ⟨a1, a2⟩ : Gk_townNamed (q 196 6) r q = Gm_townNamed0 rm qm ∧ (Gk_townNamed (q 196 6) r q = -1 ∨ ∃ j, j < t ∧ Gk_townNamed (q 196 6) r q = nI j) := xnamed0 (n := 7) (i := 0) hD.1.2.2 hD.1.1 hD.1.2.1 (fun i hi => (hD.2.2.2.1 i hi).2.2) rfl (h.nm hs) (by omega) (by have := hD.1.2.2; omega)
    simp only [if_pos hs, x00, if_true, ← a1]
    rcases a2 with e1 | ⟨j, hj, e1⟩
    · left
      have hT := h.pre (rm1 := zset rm 136 (fun _ => (-1 : Int32))) (M := [136]) (zFr.refl.set rfl) (by decide)
      obtain ⟨r1, rm1, h1, h2, h3, h4, h5⟩ := hT.fails 2
      rw [e1, if_pos rfl, h1]
      refine ⟨r1, rm1, rfl, ?_, h3, h4, (zFr.refl.set rfl).tr h5 rfl⟩
      rw [show (zset rm 136 (fun _ => (-1 : Int32))) 136 0 = -1 from rfl, if_neg (by decide), h2]
      rfl
    · right
      have ht6 := hD.1.2.2
      obtain ⟨n1, n2, n3⟩ := xnn (j := j) (by omega)
      rw [e1, if_neg n3]
      refine ⟨j, hj, rfl, ?_, hs⟩
      rw [show (zset rm 136 (fun _ => nI j)) 136 0 = nI j from rfl, if_pos n1]
  · left
    obtain ⟨r1, rm1, h1, h2, h3, h4, h5⟩ := h.fails 1
    simp only [if_neg hs, x10, if_true, if_false, h1, h2]
    exact ⟨r1, rm1, rfl, rfl, h3, h4, h5.up rfl⟩
/-- a PERSON of the LAND -/
theorem xhereP (h : xTok L b e r q rm qm) (hD : xTd t p r q rm qm) :
    (∃ r1 rm1, Gk_personHere r q = (-1, r1) ∧ Gm_needsPerson rm qm = (0, rm1) ∧ r1 196 7 = rm1 109 0 ∧ zFr [196] r r1 ∧ zFr [109, 136] rm rm1) ∨
    (∃ j, j < p ∧ Gk_personHere r q = (nI j, r) ∧ Gm_needsPerson rm qm = (1, zset rm 136 (fun _ => nI j)) ∧ r 196 4 = 29) := by
  unfold Gk_personHere Gm_needsPerson Gk_personHere_22 Gk_personHere_44
  simp only [zifQ, zifnQ, zletQ, h.kept]
  by_cases hs : r 196 4 = 29
  · obtain ⟨a1, a2⟩ : Gk_personNamed (q 196 6) r q = Gm_personNamed0 rm qm ∧ (Gk_personNamed (q 196 6) r q = -1 ∨ ∃ j, j < p ∧ Gk_personNamed (q 196 6) r q = nI j) := xnamedP0 (n := 7) (i := 0) hD.2.1.2.2 hD.2.1.1 hD.2.1.2.1 (fun i hi => (hD.2.2.2.2.1 i hi).2.2.2.2) rfl (h.nm hs) (by omega) (by have := hD.2.1.2.2; omega)
    simp only [if_pos hs, x00, if_true, ← a1]
    rcases a2 with e1 | ⟨j, hj, e1⟩
    · left
      have hT := h.pre (rm1 := zset rm 136 (fun _ => (-1 : Int32))) (M := [136]) (zFr.refl.set rfl) (by decide)
      obtain ⟨r1, rm1, h1, h2, h3, h4, h5⟩ := hT.fails 2
      rw [e1, if_pos rfl, h1]
      refine ⟨r1, rm1, rfl, ?_, h3, h4, (zFr.refl.set rfl).tr h5 rfl⟩
      rw [show (zset rm 136 (fun _ => (-1 : Int32))) 136 0 = -1 from rfl, if_neg (by decide), h2]
      rfl
    · right
      have ht6 := hD.2.1.2.2
      obtain ⟨n1, n2, n3⟩ := xnn (j := j) (by omega)
      rw [e1, if_neg n3]
      refine ⟨j, hj, rfl, ?_, hs⟩
      rw [show (zset rm 136 (fun _ => nI j)) 136 0 = nI j from rfl, if_pos n1]
  · left
    obtain ⟨r1, rm1, h1, h2, h3, h4, h5⟩ := h.fails 1
    simp only [if_neg hs, x10, if_true, if_false, h1, h2]
    exact ⟨r1, rm1, rfl, rfl, h3, h4, h5.up rfl⟩
end XWJ
