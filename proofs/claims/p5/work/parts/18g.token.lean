/-! ===== the two readers of tokens, side by side ===== -/
abbrev xP (L p : Nat) (r rm : zRr) : Prop := r 196 1 = nI L ∧ rm 103 0 = nI L ∧ r 196 3 = nI p ∧ rm 104 0 = nI p ∧ (∀ i, i < L → r 197 i = rm 0 i) ∧ L ≤ 1000 ∧ p ≤ L
abbrev xB (b : Nat) (r rm : zRr) : Prop := r 196 2 = nI b ∧ rm 105 0 = nI b
section XPB
variable {L p b : Nat} {r rm : zRr}
theorem xP.l1 (h : xP L p r rm) : r 196 1 = nI L := h.1
theorem xP.l2 (h : xP L p r rm) : rm 103 0 = nI L := h.2.1
theorem xP.p1 (h : xP L p r rm) : r 196 3 = nI p := h.2.2.1
theorem xP.p2 (h : xP L p r rm) : rm 104 0 = nI p := h.2.2.2.1
theorem xP.cell (h : xP L p r rm) : ∀ i, i < L → r 197 i = rm 0 i := h.2.2.2.2.1
theorem xP.hL (h : xP L p r rm) : L ≤ 1000 := h.2.2.2.2.2.1
theorem xP.hp (h : xP L p r rm) : p ≤ L := h.2.2.2.2.2.2
theorem xB.b1 (h : xB b r rm) : r 196 2 = nI b := h.1
theorem xB.b2 (h : xB b r rm) : rm 105 0 = nI b := h.2
end XPB
def xFq (M : List Nat) (q q1 : zRq) : Prop := ∀ k, M.contains k = false → q1 k = q k
theorem xFq.refl {M : List Nat} {q : zRq} : xFq M q q := fun _ _ => rfl
theorem xFq.set {M : List Nat} {q q1 : zRq} (h : xFq M q q1) {k : Nat} {g : Nat → Int64} (hk : M.contains k = true) : xFq M q (zset q1 k g) := by
  intro a ha
  rw [zset_ne (fun e => by rw [e, hk] at ha; cases ha)]; exact h a ha
theorem xFq.tr {M M1 : List Nat} {q q1 q2 : zRq} (h : xFq M q q1) (h1 : xFq M1 q1 q2) (hk : M1.all (fun k => M.contains k) = true) : xFq M q q2 := by
  intro a ha
  rw [h1 a ?_]; · exact h a ha
  cases e : M1.contains a with
  | false => rfl
  | true =>
    have := List.all_eq_true.mp hk a (List.contains_iff_mem.mp e)
    rw [ha] at this; cases this
/-- what a reader of tokens leaves as it was: the class, the reference -/
def xFk (r : zRr) (q : zRq) (r1 : zRr) (q1 : zRq) : Prop := zFr [196] r r1 ∧ xFq [196] q q1
def xFm (r : zRr) (q : zRq) (r1 : zRr) (q1 : zRq) : Prop := zFr [104, 105, 106, 108] r r1 ∧ xFq [107] q q1
theorem xFk.refl {r : zRr} {q : zRq} : xFk r q r q := ⟨zFr.refl, xFq.refl⟩
theorem xFm.refl {r : zRr} {q : zRq} : xFm r q r q := ⟨zFr.refl, xFq.refl⟩
theorem xFk.tr {r r1 r2 : zRr} {q q1 q2 : zRq} (h : xFk r q r1 q1) (k : xFk r1 q1 r2 q2) : xFk r q r2 q2 := ⟨h.1.tr k.1 rfl, h.2.tr k.2 rfl⟩
theorem xFm.tr {r r1 r2 : zRr} {q q1 q2 : zRq} (h : xFm r q r1 q1) (k : xFm r1 q1 r2 q2) : xFm r q r2 q2 := ⟨h.1.tr k.1 rfl, h.2.tr k.2 rfl⟩
theorem xlet_iff {v : Int32} : Gk_isLetter v = 0 ↔ ¬ xLet v := by
  have c97 : (97 : Int32).toInt = 97 := by decide
  have c122 : (122 : Int32).toInt = 122 := by decide
  unfold Gk_isLetter xLet zif
  by_cases h1 : v < 97
  · rw [if_pos h1]; have := Int32.lt_iff_toInt_lt.mp h1; simp; omega
  · rw [if_neg h1]; rw [Int32.lt_iff_toInt_lt] at h1
    by_cases h2 : 122 < v
    · rw [if_pos h2]; rw [Int32.lt_iff_toInt_lt] at h2; simp; omega
    · rw [if_neg h2]; rw [Int32.lt_iff_toInt_lt] at h2; simp; omega
def xDig (s : Int32) : Prop := 48 ≤ s.toInt ∧ s.toInt ≤ 57
theorem xdig_iff {v : Int32} : Gk_isDigit v = 0 ↔ ¬ xDig v := by
  have c97 : (48 : Int32).toInt = 48 := by decide
  have c122 : (57 : Int32).toInt = 57 := by decide
  unfold Gk_isDigit xDig zif
  by_cases h1 : v < 48
  · rw [if_pos h1]; have := Int32.lt_iff_toInt_lt.mp h1; simp; omega
  · rw [if_neg h1]; rw [Int32.lt_iff_toInt_lt] at h1
    by_cases h2 : 57 < v
    · rw [if_pos h2]; rw [Int32.lt_iff_toInt_lt] at h2; simp; omega
    · rw [if_neg h2]; rw [Int32.lt_iff_toInt_lt] at h2; simp; omega
theorem xsignAt {rm : zRr} {qm : zRq} {L p : Nat} (hL : rm 103 0 = nI L) (h : L ≤ 1000) (hp : p ≤ L) : Gm_signAt (nI p) rm qm = if p < L then rm 0 p else 0 := by
  unfold Gm_signAt zif
  rw [hL]
  by_cases h1 : p < L
  · rw [if_pos h1, if_neg (fun h2 => by have := (nI_leI (by omega) (by omega)).mp h2; omega), xzn (by omega)]
  · rw [if_neg h1, if_pos ((nI_leI (by omega) (by omega)).mpr (by omega))]
theorem xupL {f : Nat → Int64} {k : Nat} {x : Int64} : vp_updL f k x k = x := if_pos rfl
/-- a word, sign by sign -/
theorem xword {L b : Nat} : ∀ (n p : Nat) (r : zRr) (q : zRq) (rm : zRr) (qm : zRq), xP L p r rm → xB b r rm → b ≤ p → (∀ s ∈ xsg (r 197) b (p - b), xLet s) → (p - b ≤ 8 → q 196 6 = xe5 (xsg (r 197) b (p - b)) ∧ qm 107 0 = xe27 (xsg (r 197) b (p - b))) → L - p < n →
    ∃ e r1 q1 rm1 qm1, Gk_stepOverWord_5 n r q = (r1, q1) ∧ Gm_nextToken_109 n rm qm = Gm_nextToken_188 rm1 qm1 ∧ xP L e r1 rm1 ∧ xB b r1 rm1 ∧ p ≤ e ∧ (∀ s ∈ xsg (r 197) b (e - b), xLet s) ∧ (e - b ≤ 8 → q1 196 6 = xe5 (xsg (r 197) b (e - b)) ∧ qm1 107 0 = xe27 (xsg (r 197) b (e - b))) ∧ (p < L → xLet (r 197 p) → p < e) ∧ xFk r q r1 q1 ∧ xFm rm qm rm1 qm1 := by
  intro n
  induction n with
  | zero => intro p r q rm qm hP hB hbp hl hw hn; omega
  | succ n ih =>
    intro p r q rm qm hP hB hbp hl hw hn
    have e0 : Gk_stepOverWord_5 (n + 1) r q = Bk_stepOverWord_5 (Gk_stepOverWord_5 n) r q := rfl
    have e1 : Gm_nextToken_109 (n + 1) rm qm = Bm_nextToken_109 (Gm_nextToken_109 n) rm qm := rfl
    have hL := hP.hL; have hp := hP.hp
    rw [e0, e1]
    simp only [Bk_stepOverWord_5, Bm_nextToken_109, zlet, zif, hP.l1, hP.p1, hP.p2, xsignAt hP.l2 hP.hL hP.hp]
    by_cases h1 : p < L
    · rw [if_neg (fun h => by have := (nI_leI (by omega) (by omega)).mp h; omega), xzn (by omega), if_pos h1, ← hP.cell p h1]
      by_cases h2 : xLet (r 197 p)
      · have c97 : (97 : Int32).toInt = 97 := by decide
        have c122 : (122 : Int32).toInt = 122 := by decide
        rw [if_neg (fun h => xlet_iff.mp h h2), if_neg (fun h => by have := Int32.lt_iff_toInt_lt.mp h; have := h2.1; omega), if_neg (fun h => by have := Int32.lt_iff_toInt_lt.mp h; have := h2.2; omega)]
        have hs : xsg (r 197) b (p + 1 - b) = xsg (r 197) b (p - b) ++ [r 197 p] := by
          rw [show p + 1 - b = p - b + 1 by omega, xsg_s, show b + (p - b) = p by omega]
        have hl2 : ∀ s ∈ xsg (r 197) b (p + 1 - b), xLet s := by
          intro s hs2
          rw [hs] at hs2
          rcases List.mem_append.mp hs2 with h | h
          · exact hl s h
          · rw [List.mem_singleton.mp h]; exact h2
        have ed : nI p - rm 105 0 = nI (p - b) := by
          rw [hB.b2]
          have : p = (p - b) + b := by omega
          rw [show nI p = nI ((p - b) + b) by rw [← this], ← nI_add, Int32.add_sub_cancel]
        rw [ed, show (8 : Int32) = nI 8 from rfl]
        by_cases h3 : 8 ≤ p - b
        · rw [if_pos ((nI_leI (a := 8) (by omega) (by omega)).mpr h3)]
          obtain ⟨e, r1, q1, rm1, qm1, a1, a2, a3, a4, a5, a6, a7, a8, a9, a10⟩ := ih (p + 1) (zset r 196 (upd (r 196) 3 (nI p + 1))) (zset q 196 (vp_updL (q 196) 6 ((q 196 6 <<< ((5 : Int32).toInt64 &&& 63)) ||| (r 197 p - 97 + 1).toInt64))) (zset rm 104 (fun _ => nI p + 1)) qm ⟨hP.l1, hP.l2, nI_1 p, nI_1 p, hP.cell, hP.hL, h1⟩ ⟨hB.b1, hB.b2⟩ (by omega) hl2 (fun h => by omega) (by omega)
          exact ⟨e, r1, q1, rm1, qm1, a1, a2, a3, a4, by omega, a6, a7, fun _ _ => by omega, ⟨(zFr.refl.set rfl).tr a9.1 rfl, (xFq.refl.set rfl).tr a9.2 rfl⟩, ⟨(zFr.refl.set rfl).tr a10.1 rfl, a10.2⟩⟩
        · rw [if_neg (fun h => h3 ((nI_leI (a := 8) (by omega) (by omega)).mp h))]
          obtain ⟨w1, w2⟩ := hw (by omega)
          obtain ⟨e, r1, q1, rm1, qm1, a1, a2, a3, a4, a5, a6, a7, a8, a9, a10⟩ := ih (p + 1) (zset r 196 (upd (r 196) 3 (nI p + 1))) (zset q 196 (vp_updL (q 196) 6 ((q 196 6 <<< ((5 : Int32).toInt64 &&& 63)) ||| (r 197 p - 97 + 1).toInt64))) (zset rm 104 (fun _ => nI p + 1)) (zset qm 107 (fun _ => qm 107 0 * 27 + (r 197 p).toInt64 - 96)) ⟨hP.l1, hP.l2, nI_1 p, nI_1 p, hP.cell, hP.hL, h1⟩ ⟨hB.b1, hB.b2⟩ (by omega) hl2 (fun _ => by
            show (q 196 6 <<< ((5 : Int32).toInt64 &&& 63)) ||| (r 197 p - 97 + 1).toInt64 = xe5 (xsg (r 197) b (p + 1 - b)) ∧ qm 107 0 * 27 + (r 197 p).toInt64 - 96 = xe27 (xsg (r 197) b (p + 1 - b))
            rw [hs, xe5_app, xe27_app, w1, w2]; exact ⟨rfl, rfl⟩) (by omega)
          exact ⟨e, r1, q1, rm1, qm1, a1, a2, a3, a4, by omega, a6, a7, fun _ _ => by omega, ⟨(zFr.refl.set rfl).tr a9.1 rfl, (xFq.refl.set rfl).tr a9.2 rfl⟩, ⟨(zFr.refl.set rfl).tr a10.1 rfl, (xFq.refl.set rfl).tr a10.2 rfl⟩⟩
      · rw [if_pos (xlet_iff.mpr h2)]
        refine ⟨p, r, q, rm, qm, rfl, ?_, hP, hB, Nat.le_refl _, hl, hw, fun _ h => absurd h h2, xFk.refl, xFm.refl⟩
        by_cases h3 : r 197 p < 97
        · rw [if_pos h3]
        · rw [if_neg h3, if_pos]
          have c97 : (97 : Int32).toInt = 97 := by decide
          have c122 : (122 : Int32).toInt = 122 := by decide
          rw [Int32.lt_iff_toInt_lt] at h3 ⊢
          unfold xLet at h2
          omega
    · rw [if_pos ((nI_leI (by omega) (by omega)).mpr (by omega)), if_neg h1, if_pos (by decide)]
      exact ⟨p, r, q, rm, qm, rfl, rfl, hP, hB, Nat.le_refl _, hl, hw, fun h => absurd h h1, xFk.refl, xFm.refl⟩
/-- a number, digit by digit -/
theorem xnumber {L b : Nat} {qm : zRq} : ∀ (n p : Nat) (r rm : zRr), xP L p r rm → xB b r rm → b ≤ p → (p - b ≤ 4 → r 196 5 = rm 108 0 ∧ 0 ≤ (rm 108 0).toInt ∧ (rm 108 0).toInt < 10 ^ (p - b)) → L - p < n →
    ∃ e r1 rm1, Gk_stepOverNumber_5 n r = r1 ∧ Gm_nextToken_224 n rm qm = Gm_nextToken_299 rm1 qm ∧ xP L e r1 rm1 ∧ xB b r1 rm1 ∧ p ≤ e ∧ (e - b ≤ 4 → r1 196 5 = rm1 108 0 ∧ 0 ≤ (rm1 108 0).toInt ∧ (rm1 108 0).toInt < 10 ^ (e - b)) ∧ (p < L → xDig (r 197 p) → p < e) ∧ zFr [196] r r1 ∧ zFr [104, 105, 106, 108] rm rm1 := by
  intro n
  induction n with
  | zero => intro p r rm hP hB hbp hw hn; omega
  | succ n ih =>
    intro p r rm hP hB hbp hw hn
    have e0 : Gk_stepOverNumber_5 (n + 1) r = Bk_stepOverNumber_5 (Gk_stepOverNumber_5 n) r := rfl
    have e1 : Gm_nextToken_224 (n + 1) rm qm = Bm_nextToken_224 (Gm_nextToken_224 n) rm qm := rfl
    have hL := hP.hL; have hp := hP.hp
    rw [e0, e1]
    simp only [Bk_stepOverNumber_5, Bm_nextToken_224, zlet, zif, hP.l1, hP.p1, hP.p2, xsignAt hP.l2 hP.hL hP.hp]
    by_cases h1 : p < L
    · rw [if_neg (fun h => by have := (nI_leI (by omega) (by omega)).mp h; omega), xzn (by omega), if_pos h1, ← hP.cell p h1]
      by_cases h2 : xDig (r 197 p)
      · have c97 : (48 : Int32).toInt = 48 := by decide
        have c122 : (57 : Int32).toInt = 57 := by decide
        rw [if_neg (fun h => xdig_iff.mp h h2), if_neg (fun h => by have := Int32.lt_iff_toInt_lt.mp h; have := h2.1; omega), if_neg (fun h => by have := Int32.lt_iff_toInt_lt.mp h; have := h2.2; omega)]
        have ed : nI p - rm 105 0 = nI (p - b) := by
          rw [hB.b2]
          have : p = (p - b) + b := by omega
          rw [show nI p = nI ((p - b) + b) by rw [← this], ← nI_add, Int32.add_sub_cancel]
        rw [ed, show (4 : Int32) = nI 4 from rfl]
        by_cases h3 : 4 ≤ p - b
        · rw [if_pos ((nI_leI (a := 4) (by omega) (by omega)).mpr h3)]
          obtain ⟨e, r1, rm1, a1, a2, a3, a4, a5, a6, a7, a8, a9⟩ := ih (p + 1) (zset (zset r 196 (upd (r 196) 5 (r 196 5 * 10 + (r 197 p - 48)))) 196 (upd (zset r 196 (upd (r 196) 5 (r 196 5 * 10 + (r 197 p - 48))) 196) 3 (zset r 196 (upd (r 196) 5 (r 196 5 * 10 + (r 197 p - 48))) 196 3 + 1))) (zset rm 104 (fun _ => nI p + 1)) ⟨hP.l1, hP.l2, by show r 196 3 + 1 = _; rw [hP.p1]; exact nI_1 p, nI_1 p, hP.cell, hP.hL, h1⟩ ⟨hB.b1, hB.b2⟩ (by omega) (fun h => by omega) (by omega)
          exact ⟨e, r1, rm1, a1, a2, a3, a4, by omega, a6, fun _ _ => by omega, ((zFr.refl.set rfl).set rfl).tr a8 rfl, (zFr.refl.set rfl).tr a9 rfl⟩
        · rw [if_neg (fun h => h3 ((nI_leI (a := 4) (by omega) (by omega)).mp h))]
          obtain ⟨w1, w2, w3⟩ := hw (by omega)
          have w4 : (10 : Int) ^ (p - b) ≤ 1000 := by
            rcases (show p - b = 0 ∨ p - b = 1 ∨ p - b = 2 ∨ p - b = 3 by omega) with h | h | h | h <;> rw [h] <;> decide
          have w5 := mtold (t := rm 108 0) (u := r 197 p) ⟨w2, by omega⟩ h2
          obtain ⟨e, r1, rm1, a1, a2, a3, a4, a5, a6, a7, a8, a9⟩ := ih (p + 1) (zset (zset r 196 (upd (r 196) 5 (r 196 5 * 10 + (r 197 p - 48)))) 196 (upd (zset r 196 (upd (r 196) 5 (r 196 5 * 10 + (r 197 p - 48))) 196) 3 (zset r 196 (upd (r 196) 5 (r 196 5 * 10 + (r 197 p - 48))) 196 3 + 1))) (zset (zset rm 108 (fun _ => rm 108 0 * 10 + r 197 p - 48)) 104 (fun _ => zset rm 108 (fun _ => rm 108 0 * 10 + r 197 p - 48) 104 0 + 1)) ⟨hP.l1, hP.l2, by show r 196 3 + 1 = _; rw [hP.p1]; exact nI_1 p, by show rm 104 0 + 1 = _; rw [hP.p2]; exact nI_1 p, hP.cell, hP.hL, h1⟩ ⟨hB.b1, hB.b2⟩ (by omega) (fun _ => by
            show r 196 5 * 10 + (r 197 p - 48) = rm 108 0 * 10 + r 197 p - 48 ∧ 0 ≤ (rm 108 0 * 10 + r 197 p - 48).toInt ∧ (rm 108 0 * 10 + r 197 p - 48).toInt < 10 ^ (p + 1 - b)
            rw [show p + 1 - b = p - b + 1 by omega, Int.pow_succ, w5]
            have := h2.1; have := h2.2
            refine ⟨by rw [w1, Int32.sub_eq_add_neg, Int32.sub_eq_add_neg, Int32.add_assoc], by omega, by omega⟩) (by omega)
          exact ⟨e, r1, rm1, a1, a2, a3, a4, by omega, a6, fun _ _ => by omega, ((zFr.refl.set rfl).set rfl).tr a8 rfl, ((zFr.refl.set rfl).set rfl).tr a9 rfl⟩
      · rw [if_pos (xdig_iff.mpr h2)]
        refine ⟨p, r, rm, rfl, ?_, hP, hB, Nat.le_refl _, hw, fun _ h => absurd h h2, zFr.refl, zFr.refl⟩
        by_cases h3 : r 197 p < 48
        · rw [if_pos h3]
        · rw [if_neg h3, if_pos]
          have c97 : (48 : Int32).toInt = 48 := by decide
          have c122 : (57 : Int32).toInt = 57 := by decide
          rw [Int32.lt_iff_toInt_lt] at h3 ⊢
          unfold xDig at h2
          omega
    · rw [if_pos ((nI_leI (by omega) (by omega)).mpr (by omega)), if_neg h1, if_pos (by decide)]
      exact ⟨p, r, rm, rfl, rfl, hP, hB, Nat.le_refl _, hw, fun h => absurd h h1, zFr.refl, zFr.refl⟩
