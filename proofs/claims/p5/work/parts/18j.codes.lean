/-! ===== faults; the E of reads as a tree, as the two sides keep it ===== -/
theorem xTok.row {L b e : Nat} {r r1 : zRr} {q q1 : zRq} {rm rm1 : zRr} {qm qm1 : zRq} (h : xTok L b e r q rm qm) (h1 : r1 196 = r 196) (h2 : r1 197 = r 197) (h3 : q1 196 = q 196) (m0 : rm1 0 = rm 0) (m1 : rm1 103 = rm 103) (m2 : rm1 104 = rm 104) (m3 : rm1 105 = rm 105) (m4 : rm1 106 = rm 106) (m5 : rm1 108 = rm 108) (h4 : qm1 107 = qm 107) : xTok L b e r1 q1 rm1 qm1 := by
  obtain ⟨⟨a1, a2, a3, a4, a5, a6, a7⟩, ⟨b1, b2⟩, c, k⟩ := h
  refine ⟨⟨by rw [h1]; exact a1, by rw [m1]; exact a2, by rw [h1]; exact a3, by rw [m2]; exact a4, by rw [h2, m0]; exact a5, a6, a7⟩, ⟨by rw [h1]; exact b1, by rw [m3]; exact b2⟩, c, ?_⟩
  unfold xKd at k ⊢
  rw [h1, h2, h3, m4, m5, h4]
  exact k
section XG
variable {L b e : Nat} {r : zRr} {q : zRq} {rm : zRr} {qm : zRq}
theorem xTok.fails (h : xTok L b e r q rm qm) (k : Int32) : ∃ r1 rm1, Gk_wrong k r q = (0, r1) ∧ Gm_fails k rm qm = (0, rm1) ∧ r1 196 7 = rm1 109 0 ∧ zFr [196] r r1 ∧ zFr [109] rm rm1 := by
  refine ⟨_, _, rfl, rfl, ?_, zFr.refl.set rfl, zFr.refl.set rfl⟩
  show k + 16 * r 196 2 = k + 16 * rm 105 0
  rw [h.B.b1, h.B.b2]
theorem xTok.next (h : xTok L b e r q rm qm) : ∃ b1 e1 r1 q1 rm1 qm1, Gk_step r q = (r1, q1) ∧ Gm_nextToken rm qm = (rm1, qm1) ∧ xTok L b1 e1 r1 q1 rm1 qm1 ∧ e ≤ b1 ∧ xFk r q r1 q1 ∧ xFm rm qm rm1 qm1 := xstep h.P
/-- a token that is not the end has a sign -/
theorem xTok.lt (h : xTok L b e r q rm qm) (hs : ¬ r 196 4 = 31) : b < e := by
  rcases h.k with ⟨h1, _⟩ | ⟨h1, _⟩
  · exact absurd h1 hs
  · exact h1
end XG
/-- the class's code of a sign between two, the reference's -/
def xok (k : Nat) : Int32 := [(-6 : Int32), -7, -8, -9, -10, -11, -12].getD k 0
def xom (k : Nat) : Int32 := [(26 : Int32), 27, 24, 25, 20, 21, 22].getD k 0
/-- an E, as the class keeps it and as the reference does; 0: a PART, 1: a PRODUCT, 2: a SUM, 3: a TEST, 4: an E; d: how deep PARTS lie in it at most -/
def xRel : Nat → Nat → Nat → List Int32 → List Int32 → Prop
  | 0, _, _, _, _ => False
  | n + 1, lev, d, C, F =>
    (lev = 0 ∧ ∃ v : Int32, zI 0 9999 v ∧ C = [v] ∧ F = [100 + v]) ∨
    (lev = 0 ∧ ∃ k : Nat, 1 ≤ k ∧ k ≤ 4 ∧ C = [-(nI k)] ∧ F = [nI k]) ∨
    (lev = 0 ∧ ∃ d' C' F', d = d' + 1 ∧ xRel n 0 d' C' F' ∧ C = C' ++ [-5] ∧ F = 30 :: F') ∨
    (lev = 0 ∧ ∃ d' F', d = d' + 1 ∧ xRel n 4 d' C F' ∧ F = 28 :: (F' ++ [29])) ∨
    (∃ l, lev = l + 1 ∧ xRel n l d C F) ∨
    (∃ k C1 F1 C2 F2 l1 l2, ((k = 6 ∧ lev = 1 ∧ l1 = 1 ∧ l2 = 0) ∨ ((k = 4 ∨ k = 5) ∧ lev = 2 ∧ l1 = 2 ∧ l2 = 1) ∨ ((k = 2 ∨ k = 3) ∧ lev = 3 ∧ l1 = 2 ∧ l2 = 2) ∨ ((k = 0 ∨ k = 1) ∧ lev = 4 ∧ l1 = 4 ∧ l2 = 3)) ∧ xRel n l1 d C1 F1 ∧ xRel n l2 d C2 F2 ∧ C = C1 ++ C2 ++ [xok k] ∧ F = F1 ++ xom k :: F2)
theorem xRel.s {n lev d : Nat} {C F : List Int32} (h : xRel n lev d C F) : xRel (n + 1) lev d C F := by
  induction n generalizing lev d C F with
  | zero => exact absurd h (fun h => h)
  | succ n ih =>
    rcases h with h | h | ⟨h0, d', C', F', h1, h2, h3⟩ | ⟨h0, d', F', h1, h2, h3⟩ | ⟨l, h1, h2⟩ | ⟨k, C1, F1, C2, F2, l1, l2, h1, h2, h3, h4⟩
    · exact Or.inl h
    · exact Or.inr (Or.inl h)
    · exact Or.inr (Or.inr (Or.inl ⟨h0, d', C', F', h1, ih h2, h3⟩))
    · exact Or.inr (Or.inr (Or.inr (Or.inl ⟨h0, d', F', h1, ih h2, h3⟩)))
    · exact Or.inr (Or.inr (Or.inr (Or.inr (Or.inl ⟨l, h1, ih h2⟩))))
    · exact Or.inr (Or.inr (Or.inr (Or.inr (Or.inr ⟨k, C1, F1, C2, F2, l1, l2, h1, ih h2, ih h3, h4⟩))))
theorem xRel.le {n m lev d : Nat} {C F : List Int32} (h : xRel n lev d C F) (hm : n ≤ m) : xRel m lev d C F := by
  induction hm with
  | refl => exact h
  | step _ ih => exact ih.s
def xEq (lev d : Nat) (C F : List Int32) : Prop := ∃ n, xRel n lev d C F
section XEQ
variable {lev d : Nat} {C F C1 F1 C2 F2 : List Int32}
theorem xEq.num {v : Int32} (h : zI 0 9999 v) : xEq 0 d [v] [100 + v] := ⟨1, Or.inl ⟨rfl, v, h, rfl, rfl⟩⟩
theorem xEq.fact {k : Nat} (h : 1 ≤ k ∧ k ≤ 4) : xEq 0 d [-(nI k)] [nI k] := ⟨1, Or.inr (Or.inl ⟨rfl, k, h.1, h.2, rfl, rfl⟩)⟩
theorem xEq.nt (h : xEq 0 d C F) : xEq 0 (d + 1) (C ++ [-5]) (30 :: F) := by
  obtain ⟨n, h⟩ := h
  exact ⟨n + 1, Or.inr (Or.inr (Or.inl ⟨rfl, d, C, F, rfl, h, rfl, rfl⟩))⟩
theorem xEq.par (h : xEq 4 d C F) : xEq 0 (d + 1) C (28 :: (F ++ [29])) := by
  obtain ⟨n, h⟩ := h
  exact ⟨n + 1, Or.inr (Or.inr (Or.inr (Or.inl ⟨rfl, d, F, rfl, h, rfl⟩)))⟩
theorem xEq.up (h : xEq lev d C F) : xEq (lev + 1) d C F := by
  obtain ⟨n, h⟩ := h
  exact ⟨n + 1, Or.inr (Or.inr (Or.inr (Or.inr (Or.inl ⟨lev, rfl, h⟩))))⟩
theorem xEq.bin {k l1 l2 : Nat} (hk : (k = 6 ∧ lev = 1 ∧ l1 = 1 ∧ l2 = 0) ∨ ((k = 4 ∨ k = 5) ∧ lev = 2 ∧ l1 = 2 ∧ l2 = 1) ∨ ((k = 2 ∨ k = 3) ∧ lev = 3 ∧ l1 = 2 ∧ l2 = 2) ∨ ((k = 0 ∨ k = 1) ∧ lev = 4 ∧ l1 = 4 ∧ l2 = 3)) (h1 : xEq l1 d C1 F1) (h2 : xEq l2 d C2 F2) : xEq lev d (C1 ++ C2 ++ [xok k]) (F1 ++ xom k :: F2) := by
  obtain ⟨n, h1⟩ := h1
  obtain ⟨m, h2⟩ := h2
  exact ⟨max n m + 1, Or.inr (Or.inr (Or.inr (Or.inr (Or.inr ⟨k, C1, F1, C2, F2, l1, l2, hk, h1.le (Nat.le_max_left ..), h2.le (Nat.le_max_right ..), rfl, rfl⟩))))⟩
end XEQ
/-- what stands in the class's code, in the reference's -/
abbrev xCod (C F : List Int32) (r rm : zRr) : Prop := r 192 2 = nI C.length ∧ xsg (r 193) 0 C.length = C ∧ rm 122 0 = nI (1000 + F.length) ∧ xsg (rm 12) 1000 F.length = F
section XCD
variable {C F : List Int32} {r rm : zRr}
theorem xCod.c1 (h : xCod C F r rm) : r 192 2 = nI C.length := h.1
theorem xCod.c2 (h : xCod C F r rm) : xsg (r 193) 0 C.length = C := h.2.1
theorem xCod.f1 (h : xCod C F r rm) : rm 122 0 = nI (1000 + F.length) := h.2.2.1
theorem xCod.f2 (h : xCod C F r rm) : xsg (rm 12) 1000 F.length = F := h.2.2.2
end XCD
theorem xCod.row {C F : List Int32} {r rm r1 rm1 : zRr} (h : xCod C F r rm) (h1 : r1 192 = r 192) (h2 : r1 193 = r 193) (m1 : rm1 122 = rm 122) (m2 : rm1 12 = rm 12) : xCod C F r1 rm1 :=
  ⟨by rw [h1]; exact h.c1, by rw [h2]; exact h.c2, by rw [m1]; exact h.f1, by rw [m2]; exact h.f2⟩
theorem xsg_upd {f : Nat → Int32} {p c j : Nat} {v : Int32} (h : p + c ≤ j) : xsg (upd f j v) p c = xsg f p c := xsg_congr (fun i hi => pk_un (by omega))
theorem xadd {C F : List Int32} {r rm : zRr} {q : zRq} {a : Int32} (h : xCod C F r rm) (hl : C.length < 1000) : xCod (C ++ [a]) F (Gk_add a r q) rm ∧ zFr [192, 193] r (Gk_add a r q) := by
  have e : Gk_add a r q = zset (zset r 193 (upd (r 193) C.length a)) 192 (upd (r 192) 2 (nI (C.length + 1))) := by
    simp only [Gk_add, zif, zlet]
    have h9 : ¬ (1000 : Int32) ≤ r 192 2 := by
      rw [h.c1]; intro h2; have := (nI_leI (a := 1000) (by omega) (by omega)).mp h2; omega
    rw [if_neg h9, h.c1, xzn (by omega)]
    show zset _ 192 (upd (r 192) 2 (r 192 2 + 1)) = _
    rw [h.c1, nI_1]
  rw [e]
  refine ⟨⟨?_, ?_, h.f1, h.f2⟩, (zFr.refl.set rfl).set rfl⟩
  · show nI (C.length + 1) = _
    rw [List.length_append]; rfl
  · show xsg (upd (r 193) C.length a) 0 (C ++ [a]).length = _
    rw [List.length_append, show C.length + [a].length = C.length + 1 from rfl, xsg_s, xsg_upd (by omega), h.c2, Nat.zero_add, pk_us]
theorem xputs {C F : List Int32} {r rm : zRr} {qm : zRq} {a : Int32} (h : xCod C F r rm) (hl : F.length < 1000) : xCod C (F ++ [a]) r (Gm_puts a rm qm) ∧ zFr [12, 122] rm (Gm_puts a rm qm) ∧ (∀ j, j < 1000 → Gm_puts a rm qm 12 j = rm 12 j) := by
  have e : Gm_puts a rm qm = zset (zset rm 12 (upd (rm 12) (1000 + F.length) a)) 122 (fun _ => nI (1000 + F.length + 1)) := by
    simp only [Gm_puts, zlet]
    rw [h.f1, xzn (by omega)]
    show zset _ 122 (fun _ => rm 122 0 + 1) = _
    rw [h.f1, nI_1]
  rw [e]
  refine ⟨⟨h.c1, h.c2, ?_, ?_⟩, (zFr.refl.set rfl).set rfl, fun j hj => pk_un (by omega)⟩
  · show nI (1000 + F.length + 1) = _
    rw [List.length_append]; rfl
  · show xsg (upd (rm 12) (1000 + F.length) a) 1000 (F ++ [a]).length = _
    rw [List.length_append, show F.length + [a].length = F.length + 1 from rfl, xsg_s, xsg_upd (by omega), h.f2, pk_us]
/-- what the reader of an E leaves as it was -/
def xFe (r : zRr) (q : zRq) (r1 : zRr) (q1 : zRq) : Prop := zFr [192, 193, 196] r r1 ∧ xFq [196] q q1
def xRl (rm : zRr) (qm : zRq) (rm1 : zRr) (qm1 : zRq) : Prop := zFr [12, 13, 14, 104, 105, 106, 108, 109, 122] rm rm1 ∧ xFq [107] qm qm1 ∧ ∀ j, j < 1000 → rm1 12 j = rm 12 j
def xRf (w c : Nat) (rm : zRr) (rm1 : zRr) : Prop := (∀ j, j ≤ w → rm1 13 j = rm 13 j) ∧ ∀ j, j < c → rm1 14 j = rm 14 j
theorem xFe.refl {r : zRr} {q : zRq} : xFe r q r q := ⟨zFr.refl, xFq.refl⟩
theorem xFe.tr {r r1 r2 : zRr} {q q1 q2 : zRq} (h : xFe r q r1 q1) (k : xFe r1 q1 r2 q2) : xFe r q r2 q2 := ⟨h.1.tr k.1 rfl, h.2.tr k.2 rfl⟩
theorem xFe.k {r r1 : zRr} {q q1 : zRq} (h : xFk r q r1 q1) : xFe r q r1 q1 := ⟨h.1.up rfl, h.2⟩
theorem xFe.of {r r1 : zRr} {q : zRq} {M : List Nat} (h : zFr M r r1) (hk : M.all (fun k => [192, 193, 196].contains k) = true) : xFe r q r1 q := ⟨h.up hk, xFq.refl⟩
theorem xRl.refl {r : zRr} {q : zRq} : xRl r q r q := ⟨zFr.refl, xFq.refl, fun _ _ => rfl⟩
theorem xRl.tr {r r1 r2 : zRr} {q q1 q2 : zRq} (h : xRl r q r1 q1) (k : xRl r1 q1 r2 q2) : xRl r q r2 q2 := ⟨h.1.tr k.1 rfl, h.2.1.tr k.2.1 rfl, fun j hj => (k.2.2 j hj).trans (h.2.2 j hj)⟩
theorem xRl.m {r r1 : zRr} {q q1 : zRq} (h : xFm r q r1 q1) : xRl r q r1 q1 := ⟨h.1.up rfl, h.2, fun j _ => by rw [h.1 12 rfl]⟩
theorem xRl.of {r r1 : zRr} {q : zRq} {M : List Nat} (h : zFr M r r1) (hk : M.all (fun k => [13, 14, 104, 105, 106, 108, 109, 122].contains k) = true) : xRl r q r1 q := by
  refine ⟨h.up ?_, xFq.refl, fun j _ => ?_⟩
  · apply List.all_eq_true.mpr
    intro k hk2
    have := List.all_eq_true.mp hk k hk2
    have h3 := List.contains_iff_mem.mp this
    exact List.contains_iff_mem.mpr (List.mem_cons_of_mem _ h3)
  · rw [h 12 ?_]
    cases e : M.contains 12 with
    | false => rfl
    | true =>
      have := List.all_eq_true.mp hk 12 (List.contains_iff_mem.mp e)
      exact absurd this (by decide)
theorem xRl.puts {rm rm1 : zRr} {qm : zRq} (h : zFr [12, 122] rm rm1) (k : ∀ j, j < 1000 → rm1 12 j = rm 12 j) : xRl rm qm rm1 qm := ⟨h.up rfl, xFq.refl, k⟩
theorem xRf.refl {w c : Nat} {r : zRr} : xRf w c r r := ⟨fun _ _ => rfl, fun _ _ => rfl⟩
theorem xRf.tr {w c : Nat} {r r1 r2 : zRr} (h : xRf w c r r1) (k : xRf w c r1 r2) : xRf w c r r2 := ⟨fun j hj => (k.1 j hj).trans (h.1 j hj), fun j hj => (k.2 j hj).trans (h.2 j hj)⟩
theorem xRf.w {w c w1 c1 : Nat} {r r1 : zRr} (h : xRf w c r r1) (k : w1 ≤ w ∧ c1 ≤ c) : xRf w1 c1 r r1 := ⟨fun j hj => h.1 j (by omega), fun j hj => h.2 j (by omega)⟩
theorem xRf.row {w c : Nat} {r r1 : zRr} (h1 : r1 13 = r 13) (h2 : r1 14 = r 14) : xRf w c r r1 := ⟨fun _ _ => by rw [h1], fun _ _ => by rw [h2]⟩
/-- below which level a PART at the level w ends: its NOTs end with it -/
def xbs (f : Nat → Int32) : Nat → Nat
  | 0 => 0
  | w + 1 => if f (w + 1) = 1 then xbs f w else w + 1
theorem xbs_c {f g : Nat → Int32} : ∀ w : Nat, (∀ j, j ≤ w → f j = g j) → xbs f w = xbs g w
  | 0, _ => rfl
  | w + 1, h => by
    show (if f (w + 1) = 1 then xbs f w else w + 1) = (if g (w + 1) = 1 then xbs g w else w + 1)
    rw [h (w + 1) (Nat.le_refl _), xbs_c w (fun j hj => h j (by omega))]
theorem xbs_le {f : Nat → Int32} : ∀ w : Nat, xbs f w ≤ w
  | 0 => Nat.le_refl _
  | w + 1 => by
    show (if f (w + 1) = 1 then xbs f w else w + 1) ≤ w + 1
    have := xbs_le (f := f) w
    split <;> omega
theorem xdec {w : Nat} : nI (w + 1) + (-1) = nI w := by
  rw [nI_succ, Int32.add_assoc, show (1 : Int32) + (-1) = 0 by decide, Int32.add_zero]
theorem xpop152 {qw : zRq} {ih : Int32 → Int32 → zRr → zRq → Int32 × zRr × zRq} {rm : zRr} : ∀ (n w : Nat), w < n → w ≤ 5 → Gm_reads_152 qw ih n (nI w) rm = zc_rq (Gm_nextToken rm qw) (fun r q => ih (nI (xbs (rm 13) w)) 0 r q) := by
  intro n
  induction n with
  | zero => intro w h; omega
  | succ n ihn =>
    intro w h h5
    have e0 : Gm_reads_152 qw ih (n + 1) (nI w) rm = Bm_reads_152 qw ih (Gm_reads_152 qw ih n) (nI w) rm := rfl
    rw [e0]
    simp only [Bm_reads_152, zif, zifn, Gm_reads_172]
    match w, h, h5 with
    | 0, _, _ => rw [if_pos (by decide)]; rfl
    | w + 1, h, h5 =>
      rw [if_neg (by rw [show (0 : Int32) = nI 0 from nI_0.symm]; intro h2; have := (nI_leI (by omega) (by omega)).mp h2; omega), xzn (by omega)]
      by_cases h1 : rm 13 (w + 1) = 1
      · rw [if_pos h1, xdec, ihn w (by omega) (by omega)]
        show _ = zc_rq _ (fun r q => ih (nI (if rm 13 (w + 1) = 1 then xbs (rm 13) w else w + 1)) 0 r q)
        rw [if_pos h1]
      · rw [if_neg h1]
        show _ = zc_rq _ (fun r q => ih (nI (if rm 13 (w + 1) = 1 then xbs (rm 13) w else w + 1)) 0 r q)
        rw [if_neg h1]
theorem xpop379 {w2 : Int32} {qw : zRq} {ih : Int32 → Int32 → zRr → zRq → Int32 × zRr × zRq} {rm : zRr} : ∀ (n w : Nat), w < n → w ≤ 5 → Gm_reads_379 w2 qw ih n (nI w) rm = zc_rq (Gm_nextToken rm qw) (fun r q => ih (nI (xbs (rm 13) w)) w2 r q) := by
  intro n
  induction n with
  | zero => intro w h; omega
  | succ n ihn =>
    intro w h h5
    have e0 : Gm_reads_379 w2 qw ih (n + 1) (nI w) rm = Bm_reads_379 w2 qw ih (Gm_reads_379 w2 qw ih n) (nI w) rm := rfl
    rw [e0]
    simp only [Bm_reads_379, zif, zifn, Gm_reads_424]
    match w, h, h5 with
    | 0, _, _ => rw [if_pos (by decide)]; rfl
    | w + 1, h, h5 =>
      rw [if_neg (by rw [show (0 : Int32) = nI 0 from nI_0.symm]; intro h2; have := (nI_leI (by omega) (by omega)).mp h2; omega), xzn (by omega)]
      by_cases h1 : rm 13 (w + 1) = 1
      · rw [if_pos h1, xdec, ihn w (by omega) (by omega)]
        show _ = zc_rq _ (fun r q => ih (nI (if rm 13 (w + 1) = 1 then xbs (rm 13) w else w + 1)) w2 r q)
        rw [if_pos h1]
      · rw [if_neg h1]
        show _ = zc_rq _ (fun r q => ih (nI (if rm 13 (w + 1) = 1 then xbs (rm 13) w else w + 1)) w2 r q)
        rw [if_neg h1]
