section
/-! ===== faults; the E of reads as a tree, as the two sides keep it ===== -/
theorem xTok.row {L b e : Nat} {r r1 : zRr} {q q1 : zRq} {rm rm1 : zRr} {qm qm1 : zRq} (h : xTok L b e r q rm qm) (h1 : r1 196 = r 196) (h2 : r1 197 = r 197) (h3 : q1 196 = q 196) (m0 : rm1 0 = rm 0) (m1 : rm1 103 = rm 103) (m2 : rm1 104 = rm 104) (m3 : rm1 105 = rm 105) (m4 : rm1 106 = rm 106) (m5 : rm1 108 = rm 108) (h4 : qm1 107 = qm 107) : xTok L b e r1 q1 rm1 qm1 := by
  obtain ⟨⟨a1, a2, a3, a4, a5, a6, a7⟩, ⟨b1, b2⟩, c, k⟩ := h
  refine ⟨⟨by rw [h1]; exact a1, by rw [m1]; exact a2, by rw [h1]; exact a3, by rw [m2]; exact a4, by rw [h2, m0]; exact a5, a6, a7⟩, ⟨by rw [h1]; exact b1, by rw [m3]; exact b2⟩, c, ?_⟩
  unfold xKd at k ⊢
  rw [h1, h2, h3, m4, m5, h4]
  exact k
section XG
variable {L b e : Nat} {r : zRr} {q : zRq} {rm : zRr} {qm : zRq}
theorem xTok.fails (h : xTok L b e r q rm qm) (k : Int32) : ∃ r1 rm1, Gk_wrong k r q = (0, r1) ∧ Gm_fails k rm qm = (0, rm1) ∧ r1 196 7 = rm1 109 0 ∧ zFr [196] r r1 ∧ zFr [109] rm rm1 := by
  refine ⟨_, _, rfl, rfl, ?_, zFr.refl.set rfl, zFr.refl.set rfl⟩
  show k + 16 * r 196 2 = k + 16 * rm 105 0
  rw [h.B.b1, h.B.b2]
theorem xTok.next (h : xTok L b e r q rm qm) : ∃ b1 e1 r1 q1 rm1 qm1, Gk_step r q = (r1, q1) ∧ Gm_nextToken rm qm = (rm1, qm1) ∧ xTok L b1 e1 r1 q1 rm1 qm1 ∧ e ≤ b1 ∧ xFk r q r1 q1 ∧ xFm rm qm rm1 qm1 := xstep h.P
/-- a token that is not the end has a sign -/
theorem xTok.lt (h : xTok L b e r q rm qm) (hs : ¬ r 196 4 = 31) : b < e := by
  rcases h.k with ⟨h1, _⟩ | ⟨h1, _⟩
  · exact absurd h1 hs
  · exact h1
end XG
/-- the class's code of a sign between two, the reference's -/
noncomputable def xok (k : Nat) : Int32 := [(-6 : Int32), -7, -8, -9, -10, -11, -12].getD k 0
noncomputable def xom (k : Nat) : Int32 := [(26 : Int32), 27, 24, 25, 20, 21, 22].getD k 0
/-- an E, as the class keeps it and as the reference does; 0: a PART, 1: a PRODUCT, 2: a SUM, 3: a TEST, 4: an E; d: how deep PARTS lie in it at most -/
noncomputable def xRel : Nat → Nat → Nat → List Int32 → List Int32 → Prop
  | 0, _, _, _, _ => False
  | n + 1, lev, d, C, F =>
    (lev = 0 ∧ ∃ v : Int32, zI 0 9999 v ∧ C = [v] ∧ F = [100 + v]) ∨
    (lev = 0 ∧ ∃ k : Nat, 1 ≤ k ∧ k ≤ 4 ∧ C = [-(nI k)] ∧ F = [nI k]) ∨
    (lev = 0 ∧ ∃ d' C' F', d = d' + 1 ∧ xRel n 0 d' C' F' ∧ C = C' ++ [-5] ∧ F = 30 :: F') ∨
    (lev = 0 ∧ ∃ d' F', d = d' + 1 ∧ xRel n 4 d' C F' ∧ F = 28 :: (F' ++ [29])) ∨
    (∃ l, lev = l + 1 ∧ xRel n l d C F) ∨
    (∃ k C1 F1 C2 F2 l1 l2, ((k = 6 ∧ lev = 1 ∧ l1 = 1 ∧ l2 = 0) ∨ ((k = 4 ∨ k = 5) ∧ lev = 2 ∧ l1 = 2 ∧ l2 = 1) ∨ ((k = 2 ∨ k = 3) ∧ lev = 3 ∧ l1 = 2 ∧ l2 = 2) ∨ ((k = 0 ∨ k = 1) ∧ lev = 4 ∧ l1 = 4 ∧ l2 = 3)) ∧ xRel n l1 d C1 F1 ∧ xRel n l2 d C2 F2 ∧ C = C1 ++ C2 ++ [xok k] ∧ F = F1 ++ xom k :: F2)
theorem xRel.s {n lev d : Nat} {C F : List Int32} (h : xRel n lev d C F) : xRel (n + 1) lev d C F := by
  induction n generalizing lev d C F with
  | zero => exact absurd h (fun h => h)
  | succ n ih =>
    rcases h with h | h | ⟨h0, d', C', F', h1, h2, h3⟩ | ⟨h0, d', F', h1, h2, h3⟩ | ⟨l, h1, h2⟩ | ⟨k, C1, F1, C2, F2, l1, l2, h1, h2, h3, h4⟩
    · exact Or.inl h
    · exact Or.inr (Or.inl h)
    · exact Or.inr (Or.inr (Or.inl ⟨h0, d', C', F', h1, ih h2, h3⟩))
    · exact Or.inr (Or.inr (Or.inr (Or.inl ⟨h0, d', F', h1, ih h2, h3⟩)))
    · exact Or.inr (Or.inr (Or.inr (Or.inr (Or.inl ⟨l, h1, ih h2⟩))))
    · exact Or.inr (Or.inr (Or.inr (Or.inr (Or.inr ⟨k, C1, F1, C2, F2, l1, l2, h1, ih h2, ih h3, h4⟩))))
theorem xRel.le {n m lev d : Nat} {C F : List Int32} (h : xRel n lev d C F) (hm : n ≤ m) : xRel m lev d C F := by
  induction hm with
  | refl => exact h
  | step _ ih => exact ih.s
noncomputable def xEq (lev d : Nat) (C F : List Int32) : Prop := ∃ n, xRel n lev d C F
section XEQ
variable {lev d : Nat} {C F C1 F1 C2 F2 : List Int32}
theorem xEq.num {v : Int32} (h : zI 0 9999 v) : xEq 0 d [v] [100 + v] := ⟨1, Or.inl ⟨rfl, v, h, rfl, rfl⟩⟩
theorem xEq.fact {k : Nat} (h : 1 ≤ k ∧ k ≤ 4) : xEq 0 d [-(nI k)] [nI k] := ⟨1, Or.inr (Or.inl ⟨rfl, k, h.1, h.2, rfl, rfl⟩)⟩
theorem xEq.nt (h : xEq 0 d C F) : xEq 0 (d + 1) (C ++ [-5]) (30 :: F) := by
  obtain ⟨n, h⟩ := h
  exact ⟨n + 1, Or.inr (Or.inr (Or.inl ⟨rfl, d, C, F, rfl, h, rfl, rfl⟩))⟩
theorem xEq.par (h : xEq 4 d C F) : xEq 0 (d + 1) C (28 :: (F ++ [29])) := by
  obtain ⟨n, h⟩ := h
  exact ⟨n + 1, Or.inr (Or.inr (Or.inr (Or.inl ⟨rfl, d, F, rfl, h, rfl⟩)))⟩
theorem xEq.up (h : xEq lev d C F) : xEq (lev + 1) d C F := by
  obtain ⟨n, h⟩ := h
  exact ⟨n + 1, Or.inr (Or.inr (Or.inr (Or.inr (Or.inl ⟨lev, rfl, h⟩))))⟩
theorem xEq.bin {k l1 l2 : Nat} (hk : (k = 6 ∧ lev = 1 ∧ l1 = 1 ∧ l2 = 0) ∨ ((k = 4 ∨ k = 5) ∧ lev = 2 ∧ l1 = 2 ∧ l2 = 1) ∨ ((k = 2 ∨ k = 3) ∧ lev = 3 ∧ l1 = 2 ∧ l2 = 2) ∨ ((k = 0 ∨ k = 1) ∧ lev = 4 ∧ l1 = 4 ∧ l2 = 3)) (h1 : xEq l1 d C1 F1) (h2 : xEq l2 d C2 F2) : xEq lev d (C1 ++ C2 ++ [xok k]) (F1 ++ xom k :: F2) := by
  obtain ⟨n, h1⟩ := h1
  obtain ⟨m, h2⟩ := h2
  exact ⟨max n m + 1, Or.inr (Or.inr (Or.inr (Or.inr (Or.inr ⟨k, C1, F1, C2, F2, l1, l2, hk, h1.le (Nat.le_max_left ..), h2.le (Nat.le_max_right ..), rfl, rfl⟩))))⟩
end XEQ
/-- what stands in the class's code, in the reference's -/
noncomputable abbrev xCod (C F : List Int32) (r rm : zRr) : Prop := r 192 2 = nI C.length ∧ xsg (r 193) 0 C.length = C ∧ rm 122 0 = nI (1000 + F.length) ∧ xsg (rm 12) 1000 F.length = F
section XCD
variable {C F : List Int32} {r rm : zRr}
theorem xCod.c1 (h : xCod C F r rm) : r 192 2 = nI C.length := h.1
theorem xCod.c2 (h : xCod C F r rm) : xsg (r 193) 0 C.length = C := h.2.1
theorem xCod.f1 (h : xCod C F r rm) : rm 122 0 = nI (1000 + F.length) := h.2.2.1
theorem xCod.f2 (h : xCod C F r rm) : xsg (rm 12) 1000 F.length = F := h.2.2.2
end XCD
theorem xCod.row {C F : List Int32} {r rm r1 rm1 : zRr} (h : xCod C F r rm) (h1 : r1 192 = r 192) (h2 : r1 193 = r 193) (m1 : rm1 122 = rm 122) (m2 : rm1 12 = rm 12) : xCod C F r1 rm1 :=
  ⟨by rw [h1]; exact h.c1, by rw [h2]; exact h.c2, by rw [m1]; exact h.f1, by rw [m2]; exact h.f2⟩
theorem xsg_upd {f : Nat → Int32} {p c j : Nat} {v : Int32} (h : p + c ≤ j) : xsg (upd f j v) p c = xsg f p c := xsg_congr (fun i hi => pk_un (by omega))
theorem xadd {C F : List Int32} {r rm : zRr} {q : zRq} {a : Int32} (h : xCod C F r rm) (hl : C.length < 1000) : xCod (C ++ [a]) F (Gk_add a r q) rm ∧ zFr [192, 193] r (Gk_add a r q) := by
  have e : Gk_add a r q = zset (zset r 193 (upd (r 193) C.length a)) 192 (upd (r 192) 2 (nI (C.length + 1))) := by
    simp only [Gk_add, zif, zlet]
    have h9 : ¬ (1000 : Int32) ≤ r 192 2 := by
      rw [h.c1]; intro h2; have := (nI_leI (a := 1000) (by omega) (by omega)).mp h2; omega
    rw [if_neg h9, h.c1, xzn (by omega)]
    show zset _ 192 (upd (r 192) 2 (r 192 2 + 1)) = _
    rw [h.c1, nI_1]
  rw [e]
  refine ⟨⟨?_, ?_, h.f1, h.f2⟩, (zFr.refl.set rfl).set rfl⟩
  · show nI (C.length + 1) = _
    rw [List.length_append]; rfl
  · show xsg (upd (r 193) C.length a) 0 (C ++ [a]).length = _
    rw [List.length_append, show C.length + [a].length = C.length + 1 from rfl, xsg_s, xsg_upd (by omega), h.c2, Nat.zero_add, pk_us]
theorem xputs {C F : List Int32} {r rm : zRr} {qm : zRq} {a : Int32} (h : xCod C F r rm) (hl : F.length < 1000) : xCod C (F ++ [a]) r (Gm_puts a rm qm) ∧ zFr [12, 122] rm (Gm_puts a rm qm) ∧ (∀ j, j < 1000 → Gm_puts a rm qm 12 j = rm 12 j) := by
  have e : Gm_puts a rm qm = zset (zset rm 12 (upd (rm 12) (1000 + F.length) a)) 122 (fun _ => nI (1000 + F.length + 1)) := by
    simp only [Gm_puts, zlet]
    rw [h.f1, xzn (by omega)]
    show zset _ 122 (fun _ => rm 122 0 + 1) = _
    rw [h.f1, nI_1]
  rw [e]
  refine ⟨⟨h.c1, h.c2, ?_, ?_⟩, (zFr.refl.set rfl).set rfl, fun j hj => pk_un (by omega)⟩
  · show nI (1000 + F.length + 1) = _
    rw [List.length_append]; rfl
  · show xsg (upd (rm 12) (1000 + F.length) a) 1000 (F ++ [a]).length = _
    rw [List.length_append, show F.length + [a].length = F.length + 1 from rfl, xsg_s, xsg_upd (by omega), h.f2, pk_us]
/-- what the reader of an E leaves as it was -/
noncomputable def xFe (r : zRr) (q : zRq) (r1 : zRr) (q1 : zRq) : Prop := zFr [192, 193, 196] r r1 ∧ xFq [196] q q1
noncomputable def xRl (rm : zRr) (qm : zRq) (rm1 : zRr) (qm1 : zRq) : Prop := zFr [12, 13, 14, 104, 105, 106, 108, 109, 122] rm rm1 ∧ xFq [107] qm qm1 ∧ ∀ j, j < 1000 → rm1 12 j = rm 12 j
noncomputable def xRf (w c : Nat) (rm : zRr) (rm1 : zRr) : Prop := (∀ j, j ≤ w → rm1 13 j = rm 13 j) ∧ ∀ j, j < c → rm1 14 j = rm 14 j
theorem xFe.refl {r : zRr} {q : zRq} : xFe r q r q := ⟨zFr.refl, xFq.refl⟩
theorem xFe.tr {r r1 r2 : zRr} {q q1 q2 : zRq} (h : xFe r q r1 q1) (k : xFe r1 q1 r2 q2) : xFe r q r2 q2 := ⟨h.1.tr k.1 rfl, h.2.tr k.2 rfl⟩
theorem xFe.k {r r1 : zRr} {q q1 : zRq} (h : xFk r q r1 q1) : xFe r q r1 q1 := ⟨h.1.up rfl, h.2⟩
theorem xFe.of {r r1 : zRr} {q : zRq} {M : List Nat} (h : zFr M r r1) (hk : M.all (fun k => [192, 193, 196].contains k) = true) : xFe r q r1 q := ⟨h.up hk, xFq.refl⟩
theorem xRl.refl {r : zRr} {q : zRq} : xRl r q r q := ⟨zFr.refl, xFq.refl, fun _ _ => rfl⟩
theorem xRl.tr {r r1 r2 : zRr} {q q1 q2 : zRq} (h : xRl r q r1 q1) (k : xRl r1 q1 r2 q2) : xRl r q r2 q2 := ⟨h.1.tr k.1 rfl, h.2.1.tr k.2.1 rfl, fun j hj => (k.2.2 j hj).trans (h.2.2 j hj)⟩
theorem xRl.m {r r1 : zRr} {q q1 : zRq} (h : xFm r q r1 q1) : xRl r q r1 q1 := ⟨h.1.up rfl, h.2, fun j _ => by rw [h.1 12 rfl]⟩
theorem xRl.of {r r1 : zRr} {q : zRq} {M : List Nat} (h : zFr M r r1) (hk : M.all (fun k => [13, 14, 104, 105, 106, 108, 109, 122].contains k) = true) : xRl r q r1 q := by
  refine ⟨h.up ?_, xFq.refl, fun j _ => ?_⟩
  · apply List.all_eq_true.mpr
    intro k hk2
    have := List.all_eq_true.mp hk k hk2
    have h3 := List.contains_iff_mem.mp this
    exact List.contains_iff_mem.mpr (List.mem_cons_of_mem _ h3)
  · rw [h 12 ?_]
    cases e : M.contains 12 with
    | false => rfl
    | true =>
      have := List.all_eq_true.mp hk 12 (List.contains_iff_mem.mp e)
      exact absurd this (by decide)
theorem xRl.puts {rm rm1 : zRr} {qm : zRq} (h : zFr [12, 122] rm rm1) (k : ∀ j, j < 1000 → rm1 12 j = rm 12 j) : xRl rm qm rm1 qm := ⟨h.up rfl, xFq.refl, k⟩
theorem xRf.refl {w c : Nat} {r : zRr} : xRf w c r r := ⟨fun _ _ => rfl, fun _ _ => rfl⟩
theorem xRf.tr {w c : Nat} {r r1 r2 : zRr} (h : xRf w c r r1) (k : xRf w c r1 r2) : xRf w c r r2 := ⟨fun j hj => (k.1 j hj).trans (h.1 j hj), fun j hj => (k.2 j hj).trans (h.2 j hj)⟩
theorem xRf.w {w c w1 c1 : Nat} {r r1 : zRr} (h : xRf w c r r1) (k : w1 ≤ w ∧ c1 ≤ c) : xRf w1 c1 r r1 := ⟨fun j hj => h.1 j (by omega), fun j hj => h.2 j (by omega)⟩
theorem xRf.row {w c : Nat} {r r1 : zRr} (h1 : r1 13 = r 13) (h2 : r1 14 = r 14) : xRf w c r r1 := ⟨fun _ _ => by rw [h1], fun _ _ => by rw [h2]⟩
/-- below which level a PART at the level w ends: its NOTs end with it -/
noncomputable def xbs (f : Nat → Int32) : Nat → Nat
  | 0 => 0
  | w + 1 => if f (w + 1) = 1 then xbs f w else w + 1
theorem xbs_c {f g : Nat → Int32} : ∀ w : Nat, (∀ j, j ≤ w → f j = g j) → xbs f w = xbs g w
  | 0, _ => rfl
  | w + 1, h => by
    show (if f (w + 1) = 1 then xbs f w else w + 1) = (if g (w + 1) = 1 then xbs g w else w + 1)
    rw [h (w + 1) (Nat.le_refl _), xbs_c w (fun j hj => h j (by omega))]
theorem xdec {w : Nat} : nI (w + 1) + (-1) = nI w := by
  rw [nI_succ, Int32.add_assoc, show (1 : Int32) + (-1) = 0 by decide, Int32.add_zero]
theorem xpop152 {qw : zRq} {ih : Int32 → Int32 → zRr → zRq → Int32 × zRr × zRq} {rm : zRr} : ∀ (n w : Nat), w < n → w ≤ 5 → Gm_reads_152 qw ih n (nI w) rm = zc_rq (Gm_nextToken rm qw) (fun r q => ih (nI (xbs (rm 13) w)) 0 r q) := by
  intro n
  induction n with
  | zero => intro w h; omega
  | succ n ihn =>
    intro w h h5
    have e0 : Gm_reads_152 qw ih (n + 1) (nI w) rm = Bm_reads_152 qw ih (Gm_reads_152 qw ih n) (nI w) rm := rfl
    rw [e0]
    simp only [Bm_reads_152, zif, zifn, Gm_reads_172]
    match w, h, h5 with
    | 0, _, _ => rw [if_pos (by decide)]; rfl
    | w + 1, h, h5 =>
      rw [if_neg (by rw [show (0 : Int32) = nI 0 from nI_0.symm]; intro h2; have := (nI_leI (by omega) (by omega)).mp h2; omega), xzn (by omega)]
      by_cases h1 : rm 13 (w + 1) = 1
      · rw [if_pos h1, xdec, ihn w (by omega) (by omega)]
        show _ = zc_rq _ (fun r q => ih (nI (if rm 13 (w + 1) = 1 then xbs (rm 13) w else w + 1)) 0 r q)
        rw [if_pos h1]
      · rw [if_neg h1]
        show _ = zc_rq _ (fun r q => ih (nI (if rm 13 (w + 1) = 1 then xbs (rm 13) w else w + 1)) 0 r q)
        rw [if_neg h1]
theorem xpop379 {w2 : Int32} {qw : zRq} {ih : Int32 → Int32 → zRr → zRq → Int32 × zRr × zRq} {rm : zRr} : ∀ (n w : Nat), w < n → w ≤ 5 → Gm_reads_379 w2 qw ih n (nI w) rm = zc_rq (Gm_nextToken rm qw) (fun r q => ih (nI (xbs (rm 13) w)) w2 r q) := by
  intro n
  induction n with
  | zero => intro w h; omega
  | succ n ihn =>
    intro w h h5
    have e0 : Gm_reads_379 w2 qw ih (n + 1) (nI w) rm = Bm_reads_379 w2 qw ih (Gm_reads_379 w2 qw ih n) (nI w) rm := rfl
    rw [e0]
    simp only [Bm_reads_379, zif, zifn, Gm_reads_424]
    match w, h, h5 with
    | 0, _, _ => rw [if_pos (by decide)]; rfl
    | w + 1, h, h5 =>
      rw [if_neg (by rw [show (0 : Int32) = nI 0 from nI_0.symm]; intro h2; have := (nI_leI (by omega) (by omega)).mp h2; omega), xzn (by omega)]
      by_cases h1 : rm 13 (w + 1) = 1
      · rw [if_pos h1, xdec, ihn w (by omega) (by omega)]
        show _ = zc_rq _ (fun r q => ih (nI (if rm 13 (w + 1) = 1 then xbs (rm 13) w else w + 1)) w2 r q)
        rw [if_pos h1]
      · rw [if_neg h1]
        show _ = zc_rq _ (fun r q => ih (nI (if rm 13 (w + 1) = 1 then xbs (rm 13) w else w + 1)) w2 r q)
        rw [if_neg h1]
end
section
/-! ===== the reference's reader of an E, one token at a time ===== -/
theorem x10 : ((1 : Int32) = 0) = False := eq_false (by decide)
theorem x00 : ((0 : Int32) = 0) = True := eq_true rfl
section XH
variable {L b e n : Nat} {r : zRr} {q : zRq} {rm : zRr} {qm : zRq}
theorem xne {a b : Nat} {x : Int32} (h : x = nI a) (hab : a ≠ b) (ha : a ≤ 40) (hb : b ≤ 40) : ¬ x = nI b := fun e => hab ((nI_eq (by omega) (by omega)).mp (h.symm.trans e))
theorem xTok.sg0 (h : xTok L b e r q rm qm) {s : Int32} (i : Nat) (hi : 21 ≤ i ∧ i < 29) (hs : [s] = eB.getD i []) (hn : ¬ r 196 4 = nI i) : Gm_isSign s rm qm = 0 := (h.sign i hi hs).trans (if_neg hn)
theorem xTok.sg1 (h : xTok L b e r q rm qm) {s : Int32} (i : Nat) (hi : 21 ≤ i ∧ i < 29) (hs : [s] = eB.getD i []) (hn : r 196 4 = nI i) : Gm_isSign s rm qm = 1 := (h.sign i hi hs).trans (if_pos hn)
theorem xTok.wd0 (h : xTok L b e r q rm qm) {C : Int64} (i : Nat) (hi : i < 21) (hC : C = xe27 (eB.getD i [])) (hn : ¬ r 196 4 = nI i) : Gm_isWord C rm qm = 0 := (h.word i hi hC).trans (if_neg hn)
theorem xTok.wd1 (h : xTok L b e r q rm qm) {C : Int64} (i : Nat) (hi : i < 21) (hC : C = xe27 (eB.getD i [])) (hn : r 196 4 = nI i) : Gm_isWord C rm qm = 1 := (h.word i hi hC).trans (if_pos hn)
noncomputable def xNx (n : Nat) (d w : Int32) (rm : zRr) (qm : zRq) : Int32 × zRr × zRq := zc_rq (Gm_nextToken rm qm) (fun r q => Gm_reads_11 n d w r q)
/-- a sign between two PARTS: 4 +, 5 -, 6 * -/
theorem xhOp (h : xTok L b e r q rm qm) {d : Int32} {k : Nat} (hk : 4 ≤ k ∧ k ≤ 6) (hs : r 196 4 = nI (21 + k)) : Gm_reads_11 (n + 1) d 0 rm qm = xNx n d 1 (Gm_puts (xom k) rm qm) qm := by
  have e0 : Gm_reads_11 (n + 1) d 0 rm qm = Bm_reads_11 (Gm_reads_11 n) d 0 rm qm := rfl
  rw [e0]
  unfold Bm_reads_11 Gm_reads_206 Gm_reads_424
  simp only [zifQ, zifnQ, zletQ]
  rcases (show k = 4 ∨ k = 5 ∨ k = 6 by omega) with rfl | rfl | rfl
  · rw [h.sg1 25 (by decide) rfl hs]
    simp only [x10, x00, if_true, if_false, xNx, xom, List.getD_cons_succ, List.getD_cons_zero]
  · rw [h.sg0 25 (by decide) rfl (xne hs (by decide) (by decide) (by decide)), h.sg1 26 (by decide) rfl hs]
    simp only [x10, x00, if_true, if_false, xNx, xom, List.getD_cons_succ, List.getD_cons_zero]
  · rw [h.sg0 25 (by decide) rfl (xne hs (by decide) (by decide) (by decide)), h.sg0 26 (by decide) rfl (xne hs (by decide) (by decide) (by decide)), h.sg1 27 (by decide) rfl hs]
    simp only [x10, x00, if_true, if_false, xNx, xom, List.getD_cons_succ, List.getD_cons_zero]
/-- < or = : 2, 3 -/
theorem xhCmp (h : xTok L b e r q rm qm) {d : Int32} {k : Nat} (hk : k = 2 ∨ k = 3) (hs : r 196 4 = nI (21 + k)) (hc : rm 14 (zn d) = 0) : Gm_reads_11 (n + 1) d 0 rm qm = xNx n d 1 (zset (Gm_puts (xom k) rm qm) 14 (upd (Gm_puts (xom k) rm qm 14) (zn d) 1)) qm := by
  have e0 : Gm_reads_11 (n + 1) d 0 rm qm = Bm_reads_11 (Gm_reads_11 n) d 0 rm qm := rfl
  rw [e0]
  unfold Bm_reads_11 Gm_reads_263 Gm_reads_424
  simp only [zifQ, zifnQ, zletQ]
  rcases hk with rfl | rfl
  · rw [h.sg0 25 (by decide) rfl (xne hs (by decide) (by decide) (by decide)), h.sg0 26 (by decide) rfl (xne hs (by decide) (by decide) (by decide)), h.sg0 27 (by decide) rfl (xne hs (by decide) (by decide) (by decide)), h.sg1 23 (by decide) rfl hs, hc]
    simp only [x10, x00, if_true, if_false, xNx, xom, List.getD_cons_succ, List.getD_cons_zero]
  · rw [h.sg0 25 (by decide) rfl (xne hs (by decide) (by decide) (by decide)), h.sg0 26 (by decide) rfl (xne hs (by decide) (by decide) (by decide)), h.sg0 27 (by decide) rfl (xne hs (by decide) (by decide) (by decide)), h.sg0 23 (by decide) rfl (xne hs (by decide) (by decide) (by decide)), h.sg1 24 (by decide) rfl hs, hc]
    simp only [x10, x00, if_true, if_false, xNx, xom, List.getD_cons_succ, List.getD_cons_zero]
/-- and, or: 0, 1 -/
theorem xhJoin (h : xTok L b e r q rm qm) {d : Int32} {k : Nat} (hk : k = 0 ∨ k = 1) (hs : r 196 4 = nI (19 + k)) : Gm_reads_11 (n + 1) d 0 rm qm = xNx n d 1 (zset (Gm_puts (xom k) rm qm) 14 (upd (Gm_puts (xom k) rm qm 14) (zn d) 0)) qm := by
  have e0 : Gm_reads_11 (n + 1) d 0 rm qm = Bm_reads_11 (Gm_reads_11 n) d 0 rm qm := rfl
  rw [e0]
  unfold Bm_reads_11 Gm_reads_304 Gm_reads_324 Gm_reads_424
  simp only [zifQ, zifnQ, zletQ]
  rcases hk with rfl | rfl
  · rw [h.sg0 25 (by decide) rfl (xne hs (by decide) (by decide) (by decide)), h.sg0 26 (by decide) rfl (xne hs (by decide) (by decide) (by decide)), h.sg0 27 (by decide) rfl (xne hs (by decide) (by decide) (by decide)), h.sg0 23 (by decide) rfl (xne hs (by decide) (by decide) (by decide)), h.sg0 24 (by decide) rfl (xne hs (by decide) (by decide) (by decide)), h.wd1 19 (by decide) (by decide) hs]
    simp only [x10, x00, if_true, if_false, xNx, xom, List.getD_cons_succ, List.getD_cons_zero]
  · rw [h.sg0 25 (by decide) rfl (xne hs (by decide) (by decide) (by decide)), h.sg0 26 (by decide) rfl (xne hs (by decide) (by decide) (by decide)), h.sg0 27 (by decide) rfl (xne hs (by decide) (by decide) (by decide)), h.sg0 23 (by decide) rfl (xne hs (by decide) (by decide) (by decide)), h.sg0 24 (by decide) rfl (xne hs (by decide) (by decide) (by decide)), h.wd0 19 (by decide) (by decide) (xne hs (by decide) (by decide) (by decide)), h.wd1 20 (by decide) (by decide) hs]
    simp only [x10, x00, if_true, if_false, xNx, xom, List.getD_cons_succ, List.getD_cons_zero]
/-- ) at a level -/
theorem xhClose (h : xTok L b e r q rm qm) {d : Nat} (hd : d ≤ 4) (hs : r 196 4 = nI 22) : Gm_reads_11 (n + 1) (nI (d + 1)) 0 rm qm = xNx n (nI (xbs (Gm_puts 29 rm qm 13) d)) 0 (Gm_puts 29 rm qm) qm := by
  have e0 : Gm_reads_11 (n + 1) (nI (d + 1)) 0 rm qm = Bm_reads_11 (Gm_reads_11 n) (nI (d + 1)) 0 rm qm := rfl
  have hd0 : ¬ nI (d + 1) ≤ 0 := by
    rw [show (0 : Int32) = nI 0 from nI_0.symm]; intro h2; have := (nI_leI (by omega) (by omega)).mp h2; omega
  rw [e0]
  unfold Bm_reads_11 Gm_reads_304
  simp only [zifQ, zifnQ, zletQ]
  rw [h.sg0 25 (by decide) rfl (xne hs (by decide) (by decide) (by decide)), h.sg0 26 (by decide) rfl (xne hs (by decide) (by decide) (by decide)), h.sg0 27 (by decide) rfl (xne hs (by decide) (by decide) (by decide)), h.sg0 23 (by decide) rfl (xne hs (by decide) (by decide) (by decide)), h.sg0 24 (by decide) rfl (xne hs (by decide) (by decide) (by decide)), h.wd0 19 (by decide) (by decide) (xne hs (by decide) (by decide) (by decide)), h.wd0 20 (by decide) (by decide) (xne hs (by decide) (by decide) (by decide)), h.sg1 22 (by decide) rfl hs]
  simp only [x10, x00, if_true, if_false, if_neg hd0, xdec, xpop379 5 d (show d < 5 by omega) (show d ≤ 5 by omega), xNx]
/-- ; at the end -/
theorem xhStop (h : xTok L b e r q rm qm) (hs : r 196 4 = nI 28) : Gm_reads_11 (n + 1) 0 0 rm qm = zc_rq (Gm_nextToken rm qm) (fun r q => ((1 : Int32), r, q)) := by
  have e0 : Gm_reads_11 (n + 1) 0 0 rm qm = Bm_reads_11 (Gm_reads_11 n) 0 0 rm qm := rfl
  rw [e0]
  unfold Bm_reads_11 Gm_reads_304 Gm_reads_399
  simp only [zifQ, zifnQ, zletQ]
  rw [h.sg0 25 (by decide) rfl (xne hs (by decide) (by decide) (by decide)), h.sg0 26 (by decide) rfl (xne hs (by decide) (by decide) (by decide)), h.sg0 27 (by decide) rfl (xne hs (by decide) (by decide) (by decide)), h.sg0 23 (by decide) rfl (xne hs (by decide) (by decide) (by decide)), h.sg0 24 (by decide) rfl (xne hs (by decide) (by decide) (by decide)), h.wd0 19 (by decide) (by decide) (xne hs (by decide) (by decide) (by decide)), h.wd0 20 (by decide) (by decide) (xne hs (by decide) (by decide) (by decide)), h.sg0 22 (by decide) rfl (xne hs (by decide) (by decide) (by decide)), h.sg1 28 (by decide) rfl hs]
  simp only [x10, x00, if_true, if_false]
/-- what can't stand there -/
theorem xhBad (h : xTok L b e r q rm qm) {d : Nat} (hd : d ≤ 5) (h25 : ¬ r 196 4 = nI 25) (h26 : ¬ r 196 4 = nI 26) (h27 : ¬ r 196 4 = nI 27) (hc : rm 14 d = 0 → ¬ r 196 4 = nI 23 ∧ ¬ r 196 4 = nI 24) (h19 : ¬ r 196 4 = nI 19) (h20 : ¬ r 196 4 = nI 20) (h22 : r 196 4 = nI 22 → d = 0) (h28 : r 196 4 = nI 28 → ¬ d = 0) : Gm_reads_11 (n + 1) (nI d) 0 rm qm = (0, (Gm_fails 1 rm qm).2, qm) := by
  have e0 : Gm_reads_11 (n + 1) (nI d) 0 rm qm = Bm_reads_11 (Gm_reads_11 n) (nI d) 0 rm qm := rfl
  have e1 : (0 : Int32) = nI 0 := nI_0.symm
  have h418 : Gm_reads_418 rm qm = (0, (Gm_fails 1 rm qm).2, qm) := rfl
  have h399 : Gm_reads_399 (nI d) rm qm = (0, (Gm_fails 1 rm qm).2, qm) := by
    unfold Gm_reads_399
    simp only [zifQ, zifnQ, zletQ]
    by_cases hd0 : d = 0
    · rw [h.sg0 28 (by decide) rfl (fun e => h28 e hd0), h418]
      by_cases h9 : nI d = 0
      · rw [if_pos h9, if_pos rfl]
      · rw [if_neg h9]
    · rw [if_neg (by rw [e1]; intro h9; exact hd0 ((nI_eq (by omega) (by omega)).mp h9)), h418]
  have h304 : Gm_reads_304 (nI d) 0 rm qm (Gm_reads_11 n) = (0, (Gm_fails 1 rm qm).2, qm) := by
    unfold Gm_reads_304
    simp only [zifQ, zifnQ, zletQ]
    rw [h.wd0 19 (by decide) (by decide) h19, h.wd0 20 (by decide) (by decide) h20, if_pos rfl, if_pos rfl, h399]
    by_cases h9 : r 196 4 = nI 22
    · rw [h.sg1 22 (by decide) rfl h9, if_neg (by decide), if_pos (by rw [h22 h9]; decide)]
    · rw [h.sg0 22 (by decide) rfl h9, if_pos rfl]
  rw [e0]
  unfold Bm_reads_11 Gm_reads_263
  simp only [zifQ, zifnQ, zletQ, xzn (show d < 2 ^ 31 by omega)]
  rw [h.sg0 25 (by decide) rfl h25, h.sg0 26 (by decide) rfl h26, h.sg0 27 (by decide) rfl h27, h304]
  simp only [x00, if_true]
  by_cases h9 : rm 14 d = 0
  · obtain ⟨h23, h24⟩ := hc h9
    rw [h.sg0 23 (by decide) rfl h23, h.sg0 24 (by decide) rfl h24, if_pos rfl, if_pos rfl]
  · rw [if_neg h9]
    simp only [ite_self]
/-- a PART is wanted: what the fact is -/
theorem xfactV (h : xTok L b e r q rm qm) : (Gk_valueHere r q = -13 ∧ Gm_fact rm qm = 0 ∧ ¬ rm 106 0 = 2) ∨ (r 196 4 = nI 30 ∧ Gm_fact rm qm = 0 ∧ rm 106 0 = 2 ∧ Gk_valueHere r q = rm 108 0 ∧ zI 0 9999 (rm 108 0)) ∨ (r 196 4 = nI 29 ∧ ∃ k, 1 ≤ k ∧ k ≤ 4 ∧ Gm_fact rm qm = nI k ∧ Gk_valueHere r q = -(nI k)) := by
  have hL := h.P.hL; have hp := h.P.hp; have hbe := h.hb
  unfold Gk_valueHere
  simp only [zifQ, zifnQ, zletQ]
  by_cases h30 : r 196 4 = 30
  · right; left
    have h2 := h.num.mpr h30
    obtain ⟨h3, h4⟩ := h.number h30
    refine ⟨h30, ?_, h2, ?_, h4⟩
    · unfold Gm_fact; simp only [zifQ, zletQ]; rw [if_neg (by rw [h2]; decide)]
    · rw [if_pos h30]; exact h3
  · have h2 : ¬ rm 106 0 = 2 := fun e => h30 (h.num.mp e)
    rw [if_neg h30]
    by_cases h29 : r 196 4 = 29
    · obtain ⟨w1, w2, w3, w4, w5⟩ := h.name h29
      have hs : ∀ t, t < 37 → Gk_spells t r q = if xsg (r 197) b (e - b) = eB.getD t [] then 1 else 0 := fun t ht => xspells ht h.B.b1 (by rw [h.P.p1]; congr 1; omega) h.P.l1 (by omega) hL
      have hf : Gm_fact rm qm = if xsg (r 197) b (e - b) = eB.getD 33 [] then 1 else if xsg (r 197) b (e - b) = eB.getD 34 [] then 2 else if xsg (r 197) b (e - b) = eB.getD 35 [] then 3 else if xsg (r 197) b (e - b) = eB.getD 36 [] then 4 else 0 := by
        have k : ∀ (t : Nat) (C : Int64), t < 37 → 33 ≤ t → C = xe27 (eB.getD t []) → (lg_cmp (xe27 (xsg (r 197) b (e - b))) C = 0 ↔ xsg (r 197) b (e - b) = eB.getD t []) := by
          intro t C h1 h2 hC
          rw [xcmp, hC]
          exact xe27_inj w1 (xwf t h1 h2)
        unfold Gm_fact
        simp only [zifQ, zifnQ, zletQ]
        rw [if_pos w4, w3]
        exact xif (k 33 _ (by decide) (by decide) (by decide)) (xif (k 34 _ (by decide) (by decide) (by decide)) (xif (k 35 _ (by decide) (by decide) (by decide)) (xif (k 36 _ (by decide) (by decide) (by decide)) rfl)))
      rw [if_pos h29, hs 33 (by decide), hs 34 (by decide), hs 35 (by decide), hs 36 (by decide), hf]
      by_cases c1 : xsg (r 197) b (e - b) = eB.getD 33 []
      · right; right
        refine ⟨h29, 1, by omega, by omega, ?_, ?_⟩
        · rw [if_pos c1]; rfl
        · rw [if_pos c1]; rfl
      · rw [if_neg c1, if_neg c1]
        by_cases c2 : xsg (r 197) b (e - b) = eB.getD 34 []
        · right; right
          refine ⟨h29, 2, by omega, by omega, ?_, ?_⟩
          · rw [if_pos c2]; rfl
          · rw [if_pos c2]; rfl
        · rw [if_neg c2, if_neg c2]
          by_cases c3 : xsg (r 197) b (e - b) = eB.getD 35 []
          · right; right
            refine ⟨h29, 3, by omega, by omega, ?_, ?_⟩
            · rw [if_pos c3]; rfl
            · rw [if_pos c3]; rfl
          · rw [if_neg c3, if_neg c3]
            by_cases c4 : xsg (r 197) b (e - b) = eB.getD 36 []
            · right; right
              refine ⟨h29, 4, by omega, by omega, ?_, ?_⟩
              · rw [if_pos c4]; rfl
              · rw [if_pos c4]; rfl
            · rw [if_neg c4, if_neg c4]
              left
              exact ⟨rfl, rfl, h2⟩
    · left
      refine ⟨by rw [if_neg h29], ?_, h2⟩
      unfold Gm_fact
      simp only [zifQ, zifnQ, zletQ]
      by_cases h1 : rm 106 0 = 1
      · have hk : xW (xsg (r 197) b (e - b)) ∧ r 196 4 = nI (xfi (xsg (r 197) b (e - b))) ∧ qm 107 0 = xe27 (xsg (r 197) b (e - b)) := by
          rcases h.k with ⟨k1, k2, _⟩ | ⟨_, ⟨k2, hw, k1, k4, k3⟩ | ⟨k2, _⟩ | ⟨k2, _⟩ | ⟨k2, _⟩⟩
          · rw [h1] at k2; exact absurd k2 (by decide)
          · exact ⟨hw, k1, k3⟩
          · rw [h1] at k2; exact absurd k2 (by decide)
          · rw [h1] at k2; exact absurd k2 (by decide)
          · rw [h1] at k2; exact absurd k2 (by decide)
        obtain ⟨hw, k1, k3⟩ := hk
        have hlt : xfi (xsg (r 197) b (e - b)) < 21 := by
          rcases xw_or hw with h9 | h9
          · exact h9
          · exact absurd (by rw [k1, h9]; rfl) h29
        have hg := xfi_get (l := xsg (r 197) b (e - b)) (by omega)
        have hd : ∀ i, i < 21 → ∀ t, t < 37 → 33 ≤ t → ¬ eB.getD i [] = eB.getD t [] := by decide +kernel
        have k : ∀ (t : Nat) (C : Int64), t < 37 → 33 ≤ t → C = xe27 (eB.getD t []) → ¬ lg_cmp (xe27 (xsg (r 197) b (e - b))) C = 0 := by
          intro t C h1 h2 hC h9
          rw [xcmp, hC, xe27_inj hw (xwf t h1 h2)] at h9
          exact hd _ hlt t h1 h2 (hg.trans h9)
        rw [if_pos h1, k3, if_neg (k 33 _ (by decide) (by decide) (by decide)), if_neg (k 34 _ (by decide) (by decide) (by decide)), if_neg (k 35 _ (by decide) (by decide) (by decide)), if_neg (k 36 _ (by decide) (by decide) (by decide))]
      · rw [if_neg h1]
/-- a PART is wanted, and none begins there -/
theorem xwBad (h : xTok L b e r q rm qm) {d : Int32} (hv : Gk_valueHere r q = -13) (h18 : ¬ r 196 4 = nI 18) (h21 : ¬ r 196 4 = nI 21) : Gm_reads_11 (n + 1) d 1 rm qm = (0, (Gm_fails 1 rm qm).2, qm) := by
  have e0 : Gm_reads_11 (n + 1) d 1 rm qm = Bm_reads_11 (Gm_reads_11 n) d 1 rm qm := rfl
  have hf : Gm_fact rm qm = 0 ∧ ¬ rm 106 0 = 2 := by
    rcases xfactV h with ⟨_, h1, h2⟩ | ⟨_, _, _, h1, h2⟩ | ⟨_, k, h1, h2, _, h3⟩
    · exact ⟨h1, h2⟩
    · rw [hv] at h1; rw [← h1] at h2; exact absurd h2.1 (by decide)
    · rw [hv] at h3
      rcases (show k = 1 ∨ k = 2 ∨ k = 3 ∨ k = 4 by omega) with rfl | rfl | rfl | rfl <;> exact absurd h3 (by decide)
  rw [e0]
  unfold Bm_reads_11
  simp only [zifQ, zifnQ, zletQ]
  rw [hf.1, h.wd0 18 (by decide) (by decide) h18, h.sg0 21 (by decide) rfl h21, if_neg (by decide), if_pos rfl, if_pos rfl, if_pos rfl, if_neg hf.2]
  exact Prod.ext rfl rfl
/-- a PART begins there -/
theorem xwGo (h : xTok L b e r q rm qm) {d : Int32} (hv : ¬ Gk_valueHere r q = -13 ∨ r 196 4 = nI 18 ∨ r 196 4 = nI 21) : Gm_reads_11 (n + 1) d 1 rm qm = Gm_reads_65 d 1 rm qm (Gm_reads_11 n) (Gm_fact rm qm) (Gm_isWord 10631 rm qm) (Gm_isSign 40 rm qm) := by
  have e0 : Gm_reads_11 (n + 1) d 1 rm qm = Bm_reads_11 (Gm_reads_11 n) d 1 rm qm := rfl
  rw [e0]
  unfold Bm_reads_11
  simp only [zifQ, zifnQ, zletQ]
  rw [if_neg (by decide)]
  rcases hv with hv | hv | hv
  · rcases xfactV h with ⟨h1, _⟩ | ⟨_, _, h1, _⟩ | ⟨_, k, h1, h2, h3, _⟩
    · exact absurd h1 hv
    · simp only [if_pos h1, ite_self]
    · rw [if_neg (by rw [h3, show (0 : Int32) = nI 0 from nI_0.symm]; intro h9; have := (nI_eq (by omega) (by omega)).mp h9; omega)]
  · have h1 := h.wd1 (C := 10631) 18 (by decide) (by decide) hv
    by_cases h9 : Gm_fact rm qm = 0
    · rw [if_pos h9, if_neg (by rw [h1]; decide)]
    · rw [if_neg h9]
  · have h1 := h.sg1 (s := 40) 21 (by decide) rfl hv
    by_cases h9 : Gm_fact rm qm = 0
    · rw [if_pos h9]
      by_cases h8 : Gm_isWord 10631 rm qm = 0
      · rw [if_pos h8, if_neg (by rw [h1]; decide)]
      · rw [if_neg h8]
    · rw [if_neg h9]
end XH
end
/-! ===== the two readers of an E, side by side ===== -/
noncomputable def xEnd (lev w : Nat) (r rm : zRr) : Prop := (1 ≤ lev → ¬ r 196 4 = nI 27) ∧ (2 ≤ lev → ¬ r 196 4 = nI 25 ∧ ¬ r 196 4 = nI 26) ∧ (3 ≤ lev → rm 14 w = 0 → ¬ r 196 4 = nI 23 ∧ ¬ r 196 4 = nI 24) ∧ (4 ≤ lev → ¬ r 196 4 = nI 19 ∧ ¬ r 196 4 = nI 20)
/-- what comes out on both sides: the same fault; or an E, and the reference goes on behind it -/
noncomputable def xEo (L b w d c lev z zF : Nat) (C0 F0 : List Int32) (r : zRr) (q : zRq) (rm : zRr) (qm : zRq) (o om : Int32 × zRr × zRq) : Prop :=
  xFe r q o.2.1 o.2.2 ∧
  ((o.1 = 0 ∧ om.1 = 0 ∧ o.2.1 196 7 = om.2.1 109 0 ∧ xRl rm qm om.2.1 om.2.2) ∨
   (o.1 = 1 ∧ ∃ b' e' n' rm1 qm1 CE FE, om = Gm_reads_11 n' (nI d) 0 rm1 qm1 ∧ b ≤ b' ∧ 1001 < n' + b' ∧ xTok L b' e' o.2.1 o.2.2 rm1 qm1 ∧ xRl rm qm rm1 qm1 ∧ xRf w c rm rm1 ∧ xEq lev (5 - w) CE FE ∧ xCod (C0 ++ CE) (F0 ++ FE) o.2.1 rm1 ∧ CE.length + b ≤ b' + z ∧ FE.length + b ≤ b' + zF ∧ xEnd lev w o.2.1 rm1))
theorem xEo.pre {L b b1 w d c lev z zF z1 zF1 : Nat} {C0 F0 : List Int32} {r r1 : zRr} {q q1 : zRq} {rm rm1 : zRr} {qm qm1 : zRq} {o om : Int32 × zRr × zRq} (hb : b ≤ b1) (hz : z1 + b ≤ z + b1 ∧ zF1 + b ≤ zF + b1) (hk : xFe r q r1 q1) (hm : xRl rm qm rm1 qm1) (hf : xRf w c rm rm1) (h : xEo L b1 w d c lev z1 zF1 C0 F0 r1 q1 rm1 qm1 o om) : xEo L b w d c lev z zF C0 F0 r q rm qm o om := by
  obtain ⟨h1, h2⟩ := h
  refine ⟨hk.tr h1, ?_⟩
  rcases h2 with ⟨a1, a2, a3, a4⟩ | ⟨a0, b', e', n', rm2, qm2, CE, FE, a1, a2, a3, a4, a5, a6, a7, a8, a9, a10, a11⟩
  · exact Or.inl ⟨a1, a2, a3, hm.tr a4⟩
  · exact Or.inr ⟨a0, b', e', n', rm2, qm2, CE, FE, a1, by omega, a3, a4, hm.tr a5, hf.tr a6, a7, a8, by omega, by omega, a11⟩
theorem xEo.bad {L b e w d c lev z zF : Nat} {C0 F0 : List Int32} {r : zRr} {q : zRq} {rm : zRr} {qm : zRq} (h : xTok L b e r q rm qm) (k : Int32) : xEo L b w d c lev z zF C0 F0 r q rm qm (0, (Gk_wrong k r q).2, q) (0, (Gm_fails k rm qm).2, qm) := by
  obtain ⟨r1, rm1, h1, h2, h3, h4, h5⟩ := h.fails k
  rw [h1, h2]
  exact ⟨⟨h4.up rfl, xFq.refl⟩, Or.inl ⟨rfl, rfl, h3, xRl.of h5 rfl⟩⟩
/-- a reader of the class, at the level w: from a token on, beside the reference's -/
noncomputable def xSim (lev w c : Nat) (K : zRr → zRq → Int32 × zRr × zRq) : Prop :=
  ∀ (L b e n : Nat) (r : zRr) (q : zRq) (rm : zRr) (qm : zRq) (C F : List Int32), xTok L b e r q rm qm → xCod C F r rm → C.length ≤ b → F.length ≤ b → 1001 < n + b → xbs (rm 13) w = w → (3 ≤ lev → rm 14 w = 0) → xEo L b w w c lev 0 0 C F r q rm qm (K r q) (Gm_reads_11 n (nI w) 1 rm qm)
noncomputable def xSimP (w : Nat) (K : zRr → zRq → Int32 × zRr × zRq) : Prop :=
  ∀ (L b e n : Nat) (r : zRr) (q : zRq) (rm : zRr) (qm : zRq) (C F : List Int32), xTok L b e r q rm qm → xCod C F r rm → C.length ≤ b → F.length ≤ b → 1001 < n + b → xEo L b w (xbs (rm 13) w) (w + 1) 0 0 0 C F r q rm qm (K r q) (Gm_reads_11 n (nI w) 1 rm qm)
theorem xSimP.s {w : Nat} {K : zRr → zRq → Int32 × zRr × zRq} (h : xSimP w K) : xSim 0 w (w + 1) K := by
  intro L b e n r q rm qm C F h1 h2 h3 h4 h5 h6 _
  have := h L b e n r q rm qm C F h1 h2 h3 h4 h5
  rw [h6] at this
  exact this
/-- which sign between two: 1: *, 2: + -, 4: and or -/
noncomputable def xJ (lev s : Nat) : Option Nat := if lev = 1 then (if s = 27 then some 6 else none) else if lev = 2 then (if s = 25 then some 4 else if s = 26 then some 5 else none) else (if s = 19 then some 0 else if s = 20 then some 1 else none)
noncomputable def xpre (lev k w : Nat) (rm : zRr) (qm : zRq) : zRr := if lev = 4 then zset (Gm_puts (xom k) rm qm) 14 (upd (Gm_puts (xom k) rm qm 14) w 0) else Gm_puts (xom k) rm qm
theorem xhJ {L b e n lev s k w : Nat} {r : zRr} {q : zRq} {rm : zRr} {qm : zRq} (h : xTok L b e r q rm qm) (hlev : lev = 1 ∨ lev = 2 ∨ lev = 4) (hs : r 196 4 = nI s) (hj : xJ lev s = some k) (hw : w ≤ 5) : Gm_reads_11 (n + 1) (nI w) 0 rm qm = xNx n (nI w) 1 (xpre lev k w rm qm) qm := by
  unfold xJ at hj
  unfold xpre
  rcases hlev with rfl | rfl | rfl
  · rw [if_pos rfl] at hj
    rw [if_neg (by decide)]
    by_cases h1 : s = 27
    · rw [if_pos h1] at hj; cases hj; subst h1; exact xhOp h (k := 6) (by omega) hs
    · rw [if_neg h1] at hj; cases hj
  · rw [if_neg (by decide), if_pos rfl] at hj
    rw [if_neg (by decide)]
    by_cases h1 : s = 25
    · rw [if_pos h1] at hj; cases hj; subst h1; exact xhOp h (k := 4) (by omega) hs
    · rw [if_neg h1] at hj
      by_cases h2 : s = 26
      · rw [if_pos h2] at hj; cases hj; subst h2; exact xhOp h (k := 5) (by omega) hs
      · rw [if_neg h2] at hj; cases hj
  · rw [if_neg (by decide), if_neg (by decide)] at hj
    rw [if_pos rfl]
    have ez : zn (nI w) = w := xzn (by omega)
    by_cases h1 : s = 19
    · rw [if_pos h1] at hj; cases hj; subst h1
      have := xhJoin (n := n) (d := nI w) h (k := 0) (by omega) hs
      rw [ez] at this; exact this
    · rw [if_neg h1] at hj
      by_cases h2 : s = 20
      · rw [if_pos h2] at hj; cases hj; subst h2
        have := xhJoin (n := n) (d := nI w) h (k := 1) (by omega) hs
        rw [ez] at this; exact this
      · rw [if_neg h2] at hj; cases hj
theorem xpre_ok {lev k w c : Nat} {C F : List Int32} {r rm : zRr} {qm : zRq} (h : xCod C F r rm) (hl : F.length < 1000) (hc : (lev = 4 → c = w)) : xCod C (F ++ [xom k]) r (xpre lev k w rm qm) ∧ zFr [12, 14, 122] rm (xpre lev k w rm qm) ∧ (∀ j, j < 1000 → xpre lev k w rm qm 12 j = rm 12 j) ∧ xRf w c rm (xpre lev k w rm qm) ∧ (lev = 4 → xpre lev k w rm qm 14 w = 0) := by
  obtain ⟨h1, h2, h3⟩ := xputs (a := xom k) (qm := qm) h hl
  unfold xpre
  by_cases h4 : lev = 4
  · rw [if_pos h4]
    refine ⟨⟨h1.c1, h1.c2, h1.f1, h1.f2⟩, (h2.up rfl).set rfl, h3, ⟨fun j _ => ?_, fun j hj => ?_⟩, fun _ => pk_us⟩
    · show Gm_puts (xom k) rm qm 13 j = _
      rw [h2 13 rfl]
    · show upd (Gm_puts (xom k) rm qm 14) w 0 j = _
      rw [pk_un (by rw [hc h4] at hj; omega), h2 14 rfl]
  · rw [if_neg h4]
    exact ⟨h1, h2.up rfl, h3, ⟨fun j _ => by rw [h2 13 rfl], fun j _ => by rw [h2 14 rfl]⟩, fun h => absurd h h4⟩
theorem xTok.pre {L b e : Nat} {r : zRr} {q : zRq} {rm rm1 : zRr} {qm : zRq} (h : xTok L b e r q rm qm) {M : List Nat} (hf : zFr M rm rm1) (hM : (M.all (fun k => [12, 13, 14, 109, 122, 136].contains k)) = true) : xTok L b e r q rm1 qm := by
  have k : ∀ a, [12, 13, 14, 109, 122, 136].contains a = false → rm1 a = rm a := fun a ha => hf a (by
    cases e : M.contains a with
    | false => rfl
    | true => have := List.all_eq_true.mp hM a (List.contains_iff_mem.mp e); rw [ha] at this; cases this)
  exact h.row rfl rfl rfl (k 0 rfl) (k 103 rfl) (k 104 rfl) (k 105 rfl) (k 106 rfl) (k 108 rfl) rfl
theorem xJ_lt {lev s k : Nat} (hlev : lev = 1 ∨ lev = 2 ∨ lev = 4) (h : xJ lev s = some k) : s < 31 ∧ ((k = 6 ∧ lev = 1 ∧ lev = 1 ∧ lev - 1 = 0) ∨ ((k = 4 ∨ k = 5) ∧ lev = 2 ∧ lev = 2 ∧ lev - 1 = 1) ∨ ((k = 2 ∨ k = 3) ∧ lev = 3 ∧ lev = 2 ∧ lev - 1 = 2) ∨ ((k = 0 ∨ k = 1) ∧ lev = 4 ∧ lev = 4 ∧ lev - 1 = 3)) := by
  unfold xJ at h
  rcases hlev with rfl | rfl | rfl
  · rw [if_pos rfl] at h
    by_cases h1 : s = 27
    · rw [if_pos h1] at h; cases h; omega
    · rw [if_neg h1] at h; cases h
  · rw [if_neg (by decide), if_pos rfl] at h
    by_cases h1 : s = 25
    · rw [if_pos h1] at h; cases h; omega
    · rw [if_neg h1] at h
      by_cases h2 : s = 26
      · rw [if_pos h2] at h; cases h; omega
      · rw [if_neg h2] at h; cases h
  · rw [if_neg (by decide), if_neg (by decide)] at h
    by_cases h1 : s = 19
    · rw [if_pos h1] at h; cases h; omega
    · rw [if_neg h1] at h
      by_cases h2 : s = 20
      · rw [if_pos h2] at h; cases h; omega
      · rw [if_neg h2] at h; cases h
theorem xEnd.none {lev w s : Nat} {r rm : zRr} (hlev : lev = 1 ∨ lev = 2 ∨ lev = 4) (h : xEnd (lev - 1) w r rm) (hs : r 196 4 = nI s) (h32 : s ≤ 32) (hj : xJ lev s = none) : xEnd lev w r rm := by
  unfold xJ at hj
  obtain ⟨a1, a2, a3, a4⟩ := h
  rcases hlev with rfl | rfl | rfl
  · rw [if_pos rfl] at hj
    refine ⟨fun _ => xne hs ?_ (by omega) (by omega), fun h => by omega, fun h => by omega, fun h => by omega⟩
    intro h1; rw [if_pos h1] at hj; cases hj
  · rw [if_neg (by decide), if_pos rfl] at hj
    refine ⟨fun _ => a1 (by decide), fun _ => ⟨xne hs ?_ (by omega) (by omega), xne hs ?_ (by omega) (by omega)⟩, fun h => by omega, fun h => by omega⟩
    · intro h1; rw [if_pos h1] at hj; cases hj
    · intro h1
      by_cases h2 : s = 25
      · omega
      · rw [if_neg h2, if_pos h1] at hj; cases hj
  · rw [if_neg (by decide), if_neg (by decide)] at hj
    refine ⟨fun _ => a1 (by decide), fun _ => a2 (by decide), fun _ => a3 (by decide), fun _ => ⟨xne hs ?_ (by omega) (by omega), xne hs ?_ (by omega) (by omega)⟩⟩
    · intro h1; rw [if_pos h1] at hj; cases hj
    · intro h1
      by_cases h2 : s = 19
      · omega
      · rw [if_neg h2, if_pos h1] at hj; cases hj
theorem xrw {α : Type} {p : zRr × zRq} {r : zRr} {q : zRq} {K : zRr → zRq → α} (h : p = (r, q)) : zc_rq p K = K r q := by rw [h]; rfl
/-- the loop over such signs -/
theorem xloop {lev w c : Nat} (hlev : lev = 1 ∨ lev = 2 ∨ lev = 4) (hw : w ≤ 5) (hc : lev = 4 → c = w) {K : zRr → zRq → Int32 × zRr × zRq} (hK : xSim (lev - 1) w c K) {loop : Nat → Int32 → zRr → zRq → Int32 × zRr × zRq}
    (hl0 : ∀ m i r q, (1000 ≤ i ∧ i ≤ 1001) → loop (m + 1) (nI i) r q = (1, r, q))
    (hln : ∀ m i s r q, i < 1000 → r 196 4 = nI s → s ≤ 32 → xJ lev s = none → loop (m + 1) (nI i) r q = (1, r, q))
    (hls : ∀ m i s k r q, i < 1000 → r 196 4 = nI s → s ≤ 32 → xJ lev s = some k → loop (m + 1) (nI i) r q = zc_rq (Gk_step r q) (fun r7 q8 => zc_vrq (K r7 q8) (fun v r11 q12 => zifn (v = 0) (loop m (nI (i + 1)) (Gk_add (xok k) r11 q12) q12) (0, r11, q12)))) :
    ∀ (m i L b e n : Nat) (r : zRr) (q : zRq) (rm : zRr) (qm : zRq) (C0 F0 CE FE : List Int32), xTok L b e r q rm qm → xCod (C0 ++ CE) (F0 ++ FE) r rm → (C0 ++ CE).length ≤ b → (F0 ++ FE).length ≤ b → 1001 < n + b → m + i = 1001 → i ≤ b → xbs (rm 13) w = w → xEq lev (5 - w) CE FE → xEnd (lev - 1) w r rm → xEo L b w w c lev CE.length FE.length C0 F0 r q rm qm (loop m (nI i) r q) (Gm_reads_11 n (nI w) 0 rm qm) := by
  intro m
  induction m with
  | zero =>
    intro i L b e n r q rm qm C0 F0 CE FE hT hC hCl hFl hn hm hi hbs hE hEnd
    have := hT.P.hp; have := hT.P.hL; have := hT.hb
    omega
  | succ m ih =>
    intro i L b e n r q rm qm C0 F0 CE FE hT hC hCl hFl hn hm hi hbs hE hEnd
    have hp := hT.P.hp; have hL := hT.P.hL; have hb := hT.hb
    obtain ⟨s, hs32, hs⟩ := hT.sort_lt
    have stop : xJ lev s = none → xEo L b w w c lev CE.length FE.length C0 F0 r q rm qm (1, r, q) (Gm_reads_11 n (nI w) 0 rm qm) := fun hj =>
      ⟨xFe.refl, Or.inr ⟨rfl, b, e, n, rm, qm, CE, FE, rfl, Nat.le_refl _, hn, hT, xRl.refl, xRf.refl, hE, hC, by omega, by omega, hEnd.none hlev hs hs32 hj⟩⟩
    by_cases hi1 : 1000 ≤ i
    · rw [hl0 m i r q ⟨hi1, by omega⟩]
      apply stop
      have h31 : r 196 4 = 31 := by
        apply Classical.byContradiction
        intro h9
        have := hT.lt h9
        omega
      have e31 : s = 31 := (nI_eq (by omega) (by omega)).mp (hs.symm.trans h31)
      cases hj : xJ lev s with
      | none => rfl
      | some k => have := (xJ_lt hlev hj).1; omega
    · cases hj : xJ lev s with
      | none => rw [hln m i s r q (by omega) hs hs32 hj]; exact stop hj
      | some k =>
        have hk := xJ_lt hlev hj
        have hlt : b < e := hT.lt (by rw [hs]; intro h9; have := (nI_eq (b := 31) (by omega) (by omega)).mp h9; omega)
        obtain ⟨n0, rfl⟩ : ∃ n0, n = n0 + 1 := ⟨n - 1, by omega⟩
        have hF1 : (F0 ++ FE).length < 1000 := by omega
        obtain ⟨p1, p2, p3, p4, p5⟩ := xpre_ok (lev := lev) (k := k) (w := w) (c := c) (qm := qm) hC hF1 hc
        rw [hls m i s k r q (by omega) hs hs32 hj, xhJ hT hlev hs hj hw]
        generalize xpre lev k w rm qm = rmp at p1 p2 p3 p4 p5 ⊢
        have hT1 := hT.pre (rm1 := rmp) p2 (by decide)
        obtain ⟨b1, e1, r7, q8, rm7, qm8, s1, s2, hT7, hb1, fk, fm⟩ := hT1.next
        unfold xNx
        rw [xrw s1, xrw s2]
        have hC7 : xCod (C0 ++ CE) (F0 ++ FE ++ [xom k]) r7 rm7 := p1.row (fk.1 192 rfl) (fk.1 193 rfl) (fm.1 122 rfl) (fm.1 12 rfl)
        have f13 : rm7 13 = rmp 13 := fm.1 13 rfl
        have f14 : rm7 14 = rmp 14 := fm.1 14 rfl
        have hbs7 : xbs (rm7 13) w = w := by rw [f13, xbs_c w (fun j hj => p4.1 j hj)]; exact hbs
        have h := hK L b1 e1 n0 r7 q8 rm7 qm8 (C0 ++ CE) (F0 ++ FE ++ [xom k]) hT7 hC7 (by omega) (by rw [List.length_append]; show _ + 1 ≤ _; omega) (by omega) hbs7 (fun h3 => by rw [f14]; exact p5 (by omega))
        have FK : xFe r q r7 q8 := xFe.k fk
        have FM : xRl rm qm rm7 qm8 := (show xRl rm qm rmp qm from ⟨p2.up rfl, xFq.refl, p3⟩).tr (xRl.m fm)
        have FF : xRf w c rm rm7 := p4.tr (xRf.row f13 f14)
        generalize K r7 q8 = o at h ⊢
        obtain ⟨v, r11, q12⟩ := o
        obtain ⟨hfe, h⟩ := h
        rcases h with ⟨a1, a2, a3, a4⟩ | ⟨a0, b', e', n', rm1, qm1, CE2, FE2, a1, a2, a3, a4, a5, a6, a7, a8, a9, a10, a11⟩
        · have a1 : v = 0 := a1
          rw [show zc_vrq (v, r11, q12) (fun v r11 q12 => zifn (v = 0) (loop m (nI (i + 1)) (Gk_add (xok k) r11 q12) q12) ((0 : Int32), r11, q12)) = (0, r11, q12) from if_pos a1]
          exact ⟨FK.tr hfe, Or.inl ⟨rfl, a2, a3, FM.tr a4⟩⟩
        · have a0 : v = 1 := a0
          rw [show zc_vrq (v, r11, q12) (fun v r11 q12 => zifn (v = 0) (loop m (nI (i + 1)) (Gk_add (xok k) r11 q12) q12) ((0 : Int32), r11, q12)) = loop m (nI (i + 1)) (Gk_add (xok k) r11 q12) q12 from if_neg (fun h9 => absurd (a0.symm.trans h9) (by decide)), a1]
          have hp' := a4.P.hp; have hb' := a4.hb
          have len2 : (C0 ++ CE ++ CE2).length = (C0 ++ CE).length + CE2.length := List.length_append
          obtain ⟨d1, d2⟩ := xadd (a := xok k) (q := q12) a8 (by omega)
          generalize Gk_add (xok k) r11 q12 = r12 at d1 d2 ⊢
          have hT12 : xTok L b' e' r12 q12 rm1 qm1 := a4.row (d2 196 rfl) (d2 197 rfl) rfl rfl rfl rfl rfl rfl rfl rfl
          have eC : C0 ++ CE ++ CE2 ++ [xok k] = C0 ++ (CE ++ CE2 ++ [xok k]) := by simp only [List.append_assoc]
          have eF : F0 ++ FE ++ [xom k] ++ FE2 = F0 ++ (FE ++ xom k :: FE2) := by simp only [List.append_assoc, List.singleton_append]
          rw [eC, eF] at d1
          have lC : (C0 ++ (CE ++ CE2 ++ [xok k])).length = (C0 ++ CE).length + CE2.length + 1 := by rw [← eC, List.length_append, len2]; rfl
          have lF : (F0 ++ (FE ++ xom k :: FE2)).length = (F0 ++ FE).length + 1 + FE2.length := by rw [← eF]; simp only [List.length_append, List.length_cons, List.length_nil]
          have lC2 : (CE ++ CE2 ++ [xok k]).length = CE.length + CE2.length + 1 := by simp only [List.length_append, List.length_cons, List.length_nil]
          have lF2 : (FE ++ xom k :: FE2).length = FE.length + 1 + FE2.length := by simp only [List.length_append, List.length_cons]; omega
          have hE2 : xEq lev (5 - w) (CE ++ CE2 ++ [xok k]) (FE ++ xom k :: FE2) := xEq.bin (l1 := lev) (l2 := lev - 1) (by have := hk.2; omega) hE a7
          have hEnd2 : xEnd (lev - 1) w r12 rm1 := by
            unfold xEnd at a11 ⊢
            rw [d2 196 rfl]; exact a11
          have hbs1 : xbs (rm1 13) w = w := by rw [xbs_c w (fun j hj => a6.1 j hj)]; exact hbs7
          have h2 := ih (i + 1) L b' e' n' r12 q12 rm1 qm1 C0 F0 (CE ++ CE2 ++ [xok k]) (FE ++ xom k :: FE2) hT12 d1 (by omega) (by omega) a3 (by omega) (by omega) hbs1 hE2 hEnd2
          exact h2.pre (by omega) (by omega) ((FK.tr hfe).tr (xFe.of d2 rfl)) (FM.tr a5) (FF.tr a6)
theorem xlevel {lev w c : Nat} (hlev : lev = 1 ∨ lev = 2 ∨ lev = 4) (hw : w ≤ 5) (hc : lev = 4 → c = w) {K K' : zRr → zRq → Int32 × zRr × zRq} (hK : xSim (lev - 1) w c K) {loop : Nat → Int32 → zRr → zRq → Int32 × zRr × zRq}
    (hl0 : ∀ m i r q, (1000 ≤ i ∧ i ≤ 1001) → loop (m + 1) (nI i) r q = (1, r, q))
    (hln : ∀ m i s r q, i < 1000 → r 196 4 = nI s → s ≤ 32 → xJ lev s = none → loop (m + 1) (nI i) r q = (1, r, q))
    (hls : ∀ m i s k r q, i < 1000 → r 196 4 = nI s → s ≤ 32 → xJ lev s = some k → loop (m + 1) (nI i) r q = zc_rq (Gk_step r q) (fun r7 q8 => zc_vrq (K r7 q8) (fun v r11 q12 => zifn (v = 0) (loop m (nI (i + 1)) (Gk_add (xok k) r11 q12) q12) (0, r11, q12))))
    (hK' : ∀ r q, K' r q = zc_vrq (K r q) (fun v r1 q1 => zifn (v = 0) (loop 1001 (nI 0) r1 q1) (0, r1, q1))) : xSim lev w c K' := by
  intro L b e n r q rm qm C F hT hC hCl hFl hn hbs h3
  have h := hK L b e n r q rm qm C F hT hC hCl hFl hn hbs (fun h9 => h3 (by omega))
  rw [hK']
  generalize K r q = o at h ⊢
  obtain ⟨v, r11, q12⟩ := o
  obtain ⟨hfe, h⟩ := h
  rcases h with ⟨a1, a2, a3, a4⟩ | ⟨a0, b', e', n', rm1, qm1, CE2, FE2, a1, a2, a3, a4, a5, a6, a7, a8, a9, a10, a11⟩
  · have a1 : v = 0 := a1
    rw [show zc_vrq (v, r11, q12) (fun v r1 q1 => zifn (v = 0) (loop 1001 (nI 0) r1 q1) ((0 : Int32), r1, q1)) = (0, r11, q12) from if_pos a1]
    exact ⟨hfe, Or.inl ⟨rfl, a2, a3, a4⟩⟩
  · have a0 : v = 1 := a0
    rw [show zc_vrq (v, r11, q12) (fun v r1 q1 => zifn (v = 0) (loop 1001 (nI 0) r1 q1) ((0 : Int32), r1, q1)) = loop 1001 (nI 0) r11 q12 from if_neg (fun h9 => absurd (a0.symm.trans h9) (by decide)), a1]
    have hp' := a4.P.hp; have hb' := a4.hb; have hL := a4.P.hL
    have hbs1 : xbs (rm1 13) w = w := by rw [xbs_c w (fun j hj => a6.1 j hj)]; exact hbs
    have len2 : (C ++ CE2).length = C.length + CE2.length := List.length_append
    have lenF : (F ++ FE2).length = F.length + FE2.length := List.length_append
    have hup : xEq lev (5 - w) CE2 FE2 := by
      have := a7.up
      rw [show lev - 1 + 1 = lev by omega] at this
      exact this
    have h2 := xloop hlev hw hc hK hl0 hln hls 1001 0 L b' e' n' r11 q12 rm1 qm1 C F CE2 FE2 a4 a8 (by omega) (by omega) a3 (by omega) (by omega) hbs1 hup a11
    exact h2.pre a2 (by omega) hfe a5 a6
