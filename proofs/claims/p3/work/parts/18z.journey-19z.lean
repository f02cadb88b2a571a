section
/-! ===== the lines of a JOURNEY, on both sides ===== -/
/-- a line under way: its place is n -/
noncomputable def xQd (t p n : Nat) (r rm : zRr) : Prop := r 142 3 = nI (n + 1) ∧ rm 25 5 = nI n ∧ n < 40 ∧ ∀ k, k < n → r 143 k = rm 26 (200 + k) ∧ (¬ r 143 k = 3 → r 144 k = rm 27 (200 + k)) ∧ (r 143 k = 0 ∨ r 143 k = 1 → r 145 k = rm 28 (200 + k)) ∧ xBd t p (r 143 k) (r 144 k) (r 145 k)
noncomputable def xKh (n : Nat) (d : Int32) (r : zRr) : zRr := xs (xs (xs (xs r 142 3 (nI (n + 1))) 143 n d) 144 n 0) 145 n 0
noncomputable def xMd (n : Nat) (rm : zRr) : zRr := xs (xs rm 28 (200 + n) (rm 136 0)) 25 5 (xs rm 28 (200 + n) (rm 136 0) 25 5 + 1)
noncomputable def xWJ (o : Int32 × zRr × zRq) : Int32 × zRr × zRq := zc_vrq o (fun v a b => if v = 0 then ((0 : Int32), a, b) else ((1 : Int32), a, b))
noncomputable def x87 (n : Nat) (r : zRr) (q : zRq) : Int32 × zRr × zRq := if r 145 n = -1 then ((0 : Int32), r, q) else ((1 : Int32), r, q)
noncomputable def xKD (n : Nat) (r : zRr) (q : zRq) : Int32 × zRr × zRq :=
  if r 143 n = 1 then zc_vrq (Gk_takeNumber 1 20 r q) (fun v a b => x87 n (zset a 145 (upd (a 145) n v)) b)
  else if r 143 n = 0 then zc_vr (Gk_townHere r q) (fun v a => if (zset a 145 (upd (a 145) n v)) 145 n = -1 then x87 n (zset a 145 (upd (a 145) n v)) q else zc_rq (Gk_step (zset a 145 (upd (a 145) n v)) q) (fun a b => x87 n a b))
  else x87 n r q
section XQ
variable {t p n : Nat} {r r1 : zRr} {q q1 : zRq} {rm rm1 : zRr} {qm qm1 : zRq}
theorem xQd.tok (h : xQd t p n r rm) (fk : xFk r q r1 q1) (fm : xFm9 rm qm rm1 qm1) : xQd t p n r1 rm1 := by
  unfold xQd at h ⊢
  rw [fk.1 142 rfl, fk.1 143 rfl, fk.1 144 rfl, fk.1 145 rfl, fm.1 25 rfl, fm.1 26 rfl, fm.1 27 rfl, fm.1 28 rfl]
  exact h
theorem xQd.k (h : xQd t p n r rm) {a : Nat} {v : Int32} (ha : a = 143 ∨ a = 144 ∨ a = 145) : xQd t p n (zset r a (upd (r a) n v)) rm := by
  obtain ⟨h1, h2, h3, h4⟩ := h
  refine ⟨by rw [zset_ne (by omega)]; exact h1, h2, h3, fun k hk => ?_⟩
  have e : ∀ c, zset r a (upd (r a) n v) c k = r c k := by
    intro c
    by_cases e : c = a
    · subst e; rw [zset_eq, pk_un (by omega)]
    · rw [zset_ne e]
  rw [e 143, e 144, e 145]
  exact h4 k hk
theorem xQd.m (h : xQd t p n r rm) {a : Nat} {v : Int32} (ha : 26 ≤ a ∧ a ≤ 28) : xQd t p n r (zset rm a (upd (rm a) (200 + n) v)) := by
  obtain ⟨h1, h2, h3, h4⟩ := h
  refine ⟨h1, by rw [zset_ne (by omega)]; exact h2, h3, fun k hk => ?_⟩
  have e : ∀ c, zset rm a (upd (rm a) (200 + n) v) c (200 + k) = rm c (200 + k) := by
    intro c
    by_cases e : c = a
    · subst e; rw [zset_eq, pk_un (by omega)]
    · rw [zset_ne e]
  rw [e 26, e 27, e 28]
  exact h4 k hk
theorem xQd.done (h : xQd t p n r rm) (e1 : r 143 n = rm 26 (200 + n)) (e2 : ¬ r 143 n = 3 → r 144 n = rm 27 (200 + n)) (e3 : r 143 n = 0 ∨ r 143 n = 1 → r 145 n = rm 28 (200 + n)) (e4 : xBd t p (r 143 n) (r 144 n) (r 145 n)) : xPd t p (n + 1) r (zset rm 25 (upd (rm 25) 5 (rm 25 5 + 1))) := by
  obtain ⟨h1, h2, h3, h4⟩ := h
  refine ⟨h1, by rw [zset_eq, pk_us, h2, nI_1], by omega, fun k hk => ?_⟩
  rw [zset_ne (show 26 ≠ 25 by decide), zset_ne (show 27 ≠ 25 by decide), zset_ne (show 28 ≠ 25 by decide)]
  by_cases e : k = n
  · subst e; exact ⟨e1, e2, e3, e4⟩
  · exact h4 k (by omega)
theorem xPd.head (h : xPd t p n r rm) (hn : n < 40) {d : Int32} : xQd t p n (xKh n d r) rm := by
  obtain ⟨h1, h2, h3, h4⟩ := h
  refine ⟨?_, h2, hn, fun k hk => ?_⟩
  · show upd (r 142) 3 (nI (n + 1)) 3 = nI (n + 1)
    rw [pk_us]
  · show upd (r 143) n d k = rm 26 (200 + k) ∧ (¬ upd (r 143) n d k = 3 → upd (r 144) n 0 k = rm 27 (200 + k)) ∧ (upd (r 143) n d k = 0 ∨ upd (r 143) n d k = 1 → upd (r 145) n 0 k = rm 28 (200 + k)) ∧ xBd t p (upd (r 143) n d k) (upd (r 144) n 0 k) (upd (r 145) n 0 k)
    have c : k ≠ n := by omega
    rw [pk_un (f := r 143) c, pk_un (f := r 144) c, pk_un (f := r 145) c]
    exact h4 k hk
theorem xWJ0 : xWJ (0, r, q) = (0, r, q) := by
  unfold xWJ; rw [xcvrq (r := r), if_pos rfl]
theorem xWJ1 : xWJ (1, r, q) = (1, r, q) := by
  unfold xWJ; rw [xcvrq (r := r), if_neg (show ¬ (1 : Int32) = 0 by decide)]
theorem xlineJk {d : Int32} (h3 : r 142 3 = nI n) (hn : n < 40) (hd : Gk_deedHere r q = d) (h1 : ¬ d = -1) : Gk_readLineJ r q = zc_rq (Gk_step (xKh n d r) q) (fun a b => if d = 3 then ((1 : Int32), a, b) else xWJ (Gk_readDoer (nI n) a b)) := by
  have c40 : nI n < 40 := (nI_ltI (b := 40) (by omega) (by omega)).mpr hn
  unfold Gk_readLineJ xKh xWJ
  simp only [zifQ, zifnQ, zletQ, hd, if_neg h1, h3, if_pos c40, xs, nI_1, xzn (show n < 2 ^ 31 by omega)]
theorem xdoer (hn : n < 40) : Gk_readDoer (nI n) r q = zc_vr (Gk_personHere r q) (fun v a => if zset a 144 (upd (a 144) n v) 144 n = -1 then ((0 : Int32), zset a 144 (upd (a 144) n v), q) else zc_rq (Gk_step (zset a 144 (upd (a 144) n v)) q) (fun a b => xKD n a b)) := by
  unfold Gk_readDoer xKD x87 Gk_readDoer_87
  simp only [zifQ, zifnQ, zletQ, xzn (show n < 2 ^ 31 by omega)]
end XQ
section XJL
variable {L b b1 e1 n t p : Nat} {d : Int32} {r r1 : zRr} {q q1 : zRq} {rm rm1 : zRr} {qm qm1 : zRq}
/-- the line is told: ; must stand there -/
theorem xJend (hT : xTok L b1 e1 r1 q1 rm1 qm1) (hb : b < b1) (hQ : xQd t p n r1 rm1) (g1 : r1 143 n = rm1 26 (200 + n)) (g2 : ¬ r1 143 n = 3 → r1 144 n = rm1 27 (200 + n)) (g3 : r1 143 n = 0 ∨ r1 143 n = 1 → r1 145 n = rm1 136 0) (g4 : xBd t p (r1 143 n) (r1 144 n) (r1 145 n)) (hk : xJk r q r1 q1) (hm : xJm rm qm rm1 qm1) : xJo t p L b r q rm qm (xCL (1, r1, q1)) (Gm_closes (xMd n rm1) qm1) := by
  have hQ2 := hQ.m (a := 28) (v := rm1 136 0) ⟨by omega, by omega⟩
  have hP : xPd t p (n + 1) r1 (xMd n rm1) := by
    refine hQ2.done ?_ ?_ ?_ g4
    · rw [zset_ne (by decide)]; exact g1
    · rw [zset_ne (by decide)]; exact g2
    · rw [zset_eq, pk_us]; exact g3
  exact xJo.close (hT.row rfl rfl rfl rfl rfl rfl rfl rfl rfl rfl) hb hP hk ((hm.cell (k := 28) (j := 200 + n) (v := rm1 136 0) ⟨by omega, by omega⟩ (by omega)).cnt)
/-- the person of a line -/
theorem xJperson (hn : n < 40) (hT : xTok L b1 e1 r1 q1 rm1 qm1) (hb : b < b1) (hD : xTd t p r1 q1 rm1 qm1) (hQ : xQd t p n r1 rm1) (h1 : r1 143 n = d) (h2 : rm1 26 (200 + n) = d) (hj : r1 145 n = 0) (hk : xJk r q r1 q1) (hm : xJm rm qm rm1 qm1) (MM : zRr → zRq → Int32 × zRr × zRq)
    (main : ∀ b2 e2 r2 q2 rm2 qm2, xTok L b2 e2 r2 q2 rm2 qm2 → b < b2 → xTd t p r2 q2 rm2 qm2 → xQd t p n r2 rm2 → r2 143 n = d → rm2 26 (200 + n) = d → r2 144 n = rm2 27 (200 + n) → (∃ j, j < p ∧ r2 144 n = nI j) → r2 145 n = 0 → xJk r q r2 q2 → xJm rm qm rm2 qm2 → xJo t p L b r q rm qm (xCL (xWJ (xKD n r2 q2))) (MM rm2 qm2)) :
    xJo t p L b r q rm qm (xCL (xWJ (Gk_readDoer (nI n) r1 q1))) (zc_vr (Gm_needsPerson rm1 qm1) (fun v a => if v = 0 then ((0 : Int32), a, qm1) else zc_rq (Gm_nextToken (zset a 27 (upd (a 27) (200 + n) (a 136 0))) qm1) (fun a b => MM a b))) := by
  rw [xdoer hn]
  rcases xhereP hT hD with ⟨r2, rm2, p1, p2, p3, p4, p5⟩ | ⟨j, hj6, p1, p2, p3⟩
  · rw [p1, p2, xcvr (r := r2), xcvr (r := rm2), if_pos (show zset r2 144 (upd (r2 144) n (-1)) 144 n = -1 by rw [zset_eq, pk_us]), if_pos rfl, xWJ0]
    exact xJo.fail ((hk.k ⟨p4, xFq.refl⟩).set (by decide)) (hm.m ⟨p5.up rfl, xFq.refl⟩) p3
  · have hp6 := hD.2.1.2.2
    obtain ⟨n1, n2, n3⟩ := xnn (j := j) (by omega)
    rw [p1, p2, xcvr (r := r1), xcvr (r := zset rm1 136 (fun _ => nI j)), if_neg (show ¬ zset r1 144 (upd (r1 144) n (nI j)) 144 n = -1 by rw [zset_eq, pk_us]; exact n3), if_neg (show ¬ (1 : Int32) = 0 by decide)]
    have hTa : xTok L b1 e1 (zset r1 144 (upd (r1 144) n (nI j))) q1 (zset (zset rm1 136 (fun _ => nI j)) 27 (upd (zset rm1 136 (fun _ => nI j) 27) (200 + n) (zset rm1 136 (fun _ => nI j) 136 0))) qm1 := hT.row rfl rfl rfl rfl rfl rfl rfl rfl rfl rfl
    obtain ⟨b2, e2, r2, q2, rm2, qm2, s1, s2, hT2, hb2, fk, fm⟩ := hTa.next
    have hlt := hT.lt (show ¬ r1 196 4 = 31 by rw [p3]; decide)
    have f136 : xFm9 rm1 qm1 (zset rm1 136 (fun _ => nI j)) qm1 := ⟨zFr.refl.set rfl, xFq.refl⟩
    have hk2 : xJk r1 q1 r2 q2 := (xJk.refl.set (k := 144) (by decide)).k fk
    have hm2 : xJm rm1 qm1 rm2 qm2 := ((xJm.refl.m f136).cell (k := 27) (j := 200 + n) ⟨by omega, by omega⟩ (by omega)).m (xFm9.m fm)
    rw [xrw s1, xrw s2]
    refine main b2 e2 r2 q2 rm2 qm2 hT2 (by omega) (hD.j hk2 hm2) ?_ ?_ ?_ ?_ ⟨j, hj6, ?_⟩ ?_ (hk.tr hk2) (hm.tr hm2)
    · exact (((hQ.k (a := 144) (v := nI j) (Or.inr (Or.inl rfl))).tok (q := q1) (q1 := q1) xFk.refl f136).m (a := 27) ⟨by omega, by omega⟩).tok fk (xFm9.m fm)
    · rw [fk.1 143 rfl]; exact h1
    · rw [fm.1 26 rfl]; exact h2
    · rw [fk.1 144 rfl, fm.1 27 rfl]
      show upd (r1 144) n (nI j) n = upd (rm1 27) (200 + n) (nI j) (200 + n)
      rw [pk_us, pk_us]
    · rw [fk.1 144 rfl]
      show upd (r1 144) n (nI j) n = nI j
      rw [pk_us]
    · rw [fk.1 145 rfl]; exact hj
/-- SHAVE -/
theorem xJshave (hT : xTok L b1 e1 r1 q1 rm1 qm1) (hb : b < b1) (hQ : xQd t p n r1 rm1) (h1 : r1 143 n = 2) (h2 : rm1 26 (200 + n) = 2) (h3 : r1 144 n = rm1 27 (200 + n)) (h4 : ∃ j, j < p ∧ r1 144 n = nI j) (hj : r1 145 n = 0) (hk : xJk r q r1 q1) (hm : xJm rm qm rm1 qm1) : xJo t p L b r q rm qm (xCL (xWJ (xKD n r1 q1))) (Gm_closes (xMd n rm1) qm1) := by
  have e : xKD n r1 q1 = (1, r1, q1) := by
    unfold xKD x87
    rw [if_neg (show ¬ r1 143 n = 1 by rw [h1]; decide), if_neg (show ¬ r1 143 n = 0 by rw [h1]; decide), if_neg (show ¬ r1 145 n = -1 by rw [hj]; decide)]
  rw [e, xWJ1]
  exact xJend hT hb hQ (h1.trans h2.symm) (fun _ => h3) (fun h9 => by rw [h1] at h9; exact absurd h9 (by decide)) ⟨Or.inr (Or.inr (Or.inl h1)), fun _ => h4, fun h9 => by rw [h1] at h9; exact absurd h9 (by decide), fun h9 => by rw [h1] at h9; exact absurd h9 (by decide)⟩ hk hm
/-- FORGE: its inches -/
theorem xJforge (hT : xTok L b1 e1 r1 q1 rm1 qm1) (hb : b < b1) (hQ : xQd t p n r1 rm1) (h1 : r1 143 n = 1) (h2 : rm1 26 (200 + n) = 1) (h3 : r1 144 n = rm1 27 (200 + n)) (h4 : ∃ j, j < p ∧ r1 144 n = nI j) (hk : xJk r q r1 q1) (hm : xJm rm qm rm1 qm1) : xJo t p L b r q rm qm (xCL (xWJ (xKD n r1 q1))) (zc_vrq (Gm_needsNumber 1 20 rm1 qm1) (fun v a b => if v = 0 then ((0 : Int32), a, b) else Gm_closes (xMd n a) b)) := by
  unfold xKD
  rw [if_pos h1]
  have k2 := xnum hT (lo := 1) (hi := 20) (by decide)
  generalize Gk_takeNumber 1 20 r1 q1 = o at k2 ⊢
  generalize Gm_needsNumber 1 20 rm1 qm1 = om at k2 ⊢
  obtain ⟨v, r3, q3⟩ := o
  obtain ⟨w, rm3, qm3⟩ := om
  obtain ⟨fk, fm, k2⟩ := k2
  have fk : xFk r1 q1 r3 q3 := fk
  have fm : xFm9 rm1 qm1 rm3 qm3 := fm
  rw [xcvrq (r := r3), xcvrq (r := rm3)]
  unfold x87
  rcases k2 with ⟨c1, c2, c3⟩ | ⟨c1, c2, c3, b4, e4, c4, hT5⟩
  · have c1 : v = -1 := c1
    have c2 : w = 0 := c2
    rw [if_pos c2, if_pos (show zset r3 145 (upd (r3 145) n v) 145 n = -1 by rw [zset_eq, pk_us]; exact c1), xWJ0]
    exact xJo.fail ((hk.k fk).set (by decide)) (hm.m fm) c3
  · have c1 : w = 1 := c1
    have c2 : v = rm3 136 0 := c2
    have c3 : zI 1 20 v := c3
    have hT5 : xTok L b4 e4 r3 q3 rm3 qm3 := hT5
    rw [if_neg (show ¬ w = 0 by rw [c1]; decide), if_neg (show ¬ zset r3 145 (upd (r3 145) n v) 145 n = -1 by rw [zset_eq, pk_us]; intro h9; rw [h9] at c3; exact absurd c3.1 (by decide)), xWJ1]
    refine xJend (r1 := zset r3 145 (upd (r3 145) n v)) (hT5.row rfl rfl rfl rfl rfl rfl rfl rfl rfl rfl) (by omega) ((hQ.tok fk fm).k (Or.inr (Or.inr rfl))) ?_ (fun _ => ?_) (fun _ => ?_) ?_ ((hk.k fk).set (by decide)) (hm.m fm)
    · show r3 143 n = rm3 26 (200 + n)
      rw [fk.1 143 rfl, fm.1 26 rfl, h1, h2]
    · show r3 144 n = rm3 27 (200 + n)
      rw [fk.1 144 rfl, fm.1 27 rfl]; exact h3
    · show upd (r3 145) n v n = rm3 136 0
      rw [pk_us]; exact c2
    · show xBd t p (r3 143 n) (r3 144 n) (upd (r3 145) n v n)
      rw [pk_us, fk.1 143 rfl, fk.1 144 rfl, h1]
      obtain ⟨z1, z2⟩ := c3.ix (n := 21) (by decide)
      have z3 := c3.nn (by decide)
      exact ⟨Or.inr (Or.inl rfl), fun _ => h4, fun h9 => absurd h9 (by decide), fun _ => ⟨_, by omega, by omega, z1⟩⟩
/-- GO: its town -/
theorem xJgo (hT : xTok L b1 e1 r1 q1 rm1 qm1) (hb : b < b1) (hD : xTd t p r1 q1 rm1 qm1) (hQ : xQd t p n r1 rm1) (h1 : r1 143 n = 0) (h2 : rm1 26 (200 + n) = 0) (h3 : r1 144 n = rm1 27 (200 + n)) (h4 : ∃ j, j < p ∧ r1 144 n = nI j) (hk : xJk r q r1 q1) (hm : xJm rm qm rm1 qm1) : xJo t p L b r q rm qm (xCL (xWJ (xKD n r1 q1))) (zc_vr (Gm_needsTown0 rm1 qm1) (fun v a => if v = 0 then ((0 : Int32), a, qm1) else zc_rq (Gm_nextToken a qm1) (fun a b => Gm_closes (xMd n a) b))) := by
  unfold xKD
  rw [if_neg (show ¬ r1 143 n = 1 by rw [h1]; decide), if_pos h1]
  rcases xhereT hT hD with ⟨r2, rm2, p1, p2, p3, p4, p5⟩ | ⟨j, hj6, p1, p2, p3⟩
  · have e : x87 n (zset r2 145 (upd (r2 145) n (-1))) q1 = (0, zset r2 145 (upd (r2 145) n (-1)), q1) := by
      unfold x87
      rw [if_pos (show zset r2 145 (upd (r2 145) n (-1)) 145 n = -1 by rw [zset_eq, pk_us])]
    rw [p1, p2, xcvr (r := r2), xcvr (r := rm2), if_pos (show zset r2 145 (upd (r2 145) n (-1)) 145 n = -1 by rw [zset_eq, pk_us]), if_pos rfl, e, xWJ0]
    exact xJo.fail ((hk.k ⟨p4, xFq.refl⟩).set (by decide)) (hm.m ⟨p5.up rfl, xFq.refl⟩) p3
  · have ht6 := hD.1.2.2
    obtain ⟨n1, n2, n3⟩ := xnn (j := j) (by omega)
    rw [p1, p2, xcvr (r := r1), xcvr (r := zset rm1 136 (fun _ => nI j)), if_neg (show ¬ zset r1 145 (upd (r1 145) n (nI j)) 145 n = -1 by rw [zset_eq, pk_us]; exact n3), if_neg (show ¬ (1 : Int32) = 0 by decide)]
    have hTa : xTok L b1 e1 (zset r1 145 (upd (r1 145) n (nI j))) q1 (zset rm1 136 (fun _ => nI j)) qm1 := hT.row rfl rfl rfl rfl rfl rfl rfl rfl rfl rfl
    obtain ⟨b2, e2, r2, q2, rm2, qm2, s1, s2, hT2, hb2, fk, fm⟩ := hTa.next
    have hlt := hT.lt (show ¬ r1 196 4 = 31 by rw [p3]; decide)
    have f136 : xFm9 rm1 qm1 (zset rm1 136 (fun _ => nI j)) qm1 := ⟨zFr.refl.set rfl, xFq.refl⟩
    have e145 : r2 145 n = nI j := by
      rw [fk.1 145 rfl]
      show upd (r1 145) n (nI j) n = nI j
      rw [pk_us]
    have e87 : x87 n r2 q2 = (1, r2, q2) := by
      unfold x87
      rw [if_neg (show ¬ r2 145 n = -1 by rw [e145]; exact n3)]
    rw [xrw s1, xrw s2, e87, xWJ1]
    refine xJend hT2 (by omega) (((hQ.k (a := 145) (v := nI j) (Or.inr (Or.inr rfl))).tok (q := q1) (q1 := q1) xFk.refl f136).tok fk (xFm9.m fm)) ?_ (fun _ => ?_) (fun _ => ?_) ?_ ((hk.set (k := 145) (by decide)).k fk) ((hm.m f136).m (xFm9.m fm))
    · rw [fk.1 143 rfl, fm.1 26 rfl]; exact h1.trans h2.symm
    · rw [fk.1 144 rfl, fm.1 27 rfl]; exact h3
    · rw [e145, fm.1 136 rfl]; rfl
    · have h144 : r2 144 n = r1 144 n := by rw [fk.1 144 rfl]; rfl
      have h143 : r2 143 n = 0 := by rw [fk.1 143 rfl]; exact h1
      rw [e145, h143, h144]
      exact ⟨Or.inl rfl, fun _ => h4, fun _ => ⟨j, hj6, rfl⟩, fun h9 => absurd h9 (by decide)⟩
end XJL
end
section
/-! ===== all lines of a JOURNEY ===== -/
section XJA
variable {L b e n t p : Nat} {r : zRr} {q : zRq} {rm : zRr} {qm : zRq}
theorem xdeed : Gk_deedHere r q = if r 196 4 = 10 then 0 else if r 196 4 = 11 then 1 else if r 196 4 = 12 then 2 else if r 196 4 = 13 then 3 else -1 := by
  unfold Gk_deedHere
  simp only [zifnQ, zletQ]
/-- both sides step over the deed's word -/
theorem xJhead (h : xTok L b e r q rm qm) (hD : xTd t p r q rm qm) (hP : xPd t p n r rm) (hn : n < 40) (hs : ¬ r 196 4 = 31) (d : Int32) : ∃ b1 e1 r1 q1 rm1 qm1, Gk_step (xKh n d r) q = (r1, q1) ∧ Gm_nextToken rm qm = (rm1, qm1) ∧ b < b1 ∧ xTok L b1 e1 r1 q1 rm1 qm1 ∧ xTd t p r1 q1 rm1 qm1 ∧ xQd t p n r1 rm1 ∧ r1 143 n = d ∧ r1 145 n = 0 ∧ rm1 25 5 = nI n ∧ xJk r q r1 q1 ∧ xJm rm qm rm1 qm1 := by
  have hTa : xTok L b e (xKh n d r) q rm qm := h.row rfl rfl rfl rfl rfl rfl rfl rfl rfl rfl
  obtain ⟨b1, e1, r1, q1, rm1, qm1, s1, s2, hT1, hb1, fk, fm⟩ := hTa.next
  have hlt := h.lt hs
  have hk0 : xJk r q (xKh n d r) q := (((xJk.refl.set (k := 142) (by decide)).set (k := 143) (by decide)).set (k := 144) (by decide)).set (k := 145) (by decide)
  have hk : xJk r q r1 q1 := hk0.k fk
  have hm : xJm rm qm rm1 qm1 := xJm.refl.m (xFm9.m fm)
  refine ⟨b1, e1, r1, q1, rm1, qm1, s1, s2, by omega, hT1, hD.j hk hm, (hP.head hn).tok fk (xFm9.m fm), ?_, ?_, ?_, hk, hm⟩
  · rw [fk.1 143 rfl]
    show upd (r 143) n d n = d
    rw [pk_us]
  · rw [fk.1 145 rfl]
    show upd (r 145) n 0 n = 0
    rw [pk_us]
  · rw [fm.1 25 rfl]; exact hP.2.1
theorem xlJ (h : xTok L b e r q rm qm) (hD : xTd t p r q rm qm) (hP : xPd t p n r rm) (hs : ¬ r 196 4 = 31) : xJo t p L b r q rm qm (xCL (Gk_readLineJ r q)) (Gm_readsLine rm qm) := by
  have w10 := h.word (C := 204) 10 (by decide) (by decide)
  have w11 := h.word (C := 3497207) 11 (by decide) (by decide)
  have w12 := h.word (C := 10256171) 12 (by decide) (by decide)
  have w13 := h.word (C := 456500) 13 (by decide) (by decide)
  rw [show nI 10 = (10 : Int32) from rfl] at w10
  rw [show nI 11 = (11 : Int32) from rfl] at w11
  rw [show nI 12 = (12 : Int32) from rfl] at w12
  rw [show nI 13 = (13 : Int32) from rfl] at w13
  have e3 : r 142 3 = nI n := hP.1
  have e25 : rm 25 5 = nI n := hP.2.1
  have hn40 : n ≤ 40 := hP.2.2.1
  have e200 : (200 : Int32) + nI n = nI (200 + n) := nI_add 200 n
  have z200 : zn (nI (200 + n)) = 200 + n := xzn (by omega)
  by_cases hn : n < 40
  · have c40 : ¬ nI n = 40 := fun h9 => by have := (nI_eq (b := 40) (by omega) (by omega)).mp h9; omega
    unfold Gm_readsLine
    simp only [zifQ, zifnQ, zletQ, xfm, xeta, w10, w11, w12, w13, e25, if_neg c40]
    by_cases c0 : r 196 4 = 10
    · simp only [if_pos c0, x10, if_false]
      have hd : Gk_deedHere r q = 0 := by rw [xdeed, if_pos c0]
      rw [xlineJk e3 hn hd (by decide)]
      obtain ⟨b1, e1, r1, q1, rm1, qm1, s1, s2, hb1, hT1, hD1, hQ1, g1, g2, g3, hk, hm⟩ := xJhead h hD hP hn hs 0
      rw [xrw s1, xrw s2, if_neg (show ¬ (0 : Int32) = 3 by decide)]
      simp only [g3, e200, z200]
      have hm1 := hm.cell (k := 26) (j := 200 + n) (v := 0) ⟨by omega, by omega⟩ (by omega)
      refine xJperson (d := 0) (rm1 := zset rm1 26 (upd (rm1 26) (200 + n) 0)) hn (hT1.row rfl rfl rfl rfl rfl rfl rfl rfl rfl rfl) hb1 (hD1.j xJk.refl (xJm.refl.cell (k := 26) (j := 200 + n) (v := 0) ⟨by omega, by omega⟩ (by omega))) (hQ1.m ⟨by omega, by omega⟩) g1 (by rw [zset_eq, pk_us]) g2 hk hm1 _ ?_
      intro b2 e2 r2 q2 rm2 qm2 k1 k2 k3 k4 k5 k6 k7 kb k8 k9 k10
      exact xJgo k1 k2 k3 k4 k5 k6 k7 kb k9 k10
    · simp only [if_neg c0, if_true]
      by_cases c1 : r 196 4 = 11
      · simp only [if_pos c1, x10, if_false]
        have hd : Gk_deedHere r q = 1 := by rw [xdeed, if_neg c0, if_pos c1]
        rw [xlineJk e3 hn hd (by decide)]
        obtain ⟨b1, e1, r1, q1, rm1, qm1, s1, s2, hb1, hT1, hD1, hQ1, g1, g2, g3, hk, hm⟩ := xJhead h hD hP hn hs 1
        rw [xrw s1, xrw s2, if_neg (show ¬ (1 : Int32) = 3 by decide)]
        simp only [g3, e200, z200]
        have hm1 := hm.cell (k := 26) (j := 200 + n) (v := 1) ⟨by omega, by omega⟩ (by omega)
        refine xJperson (d := 1) (rm1 := zset rm1 26 (upd (rm1 26) (200 + n) 1)) hn (hT1.row rfl rfl rfl rfl rfl rfl rfl rfl rfl rfl) hb1 (hD1.j xJk.refl (xJm.refl.cell (k := 26) (j := 200 + n) (v := 1) ⟨by omega, by omega⟩ (by omega))) (hQ1.m ⟨by omega, by omega⟩) g1 (by rw [zset_eq, pk_us]) g2 hk hm1 _ ?_
        intro b2 e2 r2 q2 rm2 qm2 k1 k2 k3 k4 k5 k6 k7 kb k8 k9 k10
        exact xJforge k1 k2 k4 k5 k6 k7 kb k9 k10
      · simp only [if_neg c1, if_true]
        by_cases c2 : r 196 4 = 12
        · simp only [if_pos c2, x10, if_false]
          have hd : Gk_deedHere r q = 2 := by rw [xdeed, if_neg c0, if_neg c1, if_pos c2]
          rw [xlineJk e3 hn hd (by decide)]
          obtain ⟨b1, e1, r1, q1, rm1, qm1, s1, s2, hb1, hT1, hD1, hQ1, g1, g2, g3, hk, hm⟩ := xJhead h hD hP hn hs 2
          rw [xrw s1, xrw s2, if_neg (show ¬ (2 : Int32) = 3 by decide)]
          simp only [g3, e200, z200]
          have hm1 := hm.cell (k := 26) (j := 200 + n) (v := 2) ⟨by omega, by omega⟩ (by omega)
          refine xJperson (d := 2) (rm1 := zset rm1 26 (upd (rm1 26) (200 + n) 2)) hn (hT1.row rfl rfl rfl rfl rfl rfl rfl rfl rfl rfl) hb1 (hD1.j xJk.refl (xJm.refl.cell (k := 26) (j := 200 + n) (v := 2) ⟨by omega, by omega⟩ (by omega))) (hQ1.m ⟨by omega, by omega⟩) g1 (by rw [zset_eq, pk_us]) g2 hk hm1 _ ?_
          intro b2 e2 r2 q2 rm2 qm2 k1 k2 k3 k4 k5 k6 k7 kb k8 k9 k10
          exact xJshave k1 k2 k4 k5 k6 k7 kb k8 k9 k10
        · simp only [if_neg c2, if_true]
          by_cases c3 : r 196 4 = 13
          · simp only [if_pos c3, x10, if_false]
            have hd : Gk_deedHere r q = 3 := by rw [xdeed, if_neg c0, if_neg c1, if_neg c2, if_pos c3]
            rw [xlineJk e3 hn hd (by decide)]
            obtain ⟨b1, e1, r1, q1, rm1, qm1, s1, s2, hb1, hT1, hD1, hQ1, g1, g2, g3, hk, hm⟩ := xJhead h hD hP hn hs 3
            rw [xrw s1, xrw s2, if_pos rfl]
            simp only [g3, e200, z200]
            have hm1 := hm.cell (k := 26) (j := 200 + n) (v := 3) ⟨by omega, by omega⟩ (by omega)
            exact xJend (rm1 := zset rm1 26 (upd (rm1 26) (200 + n) 3)) (hT1.row rfl rfl rfl rfl rfl rfl rfl rfl rfl rfl) hb1 (hQ1.m ⟨by omega, by omega⟩) (by rw [zset_eq, pk_us]; exact g1) (fun h9 => absurd g1 h9) (fun h9 => by rw [g1] at h9; exact absurd h9 (by decide)) ⟨Or.inr (Or.inr (Or.inr g1)), fun h9 => absurd g1 h9, fun h9 => by rw [g1] at h9; exact absurd h9 (by decide), fun h9 => by rw [g1] at h9; exact absurd h9 (by decide)⟩ hk hm1
          · simp only [if_neg c3, if_true]
            have hd : Gk_deedHere r q = -1 := by rw [xdeed, if_neg c0, if_neg c1, if_neg c2, if_neg c3]
            have ek : Gk_readLineJ r q = (0, (Gk_wrong 1 r q).2, q) := by
              unfold Gk_readLineJ
              simp only [zifQ, zifnQ, zletQ, xfr, hd, if_true]
            obtain ⟨r1, rm1, h1, h2, h3, h4, h5⟩ := h.fails 1
            rw [ek, h1, h2]
            exact xJo.fail (xJk.refl.k ⟨h4, xFq.refl⟩) (xJm.refl.m ⟨h5.up rfl, xFq.refl⟩) h3
  · have h40 : n = 40 := by omega
    subst h40
    have c40 : ¬ nI 40 < (40 : Int32) := by decide
    have d40 : nI 40 = (40 : Int32) := rfl
    unfold Gm_readsLine
    simp only [zifQ, zifnQ, zletQ, xfm, xeta, w10, w11, w12, w13, e25, d40, if_true]
    by_cases hd : Gk_deedHere r q = -1
    · have ek : Gk_readLineJ r q = (0, (Gk_wrong 1 r q).2, q) := by
        unfold Gk_readLineJ
        simp only [zifQ, zifnQ, zletQ, xfr, hd, if_true]
      rw [xdeed] at hd
      have c0 : ¬ r 196 4 = 10 := fun c => by rw [if_pos c] at hd; exact absurd hd (by decide)
      rw [if_neg c0] at hd
      have c1 : ¬ r 196 4 = 11 := fun c => by rw [if_pos c] at hd; exact absurd hd (by decide)
      rw [if_neg c1] at hd
      have c2 : ¬ r 196 4 = 12 := fun c => by rw [if_pos c] at hd; exact absurd hd (by decide)
      rw [if_neg c2] at hd
      have c3 : ¬ r 196 4 = 13 := fun c => by rw [if_pos c] at hd; exact absurd hd (by decide)
      simp only [if_neg c0, if_neg c1, if_neg c2, if_neg c3, if_true]
      obtain ⟨r1, rm1, h1, h2, h3, h4, h5⟩ := h.fails 1
      rw [ek, h1, h2]
      exact xJo.fail (xJk.refl.k ⟨h4, xFq.refl⟩) (xJm.refl.m ⟨h5.up rfl, xFq.refl⟩) h3
    · have ek : Gk_readLineJ r q = (0, (Gk_wrong 5 r q).2, q) := by
        unfold Gk_readLineJ
        simp only [zifQ, zifnQ, zletQ, xfr, if_neg hd, e3, if_neg c40]
      obtain ⟨r1, rm1, h1, h2, h3, h4, h5⟩ := h.fails 5
      rw [ek, h1, h2]
      have key : xJo t p L b r q rm qm (xCL (0, r1, q)) (0, rm1, qm) := xJo.fail (xJk.refl.k ⟨h4, xFq.refl⟩) (xJm.refl.m ⟨h5.up rfl, xFq.refl⟩) h3
      rw [xdeed] at hd
      by_cases c0 : r 196 4 = 10
      · simp only [if_pos c0, x10, if_false]; exact key
      · by_cases c1 : r 196 4 = 11
        · simp only [if_neg c0, if_true, if_pos c1, x10, if_false]; exact key
        · by_cases c2 : r 196 4 = 12
          · simp only [if_neg c0, if_neg c1, if_true, if_pos c2, x10, if_false]; exact key
          · by_cases c3 : r 196 4 = 13
            · simp only [if_neg c0, if_neg c1, if_neg c2, if_true, if_pos c3, x10, if_false]; exact key
            · rw [if_neg c0, if_neg c1, if_neg c2, if_neg c3] at hd
              exact absurd rfl hd
end XJA
/-- all of it: the same fault, or the same lines -/
noncomputable def xJA (t p : Nat) (r : zRr) (q : zRq) (rm : zRr) (qm : zRq) (o om : Int32 × zRr × zRq) : Prop :=
  xJk r q o.2.1 o.2.2 ∧ ((o.1 = 0 ∧ xJm rm qm om.2.1 om.2.2 ∧ om.1 = o.2.1 196 7) ∨ (o.1 = 1 ∧ om.1 = 0 ∧ ∃ n rm1, xJm rm qm rm1 om.2.2 ∧ om.2.1 = Gm_laysLines 5 0 rm1 om.2.2 ∧ xPd t p n o.2.1 rm1))
theorem xJA.ok {t p n : Nat} {r X : zRr} {q : zRq} {rm : zRr} {qm : zRq} (hX : X = Gm_laysLines 5 0 rm qm) (hP : xPd t p n r rm) : xJA t p r q rm qm (1, r, q) (0, X, qm) := ⟨xJk.refl, Or.inr ⟨rfl, rfl, n, rm, xJm.refl, hX, hP⟩⟩
theorem xlinesJ : ∀ (m i L b e c n t p : Nat) (r : zRr) (q : zRq) (rm : zRr) (qm : zRq), xTok L b e r q rm qm → xTd t p r q rm qm → xPd t p n r rm → m + i = 1001 → i ≤ b → 1001 < c + b → xJA t p r q rm qm (Gk_readJ_11 m (nI i) r q) (Gm_journey_21 c rm qm) := by
  intro m
  induction m with
  | zero =>
    intro i L b e c n t p r q rm qm hT hD hP hm hi hc
    have := hT.P.hp; have := hT.P.hL; have := hT.hb
    omega
  | succ m ih =>
    intro i L b e c n t p r q rm qm hT hD hP hm hi hc
    have hp := hT.P.hp; have hL := hT.P.hL; have hb := hT.hb
    obtain ⟨c0, rfl⟩ : ∃ c0, c = c0 + 1 := ⟨c - 1, by omega⟩
    have e0 : Gk_readJ_11 (m + 1) (nI i) r q = Bk_readJ_11 (Gk_readJ_11 m) (nI i) r q := rfl
    have e1 : Gm_journey_21 (c0 + 1) rm qm = Bm_journey_21 (Gm_journey_21 c0) rm qm := rfl
    rw [e0, e1]
    by_cases h31 : r 196 4 = 31
    · have ek : Bk_readJ_11 (Gk_readJ_11 m) (nI i) r q = (1, r, q) := by
        unfold Bk_readJ_11
        simp only [zifQ, zletQ, if_pos h31, ite_self]
      have em : Bm_journey_21 (Gm_journey_21 c0) rm qm = (0, Gm_laysLines 5 0 rm qm, qm) := by
        unfold Bm_journey_21
        rw [zifQ, if_pos (hT.end_.mpr h31), zletQ]
      rw [ek, em]
      exact xJA.ok (Eq.refl (Gm_laysLines 5 0 rm qm)) hP
    · have hlt := hT.lt h31
      have hi1 : i < 1000 := by omega
      have hLo := xlJ hT hD hP h31
      have em : Bm_journey_21 (Gm_journey_21 c0) rm qm = zc_vrq (Gm_readsLine rm qm) (fun v r q => zifn (v = 0) (Gm_journey_21 c0 r q) (r 109 0, r, q)) := by
        unfold Bm_journey_21
        rw [zifQ, if_neg (fun h9 => h31 (hT.end_.mp h9))]
        simp only [zletQ]
      have ek : Bk_readJ_11 (Gk_readJ_11 m) (nI i) r q = zc_vrq (xCL (Gk_readLineJ r q)) (fun v r q => zifn (v = 0) (Gk_readJ_11 m (nI i + 1) r q) (0, r, q)) := by
        unfold Bk_readJ_11 xCL
        simp only [zifQ, zifnQ, zletQ, if_neg (x1000n hi1), if_neg h31]
        generalize Gk_readLineJ r q = o
        obtain ⟨v, r8, q9⟩ := o
        rw [xcvrq (r := r8), xcvrq (r := r8)]
        by_cases hv : v = 0
        · rw [if_pos hv, if_pos hv, xcvrq (r := r8), if_pos rfl]
        · rw [if_neg hv, if_neg hv]
          generalize Gk_take 28 r8 q9 = o2
          obtain ⟨v2, r15, q16⟩ := o2
          rw [xcvrq (r := r15), xcvrq (r := r15)]
          by_cases hv2 : v2 = 0
          · rw [if_pos hv2, if_pos hv2, xcvrq (r := r15), if_pos rfl]
          · rw [if_neg hv2, if_neg hv2, xcvrq (r := r15), if_neg (show ¬ (1 : Int32) = 0 by decide)]
      rw [ek, em, nI_1]
      generalize xCL (Gk_readLineJ r q) = o at hLo ⊢
      generalize Gm_readsLine rm qm = om at hLo ⊢
      obtain ⟨v, r8, q9⟩ := o
      obtain ⟨w, rm8, qm9⟩ := om
      obtain ⟨gk, gm, hLo⟩ := hLo
      have gk : xJk r q r8 q9 := gk
      have gm : xJm rm qm rm8 qm9 := gm
      rw [xcvrq (r := r8), xcvrq (r := rm8), zifnQ, zifnQ]
      rcases hLo with ⟨a1, a2, a3⟩ | ⟨a1, a2, b', e', n', a3, a4, a5⟩
      · have a1 : v = 0 := a1
        have a2 : w = 0 := a2
        rw [if_pos a1, if_pos a2]
        exact ⟨gk, Or.inl ⟨rfl, gm, a3.symm⟩⟩
      · have a1 : v = 1 := a1
        have a2 : w = 1 := a2
        rw [if_neg (show ¬ v = 0 by rw [a1]; decide), if_neg (show ¬ w = 0 by rw [a2]; decide)]
        obtain ⟨k1, k2⟩ := ih (i + 1) L b' e' c0 n' t p r8 q9 rm8 qm9 a4 (hD.j gk gm) a5 (by omega) (by omega) (by omega)
        refine ⟨gk.tr k1, ?_⟩
        rcases k2 with ⟨g1, g2, g3⟩ | ⟨g1, g2, n1, rm1, g3, g4, g5⟩
        · exact Or.inl ⟨g1, gm.tr g2, g3⟩
        · exact Or.inr ⟨g1, g2, n1, rm1, gm.tr g3, g4, g5⟩
/-- the class before its first token, the reference before its -/
noncomputable def xRj (r : zRr) : zRr := xs (xs (xs r 142 3 0) 196 3 0) 196 7 0
noncomputable def xMj (rm : zRr) : zRr := zset (xs (zset rm 100 (fun _ => 0)) 25 5 0) 136 (fun _ => 0)
noncomputable def xMk (rm : zRr) : zRr := zset (zset (zset (xMj rm) 103 (fun _ => xMj rm 101 0)) 101 (fun _ => 0)) 104 (fun _ => 0)
theorem xreadJ {r : zRr} {q : zRq} : Gk_readJ r q = zc_rq (Gk_step (xRj r) q) (fun a b => Gk_readJ_11 1001 0 a b) := by
  unfold Gk_readJ Gk_begin xRj
  simp only [zletQ, zc_rqQ, xs]
theorem xjourM {rm : zRr} {qm : zRq} : Gm_journey rm qm = zc_rq (Gm_nextToken (xMk rm) qm) (fun a b => Gm_journey_21 1002 a b) := by
  unfold Gm_journey Gm_begins xMk xMj
  simp only [zletQ, zc_rqQ, xs]
theorem xTd.js {t p : Nat} {r : zRr} {q : zRq} {rm : zRr} {qm : zRq} (h : xTd t p r q rm qm) : xTd t p (xRj r) q (xMk rm) qm := by
  refine h.fr ⟨fun a h1 h2 => ?_, rfl, rfl⟩ (xLow.of rfl (fun a h1 h2 => ?_) rfl rfl)
  · rcases (show a = 171 ∨ a = 172 ∨ a = 173 ∨ a = 174 ∨ a = 175 ∨ a = 176 ∨ a = 177 ∨ a = 178 ∨ a = 179 ∨ a = 180 ∨ a = 181 by omega) with rfl | rfl | rfl | rfl | rfl | rfl | rfl | rfl | rfl | rfl | rfl <;> rfl
  · rcases (show a = 4 ∨ a = 5 ∨ a = 6 ∨ a = 7 ∨ a = 8 ∨ a = 9 ∨ a = 10 ∨ a = 11 ∨ a = 12 by omega) with rfl | rfl | rfl | rfl | rfl | rfl | rfl | rfl | rfl <;> rfl
/-- a JOURNEY is read: the same fault on both sides, or none and the same lines -/
theorem xjourney {L t p : Nat} {r : zRr} {q : zRq} {rm : zRr} {qm : zRq} (h : xTp L r rm) (hD : xTd t p r q rm qm) : xJA t p (xRj r) q (xMk rm) qm (Gk_readJ r q) (Gm_journey rm qm) ∧ xTd t p (xRj r) q (xMk rm) qm := by
  obtain ⟨h1, h2, h3, h4⟩ := h
  refine ⟨?_, hD.js⟩
  rw [xreadJ, xjourM]
  have hP : xP L 0 (xRj r) (xMk rm) := by
    refine ⟨?_, ?_, rfl, rfl, fun i hi => ?_, h3, Nat.zero_le _⟩
    · show r 196 1 = _
      exact h1
    · show rm 101 0 = _
      exact h2
    · show r 197 i = rm 0 i
      exact h4 i hi
  have hPd : xPd t p 0 (xRj r) (xMk rm) := ⟨rfl, rfl, by decide, fun k hk => absurd hk (Nat.not_lt_zero _)⟩
  obtain ⟨b1, e1, r1, q1, rm1, qm1, s1, s2, hT, hb, fk, fm⟩ := xstep (q := q) (qm := qm) hP
  have hk : xJk (xRj r) q r1 q1 := xJk.refl.k fk
  have hm : xJm (xMk rm) qm rm1 qm1 := xJm.refl.m (xFm9.m fm)
  rw [xrw s1, xrw s2, ← nI_0]
  obtain ⟨k1, k2⟩ := xlinesJ 1001 0 L b1 e1 1002 0 t p r1 q1 rm1 qm1 hT (hD.js.j hk hm) (hPd.tok fk (xFm9.m fm)) rfl (Nat.zero_le _) (by omega)
  refine ⟨hk.tr k1, ?_⟩
  rcases k2 with ⟨g1, g2, g3⟩ | ⟨g1, g2, n1, rm2, g3, g4, g5⟩
  · exact Or.inl ⟨g1, hm.tr g2, g3⟩
  · exact Or.inr ⟨g1, g2, n1, rm2, hm.tr g3, g4, g5⟩
end
/-! ===== the names stay ===== -/
noncomputable def mNm (q q1 : zRq) : Prop := q1 2 = q 2 ∧ q1 3 = q 3
theorem mNm.refl {q : zRq} : mNm q q := ⟨rfl, rfl⟩
theorem mNm.tr {q q1 q2 : zRq} (h : mNm q q1) (k : mNm q1 q2) : mNm q q2 := ⟨k.1.trans h.1, k.2.trans h.2⟩
section
/-! ===== a long that is named ===== -/
section ZX
variable {p : Program} {l : Launch} {e : Env} {R : Room} {s : State} {m : MethodId} {args : Array Value} {below : List Frame} {meth : Method} {c : Code} {H : Heap} {locs : List Loc} {cells slots : Nat} {Q : State → Prop}
variable {pc : Nat} {ls : Array Slot} {rest : List Value}
theorem zgenLE {x : Int64} (k : ∀ v : Int64, v = x → W p l e R s m args below meth c H locs cells slots Q (F0 m pc ls (.long v :: rest))) : W p l e R s m args below meth c H locs cells slots Q (F0 m pc ls (.long x :: rest)) := k x rfl
end ZX
end
section
section MCV
variable {p : Program} {l : Launch} {e : Env} {R : Room} {s : State} {m : MethodId} {args : Array Value} {below : List Frame} {meth : Method} {c : Code} {H : Heap} {locs : List Loc} {cells slots : Nat} {Q : State → Prop}
variable {cc : ByteArray} {pc : Nat} {ls : Array Slot} {rest st0 : List Value} {D : va_G} {ct : Nat → ClassId} {A : Nat → Prop}
variable {h0 : Nat} {y : Nat → Nat} {r : zRr} {q : zRq}
theorem mcallV {S : Type} {rv : S → Option Value} {post : S → Prop} {B : S → va_W} {y0 : MethodName} {bytes : ByteArray} {maxL nL n index : Nat} {ret : Option FieldType} {ws : List Cond} {rm : Room} {Ts : List Cond} {own : String} {As : List Value} (fx : CallFix p m c cc nL s args Ts own) (hM : zC l y0 ws rm D ct [] (.ref h0 :: As) (mW ct h0 y r q) rv post B 0 0) (cw : CallW R s args own RX12 index y0 bytes maxL ret ws rm 0 0 n) (hw : zPD D A (mW ct h0 y r q) H) (hS : va_S A s.heap H locs) (hA : ∀ q, s.heap.size ≤ q → A q) (hK : va_K D vwCl (zT ct) s) (hN : zN s) (hn : As.length = n) (hsize : ls.size = nL) (hstack : st0 = As.reverse ++ .ref h0 :: rest) (hW : (rest.map fun v => v.category).sum ≤ 8) (hdg : decode cc pc = .ok (.invokevirtual index, 3)) (pc2 : Nat) (h2 : pc + 3 = pc2)
    (kk : ∀ (u : S) (H1 : Heap) (locs1 : List Loc), post u → zPD D A (B u) H1 → va_S A s.heap H1 locs1 → W p l e R s m args below meth c H1 locs1 0 0 Q (F0 m pc2 ls ((rv u).toList ++ rest))) : W p l e R s m args below meth c H locs 0 0 Q (F0 m pc ls st0) :=
  zcallW (va_runV fx (hM H.size) cw (zpreV hK hw hS hA zZ.nil hN (List.range (mW ct h0 y r q).length) mWn (zrange _) 11 0 rfl mWo) rfl hn hsize hstack (lv_room hW) hdg ⟨Nat.zero_le _, Nat.zero_le _⟩) hw hS hA pc2 h2 kk
end MCV
section ZCS
variable {p : Program} {l : Launch} {e : Env} {R : Room} {s : State} {m : MethodId} {args : Array Value} {below : List Frame} {meth : Method} {c : Code} {H : Heap} {locs : List Loc} {cells slots : Nat} {Q : State → Prop}
variable {cc : ByteArray} {pc : Nat} {ls : Array Slot} {rest st0 : List Value} {D : va_G} {ct : Nat → ClassId} {A : Nat → Prop}
variable {ws : va_W}
theorem zndof : ∀ {l : List Nat}, l.Nodup → va_nd l = true
  | [], _ => rfl
  | a :: l, h => by
    obtain ⟨h1, h2⟩ := List.nodup_cons.mp h
    simp only [va_nd, Bool.and_eq_true, decide_eq_true_eq]
    exact ⟨h1, zndof h2⟩
theorem zPset {D : va_G} {A : Nat → Prop} {ws w1 : va_W} {H H1 : Heap} (isC : List Nat) (j : Nat) {b b' : Nat × va_E} (hw : zPD D A ws H) (hj : ws[j]? = some b) (hb : b'.1 = b.1) (h1 : ∀ (k : Nat) (q : Nat × va_E), k ∈ isC → (ws.set j b')[k]? = some q → q ∈ w1) (hjC : j ∈ isC) (hz : zPD D A (((List.range ws.length).filter (fun i => !isC.contains i)).filterMap (fun i => ws[i]?) ++ w1) H1) : zPD D A (ws.set j b') H1 := by
  have hne : ∀ k, k ≠ j → (ws.set j b')[k]? = ws[k]? := fun k hk => List.getElem?_set_ne (Ne.symm hk)
  have heq : (ws.set j b')[j]? = some b' := List.getElem?_set_self (List.getElem?_eq_some_iff.mp hj).1
  have hat : ∀ (k : Nat) (q : Nat × va_E), (ws.set j b')[k]? = some q → ∃ q0 : Nat × va_E, ws[k]? = some q0 ∧ q0.1 = q.1 := by
    intro k q hq
    by_cases e : k = j
    · subst e; rw [heq] at hq; cases hq; exact ⟨b, hj, hb.symm⟩
    · rw [hne k e] at hq; exact ⟨q, hq, rfl⟩
  refine ⟨fun k q hq => ?_, fun i k p q hp hq h => ?_, fun k q hq => ?_⟩
  · have hmem : q ∈ ((List.range ws.length).filter (fun i => !isC.contains i)).filterMap (fun i => ws[i]?) ++ w1 := by
      by_cases e : k ∈ isC
      · exact List.mem_append_right _ (h1 k q e hq)
      · have e2 : k ≠ j := fun h => e (h ▸ hjC)
        rw [hne k e2] at hq
        refine List.mem_append_left _ (List.mem_filterMap.mpr ⟨k, List.mem_filter.mpr ⟨List.mem_range.mpr (List.getElem?_eq_some_iff.mp hq).1, ?_⟩, hq⟩)
        simpa using e
    obtain ⟨n, hn⟩ := List.getElem?_of_mem hmem
    exact hz.1 n q hn
  · obtain ⟨p0, a1, a2⟩ := hat i p hp
    obtain ⟨q0, b1, b2⟩ := hat k q hq
    exact hw.2.1 i k p0 q0 a1 b1 (by rw [a2, b2]; exact h)
  · obtain ⟨q0, b1, b2⟩ := hat k q hq
    rw [← b2]; exact hw.2.2 k q0 b1
theorem zcset {S : Type} {rv : S → Option Value} {post : S → Prop} {w0 w1 w2 : va_W} {a9 : Array Value} (isC : List Nat) (j : Nat) {b b' : Nat × va_E} (hr : va_Run p l e R s m args below meth c H locs 0 0 0 0 (F0 m pc ls st0) rest (zQ D (va_A w0 H.size) rv post (fun _ => w1) a9) (va_A w0 H.size)) (hw : zPD D A ws H) (hS : va_S A s.heap H locs) (hA : ∀ q, s.heap.size ≤ q → A q) (hC : isC.map (fun i => ws[i]?) = w0.map some) (hj : ws[j]? = some b) (hb : b'.1 = b.1) (h1 : ∀ (k : Nat) (q : Nat × va_E), k ∈ isC → (ws.set j b')[k]? = some q → q ∈ w1) (hjC : j ∈ isC) (hw2 : ws.set j b' = w2)
    (kk : ∀ (u : S) (H1 : Heap) (locs1 : List Loc), post u → zPD D A w2 H1 → va_S A s.heap H1 locs1 → W p l e R s m args below meth c H1 locs1 0 0 Q (F0 m (pc + 3) ls ((rv u).toList ++ rest))) : W p l e R s m args below meth c H locs 0 0 Q (F0 m pc ls st0) := by
  subst hw2
  refine zcall (wr := ((List.range ws.length).filter (fun i => !isC.contains i)).filterMap (fun i => ws[i]?)) hr hw hS hA isC ((List.range ws.length).filter (fun i => !isC.contains i)) hC (zval _ ?_) (zndof (List.nodup_range.filter _)) ?_ (fun u H1 l1 hp hz hs => kk u H1 l1 hp (zPset isC j hw hj hb h1 hjC hz) hs)
  · exact List.all_eq_true.mpr (fun i hi => decide_eq_true (List.mem_range.mp (List.mem_filter.mp hi).1))
  · intro i hi hc
    have h1 := (List.mem_filter.mp hi).2
    simp [hc] at h1
theorem mcp2 {S : Type} {rv : S → Option Value} {post : S → Prop} {y0 : MethodName} {bytes : ByteArray} {maxL nL n index : Nat} {ret : Option FieldType} {wt : List Cond} {rm : Room} {Ts : List Cond} {own : String} {As : List Value} {a b b' : Nat × va_E} {w2 : va_W} (i j : Nat) (fx : CallFix p m c cc nL s args Ts own) (hM : zC l y0 wt rm D ct [] As [a, b] rv post (fun _ => [a, b']) 0 0) (cw : CallB R s args own index y0 bytes maxL ret wt rm 0 0 n ∧ (Cond.static y0).before args s = true) (hw : zPD D A ws H) (hS : va_S A s.heap H locs) (hA : ∀ q, s.heap.size ≤ q → A q) (hK : va_K D vwCl (zT ct) s) (hN : zN s) (hi : ws[i]? = some a) (hj : ws[j]? = some b) (hb : b'.1 = b.1) (hij : va_nd [i, j] = true) (hne : i ≠ j) (hn : As.length = n) (hsize : ls.size = nL) (hstack : st0 = As.reverse ++ rest) (hW : (rest.map fun v => v.category).sum ≤ 8) (hdg : decode cc pc = .ok (.invokestatic index, 3)) (hw2 : ws.set j b' = w2)
    (kk : ∀ (u : S) (H1 : Heap) (locs1 : List Loc), post u → zPD D A w2 H1 → va_S A s.heap H1 locs1 → W p l e R s m args below meth c H1 locs1 0 0 Q (F0 m (pc + 3) ls ((rv u).toList ++ rest))) : W p l e R s m args below meth c H locs 0 0 Q (F0 m pc ls st0) := by
  have hC : [i, j].map (fun i => ws[i]?) = [a, b].map some := by
    simp only [List.map]
    rw [hi, hj]
  refine zcset [i, j] j (va_runS fx (hM H.size) cw (zpreS hK hw hS hA zZ.nil hN [i, j] hij hC) rfl hn hsize hstack (lv_room hW) hdg ⟨Nat.zero_le _, Nat.zero_le _⟩) hw hS hA hC hj hb (fun k q hk hq => ?_) (List.mem_cons_of_mem _ List.mem_cons_self) hw2 kk
  rcases List.mem_cons.mp hk with rfl | hk
  · rw [List.getElem?_set_ne (Ne.symm hne), hi] at hq
    cases hq
    exact List.mem_cons_self
  · have hk := List.mem_singleton.mp hk
    subst hk
    rw [List.getElem?_set_self (List.getElem?_eq_some_iff.mp hj).1] at hq
    cases hq
    exact List.mem_cons_of_mem _ List.mem_cons_self
theorem mcp1 {S : Type} {rv : S → Option Value} {post : S → Prop} {y0 : MethodName} {bytes : ByteArray} {maxL nL n index : Nat} {ret : Option FieldType} {wt : List Cond} {rm : Room} {Ts : List Cond} {own : String} {As : List Value} {b b' : Nat × va_E} {w2 : va_W} (j : Nat) (fx : CallFix p m c cc nL s args Ts own) (hM : zC l y0 wt rm D ct [] As [b] rv post (fun _ => [b']) 0 0) (cw : CallB R s args own index y0 bytes maxL ret wt rm 0 0 n ∧ (Cond.static y0).before args s = true) (hw : zPD D A ws H) (hS : va_S A s.heap H locs) (hA : ∀ q, s.heap.size ≤ q → A q) (hK : va_K D vwCl (zT ct) s) (hN : zN s) (hj : ws[j]? = some b) (hb : b'.1 = b.1) (hn : As.length = n) (hsize : ls.size = nL) (hstack : st0 = As.reverse ++ rest) (hW : (rest.map fun v => v.category).sum ≤ 8) (hdg : decode cc pc = .ok (.invokestatic index, 3)) (hw2 : ws.set j b' = w2)
    (kk : ∀ (u : S) (H1 : Heap) (locs1 : List Loc), post u → zPD D A w2 H1 → va_S A s.heap H1 locs1 → W p l e R s m args below meth c H1 locs1 0 0 Q (F0 m (pc + 3) ls ((rv u).toList ++ rest))) : W p l e R s m args below meth c H locs 0 0 Q (F0 m pc ls st0) := by
  have hC : [j].map (fun i => ws[i]?) = [b].map some := by
    simp only [List.map]
    rw [hj]
  refine zcset [j] j (va_runS fx (hM H.size) cw (zpreS hK hw hS hA zZ.nil hN [j] rfl hC) rfl hn hsize hstack (lv_room hW) hdg ⟨Nat.zero_le _, Nat.zero_le _⟩) hw hS hA hC hj hb (fun k q hk hq => ?_) List.mem_cons_self hw2 kk
  have hk := List.mem_singleton.mp hk
  subst hk
  rw [List.getElem?_set_self (List.getElem?_eq_some_iff.mp hj).1] at hq
  cases hq
  exact List.mem_cons_self
end ZCS
theorem zndap : ∀ {l1 l2 : List Nat}, va_nd l1 = true → va_nd l2 = true → (∀ x ∈ l1, x ∉ l2) → va_nd (l1 ++ l2) = true
  | [], _, _, h, _ => h
  | a :: l, l2, h1, h2, hd => by
    simp only [va_nd, Bool.and_eq_true, decide_eq_true_eq] at h1
    show va_nd (a :: (l ++ l2)) = true
    simp only [va_nd, Bool.and_eq_true, decide_eq_true_eq]
    exact ⟨fun hm => (List.mem_append.mp hm).elim h1.1 (hd a List.mem_cons_self), zndap h1.2 h2 (fun x hx => hd x (List.mem_cons_of_mem _ hx))⟩
theorem zndr : ∀ (a n : Nat), va_nd (List.range' a n) = true
  | _, 0 => rfl
  | a, n + 1 => by
    show va_nd (a :: List.range' (a + 1) n) = true
    simp only [va_nd, Bool.and_eq_true, decide_eq_true_eq]
    exact ⟨fun hm => by have := (List.mem_range'_1.mp hm).1; omega, zndr (a + 1) n⟩
end
theorem wqX12_370_mc_isPerson {R : Room} {s : State} {args : Array Value} {c0 : Cond} (hts : ∀ w ∈ c0 :: wsL_law0, w.before args s = true) (hR : 1 + 1 ≤ R.frames ∧ 8 + (2 + 11) + 80 ≤ R.locals) : CallW R s args RX12 RX12 370 yX12_isPerson cX12_isPerson 2 (some .boolean) (.code yX12_isPerson cX12_isPerson 2 (some .boolean) :: wsL_law0) ({ frames := 1, cells := 0, slots := 0, locals := 80 }) 0 0 1 := cwV 1 hts (kgV (zr31 5 rfl) (zr31 6 rfl) (zr31 7 rfl) (zr1 5 rfl) (zr31 8 rfl)) rfl rfl rfl (by decide +kernel) hR
theorem wqX12_207_mc_sums {R : Room} {s : State} {args : Array Value} {c0 : Cond} (hts : ∀ w ∈ c0 :: wsL_law0, w.before args s = true) (hR : 1 + 1 ≤ R.frames ∧ 8 + (2 + 11) + 80 ≤ R.locals) : CallW R s args RX12 RX12 207 yX12_sums cX12_sums 2 none (.code yX12_sums cX12_sums 2 none :: wsL_law0) ({ frames := 1, cells := 0, slots := 0, locals := 80 }) 0 0 1 := cwV 1 hts (kgV (zr34 19 rfl) (zr34 20 rfl) (zr34 21 rfl) (zr1 5 rfl) (zr34 22 rfl)) rfl rfl rfl (by decide +kernel) hR
theorem wqX12_213_mc_tests {R : Room} {s : State} {args : Array Value} {c0 : Cond} (hts : ∀ w ∈ c0 :: wsL_law0, w.before args s = true) (hR : 2 + 1 ≤ R.frames ∧ 8 + (3 + 11) + 120 ≤ R.locals) : CallW R s args RX12 RX12 213 yX12_tests cX12_tests 3 none (.code yX12_tests cX12_tests 3 none :: wsL_law0) ({ frames := 2, cells := 0, slots := 0, locals := 120 }) 0 0 1 := cwV 1 hts (kgV (zr34 23 rfl) (zr35 0 rfl) (zr35 1 rfl) (zr1 5 rfl) (zr35 2 rfl)) rfl rfl rfl (by decide +kernel) hR
theorem wqX12_210_mc_opens {R : Room} {s : State} {args : Array Value} {c0 : Cond} (hts : ∀ w ∈ c0 :: wsL_law0, w.before args s = true) (hR : 1 + 1 ≤ R.frames ∧ 8 + (2 + 11) + 80 ≤ R.locals) : CallW R s args RX12 RX12 210 yX12_opens cX12_opens 2 none (.code yX12_opens cX12_opens 2 none :: wsL_law0) ({ frames := 1, cells := 0, slots := 0, locals := 80 }) 0 0 1 := cwV 1 hts (kgV (zr34 15 rfl) (zr34 16 rfl) (zr34 17 rfl) (zr1 5 rfl) (zr34 18 rfl)) rfl rfl rfl (by decide +kernel) hR
theorem wqX12_346_mc_worked {R : Room} {s : State} {args : Array Value} {c0 : Cond} (hts : ∀ w ∈ c0 :: wsL_law0, w.before args s = true) (hR : 3 + 1 ≤ R.frames ∧ 8 + (6 + 11) + 160 ≤ R.locals) : CallW R s args RX12 RX12 346 yX12_worked cX12_worked 6 (some .int) (.code yX12_worked cX12_worked 6 (some .int) :: wsL_law0) ({ frames := 3, cells := 0, slots := 0, locals := 160 }) 0 0 1 := cwV 1 hts (kgV (zr34 11 rfl) (zr34 12 rfl) (zr34 13 rfl) (zr1 5 rfl) (zr34 14 rfl)) rfl rfl rfl (by decide +kernel) hR
theorem wqX12_352_mc_readsBeard {R : Room} {s : State} {args : Array Value} {c0 : Cond} (hts : ∀ w ∈ c0 :: wsL_law0, w.before args s = true) (hR : 4 + 1 ≤ R.frames ∧ 8 + (4 + 11) + 200 ≤ R.locals) : CallW R s args RX12 RX12 352 yX12_readsBeard cX12_readsBeard 4 (some .boolean) (.code yX12_readsBeard cX12_readsBeard 4 (some .boolean) :: wsL_law0) ({ frames := 4, cells := 0, slots := 0, locals := 200 }) 0 0 3 := cwV 3 hts (kgV (zr34 7 rfl) (zr34 8 rfl) (zr34 9 rfl) (zr1 5 rfl) (zr34 10 rfl)) rfl rfl rfl (by decide +kernel) hR
theorem wqX12_355_mc_letsHim {R : Room} {s : State} {args : Array Value} {c0 : Cond} (hts : ∀ w ∈ c0 :: wsL_law0, w.before args s = true) (hR : 5 + 1 ≤ R.frames ∧ 8 + (4 + 11) + 240 ≤ R.locals) : CallW R s args RX12 RX12 355 yX12_letsHim cX12_letsHim 4 (some .boolean) (.code yX12_letsHim cX12_letsHim 4 (some .boolean) :: wsL_law0) ({ frames := 5, cells := 0, slots := 0, locals := 240 }) 0 0 2 := cwV 2 hts (kgV (zr34 2 rfl) (zr34 3 rfl) (zr34 4 rfl) (zr1 5 rfl) (zr34 5 rfl)) rfl rfl rfl (by decide +kernel) hR
theorem wqX12_358_mc_speakersAt {R : Room} {s : State} {args : Array Value} {c0 : Cond} (hts : ∀ w ∈ c0 :: wsL_law0, w.before args s = true) (hR : 6 + 1 ≤ R.frames ∧ 8 + (5 + 11) + 280 ≤ R.locals) : CallW R s args RX12 RX12 358 yX12_speakersAt cX12_speakersAt 5 (some .int) (.code yX12_speakersAt cX12_speakersAt 5 (some .int) :: wsL_law0) ({ frames := 6, cells := 0, slots := 0, locals := 280 }) 0 0 2 := cwV 2 hts (kgV (zr33 22 rfl) (zr33 23 rfl) (zr34 0 rfl) (zr1 5 rfl) (zr34 1 rfl)) rfl rfl rfl (by decide +kernel) hR
theorem wqX12_362_mc_lets {R : Room} {s : State} {args : Array Value} {c0 : Cond} (hts : ∀ w ∈ c0 :: wsL_law0, w.before args s = true) (hR : 7 + 1 ≤ R.frames ∧ 8 + (4 + 11) + 320 ≤ R.locals) : CallW R s args RX12 RX12 362 yX12_lets cX12_lets 4 (some .boolean) (.code yX12_lets cX12_lets 4 (some .boolean) :: wsL_law0) ({ frames := 7, cells := 0, slots := 0, locals := 320 }) 0 0 3 := cwV 3 hts (kgV (zr33 18 rfl) (zr33 19 rfl) (zr33 20 rfl) (zr1 5 rfl) (zr33 21 rfl)) rfl rfl rfl (by decide +kernel) hR
theorem wqX12_373_mc_isTown {R : Room} {s : State} {args : Array Value} {c0 : Cond} (hts : ∀ w ∈ c0 :: wsL_law0, w.before args s = true) (hR : 1 + 1 ≤ R.frames ∧ 8 + (2 + 11) + 80 ≤ R.locals) : CallW R s args RX12 RX12 373 yX12_isTown cX12_isTown 2 (some .boolean) (.code yX12_isTown cX12_isTown 2 (some .boolean) :: wsL_law0) ({ frames := 1, cells := 0, slots := 0, locals := 80 }) 0 0 1 := cwV 1 hts (kgV (zr33 10 rfl) (zr33 11 rfl) (zr33 12 rfl) (zr1 5 rfl) (zr33 13 rfl)) rfl rfl rfl (by decide +kernel) hR
theorem wqX12_376_mc_letThrough {R : Room} {s : State} {args : Array Value} {c0 : Cond} (hts : ∀ w ∈ c0 :: wsL_law0, w.before args s = true) (hR : 8 + 1 ≤ R.frames ∧ 8 + (4 + 11) + 360 ≤ R.locals) : CallW R s args RX12 RX12 376 yX12_letThrough cX12_letThrough 4 (some .int) (.code yX12_letThrough cX12_letThrough 4 (some .int) :: wsL_law0) ({ frames := 8, cells := 0, slots := 0, locals := 360 }) 0 0 1 := cwV 1 hts (kgV (zr33 14 rfl) (zr33 15 rfl) (zr33 16 rfl) (zr1 5 rfl) (zr33 17 rfl)) rfl rfl rfl (by decide +kernel) hR
theorem wqX12_383_mc_canGo {R : Room} {s : State} {args : Array Value} {c0 : Cond} (hts : ∀ w ∈ c0 :: wsL_law0, w.before args s = true) (hR : 8 + 1 ≤ R.frames ∧ 8 + (3 + 11) + 360 ≤ R.locals) : CallW R s args RX12 RX12 383 yX12_canGo cX12_canGo 3 (some .boolean) (.code yX12_canGo cX12_canGo 3 (some .boolean) :: wsL_law0) ({ frames := 8, cells := 0, slots := 0, locals := 360 }) 0 0 2 := cwV 2 hts (kgV (zr36 9 rfl) (zr36 10 rfl) (zr36 11 rfl) (zr1 5 rfl) (zr36 12 rfl)) rfl rfl rfl (by decide +kernel) hR
theorem wqX12_386_mc_keeps {R : Room} {s : State} {args : Array Value} {c0 : Cond} (hts : ∀ w ∈ c0 :: wsL_law0, w.before args s = true) (hR : 2 + 1 ≤ R.frames ∧ 8 + (2 + 11) + 120 ≤ R.locals) : CallW R s args RX12 RX12 386 yX12_keeps cX12_keeps 2 none (.code yX12_keeps cX12_keeps 2 none :: wsL_law0) ({ frames := 2, cells := 0, slots := 0, locals := 120 }) 0 0 0 := cwV 0 hts (kgV (zr36 13 rfl) (zr36 14 rfl) (zr36 15 rfl) (zr1 5 rfl) (zr36 16 rfl)) rfl rfl rfl (by decide +kernel) hR
theorem wqX12_389_mc_goes {R : Room} {s : State} {args : Array Value} {c0 : Cond} (hts : ∀ w ∈ c0 :: wsL_law0, w.before args s = true) (hR : 1 + 1 ≤ R.frames ∧ 8 + (3 + 11) + 80 ≤ R.locals) : CallW R s args RX12 RX12 389 yX12_goes cX12_goes 3 none (.code yX12_goes cX12_goes 3 none :: wsL_law0) ({ frames := 1, cells := 0, slots := 0, locals := 80 }) 0 0 2 := cwV 2 hts (kgV (zr36 20 rfl) (zr36 21 rfl) (zr36 22 rfl) (zr1 5 rfl) (zr36 23 rfl)) rfl rfl rfl (by decide +kernel) hR
theorem wqX12_392_mc_canForge {R : Room} {s : State} {args : Array Value} {c0 : Cond} (hts : ∀ w ∈ c0 :: wsL_law0, w.before args s = true) (hR : 1 + 1 ≤ R.frames ∧ 8 + (3 + 11) + 80 ≤ R.locals) : CallW R s args RX12 RX12 392 yX12_canForge cX12_canForge 3 (some .boolean) (.code yX12_canForge cX12_canForge 3 (some .boolean) :: wsL_law0) ({ frames := 1, cells := 0, slots := 0, locals := 80 }) 0 0 2 := cwV 2 hts (kgV (zr37 18 rfl) (zr37 19 rfl) (zr37 20 rfl) (zr1 5 rfl) (zr37 21 rfl)) rfl rfl rfl (by decide +kernel) hR
theorem wqX12_395_mc_forges {R : Room} {s : State} {args : Array Value} {c0 : Cond} (hts : ∀ w ∈ c0 :: wsL_law0, w.before args s = true) (hR : 1 + 1 ≤ R.frames ∧ 8 + (3 + 11) + 80 ≤ R.locals) : CallW R s args RX12 RX12 395 yX12_forges cX12_forges 3 none (.code yX12_forges cX12_forges 3 none :: wsL_law0) ({ frames := 1, cells := 0, slots := 0, locals := 80 }) 0 0 2 := cwV 2 hts (kgV (zr37 22 rfl) (zr37 23 rfl) (zr38 0 rfl) (zr1 5 rfl) (zr38 1 rfl)) rfl rfl rfl (by decide +kernel) hR
theorem wqX12_398_mc_shaves {R : Room} {s : State} {args : Array Value} {c0 : Cond} (hts : ∀ w ∈ c0 :: wsL_law0, w.before args s = true) (hR : 1 + 1 ≤ R.frames ∧ 8 + (2 + 11) + 80 ≤ R.locals) : CallW R s args RX12 RX12 398 yX12_shaves cX12_shaves 2 none (.code yX12_shaves cX12_shaves 2 none :: wsL_law0) ({ frames := 1, cells := 0, slots := 0, locals := 80 }) 0 0 1 := cwV 1 hts (kgV (zr38 14 rfl) (zr38 15 rfl) (zr38 16 rfl) (zr1 5 rfl) (zr38 17 rfl)) rfl rfl rfl (by decide +kernel) hR
theorem wqX12_401_mc_passes {R : Room} {s : State} {args : Array Value} {c0 : Cond} (hts : ∀ w ∈ c0 :: wsL_law0, w.before args s = true) (hR : 2 + 1 ≤ R.frames ∧ 8 + (2 + 11) + 120 ≤ R.locals) : CallW R s args RX12 RX12 401 yX12_passes cX12_passes 2 none (.code yX12_passes cX12_passes 2 none :: wsL_law0) ({ frames := 2, cells := 0, slots := 0, locals := 120 }) 0 0 0 := cwV 0 hts (kgV (zr39 9 rfl) (zr39 10 rfl) (zr39 11 rfl) (zr1 5 rfl) (zr39 12 rfl)) rfl rfl rfl (by decide +kernel) hR
theorem wqX12_413_mc_mostAsked {R : Room} {s : State} {args : Array Value} {c0 : Cond} (hts : ∀ w ∈ c0 :: wsL_law0, w.before args s = true) (hR : 2 + 1 ≤ R.frames ∧ 8 + (3 + 11) + 120 ≤ R.locals) : CallW R s args RX12 RX12 413 yX12_mostAsked cX12_mostAsked 3 (some .int) (.code yX12_mostAsked cX12_mostAsked 3 (some .int) :: wsL_law0) ({ frames := 2, cells := 0, slots := 0, locals := 120 }) 0 0 0 := cwV 0 hts (kgV (zr41 16 rfl) (zr41 17 rfl) (zr41 18 rfl) (zr1 5 rfl) (zr41 19 rfl)) rfl rfl rfl (by decide +kernel) hR
theorem wqX12_407_mc_allOf {R : Room} {s : State} {args : Array Value} {c0 : Cond} (hts : ∀ w ∈ c0 :: wsL_law0, w.before args s = true) (hR : 1 + 1 ≤ R.frames ∧ 8 + (4 + 11) + 80 ≤ R.locals) : CallW R s args RX12 RX12 407 yX12_allOf cX12_allOf 4 (some .int) (.code yX12_allOf cX12_allOf 4 (some .int) :: wsL_law0) ({ frames := 1, cells := 0, slots := 0, locals := 80 }) 0 0 1 := cwV 1 hts (kgV (zr41 8 rfl) (zr41 9 rfl) (zr41 10 rfl) (zr1 5 rfl) (zr41 11 rfl)) rfl rfl rfl (by decide +kernel) hR
theorem wqX12_410_mc_follows {R : Room} {s : State} {args : Array Value} {c0 : Cond} (hts : ∀ w ∈ c0 :: wsL_law0, w.before args s = true) (hR : 9 + 1 ≤ R.frames ∧ 8 + (4 + 11) + 400 ≤ R.locals) : CallW R s args RX12 RX12 410 yX12_follows cX12_follows 4 (some .boolean) (.code yX12_follows cX12_follows 4 (some .boolean) :: wsL_law0) ({ frames := 9, cells := 0, slots := 0, locals := 400 }) 0 0 1 := cwV 1 hts (kgV (zr41 12 rfl) (zr41 13 rfl) (zr41 14 rfl) (zr1 5 rfl) (zr41 15 rfl)) rfl rfl rfl (by decide +kernel) hR
theorem wqX12_333_mc_fresh0 {R : Room} {s : State} {args : Array Value} {c0 : Cond} (hts : ∀ w ∈ c0 :: wsL_law0, w.before args s = true) (hR : 1 + 1 ≤ R.frames ∧ 8 + (2 + 11) + 80 ≤ R.locals) : CallW R s args RX12 RX12 333 yX12_fresh0 cX12_fresh0 2 none (.code yX12_fresh0 cX12_fresh0 2 none :: wsL_law0) ({ frames := 1, cells := 0, slots := 0, locals := 80 }) 0 0 0 := cwV 0 hts (kgV (zr27 20 rfl) (zr27 21 rfl) (zr27 22 rfl) (zr1 5 rfl) (zr27 23 rfl)) rfl rfl rfl (by decide +kernel) hR
theorem wqX12_416_mc_spreads {R : Room} {s : State} {args : Array Value} {c0 : Cond} (hts : ∀ w ∈ c0 :: wsL_law0, w.before args s = true) (hR : 8 + 1 ≤ R.frames ∧ 8 + (6 + 11) + 360 ≤ R.locals) : CallW R s args RX12 RX12 416 yX12_spreads cX12_spreads 6 (some .int) (.code yX12_spreads cX12_spreads 6 (some .int) :: wsL_law0) ({ frames := 8, cells := 0, slots := 0, locals := 360 }) 0 0 2 := cwV 2 hts (kgV (zr43 12 rfl) (zr43 13 rfl) (zr43 14 rfl) (zr1 5 rfl) (zr43 15 rfl)) rfl rfl rfl (by decide +kernel) hR
theorem wqX12_419_mc_reachFrom {R : Room} {s : State} {args : Array Value} {c0 : Cond} (hts : ∀ w ∈ c0 :: wsL_law0, w.before args s = true) (hR : 9 + 1 ≤ R.frames ∧ 8 + (5 + 11) + 400 ≤ R.locals) : CallW R s args RX12 RX12 419 yX12_reachFrom cX12_reachFrom 5 (some .int) (.code yX12_reachFrom cX12_reachFrom 5 (some .int) :: wsL_law0) ({ frames := 9, cells := 0, slots := 0, locals := 400 }) 0 0 2 := cwV 2 hts (kgV (zr43 8 rfl) (zr43 9 rfl) (zr43 10 rfl) (zr1 5 rfl) (zr43 11 rfl)) rfl rfl rfl (by decide +kernel) hR
theorem wqX12_422_mc_farFrom {R : Room} {s : State} {args : Array Value} {c0 : Cond} (hts : ∀ w ∈ c0 :: wsL_law0, w.before args s = true) (hR : 9 + 1 ≤ R.frames ∧ 8 + (6 + 11) + 400 ≤ R.locals) : CallW R s args RX12 RX12 422 yX12_farFrom cX12_farFrom 6 (some .int) (.code yX12_farFrom cX12_farFrom 6 (some .int) :: wsL_law0) ({ frames := 9, cells := 0, slots := 0, locals := 400 }) 0 0 3 := cwV 3 hts (kgV (zr44 5 rfl) (zr44 6 rfl) (zr44 7 rfl) (zr1 5 rfl) (zr44 8 rfl)) rfl rfl rfl (by decide +kernel) hR
theorem wqX12_426_mc_whenAt {R : Room} {s : State} {args : Array Value} {c0 : Cond} (hts : ∀ w ∈ c0 :: wsL_law0, w.before args s = true) (hR : 10 + 1 ≤ R.frames ∧ 8 + (5 + 11) + 440 ≤ R.locals) : CallW R s args RX12 RX12 426 yX12_whenAt cX12_whenAt 5 (some .int) (.code yX12_whenAt cX12_whenAt 5 (some .int) :: wsL_law0) ({ frames := 10, cells := 0, slots := 0, locals := 440 }) 0 0 2 := cwV 2 hts (kgV (zr45 5 rfl) (zr45 6 rfl) (zr45 7 rfl) (zr1 5 rfl) (zr45 8 rfl)) rfl rfl rfl (by decide +kernel) hR
theorem wqX12_432_mc_needOf {R : Room} {s : State} {args : Array Value} {c0 : Cond} (hts : ∀ w ∈ c0 :: wsL_law0, w.before args s = true) (hR : 10 + 1 ≤ R.frames ∧ 8 + (6 + 11) + 440 ≤ R.locals) : CallW R s args RX12 RX12 432 yX12_needOf cX12_needOf 6 (some .int) (.code yX12_needOf cX12_needOf 6 (some .int) :: wsL_law0) ({ frames := 10, cells := 0, slots := 0, locals := 440 }) 0 0 2 := cwV 2 hts (kgV (zr46 23 rfl) (zr47 0 rfl) (zr47 1 rfl) (zr1 5 rfl) (zr47 2 rfl)) rfl rfl rfl (by decide +kernel) hR
theorem wqX12_435_mc_meetsAt {R : Room} {s : State} {args : Array Value} {c0 : Cond} (hts : ∀ w ∈ c0 :: wsL_law0, w.before args s = true) (hR : 11 + 1 ≤ R.frames ∧ 8 + (5 + 11) + 480 ≤ R.locals) : CallW R s args RX12 RX12 435 yX12_meetsAt cX12_meetsAt 5 (some .int) (.code yX12_meetsAt cX12_meetsAt 5 (some .int) :: wsL_law0) ({ frames := 11, cells := 0, slots := 0, locals := 480 }) 0 0 1 := cwV 1 hts (kgV (zr49 19 rfl) (zr49 20 rfl) (zr49 21 rfl) (zr1 5 rfl) (zr49 22 rfl)) rfl rfl rfl (by decide +kernel) hR
theorem wqX12_441_mc_isAsSeen {R : Room} {s : State} {args : Array Value} {c0 : Cond} (hts : ∀ w ∈ c0 :: wsL_law0, w.before args s = true) (hR : 5 + 1 ≤ R.frames ∧ 8 + (3 + 11) + 240 ≤ R.locals) : CallW R s args RX12 RX12 441 yX12_isAsSeen cX12_isAsSeen 3 (some .boolean) (.code yX12_isAsSeen cX12_isAsSeen 3 (some .boolean) :: wsL_law0) ({ frames := 5, cells := 0, slots := 0, locals := 240 }) 0 0 1 := cwV 1 hts (kgV (zr52 20 rfl) (zr52 21 rfl) (zr52 22 rfl) (zr1 5 rfl) (zr52 23 rfl)) rfl rfl rfl (by decide +kernel) hR
theorem wqX12_444_mc_lengths {R : Room} {s : State} {args : Array Value} {c0 : Cond} (hts : ∀ w ∈ c0 :: wsL_law0, w.before args s = true) (hR : 6 + 1 ≤ R.frames ∧ 8 + (6 + 11) + 280 ≤ R.locals) : CallW R s args RX12 RX12 444 yX12_lengths cX12_lengths 6 (some .int) (.code yX12_lengths cX12_lengths 6 (some .int) :: wsL_law0) ({ frames := 6, cells := 0, slots := 0, locals := 280 }) 0 0 1 := cwV 1 hts (kgV (zr53 8 rfl) (zr52 17 rfl) (zr52 18 rfl) (zr1 5 rfl) (zr52 19 rfl)) rfl rfl rfl (by decide +kernel) hR
theorem wqX12_477_mc_peopled {R : Room} {s : State} {args : Array Value} {c0 : Cond} (hts : ∀ w ∈ c0 :: wsL_law0, w.before args s = true) (hR : 1 + 1 ≤ R.frames ∧ 8 + (3 + 11) + 80 ≤ R.locals) : CallW R s args RX12 RX12 477 yX12_peopled cX12_peopled 3 (some .int) (.code yX12_peopled cX12_peopled 3 (some .int) :: wsL_law0) ({ frames := 1, cells := 0, slots := 0, locals := 80 }) 0 0 0 := cwV 0 hts (kgV (zr56 15 rfl) (zr56 16 rfl) (zr56 17 rfl) (zr1 5 rfl) (zr56 18 rfl)) rfl rfl rfl (by decide +kernel) hR
theorem wqX12_429_mc_roams {R : Room} {s : State} {args : Array Value} {c0 : Cond} (hts : ∀ w ∈ c0 :: wsL_law0, w.before args s = true) (hR : 8 + 1 ≤ R.frames ∧ 8 + (9 + 11) + 360 ≤ R.locals) : CallW R s args RX12 RX12 429 yX12_roams cX12_roams 9 (some .boolean) (.code yX12_roams cX12_roams 9 (some .boolean) :: wsL_law0) ({ frames := 8, cells := 0, slots := 0, locals := 360 }) 0 0 1 := cwV 1 hts (kgV (zr46 6 rfl) (zr46 7 rfl) (zr46 8 rfl) (zr1 5 rfl) (zr46 9 rfl)) rfl rfl rfl (by decide +kernel) hR
theorem wqX12_465_mc_draws20 {R : Room} {s : State} {args : Array Value} {c0 : Cond} (hts : ∀ w ∈ c0 :: wsL_law0, w.before args s = true) (hR : 1 + 1 ≤ R.frames ∧ 8 + (2 + 11) + 80 ≤ R.locals) : CallW R s args RX12 RX12 465 yX12_draws cX12_draws 2 (some .int) (.code yX12_draws cX12_draws 2 (some .int) :: wsL_law0) ({ frames := 1, cells := 0, slots := 0, locals := 80 }) 0 0 1 := cwV 1 hts (kgV (zr56 7 rfl) (zr56 8 rfl) (zr56 9 rfl) (zr1 5 rfl) (zr56 10 rfl)) rfl rfl rfl (by decide +kernel) hR
theorem wqX12_465_mc_draws {R : Room} {s : State} {args : Array Value} {c0 : Cond} (hts : ∀ w ∈ c0 :: wsL_law0, w.before args s = true) (hR : 1 + 1 ≤ R.frames ∧ 8 + (2 + 11) + 80 ≤ R.locals) : CallW R s args RX12 RX12 465 yX12_draws cX12_draws 2 (some .int) (.code yX12_draws cX12_draws 2 (some .int) :: wsL_law0) ({ frames := 1, cells := 0, slots := 0, locals := 80 }) 0 0 1 := cwV 1 hts (kgV (zr56 7 rfl) (zr56 8 rfl) (zr56 9 rfl) (zr1 5 rfl) (zr56 10 rfl)) rfl rfl rfl (by decide +kernel) hR
theorem wqX12_474_mc_livesWeek {R : Room} {s : State} {args : Array Value} {c0 : Cond} (hts : ∀ w ∈ c0 :: wsL_law0, w.before args s = true) (hR : 9 + 1 ≤ R.frames ∧ 8 + (3 + 11) + 400 ≤ R.locals) : CallW R s args RX12 RX12 474 yX12_livesWeek cX12_livesWeek 3 none (.code yX12_livesWeek cX12_livesWeek 3 none :: wsL_law0) ({ frames := 9, cells := 0, slots := 0, locals := 400 }) 0 0 0 := cwV 0 hts (kgV (zr56 3 rfl) (zr56 4 rfl) (zr56 5 rfl) (zr1 5 rfl) (zr56 6 rfl)) rfl rfl rfl (by decide +kernel) hR
theorem wqX12_342_mc_laysLines {R : Room} {s : State} {args : Array Value} {c0 : Cond} (hts : ∀ w ∈ c0 :: wsL_law0, w.before args s = true) (hR : 1 + 1 ≤ R.frames ∧ 8 + (4 + 11) + 80 ≤ R.locals) : CallW R s args RX12 RX12 342 yX12_laysLines cX12_laysLines 4 none (.code yX12_laysLines cX12_laysLines 4 none :: wsL_law0) ({ frames := 1, cells := 0, slots := 0, locals := 80 }) 0 0 2 := cwV 2 hts (kgV (zr30 6 rfl) (zr30 7 rfl) (zr30 8 rfl) (zr1 5 rfl) (zr30 9 rfl)) rfl rfl rfl (by decide +kernel) hR
theorem wqX12_480_mc_laysSeen {R : Room} {s : State} {args : Array Value} {c0 : Cond} (hts : ∀ w ∈ c0 :: wsL_law0, w.before args s = true) (hR : 1 + 1 ≤ R.frames ∧ 8 + (4 + 11) + 80 ≤ R.locals) : CallW R s args RX12 RX12 480 yX12_laysSeen cX12_laysSeen 4 none (.code yX12_laysSeen cX12_laysSeen 4 none :: wsL_law0) ({ frames := 1, cells := 0, slots := 0, locals := 80 }) 0 0 2 := cwV 2 hts (kgV (zr57 17 rfl) (zr57 18 rfl) (zr57 19 rfl) (zr1 5 rfl) (zr57 20 rfl)) rfl rfl rfl (by decide +kernel) hR
theorem wqX12_157_mc_signAt {R : Room} {s : State} {args : Array Value} {c0 : Cond} (hts : ∀ w ∈ c0 :: wsL_law0, w.before args s = true) (hR : 1 + 1 ≤ R.frames ∧ 8 + (2 + 11) + 80 ≤ R.locals) : CallW R s args RX12 RX12 157 yX12_signAt cX12_signAt 2 (some .int) (.code yX12_signAt cX12_signAt 2 (some .int) :: wsL_law0) ({ frames := 1, cells := 0, slots := 0, locals := 80 }) 0 0 1 := cwV 1 hts (kgV (zr22 22 rfl) (zr22 23 rfl) (zr23 0 rfl) (zr1 5 rfl) (zr23 1 rfl)) rfl rfl rfl (by decide +kernel) hR
theorem wqX12_200_mc_nextToken {R : Room} {s : State} {args : Array Value} {c0 : Cond} (hts : ∀ w ∈ c0 :: wsL_law0, w.before args s = true) (hR : 2 + 1 ≤ R.frames ∧ 8 + (2 + 11) + 120 ≤ R.locals) : CallW R s args RX12 RX12 200 yX12_nextToken cX12_nextToken 2 none (.code yX12_nextToken cX12_nextToken 2 none :: wsL_law0) ({ frames := 2, cells := 0, slots := 0, locals := 120 }) 0 0 0 := cwV 0 hts (kgV (zr22 13 rfl) (zr22 14 rfl) (zr22 15 rfl) (zr1 5 rfl) (zr22 16 rfl)) rfl rfl rfl (by decide +kernel) hR
theorem wqX12_193_mc_fails {R : Room} {s : State} {args : Array Value} {c0 : Cond} (hts : ∀ w ∈ c0 :: wsL_law0, w.before args s = true) (hR : 1 + 1 ≤ R.frames ∧ 8 + (2 + 11) + 80 ≤ R.locals) : CallW R s args RX12 RX12 193 yX12_fails cX12_fails 2 (some .boolean) (.code yX12_fails cX12_fails 2 (some .boolean) :: wsL_law0) ({ frames := 1, cells := 0, slots := 0, locals := 80 }) 0 0 1 := cwV 1 hts (kgV (zr23 13 rfl) (zr23 14 rfl) (zr23 15 rfl) (zr1 5 rfl) (zr23 16 rfl)) rfl rfl rfl (by decide +kernel) hR
theorem wqX12_185_mc_isWord {R : Room} {s : State} {args : Array Value} {c0 : Cond} (hts : ∀ w ∈ c0 :: wsL_law0, w.before args s = true) (hR : 1 + 1 ≤ R.frames ∧ 8 + (3 + 11) + 80 ≤ R.locals) : CallW R s args RX12 RX12 185 yX12_isWord cX12_isWord 3 (some .boolean) (.code yX12_isWord cX12_isWord 3 (some .boolean) :: wsL_law0) ({ frames := 1, cells := 0, slots := 0, locals := 80 }) 0 0 1 := cwV 1 hts (kgV (zr23 2 rfl) (zr23 3 rfl) (zr23 4 rfl) (zr1 5 rfl) (zr23 5 rfl)) rfl rfl rfl (by decide +kernel) hR
theorem wqX12_259_mc_needsWord {R : Room} {s : State} {args : Array Value} {c0 : Cond} (hts : ∀ w ∈ c0 :: wsL_law0, w.before args s = true) (hR : 3 + 1 ≤ R.frames ∧ 8 + (3 + 11) + 160 ≤ R.locals) : CallW R s args RX12 RX12 259 yX12_needsWord cX12_needsWord 3 (some .boolean) (.code yX12_needsWord cX12_needsWord 3 (some .boolean) :: wsL_law0) ({ frames := 3, cells := 0, slots := 0, locals := 160 }) 0 0 1 := cwV 1 hts (kgV (zr25 3 rfl) (zr25 4 rfl) (zr25 5 rfl) (zr1 5 rfl) (zr25 6 rfl)) rfl rfl rfl (by decide +kernel) hR
theorem wqX12_262_mc_needsNumber {R : Room} {s : State} {args : Array Value} {c0 : Cond} (hts : ∀ w ∈ c0 :: wsL_law0, w.before args s = true) (hR : 3 + 1 ≤ R.frames ∧ 8 + (3 + 11) + 160 ≤ R.locals) : CallW R s args RX12 RX12 262 yX12_needsNumber cX12_needsNumber 3 (some .boolean) (.code yX12_needsNumber cX12_needsNumber 3 (some .boolean) :: wsL_law0) ({ frames := 3, cells := 0, slots := 0, locals := 160 }) 0 0 2 := cwV 2 hts (kgV (zr25 7 rfl) (zr25 8 rfl) (zr25 9 rfl) (zr1 5 rfl) (zr25 10 rfl)) rfl rfl rfl (by decide +kernel) hR
theorem wqX12_189_mc_isSign {R : Room} {s : State} {args : Array Value} {c0 : Cond} (hts : ∀ w ∈ c0 :: wsL_law0, w.before args s = true) (hR : 1 + 1 ≤ R.frames ∧ 8 + (2 + 11) + 80 ≤ R.locals) : CallW R s args RX12 RX12 189 yX12_isSign cX12_isSign 2 (some .boolean) (.code yX12_isSign cX12_isSign 2 (some .boolean) :: wsL_law0) ({ frames := 1, cells := 0, slots := 0, locals := 80 }) 0 0 1 := cwV 1 hts (kgV (zr25 18 rfl) (zr25 19 rfl) (zr25 20 rfl) (zr1 5 rfl) (zr25 21 rfl)) rfl rfl rfl (by decide +kernel) hR
theorem wqX12_266_mc_isKept {R : Room} {s : State} {args : Array Value} {c0 : Cond} (hts : ∀ w ∈ c0 :: wsL_law0, w.before args s = true) (hR : 1 + 1 ≤ R.frames ∧ 8 + (1 + 11) + 80 ≤ R.locals) : CallW R s args RX12 RX12 266 yX12_isKept cX12_isKept 1 (some .boolean) (.code yX12_isKept cX12_isKept 1 (some .boolean) :: wsL_law0) ({ frames := 1, cells := 0, slots := 0, locals := 80 }) 0 0 0 := cwV 0 hts (kgV (zr23 21 rfl) (zr23 22 rfl) (zr23 23 rfl) (zr1 5 rfl) (zr24 0 rfl)) rfl rfl rfl (by decide +kernel) hR
theorem wqX12_270_mc_townNamed1 {R : Room} {s : State} {args : Array Value} {c0 : Cond} (hts : ∀ w ∈ c0 :: wsL_law0, w.before args s = true) (hR : 1 + 1 ≤ R.frames ∧ 8 + (3 + 11) + 80 ≤ R.locals) : CallW R s args RX12 RX12 270 yX12_townNamed cX12_townNamed 3 (some .int) (.code yX12_townNamed cX12_townNamed 3 (some .int) :: wsL_law0) ({ frames := 1, cells := 0, slots := 0, locals := 80 }) 0 0 1 := cwV 1 hts (kgV (zr24 15 rfl) (zr24 16 rfl) (zr24 17 rfl) (zr1 5 rfl) (zr24 18 rfl)) rfl rfl rfl (by decide +kernel) hR
theorem wqX12_273_mc_personNamed1 {R : Room} {s : State} {args : Array Value} {c0 : Cond} (hts : ∀ w ∈ c0 :: wsL_law0, w.before args s = true) (hR : 1 + 1 ≤ R.frames ∧ 8 + (3 + 11) + 80 ≤ R.locals) : CallW R s args RX12 RX12 273 yX12_personNamed cX12_personNamed 3 (some .int) (.code yX12_personNamed cX12_personNamed 3 (some .int) :: wsL_law0) ({ frames := 1, cells := 0, slots := 0, locals := 80 }) 0 0 1 := cwV 1 hts (kgV (zr24 19 rfl) (zr24 20 rfl) (zr24 21 rfl) (zr1 5 rfl) (zr24 22 rfl)) rfl rfl rfl (by decide +kernel) hR
theorem wqX12_270_mc_townNamed0 {R : Room} {s : State} {args : Array Value} {c0 : Cond} (hts : ∀ w ∈ c0 :: wsL_law0, w.before args s = true) (hR : 1 + 1 ≤ R.frames ∧ 8 + (3 + 11) + 80 ≤ R.locals) : CallW R s args RX12 RX12 270 yX12_townNamed cX12_townNamed 3 (some .int) (.code yX12_townNamed cX12_townNamed 3 (some .int) :: wsL_law0) ({ frames := 1, cells := 0, slots := 0, locals := 80 }) 0 0 1 := cwV 1 hts (kgV (zr24 15 rfl) (zr24 16 rfl) (zr24 17 rfl) (zr1 5 rfl) (zr24 18 rfl)) rfl rfl rfl (by decide +kernel) hR
theorem wqX12_273_mc_personNamed0 {R : Room} {s : State} {args : Array Value} {c0 : Cond} (hts : ∀ w ∈ c0 :: wsL_law0, w.before args s = true) (hR : 1 + 1 ≤ R.frames ∧ 8 + (3 + 11) + 80 ≤ R.locals) : CallW R s args RX12 RX12 273 yX12_personNamed cX12_personNamed 3 (some .int) (.code yX12_personNamed cX12_personNamed 3 (some .int) :: wsL_law0) ({ frames := 1, cells := 0, slots := 0, locals := 80 }) 0 0 1 := cwV 1 hts (kgV (zr24 19 rfl) (zr24 20 rfl) (zr24 21 rfl) (zr1 5 rfl) (zr24 22 rfl)) rfl rfl rfl (by decide +kernel) hR
theorem wqX12_279_mc_needsNew {R : Room} {s : State} {args : Array Value} {c0 : Cond} (hts : ∀ w ∈ c0 :: wsL_law0, w.before args s = true) (hR : 3 + 1 ≤ R.frames ∧ 8 + (1 + 11) + 160 ≤ R.locals) : CallW R s args RX12 RX12 279 yX12_needsNew cX12_needsNew 1 (some .boolean) (.code yX12_needsNew cX12_needsNew 1 (some .boolean) :: wsL_law0) ({ frames := 3, cells := 0, slots := 0, locals := 160 }) 0 0 0 := cwV 0 hts (kgV (zr23 17 rfl) (zr23 18 rfl) (zr23 19 rfl) (zr1 5 rfl) (zr23 20 rfl)) rfl rfl rfl (by decide +kernel) hR
theorem wqX12_282_mc_needsBoth {R : Room} {s : State} {args : Array Value} {c0 : Cond} (hts : ∀ w ∈ c0 :: wsL_law0, w.before args s = true) (hR : 4 + 1 ≤ R.frames ∧ 8 + (5 + 11) + 200 ≤ R.locals) : CallW R s args RX12 RX12 282 yX12_needsBoth cX12_needsBoth 5 (some .boolean) (.code yX12_needsBoth cX12_needsBoth 5 (some .boolean) :: wsL_law0) ({ frames := 4, cells := 0, slots := 0, locals := 200 }) 0 0 3 := cwV 3 hts (kgV (zr24 23 rfl) (zr25 0 rfl) (zr25 1 rfl) (zr1 5 rfl) (zr25 2 rfl)) rfl rfl rfl (by decide +kernel) hR
theorem wqX12_286_mc_closes {R : Room} {s : State} {args : Array Value} {c0 : Cond} (hts : ∀ w ∈ c0 :: wsL_law0, w.before args s = true) (hR : 3 + 1 ≤ R.frames ∧ 8 + (1 + 11) + 160 ≤ R.locals) : CallW R s args RX12 RX12 286 yX12_closes cX12_closes 1 (some .boolean) (.code yX12_closes cX12_closes 1 (some .boolean) :: wsL_law0) ({ frames := 3, cells := 0, slots := 0, locals := 160 }) 0 0 0 := cwV 0 hts (kgV (zr25 14 rfl) (zr25 15 rfl) (zr25 16 rfl) (zr1 5 rfl) (zr25 17 rfl)) rfl rfl rfl (by decide +kernel) hR
theorem wqX12_289_mc_needsTown1 {R : Room} {s : State} {args : Array Value} {c0 : Cond} (hts : ∀ w ∈ c0 :: wsL_law0, w.before args s = true) (hR : 2 + 1 ≤ R.frames ∧ 8 + (2 + 11) + 120 ≤ R.locals) : CallW R s args RX12 RX12 289 yX12_needsTown cX12_needsTown 2 (some .boolean) (.code yX12_needsTown cX12_needsTown 2 (some .boolean) :: wsL_law0) ({ frames := 2, cells := 0, slots := 0, locals := 120 }) 0 0 1 := cwV 1 hts (kgV (zr26 2 rfl) (zr26 3 rfl) (zr26 4 rfl) (zr1 5 rfl) (zr26 5 rfl)) rfl rfl rfl (by decide +kernel) hR
theorem wqX12_196_mc_puts {R : Room} {s : State} {args : Array Value} {c0 : Cond} (hts : ∀ w ∈ c0 :: wsL_law0, w.before args s = true) (hR : 1 + 1 ≤ R.frames ∧ 8 + (2 + 11) + 80 ≤ R.locals) : CallW R s args RX12 RX12 196 yX12_puts cX12_puts 2 none (.code yX12_puts cX12_puts 2 none :: wsL_law0) ({ frames := 1, cells := 0, slots := 0, locals := 80 }) 0 0 1 := cwV 1 hts (kgV (zr27 6 rfl) (zr27 7 rfl) (zr27 8 rfl) (zr1 5 rfl) (zr27 9 rfl)) rfl rfl rfl (by decide +kernel) hR
theorem wqX12_179_mc_fact {R : Room} {s : State} {args : Array Value} {c0 : Cond} (hts : ∀ w ∈ c0 :: wsL_law0, w.before args s = true) (hR : 1 + 1 ≤ R.frames ∧ 8 + (1 + 11) + 80 ≤ R.locals) : CallW R s args RX12 RX12 179 yX12_fact cX12_fact 1 (some .int) (.code yX12_fact cX12_fact 1 (some .int) :: wsL_law0) ({ frames := 1, cells := 0, slots := 0, locals := 80 }) 0 0 0 := cwV 0 hts (kgV (zr26 22 rfl) (zr26 23 rfl) (zr27 0 rfl) (zr1 5 rfl) (zr27 1 rfl)) rfl rfl rfl (by decide +kernel) hR
theorem wqX12_295_mc_reads {R : Room} {s : State} {args : Array Value} {c0 : Cond} (hts : ∀ w ∈ c0 :: wsL_law0, w.before args s = true) (hR : 3 + 1 ≤ R.frames ∧ 8 + (6 + 11) + 160 ≤ R.locals) : CallW R s args RX12 RX12 295 yX12_reads cX12_reads 6 (some .boolean) (.code yX12_reads cX12_reads 6 (some .boolean) :: wsL_law0) ({ frames := 3, cells := 0, slots := 0, locals := 160 }) 0 0 0 := cwV 0 hts (kgV (zr26 18 rfl) (zr26 19 rfl) (zr26 20 rfl) (zr1 5 rfl) (zr26 21 rfl)) rfl rfl rfl (by decide +kernel) hR
theorem wqX12_313_mc_readsReads {R : Room} {s : State} {args : Array Value} {c0 : Cond} (hts : ∀ w ∈ c0 :: wsL_law0, w.before args s = true) (hR : 4 + 1 ≤ R.frames ∧ 8 + (1 + 11) + 200 ≤ R.locals) : CallW R s args RX12 RX12 313 yX12_readsReads cX12_readsReads 1 (some .boolean) (.code yX12_readsReads cX12_readsReads 1 (some .boolean) :: wsL_law0) ({ frames := 4, cells := 0, slots := 0, locals := 200 }) 0 0 0 := cwV 0 hts (kgV (zr26 14 rfl) (zr26 15 rfl) (zr26 16 rfl) (zr1 5 rfl) (zr26 17 rfl)) rfl rfl rfl (by decide +kernel) hR
theorem wqX12_310_mc_readsOne3 {R : Room} {s : State} {args : Array Value} {c0 : Cond} (hts : ∀ w ∈ c0 :: wsL_law0, w.before args s = true) (hR : 4 + 1 ≤ R.frames ∧ 8 + (4 + 11) + 200 ≤ R.locals) : CallW R s args RX12 RX12 310 yX12_readsOne cX12_readsOne 4 (some .boolean) (.code yX12_readsOne cX12_readsOne 4 (some .boolean) :: wsL_law0) ({ frames := 4, cells := 0, slots := 0, locals := 200 }) 0 0 3 := cwV 3 hts (kgV (zr26 10 rfl) (zr26 11 rfl) (zr26 12 rfl) (zr1 5 rfl) (zr26 13 rfl)) rfl rfl rfl (by decide +kernel) hR
theorem wqX12_310_mc_readsOne2 {R : Room} {s : State} {args : Array Value} {c0 : Cond} (hts : ∀ w ∈ c0 :: wsL_law0, w.before args s = true) (hR : 4 + 1 ≤ R.frames ∧ 8 + (4 + 11) + 200 ≤ R.locals) : CallW R s args RX12 RX12 310 yX12_readsOne cX12_readsOne 4 (some .boolean) (.code yX12_readsOne cX12_readsOne 4 (some .boolean) :: wsL_law0) ({ frames := 4, cells := 0, slots := 0, locals := 200 }) 0 0 3 := cwV 3 hts (kgV (zr26 10 rfl) (zr26 11 rfl) (zr26 12 rfl) (zr1 5 rfl) (zr26 13 rfl)) rfl rfl rfl (by decide +kernel) hR
theorem wqX12_307_mc_readsPerson {R : Room} {s : State} {args : Array Value} {c0 : Cond} (hts : ∀ w ∈ c0 :: wsL_law0, w.before args s = true) (hR : 5 + 1 ≤ R.frames ∧ 8 + (4 + 11) + 240 ≤ R.locals) : CallW R s args RX12 RX12 307 yX12_readsPerson cX12_readsPerson 4 (some .boolean) (.code yX12_readsPerson cX12_readsPerson 4 (some .boolean) :: wsL_law0) ({ frames := 5, cells := 0, slots := 0, locals := 240 }) 0 0 0 := cwV 0 hts (kgV (zr26 6 rfl) (zr26 7 rfl) (zr26 8 rfl) (zr1 5 rfl) (zr26 9 rfl)) rfl rfl rfl (by decide +kernel) hR
theorem wqX12_304_mc_readsRoad {R : Room} {s : State} {args : Array Value} {c0 : Cond} (hts : ∀ w ∈ c0 :: wsL_law0, w.before args s = true) (hR : 4 + 1 ≤ R.frames ∧ 8 + (2 + 11) + 200 ≤ R.locals) : CallW R s args RX12 RX12 304 yX12_readsRoad cX12_readsRoad 2 (some .boolean) (.code yX12_readsRoad cX12_readsRoad 2 (some .boolean) :: wsL_law0) ({ frames := 4, cells := 0, slots := 0, locals := 200 }) 0 0 0 := cwV 0 hts (kgV (zr25 22 rfl) (zr25 23 rfl) (zr26 0 rfl) (zr1 5 rfl) (zr26 1 rfl)) rfl rfl rfl (by decide +kernel) hR
theorem wqX12_301_mc_readsTown {R : Room} {s : State} {args : Array Value} {c0 : Cond} (hts : ∀ w ∈ c0 :: wsL_law0, w.before args s = true) (hR : 5 + 1 ≤ R.frames ∧ 8 + (2 + 11) + 240 ≤ R.locals) : CallW R s args RX12 RX12 301 yX12_readsTown cX12_readsTown 2 (some .boolean) (.code yX12_readsTown cX12_readsTown 2 (some .boolean) :: wsL_law0) ({ frames := 5, cells := 0, slots := 0, locals := 240 }) 0 0 0 := cwV 0 hts (kgV (zr23 6 rfl) (zr23 7 rfl) (zr23 8 rfl) (zr1 5 rfl) (zr23 9 rfl)) rfl rfl rfl (by decide +kernel) hR
theorem wqX12_298_mc_begins {R : Room} {s : State} {args : Array Value} {c0 : Cond} (hts : ∀ w ∈ c0 :: wsL_law0, w.before args s = true) (hR : 3 + 1 ≤ R.frames ∧ 8 + (1 + 11) + 160 ≤ R.locals) : CallW R s args RX12 RX12 298 yX12_begins cX12_begins 1 none (.code yX12_begins cX12_begins 1 none :: wsL_law0) ({ frames := 3, cells := 0, slots := 0, locals := 160 }) 0 0 0 := cwV 0 hts (kgV (zr22 7 rfl) (zr22 8 rfl) (zr22 9 rfl) (zr1 5 rfl) (zr22 10 rfl)) rfl rfl rfl (by decide +kernel) hR
theorem wqX12_324_mc_needsPerson {R : Room} {s : State} {args : Array Value} {c0 : Cond} (hts : ∀ w ∈ c0 :: wsL_law0, w.before args s = true) (hR : 2 + 1 ≤ R.frames ∧ 8 + (1 + 11) + 120 ≤ R.locals) : CallW R s args RX12 RX12 324 yX12_needsPerson cX12_needsPerson 1 (some .boolean) (.code yX12_needsPerson cX12_needsPerson 1 (some .boolean) :: wsL_law0) ({ frames := 2, cells := 0, slots := 0, locals := 120 }) 0 0 0 := cwV 0 hts (kgV (zr30 2 rfl) (zr30 3 rfl) (zr30 4 rfl) (zr1 5 rfl) (zr30 5 rfl)) rfl rfl rfl (by decide +kernel) hR
theorem wqX12_289_mc_needsTown0 {R : Room} {s : State} {args : Array Value} {c0 : Cond} (hts : ∀ w ∈ c0 :: wsL_law0, w.before args s = true) (hR : 2 + 1 ≤ R.frames ∧ 8 + (2 + 11) + 120 ≤ R.locals) : CallW R s args RX12 RX12 289 yX12_needsTown cX12_needsTown 2 (some .boolean) (.code yX12_needsTown cX12_needsTown 2 (some .boolean) :: wsL_law0) ({ frames := 2, cells := 0, slots := 0, locals := 120 }) 0 0 1 := cwV 1 hts (kgV (zr26 2 rfl) (zr26 3 rfl) (zr26 4 rfl) (zr1 5 rfl) (zr26 5 rfl)) rfl rfl rfl (by decide +kernel) hR
theorem wqX12_339_mc_readsLine {R : Room} {s : State} {args : Array Value} {c0 : Cond} (hts : ∀ w ∈ c0 :: wsL_law0, w.before args s = true) (hR : 4 + 1 ≤ R.frames ∧ 8 + (3 + 11) + 200 ≤ R.locals) : CallW R s args RX12 RX12 339 yX12_readsLine cX12_readsLine 3 (some .boolean) (.code yX12_readsLine cX12_readsLine 3 (some .boolean) :: wsL_law0) ({ frames := 4, cells := 0, slots := 0, locals := 200 }) 0 0 0 := cwV 0 hts (kgV (zr29 22 rfl) (zr29 23 rfl) (zr30 0 rfl) (zr1 5 rfl) (zr30 1 rfl)) rfl rfl rfl (by decide +kernel) hR
theorem wqX12_327_mc_readsAll {R : Room} {s : State} {args : Array Value} {c0 : Cond} (hts : ∀ w ∈ c0 :: wsL_law0, w.before args s = true) (hR : 6 + 1 ≤ R.frames ∧ 8 + (2 + 11) + 280 ≤ R.locals) : CallW R s args RX12 RX12 327 yX12_readsAll cX12_readsAll 2 (some .boolean) (.code yX12_readsAll cX12_readsAll 2 (some .boolean) :: wsL_law0) ({ frames := 6, cells := 0, slots := 0, locals := 280 }) 0 0 0 := cwV 0 hts (kgV (zr21 18 rfl) (zr21 19 rfl) (zr21 20 rfl) (zr1 5 rfl) (zr21 21 rfl)) rfl rfl rfl (by decide +kernel) hR
theorem wqX12_330_mc_lays {R : Room} {s : State} {args : Array Value} {c0 : Cond} (hts : ∀ w ∈ c0 :: wsL_law0, w.before args s = true) (hR : 2 + 1 ≤ R.frames ∧ 8 + (1 + 11) + 120 ≤ R.locals) : CallW R s args RX12 RX12 330 yX12_lays cX12_lays 1 none (.code yX12_lays cX12_lays 1 none :: wsL_law0) ({ frames := 2, cells := 0, slots := 0, locals := 120 }) 0 0 0 := cwV 0 hts (kgV (zr27 10 rfl) (zr27 11 rfl) (zr27 12 rfl) (zr1 5 rfl) (zr27 13 rfl)) rfl rfl rfl (by decide +kernel) hR
theorem wqX9_83_kc_spells {R : Room} {s : State} {args : Array Value} {c0 : Cond} (hts : ∀ w ∈ c0 :: wsL_law0, w.before args s = true) (hR : 5 + 1 ≤ R.frames ∧ 8 + (3 + 11) + 240 ≤ R.locals) : CallW R s args RX9 RX9 83 yX9_spells cX9_spells 3 (some .boolean) (.code yX9_spells cX9_spells 3 (some .boolean) :: wsL_law0) ({ frames := 5, cells := 0, slots := 0, locals := 240 }) 0 0 1 := cwV 1 hts (kgV (zr12 1 rfl) (zr12 2 rfl) (zr12 3 rfl) (zr1 16 rfl) (zr12 4 rfl)) rfl rfl rfl (by decide +kernel) hR
theorem wqX9_62_kc_sortAs {R : Room} {s : State} {args : Array Value} {c0 : Cond} (hts : ∀ w ∈ c0 :: wsL_law0, w.before args s = true) (hR : 6 + 1 ≤ R.frames ∧ 8 + (3 + 11) + 280 ≤ R.locals) : CallW R s args RX9 RX9 62 yX9_sortAs cX9_sortAs 3 (some (.object "BeardPass$Sort")) (.code yX9_sortAs cX9_sortAs 3 (some (.object "BeardPass$Sort")) :: wsL_law0) ({ frames := 6, cells := 0, slots := 0, locals := 280 }) 0 0 1 := cwV 1 hts (kgV (zr11 20 rfl) (zr11 21 rfl) (zr11 22 rfl) (zr1 16 rfl) (zr11 23 rfl)) rfl rfl rfl (by decide +kernel) hR
theorem wqX9_69_kc_stepOverNumber {R : Room} {s : State} {args : Array Value} {c0 : Cond} (hts : ∀ w ∈ c0 :: wsL_law0, w.before args s = true) (hR : 2 + 1 ≤ R.frames ∧ 8 + (1 + 11) + 120 ≤ R.locals) : CallW R s args RX9 RX9 69 yX9_stepOverNumber cX9_stepOverNumber 1 none (.code yX9_stepOverNumber cX9_stepOverNumber 1 none :: wsL_law0) ({ frames := 2, cells := 0, slots := 0, locals := 120 }) 0 0 0 := cwV 0 hts (kgV (zr14 9 rfl) (zr14 10 rfl) (zr14 11 rfl) (zr1 16 rfl) (zr14 12 rfl)) rfl rfl rfl (by decide +kernel) hR
theorem wqX9_53_kc_stepOverWord {R : Room} {s : State} {args : Array Value} {c0 : Cond} (hts : ∀ w ∈ c0 :: wsL_law0, w.before args s = true) (hR : 2 + 1 ≤ R.frames ∧ 8 + (1 + 11) + 120 ≤ R.locals) : CallW R s args RX9 RX9 53 yX9_stepOverWord cX9_stepOverWord 1 none (.code yX9_stepOverWord cX9_stepOverWord 1 none :: wsL_law0) ({ frames := 2, cells := 0, slots := 0, locals := 120 }) 0 0 0 := cwV 0 hts (kgV (zr11 16 rfl) (zr11 17 rfl) (zr11 18 rfl) (zr1 16 rfl) (zr11 19 rfl)) rfl rfl rfl (by decide +kernel) hR
theorem wqX9_46_kc_step {R : Room} {s : State} {args : Array Value} {c0 : Cond} (hts : ∀ w ∈ c0 :: wsL_law0, w.before args s = true) (hR : 7 + 1 ≤ R.frames ∧ 8 + (1 + 11) + 320 ≤ R.locals) : CallW R s args RX9 RX9 46 yX9_step cX9_step 1 none (.code yX9_step cX9_step 1 none :: wsL_law0) ({ frames := 7, cells := 0, slots := 0, locals := 320 }) 0 0 0 := cwV 0 hts (kgV (zr11 6 rfl) (zr11 7 rfl) (zr11 8 rfl) (zr1 16 rfl) (zr11 9 rfl)) rfl rfl rfl (by decide +kernel) hR
theorem wqX9_96_kc_wrong {R : Room} {s : State} {args : Array Value} {c0 : Cond} (hts : ∀ w ∈ c0 :: wsL_law0, w.before args s = true) (hR : 1 + 1 ≤ R.frames ∧ 8 + (2 + 11) + 80 ≤ R.locals) : CallW R s args RX9 RX9 96 yX9_wrong cX9_wrong 2 (some .boolean) (.code yX9_wrong cX9_wrong 2 (some .boolean) :: wsL_law0) ({ frames := 1, cells := 0, slots := 0, locals := 80 }) 0 0 1 := cwV 1 hts (kgV (zr16 7 rfl) (zr15 11 rfl) (zr15 12 rfl) (zr1 16 rfl) (zr15 13 rfl)) rfl rfl rfl (by decide +kernel) hR
theorem wqX9_100_kc_townNamed {R : Room} {s : State} {args : Array Value} {c0 : Cond} (hts : ∀ w ∈ c0 :: wsL_law0, w.before args s = true) (hR : 1 + 1 ≤ R.frames ∧ 8 + (4 + 11) + 80 ≤ R.locals) : CallW R s args RX9 RX2 100 yX2_townNamed cX2_townNamed 4 (some .int) (.code yX2_townNamed cX2_townNamed 4 (some .int) :: wsL_law0) ({ frames := 1, cells := 0, slots := 0, locals := 80 }) 0 0 1 := cwV 1 hts (kgV (zr16 21 rfl) (zr15 20 rfl) (zr15 21 rfl) (zr1 20 rfl) (zr15 22 rfl)) rfl rfl rfl (by decide +kernel) hR
theorem wqX9_106_kc_personNamed {R : Room} {s : State} {args : Array Value} {c0 : Cond} (hts : ∀ w ∈ c0 :: wsL_law0, w.before args s = true) (hR : 1 + 1 ≤ R.frames ∧ 8 + (4 + 11) + 80 ≤ R.locals) : CallW R s args RX9 RX2 106 yX2_personNamed cX2_personNamed 4 (some .int) (.code yX2_personNamed cX2_personNamed 4 (some .int) :: wsL_law0) ({ frames := 1, cells := 0, slots := 0, locals := 80 }) 0 0 1 := cwV 1 hts (kgV (zr29 9 rfl) (zr16 0 rfl) (zr16 1 rfl) (zr1 20 rfl) (zr16 2 rfl)) rfl rfl rfl (by decide +kernel) hR
theorem wqX9_100_kc_townNamedD {R : Room} {s : State} {args : Array Value} {c0 : Cond} (hts : ∀ w ∈ c0 :: wsL_law0, w.before args s = true) (hR : 1 + 1 ≤ R.frames ∧ 8 + (4 + 11) + 80 ≤ R.locals) : CallW R s args RX9 RX2 100 yX2_townNamed cX2_townNamed 4 (some .int) (.code yX2_townNamed cX2_townNamed 4 (some .int) :: wsL_law0) ({ frames := 1, cells := 0, slots := 0, locals := 80 }) 0 0 1 := cwV 1 hts (kgV (zr16 21 rfl) (zr15 20 rfl) (zr15 21 rfl) (zr1 20 rfl) (zr15 22 rfl)) rfl rfl rfl (by decide +kernel) hR
theorem wqX4_22_kc_add {R : Room} {s : State} {args : Array Value} {c0 : Cond} (hts : ∀ w ∈ c0 :: wsL_law0, w.before args s = true) (hR : 1 + 1 ≤ R.frames ∧ 8 + (2 + 11) + 80 ≤ R.locals) : CallW R s args RX4 RX4 22 yX4_add cX4_add 2 none (.code yX4_add cX4_add 2 none :: wsL_law0) ({ frames := 1, cells := 0, slots := 0, locals := 80 }) 0 0 1 := cwV 1 hts (kgV (zr5 4 rfl) (zr5 5 rfl) (zr5 6 rfl) (zr4 12 rfl) (zr5 7 rfl)) rfl rfl rfl (by decide +kernel) hR
theorem wqX4_112_kc_spells {R : Room} {s : State} {args : Array Value} {c0 : Cond} (hts : ∀ w ∈ c0 :: wsL_law0, w.before args s = true) (hR : 5 + 1 ≤ R.frames ∧ 8 + (3 + 11) + 240 ≤ R.locals) : CallW R s args RX4 RX9 112 yX9_spells cX9_spells 3 (some .boolean) (.code yX9_spells cX9_spells 3 (some .boolean) :: wsL_law0) ({ frames := 5, cells := 0, slots := 0, locals := 240 }) 0 0 1 := cwV 1 hts (kgV (zr19 10 rfl) (zr12 2 rfl) (zr12 3 rfl) (zr1 16 rfl) (zr12 4 rfl)) rfl rfl rfl (by decide +kernel) hR
theorem wqX4_87_kc_wrong {R : Room} {s : State} {args : Array Value} {c0 : Cond} (hts : ∀ w ∈ c0 :: wsL_law0, w.before args s = true) (hR : 1 + 1 ≤ R.frames ∧ 8 + (2 + 11) + 80 ≤ R.locals) : CallW R s args RX4 RX9 87 yX9_wrong cX9_wrong 2 (some .boolean) (.code yX9_wrong cX9_wrong 2 (some .boolean) :: wsL_law0) ({ frames := 1, cells := 0, slots := 0, locals := 80 }) 0 0 1 := cwV 1 hts (kgV (zr19 11 rfl) (zr15 11 rfl) (zr15 12 rfl) (zr1 16 rfl) (zr15 13 rfl)) rfl rfl rfl (by decide +kernel) hR
theorem wqX4_50_kc_step {R : Room} {s : State} {args : Array Value} {c0 : Cond} (hts : ∀ w ∈ c0 :: wsL_law0, w.before args s = true) (hR : 7 + 1 ≤ R.frames ∧ 8 + (1 + 11) + 320 ≤ R.locals) : CallW R s args RX4 RX9 50 yX9_step cX9_step 1 none (.code yX9_step cX9_step 1 none :: wsL_law0) ({ frames := 7, cells := 0, slots := 0, locals := 320 }) 0 0 0 := cwV 0 hts (kgV (zr18 23 rfl) (zr11 7 rfl) (zr11 8 rfl) (zr1 16 rfl) (zr11 9 rfl)) rfl rfl rfl (by decide +kernel) hR
theorem wqX4_71_kc_readPart5 {R : Room} {s : State} {args : Array Value} {c0 : Cond} (hts : ∀ w ∈ c0 :: wsL_law0, w.before args s = true) (hR : 7 + 1 ≤ R.frames ∧ 8 + (6 + 11) + 320 ≤ R.locals) : CallW R s args RX4 RX4 71 yX4_readPart cX4_readPart 6 (some .boolean) (.code yX4_readPart cX4_readPart 6 (some .boolean) :: wsL_law0) ({ frames := 7, cells := 0, slots := 0, locals := 320 }) 0 0 2 := cwV 2 hts (kgV (zr19 14 rfl) (zr19 15 rfl) (zr19 16 rfl) (zr4 12 rfl) (zr19 0 rfl)) rfl rfl rfl (by decide +kernel) hR
theorem wqX4_62_kc_readProduct5 {R : Room} {s : State} {args : Array Value} {c0 : Cond} (hts : ∀ w ∈ c0 :: wsL_law0, w.before args s = true) (hR : 8 + 1 ≤ R.frames ∧ 8 + (4 + 11) + 360 ≤ R.locals) : CallW R s args RX4 RX4 62 yX4_readProduct cX4_readProduct 4 (some .boolean) (.code yX4_readProduct cX4_readProduct 4 (some .boolean) :: wsL_law0) ({ frames := 8, cells := 0, slots := 0, locals := 360 }) 0 0 2 := cwV 2 hts (kgV (zr19 22 rfl) (zr19 23 rfl) (zr20 0 rfl) (zr4 12 rfl) (zr19 17 rfl)) rfl rfl rfl (by decide +kernel) hR
theorem wqX4_53_kc_readSum5 {R : Room} {s : State} {args : Array Value} {c0 : Cond} (hts : ∀ w ∈ c0 :: wsL_law0, w.before args s = true) (hR : 9 + 1 ≤ R.frames ∧ 8 + (5 + 11) + 400 ≤ R.locals) : CallW R s args RX4 RX4 53 yX4_readSum cX4_readSum 5 (some .boolean) (.code yX4_readSum cX4_readSum 5 (some .boolean) :: wsL_law0) ({ frames := 9, cells := 0, slots := 0, locals := 400 }) 0 0 2 := cwV 2 hts (kgV (zr20 4 rfl) (zr20 5 rfl) (zr20 6 rfl) (zr4 12 rfl) (zr19 19 rfl)) rfl rfl rfl (by decide +kernel) hR
theorem wqX4_32_kc_readTest5 {R : Room} {s : State} {args : Array Value} {c0 : Cond} (hts : ∀ w ∈ c0 :: wsL_law0, w.before args s = true) (hR : 10 + 1 ≤ R.frames ∧ 8 + (4 + 11) + 440 ≤ R.locals) : CallW R s args RX4 RX4 32 yX4_readTest cX4_readTest 4 (some .boolean) (.code yX4_readTest cX4_readTest 4 (some .boolean) :: wsL_law0) ({ frames := 10, cells := 0, slots := 0, locals := 440 }) 0 0 2 := cwV 2 hts (kgV (zr18 20 rfl) (zr18 21 rfl) (zr18 22 rfl) (zr4 12 rfl) (zr20 1 rfl)) rfl rfl rfl (by decide +kernel) hR
theorem wqX4_91_kc_readWhole5 {R : Room} {s : State} {args : Array Value} {c0 : Cond} (hts : ∀ w ∈ c0 :: wsL_law0, w.before args s = true) (hR : 11 + 1 ≤ R.frames ∧ 8 + (5 + 11) + 480 ≤ R.locals) : CallW R s args RX4 RX4 91 yX4_readWhole cX4_readWhole 5 (some .boolean) (.code yX4_readWhole cX4_readWhole 5 (some .boolean) :: wsL_law0) ({ frames := 11, cells := 0, slots := 0, locals := 480 }) 0 0 2 := cwV 2 hts (kgV (zr19 12 rfl) (zr18 14 rfl) (zr18 15 rfl) (zr4 12 rfl) (zr18 16 rfl)) rfl rfl rfl (by decide +kernel) hR
theorem wqX4_97_kc_take {R : Room} {s : State} {args : Array Value} {c0 : Cond} (hts : ∀ w ∈ c0 :: wsL_law0, w.before args s = true) (hR : 8 + 1 ≤ R.frames ∧ 8 + (2 + 11) + 360 ≤ R.locals) : CallW R s args RX4 RX9 97 yX9_take cX9_take 2 (some .boolean) (.code yX9_take cX9_take 2 (some .boolean) :: wsL_law0) ({ frames := 8, cells := 0, slots := 0, locals := 360 }) 0 0 1 := cwV 1 hts (kgV (zr19 13 rfl) (zr16 4 rfl) (zr16 5 rfl) (zr1 16 rfl) (zr16 6 rfl)) rfl rfl rfl (by decide +kernel) hR
theorem wqX4_71_kc_readPart4 {R : Room} {s : State} {args : Array Value} {c0 : Cond} (hts : ∀ w ∈ c0 :: wsL_law0, w.before args s = true) (hR : 12 + 1 ≤ R.frames ∧ 8 + (6 + 11) + 520 ≤ R.locals) : CallW R s args RX4 RX4 71 yX4_readPart cX4_readPart 6 (some .boolean) (.code yX4_readPart cX4_readPart 6 (some .boolean) :: wsL_law0) ({ frames := 12, cells := 0, slots := 0, locals := 520 }) 0 0 2 := cwV 2 hts (kgV (zr19 14 rfl) (zr19 15 rfl) (zr19 16 rfl) (zr4 12 rfl) (zr19 0 rfl)) rfl rfl rfl (by decide +kernel) hR
theorem wqX4_62_kc_readProduct4 {R : Room} {s : State} {args : Array Value} {c0 : Cond} (hts : ∀ w ∈ c0 :: wsL_law0, w.before args s = true) (hR : 13 + 1 ≤ R.frames ∧ 8 + (4 + 11) + 560 ≤ R.locals) : CallW R s args RX4 RX4 62 yX4_readProduct cX4_readProduct 4 (some .boolean) (.code yX4_readProduct cX4_readProduct 4 (some .boolean) :: wsL_law0) ({ frames := 13, cells := 0, slots := 0, locals := 560 }) 0 0 2 := cwV 2 hts (kgV (zr19 22 rfl) (zr19 23 rfl) (zr20 0 rfl) (zr4 12 rfl) (zr19 17 rfl)) rfl rfl rfl (by decide +kernel) hR
theorem wqX4_53_kc_readSum4 {R : Room} {s : State} {args : Array Value} {c0 : Cond} (hts : ∀ w ∈ c0 :: wsL_law0, w.before args s = true) (hR : 14 + 1 ≤ R.frames ∧ 8 + (5 + 11) + 600 ≤ R.locals) : CallW R s args RX4 RX4 53 yX4_readSum cX4_readSum 5 (some .boolean) (.code yX4_readSum cX4_readSum 5 (some .boolean) :: wsL_law0) ({ frames := 14, cells := 0, slots := 0, locals := 600 }) 0 0 2 := cwV 2 hts (kgV (zr20 4 rfl) (zr20 5 rfl) (zr20 6 rfl) (zr4 12 rfl) (zr19 19 rfl)) rfl rfl rfl (by decide +kernel) hR
theorem wqX4_32_kc_readTest4 {R : Room} {s : State} {args : Array Value} {c0 : Cond} (hts : ∀ w ∈ c0 :: wsL_law0, w.before args s = true) (hR : 15 + 1 ≤ R.frames ∧ 8 + (4 + 11) + 640 ≤ R.locals) : CallW R s args RX4 RX4 32 yX4_readTest cX4_readTest 4 (some .boolean) (.code yX4_readTest cX4_readTest 4 (some .boolean) :: wsL_law0) ({ frames := 15, cells := 0, slots := 0, locals := 640 }) 0 0 2 := cwV 2 hts (kgV (zr18 20 rfl) (zr18 21 rfl) (zr18 22 rfl) (zr4 12 rfl) (zr20 1 rfl)) rfl rfl rfl (by decide +kernel) hR
theorem wqX4_91_kc_readWhole4 {R : Room} {s : State} {args : Array Value} {c0 : Cond} (hts : ∀ w ∈ c0 :: wsL_law0, w.before args s = true) (hR : 16 + 1 ≤ R.frames ∧ 8 + (5 + 11) + 680 ≤ R.locals) : CallW R s args RX4 RX4 91 yX4_readWhole cX4_readWhole 5 (some .boolean) (.code yX4_readWhole cX4_readWhole 5 (some .boolean) :: wsL_law0) ({ frames := 16, cells := 0, slots := 0, locals := 680 }) 0 0 2 := cwV 2 hts (kgV (zr19 12 rfl) (zr18 14 rfl) (zr18 15 rfl) (zr4 12 rfl) (zr18 16 rfl)) rfl rfl rfl (by decide +kernel) hR
theorem wqX4_71_kc_readPart3 {R : Room} {s : State} {args : Array Value} {c0 : Cond} (hts : ∀ w ∈ c0 :: wsL_law0, w.before args s = true) (hR : 17 + 1 ≤ R.frames ∧ 8 + (6 + 11) + 720 ≤ R.locals) : CallW R s args RX4 RX4 71 yX4_readPart cX4_readPart 6 (some .boolean) (.code yX4_readPart cX4_readPart 6 (some .boolean) :: wsL_law0) ({ frames := 17, cells := 0, slots := 0, locals := 720 }) 0 0 2 := cwV 2 hts (kgV (zr19 14 rfl) (zr19 15 rfl) (zr19 16 rfl) (zr4 12 rfl) (zr19 0 rfl)) rfl rfl rfl (by decide +kernel) hR
theorem wqX4_62_kc_readProduct3 {R : Room} {s : State} {args : Array Value} {c0 : Cond} (hts : ∀ w ∈ c0 :: wsL_law0, w.before args s = true) (hR : 18 + 1 ≤ R.frames ∧ 8 + (4 + 11) + 760 ≤ R.locals) : CallW R s args RX4 RX4 62 yX4_readProduct cX4_readProduct 4 (some .boolean) (.code yX4_readProduct cX4_readProduct 4 (some .boolean) :: wsL_law0) ({ frames := 18, cells := 0, slots := 0, locals := 760 }) 0 0 2 := cwV 2 hts (kgV (zr19 22 rfl) (zr19 23 rfl) (zr20 0 rfl) (zr4 12 rfl) (zr19 17 rfl)) rfl rfl rfl (by decide +kernel) hR
theorem wqX4_53_kc_readSum3 {R : Room} {s : State} {args : Array Value} {c0 : Cond} (hts : ∀ w ∈ c0 :: wsL_law0, w.before args s = true) (hR : 19 + 1 ≤ R.frames ∧ 8 + (5 + 11) + 800 ≤ R.locals) : CallW R s args RX4 RX4 53 yX4_readSum cX4_readSum 5 (some .boolean) (.code yX4_readSum cX4_readSum 5 (some .boolean) :: wsL_law0) ({ frames := 19, cells := 0, slots := 0, locals := 800 }) 0 0 2 := cwV 2 hts (kgV (zr20 4 rfl) (zr20 5 rfl) (zr20 6 rfl) (zr4 12 rfl) (zr19 19 rfl)) rfl rfl rfl (by decide +kernel) hR
theorem wqX4_32_kc_readTest3 {R : Room} {s : State} {args : Array Value} {c0 : Cond} (hts : ∀ w ∈ c0 :: wsL_law0, w.before args s = true) (hR : 20 + 1 ≤ R.frames ∧ 8 + (4 + 11) + 840 ≤ R.locals) : CallW R s args RX4 RX4 32 yX4_readTest cX4_readTest 4 (some .boolean) (.code yX4_readTest cX4_readTest 4 (some .boolean) :: wsL_law0) ({ frames := 20, cells := 0, slots := 0, locals := 840 }) 0 0 2 := cwV 2 hts (kgV (zr18 20 rfl) (zr18 21 rfl) (zr18 22 rfl) (zr4 12 rfl) (zr20 1 rfl)) rfl rfl rfl (by decide +kernel) hR
theorem wqX4_91_kc_readWhole3 {R : Room} {s : State} {args : Array Value} {c0 : Cond} (hts : ∀ w ∈ c0 :: wsL_law0, w.before args s = true) (hR : 21 + 1 ≤ R.frames ∧ 8 + (5 + 11) + 880 ≤ R.locals) : CallW R s args RX4 RX4 91 yX4_readWhole cX4_readWhole 5 (some .boolean) (.code yX4_readWhole cX4_readWhole 5 (some .boolean) :: wsL_law0) ({ frames := 21, cells := 0, slots := 0, locals := 880 }) 0 0 2 := cwV 2 hts (kgV (zr19 12 rfl) (zr18 14 rfl) (zr18 15 rfl) (zr4 12 rfl) (zr18 16 rfl)) rfl rfl rfl (by decide +kernel) hR
theorem wqX4_71_kc_readPart2 {R : Room} {s : State} {args : Array Value} {c0 : Cond} (hts : ∀ w ∈ c0 :: wsL_law0, w.before args s = true) (hR : 22 + 1 ≤ R.frames ∧ 8 + (6 + 11) + 920 ≤ R.locals) : CallW R s args RX4 RX4 71 yX4_readPart cX4_readPart 6 (some .boolean) (.code yX4_readPart cX4_readPart 6 (some .boolean) :: wsL_law0) ({ frames := 22, cells := 0, slots := 0, locals := 920 }) 0 0 2 := cwV 2 hts (kgV (zr19 14 rfl) (zr19 15 rfl) (zr19 16 rfl) (zr4 12 rfl) (zr19 0 rfl)) rfl rfl rfl (by decide +kernel) hR
theorem wqX4_62_kc_readProduct2 {R : Room} {s : State} {args : Array Value} {c0 : Cond} (hts : ∀ w ∈ c0 :: wsL_law0, w.before args s = true) (hR : 23 + 1 ≤ R.frames ∧ 8 + (4 + 11) + 960 ≤ R.locals) : CallW R s args RX4 RX4 62 yX4_readProduct cX4_readProduct 4 (some .boolean) (.code yX4_readProduct cX4_readProduct 4 (some .boolean) :: wsL_law0) ({ frames := 23, cells := 0, slots := 0, locals := 960 }) 0 0 2 := cwV 2 hts (kgV (zr19 22 rfl) (zr19 23 rfl) (zr20 0 rfl) (zr4 12 rfl) (zr19 17 rfl)) rfl rfl rfl (by decide +kernel) hR
theorem wqX4_53_kc_readSum2 {R : Room} {s : State} {args : Array Value} {c0 : Cond} (hts : ∀ w ∈ c0 :: wsL_law0, w.before args s = true) (hR : 24 + 1 ≤ R.frames ∧ 8 + (5 + 11) + 1000 ≤ R.locals) : CallW R s args RX4 RX4 53 yX4_readSum cX4_readSum 5 (some .boolean) (.code yX4_readSum cX4_readSum 5 (some .boolean) :: wsL_law0) ({ frames := 24, cells := 0, slots := 0, locals := 1000 }) 0 0 2 := cwV 2 hts (kgV (zr20 4 rfl) (zr20 5 rfl) (zr20 6 rfl) (zr4 12 rfl) (zr19 19 rfl)) rfl rfl rfl (by decide +kernel) hR
theorem wqX4_32_kc_readTest2 {R : Room} {s : State} {args : Array Value} {c0 : Cond} (hts : ∀ w ∈ c0 :: wsL_law0, w.before args s = true) (hR : 25 + 1 ≤ R.frames ∧ 8 + (4 + 11) + 1040 ≤ R.locals) : CallW R s args RX4 RX4 32 yX4_readTest cX4_readTest 4 (some .boolean) (.code yX4_readTest cX4_readTest 4 (some .boolean) :: wsL_law0) ({ frames := 25, cells := 0, slots := 0, locals := 1040 }) 0 0 2 := cwV 2 hts (kgV (zr18 20 rfl) (zr18 21 rfl) (zr18 22 rfl) (zr4 12 rfl) (zr20 1 rfl)) rfl rfl rfl (by decide +kernel) hR
theorem wqX4_91_kc_readWhole2 {R : Room} {s : State} {args : Array Value} {c0 : Cond} (hts : ∀ w ∈ c0 :: wsL_law0, w.before args s = true) (hR : 26 + 1 ≤ R.frames ∧ 8 + (5 + 11) + 1080 ≤ R.locals) : CallW R s args RX4 RX4 91 yX4_readWhole cX4_readWhole 5 (some .boolean) (.code yX4_readWhole cX4_readWhole 5 (some .boolean) :: wsL_law0) ({ frames := 26, cells := 0, slots := 0, locals := 1080 }) 0 0 2 := cwV 2 hts (kgV (zr19 12 rfl) (zr18 14 rfl) (zr18 15 rfl) (zr4 12 rfl) (zr18 16 rfl)) rfl rfl rfl (by decide +kernel) hR
theorem wqX4_71_kc_readPart1 {R : Room} {s : State} {args : Array Value} {c0 : Cond} (hts : ∀ w ∈ c0 :: wsL_law0, w.before args s = true) (hR : 27 + 1 ≤ R.frames ∧ 8 + (6 + 11) + 1120 ≤ R.locals) : CallW R s args RX4 RX4 71 yX4_readPart cX4_readPart 6 (some .boolean) (.code yX4_readPart cX4_readPart 6 (some .boolean) :: wsL_law0) ({ frames := 27, cells := 0, slots := 0, locals := 1120 }) 0 0 2 := cwV 2 hts (kgV (zr19 14 rfl) (zr19 15 rfl) (zr19 16 rfl) (zr4 12 rfl) (zr19 0 rfl)) rfl rfl rfl (by decide +kernel) hR
theorem wqX4_62_kc_readProduct1 {R : Room} {s : State} {args : Array Value} {c0 : Cond} (hts : ∀ w ∈ c0 :: wsL_law0, w.before args s = true) (hR : 28 + 1 ≤ R.frames ∧ 8 + (4 + 11) + 1160 ≤ R.locals) : CallW R s args RX4 RX4 62 yX4_readProduct cX4_readProduct 4 (some .boolean) (.code yX4_readProduct cX4_readProduct 4 (some .boolean) :: wsL_law0) ({ frames := 28, cells := 0, slots := 0, locals := 1160 }) 0 0 2 := cwV 2 hts (kgV (zr19 22 rfl) (zr19 23 rfl) (zr20 0 rfl) (zr4 12 rfl) (zr19 17 rfl)) rfl rfl rfl (by decide +kernel) hR
theorem wqX4_53_kc_readSum1 {R : Room} {s : State} {args : Array Value} {c0 : Cond} (hts : ∀ w ∈ c0 :: wsL_law0, w.before args s = true) (hR : 29 + 1 ≤ R.frames ∧ 8 + (5 + 11) + 1200 ≤ R.locals) : CallW R s args RX4 RX4 53 yX4_readSum cX4_readSum 5 (some .boolean) (.code yX4_readSum cX4_readSum 5 (some .boolean) :: wsL_law0) ({ frames := 29, cells := 0, slots := 0, locals := 1200 }) 0 0 2 := cwV 2 hts (kgV (zr20 4 rfl) (zr20 5 rfl) (zr20 6 rfl) (zr4 12 rfl) (zr19 19 rfl)) rfl rfl rfl (by decide +kernel) hR
theorem wqX4_32_kc_readTest1 {R : Room} {s : State} {args : Array Value} {c0 : Cond} (hts : ∀ w ∈ c0 :: wsL_law0, w.before args s = true) (hR : 30 + 1 ≤ R.frames ∧ 8 + (4 + 11) + 1240 ≤ R.locals) : CallW R s args RX4 RX4 32 yX4_readTest cX4_readTest 4 (some .boolean) (.code yX4_readTest cX4_readTest 4 (some .boolean) :: wsL_law0) ({ frames := 30, cells := 0, slots := 0, locals := 1240 }) 0 0 2 := cwV 2 hts (kgV (zr18 20 rfl) (zr18 21 rfl) (zr18 22 rfl) (zr4 12 rfl) (zr20 1 rfl)) rfl rfl rfl (by decide +kernel) hR
theorem wqX4_91_kc_readWhole1 {R : Room} {s : State} {args : Array Value} {c0 : Cond} (hts : ∀ w ∈ c0 :: wsL_law0, w.before args s = true) (hR : 31 + 1 ≤ R.frames ∧ 8 + (5 + 11) + 1280 ≤ R.locals) : CallW R s args RX4 RX4 91 yX4_readWhole cX4_readWhole 5 (some .boolean) (.code yX4_readWhole cX4_readWhole 5 (some .boolean) :: wsL_law0) ({ frames := 31, cells := 0, slots := 0, locals := 1280 }) 0 0 2 := cwV 2 hts (kgV (zr19 12 rfl) (zr18 14 rfl) (zr18 15 rfl) (zr4 12 rfl) (zr18 16 rfl)) rfl rfl rfl (by decide +kernel) hR
theorem wqX4_71_kc_readPart0 {R : Room} {s : State} {args : Array Value} {c0 : Cond} (hts : ∀ w ∈ c0 :: wsL_law0, w.before args s = true) (hR : 32 + 1 ≤ R.frames ∧ 8 + (6 + 11) + 1320 ≤ R.locals) : CallW R s args RX4 RX4 71 yX4_readPart cX4_readPart 6 (some .boolean) (.code yX4_readPart cX4_readPart 6 (some .boolean) :: wsL_law0) ({ frames := 32, cells := 0, slots := 0, locals := 1320 }) 0 0 2 := cwV 2 hts (kgV (zr19 14 rfl) (zr19 15 rfl) (zr19 16 rfl) (zr4 12 rfl) (zr19 0 rfl)) rfl rfl rfl (by decide +kernel) hR
theorem wqX4_62_kc_readProduct0 {R : Room} {s : State} {args : Array Value} {c0 : Cond} (hts : ∀ w ∈ c0 :: wsL_law0, w.before args s = true) (hR : 33 + 1 ≤ R.frames ∧ 8 + (4 + 11) + 1360 ≤ R.locals) : CallW R s args RX4 RX4 62 yX4_readProduct cX4_readProduct 4 (some .boolean) (.code yX4_readProduct cX4_readProduct 4 (some .boolean) :: wsL_law0) ({ frames := 33, cells := 0, slots := 0, locals := 1360 }) 0 0 2 := cwV 2 hts (kgV (zr19 22 rfl) (zr19 23 rfl) (zr20 0 rfl) (zr4 12 rfl) (zr19 17 rfl)) rfl rfl rfl (by decide +kernel) hR
theorem wqX4_53_kc_readSum0 {R : Room} {s : State} {args : Array Value} {c0 : Cond} (hts : ∀ w ∈ c0 :: wsL_law0, w.before args s = true) (hR : 34 + 1 ≤ R.frames ∧ 8 + (5 + 11) + 1400 ≤ R.locals) : CallW R s args RX4 RX4 53 yX4_readSum cX4_readSum 5 (some .boolean) (.code yX4_readSum cX4_readSum 5 (some .boolean) :: wsL_law0) ({ frames := 34, cells := 0, slots := 0, locals := 1400 }) 0 0 2 := cwV 2 hts (kgV (zr20 4 rfl) (zr20 5 rfl) (zr20 6 rfl) (zr4 12 rfl) (zr19 19 rfl)) rfl rfl rfl (by decide +kernel) hR
theorem wqX4_32_kc_readTest0 {R : Room} {s : State} {args : Array Value} {c0 : Cond} (hts : ∀ w ∈ c0 :: wsL_law0, w.before args s = true) (hR : 35 + 1 ≤ R.frames ∧ 8 + (4 + 11) + 1440 ≤ R.locals) : CallW R s args RX4 RX4 32 yX4_readTest cX4_readTest 4 (some .boolean) (.code yX4_readTest cX4_readTest 4 (some .boolean) :: wsL_law0) ({ frames := 35, cells := 0, slots := 0, locals := 1440 }) 0 0 2 := cwV 2 hts (kgV (zr18 20 rfl) (zr18 21 rfl) (zr18 22 rfl) (zr4 12 rfl) (zr20 1 rfl)) rfl rfl rfl (by decide +kernel) hR
theorem wqX2_57_kc_untold {R : Room} {s : State} {args : Array Value} {c0 : Cond} (hts : ∀ w ∈ c0 :: wsL_law0, w.before args s = true) (hR : 2 + 1 ≤ R.frames ∧ 8 + (1 + 11) + 120 ≤ R.locals) : CallW R s args RX2 RX4 57 yX4_beAsUntold cX4_beAsUntold 1 none (.code yX4_beAsUntold cX4_beAsUntold 1 none :: wsL_law0) ({ frames := 2, cells := 0, slots := 0, locals := 120 }) 0 0 0 := cwV 0 hts (kgV (zr5 0 rfl) (zr5 1 rfl) (zr5 2 rfl) (zr4 12 rfl) (zr5 3 rfl)) rfl rfl rfl (by decide +kernel) hR
theorem wqX3_105_kc_wrong {R : Room} {s : State} {args : Array Value} {c0 : Cond} (hts : ∀ w ∈ c0 :: wsL_law0, w.before args s = true) (hR : 1 + 1 ≤ R.frames ∧ 8 + (2 + 11) + 80 ≤ R.locals) : CallW R s args RX3 RX9 105 yX9_wrong cX9_wrong 2 (some .boolean) (.code yX9_wrong cX9_wrong 2 (some .boolean) :: wsL_law0) ({ frames := 1, cells := 0, slots := 0, locals := 80 }) 0 0 1 := cwV 1 hts (kgV (zr15 10 rfl) (zr15 11 rfl) (zr15 12 rfl) (zr1 16 rfl) (zr15 13 rfl)) rfl rfl rfl (by decide +kernel) hR
theorem wqX3_191_kc_townNamedD {R : Room} {s : State} {args : Array Value} {c0 : Cond} (hts : ∀ w ∈ c0 :: wsL_law0, w.before args s = true) (hR : 1 + 1 ≤ R.frames ∧ 8 + (4 + 11) + 80 ≤ R.locals) : CallW R s args RX3 RX2 191 yX2_townNamed cX2_townNamed 4 (some .int) (.code yX2_townNamed cX2_townNamed 4 (some .int) :: wsL_law0) ({ frames := 1, cells := 0, slots := 0, locals := 80 }) 0 0 1 := cwV 1 hts (kgV (zr15 19 rfl) (zr15 20 rfl) (zr15 21 rfl) (zr1 20 rfl) (zr15 22 rfl)) rfl rfl rfl (by decide +kernel) hR
theorem wqX3_195_kc_personNamedD {R : Room} {s : State} {args : Array Value} {c0 : Cond} (hts : ∀ w ∈ c0 :: wsL_law0, w.before args s = true) (hR : 1 + 1 ≤ R.frames ∧ 8 + (4 + 11) + 80 ≤ R.locals) : CallW R s args RX3 RX2 195 yX2_personNamed cX2_personNamed 4 (some .int) (.code yX2_personNamed cX2_personNamed 4 (some .int) :: wsL_law0) ({ frames := 1, cells := 0, slots := 0, locals := 80 }) 0 0 1 := cwV 1 hts (kgV (zr15 23 rfl) (zr16 0 rfl) (zr16 1 rfl) (zr1 20 rfl) (zr16 2 rfl)) rfl rfl rfl (by decide +kernel) hR
theorem wqX3_112_kc_step {R : Room} {s : State} {args : Array Value} {c0 : Cond} (hts : ∀ w ∈ c0 :: wsL_law0, w.before args s = true) (hR : 7 + 1 ≤ R.frames ∧ 8 + (1 + 11) + 320 ≤ R.locals) : CallW R s args RX3 RX9 112 yX9_step cX9_step 1 none (.code yX9_step cX9_step 1 none :: wsL_law0) ({ frames := 7, cells := 0, slots := 0, locals := 320 }) 0 0 0 := cwV 0 hts (kgV (zr15 14 rfl) (zr11 7 rfl) (zr11 8 rfl) (zr1 16 rfl) (zr11 9 rfl)) rfl rfl rfl (by decide +kernel) hR
theorem wqX3_47_kc_take {R : Room} {s : State} {args : Array Value} {c0 : Cond} (hts : ∀ w ∈ c0 :: wsL_law0, w.before args s = true) (hR : 8 + 1 ≤ R.frames ∧ 8 + (2 + 11) + 360 ≤ R.locals) : CallW R s args RX3 RX9 47 yX9_take cX9_take 2 (some .boolean) (.code yX9_take cX9_take 2 (some .boolean) :: wsL_law0) ({ frames := 8, cells := 0, slots := 0, locals := 360 }) 0 0 1 := cwV 1 hts (kgV (zr16 3 rfl) (zr16 4 rfl) (zr16 5 rfl) (zr1 16 rfl) (zr16 6 rfl)) rfl rfl rfl (by decide +kernel) hR
theorem wqX3_133_kc_takeNumber {R : Room} {s : State} {args : Array Value} {c0 : Cond} (hts : ∀ w ∈ c0 :: wsL_law0, w.before args s = true) (hR : 8 + 1 ≤ R.frames ∧ 8 + (4 + 11) + 360 ≤ R.locals) : CallW R s args RX3 RX9 133 yX9_takeNumber cX9_takeNumber 4 (some .int) (.code yX9_takeNumber cX9_takeNumber 4 (some .int) :: wsL_law0) ({ frames := 8, cells := 0, slots := 0, locals := 360 }) 0 0 2 := cwV 2 hts (kgV (zr16 8 rfl) (zr16 9 rfl) (zr16 10 rfl) (zr1 16 rfl) (zr16 11 rfl)) rfl rfl rfl (by decide +kernel) hR
theorem wqX3_137_kc_townHereD {R : Room} {s : State} {args : Array Value} {c0 : Cond} (hts : ∀ w ∈ c0 :: wsL_law0, w.before args s = true) (hR : 2 + 1 ≤ R.frames ∧ 8 + (3 + 11) + 120 ≤ R.locals) : CallW R s args RX3 RX9 137 yX9_townHere cX9_townHere 3 (some .int) (.code yX9_townHere cX9_townHere 3 (some .int) :: wsL_law0) ({ frames := 2, cells := 0, slots := 0, locals := 120 }) 0 0 1 := cwV 1 hts (kgV (zr16 17 rfl) (zr16 18 rfl) (zr16 19 rfl) (zr1 16 rfl) (zr16 20 rfl)) rfl rfl rfl (by decide +kernel) hR
theorem wqX3_92_kc_beginReads {R : Room} {s : State} {args : Array Value} {c0 : Cond} (hts : ∀ w ∈ c0 :: wsL_law0, w.before args s = true) (hR : 8 + 1 ≤ R.frames ∧ 8 + (3 + 11) + 360 ≤ R.locals) : CallW R s args RX3 RX3 92 yX3_beginReads cX3_beginReads 3 (some .boolean) (.code yX3_beginReads cX3_beginReads 3 (some .boolean) :: wsL_law0) ({ frames := 8, cells := 0, slots := 0, locals := 360 }) 0 0 2 := cwV 2 hts (kgV (zr18 9 rfl) (zr18 10 rfl) (zr18 11 rfl) (zr2 1 rfl) (zr18 12 rfl)) rfl rfl rfl (by decide +kernel) hR
theorem wqX3_86_kc_readInch {R : Room} {s : State} {args : Array Value} {c0 : Cond} (hts : ∀ w ∈ c0 :: wsL_law0, w.before args s = true) (hR : 9 + 1 ≤ R.frames ∧ 8 + (3 + 11) + 400 ≤ R.locals) : CallW R s args RX3 RX3 86 yX3_readInch cX3_readInch 3 (some .boolean) (.code yX3_readInch cX3_readInch 3 (some .boolean) :: wsL_law0) ({ frames := 9, cells := 0, slots := 0, locals := 400 }) 0 0 2 := cwV 2 hts (kgV (zr18 4 rfl) (zr18 5 rfl) (zr18 6 rfl) (zr2 1 rfl) (zr18 7 rfl)) rfl rfl rfl (by decide +kernel) hR
theorem wqX3_80_kc_readGrows {R : Room} {s : State} {args : Array Value} {c0 : Cond} (hts : ∀ w ∈ c0 :: wsL_law0, w.before args s = true) (hR : 9 + 1 ≤ R.frames ∧ 8 + (3 + 11) + 400 ≤ R.locals) : CallW R s args RX3 RX3 80 yX3_readGrows cX3_readGrows 3 (some .boolean) (.code yX3_readGrows cX3_readGrows 3 (some .boolean) :: wsL_law0) ({ frames := 9, cells := 0, slots := 0, locals := 400 }) 0 0 2 := cwV 2 hts (kgV (zr17 23 rfl) (zr18 0 rfl) (zr18 1 rfl) (zr2 1 rfl) (zr18 2 rfl)) rfl rfl rfl (by decide +kernel) hR
theorem wqX3_66_kc_readPerson {R : Room} {s : State} {args : Array Value} {c0 : Cond} (hts : ∀ w ∈ c0 :: wsL_law0, w.before args s = true) (hR : 9 + 1 ≤ R.frames ∧ 8 + (4 + 11) + 400 ≤ R.locals) : CallW R s args RX3 RX3 66 yX3_readPerson cX3_readPerson 4 (some .boolean) (.code yX3_readPerson cX3_readPerson 4 (some .boolean) :: wsL_law0) ({ frames := 9, cells := 0, slots := 0, locals := 400 }) 0 0 2 := cwV 2 hts (kgV (zr17 0 rfl) (zr17 1 rfl) (zr17 2 rfl) (zr2 1 rfl) (zr17 3 rfl)) rfl rfl rfl (by decide +kernel) hR
theorem wqX3_73_kc_readGoods {R : Room} {s : State} {args : Array Value} {c0 : Cond} (hts : ∀ w ∈ c0 :: wsL_law0, w.before args s = true) (hR : 9 + 1 ≤ R.frames ∧ 8 + (4 + 11) + 400 ≤ R.locals) : CallW R s args RX3 RX3 73 yX3_readGoods cX3_readGoods 4 (some .boolean) (.code yX3_readGoods cX3_readGoods 4 (some .boolean) :: wsL_law0) ({ frames := 9, cells := 0, slots := 0, locals := 400 }) 0 0 3 := cwV 3 hts (kgV (zr17 15 rfl) (zr17 16 rfl) (zr17 17 rfl) (zr2 1 rfl) (zr17 18 rfl)) rfl rfl rfl (by decide +kernel) hR
theorem wqX3_60_kc_readRoad {R : Room} {s : State} {args : Array Value} {c0 : Cond} (hts : ∀ w ∈ c0 :: wsL_law0, w.before args s = true) (hR : 8 + 1 ≤ R.frames ∧ 8 + (5 + 11) + 360 ≤ R.locals) : CallW R s args RX3 RX3 60 yX3_readRoad cX3_readRoad 5 (some .boolean) (.code yX3_readRoad cX3_readRoad 5 (some .boolean) :: wsL_law0) ({ frames := 8, cells := 0, slots := 0, locals := 360 }) 0 0 2 := cwV 2 hts (kgV (zr16 12 rfl) (zr16 13 rfl) (zr16 14 rfl) (zr2 1 rfl) (zr16 15 rfl)) rfl rfl rfl (by decide +kernel) hR
theorem wqX3_54_kc_readTown {R : Room} {s : State} {args : Array Value} {c0 : Cond} (hts : ∀ w ∈ c0 :: wsL_law0, w.before args s = true) (hR : 9 + 1 ≤ R.frames ∧ 8 + (4 + 11) + 400 ≤ R.locals) : CallW R s args RX3 RX3 54 yX3_readTown cX3_readTown 4 (some .boolean) (.code yX3_readTown cX3_readTown 4 (some .boolean) :: wsL_law0) ({ frames := 9, cells := 0, slots := 0, locals := 400 }) 0 0 2 := cwV 2 hts (kgV (zr15 1 rfl) (zr15 2 rfl) (zr15 3 rfl) (zr2 1 rfl) (zr15 4 rfl)) rfl rfl rfl (by decide +kernel) hR
theorem wqX3_40_kc_readLineL {R : Room} {s : State} {args : Array Value} {c0 : Cond} (hts : ∀ w ∈ c0 :: wsL_law0, w.before args s = true) (hR : 37 + 1 ≤ R.frames ∧ 8 + (3 + 11) + 1520 ≤ R.locals) : CallW R s args RX3 RX3 40 yX3_readLine cX3_readLine 3 (some .boolean) (.code yX3_readLine cX3_readLine 3 (some .boolean) :: wsL_law0) ({ frames := 37, cells := 0, slots := 0, locals := 1520 }) 0 0 2 := cwV 2 hts (kgV (zr14 13 rfl) (zr14 14 rfl) (zr14 15 rfl) (zr2 1 rfl) (zr14 16 rfl)) rfl rfl rfl (by decide +kernel) hR
theorem wqX3_21_kc_clear {R : Room} {s : State} {args : Array Value} {c0 : Cond} (hts : ∀ w ∈ c0 :: wsL_law0, w.before args s = true) (hR : 3 + 1 ≤ R.frames ∧ 8 + (1 + 11) + 160 ≤ R.locals) : CallW R s args RX3 RX2 21 yX2_clear cX2_clear 1 none (.code yX2_clear cX2_clear 1 none :: wsL_law0) ({ frames := 3, cells := 0, slots := 0, locals := 160 }) 0 0 0 := cwV 0 hts (kgV (zr10 18 rfl) (zr10 19 rfl) (zr10 20 rfl) (zr1 20 rfl) (zr10 21 rfl)) rfl rfl rfl (by decide +kernel) hR
theorem wqX3_26_kc_begin {R : Room} {s : State} {args : Array Value} {c0 : Cond} (hts : ∀ w ∈ c0 :: wsL_law0, w.before args s = true) (hR : 8 + 1 ≤ R.frames ∧ 8 + (1 + 11) + 360 ≤ R.locals) : CallW R s args RX3 RX9 26 yX9_begin cX9_begin 1 none (.code yX9_begin cX9_begin 1 none :: wsL_law0) ({ frames := 8, cells := 0, slots := 0, locals := 360 }) 0 0 0 := cwV 0 hts (kgV (zr11 2 rfl) (zr11 3 rfl) (zr11 4 rfl) (zr1 16 rfl) (zr11 5 rfl)) rfl rfl rfl (by decide +kernel) hR
theorem wqX1_71_kc_personHere {R : Room} {s : State} {args : Array Value} {c0 : Cond} (hts : ∀ w ∈ c0 :: wsL_law0, w.before args s = true) (hR : 2 + 1 ≤ R.frames ∧ 8 + (3 + 11) + 120 ≤ R.locals) : CallW R s args RX1 RX9 71 yX9_personHere cX9_personHere 3 (some .int) (.code yX9_personHere cX9_personHere 3 (some .int) :: wsL_law0) ({ frames := 2, cells := 0, slots := 0, locals := 120 }) 0 0 1 := cwV 1 hts (kgV (zr29 5 rfl) (zr29 6 rfl) (zr29 7 rfl) (zr1 16 rfl) (zr29 8 rfl)) rfl rfl rfl (by decide +kernel) hR
theorem wqX1_64_kc_step {R : Room} {s : State} {args : Array Value} {c0 : Cond} (hts : ∀ w ∈ c0 :: wsL_law0, w.before args s = true) (hR : 7 + 1 ≤ R.frames ∧ 8 + (1 + 11) + 320 ≤ R.locals) : CallW R s args RX1 RX9 64 yX9_step cX9_step 1 none (.code yX9_step cX9_step 1 none :: wsL_law0) ({ frames := 7, cells := 0, slots := 0, locals := 320 }) 0 0 0 := cwV 0 hts (kgV (zr29 0 rfl) (zr11 7 rfl) (zr11 8 rfl) (zr1 16 rfl) (zr11 9 rfl)) rfl rfl rfl (by decide +kernel) hR
theorem wqX1_79_kc_townHere {R : Room} {s : State} {args : Array Value} {c0 : Cond} (hts : ∀ w ∈ c0 :: wsL_law0, w.before args s = true) (hR : 2 + 1 ≤ R.frames ∧ 8 + (3 + 11) + 120 ≤ R.locals) : CallW R s args RX1 RX9 79 yX9_townHere cX9_townHere 3 (some .int) (.code yX9_townHere cX9_townHere 3 (some .int) :: wsL_law0) ({ frames := 2, cells := 0, slots := 0, locals := 120 }) 0 0 1 := cwV 1 hts (kgV (zr29 11 rfl) (zr16 18 rfl) (zr16 19 rfl) (zr1 16 rfl) (zr16 20 rfl)) rfl rfl rfl (by decide +kernel) hR
theorem wqX1_75_kc_takeNumber {R : Room} {s : State} {args : Array Value} {c0 : Cond} (hts : ∀ w ∈ c0 :: wsL_law0, w.before args s = true) (hR : 8 + 1 ≤ R.frames ∧ 8 + (4 + 11) + 360 ≤ R.locals) : CallW R s args RX1 RX9 75 yX9_takeNumber cX9_takeNumber 4 (some .int) (.code yX9_takeNumber cX9_takeNumber 4 (some .int) :: wsL_law0) ({ frames := 8, cells := 0, slots := 0, locals := 360 }) 0 0 2 := cwV 2 hts (kgV (zr29 10 rfl) (zr16 9 rfl) (zr16 10 rfl) (zr1 16 rfl) (zr16 11 rfl)) rfl rfl rfl (by decide +kernel) hR
theorem wqX1_67_kc_readDoer {R : Room} {s : State} {args : Array Value} {c0 : Cond} (hts : ∀ w ∈ c0 :: wsL_law0, w.before args s = true) (hR : 9 + 1 ≤ R.frames ∧ 8 + (4 + 11) + 400 ≤ R.locals) : CallW R s args RX1 RX1 67 yX1_readDoer cX1_readDoer 4 (some .boolean) (.code yX1_readDoer cX1_readDoer 4 (some .boolean) :: wsL_law0) ({ frames := 9, cells := 0, slots := 0, locals := 400 }) 0 0 3 := cwV 3 hts (kgV (zr29 1 rfl) (zr29 2 rfl) (zr29 3 rfl) (zr2 5 rfl) (zr29 4 rfl)) rfl rfl rfl (by decide +kernel) hR
theorem wqX1_60_kc_wrong {R : Room} {s : State} {args : Array Value} {c0 : Cond} (hts : ∀ w ∈ c0 :: wsL_law0, w.before args s = true) (hR : 1 + 1 ≤ R.frames ∧ 8 + (2 + 11) + 80 ≤ R.locals) : CallW R s args RX1 RX9 60 yX9_wrong cX9_wrong 2 (some .boolean) (.code yX9_wrong cX9_wrong 2 (some .boolean) :: wsL_law0) ({ frames := 1, cells := 0, slots := 0, locals := 80 }) 0 0 1 := cwV 1 hts (kgV (zr28 23 rfl) (zr15 11 rfl) (zr15 12 rfl) (zr1 16 rfl) (zr15 13 rfl)) rfl rfl rfl (by decide +kernel) hR
theorem wqX1_45_kc_readLineJ {R : Room} {s : State} {args : Array Value} {c0 : Cond} (hts : ∀ w ∈ c0 :: wsL_law0, w.before args s = true) (hR : 10 + 1 ≤ R.frames ∧ 8 + (5 + 11) + 440 ≤ R.locals) : CallW R s args RX1 RX1 45 yX1_readLine cX1_readLine 5 (some .boolean) (.code yX1_readLine cX1_readLine 5 (some .boolean) :: wsL_law0) ({ frames := 10, cells := 0, slots := 0, locals := 440 }) 0 0 2 := cwV 2 hts (kgV (zr28 12 rfl) (zr28 13 rfl) (zr28 14 rfl) (zr2 5 rfl) (zr28 15 rfl)) rfl rfl rfl (by decide +kernel) hR
theorem wqX1_52_kc_take {R : Room} {s : State} {args : Array Value} {c0 : Cond} (hts : ∀ w ∈ c0 :: wsL_law0, w.before args s = true) (hR : 8 + 1 ≤ R.frames ∧ 8 + (2 + 11) + 360 ≤ R.locals) : CallW R s args RX1 RX9 52 yX9_take cX9_take 2 (some .boolean) (.code yX9_take cX9_take 2 (some .boolean) :: wsL_law0) ({ frames := 8, cells := 0, slots := 0, locals := 360 }) 0 0 1 := cwV 1 hts (kgV (zr29 12 rfl) (zr16 4 rfl) (zr16 5 rfl) (zr1 16 rfl) (zr16 6 rfl)) rfl rfl rfl (by decide +kernel) hR
theorem wqX1_31_kc_begin {R : Room} {s : State} {args : Array Value} {c0 : Cond} (hts : ∀ w ∈ c0 :: wsL_law0, w.before args s = true) (hR : 8 + 1 ≤ R.frames ∧ 8 + (1 + 11) + 360 ≤ R.locals) : CallW R s args RX1 RX9 31 yX9_begin cX9_begin 1 none (.code yX9_begin cX9_begin 1 none :: wsL_law0) ({ frames := 8, cells := 0, slots := 0, locals := 360 }) 0 0 0 := cwV 0 hts (kgV (zr28 11 rfl) (zr11 3 rfl) (zr11 4 rfl) (zr1 16 rfl) (zr11 5 rfl)) rfl rfl rfl (by decide +kernel) hR
theorem wqX2_82_kc_passes {R : Room} {s : State} {args : Array Value} {c0 : Cond} (hts : ∀ w ∈ c0 :: wsL_law0, w.before args s = true) (hR : 2 + 1 ≤ R.frames ∧ 8 + (8 + 11) + 120 ≤ R.locals) : CallW R s args RX2 RX4 82 yX4_passes cX4_passes 8 (some .boolean) (.code yX4_passes cX4_passes 8 (some .boolean) :: wsL_law0) ({ frames := 2, cells := 0, slots := 0, locals := 120 }) 0 0 4 := cwV 4 hts (kgV (zr51 19 rfl) (zr32 21 rfl) (zr32 22 rfl) (zr4 12 rfl) (zr32 23 rfl)) rfl rfl rfl (by decide +kernel) hR
theorem wqX0_40_kc_passes {R : Room} {s : State} {args : Array Value} {c0 : Cond} (hts : ∀ w ∈ c0 :: wsL_law0, w.before args s = true) (hR : 2 + 1 ≤ R.frames ∧ 8 + (8 + 11) + 120 ≤ R.locals) : CallW R s args RX0 RX4 40 yX4_passes cX4_passes 8 (some .boolean) (.code yX4_passes cX4_passes 8 (some .boolean) :: wsL_law0) ({ frames := 2, cells := 0, slots := 0, locals := 120 }) 0 0 4 := cwV 4 hts (kgV (zr32 20 rfl) (zr32 21 rfl) (zr32 22 rfl) (zr4 12 rfl) (zr32 23 rfl)) rfl rfl rfl (by decide +kernel) hR
theorem wqX0_49_kc_passesAloneA {R : Room} {s : State} {args : Array Value} {c0 : Cond} (hts : ∀ w ∈ c0 :: wsL_law0, w.before args s = true) (hR : 3 + 1 ≤ R.frames ∧ 8 + (8 + 11) + 160 ≤ R.locals) : CallW R s args RX0 RX0 49 yX0_passesAlone cX0_passesAlone 8 (some .boolean) (.code yX0_passesAlone cX0_passesAlone 8 (some .boolean) :: wsL_law0) ({ frames := 3, cells := 0, slots := 0, locals := 160 }) 0 0 4 := cwV 4 hts (kgV (zr32 11 rfl) (zr32 12 rfl) (zr32 13 rfl) (zr2 10 rfl) (zr32 14 rfl)) rfl rfl rfl (by decide +kernel) hR
theorem wqX10_50_kc_opensA {R : Room} {s : State} {args : Array Value} {c0 : Cond} (hts : ∀ w ∈ c0 :: wsL_law0, w.before args s = true) (hR : 4 + 1 ≤ R.frames ∧ 8 + (6 + 11) + 200 ≤ R.locals) : CallW R s args RX10 RX0 50 yX0_opens cX0_opens 6 (some .int) (.code yX0_opens cX0_opens 6 (some .int) :: wsL_law0) ({ frames := 4, cells := 0, slots := 0, locals := 200 }) 0 0 3 := cwV 3 hts (kgV (zr42 15 rfl) (zr42 16 rfl) (zr42 17 rfl) (zr2 10 rfl) (zr42 18 rfl)) rfl rfl rfl (by decide +kernel) hR
theorem wqX0_49_kc_passesAloneN {R : Room} {s : State} {args : Array Value} {c0 : Cond} (hts : ∀ w ∈ c0 :: wsL_law0, w.before args s = true) (hR : 3 + 1 ≤ R.frames ∧ 8 + (8 + 11) + 160 ≤ R.locals) : CallW R s args RX0 RX0 49 yX0_passesAlone cX0_passesAlone 8 (some .boolean) (.code yX0_passesAlone cX0_passesAlone 8 (some .boolean) :: wsL_law0) ({ frames := 3, cells := 0, slots := 0, locals := 160 }) 0 0 4 := cwV 4 hts (kgV (zr32 11 rfl) (zr32 12 rfl) (zr32 13 rfl) (zr2 10 rfl) (zr32 14 rfl)) rfl rfl rfl (by decide +kernel) hR
theorem wqX10_50_kc_opensN {R : Room} {s : State} {args : Array Value} {c0 : Cond} (hts : ∀ w ∈ c0 :: wsL_law0, w.before args s = true) (hR : 4 + 1 ≤ R.frames ∧ 8 + (6 + 11) + 200 ≤ R.locals) : CallW R s args RX10 RX0 50 yX0_opens cX0_opens 6 (some .int) (.code yX0_opens cX0_opens 6 (some .int) :: wsL_law0) ({ frames := 4, cells := 0, slots := 0, locals := 200 }) 0 0 3 := cwV 3 hts (kgV (zr42 15 rfl) (zr42 16 rfl) (zr42 17 rfl) (zr2 10 rfl) (zr42 18 rfl)) rfl rfl rfl (by decide +kernel) hR
theorem wqX0_59_kc_voicesN {R : Room} {s : State} {args : Array Value} {c0 : Cond} (hts : ∀ w ∈ c0 :: wsL_law0, w.before args s = true) (hR : 4 + 1 ≤ R.frames ∧ 8 + (6 + 11) + 200 ≤ R.locals) : CallW R s args RX0 RX0 59 yX0_voices cX0_voices 6 (some .int) (.code yX0_voices cX0_voices 6 (some .int) :: wsL_law0) ({ frames := 4, cells := 0, slots := 0, locals := 200 }) 0 0 3 := cwV 3 hts (kgV (zr32 7 rfl) (zr32 8 rfl) (zr32 9 rfl) (zr2 10 rfl) (zr32 10 rfl)) rfl rfl rfl (by decide +kernel) hR
theorem wqX0_63_kc_letsN {R : Room} {s : State} {args : Array Value} {c0 : Cond} (hts : ∀ w ∈ c0 :: wsL_law0, w.before args s = true) (hR : 5 + 1 ≤ R.frames ∧ 8 + (4 + 11) + 240 ≤ R.locals) : CallW R s args RX0 RX0 63 yX0_lets cX0_lets 4 (some .boolean) (.code yX0_lets cX0_lets 4 (some .boolean) :: wsL_law0) ({ frames := 5, cells := 0, slots := 0, locals := 240 }) 0 0 3 := cwV 3 hts (kgV (zr32 1 rfl) (zr32 2 rfl) (zr32 3 rfl) (zr2 10 rfl) (zr32 4 rfl)) rfl rfl rfl (by decide +kernel) hR
theorem wqX0_49_kc_passesAloneT {R : Room} {s : State} {args : Array Value} {c0 : Cond} (hts : ∀ w ∈ c0 :: wsL_law0, w.before args s = true) (hR : 3 + 1 ≤ R.frames ∧ 8 + (8 + 11) + 160 ≤ R.locals) : CallW R s args RX0 RX0 49 yX0_passesAlone cX0_passesAlone 8 (some .boolean) (.code yX0_passesAlone cX0_passesAlone 8 (some .boolean) :: wsL_law0) ({ frames := 3, cells := 0, slots := 0, locals := 160 }) 0 0 4 := cwV 4 hts (kgV (zr32 11 rfl) (zr32 12 rfl) (zr32 13 rfl) (zr2 10 rfl) (zr32 14 rfl)) rfl rfl rfl (by decide +kernel) hR
theorem wqX10_50_kc_opensT {R : Room} {s : State} {args : Array Value} {c0 : Cond} (hts : ∀ w ∈ c0 :: wsL_law0, w.before args s = true) (hR : 4 + 1 ≤ R.frames ∧ 8 + (6 + 11) + 200 ≤ R.locals) : CallW R s args RX10 RX0 50 yX0_opens cX0_opens 6 (some .int) (.code yX0_opens cX0_opens 6 (some .int) :: wsL_law0) ({ frames := 4, cells := 0, slots := 0, locals := 200 }) 0 0 3 := cwV 3 hts (kgV (zr42 15 rfl) (zr42 16 rfl) (zr42 17 rfl) (zr2 10 rfl) (zr42 18 rfl)) rfl rfl rfl (by decide +kernel) hR
theorem wqX0_59_kc_voicesT {R : Room} {s : State} {args : Array Value} {c0 : Cond} (hts : ∀ w ∈ c0 :: wsL_law0, w.before args s = true) (hR : 4 + 1 ≤ R.frames ∧ 8 + (6 + 11) + 200 ≤ R.locals) : CallW R s args RX0 RX0 59 yX0_voices cX0_voices 6 (some .int) (.code yX0_voices cX0_voices 6 (some .int) :: wsL_law0) ({ frames := 4, cells := 0, slots := 0, locals := 200 }) 0 0 3 := cwV 3 hts (kgV (zr32 7 rfl) (zr32 8 rfl) (zr32 9 rfl) (zr2 10 rfl) (zr32 10 rfl)) rfl rfl rfl (by decide +kernel) hR
theorem wqX0_63_kc_letsT {R : Room} {s : State} {args : Array Value} {c0 : Cond} (hts : ∀ w ∈ c0 :: wsL_law0, w.before args s = true) (hR : 5 + 1 ≤ R.frames ∧ 8 + (4 + 11) + 240 ≤ R.locals) : CallW R s args RX0 RX0 63 yX0_lets cX0_lets 4 (some .boolean) (.code yX0_lets cX0_lets 4 (some .boolean) :: wsL_law0) ({ frames := 5, cells := 0, slots := 0, locals := 240 }) 0 0 3 := cwV 3 hts (kgV (zr32 1 rfl) (zr32 2 rfl) (zr32 3 rfl) (zr2 10 rfl) (zr32 4 rfl)) rfl rfl rfl (by decide +kernel) hR
theorem wqX10_73_kc_widen {R : Room} {s : State} {args : Array Value} {c0 : Cond} (hts : ∀ w ∈ c0 :: wsL_law0, w.before args s = true) (hR : 2 + 1 ≤ R.frames ∧ 8 + (4 + 11) + 120 ≤ R.locals) : CallW R s args RX10 RX10 73 yX10_widen cX10_widen 4 (some .int) (.code yX10_widen cX10_widen 4 (some .int) :: wsL_law0) ({ frames := 2, cells := 0, slots := 0, locals := 120 }) 0 0 1 := cwV 1 hts (kgV (zr43 0 rfl) (zr43 1 rfl) (zr43 2 rfl) (zr2 14 rfl) (zr43 3 rfl)) rfl rfl rfl (by decide +kernel) hR
theorem wqX10_77_kc_layN {R : Room} {s : State} {args : Array Value} {c0 : Cond} (hts : ∀ w ∈ c0 :: wsL_law0, w.before args s = true) (hR : 5 + 1 ≤ R.frames ∧ 8 + (6 + 11) + 240 ≤ R.locals) : CallW R s args RX10 RX10 77 yX10_lay cX10_lay 6 none (.code yX10_lay cX10_lay 6 none :: wsL_law0) ({ frames := 5, cells := 0, slots := 0, locals := 240 }) 0 0 3 := cwV 3 hts (kgV (zr42 6 rfl) (zr42 7 rfl) (zr42 8 rfl) (zr2 14 rfl) (zr42 9 rfl)) rfl rfl rfl (by decide +kernel) hR
theorem wqX10_81_kc_spread {R : Room} {s : State} {args : Array Value} {c0 : Cond} (hts : ∀ w ∈ c0 :: wsL_law0, w.before args s = true) (hR : 3 + 1 ≤ R.frames ∧ 8 + (4 + 11) + 160 ≤ R.locals) : CallW R s args RX10 RX10 81 yX10_spread cX10_spread 4 (some .int) (.code yX10_spread cX10_spread 4 (some .int) :: wsL_law0) ({ frames := 3, cells := 0, slots := 0, locals := 160 }) 0 0 1 := cwV 1 hts (kgV (zr42 20 rfl) (zr42 21 rfl) (zr42 22 rfl) (zr2 14 rfl) (zr42 23 rfl)) rfl rfl rfl (by decide +kernel) hR
theorem wqX10_77_kc_layT {R : Room} {s : State} {args : Array Value} {c0 : Cond} (hts : ∀ w ∈ c0 :: wsL_law0, w.before args s = true) (hR : 5 + 1 ≤ R.frames ∧ 8 + (6 + 11) + 240 ≤ R.locals) : CallW R s args RX10 RX10 77 yX10_lay cX10_lay 6 none (.code yX10_lay cX10_lay 6 none :: wsL_law0) ({ frames := 5, cells := 0, slots := 0, locals := 240 }) 0 0 3 := cwV 3 hts (kgV (zr42 6 rfl) (zr42 7 rfl) (zr42 8 rfl) (zr2 14 rfl) (zr42 9 rfl)) rfl rfl rfl (by decide +kernel) hR
theorem wqX10_84_kc_distance {R : Room} {s : State} {args : Array Value} {c0 : Cond} (hts : ∀ w ∈ c0 :: wsL_law0, w.before args s = true) (hR : 3 + 1 ≤ R.frames ∧ 8 + (5 + 11) + 160 ≤ R.locals) : CallW R s args RX10 RX10 84 yX10_distance cX10_distance 5 (some .int) (.code yX10_distance cX10_distance 5 (some .int) :: wsL_law0) ({ frames := 3, cells := 0, slots := 0, locals := 160 }) 0 0 2 := cwV 2 hts (kgV (zr47 11 rfl) (zr43 22 rfl) (zr43 23 rfl) (zr2 14 rfl) (zr44 0 rfl)) rfl rfl rfl (by decide +kernel) hR
theorem wqX10_101_kc_passWeekA {R : Room} {s : State} {args : Array Value} {c0 : Cond} (hts : ∀ w ∈ c0 :: wsL_law0, w.before args s = true) (hR : 2 + 1 ≤ R.frames ∧ 8 + (4 + 11) + 120 ≤ R.locals) : CallW R s args RX10 RX0 101 yX0_passWeek cX0_passWeek 4 none (.code yX0_passWeek cX0_passWeek 4 none :: wsL_law0) ({ frames := 2, cells := 0, slots := 0, locals := 120 }) 0 0 1 := cwV 1 hts (kgV (zr45 0 rfl) (zr39 0 rfl) (zr39 1 rfl) (zr2 10 rfl) (zr39 2 rfl)) rfl rfl rfl (by decide +kernel) hR
theorem wqX10_77_kc_layA {R : Room} {s : State} {args : Array Value} {c0 : Cond} (hts : ∀ w ∈ c0 :: wsL_law0, w.before args s = true) (hR : 5 + 1 ≤ R.frames ∧ 8 + (6 + 11) + 240 ≤ R.locals) : CallW R s args RX10 RX10 77 yX10_lay cX10_lay 6 none (.code yX10_lay cX10_lay 6 none :: wsL_law0) ({ frames := 5, cells := 0, slots := 0, locals := 240 }) 0 0 3 := cwV 3 hts (kgV (zr42 6 rfl) (zr42 7 rfl) (zr42 8 rfl) (zr2 14 rfl) (zr42 9 rfl)) rfl rfl rfl (by decide +kernel) hR
theorem wqX10_94_kc_linkedTo {R : Room} {s : State} {args : Array Value} {c0 : Cond} (hts : ∀ w ∈ c0 :: wsL_law0, w.before args s = true) (hR : 4 + 1 ≤ R.frames ∧ 8 + (2 + 11) + 200 ≤ R.locals) : CallW R s args RX10 RX10 94 yX10_linkedTo cX10_linkedTo 2 (some .int) (.code yX10_linkedTo cX10_linkedTo 2 (some .int) :: wsL_law0) ({ frames := 4, cells := 0, slots := 0, locals := 200 }) 0 0 1 := cwV 1 hts (kgV (zr44 18 rfl) (zr44 19 rfl) (zr44 20 rfl) (zr2 14 rfl) (zr44 21 rfl)) rfl rfl rfl (by decide +kernel) hR
theorem wqX10_116_kc_wander {R : Room} {s : State} {args : Array Value} {c0 : Cond} (hts : ∀ w ∈ c0 :: wsL_law0, w.before args s = true) (hR : 3 + 1 ≤ R.frames ∧ 8 + (5 + 11) + 160 ≤ R.locals) : CallW R s args RX10 RX10 116 yX10_wander cX10_wander 5 none (.code yX10_wander cX10_wander 5 none :: wsL_law0) ({ frames := 3, cells := 0, slots := 0, locals := 160 }) 0 0 1 := cwV 1 hts (kgV (zr45 22 rfl) (zr45 23 rfl) (zr46 0 rfl) (zr2 14 rfl) (zr46 1 rfl)) rfl rfl rfl (by decide +kernel) hR
theorem wqX10_109_kc_allTowns {R : Room} {s : State} {args : Array Value} {c0 : Cond} (hts : ∀ w ∈ c0 :: wsL_law0, w.before args s = true) (hR : 1 + 1 ≤ R.frames ∧ 8 + (1 + 11) + 80 ≤ R.locals) : CallW R s args RX10 RX2 109 yX2_allTowns cX2_allTowns 1 (some .int) (.code yX2_allTowns cX2_allTowns 1 (some .int) :: wsL_law0) ({ frames := 1, cells := 0, slots := 0, locals := 80 }) 0 0 0 := cwV 0 hts (kgV (zr45 18 rfl) (zr45 19 rfl) (zr45 20 rfl) (zr1 20 rfl) (zr45 21 rfl)) rfl rfl rfl (by decide +kernel) hR
theorem wqX11_103_kc_readL {R : Room} {s : State} {args : Array Value} {c0 : Cond} (hts : ∀ w ∈ c0 :: wsL_law0, w.before args s = true) (hR : 38 + 1 ≤ R.frames ∧ 8 + (4 + 11) + 1560 ≤ R.locals) : CallW R s args RX11 RX3 103 yX3_read cX3_read 4 (some .boolean) (.code yX3_read cX3_read 4 (some .boolean) :: wsL_law0) ({ frames := 38, cells := 0, slots := 0, locals := 1560 }) 0 0 2 := cwV 2 hts (kgV (zr10 11 rfl) (zr10 12 rfl) (zr10 13 rfl) (zr2 1 rfl) (zr10 14 rfl)) rfl rfl rfl (by decide +kernel) hR
theorem wqX11_113_kc_begin8N {R : Room} {s : State} {args : Array Value} {c0 : Cond} (hts : ∀ w ∈ c0 :: wsL_law0, w.before args s = true) (hR : 1 + 1 ≤ R.frames ∧ 8 + (3 + 11) + 80 ≤ R.locals) : CallW R s args RX11 RX8 113 yX8_begin cX8_begin 3 none (.code yX8_begin cX8_begin 3 none :: wsL_law0) ({ frames := 1, cells := 0, slots := 0, locals := 80 }) 0 0 1 := cwV 1 hts (kgV (zr20 20 rfl) (zr20 21 rfl) (zr20 22 rfl) (zr2 18 rfl) (zr20 23 rfl)) rfl rfl rfl (by decide +kernel) hR
theorem wqX11_119_kc_clear6 {R : Room} {s : State} {args : Array Value} {c0 : Cond} (hts : ∀ w ∈ c0 :: wsL_law0, w.before args s = true) (hR : 1 + 1 ≤ R.frames ∧ 8 + (1 + 11) + 80 ≤ R.locals) : CallW R s args RX11 RX6 119 yX6_clear cX6_clear 1 none (.code yX6_clear cX6_clear 1 none :: wsL_law0) ({ frames := 1, cells := 0, slots := 0, locals := 80 }) 0 0 0 := cwV 0 hts (kgV (zr21 4 rfl) (zr21 5 rfl) (zr21 6 rfl) (zr2 23 rfl) (zr21 7 rfl)) rfl rfl rfl (by decide +kernel) hR
theorem wqX11_122_kc_forgetPast {R : Room} {s : State} {args : Array Value} {c0 : Cond} (hts : ∀ w ∈ c0 :: wsL_law0, w.before args s = true) (hR : 1 + 1 ≤ R.frames ∧ 8 + (1 + 11) + 80 ≤ R.locals) : CallW R s args RX11 RX11 122 yX11_forgetPast cX11_forgetPast 1 none (.code yX11_forgetPast cX11_forgetPast 1 none :: wsL_law0) ({ frames := 1, cells := 0, slots := 0, locals := 80 }) 0 0 0 := cwV 0 hts (kgV (zr21 8 rfl) (zr21 9 rfl) (zr21 10 rfl) (zr1 2 rfl) (zr21 11 rfl)) rfl rfl rfl (by decide +kernel) hR
theorem wqX11_129_kc_readJ {R : Room} {s : State} {args : Array Value} {c0 : Cond} (hts : ∀ w ∈ c0 :: wsL_law0, w.before args s = true) (hR : 11 + 1 ≤ R.frames ∧ 8 + (4 + 11) + 480 ≤ R.locals) : CallW R s args RX11 RX1 129 yX1_read cX1_read 4 (some .boolean) (.code yX1_read cX1_read 4 (some .boolean) :: wsL_law0) ({ frames := 11, cells := 0, slots := 0, locals := 480 }) 0 0 2 := cwV 2 hts (kgV (zr28 4 rfl) (zr28 5 rfl) (zr28 6 rfl) (zr2 5 rfl) (zr28 7 rfl)) rfl rfl rfl (by decide +kernel) hR
theorem wqX11_133_kc_isPerson {R : Room} {s : State} {args : Array Value} {c0 : Cond} (hts : ∀ w ∈ c0 :: wsL_law0, w.before args s = true) (hR : 1 + 1 ≤ R.frames ∧ 8 + (2 + 11) + 80 ≤ R.locals) : CallW R s args RX11 RX11 133 yX11_isPerson cX11_isPerson 2 (some .boolean) (.code yX11_isPerson cX11_isPerson 2 (some .boolean) :: wsL_law0) ({ frames := 1, cells := 0, slots := 0, locals := 80 }) 0 0 1 := cwV 1 hts (kgV (zr30 20 rfl) (zr30 21 rfl) (zr30 22 rfl) (zr1 2 rfl) (zr30 23 rfl)) rfl rfl rfl (by decide +kernel) hR
theorem wqX11_156_kc_isTown {R : Room} {s : State} {args : Array Value} {c0 : Cond} (hts : ∀ w ∈ c0 :: wsL_law0, w.before args s = true) (hR : 1 + 1 ≤ R.frames ∧ 8 + (2 + 11) + 80 ≤ R.locals) : CallW R s args RX11 RX11 156 yX11_isTown cX11_isTown 2 (some .boolean) (.code yX11_isTown cX11_isTown 2 (some .boolean) :: wsL_law0) ({ frames := 1, cells := 0, slots := 0, locals := 80 }) 0 0 1 := cwV 1 hts (kgV (zr31 15 rfl) (zr31 16 rfl) (zr31 17 rfl) (zr1 2 rfl) (zr31 18 rfl)) rfl rfl rfl (by decide +kernel) hR
theorem wqX11_165_kc_letThrough {R : Room} {s : State} {args : Array Value} {c0 : Cond} (hts : ∀ w ∈ c0 :: wsL_law0, w.before args s = true) (hR : 6 + 1 ≤ R.frames ∧ 8 + (5 + 11) + 280 ≤ R.locals) : CallW R s args RX11 RX0 165 yX0_letThrough cX0_letThrough 5 (some .int) (.code yX0_letThrough cX0_letThrough 5 (some .int) :: wsL_law0) ({ frames := 6, cells := 0, slots := 0, locals := 280 }) 0 0 2 := cwV 2 hts (kgV (zr31 20 rfl) (zr31 21 rfl) (zr31 22 rfl) (zr2 10 rfl) (zr31 23 rfl)) rfl rfl rfl (by decide +kernel) hR
theorem wqX11_184_kc_peopledN {R : Room} {s : State} {args : Array Value} {c0 : Cond} (hts : ∀ w ∈ c0 :: wsL_law0, w.before args s = true) (hR : 1 + 1 ≤ R.frames ∧ 8 + (4 + 11) + 80 ≤ R.locals) : CallW R s args RX11 RX8 184 yX8_peopled cX8_peopled 4 (some .int) (.code yX8_peopled cX8_peopled 4 (some .int) :: wsL_law0) ({ frames := 1, cells := 0, slots := 0, locals := 80 }) 0 0 1 := cwV 1 hts (kgV (zr55 16 rfl) (zr55 17 rfl) (zr55 18 rfl) (zr2 18 rfl) (zr55 19 rfl)) rfl rfl rfl (by decide +kernel) hR
theorem wqX11_188_kc_sumb {R : Room} {s : State} {args : Array Value} {c0 : Cond} (hts : ∀ w ∈ c0 :: wsL_law0, w.before args s = true) (hR : 1 + 1 ≤ R.frames ∧ 8 + (4 + 11) + 80 ≤ R.locals) : CallW R s args RX11 RX11 188 yX11_sum cX11_sum 4 (some .int) (.code yX11_sum cX11_sum 4 (some .int) :: wsL_law0) ({ frames := 1, cells := 0, slots := 0, locals := 80 }) 0 0 1 := cwV 1 hts (kgV (zr41 0 rfl) (zr41 1 rfl) (zr41 2 rfl) (zr1 2 rfl) (zr41 3 rfl)) rfl rfl rfl (by decide +kernel) hR
theorem wqX11_188_kc_sumc {R : Room} {s : State} {args : Array Value} {c0 : Cond} (hts : ∀ w ∈ c0 :: wsL_law0, w.before args s = true) (hR : 1 + 1 ≤ R.frames ∧ 8 + (4 + 11) + 80 ≤ R.locals) : CallW R s args RX11 RX11 188 yX11_sum cX11_sum 4 (some .int) (.code yX11_sum cX11_sum 4 (some .int) :: wsL_law0) ({ frames := 1, cells := 0, slots := 0, locals := 80 }) 0 0 1 := cwV 1 hts (kgV (zr41 0 rfl) (zr41 1 rfl) (zr41 2 rfl) (zr1 2 rfl) (zr41 3 rfl)) rfl rfl rfl (by decide +kernel) hR
theorem wqX11_195_kc_canGoN {R : Room} {s : State} {args : Array Value} {c0 : Cond} (hts : ∀ w ∈ c0 :: wsL_law0, w.before args s = true) (hR : 6 + 1 ≤ R.frames ∧ 8 + (4 + 11) + 280 ≤ R.locals) : CallW R s args RX11 RX0 195 yX0_canGo cX0_canGo 4 (some .boolean) (.code yX0_canGo cX0_canGo 4 (some .boolean) :: wsL_law0) ({ frames := 6, cells := 0, slots := 0, locals := 280 }) 0 0 3 := cwV 3 hts (kgV (zr35 7 rfl) (zr35 8 rfl) (zr35 9 rfl) (zr2 10 rfl) (zr35 10 rfl)) rfl rfl rfl (by decide +kernel) hR
theorem wqX11_199_kc_remember {R : Room} {s : State} {args : Array Value} {c0 : Cond} (hts : ∀ w ∈ c0 :: wsL_law0, w.before args s = true) (hR : 3 + 1 ≤ R.frames ∧ 8 + (1 + 11) + 160 ≤ R.locals) : CallW R s args RX11 RX11 199 yX11_remember cX11_remember 1 none (.code yX11_remember cX11_remember 1 none :: wsL_law0) ({ frames := 3, cells := 0, slots := 0, locals := 160 }) 0 0 0 := cwV 0 hts (kgV (zr35 12 rfl) (zr35 13 rfl) (zr35 14 rfl) (zr1 2 rfl) (zr35 15 rfl)) rfl rfl rfl (by decide +kernel) hR
theorem wqX11_202_kc_arriveN {R : Room} {s : State} {args : Array Value} {c0 : Cond} (hts : ∀ w ∈ c0 :: wsL_law0, w.before args s = true) (hR : 1 + 1 ≤ R.frames ∧ 8 + (3 + 11) + 80 ≤ R.locals) : CallW R s args RX11 RX8 202 yX8_arrive cX8_arrive 3 none (.code yX8_arrive cX8_arrive 3 none :: wsL_law0) ({ frames := 1, cells := 0, slots := 0, locals := 80 }) 0 0 2 := cwV 2 hts (kgV (zr36 1 rfl) (zr36 2 rfl) (zr36 3 rfl) (zr2 18 rfl) (zr36 4 rfl)) rfl rfl rfl (by decide +kernel) hR
theorem wqX11_206_kc_canForgeN {R : Room} {s : State} {args : Array Value} {c0 : Cond} (hts : ∀ w ∈ c0 :: wsL_law0, w.before args s = true) (hR : 1 + 1 ≤ R.frames ∧ 8 + (4 + 11) + 80 ≤ R.locals) : CallW R s args RX11 RX0 206 yX0_canForge cX0_canForge 4 (some .boolean) (.code yX0_canForge cX0_canForge 4 (some .boolean) :: wsL_law0) ({ frames := 1, cells := 0, slots := 0, locals := 80 }) 0 0 3 := cwV 3 hts (kgV (zr37 4 rfl) (zr37 5 rfl) (zr37 6 rfl) (zr2 10 rfl) (zr37 7 rfl)) rfl rfl rfl (by decide +kernel) hR
theorem wqX11_209_kc_sellN {R : Room} {s : State} {args : Array Value} {c0 : Cond} (hts : ∀ w ∈ c0 :: wsL_law0, w.before args s = true) (hR : 1 + 1 ≤ R.frames ∧ 8 + (4 + 11) + 80 ≤ R.locals) : CallW R s args RX11 RX0 209 yX0_sell cX0_sell 4 none (.code yX0_sell cX0_sell 4 none :: wsL_law0) ({ frames := 1, cells := 0, slots := 0, locals := 80 }) 0 0 3 := cwV 3 hts (kgV (zr37 10 rfl) (zr37 11 rfl) (zr37 12 rfl) (zr2 10 rfl) (zr37 13 rfl)) rfl rfl rfl (by decide +kernel) hR
theorem wqX11_213_kc_loseBeardN {R : Room} {s : State} {args : Array Value} {c0 : Cond} (hts : ∀ w ∈ c0 :: wsL_law0, w.before args s = true) (hR : 1 + 1 ≤ R.frames ∧ 8 + (2 + 11) + 80 ≤ R.locals) : CallW R s args RX11 RX8 213 yX8_loseBeard cX8_loseBeard 2 none (.code yX8_loseBeard cX8_loseBeard 2 none :: wsL_law0) ({ frames := 1, cells := 0, slots := 0, locals := 80 }) 0 0 1 := cwV 1 hts (kgV (zr38 6 rfl) (zr38 7 rfl) (zr38 8 rfl) (zr2 18 rfl) (zr38 9 rfl)) rfl rfl rfl (by decide +kernel) hR
theorem wqX11_217_kc_passWeekN {R : Room} {s : State} {args : Array Value} {c0 : Cond} (hts : ∀ w ∈ c0 :: wsL_law0, w.before args s = true) (hR : 2 + 1 ≤ R.frames ∧ 8 + (4 + 11) + 120 ≤ R.locals) : CallW R s args RX11 RX0 217 yX0_passWeek cX0_passWeek 4 none (.code yX0_passWeek cX0_passWeek 4 none :: wsL_law0) ({ frames := 2, cells := 0, slots := 0, locals := 120 }) 0 0 1 := cwV 1 hts (kgV (zr38 23 rfl) (zr39 0 rfl) (zr39 1 rfl) (zr2 10 rfl) (zr39 2 rfl)) rfl rfl rfl (by decide +kernel) hR
theorem wqX11_229_kc_markLay0 {R : Room} {s : State} {args : Array Value} {c0 : Cond} (hts : ∀ w ∈ c0 :: wsL_law0, w.before args s = true) (hR : 3 + 1 ≤ R.frames ∧ 8 + (4 + 11) + 160 ≤ R.locals) : CallW R s args RX11 RX5 229 yX5_lay cX5_lay 4 none (.code yX5_lay cX5_lay 4 none :: wsL_law0) ({ frames := 3, cells := 0, slots := 0, locals := 160 }) 0 0 3 := cwV 3 hts (kgV (zr57 2 rfl) (zr57 3 rfl) (zr57 4 rfl) (zr3 7 rfl) (zr57 5 rfl)) rfl rfl rfl (by decide +kernel) hR
theorem wqX11_229_kc_markLay1 {R : Room} {s : State} {args : Array Value} {c0 : Cond} (hts : ∀ w ∈ c0 :: wsL_law0, w.before args s = true) (hR : 3 + 1 ≤ R.frames ∧ 8 + (4 + 11) + 160 ≤ R.locals) : CallW R s args RX11 RX5 229 yX5_lay cX5_lay 4 none (.code yX5_lay cX5_lay 4 none :: wsL_law0) ({ frames := 3, cells := 0, slots := 0, locals := 160 }) 0 0 3 := cwV 3 hts (kgV (zr57 2 rfl) (zr57 3 rfl) (zr57 4 rfl) (zr3 7 rfl) (zr57 5 rfl)) rfl rfl rfl (by decide +kernel) hR
theorem wqX11_229_kc_markLay2 {R : Room} {s : State} {args : Array Value} {c0 : Cond} (hts : ∀ w ∈ c0 :: wsL_law0, w.before args s = true) (hR : 3 + 1 ≤ R.frames ∧ 8 + (4 + 11) + 160 ≤ R.locals) : CallW R s args RX11 RX5 229 yX5_lay cX5_lay 4 none (.code yX5_lay cX5_lay 4 none :: wsL_law0) ({ frames := 3, cells := 0, slots := 0, locals := 160 }) 0 0 3 := cwV 3 hts (kgV (zr57 2 rfl) (zr57 3 rfl) (zr57 4 rfl) (zr3 7 rfl) (zr57 5 rfl)) rfl rfl rfl (by decide +kernel) hR
theorem wqX11_229_kc_markLay3 {R : Room} {s : State} {args : Array Value} {c0 : Cond} (hts : ∀ w ∈ c0 :: wsL_law0, w.before args s = true) (hR : 3 + 1 ≤ R.frames ∧ 8 + (4 + 11) + 160 ≤ R.locals) : CallW R s args RX11 RX5 229 yX5_lay cX5_lay 4 none (.code yX5_lay cX5_lay 4 none :: wsL_law0) ({ frames := 3, cells := 0, slots := 0, locals := 160 }) 0 0 3 := cwV 3 hts (kgV (zr57 2 rfl) (zr57 3 rfl) (zr57 4 rfl) (zr3 7 rfl) (zr57 5 rfl)) rfl rfl rfl (by decide +kernel) hR
theorem wqX1_114_kc_canForgeT {R : Room} {s : State} {args : Array Value} {c0 : Cond} (hts : ∀ w ∈ c0 :: wsL_law0, w.before args s = true) (hR : 1 + 1 ≤ R.frames ∧ 8 + (4 + 11) + 80 ≤ R.locals) : CallW R s args RX1 RX0 114 yX0_canForge cX0_canForge 4 (some .boolean) (.code yX0_canForge cX0_canForge 4 (some .boolean) :: wsL_law0) ({ frames := 1, cells := 0, slots := 0, locals := 80 }) 0 0 3 := cwV 3 hts (kgV (zr40 18 rfl) (zr37 5 rfl) (zr37 6 rfl) (zr2 10 rfl) (zr37 7 rfl)) rfl rfl rfl (by decide +kernel) hR
theorem wqX1_117_kc_sellT {R : Room} {s : State} {args : Array Value} {c0 : Cond} (hts : ∀ w ∈ c0 :: wsL_law0, w.before args s = true) (hR : 1 + 1 ≤ R.frames ∧ 8 + (4 + 11) + 80 ≤ R.locals) : CallW R s args RX1 RX0 117 yX0_sell cX0_sell 4 none (.code yX0_sell cX0_sell 4 none :: wsL_law0) ({ frames := 1, cells := 0, slots := 0, locals := 80 }) 0 0 3 := cwV 3 hts (kgV (zr40 19 rfl) (zr37 11 rfl) (zr37 12 rfl) (zr2 10 rfl) (zr37 13 rfl)) rfl rfl rfl (by decide +kernel) hR
theorem wqX1_106_kc_canGoT {R : Room} {s : State} {args : Array Value} {c0 : Cond} (hts : ∀ w ∈ c0 :: wsL_law0, w.before args s = true) (hR : 6 + 1 ≤ R.frames ∧ 8 + (4 + 11) + 280 ≤ R.locals) : CallW R s args RX1 RX0 106 yX0_canGo cX0_canGo 4 (some .boolean) (.code yX0_canGo cX0_canGo 4 (some .boolean) :: wsL_law0) ({ frames := 6, cells := 0, slots := 0, locals := 280 }) 0 0 3 := cwV 3 hts (kgV (zr40 16 rfl) (zr35 8 rfl) (zr35 9 rfl) (zr2 10 rfl) (zr35 10 rfl)) rfl rfl rfl (by decide +kernel) hR
theorem wqX1_110_kc_arriveT {R : Room} {s : State} {args : Array Value} {c0 : Cond} (hts : ∀ w ∈ c0 :: wsL_law0, w.before args s = true) (hR : 1 + 1 ≤ R.frames ∧ 8 + (3 + 11) + 80 ≤ R.locals) : CallW R s args RX1 RX8 110 yX8_arrive cX8_arrive 3 none (.code yX8_arrive cX8_arrive 3 none :: wsL_law0) ({ frames := 1, cells := 0, slots := 0, locals := 80 }) 0 0 2 := cwV 2 hts (kgV (zr40 17 rfl) (zr36 2 rfl) (zr36 3 rfl) (zr2 18 rfl) (zr36 4 rfl)) rfl rfl rfl (by decide +kernel) hR
theorem wqX1_100_kc_loseBeardT {R : Room} {s : State} {args : Array Value} {c0 : Cond} (hts : ∀ w ∈ c0 :: wsL_law0, w.before args s = true) (hR : 1 + 1 ≤ R.frames ∧ 8 + (2 + 11) + 80 ≤ R.locals) : CallW R s args RX1 RX8 100 yX8_loseBeard cX8_loseBeard 2 none (.code yX8_loseBeard cX8_loseBeard 2 none :: wsL_law0) ({ frames := 1, cells := 0, slots := 0, locals := 80 }) 0 0 1 := cwV 1 hts (kgV (zr40 15 rfl) (zr38 7 rfl) (zr38 8 rfl) (zr2 18 rfl) (zr38 9 rfl)) rfl rfl rfl (by decide +kernel) hR
theorem wqX1_94_kc_passWeekT {R : Room} {s : State} {args : Array Value} {c0 : Cond} (hts : ∀ w ∈ c0 :: wsL_law0, w.before args s = true) (hR : 2 + 1 ≤ R.frames ∧ 8 + (4 + 11) + 120 ≤ R.locals) : CallW R s args RX1 RX0 94 yX0_passWeek cX0_passWeek 4 none (.code yX0_passWeek cX0_passWeek 4 none :: wsL_law0) ({ frames := 2, cells := 0, slots := 0, locals := 120 }) 0 0 1 := cwV 1 hts (kgV (zr40 14 rfl) (zr39 0 rfl) (zr39 1 rfl) (zr2 10 rfl) (zr39 2 rfl)) rfl rfl rfl (by decide +kernel) hR
theorem wqX11_188_kc_suma {R : Room} {s : State} {args : Array Value} {c0 : Cond} (hts : ∀ w ∈ c0 :: wsL_law0, w.before args s = true) (hR : 1 + 1 ≤ R.frames ∧ 8 + (4 + 11) + 80 ≤ R.locals) : CallW R s args RX11 RX11 188 yX11_sum cX11_sum 4 (some .int) (.code yX11_sum cX11_sum 4 (some .int) :: wsL_law0) ({ frames := 1, cells := 0, slots := 0, locals := 80 }) 0 0 1 := cwV 1 hts (kgV (zr41 0 rfl) (zr41 1 rfl) (zr41 2 rfl) (zr1 2 rfl) (zr41 3 rfl)) rfl rfl rfl (by decide +kernel) hR
theorem wqX11_188_kc_sumd {R : Room} {s : State} {args : Array Value} {c0 : Cond} (hts : ∀ w ∈ c0 :: wsL_law0, w.before args s = true) (hR : 1 + 1 ≤ R.frames ∧ 8 + (4 + 11) + 80 ≤ R.locals) : CallW R s args RX11 RX11 188 yX11_sum cX11_sum 4 (some .int) (.code yX11_sum cX11_sum 4 (some .int) :: wsL_law0) ({ frames := 1, cells := 0, slots := 0, locals := 80 }) 0 0 1 := cwV 1 hts (kgV (zr41 0 rfl) (zr41 1 rfl) (zr41 2 rfl) (zr1 2 rfl) (zr41 3 rfl)) rfl rfl rfl (by decide +kernel) hR
theorem wqX11_245_kc_perform {R : Room} {s : State} {args : Array Value} {c0 : Cond} (hts : ∀ w ∈ c0 :: wsL_law0, w.before args s = true) (hR : 7 + 1 ≤ R.frames ∧ 8 + (6 + 11) + 320 ≤ R.locals) : CallW R s args RX11 RX1 245 yX1_perform cX1_perform 6 (some .boolean) (.code yX1_perform cX1_perform 6 (some .boolean) :: wsL_law0) ({ frames := 7, cells := 0, slots := 0, locals := 320 }) 0 0 3 := cwV 3 hts (kgV (zr40 10 rfl) (zr40 11 rfl) (zr40 12 rfl) (zr2 5 rfl) (zr40 13 rfl)) rfl rfl rfl (by decide +kernel) hR
theorem wqX11_249_kc_goesTo {R : Room} {s : State} {args : Array Value} {c0 : Cond} (hts : ∀ w ∈ c0 :: wsL_law0, w.before args s = true) (hR : 1 + 1 ≤ R.frames ∧ 8 + (2 + 11) + 80 ≤ R.locals) : CallW R s args RX11 RX1 249 yX1_goesTo cX1_goesTo 2 (some .int) (.code yX1_goesTo cX1_goesTo 2 (some .int) :: wsL_law0) ({ frames := 1, cells := 0, slots := 0, locals := 80 }) 0 0 1 := cwV 1 hts (kgV (zr40 20 rfl) (zr40 21 rfl) (zr40 22 rfl) (zr2 5 rfl) (zr40 23 rfl)) rfl rfl rfl (by decide +kernel) hR
theorem wqX11_241_kc_mostAsked {R : Room} {s : State} {args : Array Value} {c0 : Cond} (hts : ∀ w ∈ c0 :: wsL_law0, w.before args s = true) (hR : 2 + 1 ≤ R.frames ∧ 8 + (3 + 11) + 120 ≤ R.locals) : CallW R s args RX11 RX2 241 yX2_mostAsked cX2_mostAsked 3 (some .int) (.code yX2_mostAsked cX2_mostAsked 3 (some .int) :: wsL_law0) ({ frames := 2, cells := 0, slots := 0, locals := 120 }) 0 0 0 := cwV 0 hts (kgV (zr40 3 rfl) (zr40 4 rfl) (zr40 5 rfl) (zr1 20 rfl) (zr40 6 rfl)) rfl rfl rfl (by decide +kernel) hR
theorem wqX11_113_kc_begin8T {R : Room} {s : State} {args : Array Value} {c0 : Cond} (hts : ∀ w ∈ c0 :: wsL_law0, w.before args s = true) (hR : 1 + 1 ≤ R.frames ∧ 8 + (3 + 11) + 80 ≤ R.locals) : CallW R s args RX11 RX8 113 yX8_begin cX8_begin 3 none (.code yX8_begin cX8_begin 3 none :: wsL_law0) ({ frames := 1, cells := 0, slots := 0, locals := 80 }) 0 0 1 := cwV 1 hts (kgV (zr20 20 rfl) (zr20 21 rfl) (zr20 22 rfl) (zr2 18 rfl) (zr20 23 rfl)) rfl rfl rfl (by decide +kernel) hR
theorem wqX11_253_kc_reachOfN {R : Room} {s : State} {args : Array Value} {c0 : Cond} (hts : ∀ w ∈ c0 :: wsL_law0, w.before args s = true) (hR : 6 + 1 ≤ R.frames ∧ 8 + (4 + 11) + 280 ≤ R.locals) : CallW R s args RX11 RX10 253 yX10_reachOf cX10_reachOf 4 (some .int) (.code yX10_reachOf cX10_reachOf 4 (some .int) :: wsL_law0) ({ frames := 6, cells := 0, slots := 0, locals := 280 }) 0 0 3 := cwV 3 hts (kgV (zr42 1 rfl) (zr42 2 rfl) (zr42 3 rfl) (zr2 14 rfl) (zr42 4 rfl)) rfl rfl rfl (by decide +kernel) hR
theorem wqX11_257_kc_layN {R : Room} {s : State} {args : Array Value} {c0 : Cond} (hts : ∀ w ∈ c0 :: wsL_law0, w.before args s = true) (hR : 5 + 1 ≤ R.frames ∧ 8 + (6 + 11) + 240 ≤ R.locals) : CallW R s args RX11 RX10 257 yX10_lay cX10_lay 6 none (.code yX10_lay cX10_lay 6 none :: wsL_law0) ({ frames := 5, cells := 0, slots := 0, locals := 240 }) 0 0 3 := cwV 3 hts (kgV (zr43 20 rfl) (zr42 7 rfl) (zr42 8 rfl) (zr2 14 rfl) (zr42 9 rfl)) rfl rfl rfl (by decide +kernel) hR
theorem wqX11_259_kc_distance {R : Room} {s : State} {args : Array Value} {c0 : Cond} (hts : ∀ w ∈ c0 :: wsL_law0, w.before args s = true) (hR : 3 + 1 ≤ R.frames ∧ 8 + (5 + 11) + 160 ≤ R.locals) : CallW R s args RX11 RX10 259 yX10_distance cX10_distance 5 (some .int) (.code yX10_distance cX10_distance 5 (some .int) :: wsL_law0) ({ frames := 3, cells := 0, slots := 0, locals := 160 }) 0 0 2 := cwV 2 hts (kgV (zr43 21 rfl) (zr43 22 rfl) (zr43 23 rfl) (zr2 14 rfl) (zr44 0 rfl)) rfl rfl rfl (by decide +kernel) hR
theorem wqX11_262_kc_firstStep {R : Room} {s : State} {args : Array Value} {c0 : Cond} (hts : ∀ w ∈ c0 :: wsL_law0, w.before args s = true) (hR : 4 + 1 ≤ R.frames ∧ 8 + (5 + 11) + 200 ≤ R.locals) : CallW R s args RX11 RX10 262 yX10_firstStep cX10_firstStep 5 (some .int) (.code yX10_firstStep cX10_firstStep 5 (some .int) :: wsL_law0) ({ frames := 4, cells := 0, slots := 0, locals := 200 }) 0 0 2 := cwV 2 hts (kgV (zr47 7 rfl) (zr47 8 rfl) (zr47 9 rfl) (zr2 14 rfl) (zr47 10 rfl)) rfl rfl rfl (by decide +kernel) hR
theorem wqX11_265_kc_findSoonest {R : Room} {s : State} {args : Array Value} {c0 : Cond} (hts : ∀ w ∈ c0 :: wsL_law0, w.before args s = true) (hR : 6 + 1 ≤ R.frames ∧ 8 + (8 + 11) + 280 ≤ R.locals) : CallW R s args RX11 RX10 265 yX10_findSoonest cX10_findSoonest 8 none (.code yX10_findSoonest cX10_findSoonest 8 none :: wsL_law0) ({ frames := 6, cells := 0, slots := 0, locals := 280 }) 0 0 3 := cwV 3 hts (kgV (zr44 14 rfl) (zr44 15 rfl) (zr44 16 rfl) (zr2 14 rfl) (zr44 17 rfl)) rfl rfl rfl (by decide +kernel) hR
theorem wqX11_271_kc_soonestRound {R : Room} {s : State} {args : Array Value} {c0 : Cond} (hts : ∀ w ∈ c0 :: wsL_law0, w.before args s = true) (hR : 6 + 1 ≤ R.frames ∧ 8 + (7 + 11) + 280 ≤ R.locals) : CallW R s args RX11 RX10 271 yX10_soonestRound cX10_soonestRound 7 (some .int) (.code yX10_soonestRound cX10_soonestRound 7 (some .int) :: wsL_law0) ({ frames := 6, cells := 0, slots := 0, locals := 280 }) 0 0 2 := cwV 2 hts (kgV (zr45 13 rfl) (zr45 14 rfl) (zr45 15 rfl) (zr2 14 rfl) (zr45 16 rfl)) rfl rfl rfl (by decide +kernel) hR
theorem wqX11_213_kc_loseBeardT {R : Room} {s : State} {args : Array Value} {c0 : Cond} (hts : ∀ w ∈ c0 :: wsL_law0, w.before args s = true) (hR : 1 + 1 ≤ R.frames ∧ 8 + (2 + 11) + 80 ≤ R.locals) : CallW R s args RX11 RX8 213 yX8_loseBeard cX8_loseBeard 2 none (.code yX8_loseBeard cX8_loseBeard 2 none :: wsL_law0) ({ frames := 1, cells := 0, slots := 0, locals := 80 }) 0 0 1 := cwV 1 hts (kgV (zr38 6 rfl) (zr38 7 rfl) (zr38 8 rfl) (zr2 18 rfl) (zr38 9 rfl)) rfl rfl rfl (by decide +kernel) hR
theorem wqX11_253_kc_reachOfT {R : Room} {s : State} {args : Array Value} {c0 : Cond} (hts : ∀ w ∈ c0 :: wsL_law0, w.before args s = true) (hR : 6 + 1 ≤ R.frames ∧ 8 + (4 + 11) + 280 ≤ R.locals) : CallW R s args RX11 RX10 253 yX10_reachOf cX10_reachOf 4 (some .int) (.code yX10_reachOf cX10_reachOf 4 (some .int) :: wsL_law0) ({ frames := 6, cells := 0, slots := 0, locals := 280 }) 0 0 3 := cwV 3 hts (kgV (zr42 1 rfl) (zr42 2 rfl) (zr42 3 rfl) (zr2 14 rfl) (zr42 4 rfl)) rfl rfl rfl (by decide +kernel) hR
theorem wqX11_281_kc_fewest {R : Room} {s : State} {args : Array Value} {c0 : Cond} (hts : ∀ w ∈ c0 :: wsL_law0, w.before args s = true) (hR : 7 + 1 ≤ R.frames ∧ 8 + (5 + 11) + 320 ≤ R.locals) : CallW R s args RX11 RX11 281 yX11_fewestInches cX11_fewestInches 5 (some .int) (.code yX11_fewestInches cX11_fewestInches 5 (some .int) :: wsL_law0) ({ frames := 7, cells := 0, slots := 0, locals := 320 }) 0 0 2 := cwV 2 hts (kgV (zr46 14 rfl) (zr46 15 rfl) (zr46 16 rfl) (zr1 2 rfl) (zr46 17 rfl)) rfl rfl rfl (by decide +kernel) hR
theorem wqX11_296_kc_allTowns {R : Room} {s : State} {args : Array Value} {c0 : Cond} (hts : ∀ w ∈ c0 :: wsL_law0, w.before args s = true) (hR : 1 + 1 ≤ R.frames ∧ 8 + (1 + 11) + 80 ≤ R.locals) : CallW R s args RX11 RX2 296 yX2_allTowns cX2_allTowns 1 (some .int) (.code yX2_allTowns cX2_allTowns 1 (some .int) :: wsL_law0) ({ frames := 1, cells := 0, slots := 0, locals := 80 }) 0 0 0 := cwV 0 hts (kgV (zr49 9 rfl) (zr45 19 rfl) (zr45 20 rfl) (zr1 20 rfl) (zr45 21 rfl)) rfl rfl rfl (by decide +kernel) hR
theorem wqX11_299_kc_waitForSoonest {R : Room} {s : State} {args : Array Value} {c0 : Cond} (hts : ∀ w ∈ c0 :: wsL_law0, w.before args s = true) (hR : 2 + 1 ≤ R.frames ∧ 8 + (3 + 11) + 120 ≤ R.locals) : CallW R s args RX11 RX10 299 yX10_waitForSoonest cX10_waitForSoonest 3 none (.code yX10_waitForSoonest cX10_waitForSoonest 3 none :: wsL_law0) ({ frames := 2, cells := 0, slots := 0, locals := 120 }) 0 0 0 := cwV 0 hts (kgV (zr49 10 rfl) (zr49 11 rfl) (zr49 12 rfl) (zr2 14 rfl) (zr49 13 rfl)) rfl rfl rfl (by decide +kernel) hR
theorem wqX11_302_kc_voicesN {R : Room} {s : State} {args : Array Value} {c0 : Cond} (hts : ∀ w ∈ c0 :: wsL_law0, w.before args s = true) (hR : 4 + 1 ≤ R.frames ∧ 8 + (6 + 11) + 200 ≤ R.locals) : CallW R s args RX11 RX0 302 yX0_voices cX0_voices 6 (some .int) (.code yX0_voices cX0_voices 6 (some .int) :: wsL_law0) ({ frames := 4, cells := 0, slots := 0, locals := 200 }) 0 0 3 := cwV 3 hts (kgV (zr50 3 rfl) (zr32 8 rfl) (zr32 9 rfl) (zr2 10 rfl) (zr32 10 rfl)) rfl rfl rfl (by decide +kernel) hR
theorem wqX11_313_kc_add6 {R : Room} {s : State} {args : Array Value} {c0 : Cond} (hts : ∀ w ∈ c0 :: wsL_law0, w.before args s = true) (hR : 1 + 1 ≤ R.frames ∧ 8 + (2 + 11) + 80 ≤ R.locals) : CallW R s args RX11 RX6 313 yX6_add cX6_add 2 none (.code yX6_add cX6_add 2 none :: wsL_law0) ({ frames := 1, cells := 0, slots := 0, locals := 80 }) 0 0 1 := cwV 1 hts (kgV (zr51 20 rfl) (zr51 21 rfl) (zr51 22 rfl) (zr2 23 rfl) (zr51 23 rfl)) rfl rfl rfl (by decide +kernel) hR
theorem wqX11_310_kc_unreadLet {R : Room} {s : State} {args : Array Value} {c0 : Cond} (hts : ∀ w ∈ c0 :: wsL_law0, w.before args s = true) (hR : 3 + 1 ≤ R.frames ∧ 8 + (5 + 11) + 160 ≤ R.locals) : CallW R s args RX11 RX2 310 yX2_unreadLet cX2_unreadLet 5 (some .int) (.code yX2_unreadLet cX2_unreadLet 5 (some .int) :: wsL_law0) ({ frames := 3, cells := 0, slots := 0, locals := 160 }) 0 0 2 := cwV 2 hts (kgV (zr51 15 rfl) (zr51 16 rfl) (zr51 17 rfl) (zr1 20 rfl) (zr51 18 rfl)) rfl rfl rfl (by decide +kernel) hR
theorem wqX11_217_kc_passWeekT {R : Room} {s : State} {args : Array Value} {c0 : Cond} (hts : ∀ w ∈ c0 :: wsL_law0, w.before args s = true) (hR : 2 + 1 ≤ R.frames ∧ 8 + (4 + 11) + 120 ≤ R.locals) : CallW R s args RX11 RX0 217 yX0_passWeek cX0_passWeek 4 none (.code yX0_passWeek cX0_passWeek 4 none :: wsL_law0) ({ frames := 2, cells := 0, slots := 0, locals := 120 }) 0 0 1 := cwV 1 hts (kgV (zr38 23 rfl) (zr39 0 rfl) (zr39 1 rfl) (zr2 10 rfl) (zr39 2 rfl)) rfl rfl rfl (by decide +kernel) hR
theorem wqX11_195_kc_canGoT {R : Room} {s : State} {args : Array Value} {c0 : Cond} (hts : ∀ w ∈ c0 :: wsL_law0, w.before args s = true) (hR : 6 + 1 ≤ R.frames ∧ 8 + (4 + 11) + 280 ≤ R.locals) : CallW R s args RX11 RX0 195 yX0_canGo cX0_canGo 4 (some .boolean) (.code yX0_canGo cX0_canGo 4 (some .boolean) :: wsL_law0) ({ frames := 6, cells := 0, slots := 0, locals := 280 }) 0 0 3 := cwV 3 hts (kgV (zr35 7 rfl) (zr35 8 rfl) (zr35 9 rfl) (zr2 10 rfl) (zr35 10 rfl)) rfl rfl rfl (by decide +kernel) hR
theorem wqX11_202_kc_arriveT {R : Room} {s : State} {args : Array Value} {c0 : Cond} (hts : ∀ w ∈ c0 :: wsL_law0, w.before args s = true) (hR : 1 + 1 ≤ R.frames ∧ 8 + (3 + 11) + 80 ≤ R.locals) : CallW R s args RX11 RX8 202 yX8_arrive cX8_arrive 3 none (.code yX8_arrive cX8_arrive 3 none :: wsL_law0) ({ frames := 1, cells := 0, slots := 0, locals := 80 }) 0 0 2 := cwV 2 hts (kgV (zr36 1 rfl) (zr36 2 rfl) (zr36 3 rfl) (zr2 18 rfl) (zr36 4 rfl)) rfl rfl rfl (by decide +kernel) hR
theorem wqX11_184_kc_peopledT {R : Room} {s : State} {args : Array Value} {c0 : Cond} (hts : ∀ w ∈ c0 :: wsL_law0, w.before args s = true) (hR : 1 + 1 ≤ R.frames ∧ 8 + (4 + 11) + 80 ≤ R.locals) : CallW R s args RX11 RX8 184 yX8_peopled cX8_peopled 4 (some .int) (.code yX8_peopled cX8_peopled 4 (some .int) :: wsL_law0) ({ frames := 1, cells := 0, slots := 0, locals := 80 }) 0 0 1 := cwV 1 hts (kgV (zr55 16 rfl) (zr55 17 rfl) (zr55 18 rfl) (zr2 18 rfl) (zr55 19 rfl)) rfl rfl rfl (by decide +kernel) hR
