/-! ===== the lines of a JOURNEY, on both sides ===== -/
/-- a line under way: its place is n -/
def xQd (t p n : Nat) (r rm : zRr) : Prop := r 142 3 = nI (n + 1) ∧ rm 25 5 = nI n ∧ n < 40 ∧ ∀ k, k < n → r 143 k = rm 26 (200 + k) ∧ (¬ r 143 k = 3 → r 144 k = rm 27 (200 + k)) ∧ (r 143 k = 0 ∨ r 143 k = 1 → r 145 k = rm 28 (200 + k)) ∧ xBd t p (r 143 k) (r 144 k) (r 145 k)
noncomputable def xKh (n : Nat) (d : Int32) (r : zRr) : zRr := xs (xs (xs (xs r 142 3 (nI (n + 1))) 143 n d) 144 n 0) 145 n 0
noncomputable def xMd (n : Nat) (rm : zRr) : zRr := xs (xs rm 28 (200 + n) (rm 136 0)) 25 5 (xs rm 28 (200 + n) (rm 136 0) 25 5 + 1)
noncomputable def xWJ (o : Int32 × zRr × zRq) : Int32 × zRr × zRq := zc_vrq o (fun v a b => if v = 0 then ((0 : Int32), a, b) else ((1 : Int32), a, b))
noncomputable def x87 (n : Nat) (r : zRr) (q : zRq) : Int32 × zRr × zRq := if r 145 n = -1 then ((0 : Int32), r, q) else ((1 : Int32), r, q)
noncomputable def xKD (n : Nat) (r : zRr) (q : zRq) : Int32 × zRr × zRq :=
  if r 143 n = 1 then zc_vrq (Gk_takeNumber 1 20 r q) (fun v a b => x87 n (zset a 145 (upd (a 145) n v)) b)
  else if r 143 n = 0 then zc_vr (Gk_townHere r q) (fun v a => if (zset a 145 (upd (a 145) n v)) 145 n = -1 then x87 n (zset a 145 (upd (a 145) n v)) q else zc_rq (Gk_step (zset a 145 (upd (a 145) n v)) q) (fun a b => x87 n a b))
  else x87 n r q
section XQ
variable {t p n : Nat} {r r1 : zRr} {q q1 : zRq} {rm rm1 : zRr} {qm qm1 : zRq}
theorem xQd.tok (h : xQd t p n r rm) (fk : xFk r q r1 q1) (fm : xFm9 rm qm rm1 qm1) : xQd t p n r1 rm1 := by
  unfold xQd at h ⊢
  rw [fk.1 142 rfl, fk.1 143 rfl, fk.1 144 rfl, fk.1 145 rfl, fm.1 25 rfl, fm.1 26 rfl, fm.1 27 rfl, fm.1 28 rfl]
  exact h
theorem xQd.k (h : xQd t p n r rm) {a : Nat} {v : Int32} (ha : a = 143 ∨ a = 144 ∨ a = 145) : xQd t p n (zset r a (upd (r a) n v)) rm := by
  obtain ⟨h1, h2, h3, h4⟩ := h
  refine ⟨by rw [zset_ne (by omega)]; exact h1, h2, h3, fun k hk => ?_⟩
  have e : ∀ c, zset r a (upd (r a) n v) c k = r c k := by
    intro c
    by_cases e : c = a
    · subst e; rw [zset_eq, pk_un (by omega)]
    · rw [zset_ne e]
  rw [e 143, e 144, e 145]
  exact h4 k hk
theorem xQd.m (h : xQd t p n r rm) {a : Nat} {v : Int32} (ha : 26 ≤ a ∧ a ≤ 28) : xQd t p n r (zset rm a (upd (rm a) (200 + n) v)) := by
  obtain ⟨h1, h2, h3, h4⟩ := h
  refine ⟨h1, by rw [zset_ne (by omega)]; exact h2, h3, fun k hk => ?_⟩
  have e : ∀ c, zset rm a (upd (rm a) (200 + n) v) c (200 + k) = rm c (200 + k) := by
    intro c
    by_cases e : c = a
    · subst e; rw [zset_eq, pk_un (by omega)]
    · rw [zset_ne e]
  rw [e 26, e 27, e 28]
  exact h4 k hk
theorem xQd.done (h : xQd t p n r rm) (e1 : r 143 n = rm 26 (200 + n)) (e2 : ¬ r 143 n = 3 → r 144 n = rm 27 (200 + n)) (e3 : r 143 n = 0 ∨ r 143 n = 1 → r 145 n = rm 28 (200 + n)) (e4 : xBd t p (r 143 n) (r 144 n) (r 145 n)) : xPd t p (n + 1) r (zset rm 25 (upd (rm 25) 5 (rm 25 5 + 1))) := by
  obtain ⟨h1, h2, h3, h4⟩ := h
  refine ⟨h1, by rw [zset_eq, pk_us, h2, nI_1], by omega, fun k hk => ?_⟩
  rw [zset_ne (show 26 ≠ 25 by decide), zset_ne (show 27 ≠ 25 by decide), zset_ne (show 28 ≠ 25 by decide)]
  by_cases e : k = n
  · subst e; exact ⟨e1, e2, e3, e4⟩
  · exact h4 k (by omega)
theorem xPd.head (h : xPd t p n r rm) (hn : n < 40) {d : Int32} : xQd t p n (xKh n d r) rm := by
  obtain ⟨h1, h2, h3, h4⟩ := h
  refine ⟨?_, h2, hn, fun k hk => ?_⟩
  · show upd (r 142) 3 (nI (n + 1)) 3 = nI (n + 1)
    rw [pk_us]
  · show upd (r 143) n d k = rm 26 (200 + k) ∧ (¬ upd (r 143) n d k = 3 → upd (r 144) n 0 k = rm 27 (200 + k)) ∧ (upd (r 143) n d k = 0 ∨ upd (r 143) n d k = 1 → upd (r 145) n 0 k = rm 28 (200 + k)) ∧ xBd t p (upd (r 143) n d k) (upd (r 144) n 0 k) (upd (r 145) n 0 k)
    have c : k ≠ n := by omega
    rw [pk_un (f := r 143) c, pk_un (f := r 144) c, pk_un (f := r 145) c]
    exact h4 k hk
theorem xWJ0 : xWJ (0, r, q) = (0, r, q) := by
  unfold xWJ; rw [xcvrq (r := r), if_pos rfl]
theorem xWJ1 : xWJ (1, r, q) = (1, r, q) := by
  unfold xWJ; rw [xcvrq (r := r), if_neg (show ¬ (1 : Int32) = 0 by decide)]
theorem xlineJk {d : Int32} (h3 : r 142 3 = nI n) (hn : n < 40) (hd : Gk_deedHere r q = d) (h1 : ¬ d = -1) : Gk_readLineJ r q = zc_rq (Gk_step (xKh n d r) q) (fun a b => if d = 3 then ((1 : Int32), a, b) else xWJ (Gk_readDoer (nI n) a b)) := by
  have c40 : nI n < 40 := (nI_ltI (b := 40) (by omega) (by omega)).mpr hn
  unfold Gk_readLineJ xKh xWJ
  simp only [zifQ, zifnQ, zletQ, hd, if_neg h1, h3, if_pos c40, xs, nI_1, xzn (show n < 2 ^ 31 by omega)]
theorem xdoer (hn : n < 40) : Gk_readDoer (nI n) r q = zc_vr (Gk_personHere r q) (fun v a => if zset a 144 (upd (a 144) n v) 144 n = -1 then ((0 : Int32), zset a 144 (upd (a 144) n v), q) else zc_rq (Gk_step (zset a 144 (upd (a 144) n v)) q) (fun a b => xKD n a b)) := by
  unfold Gk_readDoer xKD x87 Gk_readDoer_87
  simp only [zifQ, zifnQ, zletQ, xzn (show n < 2 ^ 31 by omega)]
end XQ
section XJL
variable {L b b1 e1 n t p : Nat} {d : Int32} {r r1 : zRr} {q q1 : zRq} {rm rm1 : zRr} {qm qm1 : zRq}
/-- the line is told: ; must stand there -/
theorem xJend (hT : xTok L b1 e1 r1 q1 rm1 qm1) (hb : b < b1) (hQ : xQd t p n r1 rm1) (g1 : r1 143 n = rm1 26 (200 + n)) (g2 : ¬ r1 143 n = 3 → r1 144 n = rm1 27 (200 + n)) (g3 : r1 143 n = 0 ∨ r1 143 n = 1 → r1 145 n = rm1 136 0) (g4 : xBd t p (r1 143 n) (r1 144 n) (r1 145 n)) (hk : xJk r q r1 q1) (hm : xJm rm qm rm1 qm1) : xJo t p L b r q rm qm (xCL (1, r1, q1)) (Gm_closes (xMd n rm1) qm1) := by
  have hQ2 := hQ.m (a := 28) (v := rm1 136 0) ⟨by omega, by omega⟩
  have hP : xPd t p (n + 1) r1 (xMd n rm1) := by
    refine hQ2.done ?_ ?_ ?_ g4
    · rw [zset_ne (by decide)]; exact g1
    · rw [zset_ne (by decide)]; exact g2
    · rw [zset_eq, pk_us]; exact g3
  exact xJo.close (hT.row rfl rfl rfl rfl rfl rfl rfl rfl rfl rfl) hb hP hk ((hm.cell (k := 28) (j := 200 + n) (v := rm1 136 0) ⟨by omega, by omega⟩ (by omega)).cnt)
/-- the person of a line -/
theorem xJperson (hn : n < 40) (hT : xTok L b1 e1 r1 q1 rm1 qm1) (hb : b < b1) (hD : xTd t p r1 q1 rm1 qm1) (hQ : xQd t p n r1 rm1) (h1 : r1 143 n = d) (h2 : rm1 26 (200 + n) = d) (hj : r1 145 n = 0) (hk : xJk r q r1 q1) (hm : xJm rm qm rm1 qm1) (MM : zRr → zRq → Int32 × zRr × zRq)
    (main : ∀ b2 e2 r2 q2 rm2 qm2, xTok L b2 e2 r2 q2 rm2 qm2 → b < b2 → xTd t p r2 q2 rm2 qm2 → xQd t p n r2 rm2 → r2 143 n = d → rm2 26 (200 + n) = d → r2 144 n = rm2 27 (200 + n) → (∃ j, j < p ∧ r2 144 n = nI j) → r2 145 n = 0 → xJk r q r2 q2 → xJm rm qm rm2 qm2 → xJo t p L b r q rm qm (xCL (xWJ (xKD n r2 q2))) (MM rm2 qm2)) :
    xJo t p L b r q rm qm (xCL (xWJ (Gk_readDoer (nI n) r1 q1))) (zc_vr (Gm_needsPerson rm1 qm1) (fun v a => if v = 0 then ((0 : Int32), a, qm1) else zc_rq (Gm_nextToken (zset a 27 (upd (a 27) (200 + n) (a 136 0))) qm1) (fun a b => MM a b))) := by
  rw [xdoer hn]
  rcases xhereP hT hD with ⟨r2, rm2, p1, p2, p3, p4, p5⟩ | ⟨j, hj6, p1, p2, p3⟩
  · rw [p1, p2, xcvr (r := r2), xcvr (r := rm2), if_pos (show zset r2 144 (upd (r2 144) n (-1)) 144 n = -1 by rw [zset_eq, pk_us]), if_pos rfl, xWJ0]
    exact xJo.fail ((hk.k ⟨p4, xFq.refl⟩).set (by decide)) (hm.m ⟨p5.up rfl, xFq.refl⟩) p3
  · have hp6 := hD.2.1.2.2
    obtain ⟨n1, n2, n3⟩ := xnn (j := j) (by omega)
    rw [p1, p2, xcvr (r := r1), xcvr (r := zset rm1 136 (fun _ => nI j)), if_neg (show ¬ zset r1 144 (upd (r1 144) n (nI j)) 144 n = -1 by rw [zset_eq, pk_us]; exact n3), if_neg (show ¬ (1 : Int32) = 0 by decide)]
    have hTa : xTok L b1 e1 (zset r1 144 (upd (r1 144) n (nI j))) q1 (zset (zset rm1 136 (fun _ => nI j)) 27 (upd (zset rm1 136 (fun _ => nI j) 27) (200 + n) (zset rm1 136 (fun _ => nI j) 136 0))) qm1 := hT.row rfl rfl rfl rfl rfl rfl rfl rfl rfl rfl
    obtain ⟨b2, e2, r2, q2, rm2, qm2, s1, s2, hT2, hb2, fk, fm⟩ := hTa.next
    have hlt := hT.lt (show ¬ r1 196 4 = 31 by rw [p3]; decide)
    have f136 : xFm9 rm1 qm1 (zset rm1 136 (fun _ => nI j)) qm1 := ⟨zFr.refl.set rfl, xFq.refl⟩
    have hk2 : xJk r1 q1 r2 q2 := (xJk.refl.set (k := 144) (by decide)).k fk
    have hm2 : xJm rm1 qm1 rm2 qm2 := ((xJm.refl.m f136).cell (k := 27) (j := 200 + n) ⟨by omega, by omega⟩ (by omega)).m (xFm9.m fm)
    rw [xrw s1, xrw s2]
    refine main b2 e2 r2 q2 rm2 qm2 hT2 (by omega) (hD.j hk2 hm2) ?_ ?_ ?_ ?_ ⟨j, hj6, ?_⟩ ?_ (hk.tr hk2) (hm.tr hm2)
    · exact (((hQ.k (a := 144) (v := nI j) (Or.inr (Or.inl rfl))).tok (q := q1) (q1 := q1) xFk.refl f136).m (a := 27) ⟨by omega, by omega⟩).tok fk (xFm9.m fm)
    · rw [fk.1 143 rfl]; exact h1
    · rw [fm.1 26 rfl]; exact h2
    · rw [fk.1 144 rfl, fm.1 27 rfl]
      show upd (r1 144) n (nI j) n = upd (rm1 27) (200 + n) (nI j) (200 + n)
      rw [pk_us, pk_us]
    · rw [fk.1 144 rfl]
      show upd (r1 144) n (nI j) n = nI j
      rw [pk_us]
    · rw [fk.1 145 rfl]; exact hj
/-- SHAVE -/
theorem xJshave (hT : xTok L b1 e1 r1 q1 rm1 qm1) (hb : b < b1) (hQ : xQd t p n r1 rm1) (h1 : r1 143 n = 2) (h2 : rm1 26 (200 + n) = 2) (h3 : r1 144 n = rm1 27 (200 + n)) (h4 : ∃ j, j < p ∧ r1 144 n = nI j) (hj : r1 145 n = 0) (hk : xJk r q r1 q1) (hm : xJm rm qm rm1 qm1) : xJo t p L b r q rm qm (xCL (xWJ (xKD n r1 q1))) (Gm_closes (xMd n rm1) qm1) := by
  have e : xKD n r1 q1 = (1, r1, q1) := by
    unfold xKD x87
    rw [if_neg (show ¬ r1 143 n = 1 by rw [h1]; decide), if_neg (show ¬ r1 143 n = 0 by rw [h1]; decide), if_neg (show ¬ r1 145 n = -1 by rw [hj]; decide)]
  rw [e, xWJ1]
  exact xJend hT hb hQ (h1.trans h2.symm) (fun _ => h3) (fun h9 => by rw [h1] at h9; exact absurd h9 (by decide)) ⟨Or.inr (Or.inr (Or.inl h1)), fun _ => h4, fun h9 => by rw [h1] at h9; exact absurd h9 (by decide), fun h9 => by rw [h1] at h9; exact absurd h9 (by decide)⟩ hk hm
/-- FORGE: its inches -/
theorem xJforge (hT : xTok L b1 e1 r1 q1 rm1 qm1) (hb : b < b1) (hQ : xQd t p n r1 rm1) (h1 : r1 143 n = 1) (h2 : rm1 26 (200 + n) = 1) (h3 : r1 144 n = rm1 27 (200 + n)) (h4 : ∃ j, j < p ∧ r1 144 n = nI j) (hk : xJk r q r1 q1) (hm : xJm rm qm rm1 qm1) : xJo t p L b r q rm qm (xCL (xWJ (xKD n r1 q1))) (zc_vrq (Gm_needsNumber 1 20 rm1 qm1) (fun v a b => if v = 0 then ((0 : Int32), a, b) else Gm_closes (xMd n a) b)) := by
  unfold xKD
  rw [if_pos h1]
  have k2 := xnum hT (lo := 1) (hi := 20) (by decide)
  generalize Gk_takeNumber 1 20 r1 q1 = o at k2 ⊢
  generalize Gm_needsNumber 1 20 rm1 qm1 = om at k2 ⊢
  obtain ⟨v, r3, q3⟩ := o
  obtain ⟨w, rm3, qm3⟩ := om
  obtain ⟨fk, fm, k2⟩ := k2
  have fk : xFk r1 q1 r3 q3 := fk
  have fm : xFm9 rm1 qm1 rm3 qm3 := fm
  rw [xcvrq (r := r3), xcvrq (r := rm3)]
  unfold x87
  rcases k2 with ⟨c1, c2, c3⟩ | ⟨c1, c2, c3, b4, e4, c4, hT5⟩
  · have c1 : v = -1 := c1
    have c2 : w = 0 := c2
    rw [if_pos c2, if_pos (show zset r3 145 (upd (r3 145) n v) 145 n = -1 by rw [zset_eq, pk_us]; exact c1), xWJ0]
    exact xJo.fail ((hk.k fk).set (by decide)) (hm.m fm) c3
  · have c1 : w = 1 := c1
    have c2 : v = rm3 136 0 := c2
    have c3 : zI 1 20 v := c3
    have hT5 : xTok L b4 e4 r3 q3 rm3 qm3 := hT5
    rw [if_neg (show ¬ w = 0 by rw [c1]; decide), if_neg (show ¬ zset r3 145 (upd (r3 145) n v) 145 n = -1 by rw [zset_eq, pk_us]; intro h9; rw [h9] at c3; exact absurd c3.1 (by decide)), xWJ1]
    refine xJend (r1 := zset r3 145 (upd (r3 145) n v)) (hT5.row rfl rfl rfl rfl rfl rfl rfl rfl rfl rfl) (by omega) ((hQ.tok fk fm).k (Or.inr (Or.inr rfl))) ?_ (fun _ => ?_) (fun _ => ?_) ?_ ((hk.k fk).set (by decide)) (hm.m fm)
    · show r3 143 n = rm3 26 (200 + n)
      rw [fk.1 143 rfl, fm.1 26 rfl, h1, h2]
    · show r3 144 n = rm3 27 (200 + n)
      rw [fk.1 144 rfl, fm.1 27 rfl]; exact h3
    · show upd (r3 145) n v n = rm3 136 0
      rw [pk_us]; exact c2
    · show xBd t p (r3 143 n) (r3 144 n) (upd (r3 145) n v n)
      rw [pk_us, fk.1 143 rfl, fk.1 144 rfl, h1]
      obtain ⟨z1, z2⟩ := c3.ix (n := 21) (by decide)
      have z3 := c3.nn (by decide)
      exact ⟨Or.inr (Or.inl rfl), fun _ => h4, fun h9 => absurd h9 (by decide), fun _ => ⟨_, by omega, by omega, z1⟩⟩
/-- GO: its town -/
theorem xJgo (hT : xTok L b1 e1 r1 q1 rm1 qm1) (hb : b < b1) (hD : xTd t p r1 q1 rm1 qm1) (hQ : xQd t p n r1 rm1) (h1 : r1 143 n = 0) (h2 : rm1 26 (200 + n) = 0) (h3 : r1 144 n = rm1 27 (200 + n)) (h4 : ∃ j, j < p ∧ r1 144 n = nI j) (hk : xJk r q r1 q1) (hm : xJm rm qm rm1 qm1) : xJo t p L b r q rm qm (xCL (xWJ (xKD n r1 q1))) (zc_vr (Gm_needsTown0 rm1 qm1) (fun v a => if v = 0 then ((0 : Int32), a, qm1) else zc_rq (Gm_nextToken a qm1) (fun a b => Gm_closes (xMd n a) b))) := by
  unfold xKD
  rw [if_neg (show ¬ r1 143 n = 1 by rw [h1]; decide), if_pos h1]
  rcases xhereT hT hD with ⟨r2, rm2, p1, p2, p3, p4, p5⟩ | ⟨j, hj6, p1, p2, p3⟩
  · have e : x87 n (zset r2 145 (upd (r2 145) n (-1))) q1 = (0, zset r2 145 (upd (r2 145) n (-1)), q1) := by
      unfold x87
      rw [if_pos (show zset r2 145 (upd (r2 145) n (-1)) 145 n = -1 by rw [zset_eq, pk_us])]
    rw [p1, p2, xcvr (r := r2), xcvr (r := rm2), if_pos (show zset r2 145 (upd (r2 145) n (-1)) 145 n = -1 by rw [zset_eq, pk_us]), if_pos rfl, e, xWJ0]
    exact xJo.fail ((hk.k ⟨p4, xFq.refl⟩).set (by decide)) (hm.m ⟨p5.up rfl, xFq.refl⟩) p3
  · have ht6 := hD.1.2.2
    obtain ⟨n1, n2, n3⟩ := xnn (j := j) (by omega)
    rw [p1, p2, xcvr (r := r1), xcvr (r := zset rm1 136 (fun _ => nI j)), if_neg (show ¬ zset r1 145 (upd (r1 145) n (nI j)) 145 n = -1 by rw [zset_eq, pk_us]; exact n3), if_neg (show ¬ (1 : Int32) = 0 by decide)]
    have hTa : xTok L b1 e1 (zset r1 145 (upd (r1 145) n (nI j))) q1 (zset rm1 136 (fun _ => nI j)) qm1 := hT.row rfl rfl rfl rfl rfl rfl rfl rfl rfl rfl
    obtain ⟨b2, e2, r2, q2, rm2, qm2, s1, s2, hT2, hb2, fk, fm⟩ := hTa.next
    have hlt := hT.lt (show ¬ r1 196 4 = 31 by rw [p3]; decide)
    have f136 : xFm9 rm1 qm1 (zset rm1 136 (fun _ => nI j)) qm1 := ⟨zFr.refl.set rfl, xFq.refl⟩
    have e145 : r2 145 n = nI j := by
      rw [fk.1 145 rfl]
      show upd (r1 145) n (nI j) n = nI j
      rw [pk_us]
    have e87 : x87 n r2 q2 = (1, r2, q2) := by
      unfold x87
      rw [if_neg (show ¬ r2 145 n = -1 by rw [e145]; exact n3)]
    rw [xrw s1, xrw s2, e87, xWJ1]
    refine xJend hT2 (by omega) (((hQ.k (a := 145) (v := nI j) (Or.inr (Or.inr rfl))).tok (q := q1) (q1 := q1) xFk.refl f136).tok fk (xFm9.m fm)) ?_ (fun _ => ?_) (fun _ => ?_) ?_ ((hk.set (k := 145) (by decide)).k fk) ((hm.m f136).m (xFm9.m fm))
    · rw [fk.1 143 rfl, fm.1 26 rfl]; exact h1.trans h2.symm
    · rw [fk.1 144 rfl, fm.1 27 rfl]; exact h3
    · rw [e145, fm.1 136 rfl]; rfl
    · have h144 : r2 144 n = r1 144 n := by rw [fk.1 144 rfl]; rfl
      have h143 : r2 143 n = 0 := by rw [fk.1 143 rfl]; exact h1
      rw [e145, h143, h144]
      exact ⟨Or.inl rfl, fun _ => h4, fun _ => ⟨j, hj6, rfl⟩, fun h9 => absurd h9 (by decide)⟩
end XJL
