/-! ===== the two readers of an E, side by side ===== -/
def xEnd (lev w : Nat) (r rm : zRr) : Prop := (1 ≤ lev → ¬ r 196 4 = nI 27) ∧ (2 ≤ lev → ¬ r 196 4 = nI 25 ∧ ¬ r 196 4 = nI 26) ∧ (3 ≤ lev → rm 14 w = 0 → ¬ r 196 4 = nI 23 ∧ ¬ r 196 4 = nI 24) ∧ (4 ≤ lev → ¬ r 196 4 = nI 19 ∧ ¬ r 196 4 = nI 20)
/-- what comes out on both sides: the same fault; or an E, and the reference goes on behind it -/
def xEo (L b w d c lev z zF : Nat) (C0 F0 : List Int32) (r : zRr) (q : zRq) (rm : zRr) (qm : zRq) (o om : Int32 × zRr × zRq) : Prop :=
  xFe r q o.2.1 o.2.2 ∧
  ((o.1 = 0 ∧ om.1 = 0 ∧ o.2.1 196 7 = om.2.1 109 0 ∧ xRl rm qm om.2.1 om.2.2) ∨
   (o.1 = 1 ∧ ∃ b' e' n' rm1 qm1 CE FE, om = Gm_reads_11 n' (nI d) 0 rm1 qm1 ∧ b ≤ b' ∧ 1001 < n' + b' ∧ xTok L b' e' o.2.1 o.2.2 rm1 qm1 ∧ xRl rm qm rm1 qm1 ∧ xRf w c rm rm1 ∧ xEq lev (5 - w) CE FE ∧ xCod (C0 ++ CE) (F0 ++ FE) o.2.1 rm1 ∧ CE.length + b ≤ b' + z ∧ FE.length + b ≤ b' + zF ∧ xEnd lev w o.2.1 rm1))
theorem xEo.pre {L b b1 w d c lev z zF z1 zF1 : Nat} {C0 F0 : List Int32} {r r1 : zRr} {q q1 : zRq} {rm rm1 : zRr} {qm qm1 : zRq} {o om : Int32 × zRr × zRq} (hb : b ≤ b1) (hz : z1 + b ≤ z + b1 ∧ zF1 + b ≤ zF + b1) (hk : xFe r q r1 q1) (hm : xRl rm qm rm1 qm1) (hf : xRf w c rm rm1) (h : xEo L b1 w d c lev z1 zF1 C0 F0 r1 q1 rm1 qm1 o om) : xEo L b w d c lev z zF C0 F0 r q rm qm o om := by
  obtain ⟨h1, h2⟩ := h
  refine ⟨hk.tr h1, ?_⟩
  rcases h2 with ⟨a1, a2, a3, a4⟩ | ⟨a0, b', e', n', rm2, qm2, CE, FE, a1, a2, a3, a4, a5, a6, a7, a8, a9, a10, a11⟩
  · exact Or.inl ⟨a1, a2, a3, hm.tr a4⟩
  · exact Or.inr ⟨a0, b', e', n', rm2, qm2, CE, FE, a1, by omega, a3, a4, hm.tr a5, hf.tr a6, a7, a8, by omega, by omega, a11⟩
theorem xEo.bad {L b e w d c lev z zF : Nat} {C0 F0 : List Int32} {r : zRr} {q : zRq} {rm : zRr} {qm : zRq} (h : xTok L b e r q rm qm) (k : Int32) : xEo L b w d c lev z zF C0 F0 r q rm qm (0, (Gk_wrong k r q).2, q) (0, (Gm_fails k rm qm).2, qm) := by
  obtain ⟨r1, rm1, h1, h2, h3, h4, h5⟩ := h.fails k
  rw [h1, h2]
  exact ⟨⟨h4.up rfl, xFq.refl⟩, Or.inl ⟨rfl, rfl, h3, xRl.of h5 rfl⟩⟩
/-- a reader of the class, at the level w: from a token on, beside the reference's -/
def xSim (lev w c : Nat) (K : zRr → zRq → Int32 × zRr × zRq) : Prop :=
  ∀ (L b e n : Nat) (r : zRr) (q : zRq) (rm : zRr) (qm : zRq) (C F : List Int32), xTok L b e r q rm qm → xCod C F r rm → C.length ≤ b → F.length ≤ b → 1001 < n + b → xbs (rm 13) w = w → (3 ≤ lev → rm 14 w = 0) → xEo L b w w c lev 0 0 C F r q rm qm (K r q) (Gm_reads_11 n (nI w) 1 rm qm)
def xSimP (w : Nat) (K : zRr → zRq → Int32 × zRr × zRq) : Prop :=
  ∀ (L b e n : Nat) (r : zRr) (q : zRq) (rm : zRr) (qm : zRq) (C F : List Int32), xTok L b e r q rm qm → xCod C F r rm → C.length ≤ b → F.length ≤ b → 1001 < n + b → xEo L b w (xbs (rm 13) w) (w + 1) 0 0 0 C F r q rm qm (K r q) (Gm_reads_11 n (nI w) 1 rm qm)
theorem xSimP.s {w : Nat} {K : zRr → zRq → Int32 × zRr × zRq} (h : xSimP w K) : xSim 0 w (w + 1) K := by
  intro L b e n r q rm qm C F h1 h2 h3 h4 h5 h6 _
  have := h L b e n r q rm qm C F h1 h2 h3 h4 h5
  rw [h6] at this
  exact this
/-- which sign between two: 1: *, 2: + -, 4: and or -/
def xJ (lev s : Nat) : Option Nat := if lev = 1 then (if s = 27 then some 6 else none) else if lev = 2 then (if s = 25 then some 4 else if s = 26 then some 5 else none) else (if s = 19 then some 0 else if s = 20 then some 1 else none)
noncomputable def xpre (lev k w : Nat) (rm : zRr) (qm : zRq) : zRr := if lev = 4 then zset (Gm_puts (xom k) rm qm) 14 (upd (Gm_puts (xom k) rm qm 14) w 0) else Gm_puts (xom k) rm qm
theorem xhJ {L b e n lev s k w : Nat} {r : zRr} {q : zRq} {rm : zRr} {qm : zRq} (h : xTok L b e r q rm qm) (hlev : lev = 1 ∨ lev = 2 ∨ lev = 4) (hs : r 196 4 = nI s) (hj : xJ lev s = some k) (hw : w ≤ 5) : Gm_reads_11 (n + 1) (nI w) 0 rm qm = xNx n (nI w) 1 (xpre lev k w rm qm) qm := by
  unfold xJ at hj
  unfold xpre
  rcases hlev with rfl | rfl | rfl
  · rw [if_pos rfl] at hj
    rw [if_neg (by decide)]
    by_cases h1 : s = 27
    · rw [if_pos h1] at hj; cases hj; subst h1; exact xhOp h (k := 6) (by omega) hs
    · rw [if_neg h1] at hj; cases hj
  · rw [if_neg (by decide), if_pos rfl] at hj
    rw [if_neg (by decide)]
    by_cases h1 : s = 25
    · rw [if_pos h1] at hj; cases hj; subst h1; exact xhOp h (k := 4) (by omega) hs
    · rw [if_neg h1] at hj
      by_cases h2 : s = 26
      · rw [if_pos h2] at hj; cases hj; subst h2; exact xhOp h (k := 5) (by omega) hs
      · rw [if_neg h2] at hj; cases hj
  · rw [if_neg (by decide), if_neg (by decide)] at hj
    rw [if_pos rfl]
    have ez : zn (nI w) = w := xzn (by omega)
    by_cases h1 : s = 19
    · rw [if_pos h1] at hj; cases hj; subst h1
      have := xhJoin (n := n) (d := nI w) h (k := 0) (by omega) hs
      rw [ez] at this; exact this
    · rw [if_neg h1] at hj
      by_cases h2 : s = 20
      · rw [if_pos h2] at hj; cases hj; subst h2
        have := xhJoin (n := n) (d := nI w) h (k := 1) (by omega) hs
        rw [ez] at this; exact this
      · rw [if_neg h2] at hj; cases hj
theorem xpre_ok {lev k w c : Nat} {C F : List Int32} {r rm : zRr} {qm : zRq} (h : xCod C F r rm) (hl : F.length < 1000) (hc : (lev = 4 → c = w)) : xCod C (F ++ [xom k]) r (xpre lev k w rm qm) ∧ zFr [12, 14, 122] rm (xpre lev k w rm qm) ∧ (∀ j, j < 1000 → xpre lev k w rm qm 12 j = rm 12 j) ∧ xRf w c rm (xpre lev k w rm qm) ∧ (lev = 4 → xpre lev k w rm qm 14 w = 0) := by
  obtain ⟨h1, h2, h3⟩ := xputs (a := xom k) (qm := qm) h hl
  unfold xpre
  by_cases h4 : lev = 4
  · rw [if_pos h4]
    refine ⟨⟨h1.c1, h1.c2, h1.f1, h1.f2⟩, (h2.up rfl).set rfl, h3, ⟨fun j _ => ?_, fun j hj => ?_⟩, fun _ => pk_us⟩
    · show Gm_puts (xom k) rm qm 13 j = _
      rw [h2 13 rfl]
    · show upd (Gm_puts (xom k) rm qm 14) w 0 j = _
      rw [pk_un (by rw [hc h4] at hj; omega), h2 14 rfl]
  · rw [if_neg h4]
    exact ⟨h1, h2.up rfl, h3, ⟨fun j _ => by rw [h2 13 rfl], fun j _ => by rw [h2 14 rfl]⟩, fun h => absurd h h4⟩
theorem xTok.pre {L b e : Nat} {r : zRr} {q : zRq} {rm rm1 : zRr} {qm : zRq} (h : xTok L b e r q rm qm) {M : List Nat} (hf : zFr M rm rm1) (hM : (M.all (fun k => [12, 13, 14, 109, 122, 136].contains k)) = true) : xTok L b e r q rm1 qm := by
  have k : ∀ a, [12, 13, 14, 109, 122, 136].contains a = false → rm1 a = rm a := fun a ha => hf a (by
    cases e : M.contains a with
    | false => rfl
    | true => have := List.all_eq_true.mp hM a (List.contains_iff_mem.mp e); rw [ha] at this; cases this)
  exact h.row rfl rfl rfl (k 0 rfl) (k 103 rfl) (k 104 rfl) (k 105 rfl) (k 106 rfl) (k 108 rfl) rfl
theorem xJ_lt {lev s k : Nat} (hlev : lev = 1 ∨ lev = 2 ∨ lev = 4) (h : xJ lev s = some k) : s < 31 ∧ ((k = 6 ∧ lev = 1 ∧ lev = 1 ∧ lev - 1 = 0) ∨ ((k = 4 ∨ k = 5) ∧ lev = 2 ∧ lev = 2 ∧ lev - 1 = 1) ∨ ((k = 2 ∨ k = 3) ∧ lev = 3 ∧ lev = 2 ∧ lev - 1 = 2) ∨ ((k = 0 ∨ k = 1) ∧ lev = 4 ∧ lev = 4 ∧ lev - 1 = 3)) := by
  unfold xJ at h
  rcases hlev with rfl | rfl | rfl
  · rw [if_pos rfl] at h
    by_cases h1 : s = 27
    · rw [if_pos h1] at h; cases h; omega
    · rw [if_neg h1] at h; cases h
  · rw [if_neg (by decide), if_pos rfl] at h
    by_cases h1 : s = 25
    · rw [if_pos h1] at h; cases h; omega
    · rw [if_neg h1] at h
      by_cases h2 : s = 26
      · rw [if_pos h2] at h; cases h; omega
      · rw [if_neg h2] at h; cases h
  · rw [if_neg (by decide), if_neg (by decide)] at h
    by_cases h1 : s = 19
    · rw [if_pos h1] at h; cases h; omega
    · rw [if_neg h1] at h
      by_cases h2 : s = 20
      · rw [if_pos h2] at h; cases h; omega
      · rw [if_neg h2] at h; cases h
theorem xEnd.none {lev w s : Nat} {r rm : zRr} (hlev : lev = 1 ∨ lev = 2 ∨ lev = 4) (h : xEnd (lev - 1) w r rm) (hs : r 196 4 = nI s) (h32 : s ≤ 32) (hj : xJ lev s = none) : xEnd lev w r rm := by
  unfold xJ at hj
  obtain ⟨a1, a2, a3, a4⟩ := h
  rcases hlev with rfl | rfl | rfl
  · rw [if_pos rfl] at hj
    refine ⟨fun _ => xne hs ?_ (by omega) (by omega), fun h => by omega, fun h => by omega, fun h => by omega⟩
    intro h1; rw [if_pos h1] at hj; cases hj
  · rw [if_neg (by decide), if_pos rfl] at hj
    refine ⟨fun _ => a1 (by decide), fun _ => ⟨xne hs ?_ (by omega) (by omega), xne hs ?_ (by omega) (by omega)⟩, fun h => by omega, fun h => by omega⟩
    · intro h1; rw [if_pos h1] at hj; cases hj
    · intro h1
      by_cases h2 : s = 25
      · omega
      · rw [if_neg h2, if_pos h1] at hj; cases hj
  · rw [if_neg (by decide), if_neg (by decide)] at hj
    refine ⟨fun _ => a1 (by decide), fun _ => a2 (by decide), fun _ => a3 (by decide), fun _ => ⟨xne hs ?_ (by omega) (by omega), xne hs ?_ (by omega) (by omega)⟩⟩
    · intro h1; rw [if_pos h1] at hj; cases hj
    · intro h1
      by_cases h2 : s = 19
      · omega
      · rw [if_neg h2, if_pos h1] at hj; cases hj
theorem xrw {α : Type} {p : zRr × zRq} {r : zRr} {q : zRq} {K : zRr → zRq → α} (h : p = (r, q)) : zc_rq p K = K r q := by rw [h]; rfl
/-- the loop over such signs -/
theorem xloop {lev w c : Nat} (hlev : lev = 1 ∨ lev = 2 ∨ lev = 4) (hw : w ≤ 5) (hc : lev = 4 → c = w) {K : zRr → zRq → Int32 × zRr × zRq} (hK : xSim (lev - 1) w c K) {loop : Nat → Int32 → zRr → zRq → Int32 × zRr × zRq}
    (hl0 : ∀ m i r q, (1000 ≤ i ∧ i ≤ 1001) → loop (m + 1) (nI i) r q = (1, r, q))
    (hln : ∀ m i s r q, i < 1000 → r 196 4 = nI s → s ≤ 32 → xJ lev s = none → loop (m + 1) (nI i) r q = (1, r, q))
    (hls : ∀ m i s k r q, i < 1000 → r 196 4 = nI s → s ≤ 32 → xJ lev s = some k → loop (m + 1) (nI i) r q = zc_rq (Gk_step r q) (fun r7 q8 => zc_vrq (K r7 q8) (fun v r11 q12 => zifn (v = 0) (loop m (nI (i + 1)) (Gk_add (xok k) r11 q12) q12) (0, r11, q12)))) :
    ∀ (m i L b e n : Nat) (r : zRr) (q : zRq) (rm : zRr) (qm : zRq) (C0 F0 CE FE : List Int32), xTok L b e r q rm qm → xCod (C0 ++ CE) (F0 ++ FE) r rm → (C0 ++ CE).length ≤ b → (F0 ++ FE).length ≤ b → 1001 < n + b → m + i = 1001 → i ≤ b → xbs (rm 13) w = w → xEq lev (5 - w) CE FE → xEnd (lev - 1) w r rm → xEo L b w w c lev CE.length FE.length C0 F0 r q rm qm (loop m (nI i) r q) (Gm_reads_11 n (nI w) 0 rm qm) := by
  intro m
  induction m with
  | zero =>
    intro i L b e n r q rm qm C0 F0 CE FE hT hC hCl hFl hn hm hi hbs hE hEnd
    have := hT.P.hp; have := hT.P.hL; have := hT.hb
    omega
  | succ m ih =>
    intro i L b e n r q rm qm C0 F0 CE FE hT hC hCl hFl hn hm hi hbs hE hEnd
    have hp := hT.P.hp; have hL := hT.P.hL; have hb := hT.hb
    obtain ⟨s, hs32, hs⟩ := hT.sort_lt
    have stop : xJ lev s = none → xEo L b w w c lev CE.length FE.length C0 F0 r q rm qm (1, r, q) (Gm_reads_11 n (nI w) 0 rm qm) := fun hj =>
      ⟨xFe.refl, Or.inr ⟨rfl, b, e, n, rm, qm, CE, FE, rfl, Nat.le_refl _, hn, hT, xRl.refl, xRf.refl, hE, hC, by omega, by omega, hEnd.none hlev hs hs32 hj⟩⟩
    by_cases hi1 : 1000 ≤ i
    · rw [hl0 m i r q ⟨hi1, by omega⟩]
      apply stop
      have h31 : r 196 4 = 31 := by
        apply Classical.byContradiction
        intro h9
        have := hT.lt h9
        omega
      have e31 : s = 31 := (nI_eq (by omega) (by omega)).mp (hs.symm.trans h31)
      cases hj : xJ lev s with
      | none => rfl
      | some k => have := (xJ_lt hlev hj).1; omega
    · cases hj : xJ lev s with
      | none => rw [hln m i s r q (by omega) hs hs32 hj]; exact stop hj
      | some k =>
        have hk := xJ_lt hlev hj
        have hlt : b < e := hT.lt (by rw [hs]; intro h9; have := (nI_eq (b := 31) (by omega) (by omega)).mp h9; omega)
        obtain ⟨n0, rfl⟩ : ∃ n0, n = n0 + 1 := ⟨n - 1, by omega⟩
        have hF1 : (F0 ++ FE).length < 1000 := by omega
        obtain ⟨p1, p2, p3, p4, p5⟩ := xpre_ok (lev := lev) (k := k) (w := w) (c := c) (qm := qm) hC hF1 hc
        rw [hls m i s k r q (by omega) hs hs32 hj, xhJ hT hlev hs hj hw]
        generalize xpre lev k w rm qm = rmp at p1 p2 p3 p4 p5 ⊢
        have hT1 := hT.pre (rm1 := rmp) p2 (by decide)
        obtain ⟨b1, e1, r7, q8, rm7, qm8, s1, s2, hT7, hb1, fk, fm⟩ := hT1.next
        unfold xNx
        rw [xrw s1, xrw s2]
        have hC7 : xCod (C0 ++ CE) (F0 ++ FE ++ [xom k]) r7 rm7 := p1.row (fk.1 192 rfl) (fk.1 193 rfl) (fm.1 122 rfl) (fm.1 12 rfl)
        have f13 : rm7 13 = rmp 13 := fm.1 13 rfl
        have f14 : rm7 14 = rmp 14 := fm.1 14 rfl
        have hbs7 : xbs (rm7 13) w = w := by rw [f13, xbs_c w (fun j hj => p4.1 j hj)]; exact hbs
        have h := hK L b1 e1 n0 r7 q8 rm7 qm8 (C0 ++ CE) (F0 ++ FE ++ [xom k]) hT7 hC7 (by omega) (by rw [List.length_append]; show _ + 1 ≤ _; omega) (by omega) hbs7 (fun h3 => by rw [f14]; exact p5 (by omega))
        have FK : xFe r q r7 q8 := xFe.k fk
        have FM : xRl rm qm rm7 qm8 := (show xRl rm qm rmp qm from ⟨p2.up rfl, xFq.refl, p3⟩).tr (xRl.m fm)
        have FF : xRf w c rm rm7 := p4.tr (xRf.row f13 f14)
        generalize K r7 q8 = o at h ⊢
        obtain ⟨v, r11, q12⟩ := o
        obtain ⟨hfe, h⟩ := h
        rcases h with ⟨a1, a2, a3, a4⟩ | ⟨a0, b', e', n', rm1, qm1, CE2, FE2, a1, a2, a3, a4, a5, a6, a7, a8, a9, a10, a11⟩
        · have a1 : v = 0 := a1
          rw [show zc_vrq (v, r11, q12) (fun v r11 q12 => zifn (v = 0) (loop m (nI (i + 1)) (Gk_add (xok k) r11 q12) q12) ((0 : Int32), r11, q12)) = (0, r11, q12) from if_pos a1]
          exact ⟨FK.tr hfe, Or.inl ⟨rfl, a2, a3, FM.tr a4⟩⟩
        · have a0 : v = 1 := a0
          rw [show zc_vrq (v, r11, q12) (fun v r11 q12 => zifn (v = 0) (loop m (nI (i + 1)) (Gk_add (xok k) r11 q12) q12) ((0 : Int32), r11, q12)) = loop m (nI (i + 1)) (Gk_add (xok k) r11 q12) q12 from if_neg (fun h9 => absurd (a0.symm.trans h9) (by decide)), a1]
          have hp' := a4.P.hp; have hb' := a4.hb
          have len2 : (C0 ++ CE ++ CE2).length = (C0 ++ CE).length + CE2.length := List.length_append
          obtain ⟨d1, d2⟩ := xadd (a := xok k) (q := q12) a8 (by omega)
          generalize Gk_add (xok k) r11 q12 = r12 at d1 d2 ⊢
          have hT12 : xTok L b' e' r12 q12 rm1 qm1 := a4.row (d2 196 rfl) (d2 197 rfl) rfl rfl rfl rfl rfl rfl rfl rfl
          have eC : C0 ++ CE ++ CE2 ++ [xok k] = C0 ++ (CE ++ CE2 ++ [xok k]) := by simp only [List.append_assoc]
          have eF : F0 ++ FE ++ [xom k] ++ FE2 = F0 ++ (FE ++ xom k :: FE2) := by simp only [List.append_assoc, List.singleton_append]
          rw [eC, eF] at d1
          have lC : (C0 ++ (CE ++ CE2 ++ [xok k])).length = (C0 ++ CE).length + CE2.length + 1 := by rw [← eC, List.length_append, len2]; rfl
          have lF : (F0 ++ (FE ++ xom k :: FE2)).length = (F0 ++ FE).length + 1 + FE2.length := by rw [← eF]; simp only [List.length_append, List.length_cons, List.length_nil]
          have lC2 : (CE ++ CE2 ++ [xok k]).length = CE.length + CE2.length + 1 := by simp only [List.length_append, List.length_cons, List.length_nil]
          have lF2 : (FE ++ xom k :: FE2).length = FE.length + 1 + FE2.length := by simp only [List.length_append, List.length_cons]; omega
          have hE2 : xEq lev (5 - w) (CE ++ CE2 ++ [xok k]) (FE ++ xom k :: FE2) := xEq.bin (l1 := lev) (l2 := lev - 1) (by have := hk.2; omega) hE a7
          have hEnd2 : xEnd (lev - 1) w r12 rm1 := by
            unfold xEnd at a11 ⊢
            rw [d2 196 rfl]; exact a11
          have hbs1 : xbs (rm1 13) w = w := by rw [xbs_c w (fun j hj => a6.1 j hj)]; exact hbs7
          have h2 := ih (i + 1) L b' e' n' r12 q12 rm1 qm1 C0 F0 (CE ++ CE2 ++ [xok k]) (FE ++ xom k :: FE2) hT12 d1 (by omega) (by omega) a3 (by omega) (by omega) hbs1 hE2 hEnd2
          exact h2.pre (by omega) (by omega) ((FK.tr hfe).tr (xFe.of d2 rfl)) (FM.tr a5) (FF.tr a6)
theorem xlevel {lev w c : Nat} (hlev : lev = 1 ∨ lev = 2 ∨ lev = 4) (hw : w ≤ 5) (hc : lev = 4 → c = w) {K K' : zRr → zRq → Int32 × zRr × zRq} (hK : xSim (lev - 1) w c K) {loop : Nat → Int32 → zRr → zRq → Int32 × zRr × zRq}
    (hl0 : ∀ m i r q, (1000 ≤ i ∧ i ≤ 1001) → loop (m + 1) (nI i) r q = (1, r, q))
    (hln : ∀ m i s r q, i < 1000 → r 196 4 = nI s → s ≤ 32 → xJ lev s = none → loop (m + 1) (nI i) r q = (1, r, q))
    (hls : ∀ m i s k r q, i < 1000 → r 196 4 = nI s → s ≤ 32 → xJ lev s = some k → loop (m + 1) (nI i) r q = zc_rq (Gk_step r q) (fun r7 q8 => zc_vrq (K r7 q8) (fun v r11 q12 => zifn (v = 0) (loop m (nI (i + 1)) (Gk_add (xok k) r11 q12) q12) (0, r11, q12))))
    (hK' : ∀ r q, K' r q = zc_vrq (K r q) (fun v r1 q1 => zifn (v = 0) (loop 1001 (nI 0) r1 q1) (0, r1, q1))) : xSim lev w c K' := by
  intro L b e n r q rm qm C F hT hC hCl hFl hn hbs h3
  have h := hK L b e n r q rm qm C F hT hC hCl hFl hn hbs (fun h9 => h3 (by omega))
  rw [hK']
  generalize K r q = o at h ⊢
  obtain ⟨v, r11, q12⟩ := o
  obtain ⟨hfe, h⟩ := h
  rcases h with ⟨a1, a2, a3, a4⟩ | ⟨a0, b', e', n', rm1, qm1, CE2, FE2, a1, a2, a3, a4, a5, a6, a7, a8, a9, a10, a11⟩
  · have a1 : v = 0 := a1
    rw [show zc_vrq (v, r11, q12) (fun v r1 q1 => zifn (v = 0) (loop 1001 (nI 0) r1 q1) ((0 : Int32), r1, q1)) = (0, r11, q12) from if_pos a1]
    exact ⟨hfe, Or.inl ⟨rfl, a2, a3, a4⟩⟩
  · have a0 : v = 1 := a0
    rw [show zc_vrq (v, r11, q12) (fun v r1 q1 => zifn (v = 0) (loop 1001 (nI 0) r1 q1) ((0 : Int32), r1, q1)) = loop 1001 (nI 0) r11 q12 from if_neg (fun h9 => absurd (a0.symm.trans h9) (by decide)), a1]
    have hp' := a4.P.hp; have hb' := a4.hb; have hL := a4.P.hL
    have hbs1 : xbs (rm1 13) w = w := by rw [xbs_c w (fun j hj => a6.1 j hj)]; exact hbs
    have len2 : (C ++ CE2).length = C.length + CE2.length := List.length_append
    have lenF : (F ++ FE2).length = F.length + FE2.length := List.length_append
    have hup : xEq lev (5 - w) CE2 FE2 := by
      have := a7.up
      rw [show lev - 1 + 1 = lev by omega] at this
      exact this
    have h2 := xloop hlev hw hc hK hl0 hln hls 1001 0 L b' e' n' r11 q12 rm1 qm1 C F CE2 FE2 a4 a8 (by omega) (by omega) a3 (by omega) (by omega) hbs1 hup a11
    exact h2.pre a2 (by omega) hfe a5 a6
