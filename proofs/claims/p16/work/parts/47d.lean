theorem zall4 {f g : Nat → Option Nat} (h0 : f 0 = g 0) (h1 : f 1 = g 1) (h2 : f 2 = g 2) (h3 : f 3 = g 3) : ∀ j, j < 4 → f j = g j := by
  intro j hj
  rcases (show j = 0 ∨ j = 1 ∨ j = 2 ∨ j = 3 by omega) with rfl | rfl | rfl | rfl <;> assumption
/-! ===== BeardPass(): the world as kW has it ===== -/
theorem vcongr {cA : ClassId} {n : Nat} {f g : Nat → Option Nat} (h : ∀ j, j < n → f j = g j) : vp_cell cA (n, .inr (.inr (.inr (.inr f)))) = vp_cell cA (n, .inr (.inr (.inr (.inr g)))) := by
  show arrV cA n (fun j => va_rf (f j)) = arrV cA n (fun j => va_rf (g j))
  unfold arrV
  congr 2
  funext j
  show va_rf (f j.val) = va_rf (g j.val)
  rw [h j.val j.isLt]
theorem zDD {A : Nat → Prop} {ws ws' : va_W} (hf : ws'.map Prod.fst = ws.map Prod.fst) (hw : va_D A ws) : va_D A ws' := by
  have get : ∀ (k : Nat) (x : Nat × va_E), ws'[k]? = some x → ∃ x', ws[k]? = some x' ∧ x'.1 = x.1 := by
    intro k x hx
    have h9 := congrArg (fun l : List Nat => l[k]?) hf
    simp only [List.getElem?_map, hx, Option.map_some] at h9
    cases h8 : ws[k]? with
    | none => rw [h8] at h9; cases h9
    | some x' => rw [h8] at h9; exact ⟨x', rfl, (Option.some.inj h9).symm⟩
  refine ⟨fun i j a b ha hb e9 => ?_, fun k x hx => ?_⟩
  · obtain ⟨a', h1, h3⟩ := get i a ha
    obtain ⟨b', h4, h5⟩ := get j b hb
    exact hw.1 i j a' b' h1 h4 (by rw [h3, h5]; exact e9)
  · obtain ⟨x', h1, h3⟩ := get k x hx
    rw [← h3]
    exact hw.2 k x' h1
theorem kWof {D : va_G} {A : Nat → Prop} {H : Heap} {ct : Nat → ClassId} {E y : Nat → Nat} {r : zRr} {q : zRq} {a b : Nat} {f g : Nat → Option Nat} (ea : a = y 205) (eb : b = y 206) (h16 : ∀ j, j < 16 → f j = some (y (6 * j + 18))) (h4 : ∀ j, j < 4 → g j = some (y (167 + j))) (hw : zPD D A (((kW ct E y r q).set 205 (knF ct a f)).set 206 (knG ct b g)) H) : zPD D A (kW ct E y r q) H := by
  subst ea eb
  have l205 : 205 < (kW ct E y r q).length := by rw [kWlen]; decide
  have l206 : 206 < ((kW ct E y r q).set 205 (knF ct (y 205) f)).length := by rw [List.length_set, kWlen]; decide
  refine ⟨fun k x hx => ?_, zDD ?_ hw.2⟩
  · by_cases k5 : k = 205
    · subst k5
      rw [kg205] at hx
      cases hx
      have h9 := hw.1 205 (knF ct (y 205) f) (by rw [List.getElem?_set_ne (by decide), List.getElem?_set_self l205])
      show H[y 205]? = some (vp_cell (ct 4) (16, .inr (.inr (.inr (.inr (fun j => some (y (6 * j + 18))))))))
      rw [← vcongr h16]; exact h9
    by_cases k6 : k = 206
    · subst k6
      rw [kg206] at hx
      cases hx
      have h9 := hw.1 206 (knG ct (y 206) g) (by rw [List.getElem?_set_self l206])
      show H[y 206]? = some (vp_cell (ct 5) (4, .inr (.inr (.inr (.inr (fun j => some (y (167 + j))))))))
      rw [← vcongr h4]; exact h9
    · exact hw.1 k x (by rw [List.getElem?_set_ne (by omega), List.getElem?_set_ne (by omega)]; exact hx)
  · have e1 : ((kW ct E y r q).set 205 (knF ct (y 205) f)).map Prod.fst = (kW ct E y r q).map Prod.fst := zfset kg205 rfl
    have e2 : (((kW ct E y r q).set 205 (knF ct (y 205) f)).set 206 (knG ct (y 206) g)).map Prod.fst = ((kW ct E y r q).set 205 (knF ct (y 205) f)).map Prod.fst := zfset (x := (y 206, .inl (ct 5, 4, .inr (.inr (.inr (.inr (fun j => some (y (167 + j))))))))) (by rw [List.getElem?_set_ne (by decide)]; exact kg206) rfl
    exact (e2.trans e1).symm
theorem kJ0 : kJ kR0 := by
  have h0 : ∀ n j : Nat, zI (klo n j) (khi n j) 0 := by
    intro n j
    have e0 : (0 : Int32).toInt = 0 := by decide
    constructor
    · rw [e0]; unfold klo; repeat' split
      all_goals decide
    · rw [e0]; unfold khi; repeat' split
      all_goals decide
  have hI : kI kR0 := by
    intro n j
    unfold kR0
    by_cases h1 : n = 171 ∨ n = 183
    · rw [if_pos h1]
      by_cases j11 : j = 11
      · subst j11; rcases h1 with rfl | rfl <;> exact zI.top _
      by_cases j12 : j = 12
      · subst j12; rcases h1 with rfl | rfl <;> exact zI.top _
      show zI _ _ (if j = 11 then 1 else if j = 12 then 2 else 0)
      rw [if_neg j11, if_neg j12]; exact h0 n j
    rw [if_neg h1]
    by_cases h2 : n = 180 ∨ n = 192
    · rw [if_pos h2]
      by_cases j2 : j = 2
      · subst j2
        rcases h2 with rfl | rfl
        · exact (show zI 0 1000 (nI (0 + 1 + 1 + 1 + 1)) from ⟨by decide, by decide⟩)
        · exact (show zI 0 1000 (nI (0 + 1 + 1 + 1 + 1)) from ⟨by decide, by decide⟩)
      show zI _ _ (if j = 2 then _ else 0)
      rw [if_neg j2]; exact h0 n j
    rw [if_neg h2]
    by_cases h3 : n = 181 ∨ n = 193
    · rw [if_pos h3]
      rcases h3 with rfl | rfl <;> exact zI.top _
    rw [if_neg h3]
    by_cases h4 : 162 ≤ n ∧ n < 167
    · rw [if_pos h4]
      have e1 : klo n j = -2147483648 := by unfold klo; rw [if_neg (by omega), if_neg (by omega), if_pos (by omega)]
      have e2 : khi n j = 2147483647 := by unfold khi; rw [if_neg (by omega), if_neg (by omega), if_pos (by omega)]
      rw [e1, e2]; exact zI.top _
    rw [if_neg h4]
    by_cases h5 : n = 196
    · rw [if_pos h5]
      subst h5
      by_cases j4 : j = 4
      · subst j4; exact (show zI 0 32 (31 : Int32) from ⟨by decide, by decide⟩)
      show zI _ _ (if j = 4 then 31 else 0)
      rw [if_neg j4]; exact h0 196 j
    rw [if_neg h5]; exact h0 n j
  refine ⟨hI, ?_, ?_, ?_, ?_, ?_, ?_, ?_⟩
  · intro j hj; exact (show zI 0 5 (0 : Int32) from ⟨by decide, by decide⟩)
  · intro j hj; exact (show zI 0 5 (0 : Int32) from ⟨by decide, by decide⟩)
  all_goals (intro j _; exact (show zI 0 5 (0 : Int32) from ⟨by decide, by decide⟩))
set_option maxHeartbeats 40000000 in
set_option maxRecDepth 200000 in
theorem k_X11_init (l : Launch) (D : va_G) (ct : Nat → ClassId) (h0 : Nat) (E : Nat → Nat) : zC l yX11_init wsX11_init knR D ct [("END", E 31)] [.ref h0] [(h0, .inr (10, [.null, .null, .null, .null, .null, .null, .null, .null, .null, .null, .null, .null, .null, .int 0, .int 0]))] (S := Nat → Nat) (fun _ => none) (fun u => u 195 = h0) (fun u => kW ct E u kR0 kQ0) 206 4911 := by
  refine zofW cX11_init 2 none (by decide) rfl (Nat.le_of_ble_eq_true rfl) ?_
  intro p e s m below meth c A hx hb hr hml hts hown hlocks hname hK hA hZ hN H locs hw hS ls hl
  have hl : lv_has ls 2 [(0, .ref h0)] := hl
  refine kn_A hx hb hml hown hts hname hK hA hZ hN (fun yb H locs ls hw hS hl => ?_) H locs ls hw hS hl
  refine kn_pasts hx hb hml hown hts hK hA hN 61 (by decide) (wsB := knB ct (E 31) h0 yb (fun _ => none) (fun _ => none)) (aP := yb 205) rfl rfl rfl (fun f yp H locs ls hf hw hS hl => ?_) 16 0 rfl (fun _ => none) (fun _ => 0) H locs ls (fun j hj => absurd hj (Nat.not_lt_zero _)) hw hS hl
  refine lv_iload_n hx hb dX11_init_166 rfl (lv_at hl 0 rfl) ?_
  refine lv_bipush (v := 16) hx hb dX11_init_167 (by decide) ?_
  refine lv_icmp_ge (tgt := 191) hx hb dX11_init_169 (by decide) (fun _ => ?_) (fun h => absurd (by decide) h)
  refine lv_iconst (v := 0) hx hb dX11_init_191 (by decide) ?_
  refine lv_istore_n (lv' := [(1, .int 0), (0, .ref h0)]) hx hb dX11_init_192 rfl hl (by decide) rfl (fun ls hl => ?_)
  obtain ⟨Ps, hPs⟩ : ∃ Ps, Ps = (List.range' 18 96).map (knS ct yp) := ⟨_, rfl⟩
  rw [← hPs] at hw
  have hw : zPD D A (knB ct (E 31) h0 yb f (fun _ => none) ++ Ps) H := hw
  refine kn_mark hx hb hml hown hts hK hA hN 0 62 (by decide) (aP := yb 206) rfl rfl rfl (by decide) (by decide) hw hS hl (fun q0 u0 H locs ls hw hS hl => ?_)
  have hw : zPD D A (knB ct (E 31) h0 yb f (va_up (fun _ => none) 0 (some q0)) ++ (Ps ++ knMrk ct q0 u0)) H := hw
  refine kn_mark hx hb hml hown hts hK hA hN 1 62 (by decide) (aP := yb 206) rfl rfl rfl (by decide) (by decide) hw hS hl (fun q1 u1 H locs ls hw hS hl => ?_)
  have hw : zPD D A (knB ct (E 31) h0 yb f (va_up (va_up (fun _ => none) 0 (some q0)) 1 (some q1)) ++ ((Ps ++ knMrk ct q0 u0) ++ knMrk ct q1 u1)) H := hw
  refine kn_mark hx hb hml hown hts hK hA hN 2 62 (by decide) (aP := yb 206) rfl rfl rfl (by decide) (by decide) hw hS hl (fun q2 u2 H locs ls hw hS hl => ?_)
  have hw : zPD D A (knB ct (E 31) h0 yb f (va_up (va_up (va_up (fun _ => none) 0 (some q0)) 1 (some q1)) 2 (some q2)) ++ (((Ps ++ knMrk ct q0 u0) ++ knMrk ct q1 u1) ++ knMrk ct q2 u2)) H := hw
  refine kn_mark hx hb hml hown hts hK hA hN 3 62 (by decide) (aP := yb 206) rfl rfl rfl (by decide) (by decide) hw hS hl (fun q3 u3 H locs ls hw hS hl => ?_)
  have hw : zPD D A (knB ct (E 31) h0 yb f (va_up (va_up (va_up (va_up (fun _ => none) 0 (some q0)) 1 (some q1)) 2 (some q2)) 3 (some q3)) ++ ((((Ps ++ knMrk ct q0 u0) ++ knMrk ct q1 u1) ++ knMrk ct q2 u2) ++ knMrk ct q3 u3)) H := hw
  rw [List.append_assoc, List.append_assoc, List.append_assoc, hPs] at hw
  have hw : zPD D A (knE ct (E 31) (fun n => if n = 195 then h0 else yb n) yp (fun k => ([q0, q1, q2, q3] : List Nat).getD k 0) (fun k => if k = 0 then u0 else if k = 1 then u1 else if k = 2 then u2 else u3) f (va_up (va_up (va_up (va_up (fun _ => none) 0 (some q0)) 1 (some q1)) 2 (some q2)) 3 (some q3))) H := hw
  have hwK := kWof (E := E) rfl rfl (fun j hj => by rw [hf j hj]; show some (yp _) = some (knY _ _ _ _ _); unfold knY; rw [if_pos (by omega)]) (zall4 rfl rfl rfl rfl) (hw.sub knIx (by decide +kernel) (knIx_C (E := E)))
  refine lv_iload_n hx hb dX11_init_193 rfl (lv_at hl 0 rfl) ?_
  refine lv_iconst (v := 4) hx hb dX11_init_194 (by decide) ?_
  refine lv_icmp_ge (tgt := 217) hx hb dX11_init_195 (by decide) (fun _ => ?_) (fun h => absurd (by decide) h)
  exact W.widen (Nat.le_of_ble_eq_true rfl) (Nat.le_of_ble_eq_true rfl) (W.vret hx hb hr (fun t ht hW => ⟨⟨_, rfl, rfl, by rw [ht]; exact hwK⟩, hS.F ht⟩) hS.2.2 dX11_init_217 hlocks)
