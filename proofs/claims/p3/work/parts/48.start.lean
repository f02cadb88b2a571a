noncomputable def mR0 : zRr := fun k => if k = 1 then upd (upd (fun _ => 0) 2 1) 3 2 else (fun _ => 0)
noncomputable def mQ0 : zRq := fun _ _ => 0
theorem lR0 : lR kR0 kQ0 mR0 mQ0 := ⟨⟨rfl, fun i hi => absurd hi (Nat.not_lt_zero _)⟩, ⟨0, 0, ⟨⟨rfl, rfl, by decide⟩, ⟨rfl, rfl, by decide⟩, ⟨rfl, rfl⟩, fun i hi => absurd hi (Nat.not_lt_zero _), fun i hi => absurd hi (Nat.not_lt_zero _), rfl, Or.inl ⟨rfl, rfl, rfl⟩⟩, ⟨fun _ _ => 0, ⟨rfl, fun i hi => absurd hi (Nat.not_lt_zero _)⟩, ⟨rfl, fun i hi => absurd hi (Nat.not_lt_zero _)⟩, fun _ _ _ => ⟨rfl, rfl⟩⟩, xPs.nil rfl rfl rfl, fun k _ hz => absurd (show mR0 37 k = 0 from rfl) hz, xPl.nil rfl rfl, rfl⟩, fun k hk => by rcases (show k = 0 ∨ k = 1 ∨ k = 2 ∨ k = 3 by omega) with rfl | rfl | rfl | rfl <;> exact ⟨rfl, Or.inl rfl⟩, fun k hk => by rcases (show k = 0 ∨ k = 1 ∨ k = 2 ∨ k = 3 ∨ k = 4 by omega) with rfl | rfl | rfl | rfl | rfl <;> rfl⟩
theorem mlo0 (k j : Nat) : mlo k j ≤ 0 := by
  unfold mlo
  split <;> first | decide | (unfold mslo; (repeat' split) <;> decide) | (unfold mllo; (repeat' split) <;> decide) | (unfold mclo; (repeat' split) <;> decide)
theorem mhi0 (k j : Nat) : 0 ≤ mhi 20 k j := by
  unfold mhi
  split <;> first | decide | (unfold mshi; (repeat' split) <;> decide) | (unfold mlhi; (repeat' split) <;> decide) | (unfold mchi; (repeat' split) <;> decide)
theorem mJ0 : mJ 20 mR0 := by
  have e0 : (0 : Int32).toInt = 0 := by decide
  have h0 : ∀ k j : Nat, zI (mlo k j) (mhi 20 k j) 0 := fun k j => ⟨by rw [e0]; exact mlo0 k j, by rw [e0]; exact mhi0 k j⟩
  refine ⟨by decide, by decide, ?_, ?_, ?_, ?_⟩
  · intro k j
    unfold mR0
    by_cases h1 : k = 1
    · rw [if_pos h1]
      subst h1
      by_cases j3 : j = 3
      · subst j3; rw [pk_us]; exact zI.top _
      rw [pk_un j3]
      by_cases j2 : j = 2
      · subst j2; rw [pk_us]; exact zI.top _
      rw [pk_un j2]; exact h0 1 j
    · rw [if_neg h1]; exact h0 k j
  · intro n hn
    have e1 : zn (mR0 11 0) = 0 := by decide
    rw [e1] at hn
    omega
  · intro b j hj h1 h2
    have e1 : (mR0 25 b).toInt = 0 := by show (0 : Int32).toInt = 0; decide
    omega
  · intro h
    have e1 : (mR0 1 1).toInt = 0 := by decide
    omega
set_option maxRecDepth 20000 in
theorem mL_X11_init_r1 : ∀ w ∈ wsX11_init_r1, w ∈ wsL_law0 := (zcm (zr1 11 rfl) (zcm (zr1 12 rfl) (zcm (zr1 13 rfl) (zcm (zr1 14 rfl) (zcm (zr1 15 rfl) (zcm (zr1 16 rfl) (zcm (zr1 17 rfl) (zcm (zr1 18 rfl) (zcm (zr1 19 rfl) (zcm (zr1 20 rfl) (zcm (zr1 21 rfl) (zcm (zr1 22 rfl) (zcm (zr1 23 rfl) (zcm (zr2 0 rfl) (zcm (zr2 1 rfl) (zcm (zr2 2 rfl) (zcm (zr2 3 rfl) (zcm (zr2 4 rfl) (zcm (zr2 5 rfl) (zcm (zr2 6 rfl) (zcm (zr2 7 rfl) (zcm (zr2 8 rfl) (zcm (zr2 9 rfl) (zcm (zr2 10 rfl) znm))))))))))))))))))))))))
set_option maxRecDepth 20000 in
theorem mL_X11_init_r2 : ∀ w ∈ wsX11_init_r2, w ∈ wsL_law0 := (zcm (zr2 11 rfl) (zcm (zr2 12 rfl) (zcm (zr2 13 rfl) (zcm (zr2 14 rfl) (zcm (zr2 15 rfl) (zcm (zr2 16 rfl) (zcm (zr2 17 rfl) (zcm (zr2 18 rfl) (zcm (zr2 19 rfl) (zcm (zr2 20 rfl) (zcm (zr2 21 rfl) (zcm (zr2 22 rfl) (zcm (zr2 23 rfl) (zcm (zr3 0 rfl) (zcm (zr3 1 rfl) (zcm (zr3 2 rfl) (zcm (zr3 3 rfl) (zcm (zr3 4 rfl) (zcm (zr3 5 rfl) (zcm (zr3 6 rfl) (zcm (zr3 7 rfl) (zcm (zr3 8 rfl) (zcm (zr3 9 rfl) (zcm (zr3 10 rfl) znm))))))))))))))))))))))))
set_option maxRecDepth 20000 in
theorem mL_X11_init_r3 : ∀ w ∈ wsX11_init_r3, w ∈ wsL_law0 := (zcm (zr3 11 rfl) (zcm (zr3 12 rfl) (zcm (zr3 13 rfl) (zcm (zr3 14 rfl) (zcm (zr3 15 rfl) (zcm (zr3 16 rfl) (zcm (zr3 17 rfl) (zcm (zr3 18 rfl) (zcm (zr3 19 rfl) (zcm (zr3 20 rfl) (zcm (zr3 21 rfl) (zcm (zr3 22 rfl) (zcm (zr3 23 rfl) (zcm (zr4 0 rfl) (zcm (zr4 1 rfl) (zcm (zr4 2 rfl) (zcm (zr4 3 rfl) (zcm (zr1 6 rfl) (zcm (zr4 4 rfl) (zcm (zr4 5 rfl) (zcm (zr4 6 rfl) (zcm (zr4 7 rfl) (zcm (zr4 8 rfl) (zcm (zr4 9 rfl) znm))))))))))))))))))))))))
set_option maxRecDepth 20000 in
theorem mL_X11_init_r4 : ∀ w ∈ wsX11_init_r4, w ∈ wsL_law0 := (zcm (zr4 10 rfl) (zcm (zr4 11 rfl) (zcm (zr4 12 rfl) (zcm (zr4 13 rfl) (zcm (zr4 14 rfl) (zcm (zr4 15 rfl) (zcm (zr4 16 rfl) (zcm (zr4 17 rfl) (zcm (zr4 18 rfl) (zcm (zr4 19 rfl) (zcm (zr4 20 rfl) (zcm (zr4 21 rfl) (zcm (zr4 22 rfl) (zcm (zr4 23 rfl) (zcm (zr5 0 rfl) (zcm (zr5 1 rfl) (zcm (zr5 2 rfl) (zcm (zr5 3 rfl) (zcm (zr5 4 rfl) (zcm (zr5 5 rfl) (zcm (zr5 6 rfl) (zcm (zr5 7 rfl) (zcm (zr5 8 rfl) (zcm (zr5 9 rfl) znm))))))))))))))))))))))))
set_option maxRecDepth 20000 in
theorem mL_X11_init_r5 : ∀ w ∈ wsX11_init_r5, w ∈ wsL_law0 := (zcm (zr5 10 rfl) (zcm (zr5 11 rfl) (zcm (zr5 12 rfl) (zcm (zr5 13 rfl) (zcm (zr5 14 rfl) (zcm (zr5 15 rfl) (zcm (zr5 16 rfl) (zcm (zr5 17 rfl) (zcm (zr5 18 rfl) (zcm (zr5 19 rfl) (zcm (zr5 20 rfl) (zcm (zr5 21 rfl) (zcm (zr5 22 rfl) (zcm (zr5 23 rfl) (zcm (zr6 0 rfl) (zcm (zr6 1 rfl) (zcm (zr6 2 rfl) (zcm (zr6 3 rfl) (zcm (zr6 4 rfl) (zcm (zr6 5 rfl) (zcm (zr6 6 rfl) (zcm (zr6 7 rfl) (zcm (zr6 8 rfl) (zcm (zr6 9 rfl) znm))))))))))))))))))))))))
set_option maxRecDepth 20000 in
theorem mL_X11_init_r6 : ∀ w ∈ wsX11_init_r6, w ∈ wsL_law0 := (zcm (zr6 10 rfl) (zcm (zr6 11 rfl) (zcm (zr6 12 rfl) (zcm (zr6 13 rfl) (zcm (zr6 14 rfl) (zcm (zr6 15 rfl) (zcm (zr6 16 rfl) (zcm (zr6 17 rfl) (zcm (zr6 18 rfl) (zcm (zr6 19 rfl) (zcm (zr6 20 rfl) (zcm (zr6 21 rfl) (zcm (zr6 22 rfl) (zcm (zr6 23 rfl) (zcm (zr7 0 rfl) (zcm (zr7 1 rfl) (zcm (zr7 2 rfl) (zcm (zr7 3 rfl) (zcm (zr7 4 rfl) (zcm (zr7 5 rfl) (zcm (zr7 6 rfl) (zcm (zr7 7 rfl) (zcm (zr7 8 rfl) (zcm (zr7 9 rfl) znm))))))))))))))))))))))))
set_option maxRecDepth 20000 in
theorem mL_X11_init_r7 : ∀ w ∈ wsX11_init_r7, w ∈ wsL_law0 := (zcm (zr7 10 rfl) (zcm (zr7 11 rfl) (zcm (zr7 12 rfl) (zcm (zr7 13 rfl) (zcm (zr7 14 rfl) znm)))))
set_option maxRecDepth 20000 in
theorem mL_X11_init : ∀ w ∈ wsX11_init, w ∈ wsL_law0 := (zcm (zr1 10 rfl) (zmem (zmem (zmem (zmem (zmem (zmem (zmem (zmem (zmem (zmem (zmem (zmem mL_X11_init_r1 (zmem mL_X11_init_r2 (zmem mL_X11_init_r3 (zmem mL_X11_init_r4 (zmem mL_X11_init_r5 (zmem mL_X11_init_r6 mL_X11_init_r7)))))) zs_wsX90) zs_wsX110) zs_wsX20) zs_wsX30) zs_wsX10) zs_wsX00) zs_wsX100) zs_wsX80) zs_wsX60) zs_wsX50) zs_wsX40))
set_option maxRecDepth 20000 in
theorem mL_X12_init_r1 : ∀ w ∈ wsX12_init_r1, w ∈ wsL_law0 := (zcm (zr7 18 rfl) (zcm (zr1 12 rfl) (zcm (zr1 13 rfl) (zcm (zr4 1 rfl) (zcm (zr7 19 rfl) (zcm (zr7 20 rfl) (zcm (zr1 6 rfl) (zcm (zr7 21 rfl) (zcm (zr7 22 rfl) (zcm (zr7 23 rfl) (zcm (zr8 0 rfl) (zcm (zr8 1 rfl) (zcm (zr8 2 rfl) (zcm (zr8 3 rfl) (zcm (zr8 4 rfl) (zcm (zr8 5 rfl) (zcm (zr8 6 rfl) (zcm (zr8 7 rfl) (zcm (zr8 8 rfl) (zcm (zr8 9 rfl) (zcm (zr8 10 rfl) (zcm (zr8 11 rfl) (zcm (zr8 12 rfl) (zcm (zr8 13 rfl) znm))))))))))))))))))))))))
set_option maxRecDepth 20000 in
theorem mL_X12_init_r2 : ∀ w ∈ wsX12_init_r2, w ∈ wsL_law0 := (zcm (zr8 14 rfl) (zcm (zr8 15 rfl) (zcm (zr8 16 rfl) (zcm (zr8 17 rfl) (zcm (zr8 18 rfl) (zcm (zr8 19 rfl) (zcm (zr8 20 rfl) (zcm (zr8 21 rfl) (zcm (zr8 22 rfl) (zcm (zr8 23 rfl) (zcm (zr9 0 rfl) (zcm (zr9 1 rfl) (zcm (zr9 2 rfl) (zcm (zr9 3 rfl) (zcm (zr9 4 rfl) (zcm (zr9 5 rfl) (zcm (zr9 6 rfl) (zcm (zr9 7 rfl) (zcm (zr9 8 rfl) (zcm (zr9 9 rfl) (zcm (zr9 10 rfl) znm)))))))))))))))))))))
set_option maxRecDepth 20000 in
theorem mL_X12_init : ∀ w ∈ wsX12_init, w ∈ wsL_law0 := (zcm (zr7 17 rfl) (zmem (zmem mL_X12_init_r1 mL_X12_init_r2) zs_wsX120))
set_option maxHeartbeats 4000000 in
set_option maxRecDepth 100000 in
/-- THE LAW, from its entry -/
theorem whole_start {p : Program} {e : Env} {s : State} {m : MethodId} {below : List Frame} {meth : Method} {c : Code} (l : Launch) (hst : l.stackTraces = false) {b L : Nat} {xs : Nat → Int32} (hL : L ≤ 3584) (C0 : lw_At p s m meth c b L xs) : W p l e room_1 s m #[Value.ref b] below meth c s.heap [] 0 0 (lw_Z below #[Value.ref b] s) (entryFrame m ([Value.ref b] : List Value).toArray 7) := by
  obtain ⟨hx, hb, hr, hml, hown, hts, hX, hbl, hlocks, hgv⟩ := id C0
  have hown : s.vm.findClass RL = some m.cls := hown
  have htl : ∀ w ∈ wsL_law0, w.before #[Value.ref b] s = true := fun w h => hts w (wsL_law_in0 w h)
  have hA : ∀ q : Nat, s.heap.size ≤ q → (fun q : Nat => s.heap.size ≤ q) q := fun _ h => h
  have hbA : ¬ (fun q : Nat => s.heap.size ≤ q) b := Nat.not_le.mpr hbl
  obtain ⟨D, ct, hK⟩ := zknow hts
  have hN : zN s := zNof hts
  obtain ⟨E, hZ, hEi⟩ := eZof hts hgv
  have hZE : zZ [("END", E 31)] (fun q : Nat => s.heap.size ≤ q) s s.heap := fun q hq => by
    obtain rfl : q = ("END", E 31) := by simpa using hq
    exact hZ.1 31 (by decide)
  have hS : va_S (fun q : Nat => s.heap.size ≤ q) s.heap s.heap [] := va_S.rf
  have hw : zPD D (fun q : Nat => s.heap.size ≤ q) [] s.heap := ⟨fun k q h => by simp at h, fun i j p q h => by simp at h, fun k q h => by simp at h⟩
  have hl := lv_entry ([.ref b]) (n := 7) (Nat.le_of_ble_eq_true rfl)
  rw [lg_entry_eq]
  generalize (lg_sl ([.ref b]) ++ List.replicate (7 - (lg_sl ([.ref b])).length) Slot.unset).toArray = ls at hl ⊢
  have hl : lv_has ls 7 [(0, .ref b)] := hl
  refine znew (ci := 10) (C := RX11) (T := TX11) (N := 15) hx hb hts in_wsX110 tyX11 tyX11_ok hown (hts (.classLink RL 8 RX11) (ztm1 27 (by decide +kernel))) (hts (.instantiable RX11 15) (ztm1 28 (by decide +kernel))) (hts (.initialized RX11) (ztm1 1 (by decide +kernel))) hK hw hS hA rfl [.null, .null, .null, .null, .null, .null, .null, .null, .null, .null, .null, .null, .null, .int 0, .int 0] rfl (Nat.le_of_ble_eq_true rfl) (Nat.le_of_ble_eq_true rfl) dL_law_0 (fun q1 H1 hw1 hS1 => ?_)
  refine lv_dup hx hb dL_law_3 rfl ?_
  refine lnew (ws := []) (va_runI (As := []) (rest := [.ref q1]) ⟨hx, hb, hml, hown, htl⟩ (k_X11_init l D ct q1 E H1.size) (cwI 0 htl (zgl mL_X11_init) rfl rfl rfl (hts (.initialized RX11) (ztm1 1 (by decide +kernel))) (hts (.methodLink RL 15 yX11_init) (ztm1 29 (by decide +kernel))) (hts (.instanceMethod yX11_init) (ztm1 30 (by decide +kernel))) rfl (by decide +kernel) ⟨Nat.le_of_ble_eq_true rfl, Nat.le_of_ble_eq_true rfl⟩) (zpreS hK hw1 hS1 hA hZE hN [0] rfl rfl) rfl rfl hl.1 rfl (lv_room (Nat.le_of_ble_eq_true rfl)) dL_law_4 ⟨Nat.le_of_ble_eq_true rfl, Nat.le_of_ble_eq_true rfl⟩) hw1 hS1 hA 7 rfl (fun u H locs hp hw hS => ?_)
  have hp : u 195 = q1 := hp
  subst hp
  have hw : zPD D (fun q : Nat => s.heap.size ≤ q) (kW ct E u kR0 kQ0) H := hw
  refine zfr 7 [.ref (u 195)] rfl rfl ?_
  refine lv_astore_n (lv' := [(1, .ref (u 195)), (0, .ref b)]) hx hb dL_law_7 rfl hl (by decide) rfl (fun ls hl => ?_)
  refine znew (ci := 11) (C := RX12) (T := TX12) (N := 57) hx hb hts in_wsX120 tyX12 tyX12_ok hown (hts (.classLink RL 16 RX12) (ztm5 185 (by decide +kernel))) (hts (.instantiable RX12 57) (ztm5 186 (by decide +kernel))) (hts (.initialized RX12) (ztm1 14 (by decide +kernel))) hK hw hS hA rfl [.int 0, .int 0, .null, .int 0, .int 0, .int 0, .int 0, .long 0, .int 0, .int 0, .null, .null, .null, .null, .null, .null, .null, .null, .null, .null, .null, .null, .int 0, .int 0, .null, .null, .null, .null, .null, .null, .null, .null, .null, .null, .null, .null, .int 0, .long 0, .null, .null, .null, .null, .null, .null, .null, .null, .null, .null, .null, .null, .null, .int 0, .int 0, .null, .long 0, .int 0, .int 0] rfl (Nat.le_of_ble_eq_true rfl) (Nat.le_of_ble_eq_true rfl) dL_law_8 (fun h2 H hw hS => ?_)
  refine lv_dup hx hb dL_law_11 rfl ?_
  refine lnew (va_runI (As := []) (rest := [.ref h2]) ⟨hx, hb, hml, hown, htl⟩ (c_X12_init l D ct h2 H.size) (cwI 0 htl (zgl mL_X12_init) rfl rfl rfl (hts (.initialized RX12) (ztm1 14 (by decide +kernel))) (hts (.methodLink RL 18 yX12_init) (ztm5 187 (by decide +kernel))) (hts (.instanceMethod yX12_init) (ztm5 188 (by decide +kernel))) rfl (by decide +kernel) ⟨Nat.le_of_ble_eq_true rfl, Nat.le_of_ble_eq_true rfl⟩) (zpreS hK hw hS hA zZ.nil hN [(kW ct E u kR0 kQ0).length] rfl (kone (by rw [List.getElem?_append_right (Nat.le_refl _), Nat.sub_self]; rfl))) rfl rfl hl.1 rfl (lv_room (Nat.le_of_ble_eq_true rfl)) dL_law_12 ⟨Nat.le_of_ble_eq_true rfl, Nat.le_of_ble_eq_true rfl⟩) hw hS hA 15 rfl (fun ym H locs _ hw hS => ?_)
  have hw : zPD D (fun q : Nat => s.heap.size ≤ q) (kW ct E u kR0 kQ0 ++ mW ct h2 ym mR0 mQ0) H := hw
  refine zfr 15 [.ref h2] rfl rfl ?_
  refine lv_astore_n (lv' := [(2, .ref h2), (1, .ref (u 195)), (0, .ref b)]) hx hb dL_law_15 rfl hl (by decide) rfl (fun ls hl => ?_)
  refine lv_iconst (v := 1) hx hb dL_law_16 (by decide) ?_
  refine znewa (atype := .long) hx hb (hts (.arrayClass .long) (ztm1 100 (by decide +kernel))) 1 rfl hK hw hS hA 1 (1, .inr (.inl (fun _ => 0))) (fun _ => rfl) (by decide) (by decide) (by decide) (Nat.le_of_ble_eq_true rfl) (Nat.le_of_ble_eq_true rfl) dL_law_17 (fun h3 H hw hS => ?_)
  rw [List.append_assoc] at hw
  have hw : zPD D (fun q : Nat => s.heap.size ≤ q) (lW ct E u kR0 kQ0 h2 ym mR0 mQ0 h3 (fun _ => 0)) H := hw
  refine lv_astore_n (lv' := [(3, .ref h3), (2, .ref h2), (1, .ref (u 195)), (0, .ref b)]) hx hb dL_law_19 rfl hl (by decide) rfl (fun ls hl => ?_)
  refine lv_iconst (v := 0) hx hb dL_law_20 (by decide) ?_
  refine lv_istore (lv' := [(4, .int 0), (3, .ref h3), (2, .ref h2), (1, .ref (u 195)), (0, .ref b)]) hx hb dL_law_21 hl (by decide) rfl (fun ls hl => ?_)
  exact kloop hst C0 hK hN hZ hEi u ym h2 h3 hL 512 0 (by omega) (by decide) kR0 kQ0 mR0 mQ0 (fun _ => 0) _ _ kJ0 mJ0 lR0 (Nat.le_of_ble_eq_true rfl) (Nat.le_of_ble_eq_true rfl) H locs ls hw hS hl
