set_option maxHeartbeats 4000000 in
set_option maxRecDepth 100000 in
/-- Standing(): five rows of six zeros -/
theorem c_X8_init (l : Launch) (D : va_G) (ct : Nat → ClassId) (h0 : Nat)  : zC l yX8_init wsX8_init ({ frames := 1, cells := 5, slots := 30, locals := 80 }) D ct [] [.ref h0] [(h0, .inr (7, [.null, .null, .null, .null, .null, .int 0]))] (S := Nat → Nat) (fun u => none) (fun u => True) (fun u => [(h0, .inr (7, [.ref (u 0), .ref (u 1), .ref (u 2), .ref (u 3), .ref (u 4), .int 0])), (u 0, .inl (ct 0, 6, .inl (fun _ => 0))), (u 1, .inl (ct 0, 6, .inl (fun _ => 0))), (u 2, .inl (ct 0, 6, .inl (fun _ => 0))), (u 3, .inl (ct 0, 6, .inl (fun _ => 0))), (u 4, .inl (ct 0, 6, .inl (fun _ => 0)))]) 5 30 := by
  refine zofW cX8_init 1 none (by decide) rfl (Nat.le_of_ble_eq_true rfl) ?_
  intro p e s m below meth c A hx hb hr hml hts hown hlocks hname hK hA hZ hN H locs hw hS ls hl
  have hown : s.vm.findClass RX8 = some m.cls := hown
  have hl : lv_has ls 1 [(0, .ref h0)] := hl
  have hiX8 : ∀ w ∈ wsX80, w ∈ wsX8_init := by decide +kernel
  refine lv_aload_n hx hb dX8_init_0 rfl (lv_at hl 0 rfl) ?_
  refine W.objInit hx hb hown (hts (.methodLink RX8 3 objectInit) (by decide +kernel)) (hts (.instanceMethod objectInit) (by decide +kernel)) (hts (.code objectInit ⟨#[0xb1]⟩ 1 none) (by decide +kernel)) rfl (by rw [hml]; exact hl.1) rfl dX8_init_1 (Nat.le_of_ble_eq_true rfl) (Nat.le_of_ble_eq_true rfl) ?_
  refine W.eq (g2 := F0 m 4 ls []) rfl ?_
  refine lv_aload_n hx hb dX8_init_4 rfl (lv_at hl 0 rfl) ?_
  refine lv_bipush (v := 6) hx hb dX8_init_5 (by decide) ?_
  refine znewa (atype := .int) hx hb (hts (.arrayClass .int) (by decide +kernel)) 0 rfl hK hw hS hA 6 (6, .inl (fun _ => 0)) (fun _ => rfl) (by decide) (by decide) (by decide) (Nat.le_of_ble_eq_true rfl) (Nat.le_of_ble_eq_true rfl) dX8_init_7 (fun q1 H hw hS => ?_)
  have hw : zPD D A [(h0, .inr (7, [.null, .null, .null, .null, .null, .int 0])), (q1, .inl (ct 0, 6, .inl (fun _ => 0)))] H := hw
  refine zputF (D := D) (ci := 7) (v := .ref q1) (ty := (.array .int)) hx hb hts hiX8 tyX8 tyX8_ok nmX8 hown hK hw hS 0 rfl rfl 0 (by decide) (hts (.fieldLink RX8 9 "BeardPass$Standing" "places" "[I") (by decide +kernel)) (fun _ h9 => h9) rfl hname rfl (by decide +kernel) rfl rfl (Nat.le_of_ble_eq_true rfl) dX8_init_9 [(h0, .inr (7, [.ref q1, .null, .null, .null, .null, .int 0])), (q1, .inl (ct 0, 6, .inl (fun _ => 0)))] rfl (fun H locs hw hS => ?_)
  refine lv_aload_n hx hb dX8_init_12 rfl (lv_at hl 0 rfl) ?_
  refine lv_bipush (v := 6) hx hb dX8_init_13 (by decide) ?_
  refine znewa (atype := .int) hx hb (hts (.arrayClass .int) (by decide +kernel)) 0 rfl hK hw hS hA 6 (6, .inl (fun _ => 0)) (fun _ => rfl) (by decide) (by decide) (by decide) (Nat.le_of_ble_eq_true rfl) (Nat.le_of_ble_eq_true rfl) dX8_init_15 (fun q2 H hw hS => ?_)
  have hw : zPD D A [(h0, .inr (7, [.ref q1, .null, .null, .null, .null, .int 0])), (q1, .inl (ct 0, 6, .inl (fun _ => 0))), (q2, .inl (ct 0, 6, .inl (fun _ => 0)))] H := hw
  refine zputF (D := D) (ci := 7) (v := .ref q2) (ty := (.array .int)) hx hb hts hiX8 tyX8 tyX8_ok nmX8 hown hK hw hS 0 rfl rfl 1 (by decide) (hts (.fieldLink RX8 15 "BeardPass$Standing" "beards" "[I") (by decide +kernel)) (fun _ h9 => h9) rfl hname rfl (by decide +kernel) rfl rfl (Nat.le_of_ble_eq_true rfl) dX8_init_17 [(h0, .inr (7, [.ref q1, .ref q2, .null, .null, .null, .int 0])), (q1, .inl (ct 0, 6, .inl (fun _ => 0))), (q2, .inl (ct 0, 6, .inl (fun _ => 0)))] rfl (fun H locs hw hS => ?_)
  refine lv_aload_n hx hb dX8_init_20 rfl (lv_at hl 0 rfl) ?_
  refine lv_bipush (v := 6) hx hb dX8_init_21 (by decide) ?_
  refine znewa (atype := .int) hx hb (hts (.arrayClass .int) (by decide +kernel)) 0 rfl hK hw hS hA 6 (6, .inl (fun _ => 0)) (fun _ => rfl) (by decide) (by decide) (by decide) (Nat.le_of_ble_eq_true rfl) (Nat.le_of_ble_eq_true rfl) dX8_init_23 (fun q3 H hw hS => ?_)
  have hw : zPD D A [(h0, .inr (7, [.ref q1, .ref q2, .null, .null, .null, .int 0])), (q1, .inl (ct 0, 6, .inl (fun _ => 0))), (q2, .inl (ct 0, 6, .inl (fun _ => 0))), (q3, .inl (ct 0, 6, .inl (fun _ => 0)))] H := hw
  refine zputF (D := D) (ci := 7) (v := .ref q3) (ty := (.array .int)) hx hb hts hiX8 tyX8 tyX8_ok nmX8 hown hK hw hS 0 rfl rfl 2 (by decide) (hts (.fieldLink RX8 18 "BeardPass$Standing" "forged" "[I") (by decide +kernel)) (fun _ h9 => h9) rfl hname rfl (by decide +kernel) rfl rfl (Nat.le_of_ble_eq_true rfl) dX8_init_25 [(h0, .inr (7, [.ref q1, .ref q2, .ref q3, .null, .null, .int 0])), (q1, .inl (ct 0, 6, .inl (fun _ => 0))), (q2, .inl (ct 0, 6, .inl (fun _ => 0))), (q3, .inl (ct 0, 6, .inl (fun _ => 0)))] rfl (fun H locs hw hS => ?_)
  refine lv_aload_n hx hb dX8_init_28 rfl (lv_at hl 0 rfl) ?_
  refine lv_bipush (v := 6) hx hb dX8_init_29 (by decide) ?_
  refine znewa (atype := .int) hx hb (hts (.arrayClass .int) (by decide +kernel)) 0 rfl hK hw hS hA 6 (6, .inl (fun _ => 0)) (fun _ => rfl) (by decide) (by decide) (by decide) (Nat.le_of_ble_eq_true rfl) (Nat.le_of_ble_eq_true rfl) dX8_init_31 (fun q4 H hw hS => ?_)
  have hw : zPD D A [(h0, .inr (7, [.ref q1, .ref q2, .ref q3, .null, .null, .int 0])), (q1, .inl (ct 0, 6, .inl (fun _ => 0))), (q2, .inl (ct 0, 6, .inl (fun _ => 0))), (q3, .inl (ct 0, 6, .inl (fun _ => 0))), (q4, .inl (ct 0, 6, .inl (fun _ => 0)))] H := hw
  refine zputF (D := D) (ci := 7) (v := .ref q4) (ty := (.array .int)) hx hb hts hiX8 tyX8 tyX8_ok nmX8 hown hK hw hS 0 rfl rfl 3 (by decide) (hts (.fieldLink RX8 21 "BeardPass$Standing" "purses" "[I") (by decide +kernel)) (fun _ h9 => h9) rfl hname rfl (by decide +kernel) rfl rfl (Nat.le_of_ble_eq_true rfl) dX8_init_33 [(h0, .inr (7, [.ref q1, .ref q2, .ref q3, .ref q4, .null, .int 0])), (q1, .inl (ct 0, 6, .inl (fun _ => 0))), (q2, .inl (ct 0, 6, .inl (fun _ => 0))), (q3, .inl (ct 0, 6, .inl (fun _ => 0))), (q4, .inl (ct 0, 6, .inl (fun _ => 0)))] rfl (fun H locs hw hS => ?_)
  refine lv_aload_n hx hb dX8_init_36 rfl (lv_at hl 0 rfl) ?_
  refine lv_bipush (v := 6) hx hb dX8_init_37 (by decide) ?_
  refine znewa (atype := .int) hx hb (hts (.arrayClass .int) (by decide +kernel)) 0 rfl hK hw hS hA 6 (6, .inl (fun _ => 0)) (fun _ => rfl) (by decide) (by decide) (by decide) (Nat.le_of_ble_eq_true rfl) (Nat.le_of_ble_eq_true rfl) dX8_init_39 (fun q5 H hw hS => ?_)
  have hw : zPD D A [(h0, .inr (7, [.ref q1, .ref q2, .ref q3, .ref q4, .null, .int 0])), (q1, .inl (ct 0, 6, .inl (fun _ => 0))), (q2, .inl (ct 0, 6, .inl (fun _ => 0))), (q3, .inl (ct 0, 6, .inl (fun _ => 0))), (q4, .inl (ct 0, 6, .inl (fun _ => 0))), (q5, .inl (ct 0, 6, .inl (fun _ => 0)))] H := hw
  refine zputF (D := D) (ci := 7) (v := .ref q5) (ty := (.array .int)) hx hb hts hiX8 tyX8 tyX8_ok nmX8 hown hK hw hS 0 rfl rfl 4 (by decide) (hts (.fieldLink RX8 24 "BeardPass$Standing" "been" "[I") (by decide +kernel)) (fun _ h9 => h9) rfl hname rfl (by decide +kernel) rfl rfl (Nat.le_of_ble_eq_true rfl) dX8_init_41 [(h0, .inr (7, [.ref q1, .ref q2, .ref q3, .ref q4, .ref q5, .int 0])), (q1, .inl (ct 0, 6, .inl (fun _ => 0))), (q2, .inl (ct 0, 6, .inl (fun _ => 0))), (q3, .inl (ct 0, 6, .inl (fun _ => 0))), (q4, .inl (ct 0, 6, .inl (fun _ => 0))), (q5, .inl (ct 0, 6, .inl (fun _ => 0)))] rfl (fun H locs hw hS => ?_)
  refine lv_aload_n hx hb dX8_init_44 rfl (lv_at hl 0 rfl) ?_
  refine lv_iconst (v := 0) hx hb dX8_init_45 (by decide) ?_
  refine zput (D := D) (ci := 7) (v := .int 0) (ty := .int) hx hb hts hiX8 tyX8 tyX8_ok nmX8 hown hK hw hS 0 rfl rfl 5 (by decide) (hts (.fieldLink RX8 27 "BeardPass$Standing" "weeks" "I") (by decide +kernel)) (fun _ h9 => h9) rfl (by decide +kernel) rfl rfl (Nat.le_of_ble_eq_true rfl) dX8_init_46 [(h0, .inr (7, [.ref q1, .ref q2, .ref q3, .ref q4, .ref q5, .int 0])), (q1, .inl (ct 0, 6, .inl (fun _ => 0))), (q2, .inl (ct 0, 6, .inl (fun _ => 0))), (q3, .inl (ct 0, 6, .inl (fun _ => 0))), (q4, .inl (ct 0, 6, .inl (fun _ => 0))), (q5, .inl (ct 0, 6, .inl (fun _ => 0)))] rfl (fun H locs hw hS => ?_)
  exact zvret hx hb hr hlocks (fun j => ([q1, q2, q3, q4, q5] : List Nat).getD j 0) rfl (trivial) hw [0, 1, 2, 3, 4, 5] rfl (rfl) hS (Nat.le_of_ble_eq_true rfl) (Nat.le_of_ble_eq_true rfl) dX8_init_49

set_option maxHeartbeats 4000000 in
set_option maxRecDepth 100000 in
/-- Journey(): three rows of forty zeros -/
theorem c_X1_init (l : Launch) (D : va_G) (ct : Nat → ClassId) (h0 : Nat)  : zC l yX1_init wsX1_init ({ frames := 1, cells := 3, slots := 120, locals := 80 }) D ct [] [.ref h0] [(h0, .inr (1, [.null, .null, .null, .int 0]))] (S := Nat → Nat) (fun u => none) (fun u => True) (fun u => [(h0, .inr (1, [.ref (u 0), .ref (u 1), .ref (u 2), .int 0])), (u 0, .inl (ct 0, 40, .inl (fun _ => 0))), (u 1, .inl (ct 0, 40, .inl (fun _ => 0))), (u 2, .inl (ct 0, 40, .inl (fun _ => 0)))]) 3 120 := by
  refine zofW cX1_init 1 none (by decide) rfl (Nat.le_of_ble_eq_true rfl) ?_
  intro p e s m below meth c A hx hb hr hml hts hown hlocks hname hK hA hZ hN H locs hw hS ls hl
  have hown : s.vm.findClass RX1 = some m.cls := hown
  have hl : lv_has ls 1 [(0, .ref h0)] := hl
  have hiX1 : ∀ w ∈ wsX10, w ∈ wsX1_init := by decide +kernel
  refine lv_aload_n hx hb dX1_init_0 rfl (lv_at hl 0 rfl) ?_
  refine W.objInit hx hb hown (hts (.methodLink RX1 3 objectInit) (by decide +kernel)) (hts (.instanceMethod objectInit) (by decide +kernel)) (hts (.code objectInit ⟨#[0xb1]⟩ 1 none) (by decide +kernel)) rfl (by rw [hml]; exact hl.1) rfl dX1_init_1 (Nat.le_of_ble_eq_true rfl) (Nat.le_of_ble_eq_true rfl) ?_
  refine W.eq (g2 := F0 m 4 ls []) rfl ?_
  refine lv_aload_n hx hb dX1_init_4 rfl (lv_at hl 0 rfl) ?_
  refine lv_bipush (v := 40) hx hb dX1_init_5 (by decide) ?_
  refine znewa (atype := .int) hx hb (hts (.arrayClass .int) (by decide +kernel)) 0 rfl hK hw hS hA 40 (40, .inl (fun _ => 0)) (fun _ => rfl) (by decide) (by decide) (by decide) (Nat.le_of_ble_eq_true rfl) (Nat.le_of_ble_eq_true rfl) dX1_init_7 (fun q1 H hw hS => ?_)
  have hw : zPD D A [(h0, .inr (1, [.null, .null, .null, .int 0])), (q1, .inl (ct 0, 40, .inl (fun _ => 0)))] H := hw
  refine zputF (D := D) (ci := 1) (v := .ref q1) (ty := (.array .int)) hx hb hts hiX1 tyX1 tyX1_ok nmX1 hown hK hw hS 0 rfl rfl 0 (by decide) (hts (.fieldLink RX1 9 "BeardPass$Journey" "deeds" "[I") (by decide +kernel)) (fun _ h9 => h9) rfl hname rfl (by decide +kernel) rfl rfl (Nat.le_of_ble_eq_true rfl) dX1_init_9 [(h0, .inr (1, [.ref q1, .null, .null, .int 0])), (q1, .inl (ct 0, 40, .inl (fun _ => 0)))] rfl (fun H locs hw hS => ?_)
  refine lv_aload_n hx hb dX1_init_12 rfl (lv_at hl 0 rfl) ?_
  refine lv_bipush (v := 40) hx hb dX1_init_13 (by decide) ?_
  refine znewa (atype := .int) hx hb (hts (.arrayClass .int) (by decide +kernel)) 0 rfl hK hw hS hA 40 (40, .inl (fun _ => 0)) (fun _ => rfl) (by decide) (by decide) (by decide) (Nat.le_of_ble_eq_true rfl) (Nat.le_of_ble_eq_true rfl) dX1_init_15 (fun q2 H hw hS => ?_)
  have hw : zPD D A [(h0, .inr (1, [.ref q1, .null, .null, .int 0])), (q1, .inl (ct 0, 40, .inl (fun _ => 0))), (q2, .inl (ct 0, 40, .inl (fun _ => 0)))] H := hw
  refine zputF (D := D) (ci := 1) (v := .ref q2) (ty := (.array .int)) hx hb hts hiX1 tyX1 tyX1_ok nmX1 hown hK hw hS 0 rfl rfl 1 (by decide) (hts (.fieldLink RX1 15 "BeardPass$Journey" "doers" "[I") (by decide +kernel)) (fun _ h9 => h9) rfl hname rfl (by decide +kernel) rfl rfl (Nat.le_of_ble_eq_true rfl) dX1_init_17 [(h0, .inr (1, [.ref q1, .ref q2, .null, .int 0])), (q1, .inl (ct 0, 40, .inl (fun _ => 0))), (q2, .inl (ct 0, 40, .inl (fun _ => 0)))] rfl (fun H locs hw hS => ?_)
  refine lv_aload_n hx hb dX1_init_20 rfl (lv_at hl 0 rfl) ?_
  refine lv_bipush (v := 40) hx hb dX1_init_21 (by decide) ?_
  refine znewa (atype := .int) hx hb (hts (.arrayClass .int) (by decide +kernel)) 0 rfl hK hw hS hA 40 (40, .inl (fun _ => 0)) (fun _ => rfl) (by decide) (by decide) (by decide) (Nat.le_of_ble_eq_true rfl) (Nat.le_of_ble_eq_true rfl) dX1_init_23 (fun q3 H hw hS => ?_)
  have hw : zPD D A [(h0, .inr (1, [.ref q1, .ref q2, .null, .int 0])), (q1, .inl (ct 0, 40, .inl (fun _ => 0))), (q2, .inl (ct 0, 40, .inl (fun _ => 0))), (q3, .inl (ct 0, 40, .inl (fun _ => 0)))] H := hw
  refine zputF (D := D) (ci := 1) (v := .ref q3) (ty := (.array .int)) hx hb hts hiX1 tyX1 tyX1_ok nmX1 hown hK hw hS 0 rfl rfl 2 (by decide) (hts (.fieldLink RX1 18 "BeardPass$Journey" "objects" "[I") (by decide +kernel)) (fun _ h9 => h9) rfl hname rfl (by decide +kernel) rfl rfl (Nat.le_of_ble_eq_true rfl) dX1_init_25 [(h0, .inr (1, [.ref q1, .ref q2, .ref q3, .int 0])), (q1, .inl (ct 0, 40, .inl (fun _ => 0))), (q2, .inl (ct 0, 40, .inl (fun _ => 0))), (q3, .inl (ct 0, 40, .inl (fun _ => 0)))] rfl (fun H locs hw hS => ?_)
  refine lv_aload_n hx hb dX1_init_28 rfl (lv_at hl 0 rfl) ?_
  refine lv_iconst (v := 0) hx hb dX1_init_29 (by decide) ?_
  refine zput (D := D) (ci := 1) (v := .int 0) (ty := .int) hx hb hts hiX1 tyX1 tyX1_ok nmX1 hown hK hw hS 0 rfl rfl 3 (by decide) (hts (.fieldLink RX1 21 "BeardPass$Journey" "lines" "I") (by decide +kernel)) (fun _ h9 => h9) rfl (by decide +kernel) rfl rfl (Nat.le_of_ble_eq_true rfl) dX1_init_30 [(h0, .inr (1, [.ref q1, .ref q2, .ref q3, .int 0])), (q1, .inl (ct 0, 40, .inl (fun _ => 0))), (q2, .inl (ct 0, 40, .inl (fun _ => 0))), (q3, .inl (ct 0, 40, .inl (fun _ => 0)))] rfl (fun H locs hw hS => ?_)
  exact zvret hx hb hr hlocks (fun j => ([q1, q2, q3] : List Nat).getD j 0) rfl (trivial) hw [0, 1, 2, 3] rfl (rfl) hS (Nat.le_of_ble_eq_true rfl) (Nat.le_of_ble_eq_true rfl) dX1_init_33

set_option maxHeartbeats 4000000 in
set_option maxRecDepth 100000 in
/-- Sightings() -/
theorem c_X6_init (l : Launch) (D : va_G) (ct : Nat → ClassId) (h0 : Nat)  : zC l yX6_init wsX6_init ({ frames := 1, cells := 0, slots := 0, locals := 80 }) D ct [] [.ref h0] [(h0, .inr (6, [.int 0, .int 0]))] (S := Unit) (fun _ => none) (fun _ => True) (fun _ => [(h0, .inr (6, [.int 2147483647, .int 0]))]) 0 0 := by
  refine zofW cX6_init 1 none (by decide) rfl (Nat.le_of_ble_eq_true rfl) ?_
  intro p e s m below meth c A hx hb hr hml hts hown hlocks hname hK hA hZ hN H locs hw hS ls hl
  have hown : s.vm.findClass RX6 = some m.cls := hown
  have hl : lv_has ls 1 [(0, .ref h0)] := hl
  have hiX6 : ∀ w ∈ wsX60, w ∈ wsX6_init := by decide +kernel
  refine lv_aload_n hx hb dX6_init_0 rfl (lv_at hl 0 rfl) ?_
  refine W.objInit hx hb hown (hts (.methodLink RX6 3 objectInit) (by decide +kernel)) (hts (.instanceMethod objectInit) (by decide +kernel)) (hts (.code objectInit ⟨#[0xb1]⟩ 1 none) (by decide +kernel)) rfl (by rw [hml]; exact hl.1) rfl dX6_init_1 (Nat.le_of_ble_eq_true rfl) (Nat.le_of_ble_eq_true rfl) ?_
  refine W.eq (g2 := F0 m 4 ls []) rfl ?_
  refine lv_aload_n hx hb dX6_init_4 rfl (lv_at hl 0 rfl) ?_
  refine lv_ldc hx hb hown (hts (.constant RX6 9 2147483647) (by decide +kernel)) dX6_init_5 ?_
  refine zput (D := D) (ci := 6) (v := .int 2147483647) (ty := .int) hx hb hts hiX6 tyX6 tyX6_ok nmX6 hown hK hw hS 0 rfl rfl 0 (by decide) (hts (.fieldLink RX6 10 "BeardPass$Sightings" "possible" "I") (by decide +kernel)) (fun _ h9 => h9) rfl (by decide +kernel) rfl rfl (Nat.le_of_ble_eq_true rfl) dX6_init_7 [(h0, .inr (6, [.int 2147483647, .int 0]))] rfl (fun H locs hw hS => ?_)
  refine lv_aload_n hx hb dX6_init_10 rfl (lv_at hl 0 rfl) ?_
  refine lv_iconst (v := 0) hx hb dX6_init_11 (by decide) ?_
  refine zput (D := D) (ci := 6) (v := .int 0) (ty := .int) hx hb hts hiX6 tyX6 tyX6_ok nmX6 hown hK hw hS 0 rfl rfl 1 (by decide) (hts (.fieldLink RX6 16 "BeardPass$Sightings" "many" "I") (by decide +kernel)) (fun _ h9 => h9) rfl (by decide +kernel) rfl rfl (Nat.le_of_ble_eq_true rfl) dX6_init_12 [(h0, .inr (6, [.int 2147483647, .int 0]))] rfl (fun H locs hw hS => ?_)
  exact zvret hx hb hr hlocks () rfl (trivial) hw [0] rfl (rfl) hS (Nat.le_of_ble_eq_true rfl) (Nat.le_of_ble_eq_true rfl) dX6_init_15

set_option maxHeartbeats 4000000 in
set_option maxRecDepth 100000 in
/-- LandReader() -/
theorem c_X3_init (l : Launch) (D : va_G) (ct : Nat → ClassId) (h0 : Nat)  : zC l yX3_init wsX3_init ({ frames := 1, cells := 0, slots := 0, locals := 80 }) D ct [] [.ref h0] [(h0, .inr (3, [.int 0, .int 0, .int 0]))] (S := Unit) (fun _ => none) (fun _ => True) (fun _ => [(h0, .inr (3, [.int 0, .int 0, .int 0]))]) 0 0 := by
  refine zofW cX3_init 1 none (by decide) rfl (Nat.le_of_ble_eq_true rfl) ?_
  intro p e s m below meth c A hx hb hr hml hts hown hlocks hname hK hA hZ hN H locs hw hS ls hl
  have hown : s.vm.findClass RX3 = some m.cls := hown
  have hl : lv_has ls 1 [(0, .ref h0)] := hl
  have hiX3 : ∀ w ∈ wsX30, w ∈ wsX3_init := by decide +kernel
  refine lv_aload_n hx hb dX3_init_0 rfl (lv_at hl 0 rfl) ?_
  refine W.objInit hx hb hown (hts (.methodLink RX3 3 objectInit) (by decide +kernel)) (hts (.instanceMethod objectInit) (by decide +kernel)) (hts (.code objectInit ⟨#[0xb1]⟩ 1 none) (by decide +kernel)) rfl (by rw [hml]; exact hl.1) rfl dX3_init_1 (Nat.le_of_ble_eq_true rfl) (Nat.le_of_ble_eq_true rfl) ?_
  refine W.eq (g2 := F0 m 4 ls []) rfl ?_
  refine lv_aload_n hx hb dX3_init_4 rfl (lv_at hl 0 rfl) ?_
  refine lv_iconst (v := 0) hx hb dX3_init_5 (by decide) ?_
  refine zput (D := D) (ci := 3) (v := .int 0) (ty := .boolean) hx hb hts hiX3 tyX3 tyX3_ok nmX3 hown hK hw hS 0 rfl rfl 0 (by decide) (hts (.fieldLink RX3 9 "BeardPass$LandReader" "growsTold" "Z") (by decide +kernel)) (fun _ h9 => h9) rfl (by decide +kernel) rfl rfl (Nat.le_of_ble_eq_true rfl) dX3_init_6 [(h0, .inr (3, [.int 0, .int 0, .int 0]))] rfl (fun H locs hw hS => ?_)
  refine lv_aload_n hx hb dX3_init_9 rfl (lv_at hl 0 rfl) ?_
  refine lv_iconst (v := 0) hx hb dX3_init_10 (by decide) ?_
  refine zput (D := D) (ci := 3) (v := .int 0) (ty := .boolean) hx hb hts hiX3 tyX3 tyX3_ok nmX3 hown hK hw hS 0 rfl rfl 1 (by decide) (hts (.fieldLink RX3 15 "BeardPass$LandReader" "inchTold" "Z") (by decide +kernel)) (fun _ h9 => h9) rfl (by decide +kernel) rfl rfl (Nat.le_of_ble_eq_true rfl) dX3_init_11 [(h0, .inr (3, [.int 0, .int 0, .int 0]))] rfl (fun H locs hw hS => ?_)
  refine lv_aload_n hx hb dX3_init_14 rfl (lv_at hl 0 rfl) ?_
  refine lv_iconst (v := 0) hx hb dX3_init_15 (by decide) ?_
  refine zput (D := D) (ci := 3) (v := .int 0) (ty := .boolean) hx hb hts hiX3 tyX3 tyX3_ok nmX3 hown hK hw hS 0 rfl rfl 2 (by decide) (hts (.fieldLink RX3 18 "BeardPass$LandReader" "readsTold" "Z") (by decide +kernel)) (fun _ h9 => h9) rfl (by decide +kernel) rfl rfl (Nat.le_of_ble_eq_true rfl) dX3_init_16 [(h0, .inr (3, [.int 0, .int 0, .int 0]))] rfl (fun H locs hw hS => ?_)
  exact zvret hx hb hr hlocks () rfl (trivial) hw [0] rfl (rfl) hS (Nat.le_of_ble_eq_true rfl) (Nat.le_of_ble_eq_true rfl) dX3_init_19

set_option maxHeartbeats 4000000 in
set_option maxRecDepth 100000 in
/-- Frontier(land) -/
theorem c_X0_init (l : Launch) (D : va_G) (ct : Nat → ClassId) (h0 : Nat) (h1 : Nat)  : zC l yX0_init wsX0_init ({ frames := 1, cells := 0, slots := 0, locals := 80 }) D ct [] [.ref h0, .ref h1] [(h0, .inr (0, [.null]))] (S := Unit) (fun _ => none) (fun _ => True) (fun _ => [(h0, .inr (0, [.ref h1]))]) 0 0 := by
  refine zofW cX0_init 2 none (by decide) rfl (Nat.le_of_ble_eq_true rfl) ?_
  intro p e s m below meth c A hx hb hr hml hts hown hlocks hname hK hA hZ hN H locs hw hS ls hl
  have hown : s.vm.findClass RX0 = some m.cls := hown
  have hl : lv_has ls 2 [(0, .ref h0), (1, .ref h1)] := hl
  have hiX0 : ∀ w ∈ wsX00, w ∈ wsX0_init := by decide +kernel
  refine lv_aload_n hx hb dX0_init_0 rfl (lv_at hl 0 rfl) ?_
  refine W.objInit hx hb hown (hts (.methodLink RX0 3 objectInit) (by decide +kernel)) (hts (.instanceMethod objectInit) (by decide +kernel)) (hts (.code objectInit ⟨#[0xb1]⟩ 1 none) (by decide +kernel)) rfl (by rw [hml]; exact hl.1) rfl dX0_init_1 (Nat.le_of_ble_eq_true rfl) (Nat.le_of_ble_eq_true rfl) ?_
  refine W.eq (g2 := F0 m 4 ls []) rfl ?_
  refine lv_aload_n hx hb dX0_init_4 rfl (lv_at hl 0 rfl) ?_
  refine lv_aload_n hx hb dX0_init_5 rfl (lv_at hl 1 rfl) ?_
  refine zputF (D := D) (ci := 0) (v := .ref h1) (ty := (.object "BeardPass$Land")) hx hb hts hiX0 tyX0 tyX0_ok nmX0 hown hK hw hS 0 rfl rfl 0 (by decide) (hts (.fieldLink RX0 9 "BeardPass$Frontier" "land" "LBeardPass$Land;") (by decide +kernel)) (fun _ h9 => h9) rfl hname rfl (by decide +kernel) rfl rfl (Nat.le_of_ble_eq_true rfl) dX0_init_6 [(h0, .inr (0, [.ref h1]))] rfl (fun H locs hw hS => ?_)
  exact zvret hx hb hr hlocks () rfl (trivial) hw [0] rfl (rfl) hS (Nat.le_of_ble_eq_true rfl) (Nat.le_of_ble_eq_true rfl) dX0_init_9

set_option maxHeartbeats 4000000 in
set_option maxRecDepth 100000 in
/-- Law() -/
theorem c_X4_init (l : Launch) (D : va_G) (ct : Nat → ClassId) (h0 : Nat)  : zC l yX4_init wsX4_init ({ frames := 1, cells := 2, slots := 1032, locals := 80 }) D ct [] [.ref h0] [(h0, .inr (4, [.null, .null, .int 0]))] (S := Nat → Nat) (fun u => none) (fun u => True) (fun u => [(h0, .inr (4, [.ref (u 0), .ref (u 1), .int 0])), (u 0, .inl (ct 0, 1000, .inl (fun _ => 0))), (u 1, .inl (ct 0, 32, .inl (fun _ => 0)))]) 2 1032 := by
  refine zofW cX4_init 1 none (by decide) rfl (Nat.le_of_ble_eq_true rfl) ?_
  intro p e s m below meth c A hx hb hr hml hts hown hlocks hname hK hA hZ hN H locs hw hS ls hl
  have hown : s.vm.findClass RX4 = some m.cls := hown
  have hl : lv_has ls 1 [(0, .ref h0)] := hl
  have hiX4 : ∀ w ∈ wsX40, w ∈ wsX4_init := by decide +kernel
  refine lv_aload_n hx hb dX4_init_0 rfl (lv_at hl 0 rfl) ?_
  refine W.objInit hx hb hown (hts (.methodLink RX4 3 objectInit) (by decide +kernel)) (hts (.instanceMethod objectInit) (by decide +kernel)) (hts (.code objectInit ⟨#[0xb1]⟩ 1 none) (by decide +kernel)) rfl (by rw [hml]; exact hl.1) rfl dX4_init_1 (Nat.le_of_ble_eq_true rfl) (Nat.le_of_ble_eq_true rfl) ?_
  refine W.eq (g2 := F0 m 4 ls []) rfl ?_
  refine lv_aload_n hx hb dX4_init_4 rfl (lv_at hl 0 rfl) ?_
  refine lv_sipush (v := 1000) hx hb dX4_init_5 (by decide) ?_
  refine znewa (atype := .int) hx hb (hts (.arrayClass .int) (by decide +kernel)) 0 rfl hK hw hS hA 1000 (1000, .inl (fun _ => 0)) (fun _ => rfl) (by decide) (by decide) (by decide) (Nat.le_of_ble_eq_true rfl) (Nat.le_of_ble_eq_true rfl) dX4_init_8 (fun q1 H hw hS => ?_)
  have hw : zPD D A [(h0, .inr (4, [.null, .null, .int 0])), (q1, .inl (ct 0, 1000, .inl (fun _ => 0)))] H := hw
  refine zputF (D := D) (ci := 4) (v := .ref q1) (ty := (.array .int)) hx hb hts hiX4 tyX4 tyX4_ok nmX4 hown hK hw hS 0 rfl rfl 0 (by decide) (hts (.fieldLink RX4 9 "BeardPass$Law" "code" "[I") (by decide +kernel)) (fun _ h9 => h9) rfl hname rfl (by decide +kernel) rfl rfl (Nat.le_of_ble_eq_true rfl) dX4_init_10 [(h0, .inr (4, [.ref q1, .null, .int 0])), (q1, .inl (ct 0, 1000, .inl (fun _ => 0)))] rfl (fun H locs hw hS => ?_)
  refine lv_aload_n hx hb dX4_init_13 rfl (lv_at hl 0 rfl) ?_
  refine lv_bipush (v := 32) hx hb dX4_init_14 (by decide) ?_
  refine znewa (atype := .int) hx hb (hts (.arrayClass .int) (by decide +kernel)) 0 rfl hK hw hS hA 32 (32, .inl (fun _ => 0)) (fun _ => rfl) (by decide) (by decide) (by decide) (Nat.le_of_ble_eq_true rfl) (Nat.le_of_ble_eq_true rfl) dX4_init_16 (fun q2 H hw hS => ?_)
  have hw : zPD D A [(h0, .inr (4, [.ref q1, .null, .int 0])), (q1, .inl (ct 0, 1000, .inl (fun _ => 0))), (q2, .inl (ct 0, 32, .inl (fun _ => 0)))] H := hw
  refine zputF (D := D) (ci := 4) (v := .ref q2) (ty := (.array .int)) hx hb hts hiX4 tyX4 tyX4_ok nmX4 hown hK hw hS 0 rfl rfl 1 (by decide) (hts (.fieldLink RX4 15 "BeardPass$Law" "stack" "[I") (by decide +kernel)) (fun _ h9 => h9) rfl hname rfl (by decide +kernel) rfl rfl (Nat.le_of_ble_eq_true rfl) dX4_init_18 [(h0, .inr (4, [.ref q1, .ref q2, .int 0])), (q1, .inl (ct 0, 1000, .inl (fun _ => 0))), (q2, .inl (ct 0, 32, .inl (fun _ => 0)))] rfl (fun H locs hw hS => ?_)
  refine lv_aload_n hx hb dX4_init_21 rfl (lv_at hl 0 rfl) ?_
  refine lv_iconst (v := 0) hx hb dX4_init_22 (by decide) ?_
  refine zput (D := D) (ci := 4) (v := .int 0) (ty := .int) hx hb hts hiX4 tyX4 tyX4_ok nmX4 hown hK hw hS 0 rfl rfl 2 (by decide) (hts (.fieldLink RX4 18 "BeardPass$Law" "size" "I") (by decide +kernel)) (fun _ h9 => h9) rfl (by decide +kernel) rfl rfl (Nat.le_of_ble_eq_true rfl) dX4_init_23 [(h0, .inr (4, [.ref q1, .ref q2, .int 0])), (q1, .inl (ct 0, 1000, .inl (fun _ => 0))), (q2, .inl (ct 0, 32, .inl (fun _ => 0)))] rfl (fun H locs hw hS => ?_)
  exact zvret hx hb hr hlocks (fun j => ([q1, q2] : List Nat).getD j 0) rfl (trivial) hw [0, 1, 2] rfl (rfl) hS (Nat.le_of_ble_eq_true rfl) (Nat.le_of_ble_eq_true rfl) dX4_init_26

set_option maxHeartbeats 4000000 in
set_option maxRecDepth 100000 in
/-- Law.add(step): behind the steps that are there -/
theorem c_X4_add (l : Launch) (D : va_G) (ct : Nat → ClassId) (h0 : Nat) (a0 : Nat) (a1 : Nat) (n : Nat) (f : Nat → Int32) (v : Int32) (hn : n < 1000) : zC l yX4_add wsX4_add ({ frames := 1, cells := 0, slots := 0, locals := 80 }) D ct [] [.ref h0, .int v] [(h0, .inr (4, [.ref a0, .ref a1, .int (nI n)])), (a0, .inl (ct 0, 1000, .inl f))] (S := Unit) (fun _ => none) (fun _ => True) (fun _ => [(h0, .inr (4, [.ref a0, .ref a1, .int (nI (n + 1))])), (a0, .inl (ct 0, 1000, .inl (upd f n v)))]) 0 0 := by
  refine zofW cX4_add 2 none (by decide) rfl (Nat.le_of_ble_eq_true rfl) ?_
  intro p e s m below meth c A hx hb hr hml hts hown hlocks hname hK hA hZ hN H locs hw hS ls hl
  have hown : s.vm.findClass RX4 = some m.cls := hown
  have hl : lv_has ls 2 [(0, .ref h0), (1, .int v)] := hl
  have hiX4 : ∀ w ∈ wsX40, w ∈ wsX4_add := by decide +kernel
  refine lv_aload_n hx hb dX4_add_0 rfl (lv_at hl 0 rfl) ?_
  refine va_get (D := D) (ci := 4) (v := .int (nI n)) hx hb hts hiX4 hown hK hw.1 0 rfl rfl 2 (by decide) (hts (.fieldLink RX4 18 "BeardPass$Law" "size" "I") (by decide +kernel)) (fun _ h9 => h9) rfl dX4_add_1 ?_
  refine lv_aload_n hx hb dX4_add_4 rfl (lv_at hl 0 rfl) ?_
  refine va_get (D := D) (ci := 4) (v := .ref a0) hx hb hts hiX4 hown hK hw.1 0 rfl rfl 0 (by decide) (hts (.fieldLink RX4 9 "BeardPass$Law" "code" "[I") (by decide +kernel)) (fun _ h9 => h9) rfl dX4_add_5 ?_
  refine va_alen hx hb hK hw.1 1 0 rfl rfl (v := nI 1000) rfl dX4_add_8 ?_
  refine lv_icmp_ge (tgt := 32) hx hb dX4_add_9 (by decide) (fun h => absurd h (nI_ge hn (by decide))) (fun _ => ?_)
  refine lv_aload_n hx hb dX4_add_12 rfl (lv_at hl 0 rfl) ?_
  refine va_get (D := D) (ci := 4) (v := .ref a0) hx hb hts hiX4 hown hK hw.1 0 rfl rfl 0 (by decide) (hts (.fieldLink RX4 9 "BeardPass$Law" "code" "[I") (by decide +kernel)) (fun _ h9 => h9) rfl dX4_add_13 ?_
  refine lv_aload_n hx hb dX4_add_16 rfl (lv_at hl 0 rfl) ?_
  refine va_get (D := D) (ci := 4) (v := .int (nI n)) hx hb hts hiX4 hown hK hw.1 0 rfl rfl 2 (by decide) (hts (.fieldLink RX4 18 "BeardPass$Law" "size" "I") (by decide +kernel)) (fun _ h9 => h9) rfl dX4_add_17 ?_
  refine lv_iload_n hx hb dX4_add_20 rfl (lv_at hl 1 rfl) ?_
  refine ziast hx hb hK hw hS 1 rfl n (rfl) (by omega) (by decide) dX4_add_21 [(h0, .inr (4, [.ref a0, .ref a1, .int (nI n)])), (a0, .inl (ct 0, 1000, .inl (upd f n v)))] rfl (fun H locs hw hS => ?_)
  refine lv_aload_n hx hb dX4_add_22 rfl (lv_at hl 0 rfl) ?_
  refine lv_dup hx hb dX4_add_23 rfl ?_
  refine va_get (D := D) (ci := 4) (v := .int (nI n)) hx hb hts hiX4 hown hK hw.1 0 rfl rfl 2 (by decide) (hts (.fieldLink RX4 18 "BeardPass$Law" "size" "I") (by decide +kernel)) (fun _ h9 => h9) rfl dX4_add_24 ?_
  refine lv_iconst (v := 1) hx hb dX4_add_27 (by decide) ?_
  refine lv_iadd hx hb dX4_add_28 ?_
  refine ztop (.int (nI (n + 1))) (congrArg Value.int (nI_add _ _)) ?_
  refine zput (D := D) (ci := 4) (v := .int (nI (n + 1))) (ty := .int) hx hb hts hiX4 tyX4 tyX4_ok nmX4 hown hK hw hS 0 rfl rfl 2 (by decide) (hts (.fieldLink RX4 18 "BeardPass$Law" "size" "I") (by decide +kernel)) (fun _ h9 => h9) rfl (by decide +kernel) rfl rfl (Nat.le_of_ble_eq_true rfl) dX4_add_29 [(h0, .inr (4, [.ref a0, .ref a1, .int (nI (n + 1))])), (a0, .inl (ct 0, 1000, .inl (upd f n v)))] rfl (fun H locs hw hS => ?_)
  exact zvret hx hb hr hlocks () rfl (trivial) hw [0, 1] rfl (rfl) hS (Nat.le_of_ble_eq_true rfl) (Nat.le_of_ble_eq_true rfl) dX4_add_32

set_option maxHeartbeats 4000000 in
set_option maxRecDepth 100000 in
/-- Law.beAsUntold(): not long < asked -/
theorem c_X4_untold (l : Launch) (D : va_G) (ct : Nat → ClassId) (h0 : Nat) (a0 : Nat) (a1 : Nat) (n : Int32) (f : Nat → Int32)  : zC l yX4_beAsUntold wsX4_beAsUntold ({ frames := 2, cells := 0, slots := 0, locals := 120 }) D ct [] [.ref h0] [(h0, .inr (4, [.ref a0, .ref a1, .int n])), (a0, .inl (ct 0, 1000, .inl f))] (S := Unit) (fun _ => none) (fun _ => True) (fun _ => [(h0, .inr (4, [.ref a0, .ref a1, .int (nI (0 + 1 + 1 + 1 + 1))])), (a0, .inl (ct 0, 1000, .inl (upd (upd (upd (upd f 0 (-1)) (0 + 1) (-3)) (0 + 1 + 1) (-8)) (0 + 1 + 1 + 1) (-5))))]) 0 0 := by
  refine zofW cX4_beAsUntold 1 none (by decide) rfl (Nat.le_of_ble_eq_true rfl) ?_
  intro p e s m below meth c A hx hb hr hml hts hown hlocks hname hK hA hZ hN H locs hw hS ls hl
  have hown : s.vm.findClass RX4 = some m.cls := hown
  have hl : lv_has ls 1 [(0, .ref h0)] := hl
  have hiX4 : ∀ w ∈ wsX40, w ∈ wsX4_beAsUntold := by decide +kernel
  refine lv_aload_n hx hb dX4_beAsUntold_0 rfl (lv_at hl 0 rfl) ?_
  refine lv_iconst (v := 0) hx hb dX4_beAsUntold_1 (by decide) ?_
  refine zput (D := D) (ci := 4) (v := .int 0) (ty := .int) hx hb hts hiX4 tyX4 tyX4_ok nmX4 hown hK hw hS 0 rfl rfl 2 (by decide) (hts (.fieldLink RX4 18 "BeardPass$Law" "size" "I") (by decide +kernel)) (fun _ h9 => h9) rfl (by decide +kernel) rfl rfl (Nat.le_of_ble_eq_true rfl) dX4_beAsUntold_2 [(h0, .inr (4, [.ref a0, .ref a1, .int 0])), (a0, .inl (ct 0, 1000, .inl f))] rfl (fun H locs hw hS => ?_)
  refine lv_aload_n hx hb dX4_beAsUntold_5 rfl (lv_at hl 0 rfl) ?_
  refine lv_iconst (v := (-1)) hx hb dX4_beAsUntold_6 (by decide) ?_
  refine zcall2 (va_runV (As := [.int (-1)]) (rest := []) ⟨hx, hb, hml, hown, hts⟩ (c_X4_add l D ct h0 a0 a1 0 f (-1) (by decide) H.size) (cwV 1 hts gX4_beAsUntold_X4_add rfl rfl rfl (by decide +kernel) ⟨Nat.le_of_ble_eq_true rfl, Nat.le_of_ble_eq_true rfl⟩) (zpreV hK hw hS hA zZ.nil hN [0, 1] rfl rfl 4 0 rfl rfl) rfl rfl hl.1 rfl (lv_room (Nat.le_of_ble_eq_true rfl)) dX4_beAsUntold_7 ⟨Nat.le_of_ble_eq_true rfl, Nat.le_of_ble_eq_true rfl⟩) hw hS hA [0, 1] [] rfl rfl rfl rfl (fun _ H locs hp1 hw hS => ?_)
  have hw : zPD D A [(h0, .inr (4, [.ref a0, .ref a1, .int (nI (0 + 1))])), (a0, .inl (ct 0, 1000, .inl (upd f 0 (-1))))] H := hw
  refine zfr 10 [] rfl rfl ?_
  refine lv_aload_n hx hb dX4_beAsUntold_10 rfl (lv_at hl 0 rfl) ?_
  refine lv_bipush (v := (-3)) hx hb dX4_beAsUntold_11 (by decide) ?_
  refine zcall2 (va_runV (As := [.int (-3)]) (rest := []) ⟨hx, hb, hml, hown, hts⟩ (c_X4_add l D ct h0 a0 a1 (0 + 1) (upd f 0 (-1)) (-3) (by decide) H.size) (cwV 1 hts gX4_beAsUntold_X4_add rfl rfl rfl (by decide +kernel) ⟨Nat.le_of_ble_eq_true rfl, Nat.le_of_ble_eq_true rfl⟩) (zpreV hK hw hS hA zZ.nil hN [0, 1] rfl rfl 4 0 rfl rfl) rfl rfl hl.1 rfl (lv_room (Nat.le_of_ble_eq_true rfl)) dX4_beAsUntold_13 ⟨Nat.le_of_ble_eq_true rfl, Nat.le_of_ble_eq_true rfl⟩) hw hS hA [0, 1] [] rfl rfl rfl rfl (fun _ H locs hp2 hw hS => ?_)
  have hw : zPD D A [(h0, .inr (4, [.ref a0, .ref a1, .int (nI ((0 + 1) + 1))])), (a0, .inl (ct 0, 1000, .inl (upd (upd f 0 (-1)) (0 + 1) (-3))))] H := hw
  refine zfr 16 [] rfl rfl ?_
  refine lv_aload_n hx hb dX4_beAsUntold_16 rfl (lv_at hl 0 rfl) ?_
  refine lv_bipush (v := (-8)) hx hb dX4_beAsUntold_17 (by decide) ?_
  refine zcall2 (va_runV (As := [.int (-8)]) (rest := []) ⟨hx, hb, hml, hown, hts⟩ (c_X4_add l D ct h0 a0 a1 ((0 + 1) + 1) (upd (upd f 0 (-1)) (0 + 1) (-3)) (-8) (by decide) H.size) (cwV 1 hts gX4_beAsUntold_X4_add rfl rfl rfl (by decide +kernel) ⟨Nat.le_of_ble_eq_true rfl, Nat.le_of_ble_eq_true rfl⟩) (zpreV hK hw hS hA zZ.nil hN [0, 1] rfl rfl 4 0 rfl rfl) rfl rfl hl.1 rfl (lv_room (Nat.le_of_ble_eq_true rfl)) dX4_beAsUntold_19 ⟨Nat.le_of_ble_eq_true rfl, Nat.le_of_ble_eq_true rfl⟩) hw hS hA [0, 1] [] rfl rfl rfl rfl (fun _ H locs hp3 hw hS => ?_)
  have hw : zPD D A [(h0, .inr (4, [.ref a0, .ref a1, .int (nI (((0 + 1) + 1) + 1))])), (a0, .inl (ct 0, 1000, .inl (upd (upd (upd f 0 (-1)) (0 + 1) (-3)) ((0 + 1) + 1) (-8))))] H := hw
  refine zfr 22 [] rfl rfl ?_
  refine lv_aload_n hx hb dX4_beAsUntold_22 rfl (lv_at hl 0 rfl) ?_
  refine lv_bipush (v := (-5)) hx hb dX4_beAsUntold_23 (by decide) ?_
  refine zcall2 (va_runV (As := [.int (-5)]) (rest := []) ⟨hx, hb, hml, hown, hts⟩ (c_X4_add l D ct h0 a0 a1 (((0 + 1) + 1) + 1) (upd (upd (upd f 0 (-1)) (0 + 1) (-3)) ((0 + 1) + 1) (-8)) (-5) (by decide) H.size) (cwV 1 hts gX4_beAsUntold_X4_add rfl rfl rfl (by decide +kernel) ⟨Nat.le_of_ble_eq_true rfl, Nat.le_of_ble_eq_true rfl⟩) (zpreV hK hw hS hA zZ.nil hN [0, 1] rfl rfl 4 0 rfl rfl) rfl rfl hl.1 rfl (lv_room (Nat.le_of_ble_eq_true rfl)) dX4_beAsUntold_25 ⟨Nat.le_of_ble_eq_true rfl, Nat.le_of_ble_eq_true rfl⟩) hw hS hA [0, 1] [] rfl rfl rfl rfl (fun _ H locs hp4 hw hS => ?_)
  have hw : zPD D A [(h0, .inr (4, [.ref a0, .ref a1, .int (nI ((((0 + 1) + 1) + 1) + 1))])), (a0, .inl (ct 0, 1000, .inl (upd (upd (upd (upd f 0 (-1)) (0 + 1) (-3)) ((0 + 1) + 1) (-8)) (((0 + 1) + 1) + 1) (-5))))] H := hw
  refine zfr 28 [] rfl rfl ?_
  exact zvret hx hb hr hlocks () rfl (trivial) hw [0, 1] rfl (rfl) hS (Nat.le_of_ble_eq_true rfl) (Nat.le_of_ble_eq_true rfl) dX4_beAsUntold_28

set_option maxHeartbeats 4000000 in
set_option maxRecDepth 100000 in
/-- Land(): nothing told -/
theorem c_X2_init (l : Launch) (D : va_G) (ct : Nat → ClassId) (h0 : Nat)  : zC l yX2_init wsX2_init ({ frames := 3, cells := 11, slots := 1083, locals := 160 }) D ct [] [.ref h0] [(h0, .inr (2, [.null, .null, .null, .null, .null, .null, .null, .null, .null, .int 0, .int 0, .int 0, .int 0]))] (S := Nat → Nat) (fun u => none) (fun u => True) (fun u => [(h0, .inr (2, [.ref (u 0), .ref (u 1), .ref (u 2), .ref (u 3), .ref (u 4), .ref (u 5), .ref (u 6), .ref (u 7), .ref (u 8), .int 0, .int 0, .int 1, .int 2])), (u 0, .inl (ct 0, 6, .inl (fun _ => 0))), (u 1, .inl (ct 0, 6, .inl (fun _ => 0))), (u 2, .inl (ct 1, 6, .inr (.inl (fun _ => 0)))), (u 3, .inl (ct 0, 6, .inl (fun _ => 0))), (u 4, .inl (ct 0, 6, .inl (fun _ => 0))), (u 5, .inl (ct 0, 6, .inl (fun _ => 0))), (u 6, .inl (ct 0, 6, .inl (fun _ => 0))), (u 7, .inl (ct 1, 6, .inr (.inl (fun _ => 0)))), (u 8, .inr (4, [.ref (u 9), .ref (u 10), .int (nI (0 + 1 + 1 + 1 + 1))])), (u 9, .inl (ct 0, 1000, .inl (upd (upd (upd (upd (fun _ => 0) 0 (-1)) (0 + 1) (-3)) (0 + 1 + 1) (-8)) (0 + 1 + 1 + 1) (-5)))), (u 10, .inl (ct 0, 32, .inl (fun _ => 0)))]) 11 1083 := by
  refine zofW cX2_init 1 none (by decide) rfl (Nat.le_of_ble_eq_true rfl) ?_
  intro p e s m below meth c A hx hb hr hml hts hown hlocks hname hK hA hZ hN H locs hw hS ls hl
  have hown : s.vm.findClass RX2 = some m.cls := hown
  have hl : lv_has ls 1 [(0, .ref h0)] := hl
  have hiX2 : ∀ w ∈ wsX20, w ∈ wsX2_init := by decide +kernel
  have hiX4 : ∀ w ∈ wsX40, w ∈ wsX2_init := by decide +kernel
  refine lv_aload_n hx hb dX2_init_0 rfl (lv_at hl 0 rfl) ?_
  refine W.objInit hx hb hown (hts (.methodLink RX2 3 objectInit) (by decide +kernel)) (hts (.instanceMethod objectInit) (by decide +kernel)) (hts (.code objectInit ⟨#[0xb1]⟩ 1 none) (by decide +kernel)) rfl (by rw [hml]; exact hl.1) rfl dX2_init_1 (Nat.le_of_ble_eq_true rfl) (Nat.le_of_ble_eq_true rfl) ?_
  refine W.eq (g2 := F0 m 4 ls []) rfl ?_
  refine lv_aload_n hx hb dX2_init_4 rfl (lv_at hl 0 rfl) ?_
  refine lv_bipush (v := 6) hx hb dX2_init_5 (by decide) ?_
  refine znewa (atype := .int) hx hb (hts (.arrayClass .int) (by decide +kernel)) 0 rfl hK hw hS hA 6 (6, .inl (fun _ => 0)) (fun _ => rfl) (by decide) (by decide) (by decide) (Nat.le_of_ble_eq_true rfl) (Nat.le_of_ble_eq_true rfl) dX2_init_7 (fun q1 H hw hS => ?_)
  have hw : zPD D A [(h0, .inr (2, [.null, .null, .null, .null, .null, .null, .null, .null, .null, .int 0, .int 0, .int 0, .int 0])), (q1, .inl (ct 0, 6, .inl (fun _ => 0)))] H := hw
  refine zputF (D := D) (ci := 2) (v := .ref q1) (ty := (.array .int)) hx hb hts hiX2 tyX2 tyX2_ok nmX2 hown hK hw hS 0 rfl rfl 0 (by decide) (hts (.fieldLink RX2 9 "BeardPass$Land" "asks" "[I") (by decide +kernel)) (fun _ h9 => h9) rfl hname rfl (by decide +kernel) rfl rfl (Nat.le_of_ble_eq_true rfl) dX2_init_9 [(h0, .inr (2, [.ref q1, .null, .null, .null, .null, .null, .null, .null, .null, .int 0, .int 0, .int 0, .int 0])), (q1, .inl (ct 0, 6, .inl (fun _ => 0)))] rfl (fun H locs hw hS => ?_)
  refine lv_aload_n hx hb dX2_init_12 rfl (lv_at hl 0 rfl) ?_
  refine lv_bipush (v := 6) hx hb dX2_init_13 (by decide) ?_
  refine znewa (atype := .int) hx hb (hts (.arrayClass .int) (by decide +kernel)) 0 rfl hK hw hS hA 6 (6, .inl (fun _ => 0)) (fun _ => rfl) (by decide) (by decide) (by decide) (Nat.le_of_ble_eq_true rfl) (Nat.le_of_ble_eq_true rfl) dX2_init_15 (fun q2 H hw hS => ?_)
  have hw : zPD D A [(h0, .inr (2, [.ref q1, .null, .null, .null, .null, .null, .null, .null, .null, .int 0, .int 0, .int 0, .int 0])), (q1, .inl (ct 0, 6, .inl (fun _ => 0))), (q2, .inl (ct 0, 6, .inl (fun _ => 0)))] H := hw
  refine zputF (D := D) (ci := 2) (v := .ref q2) (ty := (.array .int)) hx hb hts hiX2 tyX2 tyX2_ok nmX2 hown hK hw hS 0 rfl rfl 1 (by decide) (hts (.fieldLink RX2 15 "BeardPass$Land" "roads" "[I") (by decide +kernel)) (fun _ h9 => h9) rfl hname rfl (by decide +kernel) rfl rfl (Nat.le_of_ble_eq_true rfl) dX2_init_17 [(h0, .inr (2, [.ref q1, .ref q2, .null, .null, .null, .null, .null, .null, .null, .int 0, .int 0, .int 0, .int 0])), (q1, .inl (ct 0, 6, .inl (fun _ => 0))), (q2, .inl (ct 0, 6, .inl (fun _ => 0)))] rfl (fun H locs hw hS => ?_)
  refine lv_aload_n hx hb dX2_init_20 rfl (lv_at hl 0 rfl) ?_
  refine lv_bipush (v := 6) hx hb dX2_init_21 (by decide) ?_
  refine znewa (atype := .long) hx hb (hts (.arrayClass .long) (by decide +kernel)) 1 rfl hK hw hS hA 6 (6, .inr (.inl (fun _ => 0))) (fun _ => rfl) (by decide) (by decide) (by decide) (Nat.le_of_ble_eq_true rfl) (Nat.le_of_ble_eq_true rfl) dX2_init_23 (fun q3 H hw hS => ?_)
  have hw : zPD D A [(h0, .inr (2, [.ref q1, .ref q2, .null, .null, .null, .null, .null, .null, .null, .int 0, .int 0, .int 0, .int 0])), (q1, .inl (ct 0, 6, .inl (fun _ => 0))), (q2, .inl (ct 0, 6, .inl (fun _ => 0))), (q3, .inl (ct 1, 6, .inr (.inl (fun _ => 0))))] H := hw
  refine zputF (D := D) (ci := 2) (v := .ref q3) (ty := (.array .long)) hx hb hts hiX2 tyX2 tyX2_ok nmX2 hown hK hw hS 0 rfl rfl 2 (by decide) (hts (.fieldLink RX2 18 "BeardPass$Land" "townNames" "[J") (by decide +kernel)) (fun _ h9 => h9) rfl hname rfl (by decide +kernel) rfl rfl (Nat.le_of_ble_eq_true rfl) dX2_init_25 [(h0, .inr (2, [.ref q1, .ref q2, .ref q3, .null, .null, .null, .null, .null, .null, .int 0, .int 0, .int 0, .int 0])), (q1, .inl (ct 0, 6, .inl (fun _ => 0))), (q2, .inl (ct 0, 6, .inl (fun _ => 0))), (q3, .inl (ct 1, 6, .inr (.inl (fun _ => 0))))] rfl (fun H locs hw hS => ?_)
  refine lv_aload_n hx hb dX2_init_28 rfl (lv_at hl 0 rfl) ?_
  refine lv_bipush (v := 6) hx hb dX2_init_29 (by decide) ?_
  refine znewa (atype := .int) hx hb (hts (.arrayClass .int) (by decide +kernel)) 0 rfl hK hw hS hA 6 (6, .inl (fun _ => 0)) (fun _ => rfl) (by decide) (by decide) (by decide) (Nat.le_of_ble_eq_true rfl) (Nat.le_of_ble_eq_true rfl) dX2_init_31 (fun q4 H hw hS => ?_)
  have hw : zPD D A [(h0, .inr (2, [.ref q1, .ref q2, .ref q3, .null, .null, .null, .null, .null, .null, .int 0, .int 0, .int 0, .int 0])), (q1, .inl (ct 0, 6, .inl (fun _ => 0))), (q2, .inl (ct 0, 6, .inl (fun _ => 0))), (q3, .inl (ct 1, 6, .inr (.inl (fun _ => 0)))), (q4, .inl (ct 0, 6, .inl (fun _ => 0)))] H := hw
  refine zputF (D := D) (ci := 2) (v := .ref q4) (ty := (.array .int)) hx hb hts hiX2 tyX2 tyX2_ok nmX2 hown hK hw hS 0 rfl rfl 3 (by decide) (hts (.fieldLink RX2 22 "BeardPass$Land" "kinds" "[I") (by decide +kernel)) (fun _ h9 => h9) rfl hname rfl (by decide +kernel) rfl rfl (Nat.le_of_ble_eq_true rfl) dX2_init_33 [(h0, .inr (2, [.ref q1, .ref q2, .ref q3, .ref q4, .null, .null, .null, .null, .null, .int 0, .int 0, .int 0, .int 0])), (q1, .inl (ct 0, 6, .inl (fun _ => 0))), (q2, .inl (ct 0, 6, .inl (fun _ => 0))), (q3, .inl (ct 1, 6, .inr (.inl (fun _ => 0)))), (q4, .inl (ct 0, 6, .inl (fun _ => 0)))] rfl (fun H locs hw hS => ?_)
  refine lv_aload_n hx hb dX2_init_36 rfl (lv_at hl 0 rfl) ?_
  refine lv_bipush (v := 6) hx hb dX2_init_37 (by decide) ?_
  refine znewa (atype := .int) hx hb (hts (.arrayClass .int) (by decide +kernel)) 0 rfl hK hw hS hA 6 (6, .inl (fun _ => 0)) (fun _ => rfl) (by decide) (by decide) (by decide) (Nat.le_of_ble_eq_true rfl) (Nat.le_of_ble_eq_true rfl) dX2_init_39 (fun q5 H hw hS => ?_)
  have hw : zPD D A [(h0, .inr (2, [.ref q1, .ref q2, .ref q3, .ref q4, .null, .null, .null, .null, .null, .int 0, .int 0, .int 0, .int 0])), (q1, .inl (ct 0, 6, .inl (fun _ => 0))), (q2, .inl (ct 0, 6, .inl (fun _ => 0))), (q3, .inl (ct 1, 6, .inr (.inl (fun _ => 0)))), (q4, .inl (ct 0, 6, .inl (fun _ => 0))), (q5, .inl (ct 0, 6, .inl (fun _ => 0)))] H := hw
  refine zputF (D := D) (ci := 2) (v := .ref q5) (ty := (.array .int)) hx hb hts hiX2 tyX2 tyX2_ok nmX2 hown hK hw hS 0 rfl rfl 4 (by decide) (hts (.fieldLink RX2 25 "BeardPass$Land" "homes" "[I") (by decide +kernel)) (fun _ h9 => h9) rfl hname rfl (by decide +kernel) rfl rfl (Nat.le_of_ble_eq_true rfl) dX2_init_41 [(h0, .inr (2, [.ref q1, .ref q2, .ref q3, .ref q4, .ref q5, .null, .null, .null, .null, .int 0, .int 0, .int 0, .int 0])), (q1, .inl (ct 0, 6, .inl (fun _ => 0))), (q2, .inl (ct 0, 6, .inl (fun _ => 0))), (q3, .inl (ct 1, 6, .inr (.inl (fun _ => 0)))), (q4, .inl (ct 0, 6, .inl (fun _ => 0))), (q5, .inl (ct 0, 6, .inl (fun _ => 0)))] rfl (fun H locs hw hS => ?_)
  refine lv_aload_n hx hb dX2_init_44 rfl (lv_at hl 0 rfl) ?_
  refine lv_bipush (v := 6) hx hb dX2_init_45 (by decide) ?_
  refine znewa (atype := .int) hx hb (hts (.arrayClass .int) (by decide +kernel)) 0 rfl hK hw hS hA 6 (6, .inl (fun _ => 0)) (fun _ => rfl) (by decide) (by decide) (by decide) (Nat.le_of_ble_eq_true rfl) (Nat.le_of_ble_eq_true rfl) dX2_init_47 (fun q6 H hw hS => ?_)
  have hw : zPD D A [(h0, .inr (2, [.ref q1, .ref q2, .ref q3, .ref q4, .ref q5, .null, .null, .null, .null, .int 0, .int 0, .int 0, .int 0])), (q1, .inl (ct 0, 6, .inl (fun _ => 0))), (q2, .inl (ct 0, 6, .inl (fun _ => 0))), (q3, .inl (ct 1, 6, .inr (.inl (fun _ => 0)))), (q4, .inl (ct 0, 6, .inl (fun _ => 0))), (q5, .inl (ct 0, 6, .inl (fun _ => 0))), (q6, .inl (ct 0, 6, .inl (fun _ => 0)))] H := hw
  refine zputF (D := D) (ci := 2) (v := .ref q6) (ty := (.array .int)) hx hb hts hiX2 tyX2 tyX2_ok nmX2 hown hK hw hS 0 rfl rfl 5 (by decide) (hts (.fieldLink RX2 28 "BeardPass$Land" "beards" "[I") (by decide +kernel)) (fun _ h9 => h9) rfl hname rfl (by decide +kernel) rfl rfl (Nat.le_of_ble_eq_true rfl) dX2_init_49 [(h0, .inr (2, [.ref q1, .ref q2, .ref q3, .ref q4, .ref q5, .ref q6, .null, .null, .null, .int 0, .int 0, .int 0, .int 0])), (q1, .inl (ct 0, 6, .inl (fun _ => 0))), (q2, .inl (ct 0, 6, .inl (fun _ => 0))), (q3, .inl (ct 1, 6, .inr (.inl (fun _ => 0)))), (q4, .inl (ct 0, 6, .inl (fun _ => 0))), (q5, .inl (ct 0, 6, .inl (fun _ => 0))), (q6, .inl (ct 0, 6, .inl (fun _ => 0)))] rfl (fun H locs hw hS => ?_)
  refine lv_aload_n hx hb dX2_init_52 rfl (lv_at hl 0 rfl) ?_
  refine lv_bipush (v := 6) hx hb dX2_init_53 (by decide) ?_
  refine znewa (atype := .int) hx hb (hts (.arrayClass .int) (by decide +kernel)) 0 rfl hK hw hS hA 6 (6, .inl (fun _ => 0)) (fun _ => rfl) (by decide) (by decide) (by decide) (Nat.le_of_ble_eq_true rfl) (Nat.le_of_ble_eq_true rfl) dX2_init_55 (fun q7 H hw hS => ?_)
  have hw : zPD D A [(h0, .inr (2, [.ref q1, .ref q2, .ref q3, .ref q4, .ref q5, .ref q6, .null, .null, .null, .int 0, .int 0, .int 0, .int 0])), (q1, .inl (ct 0, 6, .inl (fun _ => 0))), (q2, .inl (ct 0, 6, .inl (fun _ => 0))), (q3, .inl (ct 1, 6, .inr (.inl (fun _ => 0)))), (q4, .inl (ct 0, 6, .inl (fun _ => 0))), (q5, .inl (ct 0, 6, .inl (fun _ => 0))), (q6, .inl (ct 0, 6, .inl (fun _ => 0))), (q7, .inl (ct 0, 6, .inl (fun _ => 0)))] H := hw
  refine zputF (D := D) (ci := 2) (v := .ref q7) (ty := (.array .int)) hx hb hts hiX2 tyX2 tyX2_ok nmX2 hown hK hw hS 0 rfl rfl 6 (by decide) (hts (.fieldLink RX2 31 "BeardPass$Land" "purses" "[I") (by decide +kernel)) (fun _ h9 => h9) rfl hname rfl (by decide +kernel) rfl rfl (Nat.le_of_ble_eq_true rfl) dX2_init_57 [(h0, .inr (2, [.ref q1, .ref q2, .ref q3, .ref q4, .ref q5, .ref q6, .ref q7, .null, .null, .int 0, .int 0, .int 0, .int 0])), (q1, .inl (ct 0, 6, .inl (fun _ => 0))), (q2, .inl (ct 0, 6, .inl (fun _ => 0))), (q3, .inl (ct 1, 6, .inr (.inl (fun _ => 0)))), (q4, .inl (ct 0, 6, .inl (fun _ => 0))), (q5, .inl (ct 0, 6, .inl (fun _ => 0))), (q6, .inl (ct 0, 6, .inl (fun _ => 0))), (q7, .inl (ct 0, 6, .inl (fun _ => 0)))] rfl (fun H locs hw hS => ?_)
  refine lv_aload_n hx hb dX2_init_60 rfl (lv_at hl 0 rfl) ?_
  refine lv_bipush (v := 6) hx hb dX2_init_61 (by decide) ?_
  refine znewa (atype := .long) hx hb (hts (.arrayClass .long) (by decide +kernel)) 1 rfl hK hw hS hA 6 (6, .inr (.inl (fun _ => 0))) (fun _ => rfl) (by decide) (by decide) (by decide) (Nat.le_of_ble_eq_true rfl) (Nat.le_of_ble_eq_true rfl) dX2_init_63 (fun q8 H hw hS => ?_)
  have hw : zPD D A [(h0, .inr (2, [.ref q1, .ref q2, .ref q3, .ref q4, .ref q5, .ref q6, .ref q7, .null, .null, .int 0, .int 0, .int 0, .int 0])), (q1, .inl (ct 0, 6, .inl (fun _ => 0))), (q2, .inl (ct 0, 6, .inl (fun _ => 0))), (q3, .inl (ct 1, 6, .inr (.inl (fun _ => 0)))), (q4, .inl (ct 0, 6, .inl (fun _ => 0))), (q5, .inl (ct 0, 6, .inl (fun _ => 0))), (q6, .inl (ct 0, 6, .inl (fun _ => 0))), (q7, .inl (ct 0, 6, .inl (fun _ => 0))), (q8, .inl (ct 1, 6, .inr (.inl (fun _ => 0))))] H := hw
  refine zputF (D := D) (ci := 2) (v := .ref q8) (ty := (.array .long)) hx hb hts hiX2 tyX2 tyX2_ok nmX2 hown hK hw hS 0 rfl rfl 7 (by decide) (hts (.fieldLink RX2 34 "BeardPass$Land" "personNames" "[J") (by decide +kernel)) (fun _ h9 => h9) rfl hname rfl (by decide +kernel) rfl rfl (Nat.le_of_ble_eq_true rfl) dX2_init_65 [(h0, .inr (2, [.ref q1, .ref q2, .ref q3, .ref q4, .ref q5, .ref q6, .ref q7, .ref q8, .null, .int 0, .int 0, .int 0, .int 0])), (q1, .inl (ct 0, 6, .inl (fun _ => 0))), (q2, .inl (ct 0, 6, .inl (fun _ => 0))), (q3, .inl (ct 1, 6, .inr (.inl (fun _ => 0)))), (q4, .inl (ct 0, 6, .inl (fun _ => 0))), (q5, .inl (ct 0, 6, .inl (fun _ => 0))), (q6, .inl (ct 0, 6, .inl (fun _ => 0))), (q7, .inl (ct 0, 6, .inl (fun _ => 0))), (q8, .inl (ct 1, 6, .inr (.inl (fun _ => 0))))] rfl (fun H locs hw hS => ?_)
  refine lv_aload_n hx hb dX2_init_68 rfl (lv_at hl 0 rfl) ?_
  refine znew (ci := 4) (C := RX4) (T := TX4) (N := 3) hx hb hts hiX4 tyX4 tyX4_ok hown (hts (.classLink RX2 37 RX4) (by decide +kernel)) (hts (.instantiable RX4 3) (by decide +kernel)) (hts (.initialized RX4) (by decide +kernel)) hK hw hS hA rfl [.null, .null, .int 0] rfl (Nat.le_of_ble_eq_true rfl) (Nat.le_of_ble_eq_true rfl) dX2_init_69 (fun q9 H hw hS => ?_)
  have hw : zPD D A [(h0, .inr (2, [.ref q1, .ref q2, .ref q3, .ref q4, .ref q5, .ref q6, .ref q7, .ref q8, .null, .int 0, .int 0, .int 0, .int 0])), (q1, .inl (ct 0, 6, .inl (fun _ => 0))), (q2, .inl (ct 0, 6, .inl (fun _ => 0))), (q3, .inl (ct 1, 6, .inr (.inl (fun _ => 0)))), (q4, .inl (ct 0, 6, .inl (fun _ => 0))), (q5, .inl (ct 0, 6, .inl (fun _ => 0))), (q6, .inl (ct 0, 6, .inl (fun _ => 0))), (q7, .inl (ct 0, 6, .inl (fun _ => 0))), (q8, .inl (ct 1, 6, .inr (.inl (fun _ => 0)))), (q9, .inr (4, [.null, .null, .int 0]))] H := hw
  refine lv_dup hx hb dX2_init_72 rfl ?_
  refine zcall2 (va_runIN (As := []) (rest := [.ref q9, .ref h0]) ⟨hx, hb, hml, hown, hts⟩ (c_X4_init l D ct q9 H.size) ⟨va_cnB 0 hts gX2_init_X4_init_n39 rfl rfl rfl (hN.1 (RX2, 39, yX4_init, RX11) (List.mem_of_getElem? (i := 1) rfl)) (hts (.initialized RX4) (by decide +kernel)) (by decide +kernel) ⟨Nat.le_of_ble_eq_true rfl, Nat.le_of_ble_eq_true rfl⟩, rfl, hts (.instanceMethod yX4_init) (by decide +kernel)⟩ (zpreS hK hw hS hA zZ.nil hN [9] rfl rfl) rfl rfl hl.1 rfl (lv_room (Nat.le_of_ble_eq_true rfl)) dX2_init_73 ⟨Nat.le_of_ble_eq_true rfl, Nat.le_of_ble_eq_true rfl⟩) hw hS hA [9] [0, 1, 2, 3, 4, 5, 6, 7, 8] rfl rfl rfl rfl (fun u10 H locs hp11 hw hS => ?_)
  have hw : zPD D A [(h0, .inr (2, [.ref q1, .ref q2, .ref q3, .ref q4, .ref q5, .ref q6, .ref q7, .ref q8, .null, .int 0, .int 0, .int 0, .int 0])), (q1, .inl (ct 0, 6, .inl (fun _ => 0))), (q2, .inl (ct 0, 6, .inl (fun _ => 0))), (q3, .inl (ct 1, 6, .inr (.inl (fun _ => 0)))), (q4, .inl (ct 0, 6, .inl (fun _ => 0))), (q5, .inl (ct 0, 6, .inl (fun _ => 0))), (q6, .inl (ct 0, 6, .inl (fun _ => 0))), (q7, .inl (ct 0, 6, .inl (fun _ => 0))), (q8, .inl (ct 1, 6, .inr (.inl (fun _ => 0)))), (q9, .inr (4, [.ref (u10 0), .ref (u10 1), .int 0])), (u10 0, .inl (ct 0, 1000, .inl (fun _ => 0))), (u10 1, .inl (ct 0, 32, .inl (fun _ => 0)))] H := hw
  refine zfr 76 [.ref q9, .ref h0] rfl rfl ?_
  refine zputF (D := D) (ci := 2) (v := .ref q9) (ty := (.object "BeardPass$Law")) hx hb hts hiX2 tyX2 tyX2_ok nmX2 hown hK hw hS 0 rfl rfl 8 (by decide) (hts (.fieldLink RX2 40 "BeardPass$Land" "law" "LBeardPass$Law;") (by decide +kernel)) (fun _ h9 => h9) rfl hname rfl (by decide +kernel) rfl rfl (Nat.le_of_ble_eq_true rfl) dX2_init_76 [(h0, .inr (2, [.ref q1, .ref q2, .ref q3, .ref q4, .ref q5, .ref q6, .ref q7, .ref q8, .ref q9, .int 0, .int 0, .int 0, .int 0])), (q1, .inl (ct 0, 6, .inl (fun _ => 0))), (q2, .inl (ct 0, 6, .inl (fun _ => 0))), (q3, .inl (ct 1, 6, .inr (.inl (fun _ => 0)))), (q4, .inl (ct 0, 6, .inl (fun _ => 0))), (q5, .inl (ct 0, 6, .inl (fun _ => 0))), (q6, .inl (ct 0, 6, .inl (fun _ => 0))), (q7, .inl (ct 0, 6, .inl (fun _ => 0))), (q8, .inl (ct 1, 6, .inr (.inl (fun _ => 0)))), (q9, .inr (4, [.ref (u10 0), .ref (u10 1), .int 0])), (u10 0, .inl (ct 0, 1000, .inl (fun _ => 0))), (u10 1, .inl (ct 0, 32, .inl (fun _ => 0)))] rfl (fun H locs hw hS => ?_)
  refine lv_aload_n hx hb dX2_init_79 rfl (lv_at hl 0 rfl) ?_
  refine lv_iconst (v := 0) hx hb dX2_init_80 (by decide) ?_
  refine zput (D := D) (ci := 2) (v := .int 0) (ty := .int) hx hb hts hiX2 tyX2 tyX2_ok nmX2 hown hK hw hS 0 rfl rfl 9 (by decide) (hts (.fieldLink RX2 44 "BeardPass$Land" "towns" "I") (by decide +kernel)) (fun _ h9 => h9) rfl (by decide +kernel) rfl rfl (Nat.le_of_ble_eq_true rfl) dX2_init_81 [(h0, .inr (2, [.ref q1, .ref q2, .ref q3, .ref q4, .ref q5, .ref q6, .ref q7, .ref q8, .ref q9, .int 0, .int 0, .int 0, .int 0])), (q1, .inl (ct 0, 6, .inl (fun _ => 0))), (q2, .inl (ct 0, 6, .inl (fun _ => 0))), (q3, .inl (ct 1, 6, .inr (.inl (fun _ => 0)))), (q4, .inl (ct 0, 6, .inl (fun _ => 0))), (q5, .inl (ct 0, 6, .inl (fun _ => 0))), (q6, .inl (ct 0, 6, .inl (fun _ => 0))), (q7, .inl (ct 0, 6, .inl (fun _ => 0))), (q8, .inl (ct 1, 6, .inr (.inl (fun _ => 0)))), (q9, .inr (4, [.ref (u10 0), .ref (u10 1), .int 0])), (u10 0, .inl (ct 0, 1000, .inl (fun _ => 0))), (u10 1, .inl (ct 0, 32, .inl (fun _ => 0)))] rfl (fun H locs hw hS => ?_)
  refine lv_aload_n hx hb dX2_init_84 rfl (lv_at hl 0 rfl) ?_
  refine lv_iconst (v := 0) hx hb dX2_init_85 (by decide) ?_
  refine zput (D := D) (ci := 2) (v := .int 0) (ty := .int) hx hb hts hiX2 tyX2 tyX2_ok nmX2 hown hK hw hS 0 rfl rfl 10 (by decide) (hts (.fieldLink RX2 48 "BeardPass$Land" "persons" "I") (by decide +kernel)) (fun _ h9 => h9) rfl (by decide +kernel) rfl rfl (Nat.le_of_ble_eq_true rfl) dX2_init_86 [(h0, .inr (2, [.ref q1, .ref q2, .ref q3, .ref q4, .ref q5, .ref q6, .ref q7, .ref q8, .ref q9, .int 0, .int 0, .int 0, .int 0])), (q1, .inl (ct 0, 6, .inl (fun _ => 0))), (q2, .inl (ct 0, 6, .inl (fun _ => 0))), (q3, .inl (ct 1, 6, .inr (.inl (fun _ => 0)))), (q4, .inl (ct 0, 6, .inl (fun _ => 0))), (q5, .inl (ct 0, 6, .inl (fun _ => 0))), (q6, .inl (ct 0, 6, .inl (fun _ => 0))), (q7, .inl (ct 0, 6, .inl (fun _ => 0))), (q8, .inl (ct 1, 6, .inr (.inl (fun _ => 0)))), (q9, .inr (4, [.ref (u10 0), .ref (u10 1), .int 0])), (u10 0, .inl (ct 0, 1000, .inl (fun _ => 0))), (u10 1, .inl (ct 0, 32, .inl (fun _ => 0)))] rfl (fun H locs hw hS => ?_)
  refine lv_aload_n hx hb dX2_init_89 rfl (lv_at hl 0 rfl) ?_
  refine lv_iconst (v := 1) hx hb dX2_init_90 (by decide) ?_
  refine zput (D := D) (ci := 2) (v := .int 1) (ty := .int) hx hb hts hiX2 tyX2 tyX2_ok nmX2 hown hK hw hS 0 rfl rfl 11 (by decide) (hts (.fieldLink RX2 51 "BeardPass$Land" "grows" "I") (by decide +kernel)) (fun _ h9 => h9) rfl (by decide +kernel) rfl rfl (Nat.le_of_ble_eq_true rfl) dX2_init_91 [(h0, .inr (2, [.ref q1, .ref q2, .ref q3, .ref q4, .ref q5, .ref q6, .ref q7, .ref q8, .ref q9, .int 0, .int 0, .int 1, .int 0])), (q1, .inl (ct 0, 6, .inl (fun _ => 0))), (q2, .inl (ct 0, 6, .inl (fun _ => 0))), (q3, .inl (ct 1, 6, .inr (.inl (fun _ => 0)))), (q4, .inl (ct 0, 6, .inl (fun _ => 0))), (q5, .inl (ct 0, 6, .inl (fun _ => 0))), (q6, .inl (ct 0, 6, .inl (fun _ => 0))), (q7, .inl (ct 0, 6, .inl (fun _ => 0))), (q8, .inl (ct 1, 6, .inr (.inl (fun _ => 0)))), (q9, .inr (4, [.ref (u10 0), .ref (u10 1), .int 0])), (u10 0, .inl (ct 0, 1000, .inl (fun _ => 0))), (u10 1, .inl (ct 0, 32, .inl (fun _ => 0)))] rfl (fun H locs hw hS => ?_)
  refine lv_aload_n hx hb dX2_init_94 rfl (lv_at hl 0 rfl) ?_
  refine lv_iconst (v := 2) hx hb dX2_init_95 (by decide) ?_
  refine zput (D := D) (ci := 2) (v := .int 2) (ty := .int) hx hb hts hiX2 tyX2 tyX2_ok nmX2 hown hK hw hS 0 rfl rfl 12 (by decide) (hts (.fieldLink RX2 54 "BeardPass$Land" "inch" "I") (by decide +kernel)) (fun _ h9 => h9) rfl (by decide +kernel) rfl rfl (Nat.le_of_ble_eq_true rfl) dX2_init_96 [(h0, .inr (2, [.ref q1, .ref q2, .ref q3, .ref q4, .ref q5, .ref q6, .ref q7, .ref q8, .ref q9, .int 0, .int 0, .int 1, .int 2])), (q1, .inl (ct 0, 6, .inl (fun _ => 0))), (q2, .inl (ct 0, 6, .inl (fun _ => 0))), (q3, .inl (ct 1, 6, .inr (.inl (fun _ => 0)))), (q4, .inl (ct 0, 6, .inl (fun _ => 0))), (q5, .inl (ct 0, 6, .inl (fun _ => 0))), (q6, .inl (ct 0, 6, .inl (fun _ => 0))), (q7, .inl (ct 0, 6, .inl (fun _ => 0))), (q8, .inl (ct 1, 6, .inr (.inl (fun _ => 0)))), (q9, .inr (4, [.ref (u10 0), .ref (u10 1), .int 0])), (u10 0, .inl (ct 0, 1000, .inl (fun _ => 0))), (u10 1, .inl (ct 0, 32, .inl (fun _ => 0)))] rfl (fun H locs hw hS => ?_)
  refine lv_aload_n hx hb dX2_init_99 rfl (lv_at hl 0 rfl) ?_
  refine va_get (D := D) (ci := 2) (v := .ref q9) hx hb hts hiX2 hown hK hw.1 0 rfl rfl 8 (by decide) (hts (.fieldLink RX2 40 "BeardPass$Land" "law" "LBeardPass$Law;") (by decide +kernel)) (fun _ h9 => h9) rfl dX2_init_100 ?_
  refine zcall2 (va_runV (As := []) (rest := []) ⟨hx, hb, hml, hown, hts⟩ (c_X4_untold l D ct q9 (u10 0) (u10 1) 0 (fun _ => 0) H.size) (cwV 0 hts gX2_init_X4_beAsUntold rfl rfl rfl (by decide +kernel) ⟨Nat.le_of_ble_eq_true rfl, Nat.le_of_ble_eq_true rfl⟩) (zpreV hK hw hS hA zZ.nil hN [9, 10] rfl rfl 4 9 rfl rfl) rfl rfl hl.1 rfl (lv_room (Nat.le_of_ble_eq_true rfl)) dX2_init_103 ⟨Nat.le_of_ble_eq_true rfl, Nat.le_of_ble_eq_true rfl⟩) hw hS hA [9, 10] [0, 1, 2, 3, 4, 5, 6, 7, 8, 11] rfl rfl rfl rfl (fun _ H locs hp12 hw hS => ?_)
  have hw : zPD D A [(h0, .inr (2, [.ref q1, .ref q2, .ref q3, .ref q4, .ref q5, .ref q6, .ref q7, .ref q8, .ref q9, .int 0, .int 0, .int 1, .int 2])), (q1, .inl (ct 0, 6, .inl (fun _ => 0))), (q2, .inl (ct 0, 6, .inl (fun _ => 0))), (q3, .inl (ct 1, 6, .inr (.inl (fun _ => 0)))), (q4, .inl (ct 0, 6, .inl (fun _ => 0))), (q5, .inl (ct 0, 6, .inl (fun _ => 0))), (q6, .inl (ct 0, 6, .inl (fun _ => 0))), (q7, .inl (ct 0, 6, .inl (fun _ => 0))), (q8, .inl (ct 1, 6, .inr (.inl (fun _ => 0)))), (u10 1, .inl (ct 0, 32, .inl (fun _ => 0))), (q9, .inr (4, [.ref (u10 0), .ref (u10 1), .int (nI (0 + 1 + 1 + 1 + 1))])), (u10 0, .inl (ct 0, 1000, .inl (upd (upd (upd (upd (fun _ => 0) 0 (-1)) (0 + 1) (-3)) (0 + 1 + 1) (-8)) (0 + 1 + 1 + 1) (-5))))] H := hw
  refine zfr 106 [] rfl rfl ?_
  exact zvret hx hb hr hlocks (fun j => ([q1, q2, q3, q4, q5, q6, q7, q8, q9, u10 0, u10 1] : List Nat).getD j 0) rfl (trivial) hw [0, 1, 2, 3, 4, 5, 6, 7, 8, 10, 11, 9] rfl (rfl) hS (Nat.le_of_ble_eq_true rfl) (Nat.le_of_ble_eq_true rfl) dX2_init_106

set_option maxHeartbeats 4000000 in
set_option maxRecDepth 100000 in
/-- Ways(land, frontier) -/
theorem c_X10_init (l : Launch) (D : va_G) (ct : Nat → ClassId) (h0 : Nat) (h1 : Nat) (h2 : Nat)  : zC l yX10_init wsX10_init ({ frames := 2, cells := 10, slots := 118, locals := 120 }) D ct [] [.ref h0, .ref h1, .ref h2] [(h0, .inr (9, [.null, .null, .null, .null, .null, .null, .null]))] (S := Nat → Nat) (fun u => none) (fun u => True) (fun u => [(h0, .inr (9, [.ref h1, .ref h2, .ref (u 0), .ref (u 6), .ref (u 7), .ref (u 8), .ref (u 9)])), (u 0, .inr (7, [.ref (u 1), .ref (u 2), .ref (u 3), .ref (u 4), .ref (u 5), .int 0])), (u 1, .inl (ct 0, 6, .inl (fun _ => 0))), (u 2, .inl (ct 0, 6, .inl (fun _ => 0))), (u 3, .inl (ct 0, 6, .inl (fun _ => 0))), (u 4, .inl (ct 0, 6, .inl (fun _ => 0))), (u 5, .inl (ct 0, 6, .inl (fun _ => 0))), (u 6, .inl (ct 0, 64, .inl (fun _ => 0))), (u 7, .inl (ct 0, 6, .inl (fun _ => 0))), (u 8, .inl (ct 0, 6, .inl (fun _ => 0))), (u 9, .inl (ct 0, 6, .inl (fun _ => 0)))]) 10 118 := by
  refine zofW cX10_init 3 none (by decide) rfl (Nat.le_of_ble_eq_true rfl) ?_
  intro p e s m below meth c A hx hb hr hml hts hown hlocks hname hK hA hZ hN H locs hw hS ls hl
  have hown : s.vm.findClass RX10 = some m.cls := hown
  have hl : lv_has ls 3 [(0, .ref h0), (1, .ref h1), (2, .ref h2)] := hl
  have hiX10 : ∀ w ∈ wsX100, w ∈ wsX10_init := by decide +kernel
  have hiX8 : ∀ w ∈ wsX80, w ∈ wsX10_init := by decide +kernel
  refine lv_aload_n hx hb dX10_init_0 rfl (lv_at hl 0 rfl) ?_
  refine W.objInit hx hb hown (hts (.methodLink RX10 3 objectInit) (by decide +kernel)) (hts (.instanceMethod objectInit) (by decide +kernel)) (hts (.code objectInit ⟨#[0xb1]⟩ 1 none) (by decide +kernel)) rfl (by rw [hml]; exact hl.1) rfl dX10_init_1 (Nat.le_of_ble_eq_true rfl) (Nat.le_of_ble_eq_true rfl) ?_
  refine W.eq (g2 := F0 m 4 ls []) rfl ?_
  refine lv_aload_n hx hb dX10_init_4 rfl (lv_at hl 0 rfl) ?_
  refine znew (ci := 7) (C := RX8) (T := TX8) (N := 6) hx hb hts hiX8 tyX8 tyX8_ok hown (hts (.classLink RX10 9 RX8) (by decide +kernel)) (hts (.instantiable RX8 6) (by decide +kernel)) (hts (.initialized RX8) (by decide +kernel)) hK hw hS hA rfl [.null, .null, .null, .null, .null, .int 0] rfl (Nat.le_of_ble_eq_true rfl) (Nat.le_of_ble_eq_true rfl) dX10_init_5 (fun q1 H hw hS => ?_)
  have hw : zPD D A [(h0, .inr (9, [.null, .null, .null, .null, .null, .null, .null])), (q1, .inr (7, [.null, .null, .null, .null, .null, .int 0]))] H := hw
  refine lv_dup hx hb dX10_init_8 rfl ?_
  refine zcall2 (va_runIN (As := []) (rest := [.ref q1, .ref h0]) ⟨hx, hb, hml, hown, hts⟩ (c_X8_init l D ct q1 H.size) ⟨va_cnB 0 hts gX10_init_X8_init_n11 rfl rfl rfl (hN.1 (RX10, 11, yX8_init, RX11) (List.mem_of_getElem? (i := 4) rfl)) (hts (.initialized RX8) (by decide +kernel)) (by decide +kernel) ⟨Nat.le_of_ble_eq_true rfl, Nat.le_of_ble_eq_true rfl⟩, rfl, hts (.instanceMethod yX8_init) (by decide +kernel)⟩ (zpreS hK hw hS hA zZ.nil hN [1] rfl rfl) rfl rfl hl.1 rfl (lv_room (Nat.le_of_ble_eq_true rfl)) dX10_init_9 ⟨Nat.le_of_ble_eq_true rfl, Nat.le_of_ble_eq_true rfl⟩) hw hS hA [1] [0] rfl rfl rfl rfl (fun u2 H locs hp3 hw hS => ?_)
  have hw : zPD D A [(h0, .inr (9, [.null, .null, .null, .null, .null, .null, .null])), (q1, .inr (7, [.ref (u2 0), .ref (u2 1), .ref (u2 2), .ref (u2 3), .ref (u2 4), .int 0])), (u2 0, .inl (ct 0, 6, .inl (fun _ => 0))), (u2 1, .inl (ct 0, 6, .inl (fun _ => 0))), (u2 2, .inl (ct 0, 6, .inl (fun _ => 0))), (u2 3, .inl (ct 0, 6, .inl (fun _ => 0))), (u2 4, .inl (ct 0, 6, .inl (fun _ => 0)))] H := hw
  refine zfr 12 [.ref q1, .ref h0] rfl rfl ?_
  refine zputF (D := D) (ci := 9) (v := .ref q1) (ty := (.object "BeardPass$Standing")) hx hb hts hiX10 tyX10 tyX10_ok nmX10 hown hK hw hS 0 rfl rfl 2 (by decide) (hts (.fieldLink RX10 12 "BeardPass$Ways" "ahead" "LBeardPass$Standing;") (by decide +kernel)) (fun _ h9 => h9) rfl hname rfl (by decide +kernel) rfl rfl (Nat.le_of_ble_eq_true rfl) dX10_init_12 [(h0, .inr (9, [.null, .null, .ref q1, .null, .null, .null, .null])), (q1, .inr (7, [.ref (u2 0), .ref (u2 1), .ref (u2 2), .ref (u2 3), .ref (u2 4), .int 0])), (u2 0, .inl (ct 0, 6, .inl (fun _ => 0))), (u2 1, .inl (ct 0, 6, .inl (fun _ => 0))), (u2 2, .inl (ct 0, 6, .inl (fun _ => 0))), (u2 3, .inl (ct 0, 6, .inl (fun _ => 0))), (u2 4, .inl (ct 0, 6, .inl (fun _ => 0)))] rfl (fun H locs hw hS => ?_)
  refine lv_aload_n hx hb dX10_init_15 rfl (lv_at hl 0 rfl) ?_
  refine lv_bipush (v := 64) hx hb dX10_init_16 (by decide) ?_
  refine znewa (atype := .int) hx hb (hts (.arrayClass .int) (by decide +kernel)) 0 rfl hK hw hS hA 64 (64, .inl (fun _ => 0)) (fun _ => rfl) (by decide) (by decide) (by decide) (Nat.le_of_ble_eq_true rfl) (Nat.le_of_ble_eq_true rfl) dX10_init_18 (fun q4 H hw hS => ?_)
  have hw : zPD D A [(h0, .inr (9, [.null, .null, .ref q1, .null, .null, .null, .null])), (q1, .inr (7, [.ref (u2 0), .ref (u2 1), .ref (u2 2), .ref (u2 3), .ref (u2 4), .int 0])), (u2 0, .inl (ct 0, 6, .inl (fun _ => 0))), (u2 1, .inl (ct 0, 6, .inl (fun _ => 0))), (u2 2, .inl (ct 0, 6, .inl (fun _ => 0))), (u2 3, .inl (ct 0, 6, .inl (fun _ => 0))), (u2 4, .inl (ct 0, 6, .inl (fun _ => 0))), (q4, .inl (ct 0, 64, .inl (fun _ => 0)))] H := hw
  refine zputF (D := D) (ci := 9) (v := .ref q4) (ty := (.array .int)) hx hb hts hiX10 tyX10 tyX10_ok nmX10 hown hK hw hS 0 rfl rfl 3 (by decide) (hts (.fieldLink RX10 18 "BeardPass$Ways" "standsAfter" "[I") (by decide +kernel)) (fun _ h9 => h9) rfl hname rfl (by decide +kernel) rfl rfl (Nat.le_of_ble_eq_true rfl) dX10_init_20 [(h0, .inr (9, [.null, .null, .ref q1, .ref q4, .null, .null, .null])), (q1, .inr (7, [.ref (u2 0), .ref (u2 1), .ref (u2 2), .ref (u2 3), .ref (u2 4), .int 0])), (u2 0, .inl (ct 0, 6, .inl (fun _ => 0))), (u2 1, .inl (ct 0, 6, .inl (fun _ => 0))), (u2 2, .inl (ct 0, 6, .inl (fun _ => 0))), (u2 3, .inl (ct 0, 6, .inl (fun _ => 0))), (u2 4, .inl (ct 0, 6, .inl (fun _ => 0))), (q4, .inl (ct 0, 64, .inl (fun _ => 0)))] rfl (fun H locs hw hS => ?_)
  refine lv_aload_n hx hb dX10_init_23 rfl (lv_at hl 0 rfl) ?_
  refine lv_bipush (v := 6) hx hb dX10_init_24 (by decide) ?_
  refine znewa (atype := .int) hx hb (hts (.arrayClass .int) (by decide +kernel)) 0 rfl hK hw hS hA 6 (6, .inl (fun _ => 0)) (fun _ => rfl) (by decide) (by decide) (by decide) (Nat.le_of_ble_eq_true rfl) (Nat.le_of_ble_eq_true rfl) dX10_init_26 (fun q5 H hw hS => ?_)
  have hw : zPD D A [(h0, .inr (9, [.null, .null, .ref q1, .ref q4, .null, .null, .null])), (q1, .inr (7, [.ref (u2 0), .ref (u2 1), .ref (u2 2), .ref (u2 3), .ref (u2 4), .int 0])), (u2 0, .inl (ct 0, 6, .inl (fun _ => 0))), (u2 1, .inl (ct 0, 6, .inl (fun _ => 0))), (u2 2, .inl (ct 0, 6, .inl (fun _ => 0))), (u2 3, .inl (ct 0, 6, .inl (fun _ => 0))), (u2 4, .inl (ct 0, 6, .inl (fun _ => 0))), (q4, .inl (ct 0, 64, .inl (fun _ => 0))), (q5, .inl (ct 0, 6, .inl (fun _ => 0)))] H := hw
  refine zputF (D := D) (ci := 9) (v := .ref q5) (ty := (.array .int)) hx hb hts hiX10 tyX10 tyX10_ok nmX10 hown hK hw hS 0 rfl rfl 4 (by decide) (hts (.fieldLink RX10 22 "BeardPass$Ways" "steps" "[I") (by decide +kernel)) (fun _ h9 => h9) rfl hname rfl (by decide +kernel) rfl rfl (Nat.le_of_ble_eq_true rfl) dX10_init_28 [(h0, .inr (9, [.null, .null, .ref q1, .ref q4, .ref q5, .null, .null])), (q1, .inr (7, [.ref (u2 0), .ref (u2 1), .ref (u2 2), .ref (u2 3), .ref (u2 4), .int 0])), (u2 0, .inl (ct 0, 6, .inl (fun _ => 0))), (u2 1, .inl (ct 0, 6, .inl (fun _ => 0))), (u2 2, .inl (ct 0, 6, .inl (fun _ => 0))), (u2 3, .inl (ct 0, 6, .inl (fun _ => 0))), (u2 4, .inl (ct 0, 6, .inl (fun _ => 0))), (q4, .inl (ct 0, 64, .inl (fun _ => 0))), (q5, .inl (ct 0, 6, .inl (fun _ => 0)))] rfl (fun H locs hw hS => ?_)
  refine lv_aload_n hx hb dX10_init_31 rfl (lv_at hl 0 rfl) ?_
  refine lv_bipush (v := 6) hx hb dX10_init_32 (by decide) ?_
  refine znewa (atype := .int) hx hb (hts (.arrayClass .int) (by decide +kernel)) 0 rfl hK hw hS hA 6 (6, .inl (fun _ => 0)) (fun _ => rfl) (by decide) (by decide) (by decide) (Nat.le_of_ble_eq_true rfl) (Nat.le_of_ble_eq_true rfl) dX10_init_34 (fun q6 H hw hS => ?_)
  have hw : zPD D A [(h0, .inr (9, [.null, .null, .ref q1, .ref q4, .ref q5, .null, .null])), (q1, .inr (7, [.ref (u2 0), .ref (u2 1), .ref (u2 2), .ref (u2 3), .ref (u2 4), .int 0])), (u2 0, .inl (ct 0, 6, .inl (fun _ => 0))), (u2 1, .inl (ct 0, 6, .inl (fun _ => 0))), (u2 2, .inl (ct 0, 6, .inl (fun _ => 0))), (u2 3, .inl (ct 0, 6, .inl (fun _ => 0))), (u2 4, .inl (ct 0, 6, .inl (fun _ => 0))), (q4, .inl (ct 0, 64, .inl (fun _ => 0))), (q5, .inl (ct 0, 6, .inl (fun _ => 0))), (q6, .inl (ct 0, 6, .inl (fun _ => 0)))] H := hw
  refine zputF (D := D) (ci := 9) (v := .ref q6) (ty := (.array .int)) hx hb hts hiX10 tyX10 tyX10_ok nmX10 hown hK hw hS 0 rfl rfl 5 (by decide) (hts (.fieldLink RX10 25 "BeardPass$Ways" "soonest" "[I") (by decide +kernel)) (fun _ h9 => h9) rfl hname rfl (by decide +kernel) rfl rfl (Nat.le_of_ble_eq_true rfl) dX10_init_36 [(h0, .inr (9, [.null, .null, .ref q1, .ref q4, .ref q5, .ref q6, .null])), (q1, .inr (7, [.ref (u2 0), .ref (u2 1), .ref (u2 2), .ref (u2 3), .ref (u2 4), .int 0])), (u2 0, .inl (ct 0, 6, .inl (fun _ => 0))), (u2 1, .inl (ct 0, 6, .inl (fun _ => 0))), (u2 2, .inl (ct 0, 6, .inl (fun _ => 0))), (u2 3, .inl (ct 0, 6, .inl (fun _ => 0))), (u2 4, .inl (ct 0, 6, .inl (fun _ => 0))), (q4, .inl (ct 0, 64, .inl (fun _ => 0))), (q5, .inl (ct 0, 6, .inl (fun _ => 0))), (q6, .inl (ct 0, 6, .inl (fun _ => 0)))] rfl (fun H locs hw hS => ?_)
  refine lv_aload_n hx hb dX10_init_39 rfl (lv_at hl 0 rfl) ?_
  refine lv_bipush (v := 6) hx hb dX10_init_40 (by decide) ?_
  refine znewa (atype := .int) hx hb (hts (.arrayClass .int) (by decide +kernel)) 0 rfl hK hw hS hA 6 (6, .inl (fun _ => 0)) (fun _ => rfl) (by decide) (by decide) (by decide) (Nat.le_of_ble_eq_true rfl) (Nat.le_of_ble_eq_true rfl) dX10_init_42 (fun q7 H hw hS => ?_)
  have hw : zPD D A [(h0, .inr (9, [.null, .null, .ref q1, .ref q4, .ref q5, .ref q6, .null])), (q1, .inr (7, [.ref (u2 0), .ref (u2 1), .ref (u2 2), .ref (u2 3), .ref (u2 4), .int 0])), (u2 0, .inl (ct 0, 6, .inl (fun _ => 0))), (u2 1, .inl (ct 0, 6, .inl (fun _ => 0))), (u2 2, .inl (ct 0, 6, .inl (fun _ => 0))), (u2 3, .inl (ct 0, 6, .inl (fun _ => 0))), (u2 4, .inl (ct 0, 6, .inl (fun _ => 0))), (q4, .inl (ct 0, 64, .inl (fun _ => 0))), (q5, .inl (ct 0, 6, .inl (fun _ => 0))), (q6, .inl (ct 0, 6, .inl (fun _ => 0))), (q7, .inl (ct 0, 6, .inl (fun _ => 0)))] H := hw
  refine zputF (D := D) (ci := 9) (v := .ref q7) (ty := (.array .int)) hx hb hts hiX10 tyX10 tyX10_ok nmX10 hown hK hw hS 0 rfl rfl 6 (by decide) (hts (.fieldLink RX10 28 "BeardPass$Ways" "latest" "[I") (by decide +kernel)) (fun _ h9 => h9) rfl hname rfl (by decide +kernel) rfl rfl (Nat.le_of_ble_eq_true rfl) dX10_init_44 [(h0, .inr (9, [.null, .null, .ref q1, .ref q4, .ref q5, .ref q6, .ref q7])), (q1, .inr (7, [.ref (u2 0), .ref (u2 1), .ref (u2 2), .ref (u2 3), .ref (u2 4), .int 0])), (u2 0, .inl (ct 0, 6, .inl (fun _ => 0))), (u2 1, .inl (ct 0, 6, .inl (fun _ => 0))), (u2 2, .inl (ct 0, 6, .inl (fun _ => 0))), (u2 3, .inl (ct 0, 6, .inl (fun _ => 0))), (u2 4, .inl (ct 0, 6, .inl (fun _ => 0))), (q4, .inl (ct 0, 64, .inl (fun _ => 0))), (q5, .inl (ct 0, 6, .inl (fun _ => 0))), (q6, .inl (ct 0, 6, .inl (fun _ => 0))), (q7, .inl (ct 0, 6, .inl (fun _ => 0)))] rfl (fun H locs hw hS => ?_)
  refine lv_aload_n hx hb dX10_init_47 rfl (lv_at hl 0 rfl) ?_
  refine lv_aload_n hx hb dX10_init_48 rfl (lv_at hl 1 rfl) ?_
  refine zputF (D := D) (ci := 9) (v := .ref h1) (ty := (.object "BeardPass$Land")) hx hb hts hiX10 tyX10 tyX10_ok nmX10 hown hK hw hS 0 rfl rfl 0 (by decide) (hts (.fieldLink RX10 31 "BeardPass$Ways" "land" "LBeardPass$Land;") (by decide +kernel)) (fun _ h9 => h9) rfl hname rfl (by decide +kernel) rfl rfl (Nat.le_of_ble_eq_true rfl) dX10_init_49 [(h0, .inr (9, [.ref h1, .null, .ref q1, .ref q4, .ref q5, .ref q6, .ref q7])), (q1, .inr (7, [.ref (u2 0), .ref (u2 1), .ref (u2 2), .ref (u2 3), .ref (u2 4), .int 0])), (u2 0, .inl (ct 0, 6, .inl (fun _ => 0))), (u2 1, .inl (ct 0, 6, .inl (fun _ => 0))), (u2 2, .inl (ct 0, 6, .inl (fun _ => 0))), (u2 3, .inl (ct 0, 6, .inl (fun _ => 0))), (u2 4, .inl (ct 0, 6, .inl (fun _ => 0))), (q4, .inl (ct 0, 64, .inl (fun _ => 0))), (q5, .inl (ct 0, 6, .inl (fun _ => 0))), (q6, .inl (ct 0, 6, .inl (fun _ => 0))), (q7, .inl (ct 0, 6, .inl (fun _ => 0)))] rfl (fun H locs hw hS => ?_)
  refine lv_aload_n hx hb dX10_init_52 rfl (lv_at hl 0 rfl) ?_
  refine lv_aload_n hx hb dX10_init_53 rfl (lv_at hl 2 rfl) ?_
  refine zputF (D := D) (ci := 9) (v := .ref h2) (ty := (.object "BeardPass$Frontier")) hx hb hts hiX10 tyX10 tyX10_ok nmX10 hown hK hw hS 0 rfl rfl 1 (by decide) (hts (.fieldLink RX10 35 "BeardPass$Ways" "frontier" "LBeardPass$Frontier;") (by decide +kernel)) (fun _ h9 => h9) rfl hname rfl (by decide +kernel) rfl rfl (Nat.le_of_ble_eq_true rfl) dX10_init_54 [(h0, .inr (9, [.ref h1, .ref h2, .ref q1, .ref q4, .ref q5, .ref q6, .ref q7])), (q1, .inr (7, [.ref (u2 0), .ref (u2 1), .ref (u2 2), .ref (u2 3), .ref (u2 4), .int 0])), (u2 0, .inl (ct 0, 6, .inl (fun _ => 0))), (u2 1, .inl (ct 0, 6, .inl (fun _ => 0))), (u2 2, .inl (ct 0, 6, .inl (fun _ => 0))), (u2 3, .inl (ct 0, 6, .inl (fun _ => 0))), (u2 4, .inl (ct 0, 6, .inl (fun _ => 0))), (q4, .inl (ct 0, 64, .inl (fun _ => 0))), (q5, .inl (ct 0, 6, .inl (fun _ => 0))), (q6, .inl (ct 0, 6, .inl (fun _ => 0))), (q7, .inl (ct 0, 6, .inl (fun _ => 0)))] rfl (fun H locs hw hS => ?_)
  exact zvret hx hb hr hlocks (fun j => ([q1, u2 0, u2 1, u2 2, u2 3, u2 4, q4, q5, q6, q7] : List Nat).getD j 0) rfl (trivial) hw [0, 1, 2, 3, 4, 5, 6, 7, 8, 9, 10] rfl (rfl) hS (Nat.le_of_ble_eq_true rfl) (Nat.le_of_ble_eq_true rfl) dX10_init_57

set_option maxHeartbeats 4000000 in
set_option maxRecDepth 100000 in
/-- Mark() -/
theorem c_X5_init (l : Launch) (D : va_G) (ct : Nat → ClassId) (h0 : Nat)  : zC l yX5_init wsX5_init ({ frames := 2, cells := 11, slots := 162, locals := 120 }) D ct [] [.ref h0] [(h0, .inr (5, [.null, .null, .null, .int 0]))] (S := Nat → Nat) (fun u => none) (fun u => True) (fun u => [(h0, .inr (5, [.ref (u 0), .ref (u 6), .ref (u 10), .int 0])), (u 0, .inr (7, [.ref (u 1), .ref (u 2), .ref (u 3), .ref (u 4), .ref (u 5), .int 0])), (u 1, .inl (ct 0, 6, .inl (fun _ => 0))), (u 2, .inl (ct 0, 6, .inl (fun _ => 0))), (u 3, .inl (ct 0, 6, .inl (fun _ => 0))), (u 4, .inl (ct 0, 6, .inl (fun _ => 0))), (u 5, .inl (ct 0, 6, .inl (fun _ => 0))), (u 6, .inr (1, [.ref (u 7), .ref (u 8), .ref (u 9), .int 0])), (u 7, .inl (ct 0, 40, .inl (fun _ => 0))), (u 8, .inl (ct 0, 40, .inl (fun _ => 0))), (u 9, .inl (ct 0, 40, .inl (fun _ => 0))), (u 10, .inr (6, [.int 2147483647, .int 0]))]) 11 162 := by
  refine zofW cX5_init 1 none (by decide) rfl (Nat.le_of_ble_eq_true rfl) ?_
  intro p e s m below meth c A hx hb hr hml hts hown hlocks hname hK hA hZ hN H locs hw hS ls hl
  have hown : s.vm.findClass RX5 = some m.cls := hown
  have hl : lv_has ls 1 [(0, .ref h0)] := hl
  have hiX1 : ∀ w ∈ wsX10, w ∈ wsX5_init := by decide +kernel
  have hiX5 : ∀ w ∈ wsX50, w ∈ wsX5_init := by decide +kernel
  have hiX6 : ∀ w ∈ wsX60, w ∈ wsX5_init := by decide +kernel
  have hiX8 : ∀ w ∈ wsX80, w ∈ wsX5_init := by decide +kernel
  refine lv_aload_n hx hb dX5_init_0 rfl (lv_at hl 0 rfl) ?_
  refine W.objInit hx hb hown (hts (.methodLink RX5 1 objectInit) (by decide +kernel)) (hts (.instanceMethod objectInit) (by decide +kernel)) (hts (.code objectInit ⟨#[0xb1]⟩ 1 none) (by decide +kernel)) rfl (by rw [hml]; exact hl.1) rfl dX5_init_1 (Nat.le_of_ble_eq_true rfl) (Nat.le_of_ble_eq_true rfl) ?_
  refine W.eq (g2 := F0 m 4 ls []) rfl ?_
  refine lv_aload_n hx hb dX5_init_4 rfl (lv_at hl 0 rfl) ?_
  refine znew (ci := 7) (C := RX8) (T := TX8) (N := 6) hx hb hts hiX8 tyX8 tyX8_ok hown (hts (.classLink RX5 7 RX8) (by decide +kernel)) (hts (.instantiable RX8 6) (by decide +kernel)) (hts (.initialized RX8) (by decide +kernel)) hK hw hS hA rfl [.null, .null, .null, .null, .null, .int 0] rfl (Nat.le_of_ble_eq_true rfl) (Nat.le_of_ble_eq_true rfl) dX5_init_5 (fun q1 H hw hS => ?_)
  have hw : zPD D A [(h0, .inr (5, [.null, .null, .null, .int 0])), (q1, .inr (7, [.null, .null, .null, .null, .null, .int 0]))] H := hw
  refine lv_dup hx hb dX5_init_8 rfl ?_
  refine zcall2 (va_runIN (As := []) (rest := [.ref q1, .ref h0]) ⟨hx, hb, hml, hown, hts⟩ (c_X8_init l D ct q1 H.size) ⟨va_cnB 0 hts gX5_init_X8_init_n9 rfl rfl rfl (hN.1 (RX5, 9, yX8_init, RX11) (List.mem_of_getElem? (i := 8) rfl)) (hts (.initialized RX8) (by decide +kernel)) (by decide +kernel) ⟨Nat.le_of_ble_eq_true rfl, Nat.le_of_ble_eq_true rfl⟩, rfl, hts (.instanceMethod yX8_init) (by decide +kernel)⟩ (zpreS hK hw hS hA zZ.nil hN [1] rfl rfl) rfl rfl hl.1 rfl (lv_room (Nat.le_of_ble_eq_true rfl)) dX5_init_9 ⟨Nat.le_of_ble_eq_true rfl, Nat.le_of_ble_eq_true rfl⟩) hw hS hA [1] [0] rfl rfl rfl rfl (fun u2 H locs hp3 hw hS => ?_)
  have hw : zPD D A [(h0, .inr (5, [.null, .null, .null, .int 0])), (q1, .inr (7, [.ref (u2 0), .ref (u2 1), .ref (u2 2), .ref (u2 3), .ref (u2 4), .int 0])), (u2 0, .inl (ct 0, 6, .inl (fun _ => 0))), (u2 1, .inl (ct 0, 6, .inl (fun _ => 0))), (u2 2, .inl (ct 0, 6, .inl (fun _ => 0))), (u2 3, .inl (ct 0, 6, .inl (fun _ => 0))), (u2 4, .inl (ct 0, 6, .inl (fun _ => 0)))] H := hw
  refine zfr 12 [.ref q1, .ref h0] rfl rfl ?_
  refine zputF (D := D) (ci := 5) (v := .ref q1) (ty := (.object "BeardPass$Standing")) hx hb hts hiX5 tyX5 tyX5_ok nmX5 hown hK hw hS 0 rfl rfl 0 (by decide) (hts (.fieldLink RX5 10 "BeardPass$Mark" "standing" "LBeardPass$Standing;") (by decide +kernel)) (fun _ h9 => h9) rfl hname rfl (by decide +kernel) rfl rfl (Nat.le_of_ble_eq_true rfl) dX5_init_12 [(h0, .inr (5, [.ref q1, .null, .null, .int 0])), (q1, .inr (7, [.ref (u2 0), .ref (u2 1), .ref (u2 2), .ref (u2 3), .ref (u2 4), .int 0])), (u2 0, .inl (ct 0, 6, .inl (fun _ => 0))), (u2 1, .inl (ct 0, 6, .inl (fun _ => 0))), (u2 2, .inl (ct 0, 6, .inl (fun _ => 0))), (u2 3, .inl (ct 0, 6, .inl (fun _ => 0))), (u2 4, .inl (ct 0, 6, .inl (fun _ => 0)))] rfl (fun H locs hw hS => ?_)
  refine lv_aload_n hx hb dX5_init_15 rfl (lv_at hl 0 rfl) ?_
  refine znew (ci := 1) (C := RX1) (T := TX1) (N := 4) hx hb hts hiX1 tyX1 tyX1_ok hown (hts (.classLink RX5 16 RX1) (by decide +kernel)) (hts (.instantiable RX1 4) (by decide +kernel)) (hts (.initialized RX1) (by decide +kernel)) hK hw hS hA rfl [.null, .null, .null, .int 0] rfl (Nat.le_of_ble_eq_true rfl) (Nat.le_of_ble_eq_true rfl) dX5_init_16 (fun q4 H hw hS => ?_)
  have hw : zPD D A [(h0, .inr (5, [.ref q1, .null, .null, .int 0])), (q1, .inr (7, [.ref (u2 0), .ref (u2 1), .ref (u2 2), .ref (u2 3), .ref (u2 4), .int 0])), (u2 0, .inl (ct 0, 6, .inl (fun _ => 0))), (u2 1, .inl (ct 0, 6, .inl (fun _ => 0))), (u2 2, .inl (ct 0, 6, .inl (fun _ => 0))), (u2 3, .inl (ct 0, 6, .inl (fun _ => 0))), (u2 4, .inl (ct 0, 6, .inl (fun _ => 0))), (q4, .inr (1, [.null, .null, .null, .int 0]))] H := hw
  refine lv_dup hx hb dX5_init_19 rfl ?_
  refine zcall2 (va_runIN (As := []) (rest := [.ref q4, .ref h0]) ⟨hx, hb, hml, hown, hts⟩ (c_X1_init l D ct q4 H.size) ⟨va_cnB 0 hts gX5_init_X1_init_n18 rfl rfl rfl (hN.1 (RX5, 18, yX1_init, RX11) (List.mem_of_getElem? (i := 9) rfl)) (hts (.initialized RX1) (by decide +kernel)) (by decide +kernel) ⟨Nat.le_of_ble_eq_true rfl, Nat.le_of_ble_eq_true rfl⟩, rfl, hts (.instanceMethod yX1_init) (by decide +kernel)⟩ (zpreS hK hw hS hA zZ.nil hN [7] rfl rfl) rfl rfl hl.1 rfl (lv_room (Nat.le_of_ble_eq_true rfl)) dX5_init_20 ⟨Nat.le_of_ble_eq_true rfl, Nat.le_of_ble_eq_true rfl⟩) hw hS hA [7] [0, 1, 2, 3, 4, 5, 6] rfl rfl rfl rfl (fun u5 H locs hp6 hw hS => ?_)
  have hw : zPD D A [(h0, .inr (5, [.ref q1, .null, .null, .int 0])), (q1, .inr (7, [.ref (u2 0), .ref (u2 1), .ref (u2 2), .ref (u2 3), .ref (u2 4), .int 0])), (u2 0, .inl (ct 0, 6, .inl (fun _ => 0))), (u2 1, .inl (ct 0, 6, .inl (fun _ => 0))), (u2 2, .inl (ct 0, 6, .inl (fun _ => 0))), (u2 3, .inl (ct 0, 6, .inl (fun _ => 0))), (u2 4, .inl (ct 0, 6, .inl (fun _ => 0))), (q4, .inr (1, [.ref (u5 0), .ref (u5 1), .ref (u5 2), .int 0])), (u5 0, .inl (ct 0, 40, .inl (fun _ => 0))), (u5 1, .inl (ct 0, 40, .inl (fun _ => 0))), (u5 2, .inl (ct 0, 40, .inl (fun _ => 0)))] H := hw
  refine zfr 23 [.ref q4, .ref h0] rfl rfl ?_
  refine zputF (D := D) (ci := 5) (v := .ref q4) (ty := (.object "BeardPass$Journey")) hx hb hts hiX5 tyX5 tyX5_ok nmX5 hown hK hw hS 0 rfl rfl 1 (by decide) (hts (.fieldLink RX5 19 "BeardPass$Mark" "plan" "LBeardPass$Journey;") (by decide +kernel)) (fun _ h9 => h9) rfl hname rfl (by decide +kernel) rfl rfl (Nat.le_of_ble_eq_true rfl) dX5_init_23 [(h0, .inr (5, [.ref q1, .ref q4, .null, .int 0])), (q1, .inr (7, [.ref (u2 0), .ref (u2 1), .ref (u2 2), .ref (u2 3), .ref (u2 4), .int 0])), (u2 0, .inl (ct 0, 6, .inl (fun _ => 0))), (u2 1, .inl (ct 0, 6, .inl (fun _ => 0))), (u2 2, .inl (ct 0, 6, .inl (fun _ => 0))), (u2 3, .inl (ct 0, 6, .inl (fun _ => 0))), (u2 4, .inl (ct 0, 6, .inl (fun _ => 0))), (q4, .inr (1, [.ref (u5 0), .ref (u5 1), .ref (u5 2), .int 0])), (u5 0, .inl (ct 0, 40, .inl (fun _ => 0))), (u5 1, .inl (ct 0, 40, .inl (fun _ => 0))), (u5 2, .inl (ct 0, 40, .inl (fun _ => 0)))] rfl (fun H locs hw hS => ?_)
  refine lv_aload_n hx hb dX5_init_26 rfl (lv_at hl 0 rfl) ?_
  refine znew (ci := 6) (C := RX6) (T := TX6) (N := 2) hx hb hts hiX6 tyX6 tyX6_ok hown (hts (.classLink RX5 23 RX6) (by decide +kernel)) (hts (.instantiable RX6 2) (by decide +kernel)) (hts (.initialized RX6) (by decide +kernel)) hK hw hS hA rfl [.int 0, .int 0] rfl (Nat.le_of_ble_eq_true rfl) (Nat.le_of_ble_eq_true rfl) dX5_init_27 (fun q7 H hw hS => ?_)
  have hw : zPD D A [(h0, .inr (5, [.ref q1, .ref q4, .null, .int 0])), (q1, .inr (7, [.ref (u2 0), .ref (u2 1), .ref (u2 2), .ref (u2 3), .ref (u2 4), .int 0])), (u2 0, .inl (ct 0, 6, .inl (fun _ => 0))), (u2 1, .inl (ct 0, 6, .inl (fun _ => 0))), (u2 2, .inl (ct 0, 6, .inl (fun _ => 0))), (u2 3, .inl (ct 0, 6, .inl (fun _ => 0))), (u2 4, .inl (ct 0, 6, .inl (fun _ => 0))), (q4, .inr (1, [.ref (u5 0), .ref (u5 1), .ref (u5 2), .int 0])), (u5 0, .inl (ct 0, 40, .inl (fun _ => 0))), (u5 1, .inl (ct 0, 40, .inl (fun _ => 0))), (u5 2, .inl (ct 0, 40, .inl (fun _ => 0))), (q7, .inr (6, [.int 0, .int 0]))] H := hw
  refine lv_dup hx hb dX5_init_30 rfl ?_
  refine zcall2 (va_runIN (As := []) (rest := [.ref q7, .ref h0]) ⟨hx, hb, hml, hown, hts⟩ (c_X6_init l D ct q7 H.size) ⟨va_cnB 0 hts gX5_init_X6_init_n25 rfl rfl rfl (hN.1 (RX5, 25, yX6_init, RX11) (List.mem_of_getElem? (i := 10) rfl)) (hts (.initialized RX6) (by decide +kernel)) (by decide +kernel) ⟨Nat.le_of_ble_eq_true rfl, Nat.le_of_ble_eq_true rfl⟩, rfl, hts (.instanceMethod yX6_init) (by decide +kernel)⟩ (zpreS hK hw hS hA zZ.nil hN [11] rfl rfl) rfl rfl hl.1 rfl (lv_room (Nat.le_of_ble_eq_true rfl)) dX5_init_31 ⟨Nat.le_of_ble_eq_true rfl, Nat.le_of_ble_eq_true rfl⟩) hw hS hA [11] [0, 1, 2, 3, 4, 5, 6, 7, 8, 9, 10] rfl rfl rfl rfl (fun _ H locs hp8 hw hS => ?_)
  have hw : zPD D A [(h0, .inr (5, [.ref q1, .ref q4, .null, .int 0])), (q1, .inr (7, [.ref (u2 0), .ref (u2 1), .ref (u2 2), .ref (u2 3), .ref (u2 4), .int 0])), (u2 0, .inl (ct 0, 6, .inl (fun _ => 0))), (u2 1, .inl (ct 0, 6, .inl (fun _ => 0))), (u2 2, .inl (ct 0, 6, .inl (fun _ => 0))), (u2 3, .inl (ct 0, 6, .inl (fun _ => 0))), (u2 4, .inl (ct 0, 6, .inl (fun _ => 0))), (q4, .inr (1, [.ref (u5 0), .ref (u5 1), .ref (u5 2), .int 0])), (u5 0, .inl (ct 0, 40, .inl (fun _ => 0))), (u5 1, .inl (ct 0, 40, .inl (fun _ => 0))), (u5 2, .inl (ct 0, 40, .inl (fun _ => 0))), (q7, .inr (6, [.int 2147483647, .int 0]))] H := hw
  refine zfr 34 [.ref q7, .ref h0] rfl rfl ?_
  refine zputF (D := D) (ci := 5) (v := .ref q7) (ty := (.object "BeardPass$Sightings")) hx hb hts hiX5 tyX5 tyX5_ok nmX5 hown hK hw hS 0 rfl rfl 2 (by decide) (hts (.fieldLink RX5 26 "BeardPass$Mark" "sightings" "LBeardPass$Sightings;") (by decide +kernel)) (fun _ h9 => h9) rfl hname rfl (by decide +kernel) rfl rfl (Nat.le_of_ble_eq_true rfl) dX5_init_34 [(h0, .inr (5, [.ref q1, .ref q4, .ref q7, .int 0])), (q1, .inr (7, [.ref (u2 0), .ref (u2 1), .ref (u2 2), .ref (u2 3), .ref (u2 4), .int 0])), (u2 0, .inl (ct 0, 6, .inl (fun _ => 0))), (u2 1, .inl (ct 0, 6, .inl (fun _ => 0))), (u2 2, .inl (ct 0, 6, .inl (fun _ => 0))), (u2 3, .inl (ct 0, 6, .inl (fun _ => 0))), (u2 4, .inl (ct 0, 6, .inl (fun _ => 0))), (q4, .inr (1, [.ref (u5 0), .ref (u5 1), .ref (u5 2), .int 0])), (u5 0, .inl (ct 0, 40, .inl (fun _ => 0))), (u5 1, .inl (ct 0, 40, .inl (fun _ => 0))), (u5 2, .inl (ct 0, 40, .inl (fun _ => 0))), (q7, .inr (6, [.int 2147483647, .int 0]))] rfl (fun H locs hw hS => ?_)
  refine lv_aload_n hx hb dX5_init_37 rfl (lv_at hl 0 rfl) ?_
  refine lv_iconst (v := 0) hx hb dX5_init_38 (by decide) ?_
  refine zput (D := D) (ci := 5) (v := .int 0) (ty := .boolean) hx hb hts hiX5 tyX5 tyX5_ok nmX5 hown hK hw hS 0 rfl rfl 3 (by decide) (hts (.fieldLink RX5 30 "BeardPass$Mark" "laid" "Z") (by decide +kernel)) (fun _ h9 => h9) rfl (by decide +kernel) rfl rfl (Nat.le_of_ble_eq_true rfl) dX5_init_39 [(h0, .inr (5, [.ref q1, .ref q4, .ref q7, .int 0])), (q1, .inr (7, [.ref (u2 0), .ref (u2 1), .ref (u2 2), .ref (u2 3), .ref (u2 4), .int 0])), (u2 0, .inl (ct 0, 6, .inl (fun _ => 0))), (u2 1, .inl (ct 0, 6, .inl (fun _ => 0))), (u2 2, .inl (ct 0, 6, .inl (fun _ => 0))), (u2 3, .inl (ct 0, 6, .inl (fun _ => 0))), (u2 4, .inl (ct 0, 6, .inl (fun _ => 0))), (q4, .inr (1, [.ref (u5 0), .ref (u5 1), .ref (u5 2), .int 0])), (u5 0, .inl (ct 0, 40, .inl (fun _ => 0))), (u5 1, .inl (ct 0, 40, .inl (fun _ => 0))), (u5 2, .inl (ct 0, 40, .inl (fun _ => 0))), (q7, .inr (6, [.int 2147483647, .int 0]))] rfl (fun H locs hw hS => ?_)
  exact zvret hx hb hr hlocks (fun j => ([q1, u2 0, u2 1, u2 2, u2 3, u2 4, q4, u5 0, u5 1, u5 2, q7] : List Nat).getD j 0) rfl (trivial) hw [0, 1, 2, 3, 4, 5, 6, 7, 8, 9, 10, 11] rfl (rfl) hS (Nat.le_of_ble_eq_true rfl) (Nat.le_of_ble_eq_true rfl) dX5_init_42

set_option maxHeartbeats 4000000 in
set_option maxRecDepth 100000 in
/-- Tape() -/
theorem c_X9_init (l : Launch) (D : va_G) (ct : Nat → ClassId) (h0 : Nat) (eE : Nat)  : zC l yX9_init wsX9_init ({ frames := 1, cells := 1, slots := 1000, locals := 80 }) D ct [("END", eE)] [.ref h0] [(h0, .inr (8, [.null, .int 0, .int 0, .int 0, .null, .int 0, .long 0, .int 0]))] (S := Nat → Nat) (fun u => none) (fun u => True) (fun u => [(h0, .inr (8, [.ref (u 0), .int 0, .int 0, .int 0, .ref eE, .int 0, .long 0, .int 0])), (u 0, .inl (ct 2, 1000, .inl (fun _ => 0)))]) 1 1000 := by
  refine zofW cX9_init 1 none (by decide) rfl (Nat.le_of_ble_eq_true rfl) ?_
  intro p e s m below meth c A hx hb hr hml hts hown hlocks hname hK hA hZ hN H locs hw hS ls hl
  have hown : s.vm.findClass RX9 = some m.cls := hown
  have hl : lv_has ls 1 [(0, .ref h0)] := hl
  have hiX9 : ∀ w ∈ wsX90, w ∈ wsX9_init := by decide +kernel
  refine lv_aload_n hx hb dX9_init_0 rfl (lv_at hl 0 rfl) ?_
  refine W.objInit hx hb hown (hts (.methodLink RX9 3 objectInit) (by decide +kernel)) (hts (.instanceMethod objectInit) (by decide +kernel)) (hts (.code objectInit ⟨#[0xb1]⟩ 1 none) (by decide +kernel)) rfl (by rw [hml]; exact hl.1) rfl dX9_init_1 (Nat.le_of_ble_eq_true rfl) (Nat.le_of_ble_eq_true rfl) ?_
  refine W.eq (g2 := F0 m 4 ls []) rfl ?_
  refine lv_aload_n hx hb dX9_init_4 rfl (lv_at hl 0 rfl) ?_
  refine lv_sipush (v := 1000) hx hb dX9_init_5 (by decide) ?_
  refine znewa (atype := .char) hx hb (hts (.arrayClass .char) (by decide +kernel)) 2 rfl hK hw hS hA 1000 (1000, .inl (fun _ => 0)) (fun _ => rfl) (by decide) (by decide) (by decide) (Nat.le_of_ble_eq_true rfl) (Nat.le_of_ble_eq_true rfl) dX9_init_8 (fun q1 H hw hS => ?_)
  have hw : zPD D A [(h0, .inr (8, [.null, .int 0, .int 0, .int 0, .null, .int 0, .long 0, .int 0])), (q1, .inl (ct 2, 1000, .inl (fun _ => 0)))] H := hw
  refine zputF (D := D) (ci := 8) (v := .ref q1) (ty := (.array .char)) hx hb hts hiX9 tyX9 tyX9_ok nmX9 hown hK hw hS 0 rfl rfl 0 (by decide) (hts (.fieldLink RX9 9 "BeardPass$Tape" "signs" "[C") (by decide +kernel)) (fun _ h9 => h9) rfl hname rfl (by decide +kernel) rfl rfl (Nat.le_of_ble_eq_true rfl) dX9_init_10 [(h0, .inr (8, [.ref q1, .int 0, .int 0, .int 0, .null, .int 0, .long 0, .int 0])), (q1, .inl (ct 2, 1000, .inl (fun _ => 0)))] rfl (fun H locs hw hS => ?_)
  refine lv_aload_n hx hb dX9_init_13 rfl (lv_at hl 0 rfl) ?_
  refine lv_iconst (v := 0) hx hb dX9_init_14 (by decide) ?_
  refine zput (D := D) (ci := 8) (v := .int 0) (ty := .int) hx hb hts hiX9 tyX9 tyX9_ok nmX9 hown hK hw hS 0 rfl rfl 1 (by decide) (hts (.fieldLink RX9 15 "BeardPass$Tape" "length" "I") (by decide +kernel)) (fun _ h9 => h9) rfl (by decide +kernel) rfl rfl (Nat.le_of_ble_eq_true rfl) dX9_init_15 [(h0, .inr (8, [.ref q1, .int 0, .int 0, .int 0, .null, .int 0, .long 0, .int 0])), (q1, .inl (ct 2, 1000, .inl (fun _ => 0)))] rfl (fun H locs hw hS => ?_)
  refine lv_aload_n hx hb dX9_init_18 rfl (lv_at hl 0 rfl) ?_
  refine lv_iconst (v := 0) hx hb dX9_init_19 (by decide) ?_
  refine zput (D := D) (ci := 8) (v := .int 0) (ty := .int) hx hb hts hiX9 tyX9 tyX9_ok nmX9 hown hK hw hS 0 rfl rfl 2 (by decide) (hts (.fieldLink RX9 19 "BeardPass$Tape" "place" "I") (by decide +kernel)) (fun _ h9 => h9) rfl (by decide +kernel) rfl rfl (Nat.le_of_ble_eq_true rfl) dX9_init_20 [(h0, .inr (8, [.ref q1, .int 0, .int 0, .int 0, .null, .int 0, .long 0, .int 0])), (q1, .inl (ct 2, 1000, .inl (fun _ => 0)))] rfl (fun H locs hw hS => ?_)
  refine lv_aload_n hx hb dX9_init_23 rfl (lv_at hl 0 rfl) ?_
  refine lv_iconst (v := 0) hx hb dX9_init_24 (by decide) ?_
  refine zput (D := D) (ci := 8) (v := .int 0) (ty := .int) hx hb hts hiX9 tyX9 tyX9_ok nmX9 hown hK hw hS 0 rfl rfl 3 (by decide) (hts (.fieldLink RX9 22 "BeardPass$Tape" "next" "I") (by decide +kernel)) (fun _ h9 => h9) rfl (by decide +kernel) rfl rfl (Nat.le_of_ble_eq_true rfl) dX9_init_25 [(h0, .inr (8, [.ref q1, .int 0, .int 0, .int 0, .null, .int 0, .long 0, .int 0])), (q1, .inl (ct 2, 1000, .inl (fun _ => 0)))] rfl (fun H locs hw hS => ?_)
  refine lv_aload_n hx hb dX9_init_28 rfl (lv_at hl 0 rfl) ?_
  refine va_gets (C := RX7) (n := "END") (d := "LBeardPass$Sort;") (v := .ref eE) hx hb (hZ ("END", eE) (List.mem_of_getElem? (i := 0) rfl)) hS hown (hts (.fieldLink RX9 25 "BeardPass$Sort" "END" "LBeardPass$Sort;") (by decide +kernel)) (fun _ h9 => h9) dX9_init_29 ?_
  refine zput (D := D) (ci := 8) (v := .ref eE) (ty := (.object "BeardPass$Sort")) hx hb hts hiX9 tyX9 tyX9_ok nmX9 hown hK hw hS 0 rfl rfl 4 (by decide) (hts (.fieldLink RX9 31 "BeardPass$Tape" "sort" "LBeardPass$Sort;") (by decide +kernel)) (fun _ h9 => h9) rfl (by decide +kernel) rfl rfl (Nat.le_of_ble_eq_true rfl) dX9_init_32 [(h0, .inr (8, [.ref q1, .int 0, .int 0, .int 0, .ref eE, .int 0, .long 0, .int 0])), (q1, .inl (ct 2, 1000, .inl (fun _ => 0)))] rfl (fun H locs hw hS => ?_)
  refine lv_aload_n hx hb dX9_init_35 rfl (lv_at hl 0 rfl) ?_
  refine lv_iconst (v := 0) hx hb dX9_init_36 (by decide) ?_
  refine zput (D := D) (ci := 8) (v := .int 0) (ty := .int) hx hb hts hiX9 tyX9 tyX9_ok nmX9 hown hK hw hS 0 rfl rfl 5 (by decide) (hts (.fieldLink RX9 34 "BeardPass$Tape" "number" "I") (by decide +kernel)) (fun _ h9 => h9) rfl (by decide +kernel) rfl rfl (Nat.le_of_ble_eq_true rfl) dX9_init_37 [(h0, .inr (8, [.ref q1, .int 0, .int 0, .int 0, .ref eE, .int 0, .long 0, .int 0])), (q1, .inl (ct 2, 1000, .inl (fun _ => 0)))] rfl (fun H locs hw hS => ?_)
  refine lv_aload_n hx hb dX9_init_40 rfl (lv_at hl 0 rfl) ?_
  refine lv_lconst (v := 0) hx hb dX9_init_41 (by decide) ?_
  refine zput (D := D) (ci := 8) (v := .long 0) (ty := .long) hx hb hts hiX9 tyX9 tyX9_ok nmX9 hown hK hw hS 0 rfl rfl 6 (by decide) (hts (.fieldLink RX9 37 "BeardPass$Tape" "word" "J") (by decide +kernel)) (fun _ h9 => h9) rfl (by decide +kernel) rfl rfl (Nat.le_of_ble_eq_true rfl) dX9_init_42 [(h0, .inr (8, [.ref q1, .int 0, .int 0, .int 0, .ref eE, .int 0, .long 0, .int 0])), (q1, .inl (ct 2, 1000, .inl (fun _ => 0)))] rfl (fun H locs hw hS => ?_)
  refine lv_aload_n hx hb dX9_init_45 rfl (lv_at hl 0 rfl) ?_
  refine lv_iconst (v := 0) hx hb dX9_init_46 (by decide) ?_
  refine zput (D := D) (ci := 8) (v := .int 0) (ty := .int) hx hb hts hiX9 tyX9 tyX9_ok nmX9 hown hK hw hS 0 rfl rfl 7 (by decide) (hts (.fieldLink RX9 41 "BeardPass$Tape" "fault" "I") (by decide +kernel)) (fun _ h9 => h9) rfl (by decide +kernel) rfl rfl (Nat.le_of_ble_eq_true rfl) dX9_init_47 [(h0, .inr (8, [.ref q1, .int 0, .int 0, .int 0, .ref eE, .int 0, .long 0, .int 0])), (q1, .inl (ct 2, 1000, .inl (fun _ => 0)))] rfl (fun H locs hw hS => ?_)
  exact zvret hx hb hr hlocks (fun j => ([q1] : List Nat).getD j 0) rfl (trivial) hw [0, 1] rfl (rfl) hS (Nat.le_of_ble_eq_true rfl) (Nat.le_of_ble_eq_true rfl) dX9_init_50
set_option maxHeartbeats 4000000 in
set_option maxRecDepth 100000 in
/-- BeardPassModel(): a new object -/
theorem c_X12_init (l : Launch) (D : va_G) (ct : Nat → ClassId) (h0 : Nat)  : zC l yX12_init wsX12_init ({ frames := 1, cells := 39, slots := 5117, locals := 80 }) D ct [] [.ref h0] [(h0, .inr (11, [.int 0, .int 0, .null, .int 0, .int 0, .int 0, .int 0, .long 0, .int 0, .int 0, .null, .null, .null, .null, .null, .null, .null, .null, .null, .null, .null, .null, .int 0, .int 0, .null, .null, .null, .null, .null, .null, .null, .null, .null, .null, .null, .null, .int 0, .long 0, .null, .null, .null, .null, .null, .null, .null, .null, .null, .null, .null, .null, .null, .int 0, .int 0, .null, .long 0, .int 0, .int 0]))] (S := Nat → Nat) (fun u => none) (fun u => True) (fun u => [(h0, .inr (11, [.int 0, .int 0, .ref (u 0), .int 0, .int 0, .int 0, .int 0, .long 0, .int 0, .int 0, .ref (u 1), .ref (u 2), .ref (u 3), .ref (u 4), .ref (u 5), .ref (u 6), .ref (u 7), .ref (u 8), .ref (u 9), .ref (u 10), .ref (u 11), .ref (u 12), .int 0, .int 0, .ref (u 13), .ref (u 14), .ref (u 15), .ref (u 16), .ref (u 17), .ref (u 18), .ref (u 19), .ref (u 20), .ref (u 21), .ref (u 22), .ref (u 23), .ref (u 24), .int 0, .long 0, .ref (u 25), .ref (u 26), .ref (u 27), .ref (u 28), .ref (u 29), .ref (u 30), .ref (u 31), .ref (u 32), .ref (u 33), .ref (u 34), .ref (u 35), .ref (u 36), .ref (u 37), .int 0, .int 0, .ref (u 38), .long 0, .int 0, .int 0])), (u 0, .inl (ct 0, 1000, .inl (fun _ => 0))), (u 1, .inl (ct 0, 8, .inl (upd (upd (fun _ => 0) 2 1) 3 2))), (u 2, .inl (ct 1, 12, .inr (.inl (fun _ => 0)))), (u 3, .inl (ct 1, 12, .inr (.inl (fun _ => 0)))), (u 4, .inl (ct 0, 12, .inl (fun _ => 0))), (u 5, .inl (ct 0, 12, .inl (fun _ => 0))), (u 6, .inl (ct 0, 12, .inl (fun _ => 0))), (u 7, .inl (ct 0, 12, .inl (fun _ => 0))), (u 8, .inl (ct 0, 12, .inl (fun _ => 0))), (u 9, .inl (ct 0, 12, .inl (fun _ => 0))), (u 10, .inl (ct 0, 2, .inl (fun _ => 0))), (u 11, .inl (ct 0, 2, .inl (fun _ => 0))), (u 12, .inl (ct 0, 2000, .inl (fun _ => 0))), (u 13, .inl (ct 0, 7, .inl (fun _ => 0))), (u 14, .inl (ct 3, 7, .inl (fun _ => 0))), (u 15, .inl (ct 0, 7, .inl (fun _ => 0))), (u 16, .inl (ct 0, 7, .inl (fun _ => 0))), (u 17, .inl (ct 0, 7, .inl (fun _ => 0))), (u 18, .inl (ct 0, 7, .inl (fun _ => 0))), (u 19, .inl (ct 0, 7, .inl (fun _ => 0))), (u 20, .inl (ct 0, 7, .inl (fun _ => 0))), (u 21, .inl (ct 0, 7, .inl (fun _ => 0))), (u 22, .inl (ct 0, 7, .inl (fun _ => 0))), (u 23, .inl (ct 0, 7, .inl (fun _ => 0))), (u 24, .inl (ct 0, 20, .inl (fun _ => 0))), (u 25, .inl (ct 0, 6, .inl (fun _ => 0))), (u 26, .inl (ct 0, 240, .inl (fun _ => 0))), (u 27, .inl (ct 0, 240, .inl (fun _ => 0))), (u 28, .inl (ct 0, 240, .inl (fun _ => 0))), (u 29, .inl (ct 0, 5, .inl (fun _ => 0))), (u 30, .inl (ct 0, 40, .inl (fun _ => 0))), (u 31, .inl (ct 3, 40, .inl (fun _ => 0))), (u 32, .inl (ct 0, 31, .inl (fun _ => 0))), (u 33, .inl (ct 0, 31, .inl (fun _ => 0))), (u 34, .inl (ct 0, 31, .inl (fun _ => 0))), (u 35, .inl (ct 0, 124, .inl (fun _ => 0))), (u 36, .inl (ct 0, 496, .inl (fun _ => 0))), (u 37, .inl (ct 3, 4, .inl (fun _ => 0))), (u 38, .inl (ct 3, 384, .inl (fun _ => 0)))]) 39 5117 := by
  refine zofW cX12_init 1 none (by decide) rfl (Nat.le_of_ble_eq_true rfl) ?_
  intro p e s m below meth c A hx hb hr hml hts hown hlocks hname hK hA hZ hN H locs hw hS ls hl
  have hown : s.vm.findClass RX12 = some m.cls := hown
  have hl : lv_has ls 1 [(0, .ref h0)] := hl
  have hiX12 : ∀ w ∈ wsX120, w ∈ wsX12_init := by decide +kernel
  refine lv_aload_n hx hb dX12_init_0 rfl (lv_at hl 0 rfl) ?_
  refine W.objInit hx hb hown (hts (.methodLink RX12 1 objectInit) (by decide +kernel)) (hts (.instanceMethod objectInit) (by decide +kernel)) (hts (.code objectInit ⟨#[0xb1]⟩ 1 none) (by decide +kernel)) rfl (by rw [hml]; exact hl.1) rfl dX12_init_1 (Nat.le_of_ble_eq_true rfl) (Nat.le_of_ble_eq_true rfl) ?_
  refine W.eq (g2 := F0 m 4 ls []) rfl ?_
  refine lv_aload_n hx hb dX12_init_4 rfl (lv_at hl 0 rfl) ?_
  refine lv_sipush (v := 1000) hx hb dX12_init_5 (by decide) ?_
  refine znewa (atype := .int) hx hb (hts (.arrayClass .int) (by decide +kernel)) 0 rfl hK hw hS hA 1000 (1000, .inl (fun _ => 0)) (fun _ => rfl) (by decide) (by decide) (by decide) (Nat.le_of_ble_eq_true rfl) (Nat.le_of_ble_eq_true rfl) dX12_init_8 (fun q1 H hw hS => ?_)
  have hw : zPD D A [(h0, .inr (11, [.int 0, .int 0, .null, .int 0, .int 0, .int 0, .int 0, .long 0, .int 0, .int 0, .null, .null, .null, .null, .null, .null, .null, .null, .null, .null, .null, .null, .int 0, .int 0, .null, .null, .null, .null, .null, .null, .null, .null, .null, .null, .null, .null, .int 0, .long 0, .null, .null, .null, .null, .null, .null, .null, .null, .null, .null, .null, .null, .null, .int 0, .int 0, .null, .long 0, .int 0, .int 0])), (q1, .inl (ct 0, 1000, .inl (fun _ => 0)))] H := hw
  refine zputF (D := D) (ci := 11) (v := .ref q1) (ty := (.array .int)) hx hb hts hiX12 tyX12 tyX12_ok nmX12 hown hK hw hS 0 rfl rfl 2 (by decide) (hts (.fieldLink RX12 7 "BeardPassModel" "tape" "[I") (by decide +kernel)) (fun _ h9 => h9) rfl hname rfl (by decide +kernel) rfl rfl (Nat.le_of_ble_eq_true rfl) dX12_init_10 [(h0, .inr (11, [.int 0, .int 0, .ref q1, .int 0, .int 0, .int 0, .int 0, .long 0, .int 0, .int 0, .null, .null, .null, .null, .null, .null, .null, .null, .null, .null, .null, .null, .int 0, .int 0, .null, .null, .null, .null, .null, .null, .null, .null, .null, .null, .null, .null, .int 0, .long 0, .null, .null, .null, .null, .null, .null, .null, .null, .null, .null, .null, .null, .null, .int 0, .int 0, .null, .long 0, .int 0, .int 0])), (q1, .inl (ct 0, 1000, .inl (fun _ => 0)))] rfl (fun H locs hw hS => ?_)
  refine lv_aload_n hx hb dX12_init_13 rfl (lv_at hl 0 rfl) ?_
  refine lv_bipush (v := 8) hx hb dX12_init_14 (by decide) ?_
  refine znewa (atype := .int) hx hb (hts (.arrayClass .int) (by decide +kernel)) 0 rfl hK hw hS hA 8 (8, .inl (fun _ => 0)) (fun _ => rfl) (by decide) (by decide) (by decide) (Nat.le_of_ble_eq_true rfl) (Nat.le_of_ble_eq_true rfl) dX12_init_16 (fun q2 H hw hS => ?_)
  have hw : zPD D A [(h0, .inr (11, [.int 0, .int 0, .ref q1, .int 0, .int 0, .int 0, .int 0, .long 0, .int 0, .int 0, .null, .null, .null, .null, .null, .null, .null, .null, .null, .null, .null, .null, .int 0, .int 0, .null, .null, .null, .null, .null, .null, .null, .null, .null, .null, .null, .null, .int 0, .long 0, .null, .null, .null, .null, .null, .null, .null, .null, .null, .null, .null, .null, .null, .int 0, .int 0, .null, .long 0, .int 0, .int 0])), (q1, .inl (ct 0, 1000, .inl (fun _ => 0))), (q2, .inl (ct 0, 8, .inl (fun _ => 0)))] H := hw
  refine zputF (D := D) (ci := 11) (v := .ref q2) (ty := (.array .int)) hx hb hts hiX12 tyX12 tyX12_ok nmX12 hown hK hw hS 0 rfl rfl 10 (by decide) (hts (.fieldLink RX12 13 "BeardPassModel" "land" "[I") (by decide +kernel)) (fun _ h9 => h9) rfl hname rfl (by decide +kernel) rfl rfl (Nat.le_of_ble_eq_true rfl) dX12_init_18 [(h0, .inr (11, [.int 0, .int 0, .ref q1, .int 0, .int 0, .int 0, .int 0, .long 0, .int 0, .int 0, .ref q2, .null, .null, .null, .null, .null, .null, .null, .null, .null, .null, .null, .int 0, .int 0, .null, .null, .null, .null, .null, .null, .null, .null, .null, .null, .null, .null, .int 0, .long 0, .null, .null, .null, .null, .null, .null, .null, .null, .null, .null, .null, .null, .null, .int 0, .int 0, .null, .long 0, .int 0, .int 0])), (q1, .inl (ct 0, 1000, .inl (fun _ => 0))), (q2, .inl (ct 0, 8, .inl (fun _ => 0)))] rfl (fun H locs hw hS => ?_)
  refine lv_aload_n hx hb dX12_init_21 rfl (lv_at hl 0 rfl) ?_
  refine lv_bipush (v := 12) hx hb dX12_init_22 (by decide) ?_
  refine znewa (atype := .long) hx hb (hts (.arrayClass .long) (by decide +kernel)) 1 rfl hK hw hS hA 12 (12, .inr (.inl (fun _ => 0))) (fun _ => rfl) (by decide) (by decide) (by decide) (Nat.le_of_ble_eq_true rfl) (Nat.le_of_ble_eq_true rfl) dX12_init_24 (fun q3 H hw hS => ?_)
  have hw : zPD D A [(h0, .inr (11, [.int 0, .int 0, .ref q1, .int 0, .int 0, .int 0, .int 0, .long 0, .int 0, .int 0, .ref q2, .null, .null, .null, .null, .null, .null, .null, .null, .null, .null, .null, .int 0, .int 0, .null, .null, .null, .null, .null, .null, .null, .null, .null, .null, .null, .null, .int 0, .long 0, .null, .null, .null, .null, .null, .null, .null, .null, .null, .null, .null, .null, .null, .int 0, .int 0, .null, .long 0, .int 0, .int 0])), (q1, .inl (ct 0, 1000, .inl (fun _ => 0))), (q2, .inl (ct 0, 8, .inl (fun _ => 0))), (q3, .inl (ct 1, 12, .inr (.inl (fun _ => 0))))] H := hw
  refine zputF (D := D) (ci := 11) (v := .ref q3) (ty := (.array .long)) hx hb hts hiX12 tyX12 tyX12_ok nmX12 hown hK hw hS 0 rfl rfl 11 (by decide) (hts (.fieldLink RX12 16 "BeardPassModel" "townName" "[J") (by decide +kernel)) (fun _ h9 => h9) rfl hname rfl (by decide +kernel) rfl rfl (Nat.le_of_ble_eq_true rfl) dX12_init_26 [(h0, .inr (11, [.int 0, .int 0, .ref q1, .int 0, .int 0, .int 0, .int 0, .long 0, .int 0, .int 0, .ref q2, .ref q3, .null, .null, .null, .null, .null, .null, .null, .null, .null, .null, .int 0, .int 0, .null, .null, .null, .null, .null, .null, .null, .null, .null, .null, .null, .null, .int 0, .long 0, .null, .null, .null, .null, .null, .null, .null, .null, .null, .null, .null, .null, .null, .int 0, .int 0, .null, .long 0, .int 0, .int 0])), (q1, .inl (ct 0, 1000, .inl (fun _ => 0))), (q2, .inl (ct 0, 8, .inl (fun _ => 0))), (q3, .inl (ct 1, 12, .inr (.inl (fun _ => 0))))] rfl (fun H locs hw hS => ?_)
  refine lv_aload_n hx hb dX12_init_29 rfl (lv_at hl 0 rfl) ?_
  refine lv_bipush (v := 12) hx hb dX12_init_30 (by decide) ?_
  refine znewa (atype := .long) hx hb (hts (.arrayClass .long) (by decide +kernel)) 1 rfl hK hw hS hA 12 (12, .inr (.inl (fun _ => 0))) (fun _ => rfl) (by decide) (by decide) (by decide) (Nat.le_of_ble_eq_true rfl) (Nat.le_of_ble_eq_true rfl) dX12_init_32 (fun q4 H hw hS => ?_)
  have hw : zPD D A [(h0, .inr (11, [.int 0, .int 0, .ref q1, .int 0, .int 0, .int 0, .int 0, .long 0, .int 0, .int 0, .ref q2, .ref q3, .null, .null, .null, .null, .null, .null, .null, .null, .null, .null, .int 0, .int 0, .null, .null, .null, .null, .null, .null, .null, .null, .null, .null, .null, .null, .int 0, .long 0, .null, .null, .null, .null, .null, .null, .null, .null, .null, .null, .null, .null, .null, .int 0, .int 0, .null, .long 0, .int 0, .int 0])), (q1, .inl (ct 0, 1000, .inl (fun _ => 0))), (q2, .inl (ct 0, 8, .inl (fun _ => 0))), (q3, .inl (ct 1, 12, .inr (.inl (fun _ => 0)))), (q4, .inl (ct 1, 12, .inr (.inl (fun _ => 0))))] H := hw
  refine zputF (D := D) (ci := 11) (v := .ref q4) (ty := (.array .long)) hx hb hts hiX12 tyX12 tyX12_ok nmX12 hown hK hw hS 0 rfl rfl 12 (by decide) (hts (.fieldLink RX12 20 "BeardPassModel" "personName" "[J") (by decide +kernel)) (fun _ h9 => h9) rfl hname rfl (by decide +kernel) rfl rfl (Nat.le_of_ble_eq_true rfl) dX12_init_34 [(h0, .inr (11, [.int 0, .int 0, .ref q1, .int 0, .int 0, .int 0, .int 0, .long 0, .int 0, .int 0, .ref q2, .ref q3, .ref q4, .null, .null, .null, .null, .null, .null, .null, .null, .null, .int 0, .int 0, .null, .null, .null, .null, .null, .null, .null, .null, .null, .null, .null, .null, .int 0, .long 0, .null, .null, .null, .null, .null, .null, .null, .null, .null, .null, .null, .null, .null, .int 0, .int 0, .null, .long 0, .int 0, .int 0])), (q1, .inl (ct 0, 1000, .inl (fun _ => 0))), (q2, .inl (ct 0, 8, .inl (fun _ => 0))), (q3, .inl (ct 1, 12, .inr (.inl (fun _ => 0)))), (q4, .inl (ct 1, 12, .inr (.inl (fun _ => 0))))] rfl (fun H locs hw hS => ?_)
  refine lv_aload_n hx hb dX12_init_37 rfl (lv_at hl 0 rfl) ?_
  refine lv_bipush (v := 12) hx hb dX12_init_38 (by decide) ?_
  refine znewa (atype := .int) hx hb (hts (.arrayClass .int) (by decide +kernel)) 0 rfl hK hw hS hA 12 (12, .inl (fun _ => 0)) (fun _ => rfl) (by decide) (by decide) (by decide) (Nat.le_of_ble_eq_true rfl) (Nat.le_of_ble_eq_true rfl) dX12_init_40 (fun q5 H hw hS => ?_)
  have hw : zPD D A [(h0, .inr (11, [.int 0, .int 0, .ref q1, .int 0, .int 0, .int 0, .int 0, .long 0, .int 0, .int 0, .ref q2, .ref q3, .ref q4, .null, .null, .null, .null, .null, .null, .null, .null, .null, .int 0, .int 0, .null, .null, .null, .null, .null, .null, .null, .null, .null, .null, .null, .null, .int 0, .long 0, .null, .null, .null, .null, .null, .null, .null, .null, .null, .null, .null, .null, .null, .int 0, .int 0, .null, .long 0, .int 0, .int 0])), (q1, .inl (ct 0, 1000, .inl (fun _ => 0))), (q2, .inl (ct 0, 8, .inl (fun _ => 0))), (q3, .inl (ct 1, 12, .inr (.inl (fun _ => 0)))), (q4, .inl (ct 1, 12, .inr (.inl (fun _ => 0)))), (q5, .inl (ct 0, 12, .inl (fun _ => 0)))] H := hw
  refine zputF (D := D) (ci := 11) (v := .ref q5) (ty := (.array .int)) hx hb hts hiX12 tyX12 tyX12_ok nmX12 hown hK hw hS 0 rfl rfl 13 (by decide) (hts (.fieldLink RX12 23 "BeardPassModel" "asks" "[I") (by decide +kernel)) (fun _ h9 => h9) rfl hname rfl (by decide +kernel) rfl rfl (Nat.le_of_ble_eq_true rfl) dX12_init_42 [(h0, .inr (11, [.int 0, .int 0, .ref q1, .int 0, .int 0, .int 0, .int 0, .long 0, .int 0, .int 0, .ref q2, .ref q3, .ref q4, .ref q5, .null, .null, .null, .null, .null, .null, .null, .null, .int 0, .int 0, .null, .null, .null, .null, .null, .null, .null, .null, .null, .null, .null, .null, .int 0, .long 0, .null, .null, .null, .null, .null, .null, .null, .null, .null, .null, .null, .null, .null, .int 0, .int 0, .null, .long 0, .int 0, .int 0])), (q1, .inl (ct 0, 1000, .inl (fun _ => 0))), (q2, .inl (ct 0, 8, .inl (fun _ => 0))), (q3, .inl (ct 1, 12, .inr (.inl (fun _ => 0)))), (q4, .inl (ct 1, 12, .inr (.inl (fun _ => 0)))), (q5, .inl (ct 0, 12, .inl (fun _ => 0)))] rfl (fun H locs hw hS => ?_)
  refine lv_aload_n hx hb dX12_init_45 rfl (lv_at hl 0 rfl) ?_
  refine lv_bipush (v := 12) hx hb dX12_init_46 (by decide) ?_
  refine znewa (atype := .int) hx hb (hts (.arrayClass .int) (by decide +kernel)) 0 rfl hK hw hS hA 12 (12, .inl (fun _ => 0)) (fun _ => rfl) (by decide) (by decide) (by decide) (Nat.le_of_ble_eq_true rfl) (Nat.le_of_ble_eq_true rfl) dX12_init_48 (fun q6 H hw hS => ?_)
  have hw : zPD D A [(h0, .inr (11, [.int 0, .int 0, .ref q1, .int 0, .int 0, .int 0, .int 0, .long 0, .int 0, .int 0, .ref q2, .ref q3, .ref q4, .ref q5, .null, .null, .null, .null, .null, .null, .null, .null, .int 0, .int 0, .null, .null, .null, .null, .null, .null, .null, .null, .null, .null, .null, .null, .int 0, .long 0, .null, .null, .null, .null, .null, .null, .null, .null, .null, .null, .null, .null, .null, .int 0, .int 0, .null, .long 0, .int 0, .int 0])), (q1, .inl (ct 0, 1000, .inl (fun _ => 0))), (q2, .inl (ct 0, 8, .inl (fun _ => 0))), (q3, .inl (ct 1, 12, .inr (.inl (fun _ => 0)))), (q4, .inl (ct 1, 12, .inr (.inl (fun _ => 0)))), (q5, .inl (ct 0, 12, .inl (fun _ => 0))), (q6, .inl (ct 0, 12, .inl (fun _ => 0)))] H := hw
  refine zputF (D := D) (ci := 11) (v := .ref q6) (ty := (.array .int)) hx hb hts hiX12 tyX12 tyX12_ok nmX12 hown hK hw hS 0 rfl rfl 14 (by decide) (hts (.fieldLink RX12 26 "BeardPassModel" "roads" "[I") (by decide +kernel)) (fun _ h9 => h9) rfl hname rfl (by decide +kernel) rfl rfl (Nat.le_of_ble_eq_true rfl) dX12_init_50 [(h0, .inr (11, [.int 0, .int 0, .ref q1, .int 0, .int 0, .int 0, .int 0, .long 0, .int 0, .int 0, .ref q2, .ref q3, .ref q4, .ref q5, .ref q6, .null, .null, .null, .null, .null, .null, .null, .int 0, .int 0, .null, .null, .null, .null, .null, .null, .null, .null, .null, .null, .null, .null, .int 0, .long 0, .null, .null, .null, .null, .null, .null, .null, .null, .null, .null, .null, .null, .null, .int 0, .int 0, .null, .long 0, .int 0, .int 0])), (q1, .inl (ct 0, 1000, .inl (fun _ => 0))), (q2, .inl (ct 0, 8, .inl (fun _ => 0))), (q3, .inl (ct 1, 12, .inr (.inl (fun _ => 0)))), (q4, .inl (ct 1, 12, .inr (.inl (fun _ => 0)))), (q5, .inl (ct 0, 12, .inl (fun _ => 0))), (q6, .inl (ct 0, 12, .inl (fun _ => 0)))] rfl (fun H locs hw hS => ?_)
  refine lv_aload_n hx hb dX12_init_53 rfl (lv_at hl 0 rfl) ?_
  refine lv_bipush (v := 12) hx hb dX12_init_54 (by decide) ?_
  refine znewa (atype := .int) hx hb (hts (.arrayClass .int) (by decide +kernel)) 0 rfl hK hw hS hA 12 (12, .inl (fun _ => 0)) (fun _ => rfl) (by decide) (by decide) (by decide) (Nat.le_of_ble_eq_true rfl) (Nat.le_of_ble_eq_true rfl) dX12_init_56 (fun q7 H hw hS => ?_)
  have hw : zPD D A [(h0, .inr (11, [.int 0, .int 0, .ref q1, .int 0, .int 0, .int 0, .int 0, .long 0, .int 0, .int 0, .ref q2, .ref q3, .ref q4, .ref q5, .ref q6, .null, .null, .null, .null, .null, .null, .null, .int 0, .int 0, .null, .null, .null, .null, .null, .null, .null, .null, .null, .null, .null, .null, .int 0, .long 0, .null, .null, .null, .null, .null, .null, .null, .null, .null, .null, .null, .null, .null, .int 0, .int 0, .null, .long 0, .int 0, .int 0])), (q1, .inl (ct 0, 1000, .inl (fun _ => 0))), (q2, .inl (ct 0, 8, .inl (fun _ => 0))), (q3, .inl (ct 1, 12, .inr (.inl (fun _ => 0)))), (q4, .inl (ct 1, 12, .inr (.inl (fun _ => 0)))), (q5, .inl (ct 0, 12, .inl (fun _ => 0))), (q6, .inl (ct 0, 12, .inl (fun _ => 0))), (q7, .inl (ct 0, 12, .inl (fun _ => 0)))] H := hw
  refine zputF (D := D) (ci := 11) (v := .ref q7) (ty := (.array .int)) hx hb hts hiX12 tyX12 tyX12_ok nmX12 hown hK hw hS 0 rfl rfl 15 (by decide) (hts (.fieldLink RX12 29 "BeardPassModel" "kind" "[I") (by decide +kernel)) (fun _ h9 => h9) rfl hname rfl (by decide +kernel) rfl rfl (Nat.le_of_ble_eq_true rfl) dX12_init_58 [(h0, .inr (11, [.int 0, .int 0, .ref q1, .int 0, .int 0, .int 0, .int 0, .long 0, .int 0, .int 0, .ref q2, .ref q3, .ref q4, .ref q5, .ref q6, .ref q7, .null, .null, .null, .null, .null, .null, .int 0, .int 0, .null, .null, .null, .null, .null, .null, .null, .null, .null, .null, .null, .null, .int 0, .long 0, .null, .null, .null, .null, .null, .null, .null, .null, .null, .null, .null, .null, .null, .int 0, .int 0, .null, .long 0, .int 0, .int 0])), (q1, .inl (ct 0, 1000, .inl (fun _ => 0))), (q2, .inl (ct 0, 8, .inl (fun _ => 0))), (q3, .inl (ct 1, 12, .inr (.inl (fun _ => 0)))), (q4, .inl (ct 1, 12, .inr (.inl (fun _ => 0)))), (q5, .inl (ct 0, 12, .inl (fun _ => 0))), (q6, .inl (ct 0, 12, .inl (fun _ => 0))), (q7, .inl (ct 0, 12, .inl (fun _ => 0)))] rfl (fun H locs hw hS => ?_)
  refine lv_aload_n hx hb dX12_init_61 rfl (lv_at hl 0 rfl) ?_
  refine lv_bipush (v := 12) hx hb dX12_init_62 (by decide) ?_
  refine znewa (atype := .int) hx hb (hts (.arrayClass .int) (by decide +kernel)) 0 rfl hK hw hS hA 12 (12, .inl (fun _ => 0)) (fun _ => rfl) (by decide) (by decide) (by decide) (Nat.le_of_ble_eq_true rfl) (Nat.le_of_ble_eq_true rfl) dX12_init_64 (fun q8 H hw hS => ?_)
  have hw : zPD D A [(h0, .inr (11, [.int 0, .int 0, .ref q1, .int 0, .int 0, .int 0, .int 0, .long 0, .int 0, .int 0, .ref q2, .ref q3, .ref q4, .ref q5, .ref q6, .ref q7, .null, .null, .null, .null, .null, .null, .int 0, .int 0, .null, .null, .null, .null, .null, .null, .null, .null, .null, .null, .null, .null, .int 0, .long 0, .null, .null, .null, .null, .null, .null, .null, .null, .null, .null, .null, .null, .null, .int 0, .int 0, .null, .long 0, .int 0, .int 0])), (q1, .inl (ct 0, 1000, .inl (fun _ => 0))), (q2, .inl (ct 0, 8, .inl (fun _ => 0))), (q3, .inl (ct 1, 12, .inr (.inl (fun _ => 0)))), (q4, .inl (ct 1, 12, .inr (.inl (fun _ => 0)))), (q5, .inl (ct 0, 12, .inl (fun _ => 0))), (q6, .inl (ct 0, 12, .inl (fun _ => 0))), (q7, .inl (ct 0, 12, .inl (fun _ => 0))), (q8, .inl (ct 0, 12, .inl (fun _ => 0)))] H := hw
  refine zputF (D := D) (ci := 11) (v := .ref q8) (ty := (.array .int)) hx hb hts hiX12 tyX12 tyX12_ok nmX12 hown hK hw hS 0 rfl rfl 16 (by decide) (hts (.fieldLink RX12 32 "BeardPassModel" "atTold" "[I") (by decide +kernel)) (fun _ h9 => h9) rfl hname rfl (by decide +kernel) rfl rfl (Nat.le_of_ble_eq_true rfl) dX12_init_66 [(h0, .inr (11, [.int 0, .int 0, .ref q1, .int 0, .int 0, .int 0, .int 0, .long 0, .int 0, .int 0, .ref q2, .ref q3, .ref q4, .ref q5, .ref q6, .ref q7, .ref q8, .null, .null, .null, .null, .null, .int 0, .int 0, .null, .null, .null, .null, .null, .null, .null, .null, .null, .null, .null, .null, .int 0, .long 0, .null, .null, .null, .null, .null, .null, .null, .null, .null, .null, .null, .null, .null, .int 0, .int 0, .null, .long 0, .int 0, .int 0])), (q1, .inl (ct 0, 1000, .inl (fun _ => 0))), (q2, .inl (ct 0, 8, .inl (fun _ => 0))), (q3, .inl (ct 1, 12, .inr (.inl (fun _ => 0)))), (q4, .inl (ct 1, 12, .inr (.inl (fun _ => 0)))), (q5, .inl (ct 0, 12, .inl (fun _ => 0))), (q6, .inl (ct 0, 12, .inl (fun _ => 0))), (q7, .inl (ct 0, 12, .inl (fun _ => 0))), (q8, .inl (ct 0, 12, .inl (fun _ => 0)))] rfl (fun H locs hw hS => ?_)
  refine lv_aload_n hx hb dX12_init_69 rfl (lv_at hl 0 rfl) ?_
  refine lv_bipush (v := 12) hx hb dX12_init_70 (by decide) ?_
  refine znewa (atype := .int) hx hb (hts (.arrayClass .int) (by decide +kernel)) 0 rfl hK hw hS hA 12 (12, .inl (fun _ => 0)) (fun _ => rfl) (by decide) (by decide) (by decide) (Nat.le_of_ble_eq_true rfl) (Nat.le_of_ble_eq_true rfl) dX12_init_72 (fun q9 H hw hS => ?_)
  have hw : zPD D A [(h0, .inr (11, [.int 0, .int 0, .ref q1, .int 0, .int 0, .int 0, .int 0, .long 0, .int 0, .int 0, .ref q2, .ref q3, .ref q4, .ref q5, .ref q6, .ref q7, .ref q8, .null, .null, .null, .null, .null, .int 0, .int 0, .null, .null, .null, .null, .null, .null, .null, .null, .null, .null, .null, .null, .int 0, .long 0, .null, .null, .null, .null, .null, .null, .null, .null, .null, .null, .null, .null, .null, .int 0, .int 0, .null, .long 0, .int 0, .int 0])), (q1, .inl (ct 0, 1000, .inl (fun _ => 0))), (q2, .inl (ct 0, 8, .inl (fun _ => 0))), (q3, .inl (ct 1, 12, .inr (.inl (fun _ => 0)))), (q4, .inl (ct 1, 12, .inr (.inl (fun _ => 0)))), (q5, .inl (ct 0, 12, .inl (fun _ => 0))), (q6, .inl (ct 0, 12, .inl (fun _ => 0))), (q7, .inl (ct 0, 12, .inl (fun _ => 0))), (q8, .inl (ct 0, 12, .inl (fun _ => 0))), (q9, .inl (ct 0, 12, .inl (fun _ => 0)))] H := hw
  refine zputF (D := D) (ci := 11) (v := .ref q9) (ty := (.array .int)) hx hb hts hiX12 tyX12 tyX12_ok nmX12 hown hK hw hS 0 rfl rfl 17 (by decide) (hts (.fieldLink RX12 35 "BeardPassModel" "beardTold" "[I") (by decide +kernel)) (fun _ h9 => h9) rfl hname rfl (by decide +kernel) rfl rfl (Nat.le_of_ble_eq_true rfl) dX12_init_74 [(h0, .inr (11, [.int 0, .int 0, .ref q1, .int 0, .int 0, .int 0, .int 0, .long 0, .int 0, .int 0, .ref q2, .ref q3, .ref q4, .ref q5, .ref q6, .ref q7, .ref q8, .ref q9, .null, .null, .null, .null, .int 0, .int 0, .null, .null, .null, .null, .null, .null, .null, .null, .null, .null, .null, .null, .int 0, .long 0, .null, .null, .null, .null, .null, .null, .null, .null, .null, .null, .null, .null, .null, .int 0, .int 0, .null, .long 0, .int 0, .int 0])), (q1, .inl (ct 0, 1000, .inl (fun _ => 0))), (q2, .inl (ct 0, 8, .inl (fun _ => 0))), (q3, .inl (ct 1, 12, .inr (.inl (fun _ => 0)))), (q4, .inl (ct 1, 12, .inr (.inl (fun _ => 0)))), (q5, .inl (ct 0, 12, .inl (fun _ => 0))), (q6, .inl (ct 0, 12, .inl (fun _ => 0))), (q7, .inl (ct 0, 12, .inl (fun _ => 0))), (q8, .inl (ct 0, 12, .inl (fun _ => 0))), (q9, .inl (ct 0, 12, .inl (fun _ => 0)))] rfl (fun H locs hw hS => ?_)
  refine lv_aload_n hx hb dX12_init_77 rfl (lv_at hl 0 rfl) ?_
  refine lv_bipush (v := 12) hx hb dX12_init_78 (by decide) ?_
  refine znewa (atype := .int) hx hb (hts (.arrayClass .int) (by decide +kernel)) 0 rfl hK hw hS hA 12 (12, .inl (fun _ => 0)) (fun _ => rfl) (by decide) (by decide) (by decide) (Nat.le_of_ble_eq_true rfl) (Nat.le_of_ble_eq_true rfl) dX12_init_80 (fun q10 H hw hS => ?_)
  have hw : zPD D A [(h0, .inr (11, [.int 0, .int 0, .ref q1, .int 0, .int 0, .int 0, .int 0, .long 0, .int 0, .int 0, .ref q2, .ref q3, .ref q4, .ref q5, .ref q6, .ref q7, .ref q8, .ref q9, .null, .null, .null, .null, .int 0, .int 0, .null, .null, .null, .null, .null, .null, .null, .null, .null, .null, .null, .null, .int 0, .long 0, .null, .null, .null, .null, .null, .null, .null, .null, .null, .null, .null, .null, .null, .int 0, .int 0, .null, .long 0, .int 0, .int 0])), (q1, .inl (ct 0, 1000, .inl (fun _ => 0))), (q2, .inl (ct 0, 8, .inl (fun _ => 0))), (q3, .inl (ct 1, 12, .inr (.inl (fun _ => 0)))), (q4, .inl (ct 1, 12, .inr (.inl (fun _ => 0)))), (q5, .inl (ct 0, 12, .inl (fun _ => 0))), (q6, .inl (ct 0, 12, .inl (fun _ => 0))), (q7, .inl (ct 0, 12, .inl (fun _ => 0))), (q8, .inl (ct 0, 12, .inl (fun _ => 0))), (q9, .inl (ct 0, 12, .inl (fun _ => 0))), (q10, .inl (ct 0, 12, .inl (fun _ => 0)))] H := hw
  refine zputF (D := D) (ci := 11) (v := .ref q10) (ty := (.array .int)) hx hb hts hiX12 tyX12 tyX12_ok nmX12 hown hK hw hS 0 rfl rfl 18 (by decide) (hts (.fieldLink RX12 38 "BeardPassModel" "purseTold" "[I") (by decide +kernel)) (fun _ h9 => h9) rfl hname rfl (by decide +kernel) rfl rfl (Nat.le_of_ble_eq_true rfl) dX12_init_82 [(h0, .inr (11, [.int 0, .int 0, .ref q1, .int 0, .int 0, .int 0, .int 0, .long 0, .int 0, .int 0, .ref q2, .ref q3, .ref q4, .ref q5, .ref q6, .ref q7, .ref q8, .ref q9, .ref q10, .null, .null, .null, .int 0, .int 0, .null, .null, .null, .null, .null, .null, .null, .null, .null, .null, .null, .null, .int 0, .long 0, .null, .null, .null, .null, .null, .null, .null, .null, .null, .null, .null, .null, .null, .int 0, .int 0, .null, .long 0, .int 0, .int 0])), (q1, .inl (ct 0, 1000, .inl (fun _ => 0))), (q2, .inl (ct 0, 8, .inl (fun _ => 0))), (q3, .inl (ct 1, 12, .inr (.inl (fun _ => 0)))), (q4, .inl (ct 1, 12, .inr (.inl (fun _ => 0)))), (q5, .inl (ct 0, 12, .inl (fun _ => 0))), (q6, .inl (ct 0, 12, .inl (fun _ => 0))), (q7, .inl (ct 0, 12, .inl (fun _ => 0))), (q8, .inl (ct 0, 12, .inl (fun _ => 0))), (q9, .inl (ct 0, 12, .inl (fun _ => 0))), (q10, .inl (ct 0, 12, .inl (fun _ => 0)))] rfl (fun H locs hw hS => ?_)
  refine lv_aload_n hx hb dX12_init_85 rfl (lv_at hl 0 rfl) ?_
  refine lv_iconst (v := 2) hx hb dX12_init_86 (by decide) ?_
  refine znewa (atype := .int) hx hb (hts (.arrayClass .int) (by decide +kernel)) 0 rfl hK hw hS hA 2 (2, .inl (fun _ => 0)) (fun _ => rfl) (by decide) (by decide) (by decide) (Nat.le_of_ble_eq_true rfl) (Nat.le_of_ble_eq_true rfl) dX12_init_87 (fun q11 H hw hS => ?_)
  have hw : zPD D A [(h0, .inr (11, [.int 0, .int 0, .ref q1, .int 0, .int 0, .int 0, .int 0, .long 0, .int 0, .int 0, .ref q2, .ref q3, .ref q4, .ref q5, .ref q6, .ref q7, .ref q8, .ref q9, .ref q10, .null, .null, .null, .int 0, .int 0, .null, .null, .null, .null, .null, .null, .null, .null, .null, .null, .null, .null, .int 0, .long 0, .null, .null, .null, .null, .null, .null, .null, .null, .null, .null, .null, .null, .null, .int 0, .int 0, .null, .long 0, .int 0, .int 0])), (q1, .inl (ct 0, 1000, .inl (fun _ => 0))), (q2, .inl (ct 0, 8, .inl (fun _ => 0))), (q3, .inl (ct 1, 12, .inr (.inl (fun _ => 0)))), (q4, .inl (ct 1, 12, .inr (.inl (fun _ => 0)))), (q5, .inl (ct 0, 12, .inl (fun _ => 0))), (q6, .inl (ct 0, 12, .inl (fun _ => 0))), (q7, .inl (ct 0, 12, .inl (fun _ => 0))), (q8, .inl (ct 0, 12, .inl (fun _ => 0))), (q9, .inl (ct 0, 12, .inl (fun _ => 0))), (q10, .inl (ct 0, 12, .inl (fun _ => 0))), (q11, .inl (ct 0, 2, .inl (fun _ => 0)))] H := hw
  refine zputF (D := D) (ci := 11) (v := .ref q11) (ty := (.array .int)) hx hb hts hiX12 tyX12 tyX12_ok nmX12 hown hK hw hS 0 rfl rfl 19 (by decide) (hts (.fieldLink RX12 41 "BeardPassModel" "lineFrom" "[I") (by decide +kernel)) (fun _ h9 => h9) rfl hname rfl (by decide +kernel) rfl rfl (Nat.le_of_ble_eq_true rfl) dX12_init_89 [(h0, .inr (11, [.int 0, .int 0, .ref q1, .int 0, .int 0, .int 0, .int 0, .long 0, .int 0, .int 0, .ref q2, .ref q3, .ref q4, .ref q5, .ref q6, .ref q7, .ref q8, .ref q9, .ref q10, .ref q11, .null, .null, .int 0, .int 0, .null, .null, .null, .null, .null, .null, .null, .null, .null, .null, .null, .null, .int 0, .long 0, .null, .null, .null, .null, .null, .null, .null, .null, .null, .null, .null, .null, .null, .int 0, .int 0, .null, .long 0, .int 0, .int 0])), (q1, .inl (ct 0, 1000, .inl (fun _ => 0))), (q2, .inl (ct 0, 8, .inl (fun _ => 0))), (q3, .inl (ct 1, 12, .inr (.inl (fun _ => 0)))), (q4, .inl (ct 1, 12, .inr (.inl (fun _ => 0)))), (q5, .inl (ct 0, 12, .inl (fun _ => 0))), (q6, .inl (ct 0, 12, .inl (fun _ => 0))), (q7, .inl (ct 0, 12, .inl (fun _ => 0))), (q8, .inl (ct 0, 12, .inl (fun _ => 0))), (q9, .inl (ct 0, 12, .inl (fun _ => 0))), (q10, .inl (ct 0, 12, .inl (fun _ => 0))), (q11, .inl (ct 0, 2, .inl (fun _ => 0)))] rfl (fun H locs hw hS => ?_)
  refine lv_aload_n hx hb dX12_init_92 rfl (lv_at hl 0 rfl) ?_
  refine lv_iconst (v := 2) hx hb dX12_init_93 (by decide) ?_
  refine znewa (atype := .int) hx hb (hts (.arrayClass .int) (by decide +kernel)) 0 rfl hK hw hS hA 2 (2, .inl (fun _ => 0)) (fun _ => rfl) (by decide) (by decide) (by decide) (Nat.le_of_ble_eq_true rfl) (Nat.le_of_ble_eq_true rfl) dX12_init_94 (fun q12 H hw hS => ?_)
  have hw : zPD D A [(h0, .inr (11, [.int 0, .int 0, .ref q1, .int 0, .int 0, .int 0, .int 0, .long 0, .int 0, .int 0, .ref q2, .ref q3, .ref q4, .ref q5, .ref q6, .ref q7, .ref q8, .ref q9, .ref q10, .ref q11, .null, .null, .int 0, .int 0, .null, .null, .null, .null, .null, .null, .null, .null, .null, .null, .null, .null, .int 0, .long 0, .null, .null, .null, .null, .null, .null, .null, .null, .null, .null, .null, .null, .null, .int 0, .int 0, .null, .long 0, .int 0, .int 0])), (q1, .inl (ct 0, 1000, .inl (fun _ => 0))), (q2, .inl (ct 0, 8, .inl (fun _ => 0))), (q3, .inl (ct 1, 12, .inr (.inl (fun _ => 0)))), (q4, .inl (ct 1, 12, .inr (.inl (fun _ => 0)))), (q5, .inl (ct 0, 12, .inl (fun _ => 0))), (q6, .inl (ct 0, 12, .inl (fun _ => 0))), (q7, .inl (ct 0, 12, .inl (fun _ => 0))), (q8, .inl (ct 0, 12, .inl (fun _ => 0))), (q9, .inl (ct 0, 12, .inl (fun _ => 0))), (q10, .inl (ct 0, 12, .inl (fun _ => 0))), (q11, .inl (ct 0, 2, .inl (fun _ => 0))), (q12, .inl (ct 0, 2, .inl (fun _ => 0)))] H := hw
  refine zputF (D := D) (ci := 11) (v := .ref q12) (ty := (.array .int)) hx hb hts hiX12 tyX12 tyX12_ok nmX12 hown hK hw hS 0 rfl rfl 20 (by decide) (hts (.fieldLink RX12 44 "BeardPassModel" "lineTo" "[I") (by decide +kernel)) (fun _ h9 => h9) rfl hname rfl (by decide +kernel) rfl rfl (Nat.le_of_ble_eq_true rfl) dX12_init_96 [(h0, .inr (11, [.int 0, .int 0, .ref q1, .int 0, .int 0, .int 0, .int 0, .long 0, .int 0, .int 0, .ref q2, .ref q3, .ref q4, .ref q5, .ref q6, .ref q7, .ref q8, .ref q9, .ref q10, .ref q11, .ref q12, .null, .int 0, .int 0, .null, .null, .null, .null, .null, .null, .null, .null, .null, .null, .null, .null, .int 0, .long 0, .null, .null, .null, .null, .null, .null, .null, .null, .null, .null, .null, .null, .null, .int 0, .int 0, .null, .long 0, .int 0, .int 0])), (q1, .inl (ct 0, 1000, .inl (fun _ => 0))), (q2, .inl (ct 0, 8, .inl (fun _ => 0))), (q3, .inl (ct 1, 12, .inr (.inl (fun _ => 0)))), (q4, .inl (ct 1, 12, .inr (.inl (fun _ => 0)))), (q5, .inl (ct 0, 12, .inl (fun _ => 0))), (q6, .inl (ct 0, 12, .inl (fun _ => 0))), (q7, .inl (ct 0, 12, .inl (fun _ => 0))), (q8, .inl (ct 0, 12, .inl (fun _ => 0))), (q9, .inl (ct 0, 12, .inl (fun _ => 0))), (q10, .inl (ct 0, 12, .inl (fun _ => 0))), (q11, .inl (ct 0, 2, .inl (fun _ => 0))), (q12, .inl (ct 0, 2, .inl (fun _ => 0)))] rfl (fun H locs hw hS => ?_)
  refine lv_aload_n hx hb dX12_init_99 rfl (lv_at hl 0 rfl) ?_
  refine lv_sipush (v := 2000) hx hb dX12_init_100 (by decide) ?_
  refine znewa (atype := .int) hx hb (hts (.arrayClass .int) (by decide +kernel)) 0 rfl hK hw hS hA 2000 (2000, .inl (fun _ => 0)) (fun _ => rfl) (by decide) (by decide) (by decide) (Nat.le_of_ble_eq_true rfl) (Nat.le_of_ble_eq_true rfl) dX12_init_103 (fun q13 H hw hS => ?_)
  have hw : zPD D A [(h0, .inr (11, [.int 0, .int 0, .ref q1, .int 0, .int 0, .int 0, .int 0, .long 0, .int 0, .int 0, .ref q2, .ref q3, .ref q4, .ref q5, .ref q6, .ref q7, .ref q8, .ref q9, .ref q10, .ref q11, .ref q12, .null, .int 0, .int 0, .null, .null, .null, .null, .null, .null, .null, .null, .null, .null, .null, .null, .int 0, .long 0, .null, .null, .null, .null, .null, .null, .null, .null, .null, .null, .null, .null, .null, .int 0, .int 0, .null, .long 0, .int 0, .int 0])), (q1, .inl (ct 0, 1000, .inl (fun _ => 0))), (q2, .inl (ct 0, 8, .inl (fun _ => 0))), (q3, .inl (ct 1, 12, .inr (.inl (fun _ => 0)))), (q4, .inl (ct 1, 12, .inr (.inl (fun _ => 0)))), (q5, .inl (ct 0, 12, .inl (fun _ => 0))), (q6, .inl (ct 0, 12, .inl (fun _ => 0))), (q7, .inl (ct 0, 12, .inl (fun _ => 0))), (q8, .inl (ct 0, 12, .inl (fun _ => 0))), (q9, .inl (ct 0, 12, .inl (fun _ => 0))), (q10, .inl (ct 0, 12, .inl (fun _ => 0))), (q11, .inl (ct 0, 2, .inl (fun _ => 0))), (q12, .inl (ct 0, 2, .inl (fun _ => 0))), (q13, .inl (ct 0, 2000, .inl (fun _ => 0)))] H := hw
  refine zputF (D := D) (ci := 11) (v := .ref q13) (ty := (.array .int)) hx hb hts hiX12 tyX12 tyX12_ok nmX12 hown hK hw hS 0 rfl rfl 21 (by decide) (hts (.fieldLink RX12 47 "BeardPassModel" "codes" "[I") (by decide +kernel)) (fun _ h9 => h9) rfl hname rfl (by decide +kernel) rfl rfl (Nat.le_of_ble_eq_true rfl) dX12_init_105 [(h0, .inr (11, [.int 0, .int 0, .ref q1, .int 0, .int 0, .int 0, .int 0, .long 0, .int 0, .int 0, .ref q2, .ref q3, .ref q4, .ref q5, .ref q6, .ref q7, .ref q8, .ref q9, .ref q10, .ref q11, .ref q12, .ref q13, .int 0, .int 0, .null, .null, .null, .null, .null, .null, .null, .null, .null, .null, .null, .null, .int 0, .long 0, .null, .null, .null, .null, .null, .null, .null, .null, .null, .null, .null, .null, .null, .int 0, .int 0, .null, .long 0, .int 0, .int 0])), (q1, .inl (ct 0, 1000, .inl (fun _ => 0))), (q2, .inl (ct 0, 8, .inl (fun _ => 0))), (q3, .inl (ct 1, 12, .inr (.inl (fun _ => 0)))), (q4, .inl (ct 1, 12, .inr (.inl (fun _ => 0)))), (q5, .inl (ct 0, 12, .inl (fun _ => 0))), (q6, .inl (ct 0, 12, .inl (fun _ => 0))), (q7, .inl (ct 0, 12, .inl (fun _ => 0))), (q8, .inl (ct 0, 12, .inl (fun _ => 0))), (q9, .inl (ct 0, 12, .inl (fun _ => 0))), (q10, .inl (ct 0, 12, .inl (fun _ => 0))), (q11, .inl (ct 0, 2, .inl (fun _ => 0))), (q12, .inl (ct 0, 2, .inl (fun _ => 0))), (q13, .inl (ct 0, 2000, .inl (fun _ => 0)))] rfl (fun H locs hw hS => ?_)
  refine lv_aload_n hx hb dX12_init_108 rfl (lv_at hl 0 rfl) ?_
  refine lv_bipush (v := 7) hx hb dX12_init_109 (by decide) ?_
  refine znewa (atype := .int) hx hb (hts (.arrayClass .int) (by decide +kernel)) 0 rfl hK hw hS hA 7 (7, .inl (fun _ => 0)) (fun _ => rfl) (by decide) (by decide) (by decide) (Nat.le_of_ble_eq_true rfl) (Nat.le_of_ble_eq_true rfl) dX12_init_111 (fun q14 H hw hS => ?_)
  have hw : zPD D A [(h0, .inr (11, [.int 0, .int 0, .ref q1, .int 0, .int 0, .int 0, .int 0, .long 0, .int 0, .int 0, .ref q2, .ref q3, .ref q4, .ref q5, .ref q6, .ref q7, .ref q8, .ref q9, .ref q10, .ref q11, .ref q12, .ref q13, .int 0, .int 0, .null, .null, .null, .null, .null, .null, .null, .null, .null, .null, .null, .null, .int 0, .long 0, .null, .null, .null, .null, .null, .null, .null, .null, .null, .null, .null, .null, .null, .int 0, .int 0, .null, .long 0, .int 0, .int 0])), (q1, .inl (ct 0, 1000, .inl (fun _ => 0))), (q2, .inl (ct 0, 8, .inl (fun _ => 0))), (q3, .inl (ct 1, 12, .inr (.inl (fun _ => 0)))), (q4, .inl (ct 1, 12, .inr (.inl (fun _ => 0)))), (q5, .inl (ct 0, 12, .inl (fun _ => 0))), (q6, .inl (ct 0, 12, .inl (fun _ => 0))), (q7, .inl (ct 0, 12, .inl (fun _ => 0))), (q8, .inl (ct 0, 12, .inl (fun _ => 0))), (q9, .inl (ct 0, 12, .inl (fun _ => 0))), (q10, .inl (ct 0, 12, .inl (fun _ => 0))), (q11, .inl (ct 0, 2, .inl (fun _ => 0))), (q12, .inl (ct 0, 2, .inl (fun _ => 0))), (q13, .inl (ct 0, 2000, .inl (fun _ => 0))), (q14, .inl (ct 0, 7, .inl (fun _ => 0)))] H := hw
  refine zputF (D := D) (ci := 11) (v := .ref q14) (ty := (.array .int)) hx hb hts hiX12 tyX12 tyX12_ok nmX12 hown hK hw hS 0 rfl rfl 24 (by decide) (hts (.fieldLink RX12 50 "BeardPassModel" "opened" "[I") (by decide +kernel)) (fun _ h9 => h9) rfl hname rfl (by decide +kernel) rfl rfl (Nat.le_of_ble_eq_true rfl) dX12_init_113 [(h0, .inr (11, [.int 0, .int 0, .ref q1, .int 0, .int 0, .int 0, .int 0, .long 0, .int 0, .int 0, .ref q2, .ref q3, .ref q4, .ref q5, .ref q6, .ref q7, .ref q8, .ref q9, .ref q10, .ref q11, .ref q12, .ref q13, .int 0, .int 0, .ref q14, .null, .null, .null, .null, .null, .null, .null, .null, .null, .null, .null, .int 0, .long 0, .null, .null, .null, .null, .null, .null, .null, .null, .null, .null, .null, .null, .null, .int 0, .int 0, .null, .long 0, .int 0, .int 0])), (q1, .inl (ct 0, 1000, .inl (fun _ => 0))), (q2, .inl (ct 0, 8, .inl (fun _ => 0))), (q3, .inl (ct 1, 12, .inr (.inl (fun _ => 0)))), (q4, .inl (ct 1, 12, .inr (.inl (fun _ => 0)))), (q5, .inl (ct 0, 12, .inl (fun _ => 0))), (q6, .inl (ct 0, 12, .inl (fun _ => 0))), (q7, .inl (ct 0, 12, .inl (fun _ => 0))), (q8, .inl (ct 0, 12, .inl (fun _ => 0))), (q9, .inl (ct 0, 12, .inl (fun _ => 0))), (q10, .inl (ct 0, 12, .inl (fun _ => 0))), (q11, .inl (ct 0, 2, .inl (fun _ => 0))), (q12, .inl (ct 0, 2, .inl (fun _ => 0))), (q13, .inl (ct 0, 2000, .inl (fun _ => 0))), (q14, .inl (ct 0, 7, .inl (fun _ => 0)))] rfl (fun H locs hw hS => ?_)
  refine lv_aload_n hx hb dX12_init_116 rfl (lv_at hl 0 rfl) ?_
  refine lv_bipush (v := 7) hx hb dX12_init_117 (by decide) ?_
  refine znewa (atype := .boolean) hx hb (hts (.arrayClass .boolean) (by decide +kernel)) 3 rfl hK hw hS hA 7 (7, .inl (fun _ => 0)) (fun _ => rfl) (by decide) (by decide) (by decide) (Nat.le_of_ble_eq_true rfl) (Nat.le_of_ble_eq_true rfl) dX12_init_119 (fun q15 H hw hS => ?_)
  have hw : zPD D A [(h0, .inr (11, [.int 0, .int 0, .ref q1, .int 0, .int 0, .int 0, .int 0, .long 0, .int 0, .int 0, .ref q2, .ref q3, .ref q4, .ref q5, .ref q6, .ref q7, .ref q8, .ref q9, .ref q10, .ref q11, .ref q12, .ref q13, .int 0, .int 0, .ref q14, .null, .null, .null, .null, .null, .null, .null, .null, .null, .null, .null, .int 0, .long 0, .null, .null, .null, .null, .null, .null, .null, .null, .null, .null, .null, .null, .null, .int 0, .int 0, .null, .long 0, .int 0, .int 0])), (q1, .inl (ct 0, 1000, .inl (fun _ => 0))), (q2, .inl (ct 0, 8, .inl (fun _ => 0))), (q3, .inl (ct 1, 12, .inr (.inl (fun _ => 0)))), (q4, .inl (ct 1, 12, .inr (.inl (fun _ => 0)))), (q5, .inl (ct 0, 12, .inl (fun _ => 0))), (q6, .inl (ct 0, 12, .inl (fun _ => 0))), (q7, .inl (ct 0, 12, .inl (fun _ => 0))), (q8, .inl (ct 0, 12, .inl (fun _ => 0))), (q9, .inl (ct 0, 12, .inl (fun _ => 0))), (q10, .inl (ct 0, 12, .inl (fun _ => 0))), (q11, .inl (ct 0, 2, .inl (fun _ => 0))), (q12, .inl (ct 0, 2, .inl (fun _ => 0))), (q13, .inl (ct 0, 2000, .inl (fun _ => 0))), (q14, .inl (ct 0, 7, .inl (fun _ => 0))), (q15, .inl (ct 3, 7, .inl (fun _ => 0)))] H := hw
  refine zputF (D := D) (ci := 11) (v := .ref q15) (ty := (.array .boolean)) hx hb hts hiX12 tyX12 tyX12_ok nmX12 hown hK hw hS 0 rfl rfl 25 (by decide) (hts (.fieldLink RX12 53 "BeardPassModel" "compared" "[Z") (by decide +kernel)) (fun _ h9 => h9) rfl hname rfl (by decide +kernel) rfl rfl (Nat.le_of_ble_eq_true rfl) dX12_init_121 [(h0, .inr (11, [.int 0, .int 0, .ref q1, .int 0, .int 0, .int 0, .int 0, .long 0, .int 0, .int 0, .ref q2, .ref q3, .ref q4, .ref q5, .ref q6, .ref q7, .ref q8, .ref q9, .ref q10, .ref q11, .ref q12, .ref q13, .int 0, .int 0, .ref q14, .ref q15, .null, .null, .null, .null, .null, .null, .null, .null, .null, .null, .int 0, .long 0, .null, .null, .null, .null, .null, .null, .null, .null, .null, .null, .null, .null, .null, .int 0, .int 0, .null, .long 0, .int 0, .int 0])), (q1, .inl (ct 0, 1000, .inl (fun _ => 0))), (q2, .inl (ct 0, 8, .inl (fun _ => 0))), (q3, .inl (ct 1, 12, .inr (.inl (fun _ => 0)))), (q4, .inl (ct 1, 12, .inr (.inl (fun _ => 0)))), (q5, .inl (ct 0, 12, .inl (fun _ => 0))), (q6, .inl (ct 0, 12, .inl (fun _ => 0))), (q7, .inl (ct 0, 12, .inl (fun _ => 0))), (q8, .inl (ct 0, 12, .inl (fun _ => 0))), (q9, .inl (ct 0, 12, .inl (fun _ => 0))), (q10, .inl (ct 0, 12, .inl (fun _ => 0))), (q11, .inl (ct 0, 2, .inl (fun _ => 0))), (q12, .inl (ct 0, 2, .inl (fun _ => 0))), (q13, .inl (ct 0, 2000, .inl (fun _ => 0))), (q14, .inl (ct 0, 7, .inl (fun _ => 0))), (q15, .inl (ct 3, 7, .inl (fun _ => 0)))] rfl (fun H locs hw hS => ?_)
  refine lv_aload_n hx hb dX12_init_124 rfl (lv_at hl 0 rfl) ?_
  refine lv_bipush (v := 7) hx hb dX12_init_125 (by decide) ?_
  refine znewa (atype := .int) hx hb (hts (.arrayClass .int) (by decide +kernel)) 0 rfl hK hw hS hA 7 (7, .inl (fun _ => 0)) (fun _ => rfl) (by decide) (by decide) (by decide) (Nat.le_of_ble_eq_true rfl) (Nat.le_of_ble_eq_true rfl) dX12_init_127 (fun q16 H hw hS => ?_)
  have hw : zPD D A [(h0, .inr (11, [.int 0, .int 0, .ref q1, .int 0, .int 0, .int 0, .int 0, .long 0, .int 0, .int 0, .ref q2, .ref q3, .ref q4, .ref q5, .ref q6, .ref q7, .ref q8, .ref q9, .ref q10, .ref q11, .ref q12, .ref q13, .int 0, .int 0, .ref q14, .ref q15, .null, .null, .null, .null, .null, .null, .null, .null, .null, .null, .int 0, .long 0, .null, .null, .null, .null, .null, .null, .null, .null, .null, .null, .null, .null, .null, .int 0, .int 0, .null, .long 0, .int 0, .int 0])), (q1, .inl (ct 0, 1000, .inl (fun _ => 0))), (q2, .inl (ct 0, 8, .inl (fun _ => 0))), (q3, .inl (ct 1, 12, .inr (.inl (fun _ => 0)))), (q4, .inl (ct 1, 12, .inr (.inl (fun _ => 0)))), (q5, .inl (ct 0, 12, .inl (fun _ => 0))), (q6, .inl (ct 0, 12, .inl (fun _ => 0))), (q7, .inl (ct 0, 12, .inl (fun _ => 0))), (q8, .inl (ct 0, 12, .inl (fun _ => 0))), (q9, .inl (ct 0, 12, .inl (fun _ => 0))), (q10, .inl (ct 0, 12, .inl (fun _ => 0))), (q11, .inl (ct 0, 2, .inl (fun _ => 0))), (q12, .inl (ct 0, 2, .inl (fun _ => 0))), (q13, .inl (ct 0, 2000, .inl (fun _ => 0))), (q14, .inl (ct 0, 7, .inl (fun _ => 0))), (q15, .inl (ct 3, 7, .inl (fun _ => 0))), (q16, .inl (ct 0, 7, .inl (fun _ => 0)))] H := hw
  refine zputF (D := D) (ci := 11) (v := .ref q16) (ty := (.array .int)) hx hb hts hiX12 tyX12 tyX12_ok nmX12 hown hK hw hS 0 rfl rfl 26 (by decide) (hts (.fieldLink RX12 57 "BeardPassModel" "kept" "[I") (by decide +kernel)) (fun _ h9 => h9) rfl hname rfl (by decide +kernel) rfl rfl (Nat.le_of_ble_eq_true rfl) dX12_init_129 [(h0, .inr (11, [.int 0, .int 0, .ref q1, .int 0, .int 0, .int 0, .int 0, .long 0, .int 0, .int 0, .ref q2, .ref q3, .ref q4, .ref q5, .ref q6, .ref q7, .ref q8, .ref q9, .ref q10, .ref q11, .ref q12, .ref q13, .int 0, .int 0, .ref q14, .ref q15, .ref q16, .null, .null, .null, .null, .null, .null, .null, .null, .null, .int 0, .long 0, .null, .null, .null, .null, .null, .null, .null, .null, .null, .null, .null, .null, .null, .int 0, .int 0, .null, .long 0, .int 0, .int 0])), (q1, .inl (ct 0, 1000, .inl (fun _ => 0))), (q2, .inl (ct 0, 8, .inl (fun _ => 0))), (q3, .inl (ct 1, 12, .inr (.inl (fun _ => 0)))), (q4, .inl (ct 1, 12, .inr (.inl (fun _ => 0)))), (q5, .inl (ct 0, 12, .inl (fun _ => 0))), (q6, .inl (ct 0, 12, .inl (fun _ => 0))), (q7, .inl (ct 0, 12, .inl (fun _ => 0))), (q8, .inl (ct 0, 12, .inl (fun _ => 0))), (q9, .inl (ct 0, 12, .inl (fun _ => 0))), (q10, .inl (ct 0, 12, .inl (fun _ => 0))), (q11, .inl (ct 0, 2, .inl (fun _ => 0))), (q12, .inl (ct 0, 2, .inl (fun _ => 0))), (q13, .inl (ct 0, 2000, .inl (fun _ => 0))), (q14, .inl (ct 0, 7, .inl (fun _ => 0))), (q15, .inl (ct 3, 7, .inl (fun _ => 0))), (q16, .inl (ct 0, 7, .inl (fun _ => 0)))] rfl (fun H locs hw hS => ?_)
  refine lv_aload_n hx hb dX12_init_132 rfl (lv_at hl 0 rfl) ?_
  refine lv_bipush (v := 7) hx hb dX12_init_133 (by decide) ?_
  refine znewa (atype := .int) hx hb (hts (.arrayClass .int) (by decide +kernel)) 0 rfl hK hw hS hA 7 (7, .inl (fun _ => 0)) (fun _ => rfl) (by decide) (by decide) (by decide) (Nat.le_of_ble_eq_true rfl) (Nat.le_of_ble_eq_true rfl) dX12_init_135 (fun q17 H hw hS => ?_)
  have hw : zPD D A [(h0, .inr (11, [.int 0, .int 0, .ref q1, .int 0, .int 0, .int 0, .int 0, .long 0, .int 0, .int 0, .ref q2, .ref q3, .ref q4, .ref q5, .ref q6, .ref q7, .ref q8, .ref q9, .ref q10, .ref q11, .ref q12, .ref q13, .int 0, .int 0, .ref q14, .ref q15, .ref q16, .null, .null, .null, .null, .null, .null, .null, .null, .null, .int 0, .long 0, .null, .null, .null, .null, .null, .null, .null, .null, .null, .null, .null, .null, .null, .int 0, .int 0, .null, .long 0, .int 0, .int 0])), (q1, .inl (ct 0, 1000, .inl (fun _ => 0))), (q2, .inl (ct 0, 8, .inl (fun _ => 0))), (q3, .inl (ct 1, 12, .inr (.inl (fun _ => 0)))), (q4, .inl (ct 1, 12, .inr (.inl (fun _ => 0)))), (q5, .inl (ct 0, 12, .inl (fun _ => 0))), (q6, .inl (ct 0, 12, .inl (fun _ => 0))), (q7, .inl (ct 0, 12, .inl (fun _ => 0))), (q8, .inl (ct 0, 12, .inl (fun _ => 0))), (q9, .inl (ct 0, 12, .inl (fun _ => 0))), (q10, .inl (ct 0, 12, .inl (fun _ => 0))), (q11, .inl (ct 0, 2, .inl (fun _ => 0))), (q12, .inl (ct 0, 2, .inl (fun _ => 0))), (q13, .inl (ct 0, 2000, .inl (fun _ => 0))), (q14, .inl (ct 0, 7, .inl (fun _ => 0))), (q15, .inl (ct 3, 7, .inl (fun _ => 0))), (q16, .inl (ct 0, 7, .inl (fun _ => 0))), (q17, .inl (ct 0, 7, .inl (fun _ => 0)))] H := hw
  refine zputF (D := D) (ci := 11) (v := .ref q17) (ty := (.array .int)) hx hb hts hiX12 tyX12 tyX12_ok nmX12 hown hK hw hS 0 rfl rfl 27 (by decide) (hts (.fieldLink RX12 60 "BeardPassModel" "keptBy" "[I") (by decide +kernel)) (fun _ h9 => h9) rfl hname rfl (by decide +kernel) rfl rfl (Nat.le_of_ble_eq_true rfl) dX12_init_137 [(h0, .inr (11, [.int 0, .int 0, .ref q1, .int 0, .int 0, .int 0, .int 0, .long 0, .int 0, .int 0, .ref q2, .ref q3, .ref q4, .ref q5, .ref q6, .ref q7, .ref q8, .ref q9, .ref q10, .ref q11, .ref q12, .ref q13, .int 0, .int 0, .ref q14, .ref q15, .ref q16, .ref q17, .null, .null, .null, .null, .null, .null, .null, .null, .int 0, .long 0, .null, .null, .null, .null, .null, .null, .null, .null, .null, .null, .null, .null, .null, .int 0, .int 0, .null, .long 0, .int 0, .int 0])), (q1, .inl (ct 0, 1000, .inl (fun _ => 0))), (q2, .inl (ct 0, 8, .inl (fun _ => 0))), (q3, .inl (ct 1, 12, .inr (.inl (fun _ => 0)))), (q4, .inl (ct 1, 12, .inr (.inl (fun _ => 0)))), (q5, .inl (ct 0, 12, .inl (fun _ => 0))), (q6, .inl (ct 0, 12, .inl (fun _ => 0))), (q7, .inl (ct 0, 12, .inl (fun _ => 0))), (q8, .inl (ct 0, 12, .inl (fun _ => 0))), (q9, .inl (ct 0, 12, .inl (fun _ => 0))), (q10, .inl (ct 0, 12, .inl (fun _ => 0))), (q11, .inl (ct 0, 2, .inl (fun _ => 0))), (q12, .inl (ct 0, 2, .inl (fun _ => 0))), (q13, .inl (ct 0, 2000, .inl (fun _ => 0))), (q14, .inl (ct 0, 7, .inl (fun _ => 0))), (q15, .inl (ct 3, 7, .inl (fun _ => 0))), (q16, .inl (ct 0, 7, .inl (fun _ => 0))), (q17, .inl (ct 0, 7, .inl (fun _ => 0)))] rfl (fun H locs hw hS => ?_)
  refine lv_aload_n hx hb dX12_init_140 rfl (lv_at hl 0 rfl) ?_
  refine lv_bipush (v := 7) hx hb dX12_init_141 (by decide) ?_
  refine znewa (atype := .int) hx hb (hts (.arrayClass .int) (by decide +kernel)) 0 rfl hK hw hS hA 7 (7, .inl (fun _ => 0)) (fun _ => rfl) (by decide) (by decide) (by decide) (Nat.le_of_ble_eq_true rfl) (Nat.le_of_ble_eq_true rfl) dX12_init_143 (fun q18 H hw hS => ?_)
  have hw : zPD D A [(h0, .inr (11, [.int 0, .int 0, .ref q1, .int 0, .int 0, .int 0, .int 0, .long 0, .int 0, .int 0, .ref q2, .ref q3, .ref q4, .ref q5, .ref q6, .ref q7, .ref q8, .ref q9, .ref q10, .ref q11, .ref q12, .ref q13, .int 0, .int 0, .ref q14, .ref q15, .ref q16, .ref q17, .null, .null, .null, .null, .null, .null, .null, .null, .int 0, .long 0, .null, .null, .null, .null, .null, .null, .null, .null, .null, .null, .null, .null, .null, .int 0, .int 0, .null, .long 0, .int 0, .int 0])), (q1, .inl (ct 0, 1000, .inl (fun _ => 0))), (q2, .inl (ct 0, 8, .inl (fun _ => 0))), (q3, .inl (ct 1, 12, .inr (.inl (fun _ => 0)))), (q4, .inl (ct 1, 12, .inr (.inl (fun _ => 0)))), (q5, .inl (ct 0, 12, .inl (fun _ => 0))), (q6, .inl (ct 0, 12, .inl (fun _ => 0))), (q7, .inl (ct 0, 12, .inl (fun _ => 0))), (q8, .inl (ct 0, 12, .inl (fun _ => 0))), (q9, .inl (ct 0, 12, .inl (fun _ => 0))), (q10, .inl (ct 0, 12, .inl (fun _ => 0))), (q11, .inl (ct 0, 2, .inl (fun _ => 0))), (q12, .inl (ct 0, 2, .inl (fun _ => 0))), (q13, .inl (ct 0, 2000, .inl (fun _ => 0))), (q14, .inl (ct 0, 7, .inl (fun _ => 0))), (q15, .inl (ct 3, 7, .inl (fun _ => 0))), (q16, .inl (ct 0, 7, .inl (fun _ => 0))), (q17, .inl (ct 0, 7, .inl (fun _ => 0))), (q18, .inl (ct 0, 7, .inl (fun _ => 0)))] H := hw
  refine zputF (D := D) (ci := 11) (v := .ref q18) (ty := (.array .int)) hx hb hts hiX12 tyX12 tyX12_ok nmX12 hown hK hw hS 0 rfl rfl 28 (by decide) (hts (.fieldLink RX12 63 "BeardPassModel" "ahead" "[I") (by decide +kernel)) (fun _ h9 => h9) rfl hname rfl (by decide +kernel) rfl rfl (Nat.le_of_ble_eq_true rfl) dX12_init_145 [(h0, .inr (11, [.int 0, .int 0, .ref q1, .int 0, .int 0, .int 0, .int 0, .long 0, .int 0, .int 0, .ref q2, .ref q3, .ref q4, .ref q5, .ref q6, .ref q7, .ref q8, .ref q9, .ref q10, .ref q11, .ref q12, .ref q13, .int 0, .int 0, .ref q14, .ref q15, .ref q16, .ref q17, .ref q18, .null, .null, .null, .null, .null, .null, .null, .int 0, .long 0, .null, .null, .null, .null, .null, .null, .null, .null, .null, .null, .null, .null, .null, .int 0, .int 0, .null, .long 0, .int 0, .int 0])), (q1, .inl (ct 0, 1000, .inl (fun _ => 0))), (q2, .inl (ct 0, 8, .inl (fun _ => 0))), (q3, .inl (ct 1, 12, .inr (.inl (fun _ => 0)))), (q4, .inl (ct 1, 12, .inr (.inl (fun _ => 0)))), (q5, .inl (ct 0, 12, .inl (fun _ => 0))), (q6, .inl (ct 0, 12, .inl (fun _ => 0))), (q7, .inl (ct 0, 12, .inl (fun _ => 0))), (q8, .inl (ct 0, 12, .inl (fun _ => 0))), (q9, .inl (ct 0, 12, .inl (fun _ => 0))), (q10, .inl (ct 0, 12, .inl (fun _ => 0))), (q11, .inl (ct 0, 2, .inl (fun _ => 0))), (q12, .inl (ct 0, 2, .inl (fun _ => 0))), (q13, .inl (ct 0, 2000, .inl (fun _ => 0))), (q14, .inl (ct 0, 7, .inl (fun _ => 0))), (q15, .inl (ct 3, 7, .inl (fun _ => 0))), (q16, .inl (ct 0, 7, .inl (fun _ => 0))), (q17, .inl (ct 0, 7, .inl (fun _ => 0))), (q18, .inl (ct 0, 7, .inl (fun _ => 0)))] rfl (fun H locs hw hS => ?_)
  refine lv_aload_n hx hb dX12_init_148 rfl (lv_at hl 0 rfl) ?_
  refine lv_bipush (v := 7) hx hb dX12_init_149 (by decide) ?_
  refine znewa (atype := .int) hx hb (hts (.arrayClass .int) (by decide +kernel)) 0 rfl hK hw hS hA 7 (7, .inl (fun _ => 0)) (fun _ => rfl) (by decide) (by decide) (by decide) (Nat.le_of_ble_eq_true rfl) (Nat.le_of_ble_eq_true rfl) dX12_init_151 (fun q19 H hw hS => ?_)
  have hw : zPD D A [(h0, .inr (11, [.int 0, .int 0, .ref q1, .int 0, .int 0, .int 0, .int 0, .long 0, .int 0, .int 0, .ref q2, .ref q3, .ref q4, .ref q5, .ref q6, .ref q7, .ref q8, .ref q9, .ref q10, .ref q11, .ref q12, .ref q13, .int 0, .int 0, .ref q14, .ref q15, .ref q16, .ref q17, .ref q18, .null, .null, .null, .null, .null, .null, .null, .int 0, .long 0, .null, .null, .null, .null, .null, .null, .null, .null, .null, .null, .null, .null, .null, .int 0, .int 0, .null, .long 0, .int 0, .int 0])), (q1, .inl (ct 0, 1000, .inl (fun _ => 0))), (q2, .inl (ct 0, 8, .inl (fun _ => 0))), (q3, .inl (ct 1, 12, .inr (.inl (fun _ => 0)))), (q4, .inl (ct 1, 12, .inr (.inl (fun _ => 0)))), (q5, .inl (ct 0, 12, .inl (fun _ => 0))), (q6, .inl (ct 0, 12, .inl (fun _ => 0))), (q7, .inl (ct 0, 12, .inl (fun _ => 0))), (q8, .inl (ct 0, 12, .inl (fun _ => 0))), (q9, .inl (ct 0, 12, .inl (fun _ => 0))), (q10, .inl (ct 0, 12, .inl (fun _ => 0))), (q11, .inl (ct 0, 2, .inl (fun _ => 0))), (q12, .inl (ct 0, 2, .inl (fun _ => 0))), (q13, .inl (ct 0, 2000, .inl (fun _ => 0))), (q14, .inl (ct 0, 7, .inl (fun _ => 0))), (q15, .inl (ct 3, 7, .inl (fun _ => 0))), (q16, .inl (ct 0, 7, .inl (fun _ => 0))), (q17, .inl (ct 0, 7, .inl (fun _ => 0))), (q18, .inl (ct 0, 7, .inl (fun _ => 0))), (q19, .inl (ct 0, 7, .inl (fun _ => 0)))] H := hw
  refine zputF (D := D) (ci := 11) (v := .ref q19) (ty := (.array .int)) hx hb hts hiX12 tyX12 tyX12_ok nmX12 hown hK hw hS 0 rfl rfl 29 (by decide) (hts (.fieldLink RX12 66 "BeardPassModel" "against" "[I") (by decide +kernel)) (fun _ h9 => h9) rfl hname rfl (by decide +kernel) rfl rfl (Nat.le_of_ble_eq_true rfl) dX12_init_153 [(h0, .inr (11, [.int 0, .int 0, .ref q1, .int 0, .int 0, .int 0, .int 0, .long 0, .int 0, .int 0, .ref q2, .ref q3, .ref q4, .ref q5, .ref q6, .ref q7, .ref q8, .ref q9, .ref q10, .ref q11, .ref q12, .ref q13, .int 0, .int 0, .ref q14, .ref q15, .ref q16, .ref q17, .ref q18, .ref q19, .null, .null, .null, .null, .null, .null, .int 0, .long 0, .null, .null, .null, .null, .null, .null, .null, .null, .null, .null, .null, .null, .null, .int 0, .int 0, .null, .long 0, .int 0, .int 0])), (q1, .inl (ct 0, 1000, .inl (fun _ => 0))), (q2, .inl (ct 0, 8, .inl (fun _ => 0))), (q3, .inl (ct 1, 12, .inr (.inl (fun _ => 0)))), (q4, .inl (ct 1, 12, .inr (.inl (fun _ => 0)))), (q5, .inl (ct 0, 12, .inl (fun _ => 0))), (q6, .inl (ct 0, 12, .inl (fun _ => 0))), (q7, .inl (ct 0, 12, .inl (fun _ => 0))), (q8, .inl (ct 0, 12, .inl (fun _ => 0))), (q9, .inl (ct 0, 12, .inl (fun _ => 0))), (q10, .inl (ct 0, 12, .inl (fun _ => 0))), (q11, .inl (ct 0, 2, .inl (fun _ => 0))), (q12, .inl (ct 0, 2, .inl (fun _ => 0))), (q13, .inl (ct 0, 2000, .inl (fun _ => 0))), (q14, .inl (ct 0, 7, .inl (fun _ => 0))), (q15, .inl (ct 3, 7, .inl (fun _ => 0))), (q16, .inl (ct 0, 7, .inl (fun _ => 0))), (q17, .inl (ct 0, 7, .inl (fun _ => 0))), (q18, .inl (ct 0, 7, .inl (fun _ => 0))), (q19, .inl (ct 0, 7, .inl (fun _ => 0)))] rfl (fun H locs hw hS => ?_)
  refine lv_aload_n hx hb dX12_init_156 rfl (lv_at hl 0 rfl) ?_
  refine lv_bipush (v := 7) hx hb dX12_init_157 (by decide) ?_
  refine znewa (atype := .int) hx hb (hts (.arrayClass .int) (by decide +kernel)) 0 rfl hK hw hS hA 7 (7, .inl (fun _ => 0)) (fun _ => rfl) (by decide) (by decide) (by decide) (Nat.le_of_ble_eq_true rfl) (Nat.le_of_ble_eq_true rfl) dX12_init_159 (fun q20 H hw hS => ?_)
  have hw : zPD D A [(h0, .inr (11, [.int 0, .int 0, .ref q1, .int 0, .int 0, .int 0, .int 0, .long 0, .int 0, .int 0, .ref q2, .ref q3, .ref q4, .ref q5, .ref q6, .ref q7, .ref q8, .ref q9, .ref q10, .ref q11, .ref q12, .ref q13, .int 0, .int 0, .ref q14, .ref q15, .ref q16, .ref q17, .ref q18, .ref q19, .null, .null, .null, .null, .null, .null, .int 0, .long 0, .null, .null, .null, .null, .null, .null, .null, .null, .null, .null, .null, .null, .null, .int 0, .int 0, .null, .long 0, .int 0, .int 0])), (q1, .inl (ct 0, 1000, .inl (fun _ => 0))), (q2, .inl (ct 0, 8, .inl (fun _ => 0))), (q3, .inl (ct 1, 12, .inr (.inl (fun _ => 0)))), (q4, .inl (ct 1, 12, .inr (.inl (fun _ => 0)))), (q5, .inl (ct 0, 12, .inl (fun _ => 0))), (q6, .inl (ct 0, 12, .inl (fun _ => 0))), (q7, .inl (ct 0, 12, .inl (fun _ => 0))), (q8, .inl (ct 0, 12, .inl (fun _ => 0))), (q9, .inl (ct 0, 12, .inl (fun _ => 0))), (q10, .inl (ct 0, 12, .inl (fun _ => 0))), (q11, .inl (ct 0, 2, .inl (fun _ => 0))), (q12, .inl (ct 0, 2, .inl (fun _ => 0))), (q13, .inl (ct 0, 2000, .inl (fun _ => 0))), (q14, .inl (ct 0, 7, .inl (fun _ => 0))), (q15, .inl (ct 3, 7, .inl (fun _ => 0))), (q16, .inl (ct 0, 7, .inl (fun _ => 0))), (q17, .inl (ct 0, 7, .inl (fun _ => 0))), (q18, .inl (ct 0, 7, .inl (fun _ => 0))), (q19, .inl (ct 0, 7, .inl (fun _ => 0))), (q20, .inl (ct 0, 7, .inl (fun _ => 0)))] H := hw
  refine zputF (D := D) (ci := 11) (v := .ref q20) (ty := (.array .int)) hx hb hts hiX12 tyX12 tyX12_ok nmX12 hown hK hw hS 0 rfl rfl 30 (by decide) (hts (.fieldLink RX12 69 "BeardPassModel" "sum" "[I") (by decide +kernel)) (fun _ h9 => h9) rfl hname rfl (by decide +kernel) rfl rfl (Nat.le_of_ble_eq_true rfl) dX12_init_161 [(h0, .inr (11, [.int 0, .int 0, .ref q1, .int 0, .int 0, .int 0, .int 0, .long 0, .int 0, .int 0, .ref q2, .ref q3, .ref q4, .ref q5, .ref q6, .ref q7, .ref q8, .ref q9, .ref q10, .ref q11, .ref q12, .ref q13, .int 0, .int 0, .ref q14, .ref q15, .ref q16, .ref q17, .ref q18, .ref q19, .ref q20, .null, .null, .null, .null, .null, .int 0, .long 0, .null, .null, .null, .null, .null, .null, .null, .null, .null, .null, .null, .null, .null, .int 0, .int 0, .null, .long 0, .int 0, .int 0])), (q1, .inl (ct 0, 1000, .inl (fun _ => 0))), (q2, .inl (ct 0, 8, .inl (fun _ => 0))), (q3, .inl (ct 1, 12, .inr (.inl (fun _ => 0)))), (q4, .inl (ct 1, 12, .inr (.inl (fun _ => 0)))), (q5, .inl (ct 0, 12, .inl (fun _ => 0))), (q6, .inl (ct 0, 12, .inl (fun _ => 0))), (q7, .inl (ct 0, 12, .inl (fun _ => 0))), (q8, .inl (ct 0, 12, .inl (fun _ => 0))), (q9, .inl (ct 0, 12, .inl (fun _ => 0))), (q10, .inl (ct 0, 12, .inl (fun _ => 0))), (q11, .inl (ct 0, 2, .inl (fun _ => 0))), (q12, .inl (ct 0, 2, .inl (fun _ => 0))), (q13, .inl (ct 0, 2000, .inl (fun _ => 0))), (q14, .inl (ct 0, 7, .inl (fun _ => 0))), (q15, .inl (ct 3, 7, .inl (fun _ => 0))), (q16, .inl (ct 0, 7, .inl (fun _ => 0))), (q17, .inl (ct 0, 7, .inl (fun _ => 0))), (q18, .inl (ct 0, 7, .inl (fun _ => 0))), (q19, .inl (ct 0, 7, .inl (fun _ => 0))), (q20, .inl (ct 0, 7, .inl (fun _ => 0)))] rfl (fun H locs hw hS => ?_)
  refine lv_aload_n hx hb dX12_init_164 rfl (lv_at hl 0 rfl) ?_
  refine lv_bipush (v := 7) hx hb dX12_init_165 (by decide) ?_
  refine znewa (atype := .int) hx hb (hts (.arrayClass .int) (by decide +kernel)) 0 rfl hK hw hS hA 7 (7, .inl (fun _ => 0)) (fun _ => rfl) (by decide) (by decide) (by decide) (Nat.le_of_ble_eq_true rfl) (Nat.le_of_ble_eq_true rfl) dX12_init_167 (fun q21 H hw hS => ?_)
  have hw : zPD D A [(h0, .inr (11, [.int 0, .int 0, .ref q1, .int 0, .int 0, .int 0, .int 0, .long 0, .int 0, .int 0, .ref q2, .ref q3, .ref q4, .ref q5, .ref q6, .ref q7, .ref q8, .ref q9, .ref q10, .ref q11, .ref q12, .ref q13, .int 0, .int 0, .ref q14, .ref q15, .ref q16, .ref q17, .ref q18, .ref q19, .ref q20, .null, .null, .null, .null, .null, .int 0, .long 0, .null, .null, .null, .null, .null, .null, .null, .null, .null, .null, .null, .null, .null, .int 0, .int 0, .null, .long 0, .int 0, .int 0])), (q1, .inl (ct 0, 1000, .inl (fun _ => 0))), (q2, .inl (ct 0, 8, .inl (fun _ => 0))), (q3, .inl (ct 1, 12, .inr (.inl (fun _ => 0)))), (q4, .inl (ct 1, 12, .inr (.inl (fun _ => 0)))), (q5, .inl (ct 0, 12, .inl (fun _ => 0))), (q6, .inl (ct 0, 12, .inl (fun _ => 0))), (q7, .inl (ct 0, 12, .inl (fun _ => 0))), (q8, .inl (ct 0, 12, .inl (fun _ => 0))), (q9, .inl (ct 0, 12, .inl (fun _ => 0))), (q10, .inl (ct 0, 12, .inl (fun _ => 0))), (q11, .inl (ct 0, 2, .inl (fun _ => 0))), (q12, .inl (ct 0, 2, .inl (fun _ => 0))), (q13, .inl (ct 0, 2000, .inl (fun _ => 0))), (q14, .inl (ct 0, 7, .inl (fun _ => 0))), (q15, .inl (ct 3, 7, .inl (fun _ => 0))), (q16, .inl (ct 0, 7, .inl (fun _ => 0))), (q17, .inl (ct 0, 7, .inl (fun _ => 0))), (q18, .inl (ct 0, 7, .inl (fun _ => 0))), (q19, .inl (ct 0, 7, .inl (fun _ => 0))), (q20, .inl (ct 0, 7, .inl (fun _ => 0))), (q21, .inl (ct 0, 7, .inl (fun _ => 0)))] H := hw
  refine zputF (D := D) (ci := 11) (v := .ref q21) (ty := (.array .int)) hx hb hts hiX12 tyX12 tyX12_ok nmX12 hown hK hw hS 0 rfl rfl 31 (by decide) (hts (.fieldLink RX12 72 "BeardPassModel" "sumBy" "[I") (by decide +kernel)) (fun _ h9 => h9) rfl hname rfl (by decide +kernel) rfl rfl (Nat.le_of_ble_eq_true rfl) dX12_init_169 [(h0, .inr (11, [.int 0, .int 0, .ref q1, .int 0, .int 0, .int 0, .int 0, .long 0, .int 0, .int 0, .ref q2, .ref q3, .ref q4, .ref q5, .ref q6, .ref q7, .ref q8, .ref q9, .ref q10, .ref q11, .ref q12, .ref q13, .int 0, .int 0, .ref q14, .ref q15, .ref q16, .ref q17, .ref q18, .ref q19, .ref q20, .ref q21, .null, .null, .null, .null, .int 0, .long 0, .null, .null, .null, .null, .null, .null, .null, .null, .null, .null, .null, .null, .null, .int 0, .int 0, .null, .long 0, .int 0, .int 0])), (q1, .inl (ct 0, 1000, .inl (fun _ => 0))), (q2, .inl (ct 0, 8, .inl (fun _ => 0))), (q3, .inl (ct 1, 12, .inr (.inl (fun _ => 0)))), (q4, .inl (ct 1, 12, .inr (.inl (fun _ => 0)))), (q5, .inl (ct 0, 12, .inl (fun _ => 0))), (q6, .inl (ct 0, 12, .inl (fun _ => 0))), (q7, .inl (ct 0, 12, .inl (fun _ => 0))), (q8, .inl (ct 0, 12, .inl (fun _ => 0))), (q9, .inl (ct 0, 12, .inl (fun _ => 0))), (q10, .inl (ct 0, 12, .inl (fun _ => 0))), (q11, .inl (ct 0, 2, .inl (fun _ => 0))), (q12, .inl (ct 0, 2, .inl (fun _ => 0))), (q13, .inl (ct 0, 2000, .inl (fun _ => 0))), (q14, .inl (ct 0, 7, .inl (fun _ => 0))), (q15, .inl (ct 3, 7, .inl (fun _ => 0))), (q16, .inl (ct 0, 7, .inl (fun _ => 0))), (q17, .inl (ct 0, 7, .inl (fun _ => 0))), (q18, .inl (ct 0, 7, .inl (fun _ => 0))), (q19, .inl (ct 0, 7, .inl (fun _ => 0))), (q20, .inl (ct 0, 7, .inl (fun _ => 0))), (q21, .inl (ct 0, 7, .inl (fun _ => 0)))] rfl (fun H locs hw hS => ?_)
  refine lv_aload_n hx hb dX12_init_172 rfl (lv_at hl 0 rfl) ?_
  refine lv_bipush (v := 7) hx hb dX12_init_173 (by decide) ?_
  refine znewa (atype := .int) hx hb (hts (.arrayClass .int) (by decide +kernel)) 0 rfl hK hw hS hA 7 (7, .inl (fun _ => 0)) (fun _ => rfl) (by decide) (by decide) (by decide) (Nat.le_of_ble_eq_true rfl) (Nat.le_of_ble_eq_true rfl) dX12_init_175 (fun q22 H hw hS => ?_)
  have hw : zPD D A [(h0, .inr (11, [.int 0, .int 0, .ref q1, .int 0, .int 0, .int 0, .int 0, .long 0, .int 0, .int 0, .ref q2, .ref q3, .ref q4, .ref q5, .ref q6, .ref q7, .ref q8, .ref q9, .ref q10, .ref q11, .ref q12, .ref q13, .int 0, .int 0, .ref q14, .ref q15, .ref q16, .ref q17, .ref q18, .ref q19, .ref q20, .ref q21, .null, .null, .null, .null, .int 0, .long 0, .null, .null, .null, .null, .null, .null, .null, .null, .null, .null, .null, .null, .null, .int 0, .int 0, .null, .long 0, .int 0, .int 0])), (q1, .inl (ct 0, 1000, .inl (fun _ => 0))), (q2, .inl (ct 0, 8, .inl (fun _ => 0))), (q3, .inl (ct 1, 12, .inr (.inl (fun _ => 0)))), (q4, .inl (ct 1, 12, .inr (.inl (fun _ => 0)))), (q5, .inl (ct 0, 12, .inl (fun _ => 0))), (q6, .inl (ct 0, 12, .inl (fun _ => 0))), (q7, .inl (ct 0, 12, .inl (fun _ => 0))), (q8, .inl (ct 0, 12, .inl (fun _ => 0))), (q9, .inl (ct 0, 12, .inl (fun _ => 0))), (q10, .inl (ct 0, 12, .inl (fun _ => 0))), (q11, .inl (ct 0, 2, .inl (fun _ => 0))), (q12, .inl (ct 0, 2, .inl (fun _ => 0))), (q13, .inl (ct 0, 2000, .inl (fun _ => 0))), (q14, .inl (ct 0, 7, .inl (fun _ => 0))), (q15, .inl (ct 3, 7, .inl (fun _ => 0))), (q16, .inl (ct 0, 7, .inl (fun _ => 0))), (q17, .inl (ct 0, 7, .inl (fun _ => 0))), (q18, .inl (ct 0, 7, .inl (fun _ => 0))), (q19, .inl (ct 0, 7, .inl (fun _ => 0))), (q20, .inl (ct 0, 7, .inl (fun _ => 0))), (q21, .inl (ct 0, 7, .inl (fun _ => 0))), (q22, .inl (ct 0, 7, .inl (fun _ => 0)))] H := hw
  refine zputF (D := D) (ci := 11) (v := .ref q22) (ty := (.array .int)) hx hb hts hiX12 tyX12 tyX12_ok nmX12 hown hK hw hS 0 rfl rfl 32 (by decide) (hts (.fieldLink RX12 75 "BeardPassModel" "term" "[I") (by decide +kernel)) (fun _ h9 => h9) rfl hname rfl (by decide +kernel) rfl rfl (Nat.le_of_ble_eq_true rfl) dX12_init_177 [(h0, .inr (11, [.int 0, .int 0, .ref q1, .int 0, .int 0, .int 0, .int 0, .long 0, .int 0, .int 0, .ref q2, .ref q3, .ref q4, .ref q5, .ref q6, .ref q7, .ref q8, .ref q9, .ref q10, .ref q11, .ref q12, .ref q13, .int 0, .int 0, .ref q14, .ref q15, .ref q16, .ref q17, .ref q18, .ref q19, .ref q20, .ref q21, .ref q22, .null, .null, .null, .int 0, .long 0, .null, .null, .null, .null, .null, .null, .null, .null, .null, .null, .null, .null, .null, .int 0, .int 0, .null, .long 0, .int 0, .int 0])), (q1, .inl (ct 0, 1000, .inl (fun _ => 0))), (q2, .inl (ct 0, 8, .inl (fun _ => 0))), (q3, .inl (ct 1, 12, .inr (.inl (fun _ => 0)))), (q4, .inl (ct 1, 12, .inr (.inl (fun _ => 0)))), (q5, .inl (ct 0, 12, .inl (fun _ => 0))), (q6, .inl (ct 0, 12, .inl (fun _ => 0))), (q7, .inl (ct 0, 12, .inl (fun _ => 0))), (q8, .inl (ct 0, 12, .inl (fun _ => 0))), (q9, .inl (ct 0, 12, .inl (fun _ => 0))), (q10, .inl (ct 0, 12, .inl (fun _ => 0))), (q11, .inl (ct 0, 2, .inl (fun _ => 0))), (q12, .inl (ct 0, 2, .inl (fun _ => 0))), (q13, .inl (ct 0, 2000, .inl (fun _ => 0))), (q14, .inl (ct 0, 7, .inl (fun _ => 0))), (q15, .inl (ct 3, 7, .inl (fun _ => 0))), (q16, .inl (ct 0, 7, .inl (fun _ => 0))), (q17, .inl (ct 0, 7, .inl (fun _ => 0))), (q18, .inl (ct 0, 7, .inl (fun _ => 0))), (q19, .inl (ct 0, 7, .inl (fun _ => 0))), (q20, .inl (ct 0, 7, .inl (fun _ => 0))), (q21, .inl (ct 0, 7, .inl (fun _ => 0))), (q22, .inl (ct 0, 7, .inl (fun _ => 0)))] rfl (fun H locs hw hS => ?_)
  refine lv_aload_n hx hb dX12_init_180 rfl (lv_at hl 0 rfl) ?_
  refine lv_bipush (v := 7) hx hb dX12_init_181 (by decide) ?_
  refine znewa (atype := .int) hx hb (hts (.arrayClass .int) (by decide +kernel)) 0 rfl hK hw hS hA 7 (7, .inl (fun _ => 0)) (fun _ => rfl) (by decide) (by decide) (by decide) (Nat.le_of_ble_eq_true rfl) (Nat.le_of_ble_eq_true rfl) dX12_init_183 (fun q23 H hw hS => ?_)
  have hw : zPD D A [(h0, .inr (11, [.int 0, .int 0, .ref q1, .int 0, .int 0, .int 0, .int 0, .long 0, .int 0, .int 0, .ref q2, .ref q3, .ref q4, .ref q5, .ref q6, .ref q7, .ref q8, .ref q9, .ref q10, .ref q11, .ref q12, .ref q13, .int 0, .int 0, .ref q14, .ref q15, .ref q16, .ref q17, .ref q18, .ref q19, .ref q20, .ref q21, .ref q22, .null, .null, .null, .int 0, .long 0, .null, .null, .null, .null, .null, .null, .null, .null, .null, .null, .null, .null, .null, .int 0, .int 0, .null, .long 0, .int 0, .int 0])), (q1, .inl (ct 0, 1000, .inl (fun _ => 0))), (q2, .inl (ct 0, 8, .inl (fun _ => 0))), (q3, .inl (ct 1, 12, .inr (.inl (fun _ => 0)))), (q4, .inl (ct 1, 12, .inr (.inl (fun _ => 0)))), (q5, .inl (ct 0, 12, .inl (fun _ => 0))), (q6, .inl (ct 0, 12, .inl (fun _ => 0))), (q7, .inl (ct 0, 12, .inl (fun _ => 0))), (q8, .inl (ct 0, 12, .inl (fun _ => 0))), (q9, .inl (ct 0, 12, .inl (fun _ => 0))), (q10, .inl (ct 0, 12, .inl (fun _ => 0))), (q11, .inl (ct 0, 2, .inl (fun _ => 0))), (q12, .inl (ct 0, 2, .inl (fun _ => 0))), (q13, .inl (ct 0, 2000, .inl (fun _ => 0))), (q14, .inl (ct 0, 7, .inl (fun _ => 0))), (q15, .inl (ct 3, 7, .inl (fun _ => 0))), (q16, .inl (ct 0, 7, .inl (fun _ => 0))), (q17, .inl (ct 0, 7, .inl (fun _ => 0))), (q18, .inl (ct 0, 7, .inl (fun _ => 0))), (q19, .inl (ct 0, 7, .inl (fun _ => 0))), (q20, .inl (ct 0, 7, .inl (fun _ => 0))), (q21, .inl (ct 0, 7, .inl (fun _ => 0))), (q22, .inl (ct 0, 7, .inl (fun _ => 0))), (q23, .inl (ct 0, 7, .inl (fun _ => 0)))] H := hw
  refine zputF (D := D) (ci := 11) (v := .ref q23) (ty := (.array .int)) hx hb hts hiX12 tyX12 tyX12_ok nmX12 hown hK hw hS 0 rfl rfl 33 (by decide) (hts (.fieldLink RX12 78 "BeardPassModel" "termBy" "[I") (by decide +kernel)) (fun _ h9 => h9) rfl hname rfl (by decide +kernel) rfl rfl (Nat.le_of_ble_eq_true rfl) dX12_init_185 [(h0, .inr (11, [.int 0, .int 0, .ref q1, .int 0, .int 0, .int 0, .int 0, .long 0, .int 0, .int 0, .ref q2, .ref q3, .ref q4, .ref q5, .ref q6, .ref q7, .ref q8, .ref q9, .ref q10, .ref q11, .ref q12, .ref q13, .int 0, .int 0, .ref q14, .ref q15, .ref q16, .ref q17, .ref q18, .ref q19, .ref q20, .ref q21, .ref q22, .ref q23, .null, .null, .int 0, .long 0, .null, .null, .null, .null, .null, .null, .null, .null, .null, .null, .null, .null, .null, .int 0, .int 0, .null, .long 0, .int 0, .int 0])), (q1, .inl (ct 0, 1000, .inl (fun _ => 0))), (q2, .inl (ct 0, 8, .inl (fun _ => 0))), (q3, .inl (ct 1, 12, .inr (.inl (fun _ => 0)))), (q4, .inl (ct 1, 12, .inr (.inl (fun _ => 0)))), (q5, .inl (ct 0, 12, .inl (fun _ => 0))), (q6, .inl (ct 0, 12, .inl (fun _ => 0))), (q7, .inl (ct 0, 12, .inl (fun _ => 0))), (q8, .inl (ct 0, 12, .inl (fun _ => 0))), (q9, .inl (ct 0, 12, .inl (fun _ => 0))), (q10, .inl (ct 0, 12, .inl (fun _ => 0))), (q11, .inl (ct 0, 2, .inl (fun _ => 0))), (q12, .inl (ct 0, 2, .inl (fun _ => 0))), (q13, .inl (ct 0, 2000, .inl (fun _ => 0))), (q14, .inl (ct 0, 7, .inl (fun _ => 0))), (q15, .inl (ct 3, 7, .inl (fun _ => 0))), (q16, .inl (ct 0, 7, .inl (fun _ => 0))), (q17, .inl (ct 0, 7, .inl (fun _ => 0))), (q18, .inl (ct 0, 7, .inl (fun _ => 0))), (q19, .inl (ct 0, 7, .inl (fun _ => 0))), (q20, .inl (ct 0, 7, .inl (fun _ => 0))), (q21, .inl (ct 0, 7, .inl (fun _ => 0))), (q22, .inl (ct 0, 7, .inl (fun _ => 0))), (q23, .inl (ct 0, 7, .inl (fun _ => 0)))] rfl (fun H locs hw hS => ?_)
  refine lv_aload_n hx hb dX12_init_188 rfl (lv_at hl 0 rfl) ?_
  refine lv_bipush (v := 7) hx hb dX12_init_189 (by decide) ?_
  refine znewa (atype := .int) hx hb (hts (.arrayClass .int) (by decide +kernel)) 0 rfl hK hw hS hA 7 (7, .inl (fun _ => 0)) (fun _ => rfl) (by decide) (by decide) (by decide) (Nat.le_of_ble_eq_true rfl) (Nat.le_of_ble_eq_true rfl) dX12_init_191 (fun q24 H hw hS => ?_)
  have hw : zPD D A [(h0, .inr (11, [.int 0, .int 0, .ref q1, .int 0, .int 0, .int 0, .int 0, .long 0, .int 0, .int 0, .ref q2, .ref q3, .ref q4, .ref q5, .ref q6, .ref q7, .ref q8, .ref q9, .ref q10, .ref q11, .ref q12, .ref q13, .int 0, .int 0, .ref q14, .ref q15, .ref q16, .ref q17, .ref q18, .ref q19, .ref q20, .ref q21, .ref q22, .ref q23, .null, .null, .int 0, .long 0, .null, .null, .null, .null, .null, .null, .null, .null, .null, .null, .null, .null, .null, .int 0, .int 0, .null, .long 0, .int 0, .int 0])), (q1, .inl (ct 0, 1000, .inl (fun _ => 0))), (q2, .inl (ct 0, 8, .inl (fun _ => 0))), (q3, .inl (ct 1, 12, .inr (.inl (fun _ => 0)))), (q4, .inl (ct 1, 12, .inr (.inl (fun _ => 0)))), (q5, .inl (ct 0, 12, .inl (fun _ => 0))), (q6, .inl (ct 0, 12, .inl (fun _ => 0))), (q7, .inl (ct 0, 12, .inl (fun _ => 0))), (q8, .inl (ct 0, 12, .inl (fun _ => 0))), (q9, .inl (ct 0, 12, .inl (fun _ => 0))), (q10, .inl (ct 0, 12, .inl (fun _ => 0))), (q11, .inl (ct 0, 2, .inl (fun _ => 0))), (q12, .inl (ct 0, 2, .inl (fun _ => 0))), (q13, .inl (ct 0, 2000, .inl (fun _ => 0))), (q14, .inl (ct 0, 7, .inl (fun _ => 0))), (q15, .inl (ct 3, 7, .inl (fun _ => 0))), (q16, .inl (ct 0, 7, .inl (fun _ => 0))), (q17, .inl (ct 0, 7, .inl (fun _ => 0))), (q18, .inl (ct 0, 7, .inl (fun _ => 0))), (q19, .inl (ct 0, 7, .inl (fun _ => 0))), (q20, .inl (ct 0, 7, .inl (fun _ => 0))), (q21, .inl (ct 0, 7, .inl (fun _ => 0))), (q22, .inl (ct 0, 7, .inl (fun _ => 0))), (q23, .inl (ct 0, 7, .inl (fun _ => 0))), (q24, .inl (ct 0, 7, .inl (fun _ => 0)))] H := hw
  refine zputF (D := D) (ci := 11) (v := .ref q24) (ty := (.array .int)) hx hb hts hiX12 tyX12 tyX12_ok nmX12 hown hK hw hS 0 rfl rfl 34 (by decide) (hts (.fieldLink RX12 81 "BeardPassModel" "byNot" "[I") (by decide +kernel)) (fun _ h9 => h9) rfl hname rfl (by decide +kernel) rfl rfl (Nat.le_of_ble_eq_true rfl) dX12_init_193 [(h0, .inr (11, [.int 0, .int 0, .ref q1, .int 0, .int 0, .int 0, .int 0, .long 0, .int 0, .int 0, .ref q2, .ref q3, .ref q4, .ref q5, .ref q6, .ref q7, .ref q8, .ref q9, .ref q10, .ref q11, .ref q12, .ref q13, .int 0, .int 0, .ref q14, .ref q15, .ref q16, .ref q17, .ref q18, .ref q19, .ref q20, .ref q21, .ref q22, .ref q23, .ref q24, .null, .int 0, .long 0, .null, .null, .null, .null, .null, .null, .null, .null, .null, .null, .null, .null, .null, .int 0, .int 0, .null, .long 0, .int 0, .int 0])), (q1, .inl (ct 0, 1000, .inl (fun _ => 0))), (q2, .inl (ct 0, 8, .inl (fun _ => 0))), (q3, .inl (ct 1, 12, .inr (.inl (fun _ => 0)))), (q4, .inl (ct 1, 12, .inr (.inl (fun _ => 0)))), (q5, .inl (ct 0, 12, .inl (fun _ => 0))), (q6, .inl (ct 0, 12, .inl (fun _ => 0))), (q7, .inl (ct 0, 12, .inl (fun _ => 0))), (q8, .inl (ct 0, 12, .inl (fun _ => 0))), (q9, .inl (ct 0, 12, .inl (fun _ => 0))), (q10, .inl (ct 0, 12, .inl (fun _ => 0))), (q11, .inl (ct 0, 2, .inl (fun _ => 0))), (q12, .inl (ct 0, 2, .inl (fun _ => 0))), (q13, .inl (ct 0, 2000, .inl (fun _ => 0))), (q14, .inl (ct 0, 7, .inl (fun _ => 0))), (q15, .inl (ct 3, 7, .inl (fun _ => 0))), (q16, .inl (ct 0, 7, .inl (fun _ => 0))), (q17, .inl (ct 0, 7, .inl (fun _ => 0))), (q18, .inl (ct 0, 7, .inl (fun _ => 0))), (q19, .inl (ct 0, 7, .inl (fun _ => 0))), (q20, .inl (ct 0, 7, .inl (fun _ => 0))), (q21, .inl (ct 0, 7, .inl (fun _ => 0))), (q22, .inl (ct 0, 7, .inl (fun _ => 0))), (q23, .inl (ct 0, 7, .inl (fun _ => 0))), (q24, .inl (ct 0, 7, .inl (fun _ => 0)))] rfl (fun H locs hw hS => ?_)
  refine lv_aload_n hx hb dX12_init_196 rfl (lv_at hl 0 rfl) ?_
  refine lv_bipush (v := 20) hx hb dX12_init_197 (by decide) ?_
  refine znewa (atype := .int) hx hb (hts (.arrayClass .int) (by decide +kernel)) 0 rfl hK hw hS hA 20 (20, .inl (fun _ => 0)) (fun _ => rfl) (by decide) (by decide) (by decide) (Nat.le_of_ble_eq_true rfl) (Nat.le_of_ble_eq_true rfl) dX12_init_199 (fun q25 H hw hS => ?_)
  have hw : zPD D A [(h0, .inr (11, [.int 0, .int 0, .ref q1, .int 0, .int 0, .int 0, .int 0, .long 0, .int 0, .int 0, .ref q2, .ref q3, .ref q4, .ref q5, .ref q6, .ref q7, .ref q8, .ref q9, .ref q10, .ref q11, .ref q12, .ref q13, .int 0, .int 0, .ref q14, .ref q15, .ref q16, .ref q17, .ref q18, .ref q19, .ref q20, .ref q21, .ref q22, .ref q23, .ref q24, .null, .int 0, .long 0, .null, .null, .null, .null, .null, .null, .null, .null, .null, .null, .null, .null, .null, .int 0, .int 0, .null, .long 0, .int 0, .int 0])), (q1, .inl (ct 0, 1000, .inl (fun _ => 0))), (q2, .inl (ct 0, 8, .inl (fun _ => 0))), (q3, .inl (ct 1, 12, .inr (.inl (fun _ => 0)))), (q4, .inl (ct 1, 12, .inr (.inl (fun _ => 0)))), (q5, .inl (ct 0, 12, .inl (fun _ => 0))), (q6, .inl (ct 0, 12, .inl (fun _ => 0))), (q7, .inl (ct 0, 12, .inl (fun _ => 0))), (q8, .inl (ct 0, 12, .inl (fun _ => 0))), (q9, .inl (ct 0, 12, .inl (fun _ => 0))), (q10, .inl (ct 0, 12, .inl (fun _ => 0))), (q11, .inl (ct 0, 2, .inl (fun _ => 0))), (q12, .inl (ct 0, 2, .inl (fun _ => 0))), (q13, .inl (ct 0, 2000, .inl (fun _ => 0))), (q14, .inl (ct 0, 7, .inl (fun _ => 0))), (q15, .inl (ct 3, 7, .inl (fun _ => 0))), (q16, .inl (ct 0, 7, .inl (fun _ => 0))), (q17, .inl (ct 0, 7, .inl (fun _ => 0))), (q18, .inl (ct 0, 7, .inl (fun _ => 0))), (q19, .inl (ct 0, 7, .inl (fun _ => 0))), (q20, .inl (ct 0, 7, .inl (fun _ => 0))), (q21, .inl (ct 0, 7, .inl (fun _ => 0))), (q22, .inl (ct 0, 7, .inl (fun _ => 0))), (q23, .inl (ct 0, 7, .inl (fun _ => 0))), (q24, .inl (ct 0, 7, .inl (fun _ => 0))), (q25, .inl (ct 0, 20, .inl (fun _ => 0)))] H := hw
  refine zputF (D := D) (ci := 11) (v := .ref q25) (ty := (.array .int)) hx hb hts hiX12 tyX12 tyX12_ok nmX12 hown hK hw hS 0 rfl rfl 35 (by decide) (hts (.fieldLink RX12 84 "BeardPassModel" "valueOf" "[I") (by decide +kernel)) (fun _ h9 => h9) rfl hname rfl (by decide +kernel) rfl rfl (Nat.le_of_ble_eq_true rfl) dX12_init_201 [(h0, .inr (11, [.int 0, .int 0, .ref q1, .int 0, .int 0, .int 0, .int 0, .long 0, .int 0, .int 0, .ref q2, .ref q3, .ref q4, .ref q5, .ref q6, .ref q7, .ref q8, .ref q9, .ref q10, .ref q11, .ref q12, .ref q13, .int 0, .int 0, .ref q14, .ref q15, .ref q16, .ref q17, .ref q18, .ref q19, .ref q20, .ref q21, .ref q22, .ref q23, .ref q24, .ref q25, .int 0, .long 0, .null, .null, .null, .null, .null, .null, .null, .null, .null, .null, .null, .null, .null, .int 0, .int 0, .null, .long 0, .int 0, .int 0])), (q1, .inl (ct 0, 1000, .inl (fun _ => 0))), (q2, .inl (ct 0, 8, .inl (fun _ => 0))), (q3, .inl (ct 1, 12, .inr (.inl (fun _ => 0)))), (q4, .inl (ct 1, 12, .inr (.inl (fun _ => 0)))), (q5, .inl (ct 0, 12, .inl (fun _ => 0))), (q6, .inl (ct 0, 12, .inl (fun _ => 0))), (q7, .inl (ct 0, 12, .inl (fun _ => 0))), (q8, .inl (ct 0, 12, .inl (fun _ => 0))), (q9, .inl (ct 0, 12, .inl (fun _ => 0))), (q10, .inl (ct 0, 12, .inl (fun _ => 0))), (q11, .inl (ct 0, 2, .inl (fun _ => 0))), (q12, .inl (ct 0, 2, .inl (fun _ => 0))), (q13, .inl (ct 0, 2000, .inl (fun _ => 0))), (q14, .inl (ct 0, 7, .inl (fun _ => 0))), (q15, .inl (ct 3, 7, .inl (fun _ => 0))), (q16, .inl (ct 0, 7, .inl (fun _ => 0))), (q17, .inl (ct 0, 7, .inl (fun _ => 0))), (q18, .inl (ct 0, 7, .inl (fun _ => 0))), (q19, .inl (ct 0, 7, .inl (fun _ => 0))), (q20, .inl (ct 0, 7, .inl (fun _ => 0))), (q21, .inl (ct 0, 7, .inl (fun _ => 0))), (q22, .inl (ct 0, 7, .inl (fun _ => 0))), (q23, .inl (ct 0, 7, .inl (fun _ => 0))), (q24, .inl (ct 0, 7, .inl (fun _ => 0))), (q25, .inl (ct 0, 20, .inl (fun _ => 0)))] rfl (fun H locs hw hS => ?_)
  refine lv_aload_n hx hb dX12_init_204 rfl (lv_at hl 0 rfl) ?_
  refine lv_bipush (v := 6) hx hb dX12_init_205 (by decide) ?_
  refine znewa (atype := .int) hx hb (hts (.arrayClass .int) (by decide +kernel)) 0 rfl hK hw hS hA 6 (6, .inl (fun _ => 0)) (fun _ => rfl) (by decide) (by decide) (by decide) (Nat.le_of_ble_eq_true rfl) (Nat.le_of_ble_eq_true rfl) dX12_init_207 (fun q26 H hw hS => ?_)
  have hw : zPD D A [(h0, .inr (11, [.int 0, .int 0, .ref q1, .int 0, .int 0, .int 0, .int 0, .long 0, .int 0, .int 0, .ref q2, .ref q3, .ref q4, .ref q5, .ref q6, .ref q7, .ref q8, .ref q9, .ref q10, .ref q11, .ref q12, .ref q13, .int 0, .int 0, .ref q14, .ref q15, .ref q16, .ref q17, .ref q18, .ref q19, .ref q20, .ref q21, .ref q22, .ref q23, .ref q24, .ref q25, .int 0, .long 0, .null, .null, .null, .null, .null, .null, .null, .null, .null, .null, .null, .null, .null, .int 0, .int 0, .null, .long 0, .int 0, .int 0])), (q1, .inl (ct 0, 1000, .inl (fun _ => 0))), (q2, .inl (ct 0, 8, .inl (fun _ => 0))), (q3, .inl (ct 1, 12, .inr (.inl (fun _ => 0)))), (q4, .inl (ct 1, 12, .inr (.inl (fun _ => 0)))), (q5, .inl (ct 0, 12, .inl (fun _ => 0))), (q6, .inl (ct 0, 12, .inl (fun _ => 0))), (q7, .inl (ct 0, 12, .inl (fun _ => 0))), (q8, .inl (ct 0, 12, .inl (fun _ => 0))), (q9, .inl (ct 0, 12, .inl (fun _ => 0))), (q10, .inl (ct 0, 12, .inl (fun _ => 0))), (q11, .inl (ct 0, 2, .inl (fun _ => 0))), (q12, .inl (ct 0, 2, .inl (fun _ => 0))), (q13, .inl (ct 0, 2000, .inl (fun _ => 0))), (q14, .inl (ct 0, 7, .inl (fun _ => 0))), (q15, .inl (ct 3, 7, .inl (fun _ => 0))), (q16, .inl (ct 0, 7, .inl (fun _ => 0))), (q17, .inl (ct 0, 7, .inl (fun _ => 0))), (q18, .inl (ct 0, 7, .inl (fun _ => 0))), (q19, .inl (ct 0, 7, .inl (fun _ => 0))), (q20, .inl (ct 0, 7, .inl (fun _ => 0))), (q21, .inl (ct 0, 7, .inl (fun _ => 0))), (q22, .inl (ct 0, 7, .inl (fun _ => 0))), (q23, .inl (ct 0, 7, .inl (fun _ => 0))), (q24, .inl (ct 0, 7, .inl (fun _ => 0))), (q25, .inl (ct 0, 20, .inl (fun _ => 0))), (q26, .inl (ct 0, 6, .inl (fun _ => 0)))] H := hw
  refine zputF (D := D) (ci := 11) (v := .ref q26) (ty := (.array .int)) hx hb hts hiX12 tyX12 tyX12_ok nmX12 hown hK hw hS 0 rfl rfl 38 (by decide) (hts (.fieldLink RX12 87 "BeardPassModel" "lines" "[I") (by decide +kernel)) (fun _ h9 => h9) rfl hname rfl (by decide +kernel) rfl rfl (Nat.le_of_ble_eq_true rfl) dX12_init_209 [(h0, .inr (11, [.int 0, .int 0, .ref q1, .int 0, .int 0, .int 0, .int 0, .long 0, .int 0, .int 0, .ref q2, .ref q3, .ref q4, .ref q5, .ref q6, .ref q7, .ref q8, .ref q9, .ref q10, .ref q11, .ref q12, .ref q13, .int 0, .int 0, .ref q14, .ref q15, .ref q16, .ref q17, .ref q18, .ref q19, .ref q20, .ref q21, .ref q22, .ref q23, .ref q24, .ref q25, .int 0, .long 0, .ref q26, .null, .null, .null, .null, .null, .null, .null, .null, .null, .null, .null, .null, .int 0, .int 0, .null, .long 0, .int 0, .int 0])), (q1, .inl (ct 0, 1000, .inl (fun _ => 0))), (q2, .inl (ct 0, 8, .inl (fun _ => 0))), (q3, .inl (ct 1, 12, .inr (.inl (fun _ => 0)))), (q4, .inl (ct 1, 12, .inr (.inl (fun _ => 0)))), (q5, .inl (ct 0, 12, .inl (fun _ => 0))), (q6, .inl (ct 0, 12, .inl (fun _ => 0))), (q7, .inl (ct 0, 12, .inl (fun _ => 0))), (q8, .inl (ct 0, 12, .inl (fun _ => 0))), (q9, .inl (ct 0, 12, .inl (fun _ => 0))), (q10, .inl (ct 0, 12, .inl (fun _ => 0))), (q11, .inl (ct 0, 2, .inl (fun _ => 0))), (q12, .inl (ct 0, 2, .inl (fun _ => 0))), (q13, .inl (ct 0, 2000, .inl (fun _ => 0))), (q14, .inl (ct 0, 7, .inl (fun _ => 0))), (q15, .inl (ct 3, 7, .inl (fun _ => 0))), (q16, .inl (ct 0, 7, .inl (fun _ => 0))), (q17, .inl (ct 0, 7, .inl (fun _ => 0))), (q18, .inl (ct 0, 7, .inl (fun _ => 0))), (q19, .inl (ct 0, 7, .inl (fun _ => 0))), (q20, .inl (ct 0, 7, .inl (fun _ => 0))), (q21, .inl (ct 0, 7, .inl (fun _ => 0))), (q22, .inl (ct 0, 7, .inl (fun _ => 0))), (q23, .inl (ct 0, 7, .inl (fun _ => 0))), (q24, .inl (ct 0, 7, .inl (fun _ => 0))), (q25, .inl (ct 0, 20, .inl (fun _ => 0))), (q26, .inl (ct 0, 6, .inl (fun _ => 0)))] rfl (fun H locs hw hS => ?_)
  refine lv_aload_n hx hb dX12_init_212 rfl (lv_at hl 0 rfl) ?_
  refine lv_sipush (v := 240) hx hb dX12_init_213 (by decide) ?_
  refine znewa (atype := .int) hx hb (hts (.arrayClass .int) (by decide +kernel)) 0 rfl hK hw hS hA 240 (240, .inl (fun _ => 0)) (fun _ => rfl) (by decide) (by decide) (by decide) (Nat.le_of_ble_eq_true rfl) (Nat.le_of_ble_eq_true rfl) dX12_init_216 (fun q27 H hw hS => ?_)
  have hw : zPD D A [(h0, .inr (11, [.int 0, .int 0, .ref q1, .int 0, .int 0, .int 0, .int 0, .long 0, .int 0, .int 0, .ref q2, .ref q3, .ref q4, .ref q5, .ref q6, .ref q7, .ref q8, .ref q9, .ref q10, .ref q11, .ref q12, .ref q13, .int 0, .int 0, .ref q14, .ref q15, .ref q16, .ref q17, .ref q18, .ref q19, .ref q20, .ref q21, .ref q22, .ref q23, .ref q24, .ref q25, .int 0, .long 0, .ref q26, .null, .null, .null, .null, .null, .null, .null, .null, .null, .null, .null, .null, .int 0, .int 0, .null, .long 0, .int 0, .int 0])), (q1, .inl (ct 0, 1000, .inl (fun _ => 0))), (q2, .inl (ct 0, 8, .inl (fun _ => 0))), (q3, .inl (ct 1, 12, .inr (.inl (fun _ => 0)))), (q4, .inl (ct 1, 12, .inr (.inl (fun _ => 0)))), (q5, .inl (ct 0, 12, .inl (fun _ => 0))), (q6, .inl (ct 0, 12, .inl (fun _ => 0))), (q7, .inl (ct 0, 12, .inl (fun _ => 0))), (q8, .inl (ct 0, 12, .inl (fun _ => 0))), (q9, .inl (ct 0, 12, .inl (fun _ => 0))), (q10, .inl (ct 0, 12, .inl (fun _ => 0))), (q11, .inl (ct 0, 2, .inl (fun _ => 0))), (q12, .inl (ct 0, 2, .inl (fun _ => 0))), (q13, .inl (ct 0, 2000, .inl (fun _ => 0))), (q14, .inl (ct 0, 7, .inl (fun _ => 0))), (q15, .inl (ct 3, 7, .inl (fun _ => 0))), (q16, .inl (ct 0, 7, .inl (fun _ => 0))), (q17, .inl (ct 0, 7, .inl (fun _ => 0))), (q18, .inl (ct 0, 7, .inl (fun _ => 0))), (q19, .inl (ct 0, 7, .inl (fun _ => 0))), (q20, .inl (ct 0, 7, .inl (fun _ => 0))), (q21, .inl (ct 0, 7, .inl (fun _ => 0))), (q22, .inl (ct 0, 7, .inl (fun _ => 0))), (q23, .inl (ct 0, 7, .inl (fun _ => 0))), (q24, .inl (ct 0, 7, .inl (fun _ => 0))), (q25, .inl (ct 0, 20, .inl (fun _ => 0))), (q26, .inl (ct 0, 6, .inl (fun _ => 0))), (q27, .inl (ct 0, 240, .inl (fun _ => 0)))] H := hw
  refine zputF (D := D) (ci := 11) (v := .ref q27) (ty := (.array .int)) hx hb hts hiX12 tyX12 tyX12_ok nmX12 hown hK hw hS 0 rfl rfl 39 (by decide) (hts (.fieldLink RX12 90 "BeardPassModel" "lineWhat" "[I") (by decide +kernel)) (fun _ h9 => h9) rfl hname rfl (by decide +kernel) rfl rfl (Nat.le_of_ble_eq_true rfl) dX12_init_218 [(h0, .inr (11, [.int 0, .int 0, .ref q1, .int 0, .int 0, .int 0, .int 0, .long 0, .int 0, .int 0, .ref q2, .ref q3, .ref q4, .ref q5, .ref q6, .ref q7, .ref q8, .ref q9, .ref q10, .ref q11, .ref q12, .ref q13, .int 0, .int 0, .ref q14, .ref q15, .ref q16, .ref q17, .ref q18, .ref q19, .ref q20, .ref q21, .ref q22, .ref q23, .ref q24, .ref q25, .int 0, .long 0, .ref q26, .ref q27, .null, .null, .null, .null, .null, .null, .null, .null, .null, .null, .null, .int 0, .int 0, .null, .long 0, .int 0, .int 0])), (q1, .inl (ct 0, 1000, .inl (fun _ => 0))), (q2, .inl (ct 0, 8, .inl (fun _ => 0))), (q3, .inl (ct 1, 12, .inr (.inl (fun _ => 0)))), (q4, .inl (ct 1, 12, .inr (.inl (fun _ => 0)))), (q5, .inl (ct 0, 12, .inl (fun _ => 0))), (q6, .inl (ct 0, 12, .inl (fun _ => 0))), (q7, .inl (ct 0, 12, .inl (fun _ => 0))), (q8, .inl (ct 0, 12, .inl (fun _ => 0))), (q9, .inl (ct 0, 12, .inl (fun _ => 0))), (q10, .inl (ct 0, 12, .inl (fun _ => 0))), (q11, .inl (ct 0, 2, .inl (fun _ => 0))), (q12, .inl (ct 0, 2, .inl (fun _ => 0))), (q13, .inl (ct 0, 2000, .inl (fun _ => 0))), (q14, .inl (ct 0, 7, .inl (fun _ => 0))), (q15, .inl (ct 3, 7, .inl (fun _ => 0))), (q16, .inl (ct 0, 7, .inl (fun _ => 0))), (q17, .inl (ct 0, 7, .inl (fun _ => 0))), (q18, .inl (ct 0, 7, .inl (fun _ => 0))), (q19, .inl (ct 0, 7, .inl (fun _ => 0))), (q20, .inl (ct 0, 7, .inl (fun _ => 0))), (q21, .inl (ct 0, 7, .inl (fun _ => 0))), (q22, .inl (ct 0, 7, .inl (fun _ => 0))), (q23, .inl (ct 0, 7, .inl (fun _ => 0))), (q24, .inl (ct 0, 7, .inl (fun _ => 0))), (q25, .inl (ct 0, 20, .inl (fun _ => 0))), (q26, .inl (ct 0, 6, .inl (fun _ => 0))), (q27, .inl (ct 0, 240, .inl (fun _ => 0)))] rfl (fun H locs hw hS => ?_)
  refine lv_aload_n hx hb dX12_init_221 rfl (lv_at hl 0 rfl) ?_
  refine lv_sipush (v := 240) hx hb dX12_init_222 (by decide) ?_
  refine znewa (atype := .int) hx hb (hts (.arrayClass .int) (by decide +kernel)) 0 rfl hK hw hS hA 240 (240, .inl (fun _ => 0)) (fun _ => rfl) (by decide) (by decide) (by decide) (Nat.le_of_ble_eq_true rfl) (Nat.le_of_ble_eq_true rfl) dX12_init_225 (fun q28 H hw hS => ?_)
  have hw : zPD D A [(h0, .inr (11, [.int 0, .int 0, .ref q1, .int 0, .int 0, .int 0, .int 0, .long 0, .int 0, .int 0, .ref q2, .ref q3, .ref q4, .ref q5, .ref q6, .ref q7, .ref q8, .ref q9, .ref q10, .ref q11, .ref q12, .ref q13, .int 0, .int 0, .ref q14, .ref q15, .ref q16, .ref q17, .ref q18, .ref q19, .ref q20, .ref q21, .ref q22, .ref q23, .ref q24, .ref q25, .int 0, .long 0, .ref q26, .ref q27, .null, .null, .null, .null, .null, .null, .null, .null, .null, .null, .null, .int 0, .int 0, .null, .long 0, .int 0, .int 0])), (q1, .inl (ct 0, 1000, .inl (fun _ => 0))), (q2, .inl (ct 0, 8, .inl (fun _ => 0))), (q3, .inl (ct 1, 12, .inr (.inl (fun _ => 0)))), (q4, .inl (ct 1, 12, .inr (.inl (fun _ => 0)))), (q5, .inl (ct 0, 12, .inl (fun _ => 0))), (q6, .inl (ct 0, 12, .inl (fun _ => 0))), (q7, .inl (ct 0, 12, .inl (fun _ => 0))), (q8, .inl (ct 0, 12, .inl (fun _ => 0))), (q9, .inl (ct 0, 12, .inl (fun _ => 0))), (q10, .inl (ct 0, 12, .inl (fun _ => 0))), (q11, .inl (ct 0, 2, .inl (fun _ => 0))), (q12, .inl (ct 0, 2, .inl (fun _ => 0))), (q13, .inl (ct 0, 2000, .inl (fun _ => 0))), (q14, .inl (ct 0, 7, .inl (fun _ => 0))), (q15, .inl (ct 3, 7, .inl (fun _ => 0))), (q16, .inl (ct 0, 7, .inl (fun _ => 0))), (q17, .inl (ct 0, 7, .inl (fun _ => 0))), (q18, .inl (ct 0, 7, .inl (fun _ => 0))), (q19, .inl (ct 0, 7, .inl (fun _ => 0))), (q20, .inl (ct 0, 7, .inl (fun _ => 0))), (q21, .inl (ct 0, 7, .inl (fun _ => 0))), (q22, .inl (ct 0, 7, .inl (fun _ => 0))), (q23, .inl (ct 0, 7, .inl (fun _ => 0))), (q24, .inl (ct 0, 7, .inl (fun _ => 0))), (q25, .inl (ct 0, 20, .inl (fun _ => 0))), (q26, .inl (ct 0, 6, .inl (fun _ => 0))), (q27, .inl (ct 0, 240, .inl (fun _ => 0))), (q28, .inl (ct 0, 240, .inl (fun _ => 0)))] H := hw
  refine zputF (D := D) (ci := 11) (v := .ref q28) (ty := (.array .int)) hx hb hts hiX12 tyX12 tyX12_ok nmX12 hown hK hw hS 0 rfl rfl 40 (by decide) (hts (.fieldLink RX12 93 "BeardPassModel" "lineA" "[I") (by decide +kernel)) (fun _ h9 => h9) rfl hname rfl (by decide +kernel) rfl rfl (Nat.le_of_ble_eq_true rfl) dX12_init_227 [(h0, .inr (11, [.int 0, .int 0, .ref q1, .int 0, .int 0, .int 0, .int 0, .long 0, .int 0, .int 0, .ref q2, .ref q3, .ref q4, .ref q5, .ref q6, .ref q7, .ref q8, .ref q9, .ref q10, .ref q11, .ref q12, .ref q13, .int 0, .int 0, .ref q14, .ref q15, .ref q16, .ref q17, .ref q18, .ref q19, .ref q20, .ref q21, .ref q22, .ref q23, .ref q24, .ref q25, .int 0, .long 0, .ref q26, .ref q27, .ref q28, .null, .null, .null, .null, .null, .null, .null, .null, .null, .null, .int 0, .int 0, .null, .long 0, .int 0, .int 0])), (q1, .inl (ct 0, 1000, .inl (fun _ => 0))), (q2, .inl (ct 0, 8, .inl (fun _ => 0))), (q3, .inl (ct 1, 12, .inr (.inl (fun _ => 0)))), (q4, .inl (ct 1, 12, .inr (.inl (fun _ => 0)))), (q5, .inl (ct 0, 12, .inl (fun _ => 0))), (q6, .inl (ct 0, 12, .inl (fun _ => 0))), (q7, .inl (ct 0, 12, .inl (fun _ => 0))), (q8, .inl (ct 0, 12, .inl (fun _ => 0))), (q9, .inl (ct 0, 12, .inl (fun _ => 0))), (q10, .inl (ct 0, 12, .inl (fun _ => 0))), (q11, .inl (ct 0, 2, .inl (fun _ => 0))), (q12, .inl (ct 0, 2, .inl (fun _ => 0))), (q13, .inl (ct 0, 2000, .inl (fun _ => 0))), (q14, .inl (ct 0, 7, .inl (fun _ => 0))), (q15, .inl (ct 3, 7, .inl (fun _ => 0))), (q16, .inl (ct 0, 7, .inl (fun _ => 0))), (q17, .inl (ct 0, 7, .inl (fun _ => 0))), (q18, .inl (ct 0, 7, .inl (fun _ => 0))), (q19, .inl (ct 0, 7, .inl (fun _ => 0))), (q20, .inl (ct 0, 7, .inl (fun _ => 0))), (q21, .inl (ct 0, 7, .inl (fun _ => 0))), (q22, .inl (ct 0, 7, .inl (fun _ => 0))), (q23, .inl (ct 0, 7, .inl (fun _ => 0))), (q24, .inl (ct 0, 7, .inl (fun _ => 0))), (q25, .inl (ct 0, 20, .inl (fun _ => 0))), (q26, .inl (ct 0, 6, .inl (fun _ => 0))), (q27, .inl (ct 0, 240, .inl (fun _ => 0))), (q28, .inl (ct 0, 240, .inl (fun _ => 0)))] rfl (fun H locs hw hS => ?_)
  refine lv_aload_n hx hb dX12_init_230 rfl (lv_at hl 0 rfl) ?_
  refine lv_sipush (v := 240) hx hb dX12_init_231 (by decide) ?_
  refine znewa (atype := .int) hx hb (hts (.arrayClass .int) (by decide +kernel)) 0 rfl hK hw hS hA 240 (240, .inl (fun _ => 0)) (fun _ => rfl) (by decide) (by decide) (by decide) (Nat.le_of_ble_eq_true rfl) (Nat.le_of_ble_eq_true rfl) dX12_init_234 (fun q29 H hw hS => ?_)
  have hw : zPD D A [(h0, .inr (11, [.int 0, .int 0, .ref q1, .int 0, .int 0, .int 0, .int 0, .long 0, .int 0, .int 0, .ref q2, .ref q3, .ref q4, .ref q5, .ref q6, .ref q7, .ref q8, .ref q9, .ref q10, .ref q11, .ref q12, .ref q13, .int 0, .int 0, .ref q14, .ref q15, .ref q16, .ref q17, .ref q18, .ref q19, .ref q20, .ref q21, .ref q22, .ref q23, .ref q24, .ref q25, .int 0, .long 0, .ref q26, .ref q27, .ref q28, .null, .null, .null, .null, .null, .null, .null, .null, .null, .null, .int 0, .int 0, .null, .long 0, .int 0, .int 0])), (q1, .inl (ct 0, 1000, .inl (fun _ => 0))), (q2, .inl (ct 0, 8, .inl (fun _ => 0))), (q3, .inl (ct 1, 12, .inr (.inl (fun _ => 0)))), (q4, .inl (ct 1, 12, .inr (.inl (fun _ => 0)))), (q5, .inl (ct 0, 12, .inl (fun _ => 0))), (q6, .inl (ct 0, 12, .inl (fun _ => 0))), (q7, .inl (ct 0, 12, .inl (fun _ => 0))), (q8, .inl (ct 0, 12, .inl (fun _ => 0))), (q9, .inl (ct 0, 12, .inl (fun _ => 0))), (q10, .inl (ct 0, 12, .inl (fun _ => 0))), (q11, .inl (ct 0, 2, .inl (fun _ => 0))), (q12, .inl (ct 0, 2, .inl (fun _ => 0))), (q13, .inl (ct 0, 2000, .inl (fun _ => 0))), (q14, .inl (ct 0, 7, .inl (fun _ => 0))), (q15, .inl (ct 3, 7, .inl (fun _ => 0))), (q16, .inl (ct 0, 7, .inl (fun _ => 0))), (q17, .inl (ct 0, 7, .inl (fun _ => 0))), (q18, .inl (ct 0, 7, .inl (fun _ => 0))), (q19, .inl (ct 0, 7, .inl (fun _ => 0))), (q20, .inl (ct 0, 7, .inl (fun _ => 0))), (q21, .inl (ct 0, 7, .inl (fun _ => 0))), (q22, .inl (ct 0, 7, .inl (fun _ => 0))), (q23, .inl (ct 0, 7, .inl (fun _ => 0))), (q24, .inl (ct 0, 7, .inl (fun _ => 0))), (q25, .inl (ct 0, 20, .inl (fun _ => 0))), (q26, .inl (ct 0, 6, .inl (fun _ => 0))), (q27, .inl (ct 0, 240, .inl (fun _ => 0))), (q28, .inl (ct 0, 240, .inl (fun _ => 0))), (q29, .inl (ct 0, 240, .inl (fun _ => 0)))] H := hw
  refine zputF (D := D) (ci := 11) (v := .ref q29) (ty := (.array .int)) hx hb hts hiX12 tyX12 tyX12_ok nmX12 hown hK hw hS 0 rfl rfl 41 (by decide) (hts (.fieldLink RX12 96 "BeardPassModel" "lineB" "[I") (by decide +kernel)) (fun _ h9 => h9) rfl hname rfl (by decide +kernel) rfl rfl (Nat.le_of_ble_eq_true rfl) dX12_init_236 [(h0, .inr (11, [.int 0, .int 0, .ref q1, .int 0, .int 0, .int 0, .int 0, .long 0, .int 0, .int 0, .ref q2, .ref q3, .ref q4, .ref q5, .ref q6, .ref q7, .ref q8, .ref q9, .ref q10, .ref q11, .ref q12, .ref q13, .int 0, .int 0, .ref q14, .ref q15, .ref q16, .ref q17, .ref q18, .ref q19, .ref q20, .ref q21, .ref q22, .ref q23, .ref q24, .ref q25, .int 0, .long 0, .ref q26, .ref q27, .ref q28, .ref q29, .null, .null, .null, .null, .null, .null, .null, .null, .null, .int 0, .int 0, .null, .long 0, .int 0, .int 0])), (q1, .inl (ct 0, 1000, .inl (fun _ => 0))), (q2, .inl (ct 0, 8, .inl (fun _ => 0))), (q3, .inl (ct 1, 12, .inr (.inl (fun _ => 0)))), (q4, .inl (ct 1, 12, .inr (.inl (fun _ => 0)))), (q5, .inl (ct 0, 12, .inl (fun _ => 0))), (q6, .inl (ct 0, 12, .inl (fun _ => 0))), (q7, .inl (ct 0, 12, .inl (fun _ => 0))), (q8, .inl (ct 0, 12, .inl (fun _ => 0))), (q9, .inl (ct 0, 12, .inl (fun _ => 0))), (q10, .inl (ct 0, 12, .inl (fun _ => 0))), (q11, .inl (ct 0, 2, .inl (fun _ => 0))), (q12, .inl (ct 0, 2, .inl (fun _ => 0))), (q13, .inl (ct 0, 2000, .inl (fun _ => 0))), (q14, .inl (ct 0, 7, .inl (fun _ => 0))), (q15, .inl (ct 3, 7, .inl (fun _ => 0))), (q16, .inl (ct 0, 7, .inl (fun _ => 0))), (q17, .inl (ct 0, 7, .inl (fun _ => 0))), (q18, .inl (ct 0, 7, .inl (fun _ => 0))), (q19, .inl (ct 0, 7, .inl (fun _ => 0))), (q20, .inl (ct 0, 7, .inl (fun _ => 0))), (q21, .inl (ct 0, 7, .inl (fun _ => 0))), (q22, .inl (ct 0, 7, .inl (fun _ => 0))), (q23, .inl (ct 0, 7, .inl (fun _ => 0))), (q24, .inl (ct 0, 7, .inl (fun _ => 0))), (q25, .inl (ct 0, 20, .inl (fun _ => 0))), (q26, .inl (ct 0, 6, .inl (fun _ => 0))), (q27, .inl (ct 0, 240, .inl (fun _ => 0))), (q28, .inl (ct 0, 240, .inl (fun _ => 0))), (q29, .inl (ct 0, 240, .inl (fun _ => 0)))] rfl (fun H locs hw hS => ?_)
  refine lv_aload_n hx hb dX12_init_239 rfl (lv_at hl 0 rfl) ?_
  refine lv_iconst (v := 5) hx hb dX12_init_240 (by decide) ?_
  refine znewa (atype := .int) hx hb (hts (.arrayClass .int) (by decide +kernel)) 0 rfl hK hw hS hA 5 (5, .inl (fun _ => 0)) (fun _ => rfl) (by decide) (by decide) (by decide) (Nat.le_of_ble_eq_true rfl) (Nat.le_of_ble_eq_true rfl) dX12_init_241 (fun q30 H hw hS => ?_)
  have hw : zPD D A [(h0, .inr (11, [.int 0, .int 0, .ref q1, .int 0, .int 0, .int 0, .int 0, .long 0, .int 0, .int 0, .ref q2, .ref q3, .ref q4, .ref q5, .ref q6, .ref q7, .ref q8, .ref q9, .ref q10, .ref q11, .ref q12, .ref q13, .int 0, .int 0, .ref q14, .ref q15, .ref q16, .ref q17, .ref q18, .ref q19, .ref q20, .ref q21, .ref q22, .ref q23, .ref q24, .ref q25, .int 0, .long 0, .ref q26, .ref q27, .ref q28, .ref q29, .null, .null, .null, .null, .null, .null, .null, .null, .null, .int 0, .int 0, .null, .long 0, .int 0, .int 0])), (q1, .inl (ct 0, 1000, .inl (fun _ => 0))), (q2, .inl (ct 0, 8, .inl (fun _ => 0))), (q3, .inl (ct 1, 12, .inr (.inl (fun _ => 0)))), (q4, .inl (ct 1, 12, .inr (.inl (fun _ => 0)))), (q5, .inl (ct 0, 12, .inl (fun _ => 0))), (q6, .inl (ct 0, 12, .inl (fun _ => 0))), (q7, .inl (ct 0, 12, .inl (fun _ => 0))), (q8, .inl (ct 0, 12, .inl (fun _ => 0))), (q9, .inl (ct 0, 12, .inl (fun _ => 0))), (q10, .inl (ct 0, 12, .inl (fun _ => 0))), (q11, .inl (ct 0, 2, .inl (fun _ => 0))), (q12, .inl (ct 0, 2, .inl (fun _ => 0))), (q13, .inl (ct 0, 2000, .inl (fun _ => 0))), (q14, .inl (ct 0, 7, .inl (fun _ => 0))), (q15, .inl (ct 3, 7, .inl (fun _ => 0))), (q16, .inl (ct 0, 7, .inl (fun _ => 0))), (q17, .inl (ct 0, 7, .inl (fun _ => 0))), (q18, .inl (ct 0, 7, .inl (fun _ => 0))), (q19, .inl (ct 0, 7, .inl (fun _ => 0))), (q20, .inl (ct 0, 7, .inl (fun _ => 0))), (q21, .inl (ct 0, 7, .inl (fun _ => 0))), (q22, .inl (ct 0, 7, .inl (fun _ => 0))), (q23, .inl (ct 0, 7, .inl (fun _ => 0))), (q24, .inl (ct 0, 7, .inl (fun _ => 0))), (q25, .inl (ct 0, 20, .inl (fun _ => 0))), (q26, .inl (ct 0, 6, .inl (fun _ => 0))), (q27, .inl (ct 0, 240, .inl (fun _ => 0))), (q28, .inl (ct 0, 240, .inl (fun _ => 0))), (q29, .inl (ct 0, 240, .inl (fun _ => 0))), (q30, .inl (ct 0, 5, .inl (fun _ => 0)))] H := hw
  refine zputF (D := D) (ci := 11) (v := .ref q30) (ty := (.array .int)) hx hb hts hiX12 tyX12 tyX12_ok nmX12 hown hK hw hS 0 rfl rfl 42 (by decide) (hts (.fieldLink RX12 99 "BeardPassModel" "seens" "[I") (by decide +kernel)) (fun _ h9 => h9) rfl hname rfl (by decide +kernel) rfl rfl (Nat.le_of_ble_eq_true rfl) dX12_init_243 [(h0, .inr (11, [.int 0, .int 0, .ref q1, .int 0, .int 0, .int 0, .int 0, .long 0, .int 0, .int 0, .ref q2, .ref q3, .ref q4, .ref q5, .ref q6, .ref q7, .ref q8, .ref q9, .ref q10, .ref q11, .ref q12, .ref q13, .int 0, .int 0, .ref q14, .ref q15, .ref q16, .ref q17, .ref q18, .ref q19, .ref q20, .ref q21, .ref q22, .ref q23, .ref q24, .ref q25, .int 0, .long 0, .ref q26, .ref q27, .ref q28, .ref q29, .ref q30, .null, .null, .null, .null, .null, .null, .null, .null, .int 0, .int 0, .null, .long 0, .int 0, .int 0])), (q1, .inl (ct 0, 1000, .inl (fun _ => 0))), (q2, .inl (ct 0, 8, .inl (fun _ => 0))), (q3, .inl (ct 1, 12, .inr (.inl (fun _ => 0)))), (q4, .inl (ct 1, 12, .inr (.inl (fun _ => 0)))), (q5, .inl (ct 0, 12, .inl (fun _ => 0))), (q6, .inl (ct 0, 12, .inl (fun _ => 0))), (q7, .inl (ct 0, 12, .inl (fun _ => 0))), (q8, .inl (ct 0, 12, .inl (fun _ => 0))), (q9, .inl (ct 0, 12, .inl (fun _ => 0))), (q10, .inl (ct 0, 12, .inl (fun _ => 0))), (q11, .inl (ct 0, 2, .inl (fun _ => 0))), (q12, .inl (ct 0, 2, .inl (fun _ => 0))), (q13, .inl (ct 0, 2000, .inl (fun _ => 0))), (q14, .inl (ct 0, 7, .inl (fun _ => 0))), (q15, .inl (ct 3, 7, .inl (fun _ => 0))), (q16, .inl (ct 0, 7, .inl (fun _ => 0))), (q17, .inl (ct 0, 7, .inl (fun _ => 0))), (q18, .inl (ct 0, 7, .inl (fun _ => 0))), (q19, .inl (ct 0, 7, .inl (fun _ => 0))), (q20, .inl (ct 0, 7, .inl (fun _ => 0))), (q21, .inl (ct 0, 7, .inl (fun _ => 0))), (q22, .inl (ct 0, 7, .inl (fun _ => 0))), (q23, .inl (ct 0, 7, .inl (fun _ => 0))), (q24, .inl (ct 0, 7, .inl (fun _ => 0))), (q25, .inl (ct 0, 20, .inl (fun _ => 0))), (q26, .inl (ct 0, 6, .inl (fun _ => 0))), (q27, .inl (ct 0, 240, .inl (fun _ => 0))), (q28, .inl (ct 0, 240, .inl (fun _ => 0))), (q29, .inl (ct 0, 240, .inl (fun _ => 0))), (q30, .inl (ct 0, 5, .inl (fun _ => 0)))] rfl (fun H locs hw hS => ?_)
  refine lv_aload_n hx hb dX12_init_246 rfl (lv_at hl 0 rfl) ?_
  refine lv_bipush (v := 40) hx hb dX12_init_247 (by decide) ?_
  refine znewa (atype := .int) hx hb (hts (.arrayClass .int) (by decide +kernel)) 0 rfl hK hw hS hA 40 (40, .inl (fun _ => 0)) (fun _ => rfl) (by decide) (by decide) (by decide) (Nat.le_of_ble_eq_true rfl) (Nat.le_of_ble_eq_true rfl) dX12_init_249 (fun q31 H hw hS => ?_)
  have hw : zPD D A [(h0, .inr (11, [.int 0, .int 0, .ref q1, .int 0, .int 0, .int 0, .int 0, .long 0, .int 0, .int 0, .ref q2, .ref q3, .ref q4, .ref q5, .ref q6, .ref q7, .ref q8, .ref q9, .ref q10, .ref q11, .ref q12, .ref q13, .int 0, .int 0, .ref q14, .ref q15, .ref q16, .ref q17, .ref q18, .ref q19, .ref q20, .ref q21, .ref q22, .ref q23, .ref q24, .ref q25, .int 0, .long 0, .ref q26, .ref q27, .ref q28, .ref q29, .ref q30, .null, .null, .null, .null, .null, .null, .null, .null, .int 0, .int 0, .null, .long 0, .int 0, .int 0])), (q1, .inl (ct 0, 1000, .inl (fun _ => 0))), (q2, .inl (ct 0, 8, .inl (fun _ => 0))), (q3, .inl (ct 1, 12, .inr (.inl (fun _ => 0)))), (q4, .inl (ct 1, 12, .inr (.inl (fun _ => 0)))), (q5, .inl (ct 0, 12, .inl (fun _ => 0))), (q6, .inl (ct 0, 12, .inl (fun _ => 0))), (q7, .inl (ct 0, 12, .inl (fun _ => 0))), (q8, .inl (ct 0, 12, .inl (fun _ => 0))), (q9, .inl (ct 0, 12, .inl (fun _ => 0))), (q10, .inl (ct 0, 12, .inl (fun _ => 0))), (q11, .inl (ct 0, 2, .inl (fun _ => 0))), (q12, .inl (ct 0, 2, .inl (fun _ => 0))), (q13, .inl (ct 0, 2000, .inl (fun _ => 0))), (q14, .inl (ct 0, 7, .inl (fun _ => 0))), (q15, .inl (ct 3, 7, .inl (fun _ => 0))), (q16, .inl (ct 0, 7, .inl (fun _ => 0))), (q17, .inl (ct 0, 7, .inl (fun _ => 0))), (q18, .inl (ct 0, 7, .inl (fun _ => 0))), (q19, .inl (ct 0, 7, .inl (fun _ => 0))), (q20, .inl (ct 0, 7, .inl (fun _ => 0))), (q21, .inl (ct 0, 7, .inl (fun _ => 0))), (q22, .inl (ct 0, 7, .inl (fun _ => 0))), (q23, .inl (ct 0, 7, .inl (fun _ => 0))), (q24, .inl (ct 0, 7, .inl (fun _ => 0))), (q25, .inl (ct 0, 20, .inl (fun _ => 0))), (q26, .inl (ct 0, 6, .inl (fun _ => 0))), (q27, .inl (ct 0, 240, .inl (fun _ => 0))), (q28, .inl (ct 0, 240, .inl (fun _ => 0))), (q29, .inl (ct 0, 240, .inl (fun _ => 0))), (q30, .inl (ct 0, 5, .inl (fun _ => 0))), (q31, .inl (ct 0, 40, .inl (fun _ => 0)))] H := hw
  refine zputF (D := D) (ci := 11) (v := .ref q31) (ty := (.array .int)) hx hb hts hiX12 tyX12 tyX12_ok nmX12 hown hK hw hS 0 rfl rfl 43 (by decide) (hts (.fieldLink RX12 102 "BeardPassModel" "seenTown" "[I") (by decide +kernel)) (fun _ h9 => h9) rfl hname rfl (by decide +kernel) rfl rfl (Nat.le_of_ble_eq_true rfl) dX12_init_251 [(h0, .inr (11, [.int 0, .int 0, .ref q1, .int 0, .int 0, .int 0, .int 0, .long 0, .int 0, .int 0, .ref q2, .ref q3, .ref q4, .ref q5, .ref q6, .ref q7, .ref q8, .ref q9, .ref q10, .ref q11, .ref q12, .ref q13, .int 0, .int 0, .ref q14, .ref q15, .ref q16, .ref q17, .ref q18, .ref q19, .ref q20, .ref q21, .ref q22, .ref q23, .ref q24, .ref q25, .int 0, .long 0, .ref q26, .ref q27, .ref q28, .ref q29, .ref q30, .ref q31, .null, .null, .null, .null, .null, .null, .null, .int 0, .int 0, .null, .long 0, .int 0, .int 0])), (q1, .inl (ct 0, 1000, .inl (fun _ => 0))), (q2, .inl (ct 0, 8, .inl (fun _ => 0))), (q3, .inl (ct 1, 12, .inr (.inl (fun _ => 0)))), (q4, .inl (ct 1, 12, .inr (.inl (fun _ => 0)))), (q5, .inl (ct 0, 12, .inl (fun _ => 0))), (q6, .inl (ct 0, 12, .inl (fun _ => 0))), (q7, .inl (ct 0, 12, .inl (fun _ => 0))), (q8, .inl (ct 0, 12, .inl (fun _ => 0))), (q9, .inl (ct 0, 12, .inl (fun _ => 0))), (q10, .inl (ct 0, 12, .inl (fun _ => 0))), (q11, .inl (ct 0, 2, .inl (fun _ => 0))), (q12, .inl (ct 0, 2, .inl (fun _ => 0))), (q13, .inl (ct 0, 2000, .inl (fun _ => 0))), (q14, .inl (ct 0, 7, .inl (fun _ => 0))), (q15, .inl (ct 3, 7, .inl (fun _ => 0))), (q16, .inl (ct 0, 7, .inl (fun _ => 0))), (q17, .inl (ct 0, 7, .inl (fun _ => 0))), (q18, .inl (ct 0, 7, .inl (fun _ => 0))), (q19, .inl (ct 0, 7, .inl (fun _ => 0))), (q20, .inl (ct 0, 7, .inl (fun _ => 0))), (q21, .inl (ct 0, 7, .inl (fun _ => 0))), (q22, .inl (ct 0, 7, .inl (fun _ => 0))), (q23, .inl (ct 0, 7, .inl (fun _ => 0))), (q24, .inl (ct 0, 7, .inl (fun _ => 0))), (q25, .inl (ct 0, 20, .inl (fun _ => 0))), (q26, .inl (ct 0, 6, .inl (fun _ => 0))), (q27, .inl (ct 0, 240, .inl (fun _ => 0))), (q28, .inl (ct 0, 240, .inl (fun _ => 0))), (q29, .inl (ct 0, 240, .inl (fun _ => 0))), (q30, .inl (ct 0, 5, .inl (fun _ => 0))), (q31, .inl (ct 0, 40, .inl (fun _ => 0)))] rfl (fun H locs hw hS => ?_)
  refine lv_aload_n hx hb dX12_init_254 rfl (lv_at hl 0 rfl) ?_
  refine lv_bipush (v := 40) hx hb dX12_init_255 (by decide) ?_
  refine znewa (atype := .boolean) hx hb (hts (.arrayClass .boolean) (by decide +kernel)) 3 rfl hK hw hS hA 40 (40, .inl (fun _ => 0)) (fun _ => rfl) (by decide) (by decide) (by decide) (Nat.le_of_ble_eq_true rfl) (Nat.le_of_ble_eq_true rfl) dX12_init_257 (fun q32 H hw hS => ?_)
  have hw : zPD D A [(h0, .inr (11, [.int 0, .int 0, .ref q1, .int 0, .int 0, .int 0, .int 0, .long 0, .int 0, .int 0, .ref q2, .ref q3, .ref q4, .ref q5, .ref q6, .ref q7, .ref q8, .ref q9, .ref q10, .ref q11, .ref q12, .ref q13, .int 0, .int 0, .ref q14, .ref q15, .ref q16, .ref q17, .ref q18, .ref q19, .ref q20, .ref q21, .ref q22, .ref q23, .ref q24, .ref q25, .int 0, .long 0, .ref q26, .ref q27, .ref q28, .ref q29, .ref q30, .ref q31, .null, .null, .null, .null, .null, .null, .null, .int 0, .int 0, .null, .long 0, .int 0, .int 0])), (q1, .inl (ct 0, 1000, .inl (fun _ => 0))), (q2, .inl (ct 0, 8, .inl (fun _ => 0))), (q3, .inl (ct 1, 12, .inr (.inl (fun _ => 0)))), (q4, .inl (ct 1, 12, .inr (.inl (fun _ => 0)))), (q5, .inl (ct 0, 12, .inl (fun _ => 0))), (q6, .inl (ct 0, 12, .inl (fun _ => 0))), (q7, .inl (ct 0, 12, .inl (fun _ => 0))), (q8, .inl (ct 0, 12, .inl (fun _ => 0))), (q9, .inl (ct 0, 12, .inl (fun _ => 0))), (q10, .inl (ct 0, 12, .inl (fun _ => 0))), (q11, .inl (ct 0, 2, .inl (fun _ => 0))), (q12, .inl (ct 0, 2, .inl (fun _ => 0))), (q13, .inl (ct 0, 2000, .inl (fun _ => 0))), (q14, .inl (ct 0, 7, .inl (fun _ => 0))), (q15, .inl (ct 3, 7, .inl (fun _ => 0))), (q16, .inl (ct 0, 7, .inl (fun _ => 0))), (q17, .inl (ct 0, 7, .inl (fun _ => 0))), (q18, .inl (ct 0, 7, .inl (fun _ => 0))), (q19, .inl (ct 0, 7, .inl (fun _ => 0))), (q20, .inl (ct 0, 7, .inl (fun _ => 0))), (q21, .inl (ct 0, 7, .inl (fun _ => 0))), (q22, .inl (ct 0, 7, .inl (fun _ => 0))), (q23, .inl (ct 0, 7, .inl (fun _ => 0))), (q24, .inl (ct 0, 7, .inl (fun _ => 0))), (q25, .inl (ct 0, 20, .inl (fun _ => 0))), (q26, .inl (ct 0, 6, .inl (fun _ => 0))), (q27, .inl (ct 0, 240, .inl (fun _ => 0))), (q28, .inl (ct 0, 240, .inl (fun _ => 0))), (q29, .inl (ct 0, 240, .inl (fun _ => 0))), (q30, .inl (ct 0, 5, .inl (fun _ => 0))), (q31, .inl (ct 0, 40, .inl (fun _ => 0))), (q32, .inl (ct 3, 40, .inl (fun _ => 0)))] H := hw
  refine zputF (D := D) (ci := 11) (v := .ref q32) (ty := (.array .boolean)) hx hb hts hiX12 tyX12 tyX12_ok nmX12 hown hK hw hS 0 rfl rfl 44 (by decide) (hts (.fieldLink RX12 105 "BeardPassModel" "seenLet" "[Z") (by decide +kernel)) (fun _ h9 => h9) rfl hname rfl (by decide +kernel) rfl rfl (Nat.le_of_ble_eq_true rfl) dX12_init_259 [(h0, .inr (11, [.int 0, .int 0, .ref q1, .int 0, .int 0, .int 0, .int 0, .long 0, .int 0, .int 0, .ref q2, .ref q3, .ref q4, .ref q5, .ref q6, .ref q7, .ref q8, .ref q9, .ref q10, .ref q11, .ref q12, .ref q13, .int 0, .int 0, .ref q14, .ref q15, .ref q16, .ref q17, .ref q18, .ref q19, .ref q20, .ref q21, .ref q22, .ref q23, .ref q24, .ref q25, .int 0, .long 0, .ref q26, .ref q27, .ref q28, .ref q29, .ref q30, .ref q31, .ref q32, .null, .null, .null, .null, .null, .null, .int 0, .int 0, .null, .long 0, .int 0, .int 0])), (q1, .inl (ct 0, 1000, .inl (fun _ => 0))), (q2, .inl (ct 0, 8, .inl (fun _ => 0))), (q3, .inl (ct 1, 12, .inr (.inl (fun _ => 0)))), (q4, .inl (ct 1, 12, .inr (.inl (fun _ => 0)))), (q5, .inl (ct 0, 12, .inl (fun _ => 0))), (q6, .inl (ct 0, 12, .inl (fun _ => 0))), (q7, .inl (ct 0, 12, .inl (fun _ => 0))), (q8, .inl (ct 0, 12, .inl (fun _ => 0))), (q9, .inl (ct 0, 12, .inl (fun _ => 0))), (q10, .inl (ct 0, 12, .inl (fun _ => 0))), (q11, .inl (ct 0, 2, .inl (fun _ => 0))), (q12, .inl (ct 0, 2, .inl (fun _ => 0))), (q13, .inl (ct 0, 2000, .inl (fun _ => 0))), (q14, .inl (ct 0, 7, .inl (fun _ => 0))), (q15, .inl (ct 3, 7, .inl (fun _ => 0))), (q16, .inl (ct 0, 7, .inl (fun _ => 0))), (q17, .inl (ct 0, 7, .inl (fun _ => 0))), (q18, .inl (ct 0, 7, .inl (fun _ => 0))), (q19, .inl (ct 0, 7, .inl (fun _ => 0))), (q20, .inl (ct 0, 7, .inl (fun _ => 0))), (q21, .inl (ct 0, 7, .inl (fun _ => 0))), (q22, .inl (ct 0, 7, .inl (fun _ => 0))), (q23, .inl (ct 0, 7, .inl (fun _ => 0))), (q24, .inl (ct 0, 7, .inl (fun _ => 0))), (q25, .inl (ct 0, 20, .inl (fun _ => 0))), (q26, .inl (ct 0, 6, .inl (fun _ => 0))), (q27, .inl (ct 0, 240, .inl (fun _ => 0))), (q28, .inl (ct 0, 240, .inl (fun _ => 0))), (q29, .inl (ct 0, 240, .inl (fun _ => 0))), (q30, .inl (ct 0, 5, .inl (fun _ => 0))), (q31, .inl (ct 0, 40, .inl (fun _ => 0))), (q32, .inl (ct 3, 40, .inl (fun _ => 0)))] rfl (fun H locs hw hS => ?_)
  refine lv_aload_n hx hb dX12_init_262 rfl (lv_at hl 0 rfl) ?_
  refine lv_bipush (v := 31) hx hb dX12_init_263 (by decide) ?_
  refine znewa (atype := .int) hx hb (hts (.arrayClass .int) (by decide +kernel)) 0 rfl hK hw hS hA 31 (31, .inl (fun _ => 0)) (fun _ => rfl) (by decide) (by decide) (by decide) (Nat.le_of_ble_eq_true rfl) (Nat.le_of_ble_eq_true rfl) dX12_init_265 (fun q33 H hw hS => ?_)
  have hw : zPD D A [(h0, .inr (11, [.int 0, .int 0, .ref q1, .int 0, .int 0, .int 0, .int 0, .long 0, .int 0, .int 0, .ref q2, .ref q3, .ref q4, .ref q5, .ref q6, .ref q7, .ref q8, .ref q9, .ref q10, .ref q11, .ref q12, .ref q13, .int 0, .int 0, .ref q14, .ref q15, .ref q16, .ref q17, .ref q18, .ref q19, .ref q20, .ref q21, .ref q22, .ref q23, .ref q24, .ref q25, .int 0, .long 0, .ref q26, .ref q27, .ref q28, .ref q29, .ref q30, .ref q31, .ref q32, .null, .null, .null, .null, .null, .null, .int 0, .int 0, .null, .long 0, .int 0, .int 0])), (q1, .inl (ct 0, 1000, .inl (fun _ => 0))), (q2, .inl (ct 0, 8, .inl (fun _ => 0))), (q3, .inl (ct 1, 12, .inr (.inl (fun _ => 0)))), (q4, .inl (ct 1, 12, .inr (.inl (fun _ => 0)))), (q5, .inl (ct 0, 12, .inl (fun _ => 0))), (q6, .inl (ct 0, 12, .inl (fun _ => 0))), (q7, .inl (ct 0, 12, .inl (fun _ => 0))), (q8, .inl (ct 0, 12, .inl (fun _ => 0))), (q9, .inl (ct 0, 12, .inl (fun _ => 0))), (q10, .inl (ct 0, 12, .inl (fun _ => 0))), (q11, .inl (ct 0, 2, .inl (fun _ => 0))), (q12, .inl (ct 0, 2, .inl (fun _ => 0))), (q13, .inl (ct 0, 2000, .inl (fun _ => 0))), (q14, .inl (ct 0, 7, .inl (fun _ => 0))), (q15, .inl (ct 3, 7, .inl (fun _ => 0))), (q16, .inl (ct 0, 7, .inl (fun _ => 0))), (q17, .inl (ct 0, 7, .inl (fun _ => 0))), (q18, .inl (ct 0, 7, .inl (fun _ => 0))), (q19, .inl (ct 0, 7, .inl (fun _ => 0))), (q20, .inl (ct 0, 7, .inl (fun _ => 0))), (q21, .inl (ct 0, 7, .inl (fun _ => 0))), (q22, .inl (ct 0, 7, .inl (fun _ => 0))), (q23, .inl (ct 0, 7, .inl (fun _ => 0))), (q24, .inl (ct 0, 7, .inl (fun _ => 0))), (q25, .inl (ct 0, 20, .inl (fun _ => 0))), (q26, .inl (ct 0, 6, .inl (fun _ => 0))), (q27, .inl (ct 0, 240, .inl (fun _ => 0))), (q28, .inl (ct 0, 240, .inl (fun _ => 0))), (q29, .inl (ct 0, 240, .inl (fun _ => 0))), (q30, .inl (ct 0, 5, .inl (fun _ => 0))), (q31, .inl (ct 0, 40, .inl (fun _ => 0))), (q32, .inl (ct 3, 40, .inl (fun _ => 0))), (q33, .inl (ct 0, 31, .inl (fun _ => 0)))] H := hw
  refine zputF (D := D) (ci := 11) (v := .ref q33) (ty := (.array .int)) hx hb hts hiX12 tyX12 tyX12_ok nmX12 hown hK hw hS 0 rfl rfl 45 (by decide) (hts (.fieldLink RX12 108 "BeardPassModel" "s" "[I") (by decide +kernel)) (fun _ h9 => h9) rfl hname rfl (by decide +kernel) rfl rfl (Nat.le_of_ble_eq_true rfl) dX12_init_267 [(h0, .inr (11, [.int 0, .int 0, .ref q1, .int 0, .int 0, .int 0, .int 0, .long 0, .int 0, .int 0, .ref q2, .ref q3, .ref q4, .ref q5, .ref q6, .ref q7, .ref q8, .ref q9, .ref q10, .ref q11, .ref q12, .ref q13, .int 0, .int 0, .ref q14, .ref q15, .ref q16, .ref q17, .ref q18, .ref q19, .ref q20, .ref q21, .ref q22, .ref q23, .ref q24, .ref q25, .int 0, .long 0, .ref q26, .ref q27, .ref q28, .ref q29, .ref q30, .ref q31, .ref q32, .ref q33, .null, .null, .null, .null, .null, .int 0, .int 0, .null, .long 0, .int 0, .int 0])), (q1, .inl (ct 0, 1000, .inl (fun _ => 0))), (q2, .inl (ct 0, 8, .inl (fun _ => 0))), (q3, .inl (ct 1, 12, .inr (.inl (fun _ => 0)))), (q4, .inl (ct 1, 12, .inr (.inl (fun _ => 0)))), (q5, .inl (ct 0, 12, .inl (fun _ => 0))), (q6, .inl (ct 0, 12, .inl (fun _ => 0))), (q7, .inl (ct 0, 12, .inl (fun _ => 0))), (q8, .inl (ct 0, 12, .inl (fun _ => 0))), (q9, .inl (ct 0, 12, .inl (fun _ => 0))), (q10, .inl (ct 0, 12, .inl (fun _ => 0))), (q11, .inl (ct 0, 2, .inl (fun _ => 0))), (q12, .inl (ct 0, 2, .inl (fun _ => 0))), (q13, .inl (ct 0, 2000, .inl (fun _ => 0))), (q14, .inl (ct 0, 7, .inl (fun _ => 0))), (q15, .inl (ct 3, 7, .inl (fun _ => 0))), (q16, .inl (ct 0, 7, .inl (fun _ => 0))), (q17, .inl (ct 0, 7, .inl (fun _ => 0))), (q18, .inl (ct 0, 7, .inl (fun _ => 0))), (q19, .inl (ct 0, 7, .inl (fun _ => 0))), (q20, .inl (ct 0, 7, .inl (fun _ => 0))), (q21, .inl (ct 0, 7, .inl (fun _ => 0))), (q22, .inl (ct 0, 7, .inl (fun _ => 0))), (q23, .inl (ct 0, 7, .inl (fun _ => 0))), (q24, .inl (ct 0, 7, .inl (fun _ => 0))), (q25, .inl (ct 0, 20, .inl (fun _ => 0))), (q26, .inl (ct 0, 6, .inl (fun _ => 0))), (q27, .inl (ct 0, 240, .inl (fun _ => 0))), (q28, .inl (ct 0, 240, .inl (fun _ => 0))), (q29, .inl (ct 0, 240, .inl (fun _ => 0))), (q30, .inl (ct 0, 5, .inl (fun _ => 0))), (q31, .inl (ct 0, 40, .inl (fun _ => 0))), (q32, .inl (ct 3, 40, .inl (fun _ => 0))), (q33, .inl (ct 0, 31, .inl (fun _ => 0)))] rfl (fun H locs hw hS => ?_)
  refine lv_aload_n hx hb dX12_init_270 rfl (lv_at hl 0 rfl) ?_
  refine lv_bipush (v := 31) hx hb dX12_init_271 (by decide) ?_
  refine znewa (atype := .int) hx hb (hts (.arrayClass .int) (by decide +kernel)) 0 rfl hK hw hS hA 31 (31, .inl (fun _ => 0)) (fun _ => rfl) (by decide) (by decide) (by decide) (Nat.le_of_ble_eq_true rfl) (Nat.le_of_ble_eq_true rfl) dX12_init_273 (fun q34 H hw hS => ?_)
  have hw : zPD D A [(h0, .inr (11, [.int 0, .int 0, .ref q1, .int 0, .int 0, .int 0, .int 0, .long 0, .int 0, .int 0, .ref q2, .ref q3, .ref q4, .ref q5, .ref q6, .ref q7, .ref q8, .ref q9, .ref q10, .ref q11, .ref q12, .ref q13, .int 0, .int 0, .ref q14, .ref q15, .ref q16, .ref q17, .ref q18, .ref q19, .ref q20, .ref q21, .ref q22, .ref q23, .ref q24, .ref q25, .int 0, .long 0, .ref q26, .ref q27, .ref q28, .ref q29, .ref q30, .ref q31, .ref q32, .ref q33, .null, .null, .null, .null, .null, .int 0, .int 0, .null, .long 0, .int 0, .int 0])), (q1, .inl (ct 0, 1000, .inl (fun _ => 0))), (q2, .inl (ct 0, 8, .inl (fun _ => 0))), (q3, .inl (ct 1, 12, .inr (.inl (fun _ => 0)))), (q4, .inl (ct 1, 12, .inr (.inl (fun _ => 0)))), (q5, .inl (ct 0, 12, .inl (fun _ => 0))), (q6, .inl (ct 0, 12, .inl (fun _ => 0))), (q7, .inl (ct 0, 12, .inl (fun _ => 0))), (q8, .inl (ct 0, 12, .inl (fun _ => 0))), (q9, .inl (ct 0, 12, .inl (fun _ => 0))), (q10, .inl (ct 0, 12, .inl (fun _ => 0))), (q11, .inl (ct 0, 2, .inl (fun _ => 0))), (q12, .inl (ct 0, 2, .inl (fun _ => 0))), (q13, .inl (ct 0, 2000, .inl (fun _ => 0))), (q14, .inl (ct 0, 7, .inl (fun _ => 0))), (q15, .inl (ct 3, 7, .inl (fun _ => 0))), (q16, .inl (ct 0, 7, .inl (fun _ => 0))), (q17, .inl (ct 0, 7, .inl (fun _ => 0))), (q18, .inl (ct 0, 7, .inl (fun _ => 0))), (q19, .inl (ct 0, 7, .inl (fun _ => 0))), (q20, .inl (ct 0, 7, .inl (fun _ => 0))), (q21, .inl (ct 0, 7, .inl (fun _ => 0))), (q22, .inl (ct 0, 7, .inl (fun _ => 0))), (q23, .inl (ct 0, 7, .inl (fun _ => 0))), (q24, .inl (ct 0, 7, .inl (fun _ => 0))), (q25, .inl (ct 0, 20, .inl (fun _ => 0))), (q26, .inl (ct 0, 6, .inl (fun _ => 0))), (q27, .inl (ct 0, 240, .inl (fun _ => 0))), (q28, .inl (ct 0, 240, .inl (fun _ => 0))), (q29, .inl (ct 0, 240, .inl (fun _ => 0))), (q30, .inl (ct 0, 5, .inl (fun _ => 0))), (q31, .inl (ct 0, 40, .inl (fun _ => 0))), (q32, .inl (ct 3, 40, .inl (fun _ => 0))), (q33, .inl (ct 0, 31, .inl (fun _ => 0))), (q34, .inl (ct 0, 31, .inl (fun _ => 0)))] H := hw
  refine zputF (D := D) (ci := 11) (v := .ref q34) (ty := (.array .int)) hx hb hts hiX12 tyX12 tyX12_ok nmX12 hown hK hw hS 0 rfl rfl 46 (by decide) (hts (.fieldLink RX12 111 "BeardPassModel" "aside" "[I") (by decide +kernel)) (fun _ h9 => h9) rfl hname rfl (by decide +kernel) rfl rfl (Nat.le_of_ble_eq_true rfl) dX12_init_275 [(h0, .inr (11, [.int 0, .int 0, .ref q1, .int 0, .int 0, .int 0, .int 0, .long 0, .int 0, .int 0, .ref q2, .ref q3, .ref q4, .ref q5, .ref q6, .ref q7, .ref q8, .ref q9, .ref q10, .ref q11, .ref q12, .ref q13, .int 0, .int 0, .ref q14, .ref q15, .ref q16, .ref q17, .ref q18, .ref q19, .ref q20, .ref q21, .ref q22, .ref q23, .ref q24, .ref q25, .int 0, .long 0, .ref q26, .ref q27, .ref q28, .ref q29, .ref q30, .ref q31, .ref q32, .ref q33, .ref q34, .null, .null, .null, .null, .int 0, .int 0, .null, .long 0, .int 0, .int 0])), (q1, .inl (ct 0, 1000, .inl (fun _ => 0))), (q2, .inl (ct 0, 8, .inl (fun _ => 0))), (q3, .inl (ct 1, 12, .inr (.inl (fun _ => 0)))), (q4, .inl (ct 1, 12, .inr (.inl (fun _ => 0)))), (q5, .inl (ct 0, 12, .inl (fun _ => 0))), (q6, .inl (ct 0, 12, .inl (fun _ => 0))), (q7, .inl (ct 0, 12, .inl (fun _ => 0))), (q8, .inl (ct 0, 12, .inl (fun _ => 0))), (q9, .inl (ct 0, 12, .inl (fun _ => 0))), (q10, .inl (ct 0, 12, .inl (fun _ => 0))), (q11, .inl (ct 0, 2, .inl (fun _ => 0))), (q12, .inl (ct 0, 2, .inl (fun _ => 0))), (q13, .inl (ct 0, 2000, .inl (fun _ => 0))), (q14, .inl (ct 0, 7, .inl (fun _ => 0))), (q15, .inl (ct 3, 7, .inl (fun _ => 0))), (q16, .inl (ct 0, 7, .inl (fun _ => 0))), (q17, .inl (ct 0, 7, .inl (fun _ => 0))), (q18, .inl (ct 0, 7, .inl (fun _ => 0))), (q19, .inl (ct 0, 7, .inl (fun _ => 0))), (q20, .inl (ct 0, 7, .inl (fun _ => 0))), (q21, .inl (ct 0, 7, .inl (fun _ => 0))), (q22, .inl (ct 0, 7, .inl (fun _ => 0))), (q23, .inl (ct 0, 7, .inl (fun _ => 0))), (q24, .inl (ct 0, 7, .inl (fun _ => 0))), (q25, .inl (ct 0, 20, .inl (fun _ => 0))), (q26, .inl (ct 0, 6, .inl (fun _ => 0))), (q27, .inl (ct 0, 240, .inl (fun _ => 0))), (q28, .inl (ct 0, 240, .inl (fun _ => 0))), (q29, .inl (ct 0, 240, .inl (fun _ => 0))), (q30, .inl (ct 0, 5, .inl (fun _ => 0))), (q31, .inl (ct 0, 40, .inl (fun _ => 0))), (q32, .inl (ct 3, 40, .inl (fun _ => 0))), (q33, .inl (ct 0, 31, .inl (fun _ => 0))), (q34, .inl (ct 0, 31, .inl (fun _ => 0)))] rfl (fun H locs hw hS => ?_)
  refine lv_aload_n hx hb dX12_init_278 rfl (lv_at hl 0 rfl) ?_
  refine lv_bipush (v := 31) hx hb dX12_init_279 (by decide) ?_
  refine znewa (atype := .int) hx hb (hts (.arrayClass .int) (by decide +kernel)) 0 rfl hK hw hS hA 31 (31, .inl (fun _ => 0)) (fun _ => rfl) (by decide) (by decide) (by decide) (Nat.le_of_ble_eq_true rfl) (Nat.le_of_ble_eq_true rfl) dX12_init_281 (fun q35 H hw hS => ?_)
  have hw : zPD D A [(h0, .inr (11, [.int 0, .int 0, .ref q1, .int 0, .int 0, .int 0, .int 0, .long 0, .int 0, .int 0, .ref q2, .ref q3, .ref q4, .ref q5, .ref q6, .ref q7, .ref q8, .ref q9, .ref q10, .ref q11, .ref q12, .ref q13, .int 0, .int 0, .ref q14, .ref q15, .ref q16, .ref q17, .ref q18, .ref q19, .ref q20, .ref q21, .ref q22, .ref q23, .ref q24, .ref q25, .int 0, .long 0, .ref q26, .ref q27, .ref q28, .ref q29, .ref q30, .ref q31, .ref q32, .ref q33, .ref q34, .null, .null, .null, .null, .int 0, .int 0, .null, .long 0, .int 0, .int 0])), (q1, .inl (ct 0, 1000, .inl (fun _ => 0))), (q2, .inl (ct 0, 8, .inl (fun _ => 0))), (q3, .inl (ct 1, 12, .inr (.inl (fun _ => 0)))), (q4, .inl (ct 1, 12, .inr (.inl (fun _ => 0)))), (q5, .inl (ct 0, 12, .inl (fun _ => 0))), (q6, .inl (ct 0, 12, .inl (fun _ => 0))), (q7, .inl (ct 0, 12, .inl (fun _ => 0))), (q8, .inl (ct 0, 12, .inl (fun _ => 0))), (q9, .inl (ct 0, 12, .inl (fun _ => 0))), (q10, .inl (ct 0, 12, .inl (fun _ => 0))), (q11, .inl (ct 0, 2, .inl (fun _ => 0))), (q12, .inl (ct 0, 2, .inl (fun _ => 0))), (q13, .inl (ct 0, 2000, .inl (fun _ => 0))), (q14, .inl (ct 0, 7, .inl (fun _ => 0))), (q15, .inl (ct 3, 7, .inl (fun _ => 0))), (q16, .inl (ct 0, 7, .inl (fun _ => 0))), (q17, .inl (ct 0, 7, .inl (fun _ => 0))), (q18, .inl (ct 0, 7, .inl (fun _ => 0))), (q19, .inl (ct 0, 7, .inl (fun _ => 0))), (q20, .inl (ct 0, 7, .inl (fun _ => 0))), (q21, .inl (ct 0, 7, .inl (fun _ => 0))), (q22, .inl (ct 0, 7, .inl (fun _ => 0))), (q23, .inl (ct 0, 7, .inl (fun _ => 0))), (q24, .inl (ct 0, 7, .inl (fun _ => 0))), (q25, .inl (ct 0, 20, .inl (fun _ => 0))), (q26, .inl (ct 0, 6, .inl (fun _ => 0))), (q27, .inl (ct 0, 240, .inl (fun _ => 0))), (q28, .inl (ct 0, 240, .inl (fun _ => 0))), (q29, .inl (ct 0, 240, .inl (fun _ => 0))), (q30, .inl (ct 0, 5, .inl (fun _ => 0))), (q31, .inl (ct 0, 40, .inl (fun _ => 0))), (q32, .inl (ct 3, 40, .inl (fun _ => 0))), (q33, .inl (ct 0, 31, .inl (fun _ => 0))), (q34, .inl (ct 0, 31, .inl (fun _ => 0))), (q35, .inl (ct 0, 31, .inl (fun _ => 0)))] H := hw
  refine zputF (D := D) (ci := 11) (v := .ref q35) (ty := (.array .int)) hx hb hts hiX12 tyX12 tyX12_ok nmX12 hown hK hw hS 0 rfl rfl 47 (by decide) (hts (.fieldLink RX12 114 "BeardPassModel" "before" "[I") (by decide +kernel)) (fun _ h9 => h9) rfl hname rfl (by decide +kernel) rfl rfl (Nat.le_of_ble_eq_true rfl) dX12_init_283 [(h0, .inr (11, [.int 0, .int 0, .ref q1, .int 0, .int 0, .int 0, .int 0, .long 0, .int 0, .int 0, .ref q2, .ref q3, .ref q4, .ref q5, .ref q6, .ref q7, .ref q8, .ref q9, .ref q10, .ref q11, .ref q12, .ref q13, .int 0, .int 0, .ref q14, .ref q15, .ref q16, .ref q17, .ref q18, .ref q19, .ref q20, .ref q21, .ref q22, .ref q23, .ref q24, .ref q25, .int 0, .long 0, .ref q26, .ref q27, .ref q28, .ref q29, .ref q30, .ref q31, .ref q32, .ref q33, .ref q34, .ref q35, .null, .null, .null, .int 0, .int 0, .null, .long 0, .int 0, .int 0])), (q1, .inl (ct 0, 1000, .inl (fun _ => 0))), (q2, .inl (ct 0, 8, .inl (fun _ => 0))), (q3, .inl (ct 1, 12, .inr (.inl (fun _ => 0)))), (q4, .inl (ct 1, 12, .inr (.inl (fun _ => 0)))), (q5, .inl (ct 0, 12, .inl (fun _ => 0))), (q6, .inl (ct 0, 12, .inl (fun _ => 0))), (q7, .inl (ct 0, 12, .inl (fun _ => 0))), (q8, .inl (ct 0, 12, .inl (fun _ => 0))), (q9, .inl (ct 0, 12, .inl (fun _ => 0))), (q10, .inl (ct 0, 12, .inl (fun _ => 0))), (q11, .inl (ct 0, 2, .inl (fun _ => 0))), (q12, .inl (ct 0, 2, .inl (fun _ => 0))), (q13, .inl (ct 0, 2000, .inl (fun _ => 0))), (q14, .inl (ct 0, 7, .inl (fun _ => 0))), (q15, .inl (ct 3, 7, .inl (fun _ => 0))), (q16, .inl (ct 0, 7, .inl (fun _ => 0))), (q17, .inl (ct 0, 7, .inl (fun _ => 0))), (q18, .inl (ct 0, 7, .inl (fun _ => 0))), (q19, .inl (ct 0, 7, .inl (fun _ => 0))), (q20, .inl (ct 0, 7, .inl (fun _ => 0))), (q21, .inl (ct 0, 7, .inl (fun _ => 0))), (q22, .inl (ct 0, 7, .inl (fun _ => 0))), (q23, .inl (ct 0, 7, .inl (fun _ => 0))), (q24, .inl (ct 0, 7, .inl (fun _ => 0))), (q25, .inl (ct 0, 20, .inl (fun _ => 0))), (q26, .inl (ct 0, 6, .inl (fun _ => 0))), (q27, .inl (ct 0, 240, .inl (fun _ => 0))), (q28, .inl (ct 0, 240, .inl (fun _ => 0))), (q29, .inl (ct 0, 240, .inl (fun _ => 0))), (q30, .inl (ct 0, 5, .inl (fun _ => 0))), (q31, .inl (ct 0, 40, .inl (fun _ => 0))), (q32, .inl (ct 3, 40, .inl (fun _ => 0))), (q33, .inl (ct 0, 31, .inl (fun _ => 0))), (q34, .inl (ct 0, 31, .inl (fun _ => 0))), (q35, .inl (ct 0, 31, .inl (fun _ => 0)))] rfl (fun H locs hw hS => ?_)
  refine lv_aload_n hx hb dX12_init_286 rfl (lv_at hl 0 rfl) ?_
  refine lv_bipush (v := 124) hx hb dX12_init_287 (by decide) ?_
  refine znewa (atype := .int) hx hb (hts (.arrayClass .int) (by decide +kernel)) 0 rfl hK hw hS hA 124 (124, .inl (fun _ => 0)) (fun _ => rfl) (by decide) (by decide) (by decide) (Nat.le_of_ble_eq_true rfl) (Nat.le_of_ble_eq_true rfl) dX12_init_289 (fun q36 H hw hS => ?_)
  have hw : zPD D A [(h0, .inr (11, [.int 0, .int 0, .ref q1, .int 0, .int 0, .int 0, .int 0, .long 0, .int 0, .int 0, .ref q2, .ref q3, .ref q4, .ref q5, .ref q6, .ref q7, .ref q8, .ref q9, .ref q10, .ref q11, .ref q12, .ref q13, .int 0, .int 0, .ref q14, .ref q15, .ref q16, .ref q17, .ref q18, .ref q19, .ref q20, .ref q21, .ref q22, .ref q23, .ref q24, .ref q25, .int 0, .long 0, .ref q26, .ref q27, .ref q28, .ref q29, .ref q30, .ref q31, .ref q32, .ref q33, .ref q34, .ref q35, .null, .null, .null, .int 0, .int 0, .null, .long 0, .int 0, .int 0])), (q1, .inl (ct 0, 1000, .inl (fun _ => 0))), (q2, .inl (ct 0, 8, .inl (fun _ => 0))), (q3, .inl (ct 1, 12, .inr (.inl (fun _ => 0)))), (q4, .inl (ct 1, 12, .inr (.inl (fun _ => 0)))), (q5, .inl (ct 0, 12, .inl (fun _ => 0))), (q6, .inl (ct 0, 12, .inl (fun _ => 0))), (q7, .inl (ct 0, 12, .inl (fun _ => 0))), (q8, .inl (ct 0, 12, .inl (fun _ => 0))), (q9, .inl (ct 0, 12, .inl (fun _ => 0))), (q10, .inl (ct 0, 12, .inl (fun _ => 0))), (q11, .inl (ct 0, 2, .inl (fun _ => 0))), (q12, .inl (ct 0, 2, .inl (fun _ => 0))), (q13, .inl (ct 0, 2000, .inl (fun _ => 0))), (q14, .inl (ct 0, 7, .inl (fun _ => 0))), (q15, .inl (ct 3, 7, .inl (fun _ => 0))), (q16, .inl (ct 0, 7, .inl (fun _ => 0))), (q17, .inl (ct 0, 7, .inl (fun _ => 0))), (q18, .inl (ct 0, 7, .inl (fun _ => 0))), (q19, .inl (ct 0, 7, .inl (fun _ => 0))), (q20, .inl (ct 0, 7, .inl (fun _ => 0))), (q21, .inl (ct 0, 7, .inl (fun _ => 0))), (q22, .inl (ct 0, 7, .inl (fun _ => 0))), (q23, .inl (ct 0, 7, .inl (fun _ => 0))), (q24, .inl (ct 0, 7, .inl (fun _ => 0))), (q25, .inl (ct 0, 20, .inl (fun _ => 0))), (q26, .inl (ct 0, 6, .inl (fun _ => 0))), (q27, .inl (ct 0, 240, .inl (fun _ => 0))), (q28, .inl (ct 0, 240, .inl (fun _ => 0))), (q29, .inl (ct 0, 240, .inl (fun _ => 0))), (q30, .inl (ct 0, 5, .inl (fun _ => 0))), (q31, .inl (ct 0, 40, .inl (fun _ => 0))), (q32, .inl (ct 3, 40, .inl (fun _ => 0))), (q33, .inl (ct 0, 31, .inl (fun _ => 0))), (q34, .inl (ct 0, 31, .inl (fun _ => 0))), (q35, .inl (ct 0, 31, .inl (fun _ => 0))), (q36, .inl (ct 0, 124, .inl (fun _ => 0)))] H := hw
  refine zputF (D := D) (ci := 11) (v := .ref q36) (ty := (.array .int)) hx hb hts hiX12 tyX12 tyX12_ok nmX12 hown hK hw hS 0 rfl rfl 48 (by decide) (hts (.fieldLink RX12 117 "BeardPassModel" "marked" "[I") (by decide +kernel)) (fun _ h9 => h9) rfl hname rfl (by decide +kernel) rfl rfl (Nat.le_of_ble_eq_true rfl) dX12_init_291 [(h0, .inr (11, [.int 0, .int 0, .ref q1, .int 0, .int 0, .int 0, .int 0, .long 0, .int 0, .int 0, .ref q2, .ref q3, .ref q4, .ref q5, .ref q6, .ref q7, .ref q8, .ref q9, .ref q10, .ref q11, .ref q12, .ref q13, .int 0, .int 0, .ref q14, .ref q15, .ref q16, .ref q17, .ref q18, .ref q19, .ref q20, .ref q21, .ref q22, .ref q23, .ref q24, .ref q25, .int 0, .long 0, .ref q26, .ref q27, .ref q28, .ref q29, .ref q30, .ref q31, .ref q32, .ref q33, .ref q34, .ref q35, .ref q36, .null, .null, .int 0, .int 0, .null, .long 0, .int 0, .int 0])), (q1, .inl (ct 0, 1000, .inl (fun _ => 0))), (q2, .inl (ct 0, 8, .inl (fun _ => 0))), (q3, .inl (ct 1, 12, .inr (.inl (fun _ => 0)))), (q4, .inl (ct 1, 12, .inr (.inl (fun _ => 0)))), (q5, .inl (ct 0, 12, .inl (fun _ => 0))), (q6, .inl (ct 0, 12, .inl (fun _ => 0))), (q7, .inl (ct 0, 12, .inl (fun _ => 0))), (q8, .inl (ct 0, 12, .inl (fun _ => 0))), (q9, .inl (ct 0, 12, .inl (fun _ => 0))), (q10, .inl (ct 0, 12, .inl (fun _ => 0))), (q11, .inl (ct 0, 2, .inl (fun _ => 0))), (q12, .inl (ct 0, 2, .inl (fun _ => 0))), (q13, .inl (ct 0, 2000, .inl (fun _ => 0))), (q14, .inl (ct 0, 7, .inl (fun _ => 0))), (q15, .inl (ct 3, 7, .inl (fun _ => 0))), (q16, .inl (ct 0, 7, .inl (fun _ => 0))), (q17, .inl (ct 0, 7, .inl (fun _ => 0))), (q18, .inl (ct 0, 7, .inl (fun _ => 0))), (q19, .inl (ct 0, 7, .inl (fun _ => 0))), (q20, .inl (ct 0, 7, .inl (fun _ => 0))), (q21, .inl (ct 0, 7, .inl (fun _ => 0))), (q22, .inl (ct 0, 7, .inl (fun _ => 0))), (q23, .inl (ct 0, 7, .inl (fun _ => 0))), (q24, .inl (ct 0, 7, .inl (fun _ => 0))), (q25, .inl (ct 0, 20, .inl (fun _ => 0))), (q26, .inl (ct 0, 6, .inl (fun _ => 0))), (q27, .inl (ct 0, 240, .inl (fun _ => 0))), (q28, .inl (ct 0, 240, .inl (fun _ => 0))), (q29, .inl (ct 0, 240, .inl (fun _ => 0))), (q30, .inl (ct 0, 5, .inl (fun _ => 0))), (q31, .inl (ct 0, 40, .inl (fun _ => 0))), (q32, .inl (ct 3, 40, .inl (fun _ => 0))), (q33, .inl (ct 0, 31, .inl (fun _ => 0))), (q34, .inl (ct 0, 31, .inl (fun _ => 0))), (q35, .inl (ct 0, 31, .inl (fun _ => 0))), (q36, .inl (ct 0, 124, .inl (fun _ => 0)))] rfl (fun H locs hw hS => ?_)
  refine lv_aload_n hx hb dX12_init_294 rfl (lv_at hl 0 rfl) ?_
  refine lv_sipush (v := 496) hx hb dX12_init_295 (by decide) ?_
  refine znewa (atype := .int) hx hb (hts (.arrayClass .int) (by decide +kernel)) 0 rfl hK hw hS hA 496 (496, .inl (fun _ => 0)) (fun _ => rfl) (by decide) (by decide) (by decide) (Nat.le_of_ble_eq_true rfl) (Nat.le_of_ble_eq_true rfl) dX12_init_298 (fun q37 H hw hS => ?_)
  have hw : zPD D A [(h0, .inr (11, [.int 0, .int 0, .ref q1, .int 0, .int 0, .int 0, .int 0, .long 0, .int 0, .int 0, .ref q2, .ref q3, .ref q4, .ref q5, .ref q6, .ref q7, .ref q8, .ref q9, .ref q10, .ref q11, .ref q12, .ref q13, .int 0, .int 0, .ref q14, .ref q15, .ref q16, .ref q17, .ref q18, .ref q19, .ref q20, .ref q21, .ref q22, .ref q23, .ref q24, .ref q25, .int 0, .long 0, .ref q26, .ref q27, .ref q28, .ref q29, .ref q30, .ref q31, .ref q32, .ref q33, .ref q34, .ref q35, .ref q36, .null, .null, .int 0, .int 0, .null, .long 0, .int 0, .int 0])), (q1, .inl (ct 0, 1000, .inl (fun _ => 0))), (q2, .inl (ct 0, 8, .inl (fun _ => 0))), (q3, .inl (ct 1, 12, .inr (.inl (fun _ => 0)))), (q4, .inl (ct 1, 12, .inr (.inl (fun _ => 0)))), (q5, .inl (ct 0, 12, .inl (fun _ => 0))), (q6, .inl (ct 0, 12, .inl (fun _ => 0))), (q7, .inl (ct 0, 12, .inl (fun _ => 0))), (q8, .inl (ct 0, 12, .inl (fun _ => 0))), (q9, .inl (ct 0, 12, .inl (fun _ => 0))), (q10, .inl (ct 0, 12, .inl (fun _ => 0))), (q11, .inl (ct 0, 2, .inl (fun _ => 0))), (q12, .inl (ct 0, 2, .inl (fun _ => 0))), (q13, .inl (ct 0, 2000, .inl (fun _ => 0))), (q14, .inl (ct 0, 7, .inl (fun _ => 0))), (q15, .inl (ct 3, 7, .inl (fun _ => 0))), (q16, .inl (ct 0, 7, .inl (fun _ => 0))), (q17, .inl (ct 0, 7, .inl (fun _ => 0))), (q18, .inl (ct 0, 7, .inl (fun _ => 0))), (q19, .inl (ct 0, 7, .inl (fun _ => 0))), (q20, .inl (ct 0, 7, .inl (fun _ => 0))), (q21, .inl (ct 0, 7, .inl (fun _ => 0))), (q22, .inl (ct 0, 7, .inl (fun _ => 0))), (q23, .inl (ct 0, 7, .inl (fun _ => 0))), (q24, .inl (ct 0, 7, .inl (fun _ => 0))), (q25, .inl (ct 0, 20, .inl (fun _ => 0))), (q26, .inl (ct 0, 6, .inl (fun _ => 0))), (q27, .inl (ct 0, 240, .inl (fun _ => 0))), (q28, .inl (ct 0, 240, .inl (fun _ => 0))), (q29, .inl (ct 0, 240, .inl (fun _ => 0))), (q30, .inl (ct 0, 5, .inl (fun _ => 0))), (q31, .inl (ct 0, 40, .inl (fun _ => 0))), (q32, .inl (ct 3, 40, .inl (fun _ => 0))), (q33, .inl (ct 0, 31, .inl (fun _ => 0))), (q34, .inl (ct 0, 31, .inl (fun _ => 0))), (q35, .inl (ct 0, 31, .inl (fun _ => 0))), (q36, .inl (ct 0, 124, .inl (fun _ => 0))), (q37, .inl (ct 0, 496, .inl (fun _ => 0)))] H := hw
  refine zputF (D := D) (ci := 11) (v := .ref q37) (ty := (.array .int)) hx hb hts hiX12 tyX12 tyX12_ok nmX12 hown hK hw hS 0 rfl rfl 49 (by decide) (hts (.fieldLink RX12 120 "BeardPassModel" "undone" "[I") (by decide +kernel)) (fun _ h9 => h9) rfl hname rfl (by decide +kernel) rfl rfl (Nat.le_of_ble_eq_true rfl) dX12_init_300 [(h0, .inr (11, [.int 0, .int 0, .ref q1, .int 0, .int 0, .int 0, .int 0, .long 0, .int 0, .int 0, .ref q2, .ref q3, .ref q4, .ref q5, .ref q6, .ref q7, .ref q8, .ref q9, .ref q10, .ref q11, .ref q12, .ref q13, .int 0, .int 0, .ref q14, .ref q15, .ref q16, .ref q17, .ref q18, .ref q19, .ref q20, .ref q21, .ref q22, .ref q23, .ref q24, .ref q25, .int 0, .long 0, .ref q26, .ref q27, .ref q28, .ref q29, .ref q30, .ref q31, .ref q32, .ref q33, .ref q34, .ref q35, .ref q36, .ref q37, .null, .int 0, .int 0, .null, .long 0, .int 0, .int 0])), (q1, .inl (ct 0, 1000, .inl (fun _ => 0))), (q2, .inl (ct 0, 8, .inl (fun _ => 0))), (q3, .inl (ct 1, 12, .inr (.inl (fun _ => 0)))), (q4, .inl (ct 1, 12, .inr (.inl (fun _ => 0)))), (q5, .inl (ct 0, 12, .inl (fun _ => 0))), (q6, .inl (ct 0, 12, .inl (fun _ => 0))), (q7, .inl (ct 0, 12, .inl (fun _ => 0))), (q8, .inl (ct 0, 12, .inl (fun _ => 0))), (q9, .inl (ct 0, 12, .inl (fun _ => 0))), (q10, .inl (ct 0, 12, .inl (fun _ => 0))), (q11, .inl (ct 0, 2, .inl (fun _ => 0))), (q12, .inl (ct 0, 2, .inl (fun _ => 0))), (q13, .inl (ct 0, 2000, .inl (fun _ => 0))), (q14, .inl (ct 0, 7, .inl (fun _ => 0))), (q15, .inl (ct 3, 7, .inl (fun _ => 0))), (q16, .inl (ct 0, 7, .inl (fun _ => 0))), (q17, .inl (ct 0, 7, .inl (fun _ => 0))), (q18, .inl (ct 0, 7, .inl (fun _ => 0))), (q19, .inl (ct 0, 7, .inl (fun _ => 0))), (q20, .inl (ct 0, 7, .inl (fun _ => 0))), (q21, .inl (ct 0, 7, .inl (fun _ => 0))), (q22, .inl (ct 0, 7, .inl (fun _ => 0))), (q23, .inl (ct 0, 7, .inl (fun _ => 0))), (q24, .inl (ct 0, 7, .inl (fun _ => 0))), (q25, .inl (ct 0, 20, .inl (fun _ => 0))), (q26, .inl (ct 0, 6, .inl (fun _ => 0))), (q27, .inl (ct 0, 240, .inl (fun _ => 0))), (q28, .inl (ct 0, 240, .inl (fun _ => 0))), (q29, .inl (ct 0, 240, .inl (fun _ => 0))), (q30, .inl (ct 0, 5, .inl (fun _ => 0))), (q31, .inl (ct 0, 40, .inl (fun _ => 0))), (q32, .inl (ct 3, 40, .inl (fun _ => 0))), (q33, .inl (ct 0, 31, .inl (fun _ => 0))), (q34, .inl (ct 0, 31, .inl (fun _ => 0))), (q35, .inl (ct 0, 31, .inl (fun _ => 0))), (q36, .inl (ct 0, 124, .inl (fun _ => 0))), (q37, .inl (ct 0, 496, .inl (fun _ => 0)))] rfl (fun H locs hw hS => ?_)
  refine lv_aload_n hx hb dX12_init_303 rfl (lv_at hl 0 rfl) ?_
  refine lv_iconst (v := 4) hx hb dX12_init_304 (by decide) ?_
  refine znewa (atype := .boolean) hx hb (hts (.arrayClass .boolean) (by decide +kernel)) 3 rfl hK hw hS hA 4 (4, .inl (fun _ => 0)) (fun _ => rfl) (by decide) (by decide) (by decide) (Nat.le_of_ble_eq_true rfl) (Nat.le_of_ble_eq_true rfl) dX12_init_305 (fun q38 H hw hS => ?_)
  have hw : zPD D A [(h0, .inr (11, [.int 0, .int 0, .ref q1, .int 0, .int 0, .int 0, .int 0, .long 0, .int 0, .int 0, .ref q2, .ref q3, .ref q4, .ref q5, .ref q6, .ref q7, .ref q8, .ref q9, .ref q10, .ref q11, .ref q12, .ref q13, .int 0, .int 0, .ref q14, .ref q15, .ref q16, .ref q17, .ref q18, .ref q19, .ref q20, .ref q21, .ref q22, .ref q23, .ref q24, .ref q25, .int 0, .long 0, .ref q26, .ref q27, .ref q28, .ref q29, .ref q30, .ref q31, .ref q32, .ref q33, .ref q34, .ref q35, .ref q36, .ref q37, .null, .int 0, .int 0, .null, .long 0, .int 0, .int 0])), (q1, .inl (ct 0, 1000, .inl (fun _ => 0))), (q2, .inl (ct 0, 8, .inl (fun _ => 0))), (q3, .inl (ct 1, 12, .inr (.inl (fun _ => 0)))), (q4, .inl (ct 1, 12, .inr (.inl (fun _ => 0)))), (q5, .inl (ct 0, 12, .inl (fun _ => 0))), (q6, .inl (ct 0, 12, .inl (fun _ => 0))), (q7, .inl (ct 0, 12, .inl (fun _ => 0))), (q8, .inl (ct 0, 12, .inl (fun _ => 0))), (q9, .inl (ct 0, 12, .inl (fun _ => 0))), (q10, .inl (ct 0, 12, .inl (fun _ => 0))), (q11, .inl (ct 0, 2, .inl (fun _ => 0))), (q12, .inl (ct 0, 2, .inl (fun _ => 0))), (q13, .inl (ct 0, 2000, .inl (fun _ => 0))), (q14, .inl (ct 0, 7, .inl (fun _ => 0))), (q15, .inl (ct 3, 7, .inl (fun _ => 0))), (q16, .inl (ct 0, 7, .inl (fun _ => 0))), (q17, .inl (ct 0, 7, .inl (fun _ => 0))), (q18, .inl (ct 0, 7, .inl (fun _ => 0))), (q19, .inl (ct 0, 7, .inl (fun _ => 0))), (q20, .inl (ct 0, 7, .inl (fun _ => 0))), (q21, .inl (ct 0, 7, .inl (fun _ => 0))), (q22, .inl (ct 0, 7, .inl (fun _ => 0))), (q23, .inl (ct 0, 7, .inl (fun _ => 0))), (q24, .inl (ct 0, 7, .inl (fun _ => 0))), (q25, .inl (ct 0, 20, .inl (fun _ => 0))), (q26, .inl (ct 0, 6, .inl (fun _ => 0))), (q27, .inl (ct 0, 240, .inl (fun _ => 0))), (q28, .inl (ct 0, 240, .inl (fun _ => 0))), (q29, .inl (ct 0, 240, .inl (fun _ => 0))), (q30, .inl (ct 0, 5, .inl (fun _ => 0))), (q31, .inl (ct 0, 40, .inl (fun _ => 0))), (q32, .inl (ct 3, 40, .inl (fun _ => 0))), (q33, .inl (ct 0, 31, .inl (fun _ => 0))), (q34, .inl (ct 0, 31, .inl (fun _ => 0))), (q35, .inl (ct 0, 31, .inl (fun _ => 0))), (q36, .inl (ct 0, 124, .inl (fun _ => 0))), (q37, .inl (ct 0, 496, .inl (fun _ => 0))), (q38, .inl (ct 3, 4, .inl (fun _ => 0)))] H := hw
  refine zputF (D := D) (ci := 11) (v := .ref q38) (ty := (.array .boolean)) hx hb hts hiX12 tyX12 tyX12_ok nmX12 hown hK hw hS 0 rfl rfl 50 (by decide) (hts (.fieldLink RX12 123 "BeardPassModel" "isLaid" "[Z") (by decide +kernel)) (fun _ h9 => h9) rfl hname rfl (by decide +kernel) rfl rfl (Nat.le_of_ble_eq_true rfl) dX12_init_307 [(h0, .inr (11, [.int 0, .int 0, .ref q1, .int 0, .int 0, .int 0, .int 0, .long 0, .int 0, .int 0, .ref q2, .ref q3, .ref q4, .ref q5, .ref q6, .ref q7, .ref q8, .ref q9, .ref q10, .ref q11, .ref q12, .ref q13, .int 0, .int 0, .ref q14, .ref q15, .ref q16, .ref q17, .ref q18, .ref q19, .ref q20, .ref q21, .ref q22, .ref q23, .ref q24, .ref q25, .int 0, .long 0, .ref q26, .ref q27, .ref q28, .ref q29, .ref q30, .ref q31, .ref q32, .ref q33, .ref q34, .ref q35, .ref q36, .ref q37, .ref q38, .int 0, .int 0, .null, .long 0, .int 0, .int 0])), (q1, .inl (ct 0, 1000, .inl (fun _ => 0))), (q2, .inl (ct 0, 8, .inl (fun _ => 0))), (q3, .inl (ct 1, 12, .inr (.inl (fun _ => 0)))), (q4, .inl (ct 1, 12, .inr (.inl (fun _ => 0)))), (q5, .inl (ct 0, 12, .inl (fun _ => 0))), (q6, .inl (ct 0, 12, .inl (fun _ => 0))), (q7, .inl (ct 0, 12, .inl (fun _ => 0))), (q8, .inl (ct 0, 12, .inl (fun _ => 0))), (q9, .inl (ct 0, 12, .inl (fun _ => 0))), (q10, .inl (ct 0, 12, .inl (fun _ => 0))), (q11, .inl (ct 0, 2, .inl (fun _ => 0))), (q12, .inl (ct 0, 2, .inl (fun _ => 0))), (q13, .inl (ct 0, 2000, .inl (fun _ => 0))), (q14, .inl (ct 0, 7, .inl (fun _ => 0))), (q15, .inl (ct 3, 7, .inl (fun _ => 0))), (q16, .inl (ct 0, 7, .inl (fun _ => 0))), (q17, .inl (ct 0, 7, .inl (fun _ => 0))), (q18, .inl (ct 0, 7, .inl (fun _ => 0))), (q19, .inl (ct 0, 7, .inl (fun _ => 0))), (q20, .inl (ct 0, 7, .inl (fun _ => 0))), (q21, .inl (ct 0, 7, .inl (fun _ => 0))), (q22, .inl (ct 0, 7, .inl (fun _ => 0))), (q23, .inl (ct 0, 7, .inl (fun _ => 0))), (q24, .inl (ct 0, 7, .inl (fun _ => 0))), (q25, .inl (ct 0, 20, .inl (fun _ => 0))), (q26, .inl (ct 0, 6, .inl (fun _ => 0))), (q27, .inl (ct 0, 240, .inl (fun _ => 0))), (q28, .inl (ct 0, 240, .inl (fun _ => 0))), (q29, .inl (ct 0, 240, .inl (fun _ => 0))), (q30, .inl (ct 0, 5, .inl (fun _ => 0))), (q31, .inl (ct 0, 40, .inl (fun _ => 0))), (q32, .inl (ct 3, 40, .inl (fun _ => 0))), (q33, .inl (ct 0, 31, .inl (fun _ => 0))), (q34, .inl (ct 0, 31, .inl (fun _ => 0))), (q35, .inl (ct 0, 31, .inl (fun _ => 0))), (q36, .inl (ct 0, 124, .inl (fun _ => 0))), (q37, .inl (ct 0, 496, .inl (fun _ => 0))), (q38, .inl (ct 3, 4, .inl (fun _ => 0)))] rfl (fun H locs hw hS => ?_)
  refine lv_aload_n hx hb dX12_init_310 rfl (lv_at hl 0 rfl) ?_
  refine lv_sipush (v := 384) hx hb dX12_init_311 (by decide) ?_
  refine znewa (atype := .boolean) hx hb (hts (.arrayClass .boolean) (by decide +kernel)) 3 rfl hK hw hS hA 384 (384, .inl (fun _ => 0)) (fun _ => rfl) (by decide) (by decide) (by decide) (Nat.le_of_ble_eq_true rfl) (Nat.le_of_ble_eq_true rfl) dX12_init_314 (fun q39 H hw hS => ?_)
  have hw : zPD D A [(h0, .inr (11, [.int 0, .int 0, .ref q1, .int 0, .int 0, .int 0, .int 0, .long 0, .int 0, .int 0, .ref q2, .ref q3, .ref q4, .ref q5, .ref q6, .ref q7, .ref q8, .ref q9, .ref q10, .ref q11, .ref q12, .ref q13, .int 0, .int 0, .ref q14, .ref q15, .ref q16, .ref q17, .ref q18, .ref q19, .ref q20, .ref q21, .ref q22, .ref q23, .ref q24, .ref q25, .int 0, .long 0, .ref q26, .ref q27, .ref q28, .ref q29, .ref q30, .ref q31, .ref q32, .ref q33, .ref q34, .ref q35, .ref q36, .ref q37, .ref q38, .int 0, .int 0, .null, .long 0, .int 0, .int 0])), (q1, .inl (ct 0, 1000, .inl (fun _ => 0))), (q2, .inl (ct 0, 8, .inl (fun _ => 0))), (q3, .inl (ct 1, 12, .inr (.inl (fun _ => 0)))), (q4, .inl (ct 1, 12, .inr (.inl (fun _ => 0)))), (q5, .inl (ct 0, 12, .inl (fun _ => 0))), (q6, .inl (ct 0, 12, .inl (fun _ => 0))), (q7, .inl (ct 0, 12, .inl (fun _ => 0))), (q8, .inl (ct 0, 12, .inl (fun _ => 0))), (q9, .inl (ct 0, 12, .inl (fun _ => 0))), (q10, .inl (ct 0, 12, .inl (fun _ => 0))), (q11, .inl (ct 0, 2, .inl (fun _ => 0))), (q12, .inl (ct 0, 2, .inl (fun _ => 0))), (q13, .inl (ct 0, 2000, .inl (fun _ => 0))), (q14, .inl (ct 0, 7, .inl (fun _ => 0))), (q15, .inl (ct 3, 7, .inl (fun _ => 0))), (q16, .inl (ct 0, 7, .inl (fun _ => 0))), (q17, .inl (ct 0, 7, .inl (fun _ => 0))), (q18, .inl (ct 0, 7, .inl (fun _ => 0))), (q19, .inl (ct 0, 7, .inl (fun _ => 0))), (q20, .inl (ct 0, 7, .inl (fun _ => 0))), (q21, .inl (ct 0, 7, .inl (fun _ => 0))), (q22, .inl (ct 0, 7, .inl (fun _ => 0))), (q23, .inl (ct 0, 7, .inl (fun _ => 0))), (q24, .inl (ct 0, 7, .inl (fun _ => 0))), (q25, .inl (ct 0, 20, .inl (fun _ => 0))), (q26, .inl (ct 0, 6, .inl (fun _ => 0))), (q27, .inl (ct 0, 240, .inl (fun _ => 0))), (q28, .inl (ct 0, 240, .inl (fun _ => 0))), (q29, .inl (ct 0, 240, .inl (fun _ => 0))), (q30, .inl (ct 0, 5, .inl (fun _ => 0))), (q31, .inl (ct 0, 40, .inl (fun _ => 0))), (q32, .inl (ct 3, 40, .inl (fun _ => 0))), (q33, .inl (ct 0, 31, .inl (fun _ => 0))), (q34, .inl (ct 0, 31, .inl (fun _ => 0))), (q35, .inl (ct 0, 31, .inl (fun _ => 0))), (q36, .inl (ct 0, 124, .inl (fun _ => 0))), (q37, .inl (ct 0, 496, .inl (fun _ => 0))), (q38, .inl (ct 3, 4, .inl (fun _ => 0))), (q39, .inl (ct 3, 384, .inl (fun _ => 0)))] H := hw
  refine zputF (D := D) (ci := 11) (v := .ref q39) (ty := (.array .boolean)) hx hb hts hiX12 tyX12 tyX12_ok nmX12 hown hK hw hS 0 rfl rfl 53 (by decide) (hts (.fieldLink RX12 126 "BeardPassModel" "stands" "[Z") (by decide +kernel)) (fun _ h9 => h9) rfl hname rfl (by decide +kernel) rfl rfl (Nat.le_of_ble_eq_true rfl) dX12_init_316 [(h0, .inr (11, [.int 0, .int 0, .ref q1, .int 0, .int 0, .int 0, .int 0, .long 0, .int 0, .int 0, .ref q2, .ref q3, .ref q4, .ref q5, .ref q6, .ref q7, .ref q8, .ref q9, .ref q10, .ref q11, .ref q12, .ref q13, .int 0, .int 0, .ref q14, .ref q15, .ref q16, .ref q17, .ref q18, .ref q19, .ref q20, .ref q21, .ref q22, .ref q23, .ref q24, .ref q25, .int 0, .long 0, .ref q26, .ref q27, .ref q28, .ref q29, .ref q30, .ref q31, .ref q32, .ref q33, .ref q34, .ref q35, .ref q36, .ref q37, .ref q38, .int 0, .int 0, .ref q39, .long 0, .int 0, .int 0])), (q1, .inl (ct 0, 1000, .inl (fun _ => 0))), (q2, .inl (ct 0, 8, .inl (fun _ => 0))), (q3, .inl (ct 1, 12, .inr (.inl (fun _ => 0)))), (q4, .inl (ct 1, 12, .inr (.inl (fun _ => 0)))), (q5, .inl (ct 0, 12, .inl (fun _ => 0))), (q6, .inl (ct 0, 12, .inl (fun _ => 0))), (q7, .inl (ct 0, 12, .inl (fun _ => 0))), (q8, .inl (ct 0, 12, .inl (fun _ => 0))), (q9, .inl (ct 0, 12, .inl (fun _ => 0))), (q10, .inl (ct 0, 12, .inl (fun _ => 0))), (q11, .inl (ct 0, 2, .inl (fun _ => 0))), (q12, .inl (ct 0, 2, .inl (fun _ => 0))), (q13, .inl (ct 0, 2000, .inl (fun _ => 0))), (q14, .inl (ct 0, 7, .inl (fun _ => 0))), (q15, .inl (ct 3, 7, .inl (fun _ => 0))), (q16, .inl (ct 0, 7, .inl (fun _ => 0))), (q17, .inl (ct 0, 7, .inl (fun _ => 0))), (q18, .inl (ct 0, 7, .inl (fun _ => 0))), (q19, .inl (ct 0, 7, .inl (fun _ => 0))), (q20, .inl (ct 0, 7, .inl (fun _ => 0))), (q21, .inl (ct 0, 7, .inl (fun _ => 0))), (q22, .inl (ct 0, 7, .inl (fun _ => 0))), (q23, .inl (ct 0, 7, .inl (fun _ => 0))), (q24, .inl (ct 0, 7, .inl (fun _ => 0))), (q25, .inl (ct 0, 20, .inl (fun _ => 0))), (q26, .inl (ct 0, 6, .inl (fun _ => 0))), (q27, .inl (ct 0, 240, .inl (fun _ => 0))), (q28, .inl (ct 0, 240, .inl (fun _ => 0))), (q29, .inl (ct 0, 240, .inl (fun _ => 0))), (q30, .inl (ct 0, 5, .inl (fun _ => 0))), (q31, .inl (ct 0, 40, .inl (fun _ => 0))), (q32, .inl (ct 3, 40, .inl (fun _ => 0))), (q33, .inl (ct 0, 31, .inl (fun _ => 0))), (q34, .inl (ct 0, 31, .inl (fun _ => 0))), (q35, .inl (ct 0, 31, .inl (fun _ => 0))), (q36, .inl (ct 0, 124, .inl (fun _ => 0))), (q37, .inl (ct 0, 496, .inl (fun _ => 0))), (q38, .inl (ct 3, 4, .inl (fun _ => 0))), (q39, .inl (ct 3, 384, .inl (fun _ => 0)))] rfl (fun H locs hw hS => ?_)
  refine lv_aload_n hx hb dX12_init_319 rfl (lv_at hl 0 rfl) ?_
  refine va_get (D := D) (ci := 11) (v := .ref q2) hx hb hts hiX12 hown hK hw.1 0 rfl rfl 10 (by decide) (hts (.fieldLink RX12 13 "BeardPassModel" "land" "[I") (by decide +kernel)) (fun _ h9 => h9) rfl dX12_init_320 ?_
  refine lv_iconst (v := 2) hx hb dX12_init_323 (by decide) ?_
  refine lv_iconst (v := 1) hx hb dX12_init_324 (by decide) ?_
  refine ziast hx hb hK hw hS 2 rfl 2 (by decide) (by decide) (by decide) dX12_init_325 [(h0, .inr (11, [.int 0, .int 0, .ref q1, .int 0, .int 0, .int 0, .int 0, .long 0, .int 0, .int 0, .ref q2, .ref q3, .ref q4, .ref q5, .ref q6, .ref q7, .ref q8, .ref q9, .ref q10, .ref q11, .ref q12, .ref q13, .int 0, .int 0, .ref q14, .ref q15, .ref q16, .ref q17, .ref q18, .ref q19, .ref q20, .ref q21, .ref q22, .ref q23, .ref q24, .ref q25, .int 0, .long 0, .ref q26, .ref q27, .ref q28, .ref q29, .ref q30, .ref q31, .ref q32, .ref q33, .ref q34, .ref q35, .ref q36, .ref q37, .ref q38, .int 0, .int 0, .ref q39, .long 0, .int 0, .int 0])), (q1, .inl (ct 0, 1000, .inl (fun _ => 0))), (q2, .inl (ct 0, 8, .inl (upd (fun _ => 0) 2 1))), (q3, .inl (ct 1, 12, .inr (.inl (fun _ => 0)))), (q4, .inl (ct 1, 12, .inr (.inl (fun _ => 0)))), (q5, .inl (ct 0, 12, .inl (fun _ => 0))), (q6, .inl (ct 0, 12, .inl (fun _ => 0))), (q7, .inl (ct 0, 12, .inl (fun _ => 0))), (q8, .inl (ct 0, 12, .inl (fun _ => 0))), (q9, .inl (ct 0, 12, .inl (fun _ => 0))), (q10, .inl (ct 0, 12, .inl (fun _ => 0))), (q11, .inl (ct 0, 2, .inl (fun _ => 0))), (q12, .inl (ct 0, 2, .inl (fun _ => 0))), (q13, .inl (ct 0, 2000, .inl (fun _ => 0))), (q14, .inl (ct 0, 7, .inl (fun _ => 0))), (q15, .inl (ct 3, 7, .inl (fun _ => 0))), (q16, .inl (ct 0, 7, .inl (fun _ => 0))), (q17, .inl (ct 0, 7, .inl (fun _ => 0))), (q18, .inl (ct 0, 7, .inl (fun _ => 0))), (q19, .inl (ct 0, 7, .inl (fun _ => 0))), (q20, .inl (ct 0, 7, .inl (fun _ => 0))), (q21, .inl (ct 0, 7, .inl (fun _ => 0))), (q22, .inl (ct 0, 7, .inl (fun _ => 0))), (q23, .inl (ct 0, 7, .inl (fun _ => 0))), (q24, .inl (ct 0, 7, .inl (fun _ => 0))), (q25, .inl (ct 0, 20, .inl (fun _ => 0))), (q26, .inl (ct 0, 6, .inl (fun _ => 0))), (q27, .inl (ct 0, 240, .inl (fun _ => 0))), (q28, .inl (ct 0, 240, .inl (fun _ => 0))), (q29, .inl (ct 0, 240, .inl (fun _ => 0))), (q30, .inl (ct 0, 5, .inl (fun _ => 0))), (q31, .inl (ct 0, 40, .inl (fun _ => 0))), (q32, .inl (ct 3, 40, .inl (fun _ => 0))), (q33, .inl (ct 0, 31, .inl (fun _ => 0))), (q34, .inl (ct 0, 31, .inl (fun _ => 0))), (q35, .inl (ct 0, 31, .inl (fun _ => 0))), (q36, .inl (ct 0, 124, .inl (fun _ => 0))), (q37, .inl (ct 0, 496, .inl (fun _ => 0))), (q38, .inl (ct 3, 4, .inl (fun _ => 0))), (q39, .inl (ct 3, 384, .inl (fun _ => 0)))] rfl (fun H locs hw hS => ?_)
  refine lv_aload_n hx hb dX12_init_326 rfl (lv_at hl 0 rfl) ?_
  refine va_get (D := D) (ci := 11) (v := .ref q2) hx hb hts hiX12 hown hK hw.1 0 rfl rfl 10 (by decide) (hts (.fieldLink RX12 13 "BeardPassModel" "land" "[I") (by decide +kernel)) (fun _ h9 => h9) rfl dX12_init_327 ?_
  refine lv_iconst (v := 3) hx hb dX12_init_330 (by decide) ?_
  refine lv_iconst (v := 2) hx hb dX12_init_331 (by decide) ?_
  refine ziast hx hb hK hw hS 2 rfl 3 (by decide) (by decide) (by decide) dX12_init_332 [(h0, .inr (11, [.int 0, .int 0, .ref q1, .int 0, .int 0, .int 0, .int 0, .long 0, .int 0, .int 0, .ref q2, .ref q3, .ref q4, .ref q5, .ref q6, .ref q7, .ref q8, .ref q9, .ref q10, .ref q11, .ref q12, .ref q13, .int 0, .int 0, .ref q14, .ref q15, .ref q16, .ref q17, .ref q18, .ref q19, .ref q20, .ref q21, .ref q22, .ref q23, .ref q24, .ref q25, .int 0, .long 0, .ref q26, .ref q27, .ref q28, .ref q29, .ref q30, .ref q31, .ref q32, .ref q33, .ref q34, .ref q35, .ref q36, .ref q37, .ref q38, .int 0, .int 0, .ref q39, .long 0, .int 0, .int 0])), (q1, .inl (ct 0, 1000, .inl (fun _ => 0))), (q2, .inl (ct 0, 8, .inl (upd (upd (fun _ => 0) 2 1) 3 2))), (q3, .inl (ct 1, 12, .inr (.inl (fun _ => 0)))), (q4, .inl (ct 1, 12, .inr (.inl (fun _ => 0)))), (q5, .inl (ct 0, 12, .inl (fun _ => 0))), (q6, .inl (ct 0, 12, .inl (fun _ => 0))), (q7, .inl (ct 0, 12, .inl (fun _ => 0))), (q8, .inl (ct 0, 12, .inl (fun _ => 0))), (q9, .inl (ct 0, 12, .inl (fun _ => 0))), (q10, .inl (ct 0, 12, .inl (fun _ => 0))), (q11, .inl (ct 0, 2, .inl (fun _ => 0))), (q12, .inl (ct 0, 2, .inl (fun _ => 0))), (q13, .inl (ct 0, 2000, .inl (fun _ => 0))), (q14, .inl (ct 0, 7, .inl (fun _ => 0))), (q15, .inl (ct 3, 7, .inl (fun _ => 0))), (q16, .inl (ct 0, 7, .inl (fun _ => 0))), (q17, .inl (ct 0, 7, .inl (fun _ => 0))), (q18, .inl (ct 0, 7, .inl (fun _ => 0))), (q19, .inl (ct 0, 7, .inl (fun _ => 0))), (q20, .inl (ct 0, 7, .inl (fun _ => 0))), (q21, .inl (ct 0, 7, .inl (fun _ => 0))), (q22, .inl (ct 0, 7, .inl (fun _ => 0))), (q23, .inl (ct 0, 7, .inl (fun _ => 0))), (q24, .inl (ct 0, 7, .inl (fun _ => 0))), (q25, .inl (ct 0, 20, .inl (fun _ => 0))), (q26, .inl (ct 0, 6, .inl (fun _ => 0))), (q27, .inl (ct 0, 240, .inl (fun _ => 0))), (q28, .inl (ct 0, 240, .inl (fun _ => 0))), (q29, .inl (ct 0, 240, .inl (fun _ => 0))), (q30, .inl (ct 0, 5, .inl (fun _ => 0))), (q31, .inl (ct 0, 40, .inl (fun _ => 0))), (q32, .inl (ct 3, 40, .inl (fun _ => 0))), (q33, .inl (ct 0, 31, .inl (fun _ => 0))), (q34, .inl (ct 0, 31, .inl (fun _ => 0))), (q35, .inl (ct 0, 31, .inl (fun _ => 0))), (q36, .inl (ct 0, 124, .inl (fun _ => 0))), (q37, .inl (ct 0, 496, .inl (fun _ => 0))), (q38, .inl (ct 3, 4, .inl (fun _ => 0))), (q39, .inl (ct 3, 384, .inl (fun _ => 0)))] rfl (fun H locs hw hS => ?_)
  exact zvret hx hb hr hlocks (fun j => ([q1, q2, q3, q4, q5, q6, q7, q8, q9, q10, q11, q12, q13, q14, q15, q16, q17, q18, q19, q20, q21, q22, q23, q24, q25, q26, q27, q28, q29, q30, q31, q32, q33, q34, q35, q36, q37, q38, q39] : List Nat).getD j 0) rfl (trivial) hw [0, 1, 2, 3, 4, 5, 6, 7, 8, 9, 10, 11, 12, 13, 14, 15, 16, 17, 18, 19, 20, 21, 22, 23, 24, 25, 26, 27, 28, 29, 30, 31, 32, 33, 34, 35, 36, 37, 38, 39] rfl (rfl) hS (Nat.le_of_ble_eq_true rfl) (Nat.le_of_ble_eq_true rfl) dX12_init_333
/-! ===== decode rows by chunks ===== -/
theorem zdr : ∀ (l : List UInt8) (p : Nat) {b : UInt8} {r : List UInt8}, l.drop p = b :: r → l.drop (p + 1) = r
  | [], 0, _, _, h => nomatch h
  | [], _ + 1, _, _, h => nomatch h
  | _ :: _, 0, _, _, h => (List.cons.inj h).2
  | _ :: l, p + 1, _, _, h => zdr l p h
theorem zgt : ∀ (l : List UInt8) (p : Nat) {b : UInt8} {r : List UInt8}, l.drop p = b :: r → l[p]? = some b
  | [], 0, _, _, h => nomatch h
  | [], _ + 1, _, _, h => nomatch h
  | _ :: _, 0, _, _, h => congrArg some (List.cons.inj h).1
  | _ :: l, p + 1, _, _, h => zgt l p h
theorem zu1 {c : ByteArray} {p : Nat} {b : UInt8} {r : List UInt8} (h : c.data.toList.drop p = b :: r) : Reader.runAt (Reader.u1 : Decoder Nat) c p = .ok (b.toNat, p + 1) := by
  obtain ⟨hp, hb⟩ := List.getElem?_eq_some_iff.mp (zgt _ _ h)
  have hp2 : p < c.size := hp
  have hb2 : c[p]'hp2 = b := hb
  show (dite (p < c.size) (fun h => ((do set (p + 1); pure (c[p]'h).toNat) : Reader DecodeError Nat)) (fun _ => throw (HasTruncated.truncated p))) c p = _
  rw [dif_pos hp2]
  show Except.ok ((c[p]'hp2).toNat, p + 1) = _
  rw [hb2]
theorem zrb {α β : Type} {x : Decoder α} {f : α → Decoder β} {c : ByteArray} {p q : Nat} {a : α} (h : Reader.runAt x c p = .ok (a, q)) : Reader.runAt (x >>= f) c p = Reader.runAt (f a) c q := by
  show (Reader.runAt x c p >>= fun w => Reader.runAt (f w.1) c w.2) = _
  rw [h]
  rfl
theorem zrm {α β : Type} {x : Decoder α} {f : α → β} {c : ByteArray} {p q : Nat} {a : α} (h : Reader.runAt x c p = .ok (a, q)) : Reader.runAt (f <$> x) c p = .ok (f a, q) := by
  show (Reader.runAt x c p >>= fun w => pure (f w.1, w.2)) = _
  rw [h]
  rfl
theorem zu2 {c : ByteArray} {p : Nat} {x y : UInt8} {r : List UInt8} (h : c.data.toList.drop p = x :: y :: r) : Reader.runAt (Reader.u2 : Decoder Nat) c p = .ok (x.toNat * 256 + y.toNat, p + 2) := by
  show Reader.runAt (Reader.u1 >>= fun hi => (Reader.u1 >>= fun lo => pure (hi * 256 + lo) : Decoder Nat)) c p = _
  rw [zrb (zu1 h), zrb (zu1 (zdr _ _ h))]
  rfl
theorem zs1 {c : ByteArray} {p : Nat} {x : UInt8} {r : List UInt8} (h : c.data.toList.drop p = x :: r) : Reader.runAt (Reader.s1 : Decoder Int) c p = .ok (Reader.signed 8 x.toNat, p + 1) := zrm (zu1 h)
theorem zs2 {c : ByteArray} {p : Nat} {x y : UInt8} {r : List UInt8} (h : c.data.toList.drop p = x :: y :: r) : Reader.runAt (Reader.s2 : Decoder Int) c p = .ok (Reader.signed 16 (x.toNat * 256 + y.toNat), p + 2) := zrm (zu2 h)
theorem zdk {c : ByteArray} {p k : Nat} {i : Instr} (h : Reader.runAt (Decoder.instr p) c p = .ok (i, p + k)) : decode c p = .ok (i, k) := by
  unfold decode
  rw [h]
  show Except.ok (i, p + k - p) = _
  rw [Nat.add_sub_cancel_left]
theorem zo2 {c : ByteArray} {p : Nat} {b : UInt8} {r : List UInt8} (h : c.data.toList.drop p = b :: r) (hb : b.toNat = 2) : Reader.runAt (Decoder.instr p) c p = .ok (.iconst (-1), p + 1) := by
  refine (zrb (x := Reader.u1) (zu1 h)).trans ?_
  rw [hb]
  rfl
theorem zo3 {c : ByteArray} {p : Nat} {b : UInt8} {r : List UInt8} (h : c.data.toList.drop p = b :: r) (hb : b.toNat = 3) : Reader.runAt (Decoder.instr p) c p = .ok (.iconst 0, p + 1) := by
  refine (zrb (x := Reader.u1) (zu1 h)).trans ?_
  rw [hb]
  rfl
theorem zo4 {c : ByteArray} {p : Nat} {b : UInt8} {r : List UInt8} (h : c.data.toList.drop p = b :: r) (hb : b.toNat = 4) : Reader.runAt (Decoder.instr p) c p = .ok (.iconst 1, p + 1) := by
  refine (zrb (x := Reader.u1) (zu1 h)).trans ?_
  rw [hb]
  rfl
theorem zo5 {c : ByteArray} {p : Nat} {b : UInt8} {r : List UInt8} (h : c.data.toList.drop p = b :: r) (hb : b.toNat = 5) : Reader.runAt (Decoder.instr p) c p = .ok (.iconst 2, p + 1) := by
  refine (zrb (x := Reader.u1) (zu1 h)).trans ?_
  rw [hb]
  rfl
theorem zo6 {c : ByteArray} {p : Nat} {b : UInt8} {r : List UInt8} (h : c.data.toList.drop p = b :: r) (hb : b.toNat = 6) : Reader.runAt (Decoder.instr p) c p = .ok (.iconst 3, p + 1) := by
  refine (zrb (x := Reader.u1) (zu1 h)).trans ?_
  rw [hb]
  rfl
theorem zo7 {c : ByteArray} {p : Nat} {b : UInt8} {r : List UInt8} (h : c.data.toList.drop p = b :: r) (hb : b.toNat = 7) : Reader.runAt (Decoder.instr p) c p = .ok (.iconst 4, p + 1) := by
  refine (zrb (x := Reader.u1) (zu1 h)).trans ?_
  rw [hb]
  rfl
theorem zo8 {c : ByteArray} {p : Nat} {b : UInt8} {r : List UInt8} (h : c.data.toList.drop p = b :: r) (hb : b.toNat = 8) : Reader.runAt (Decoder.instr p) c p = .ok (.iconst 5, p + 1) := by
  refine (zrb (x := Reader.u1) (zu1 h)).trans ?_
  rw [hb]
  rfl
theorem zo9 {c : ByteArray} {p : Nat} {b : UInt8} {r : List UInt8} (h : c.data.toList.drop p = b :: r) (hb : b.toNat = 9) : Reader.runAt (Decoder.instr p) c p = .ok (.lconst 0, p + 1) := by
  refine (zrb (x := Reader.u1) (zu1 h)).trans ?_
  rw [hb]
  rfl
theorem zo10 {c : ByteArray} {p : Nat} {b : UInt8} {r : List UInt8} (h : c.data.toList.drop p = b :: r) (hb : b.toNat = 10) : Reader.runAt (Decoder.instr p) c p = .ok (.lconst 1, p + 1) := by
  refine (zrb (x := Reader.u1) (zu1 h)).trans ?_
  rw [hb]
  rfl
theorem zo26 {c : ByteArray} {p : Nat} {b : UInt8} {r : List UInt8} (h : c.data.toList.drop p = b :: r) (hb : b.toNat = 26) : Reader.runAt (Decoder.instr p) c p = .ok (.iload_n 0, p + 1) := by
  refine (zrb (x := Reader.u1) (zu1 h)).trans ?_
  rw [hb]
  rfl
theorem zo27 {c : ByteArray} {p : Nat} {b : UInt8} {r : List UInt8} (h : c.data.toList.drop p = b :: r) (hb : b.toNat = 27) : Reader.runAt (Decoder.instr p) c p = .ok (.iload_n 1, p + 1) := by
  refine (zrb (x := Reader.u1) (zu1 h)).trans ?_
  rw [hb]
  rfl
theorem zo28 {c : ByteArray} {p : Nat} {b : UInt8} {r : List UInt8} (h : c.data.toList.drop p = b :: r) (hb : b.toNat = 28) : Reader.runAt (Decoder.instr p) c p = .ok (.iload_n 2, p + 1) := by
  refine (zrb (x := Reader.u1) (zu1 h)).trans ?_
  rw [hb]
  rfl
theorem zo29 {c : ByteArray} {p : Nat} {b : UInt8} {r : List UInt8} (h : c.data.toList.drop p = b :: r) (hb : b.toNat = 29) : Reader.runAt (Decoder.instr p) c p = .ok (.iload_n 3, p + 1) := by
  refine (zrb (x := Reader.u1) (zu1 h)).trans ?_
  rw [hb]
  rfl
theorem zo30 {c : ByteArray} {p : Nat} {b : UInt8} {r : List UInt8} (h : c.data.toList.drop p = b :: r) (hb : b.toNat = 30) : Reader.runAt (Decoder.instr p) c p = .ok (.lload_n 0, p + 1) := by
  refine (zrb (x := Reader.u1) (zu1 h)).trans ?_
  rw [hb]
  rfl
theorem zo31 {c : ByteArray} {p : Nat} {b : UInt8} {r : List UInt8} (h : c.data.toList.drop p = b :: r) (hb : b.toNat = 31) : Reader.runAt (Decoder.instr p) c p = .ok (.lload_n 1, p + 1) := by
  refine (zrb (x := Reader.u1) (zu1 h)).trans ?_
  rw [hb]
  rfl
theorem zo32 {c : ByteArray} {p : Nat} {b : UInt8} {r : List UInt8} (h : c.data.toList.drop p = b :: r) (hb : b.toNat = 32) : Reader.runAt (Decoder.instr p) c p = .ok (.lload_n 2, p + 1) := by
  refine (zrb (x := Reader.u1) (zu1 h)).trans ?_
  rw [hb]
  rfl
theorem zo33 {c : ByteArray} {p : Nat} {b : UInt8} {r : List UInt8} (h : c.data.toList.drop p = b :: r) (hb : b.toNat = 33) : Reader.runAt (Decoder.instr p) c p = .ok (.lload_n 3, p + 1) := by
  refine (zrb (x := Reader.u1) (zu1 h)).trans ?_
  rw [hb]
  rfl
theorem zo42 {c : ByteArray} {p : Nat} {b : UInt8} {r : List UInt8} (h : c.data.toList.drop p = b :: r) (hb : b.toNat = 42) : Reader.runAt (Decoder.instr p) c p = .ok (.aload_n 0, p + 1) := by
  refine (zrb (x := Reader.u1) (zu1 h)).trans ?_
  rw [hb]
  rfl
theorem zo43 {c : ByteArray} {p : Nat} {b : UInt8} {r : List UInt8} (h : c.data.toList.drop p = b :: r) (hb : b.toNat = 43) : Reader.runAt (Decoder.instr p) c p = .ok (.aload_n 1, p + 1) := by
  refine (zrb (x := Reader.u1) (zu1 h)).trans ?_
  rw [hb]
  rfl
theorem zo44 {c : ByteArray} {p : Nat} {b : UInt8} {r : List UInt8} (h : c.data.toList.drop p = b :: r) (hb : b.toNat = 44) : Reader.runAt (Decoder.instr p) c p = .ok (.aload_n 2, p + 1) := by
  refine (zrb (x := Reader.u1) (zu1 h)).trans ?_
  rw [hb]
  rfl
theorem zo45 {c : ByteArray} {p : Nat} {b : UInt8} {r : List UInt8} (h : c.data.toList.drop p = b :: r) (hb : b.toNat = 45) : Reader.runAt (Decoder.instr p) c p = .ok (.aload_n 3, p + 1) := by
  refine (zrb (x := Reader.u1) (zu1 h)).trans ?_
  rw [hb]
  rfl
theorem zo46 {c : ByteArray} {p : Nat} {b : UInt8} {r : List UInt8} (h : c.data.toList.drop p = b :: r) (hb : b.toNat = 46) : Reader.runAt (Decoder.instr p) c p = .ok (.iaload, p + 1) := by
  refine (zrb (x := Reader.u1) (zu1 h)).trans ?_
  rw [hb]
  rfl
theorem zo47 {c : ByteArray} {p : Nat} {b : UInt8} {r : List UInt8} (h : c.data.toList.drop p = b :: r) (hb : b.toNat = 47) : Reader.runAt (Decoder.instr p) c p = .ok (.laload, p + 1) := by
  refine (zrb (x := Reader.u1) (zu1 h)).trans ?_
  rw [hb]
  rfl
theorem zo50 {c : ByteArray} {p : Nat} {b : UInt8} {r : List UInt8} (h : c.data.toList.drop p = b :: r) (hb : b.toNat = 50) : Reader.runAt (Decoder.instr p) c p = .ok (.aaload, p + 1) := by
  refine (zrb (x := Reader.u1) (zu1 h)).trans ?_
  rw [hb]
  rfl
theorem zo51 {c : ByteArray} {p : Nat} {b : UInt8} {r : List UInt8} (h : c.data.toList.drop p = b :: r) (hb : b.toNat = 51) : Reader.runAt (Decoder.instr p) c p = .ok (.baload, p + 1) := by
  refine (zrb (x := Reader.u1) (zu1 h)).trans ?_
  rw [hb]
  rfl
theorem zo52 {c : ByteArray} {p : Nat} {b : UInt8} {r : List UInt8} (h : c.data.toList.drop p = b :: r) (hb : b.toNat = 52) : Reader.runAt (Decoder.instr p) c p = .ok (.caload, p + 1) := by
  refine (zrb (x := Reader.u1) (zu1 h)).trans ?_
  rw [hb]
  rfl
theorem zo59 {c : ByteArray} {p : Nat} {b : UInt8} {r : List UInt8} (h : c.data.toList.drop p = b :: r) (hb : b.toNat = 59) : Reader.runAt (Decoder.instr p) c p = .ok (.istore_n 0, p + 1) := by
  refine (zrb (x := Reader.u1) (zu1 h)).trans ?_
  rw [hb]
  rfl
theorem zo60 {c : ByteArray} {p : Nat} {b : UInt8} {r : List UInt8} (h : c.data.toList.drop p = b :: r) (hb : b.toNat = 60) : Reader.runAt (Decoder.instr p) c p = .ok (.istore_n 1, p + 1) := by
  refine (zrb (x := Reader.u1) (zu1 h)).trans ?_
  rw [hb]
  rfl
theorem zo61 {c : ByteArray} {p : Nat} {b : UInt8} {r : List UInt8} (h : c.data.toList.drop p = b :: r) (hb : b.toNat = 61) : Reader.runAt (Decoder.instr p) c p = .ok (.istore_n 2, p + 1) := by
  refine (zrb (x := Reader.u1) (zu1 h)).trans ?_
  rw [hb]
  rfl
theorem zo62 {c : ByteArray} {p : Nat} {b : UInt8} {r : List UInt8} (h : c.data.toList.drop p = b :: r) (hb : b.toNat = 62) : Reader.runAt (Decoder.instr p) c p = .ok (.istore_n 3, p + 1) := by
  refine (zrb (x := Reader.u1) (zu1 h)).trans ?_
  rw [hb]
  rfl
theorem zo63 {c : ByteArray} {p : Nat} {b : UInt8} {r : List UInt8} (h : c.data.toList.drop p = b :: r) (hb : b.toNat = 63) : Reader.runAt (Decoder.instr p) c p = .ok (.lstore_n 0, p + 1) := by
  refine (zrb (x := Reader.u1) (zu1 h)).trans ?_
  rw [hb]
  rfl
theorem zo64 {c : ByteArray} {p : Nat} {b : UInt8} {r : List UInt8} (h : c.data.toList.drop p = b :: r) (hb : b.toNat = 64) : Reader.runAt (Decoder.instr p) c p = .ok (.lstore_n 1, p + 1) := by
  refine (zrb (x := Reader.u1) (zu1 h)).trans ?_
  rw [hb]
  rfl
theorem zo65 {c : ByteArray} {p : Nat} {b : UInt8} {r : List UInt8} (h : c.data.toList.drop p = b :: r) (hb : b.toNat = 65) : Reader.runAt (Decoder.instr p) c p = .ok (.lstore_n 2, p + 1) := by
  refine (zrb (x := Reader.u1) (zu1 h)).trans ?_
  rw [hb]
  rfl
theorem zo66 {c : ByteArray} {p : Nat} {b : UInt8} {r : List UInt8} (h : c.data.toList.drop p = b :: r) (hb : b.toNat = 66) : Reader.runAt (Decoder.instr p) c p = .ok (.lstore_n 3, p + 1) := by
  refine (zrb (x := Reader.u1) (zu1 h)).trans ?_
  rw [hb]
  rfl
theorem zo75 {c : ByteArray} {p : Nat} {b : UInt8} {r : List UInt8} (h : c.data.toList.drop p = b :: r) (hb : b.toNat = 75) : Reader.runAt (Decoder.instr p) c p = .ok (.astore_n 0, p + 1) := by
  refine (zrb (x := Reader.u1) (zu1 h)).trans ?_
  rw [hb]
  rfl
theorem zo76 {c : ByteArray} {p : Nat} {b : UInt8} {r : List UInt8} (h : c.data.toList.drop p = b :: r) (hb : b.toNat = 76) : Reader.runAt (Decoder.instr p) c p = .ok (.astore_n 1, p + 1) := by
  refine (zrb (x := Reader.u1) (zu1 h)).trans ?_
  rw [hb]
  rfl
theorem zo77 {c : ByteArray} {p : Nat} {b : UInt8} {r : List UInt8} (h : c.data.toList.drop p = b :: r) (hb : b.toNat = 77) : Reader.runAt (Decoder.instr p) c p = .ok (.astore_n 2, p + 1) := by
  refine (zrb (x := Reader.u1) (zu1 h)).trans ?_
  rw [hb]
  rfl
theorem zo78 {c : ByteArray} {p : Nat} {b : UInt8} {r : List UInt8} (h : c.data.toList.drop p = b :: r) (hb : b.toNat = 78) : Reader.runAt (Decoder.instr p) c p = .ok (.astore_n 3, p + 1) := by
  refine (zrb (x := Reader.u1) (zu1 h)).trans ?_
  rw [hb]
  rfl
theorem zo79 {c : ByteArray} {p : Nat} {b : UInt8} {r : List UInt8} (h : c.data.toList.drop p = b :: r) (hb : b.toNat = 79) : Reader.runAt (Decoder.instr p) c p = .ok (.iastore, p + 1) := by
  refine (zrb (x := Reader.u1) (zu1 h)).trans ?_
  rw [hb]
  rfl
theorem zo80 {c : ByteArray} {p : Nat} {b : UInt8} {r : List UInt8} (h : c.data.toList.drop p = b :: r) (hb : b.toNat = 80) : Reader.runAt (Decoder.instr p) c p = .ok (.lastore, p + 1) := by
  refine (zrb (x := Reader.u1) (zu1 h)).trans ?_
  rw [hb]
  rfl
theorem zo83 {c : ByteArray} {p : Nat} {b : UInt8} {r : List UInt8} (h : c.data.toList.drop p = b :: r) (hb : b.toNat = 83) : Reader.runAt (Decoder.instr p) c p = .ok (.aastore, p + 1) := by
  refine (zrb (x := Reader.u1) (zu1 h)).trans ?_
  rw [hb]
  rfl
theorem zo84 {c : ByteArray} {p : Nat} {b : UInt8} {r : List UInt8} (h : c.data.toList.drop p = b :: r) (hb : b.toNat = 84) : Reader.runAt (Decoder.instr p) c p = .ok (.bastore, p + 1) := by
  refine (zrb (x := Reader.u1) (zu1 h)).trans ?_
  rw [hb]
  rfl
theorem zo85 {c : ByteArray} {p : Nat} {b : UInt8} {r : List UInt8} (h : c.data.toList.drop p = b :: r) (hb : b.toNat = 85) : Reader.runAt (Decoder.instr p) c p = .ok (.castore, p + 1) := by
  refine (zrb (x := Reader.u1) (zu1 h)).trans ?_
  rw [hb]
  rfl
theorem zo87 {c : ByteArray} {p : Nat} {b : UInt8} {r : List UInt8} (h : c.data.toList.drop p = b :: r) (hb : b.toNat = 87) : Reader.runAt (Decoder.instr p) c p = .ok (.pop, p + 1) := by
  refine (zrb (x := Reader.u1) (zu1 h)).trans ?_
  rw [hb]
  rfl
theorem zo89 {c : ByteArray} {p : Nat} {b : UInt8} {r : List UInt8} (h : c.data.toList.drop p = b :: r) (hb : b.toNat = 89) : Reader.runAt (Decoder.instr p) c p = .ok (.dup, p + 1) := by
  refine (zrb (x := Reader.u1) (zu1 h)).trans ?_
  rw [hb]
  rfl
theorem zo92 {c : ByteArray} {p : Nat} {b : UInt8} {r : List UInt8} (h : c.data.toList.drop p = b :: r) (hb : b.toNat = 92) : Reader.runAt (Decoder.instr p) c p = .ok (.dup2, p + 1) := by
  refine (zrb (x := Reader.u1) (zu1 h)).trans ?_
  rw [hb]
  rfl
theorem zo96 {c : ByteArray} {p : Nat} {b : UInt8} {r : List UInt8} (h : c.data.toList.drop p = b :: r) (hb : b.toNat = 96) : Reader.runAt (Decoder.instr p) c p = .ok (.iadd, p + 1) := by
  refine (zrb (x := Reader.u1) (zu1 h)).trans ?_
  rw [hb]
  rfl
theorem zo97 {c : ByteArray} {p : Nat} {b : UInt8} {r : List UInt8} (h : c.data.toList.drop p = b :: r) (hb : b.toNat = 97) : Reader.runAt (Decoder.instr p) c p = .ok (.ladd, p + 1) := by
  refine (zrb (x := Reader.u1) (zu1 h)).trans ?_
  rw [hb]
  rfl
theorem zo100 {c : ByteArray} {p : Nat} {b : UInt8} {r : List UInt8} (h : c.data.toList.drop p = b :: r) (hb : b.toNat = 100) : Reader.runAt (Decoder.instr p) c p = .ok (.isub, p + 1) := by
  refine (zrb (x := Reader.u1) (zu1 h)).trans ?_
  rw [hb]
  rfl
theorem zo101 {c : ByteArray} {p : Nat} {b : UInt8} {r : List UInt8} (h : c.data.toList.drop p = b :: r) (hb : b.toNat = 101) : Reader.runAt (Decoder.instr p) c p = .ok (.lsub, p + 1) := by
  refine (zrb (x := Reader.u1) (zu1 h)).trans ?_
  rw [hb]
  rfl
theorem zo104 {c : ByteArray} {p : Nat} {b : UInt8} {r : List UInt8} (h : c.data.toList.drop p = b :: r) (hb : b.toNat = 104) : Reader.runAt (Decoder.instr p) c p = .ok (.imul, p + 1) := by
  refine (zrb (x := Reader.u1) (zu1 h)).trans ?_
  rw [hb]
  rfl
theorem zo105 {c : ByteArray} {p : Nat} {b : UInt8} {r : List UInt8} (h : c.data.toList.drop p = b :: r) (hb : b.toNat = 105) : Reader.runAt (Decoder.instr p) c p = .ok (.lmul, p + 1) := by
  refine (zrb (x := Reader.u1) (zu1 h)).trans ?_
  rw [hb]
  rfl
theorem zo108 {c : ByteArray} {p : Nat} {b : UInt8} {r : List UInt8} (h : c.data.toList.drop p = b :: r) (hb : b.toNat = 108) : Reader.runAt (Decoder.instr p) c p = .ok (.idiv, p + 1) := by
  refine (zrb (x := Reader.u1) (zu1 h)).trans ?_
  rw [hb]
  rfl
theorem zo109 {c : ByteArray} {p : Nat} {b : UInt8} {r : List UInt8} (h : c.data.toList.drop p = b :: r) (hb : b.toNat = 109) : Reader.runAt (Decoder.instr p) c p = .ok (.ldiv, p + 1) := by
  refine (zrb (x := Reader.u1) (zu1 h)).trans ?_
  rw [hb]
  rfl
theorem zo112 {c : ByteArray} {p : Nat} {b : UInt8} {r : List UInt8} (h : c.data.toList.drop p = b :: r) (hb : b.toNat = 112) : Reader.runAt (Decoder.instr p) c p = .ok (.irem, p + 1) := by
  refine (zrb (x := Reader.u1) (zu1 h)).trans ?_
  rw [hb]
  rfl
theorem zo113 {c : ByteArray} {p : Nat} {b : UInt8} {r : List UInt8} (h : c.data.toList.drop p = b :: r) (hb : b.toNat = 113) : Reader.runAt (Decoder.instr p) c p = .ok (.lrem, p + 1) := by
  refine (zrb (x := Reader.u1) (zu1 h)).trans ?_
  rw [hb]
  rfl
theorem zo116 {c : ByteArray} {p : Nat} {b : UInt8} {r : List UInt8} (h : c.data.toList.drop p = b :: r) (hb : b.toNat = 116) : Reader.runAt (Decoder.instr p) c p = .ok (.ineg, p + 1) := by
  refine (zrb (x := Reader.u1) (zu1 h)).trans ?_
  rw [hb]
  rfl
theorem zo120 {c : ByteArray} {p : Nat} {b : UInt8} {r : List UInt8} (h : c.data.toList.drop p = b :: r) (hb : b.toNat = 120) : Reader.runAt (Decoder.instr p) c p = .ok (.ishl, p + 1) := by
  refine (zrb (x := Reader.u1) (zu1 h)).trans ?_
  rw [hb]
  rfl
theorem zo121 {c : ByteArray} {p : Nat} {b : UInt8} {r : List UInt8} (h : c.data.toList.drop p = b :: r) (hb : b.toNat = 121) : Reader.runAt (Decoder.instr p) c p = .ok (.lshl, p + 1) := by
  refine (zrb (x := Reader.u1) (zu1 h)).trans ?_
  rw [hb]
  rfl
theorem zo122 {c : ByteArray} {p : Nat} {b : UInt8} {r : List UInt8} (h : c.data.toList.drop p = b :: r) (hb : b.toNat = 122) : Reader.runAt (Decoder.instr p) c p = .ok (.ishr, p + 1) := by
  refine (zrb (x := Reader.u1) (zu1 h)).trans ?_
  rw [hb]
  rfl
theorem zo123 {c : ByteArray} {p : Nat} {b : UInt8} {r : List UInt8} (h : c.data.toList.drop p = b :: r) (hb : b.toNat = 123) : Reader.runAt (Decoder.instr p) c p = .ok (.lshr, p + 1) := by
  refine (zrb (x := Reader.u1) (zu1 h)).trans ?_
  rw [hb]
  rfl
theorem zo124 {c : ByteArray} {p : Nat} {b : UInt8} {r : List UInt8} (h : c.data.toList.drop p = b :: r) (hb : b.toNat = 124) : Reader.runAt (Decoder.instr p) c p = .ok (.iushr, p + 1) := by
  refine (zrb (x := Reader.u1) (zu1 h)).trans ?_
  rw [hb]
  rfl
theorem zo125 {c : ByteArray} {p : Nat} {b : UInt8} {r : List UInt8} (h : c.data.toList.drop p = b :: r) (hb : b.toNat = 125) : Reader.runAt (Decoder.instr p) c p = .ok (.lushr, p + 1) := by
  refine (zrb (x := Reader.u1) (zu1 h)).trans ?_
  rw [hb]
  rfl
theorem zo126 {c : ByteArray} {p : Nat} {b : UInt8} {r : List UInt8} (h : c.data.toList.drop p = b :: r) (hb : b.toNat = 126) : Reader.runAt (Decoder.instr p) c p = .ok (.iand, p + 1) := by
  refine (zrb (x := Reader.u1) (zu1 h)).trans ?_
  rw [hb]
  rfl
theorem zo127 {c : ByteArray} {p : Nat} {b : UInt8} {r : List UInt8} (h : c.data.toList.drop p = b :: r) (hb : b.toNat = 127) : Reader.runAt (Decoder.instr p) c p = .ok (.land, p + 1) := by
  refine (zrb (x := Reader.u1) (zu1 h)).trans ?_
  rw [hb]
  rfl
theorem zo128 {c : ByteArray} {p : Nat} {b : UInt8} {r : List UInt8} (h : c.data.toList.drop p = b :: r) (hb : b.toNat = 128) : Reader.runAt (Decoder.instr p) c p = .ok (.ior, p + 1) := by
  refine (zrb (x := Reader.u1) (zu1 h)).trans ?_
  rw [hb]
  rfl
theorem zo129 {c : ByteArray} {p : Nat} {b : UInt8} {r : List UInt8} (h : c.data.toList.drop p = b :: r) (hb : b.toNat = 129) : Reader.runAt (Decoder.instr p) c p = .ok (.lor, p + 1) := by
  refine (zrb (x := Reader.u1) (zu1 h)).trans ?_
  rw [hb]
  rfl
theorem zo130 {c : ByteArray} {p : Nat} {b : UInt8} {r : List UInt8} (h : c.data.toList.drop p = b :: r) (hb : b.toNat = 130) : Reader.runAt (Decoder.instr p) c p = .ok (.ixor, p + 1) := by
  refine (zrb (x := Reader.u1) (zu1 h)).trans ?_
  rw [hb]
  rfl
theorem zo131 {c : ByteArray} {p : Nat} {b : UInt8} {r : List UInt8} (h : c.data.toList.drop p = b :: r) (hb : b.toNat = 131) : Reader.runAt (Decoder.instr p) c p = .ok (.lxor, p + 1) := by
  refine (zrb (x := Reader.u1) (zu1 h)).trans ?_
  rw [hb]
  rfl
theorem zo133 {c : ByteArray} {p : Nat} {b : UInt8} {r : List UInt8} (h : c.data.toList.drop p = b :: r) (hb : b.toNat = 133) : Reader.runAt (Decoder.instr p) c p = .ok (.i2l, p + 1) := by
  refine (zrb (x := Reader.u1) (zu1 h)).trans ?_
  rw [hb]
  rfl
theorem zo136 {c : ByteArray} {p : Nat} {b : UInt8} {r : List UInt8} (h : c.data.toList.drop p = b :: r) (hb : b.toNat = 136) : Reader.runAt (Decoder.instr p) c p = .ok (.l2i, p + 1) := by
  refine (zrb (x := Reader.u1) (zu1 h)).trans ?_
  rw [hb]
  rfl
theorem zo146 {c : ByteArray} {p : Nat} {b : UInt8} {r : List UInt8} (h : c.data.toList.drop p = b :: r) (hb : b.toNat = 146) : Reader.runAt (Decoder.instr p) c p = .ok (.i2c, p + 1) := by
  refine (zrb (x := Reader.u1) (zu1 h)).trans ?_
  rw [hb]
  rfl
theorem zo148 {c : ByteArray} {p : Nat} {b : UInt8} {r : List UInt8} (h : c.data.toList.drop p = b :: r) (hb : b.toNat = 148) : Reader.runAt (Decoder.instr p) c p = .ok (.lcmp, p + 1) := by
  refine (zrb (x := Reader.u1) (zu1 h)).trans ?_
  rw [hb]
  rfl
theorem zo172 {c : ByteArray} {p : Nat} {b : UInt8} {r : List UInt8} (h : c.data.toList.drop p = b :: r) (hb : b.toNat = 172) : Reader.runAt (Decoder.instr p) c p = .ok (.ireturn, p + 1) := by
  refine (zrb (x := Reader.u1) (zu1 h)).trans ?_
  rw [hb]
  rfl
theorem zo173 {c : ByteArray} {p : Nat} {b : UInt8} {r : List UInt8} (h : c.data.toList.drop p = b :: r) (hb : b.toNat = 173) : Reader.runAt (Decoder.instr p) c p = .ok (.lreturn, p + 1) := by
  refine (zrb (x := Reader.u1) (zu1 h)).trans ?_
  rw [hb]
  rfl
theorem zo176 {c : ByteArray} {p : Nat} {b : UInt8} {r : List UInt8} (h : c.data.toList.drop p = b :: r) (hb : b.toNat = 176) : Reader.runAt (Decoder.instr p) c p = .ok (.areturn, p + 1) := by
  refine (zrb (x := Reader.u1) (zu1 h)).trans ?_
  rw [hb]
  rfl
theorem zo177 {c : ByteArray} {p : Nat} {b : UInt8} {r : List UInt8} (h : c.data.toList.drop p = b :: r) (hb : b.toNat = 177) : Reader.runAt (Decoder.instr p) c p = .ok (.return_, p + 1) := by
  refine (zrb (x := Reader.u1) (zu1 h)).trans ?_
  rw [hb]
  rfl
theorem zo190 {c : ByteArray} {p : Nat} {b : UInt8} {r : List UInt8} (h : c.data.toList.drop p = b :: r) (hb : b.toNat = 190) : Reader.runAt (Decoder.instr p) c p = .ok (.arraylength, p + 1) := by
  refine (zrb (x := Reader.u1) (zu1 h)).trans ?_
  rw [hb]
  rfl
theorem zo191 {c : ByteArray} {p : Nat} {b : UInt8} {r : List UInt8} (h : c.data.toList.drop p = b :: r) (hb : b.toNat = 191) : Reader.runAt (Decoder.instr p) c p = .ok (.athrow, p + 1) := by
  refine (zrb (x := Reader.u1) (zu1 h)).trans ?_
  rw [hb]
  rfl
theorem zo18 {c : ByteArray} {p : Nat} {b x : UInt8} {r : List UInt8} (h : c.data.toList.drop p = b :: x :: r) (hb : b.toNat = 18) : Reader.runAt (Decoder.instr p) c p = .ok (.ldc x.toNat, p + 2) := by
  refine (zrb (x := Reader.u1) (zu1 h)).trans ?_
  rw [hb]
  show Reader.runAt (Reader.u1 >>= fun v => pure (Instr.ldc v) : Decoder Instr) c (p + 1) = _
  exact (zrb (zu1 (zdr _ _ h))).trans rfl
theorem zo21 {c : ByteArray} {p : Nat} {b x : UInt8} {r : List UInt8} (h : c.data.toList.drop p = b :: x :: r) (hb : b.toNat = 21) : Reader.runAt (Decoder.instr p) c p = .ok (.iload x.toNat, p + 2) := by
  refine (zrb (x := Reader.u1) (zu1 h)).trans ?_
  rw [hb]
  show Reader.runAt (Reader.u1 >>= fun v => pure (Instr.iload v) : Decoder Instr) c (p + 1) = _
  exact (zrb (zu1 (zdr _ _ h))).trans rfl
theorem zo22 {c : ByteArray} {p : Nat} {b x : UInt8} {r : List UInt8} (h : c.data.toList.drop p = b :: x :: r) (hb : b.toNat = 22) : Reader.runAt (Decoder.instr p) c p = .ok (.lload x.toNat, p + 2) := by
  refine (zrb (x := Reader.u1) (zu1 h)).trans ?_
  rw [hb]
  show Reader.runAt (Reader.u1 >>= fun v => pure (Instr.lload v) : Decoder Instr) c (p + 1) = _
  exact (zrb (zu1 (zdr _ _ h))).trans rfl
theorem zo25 {c : ByteArray} {p : Nat} {b x : UInt8} {r : List UInt8} (h : c.data.toList.drop p = b :: x :: r) (hb : b.toNat = 25) : Reader.runAt (Decoder.instr p) c p = .ok (.aload x.toNat, p + 2) := by
  refine (zrb (x := Reader.u1) (zu1 h)).trans ?_
  rw [hb]
  show Reader.runAt (Reader.u1 >>= fun v => pure (Instr.aload v) : Decoder Instr) c (p + 1) = _
  exact (zrb (zu1 (zdr _ _ h))).trans rfl
theorem zo54 {c : ByteArray} {p : Nat} {b x : UInt8} {r : List UInt8} (h : c.data.toList.drop p = b :: x :: r) (hb : b.toNat = 54) : Reader.runAt (Decoder.instr p) c p = .ok (.istore x.toNat, p + 2) := by
  refine (zrb (x := Reader.u1) (zu1 h)).trans ?_
  rw [hb]
  show Reader.runAt (Reader.u1 >>= fun v => pure (Instr.istore v) : Decoder Instr) c (p + 1) = _
  exact (zrb (zu1 (zdr _ _ h))).trans rfl
theorem zo55 {c : ByteArray} {p : Nat} {b x : UInt8} {r : List UInt8} (h : c.data.toList.drop p = b :: x :: r) (hb : b.toNat = 55) : Reader.runAt (Decoder.instr p) c p = .ok (.lstore x.toNat, p + 2) := by
  refine (zrb (x := Reader.u1) (zu1 h)).trans ?_
  rw [hb]
  show Reader.runAt (Reader.u1 >>= fun v => pure (Instr.lstore v) : Decoder Instr) c (p + 1) = _
  exact (zrb (zu1 (zdr _ _ h))).trans rfl
theorem zo58 {c : ByteArray} {p : Nat} {b x : UInt8} {r : List UInt8} (h : c.data.toList.drop p = b :: x :: r) (hb : b.toNat = 58) : Reader.runAt (Decoder.instr p) c p = .ok (.astore x.toNat, p + 2) := by
  refine (zrb (x := Reader.u1) (zu1 h)).trans ?_
  rw [hb]
  show Reader.runAt (Reader.u1 >>= fun v => pure (Instr.astore v) : Decoder Instr) c (p + 1) = _
  exact (zrb (zu1 (zdr _ _ h))).trans rfl
theorem zo19 {c : ByteArray} {p : Nat} {b x y : UInt8} {r : List UInt8} (h : c.data.toList.drop p = b :: x :: y :: r) (hb : b.toNat = 19) : Reader.runAt (Decoder.instr p) c p = .ok (.ldc_w (x.toNat * 256 + y.toNat), p + 3) := by
  refine (zrb (x := Reader.u1) (zu1 h)).trans ?_
  rw [hb]
  show Reader.runAt (Reader.u2 >>= fun v => pure (Instr.ldc_w v) : Decoder Instr) c (p + 1) = _
  exact (zrb (zu2 (zdr _ _ h))).trans rfl
theorem zo20 {c : ByteArray} {p : Nat} {b x y : UInt8} {r : List UInt8} (h : c.data.toList.drop p = b :: x :: y :: r) (hb : b.toNat = 20) : Reader.runAt (Decoder.instr p) c p = .ok (.ldc2_w (x.toNat * 256 + y.toNat), p + 3) := by
  refine (zrb (x := Reader.u1) (zu1 h)).trans ?_
  rw [hb]
  show Reader.runAt (Reader.u2 >>= fun v => pure (Instr.ldc2_w v) : Decoder Instr) c (p + 1) = _
  exact (zrb (zu2 (zdr _ _ h))).trans rfl
theorem zo178 {c : ByteArray} {p : Nat} {b x y : UInt8} {r : List UInt8} (h : c.data.toList.drop p = b :: x :: y :: r) (hb : b.toNat = 178) : Reader.runAt (Decoder.instr p) c p = .ok (.getstatic (x.toNat * 256 + y.toNat), p + 3) := by
  refine (zrb (x := Reader.u1) (zu1 h)).trans ?_
  rw [hb]
  show Reader.runAt (Reader.u2 >>= fun v => pure (Instr.getstatic v) : Decoder Instr) c (p + 1) = _
  exact (zrb (zu2 (zdr _ _ h))).trans rfl
theorem zo179 {c : ByteArray} {p : Nat} {b x y : UInt8} {r : List UInt8} (h : c.data.toList.drop p = b :: x :: y :: r) (hb : b.toNat = 179) : Reader.runAt (Decoder.instr p) c p = .ok (.putstatic (x.toNat * 256 + y.toNat), p + 3) := by
  refine (zrb (x := Reader.u1) (zu1 h)).trans ?_
  rw [hb]
  show Reader.runAt (Reader.u2 >>= fun v => pure (Instr.putstatic v) : Decoder Instr) c (p + 1) = _
  exact (zrb (zu2 (zdr _ _ h))).trans rfl
theorem zo180 {c : ByteArray} {p : Nat} {b x y : UInt8} {r : List UInt8} (h : c.data.toList.drop p = b :: x :: y :: r) (hb : b.toNat = 180) : Reader.runAt (Decoder.instr p) c p = .ok (.getfield (x.toNat * 256 + y.toNat), p + 3) := by
  refine (zrb (x := Reader.u1) (zu1 h)).trans ?_
  rw [hb]
  show Reader.runAt (Reader.u2 >>= fun v => pure (Instr.getfield v) : Decoder Instr) c (p + 1) = _
  exact (zrb (zu2 (zdr _ _ h))).trans rfl
theorem zo181 {c : ByteArray} {p : Nat} {b x y : UInt8} {r : List UInt8} (h : c.data.toList.drop p = b :: x :: y :: r) (hb : b.toNat = 181) : Reader.runAt (Decoder.instr p) c p = .ok (.putfield (x.toNat * 256 + y.toNat), p + 3) := by
  refine (zrb (x := Reader.u1) (zu1 h)).trans ?_
  rw [hb]
  show Reader.runAt (Reader.u2 >>= fun v => pure (Instr.putfield v) : Decoder Instr) c (p + 1) = _
  exact (zrb (zu2 (zdr _ _ h))).trans rfl
theorem zo182 {c : ByteArray} {p : Nat} {b x y : UInt8} {r : List UInt8} (h : c.data.toList.drop p = b :: x :: y :: r) (hb : b.toNat = 182) : Reader.runAt (Decoder.instr p) c p = .ok (.invokevirtual (x.toNat * 256 + y.toNat), p + 3) := by
  refine (zrb (x := Reader.u1) (zu1 h)).trans ?_
  rw [hb]
  show Reader.runAt (Reader.u2 >>= fun v => pure (Instr.invokevirtual v) : Decoder Instr) c (p + 1) = _
  exact (zrb (zu2 (zdr _ _ h))).trans rfl
theorem zo183 {c : ByteArray} {p : Nat} {b x y : UInt8} {r : List UInt8} (h : c.data.toList.drop p = b :: x :: y :: r) (hb : b.toNat = 183) : Reader.runAt (Decoder.instr p) c p = .ok (.invokespecial (x.toNat * 256 + y.toNat), p + 3) := by
  refine (zrb (x := Reader.u1) (zu1 h)).trans ?_
  rw [hb]
  show Reader.runAt (Reader.u2 >>= fun v => pure (Instr.invokespecial v) : Decoder Instr) c (p + 1) = _
  exact (zrb (zu2 (zdr _ _ h))).trans rfl
theorem zo184 {c : ByteArray} {p : Nat} {b x y : UInt8} {r : List UInt8} (h : c.data.toList.drop p = b :: x :: y :: r) (hb : b.toNat = 184) : Reader.runAt (Decoder.instr p) c p = .ok (.invokestatic (x.toNat * 256 + y.toNat), p + 3) := by
  refine (zrb (x := Reader.u1) (zu1 h)).trans ?_
  rw [hb]
  show Reader.runAt (Reader.u2 >>= fun v => pure (Instr.invokestatic v) : Decoder Instr) c (p + 1) = _
  exact (zrb (zu2 (zdr _ _ h))).trans rfl
theorem zo187 {c : ByteArray} {p : Nat} {b x y : UInt8} {r : List UInt8} (h : c.data.toList.drop p = b :: x :: y :: r) (hb : b.toNat = 187) : Reader.runAt (Decoder.instr p) c p = .ok (.new (x.toNat * 256 + y.toNat), p + 3) := by
  refine (zrb (x := Reader.u1) (zu1 h)).trans ?_
  rw [hb]
  show Reader.runAt (Reader.u2 >>= fun v => pure (Instr.new v) : Decoder Instr) c (p + 1) = _
  exact (zrb (zu2 (zdr _ _ h))).trans rfl
theorem zo189 {c : ByteArray} {p : Nat} {b x y : UInt8} {r : List UInt8} (h : c.data.toList.drop p = b :: x :: y :: r) (hb : b.toNat = 189) : Reader.runAt (Decoder.instr p) c p = .ok (.anewarray (x.toNat * 256 + y.toNat), p + 3) := by
  refine (zrb (x := Reader.u1) (zu1 h)).trans ?_
  rw [hb]
  show Reader.runAt (Reader.u2 >>= fun v => pure (Instr.anewarray v) : Decoder Instr) c (p + 1) = _
  exact (zrb (zu2 (zdr _ _ h))).trans rfl
theorem zo192 {c : ByteArray} {p : Nat} {b x y : UInt8} {r : List UInt8} (h : c.data.toList.drop p = b :: x :: y :: r) (hb : b.toNat = 192) : Reader.runAt (Decoder.instr p) c p = .ok (.checkcast (x.toNat * 256 + y.toNat), p + 3) := by
  refine (zrb (x := Reader.u1) (zu1 h)).trans ?_
  rw [hb]
  show Reader.runAt (Reader.u2 >>= fun v => pure (Instr.checkcast v) : Decoder Instr) c (p + 1) = _
  exact (zrb (zu2 (zdr _ _ h))).trans rfl
theorem zo193 {c : ByteArray} {p : Nat} {b x y : UInt8} {r : List UInt8} (h : c.data.toList.drop p = b :: x :: y :: r) (hb : b.toNat = 193) : Reader.runAt (Decoder.instr p) c p = .ok (.instanceof (x.toNat * 256 + y.toNat), p + 3) := by
  refine (zrb (x := Reader.u1) (zu1 h)).trans ?_
  rw [hb]
  show Reader.runAt (Reader.u2 >>= fun v => pure (Instr.instanceof v) : Decoder Instr) c (p + 1) = _
  exact (zrb (zu2 (zdr _ _ h))).trans rfl
theorem zo167 {c : ByteArray} {p : Nat} {b x y : UInt8} {r : List UInt8} (h : c.data.toList.drop p = b :: x :: y :: r) (hb : b.toNat = 167) : Reader.runAt (Decoder.instr p) c p = .ok (.goto (Reader.signed 16 (x.toNat * 256 + y.toNat)), p + 3) := by
  refine (zrb (x := Reader.u1) (zu1 h)).trans ?_
  rw [hb]
  show Reader.runAt (Reader.s2 >>= fun v => pure (Instr.goto v) : Decoder Instr) c (p + 1) = _
  exact (zrb (zs2 (zdr _ _ h))).trans rfl
theorem zo17 {c : ByteArray} {p : Nat} {b x y : UInt8} {r : List UInt8} (h : c.data.toList.drop p = b :: x :: y :: r) (hb : b.toNat = 17) : Reader.runAt (Decoder.instr p) c p = .ok (.sipush (Reader.signed 16 (x.toNat * 256 + y.toNat)), p + 3) := by
  refine (zrb (x := Reader.u1) (zu1 h)).trans ?_
  rw [hb]
  show Reader.runAt (Reader.s2 >>= fun v => pure (Instr.sipush v) : Decoder Instr) c (p + 1) = _
  exact (zrb (zs2 (zdr _ _ h))).trans rfl
theorem zo198 {c : ByteArray} {p : Nat} {b x y : UInt8} {r : List UInt8} (h : c.data.toList.drop p = b :: x :: y :: r) (hb : b.toNat = 198) : Reader.runAt (Decoder.instr p) c p = .ok (.ifnull (Reader.signed 16 (x.toNat * 256 + y.toNat)), p + 3) := by
  refine (zrb (x := Reader.u1) (zu1 h)).trans ?_
  rw [hb]
  show Reader.runAt (Reader.s2 >>= fun v => pure (Instr.ifnull v) : Decoder Instr) c (p + 1) = _
  exact (zrb (zs2 (zdr _ _ h))).trans rfl
theorem zo199 {c : ByteArray} {p : Nat} {b x y : UInt8} {r : List UInt8} (h : c.data.toList.drop p = b :: x :: y :: r) (hb : b.toNat = 199) : Reader.runAt (Decoder.instr p) c p = .ok (.ifnonnull (Reader.signed 16 (x.toNat * 256 + y.toNat)), p + 3) := by
  refine (zrb (x := Reader.u1) (zu1 h)).trans ?_
  rw [hb]
  show Reader.runAt (Reader.s2 >>= fun v => pure (Instr.ifnonnull v) : Decoder Instr) c (p + 1) = _
  exact (zrb (zs2 (zdr _ _ h))).trans rfl
theorem zo153 {c : ByteArray} {p : Nat} {b x y : UInt8} {r : List UInt8} (h : c.data.toList.drop p = b :: x :: y :: r) (hb : b.toNat = 153) : Reader.runAt (Decoder.instr p) c p = .ok (.ifCond .eq (Reader.signed 16 (x.toNat * 256 + y.toNat)), p + 3) := by
  refine (zrb (x := Reader.u1) (zu1 h)).trans ?_
  rw [hb]
  show Reader.runAt (Reader.s2 >>= fun v => pure (Instr.ifCond .eq v) : Decoder Instr) c (p + 1) = _
  exact (zrb (zs2 (zdr _ _ h))).trans rfl
theorem zo159 {c : ByteArray} {p : Nat} {b x y : UInt8} {r : List UInt8} (h : c.data.toList.drop p = b :: x :: y :: r) (hb : b.toNat = 159) : Reader.runAt (Decoder.instr p) c p = .ok (.if_icmp .eq (Reader.signed 16 (x.toNat * 256 + y.toNat)), p + 3) := by
  refine (zrb (x := Reader.u1) (zu1 h)).trans ?_
  rw [hb]
  show Reader.runAt (Reader.s2 >>= fun v => pure (Instr.if_icmp .eq v) : Decoder Instr) c (p + 1) = _
  exact (zrb (zs2 (zdr _ _ h))).trans rfl
theorem zo154 {c : ByteArray} {p : Nat} {b x y : UInt8} {r : List UInt8} (h : c.data.toList.drop p = b :: x :: y :: r) (hb : b.toNat = 154) : Reader.runAt (Decoder.instr p) c p = .ok (.ifCond .ne (Reader.signed 16 (x.toNat * 256 + y.toNat)), p + 3) := by
  refine (zrb (x := Reader.u1) (zu1 h)).trans ?_
  rw [hb]
  show Reader.runAt (Reader.s2 >>= fun v => pure (Instr.ifCond .ne v) : Decoder Instr) c (p + 1) = _
  exact (zrb (zs2 (zdr _ _ h))).trans rfl
theorem zo160 {c : ByteArray} {p : Nat} {b x y : UInt8} {r : List UInt8} (h : c.data.toList.drop p = b :: x :: y :: r) (hb : b.toNat = 160) : Reader.runAt (Decoder.instr p) c p = .ok (.if_icmp .ne (Reader.signed 16 (x.toNat * 256 + y.toNat)), p + 3) := by
  refine (zrb (x := Reader.u1) (zu1 h)).trans ?_
  rw [hb]
  show Reader.runAt (Reader.s2 >>= fun v => pure (Instr.if_icmp .ne v) : Decoder Instr) c (p + 1) = _
  exact (zrb (zs2 (zdr _ _ h))).trans rfl
theorem zo155 {c : ByteArray} {p : Nat} {b x y : UInt8} {r : List UInt8} (h : c.data.toList.drop p = b :: x :: y :: r) (hb : b.toNat = 155) : Reader.runAt (Decoder.instr p) c p = .ok (.ifCond .lt (Reader.signed 16 (x.toNat * 256 + y.toNat)), p + 3) := by
  refine (zrb (x := Reader.u1) (zu1 h)).trans ?_
  rw [hb]
  show Reader.runAt (Reader.s2 >>= fun v => pure (Instr.ifCond .lt v) : Decoder Instr) c (p + 1) = _
  exact (zrb (zs2 (zdr _ _ h))).trans rfl
theorem zo161 {c : ByteArray} {p : Nat} {b x y : UInt8} {r : List UInt8} (h : c.data.toList.drop p = b :: x :: y :: r) (hb : b.toNat = 161) : Reader.runAt (Decoder.instr p) c p = .ok (.if_icmp .lt (Reader.signed 16 (x.toNat * 256 + y.toNat)), p + 3) := by
  refine (zrb (x := Reader.u1) (zu1 h)).trans ?_
  rw [hb]
  show Reader.runAt (Reader.s2 >>= fun v => pure (Instr.if_icmp .lt v) : Decoder Instr) c (p + 1) = _
  exact (zrb (zs2 (zdr _ _ h))).trans rfl
theorem zo156 {c : ByteArray} {p : Nat} {b x y : UInt8} {r : List UInt8} (h : c.data.toList.drop p = b :: x :: y :: r) (hb : b.toNat = 156) : Reader.runAt (Decoder.instr p) c p = .ok (.ifCond .ge (Reader.signed 16 (x.toNat * 256 + y.toNat)), p + 3) := by
  refine (zrb (x := Reader.u1) (zu1 h)).trans ?_
  rw [hb]
  show Reader.runAt (Reader.s2 >>= fun v => pure (Instr.ifCond .ge v) : Decoder Instr) c (p + 1) = _
  exact (zrb (zs2 (zdr _ _ h))).trans rfl
theorem zo162 {c : ByteArray} {p : Nat} {b x y : UInt8} {r : List UInt8} (h : c.data.toList.drop p = b :: x :: y :: r) (hb : b.toNat = 162) : Reader.runAt (Decoder.instr p) c p = .ok (.if_icmp .ge (Reader.signed 16 (x.toNat * 256 + y.toNat)), p + 3) := by
  refine (zrb (x := Reader.u1) (zu1 h)).trans ?_
  rw [hb]
  show Reader.runAt (Reader.s2 >>= fun v => pure (Instr.if_icmp .ge v) : Decoder Instr) c (p + 1) = _
  exact (zrb (zs2 (zdr _ _ h))).trans rfl
theorem zo157 {c : ByteArray} {p : Nat} {b x y : UInt8} {r : List UInt8} (h : c.data.toList.drop p = b :: x :: y :: r) (hb : b.toNat = 157) : Reader.runAt (Decoder.instr p) c p = .ok (.ifCond .gt (Reader.signed 16 (x.toNat * 256 + y.toNat)), p + 3) := by
  refine (zrb (x := Reader.u1) (zu1 h)).trans ?_
  rw [hb]
  show Reader.runAt (Reader.s2 >>= fun v => pure (Instr.ifCond .gt v) : Decoder Instr) c (p + 1) = _
  exact (zrb (zs2 (zdr _ _ h))).trans rfl
theorem zo163 {c : ByteArray} {p : Nat} {b x y : UInt8} {r : List UInt8} (h : c.data.toList.drop p = b :: x :: y :: r) (hb : b.toNat = 163) : Reader.runAt (Decoder.instr p) c p = .ok (.if_icmp .gt (Reader.signed 16 (x.toNat * 256 + y.toNat)), p + 3) := by
  refine (zrb (x := Reader.u1) (zu1 h)).trans ?_
  rw [hb]
  show Reader.runAt (Reader.s2 >>= fun v => pure (Instr.if_icmp .gt v) : Decoder Instr) c (p + 1) = _
  exact (zrb (zs2 (zdr _ _ h))).trans rfl
theorem zo158 {c : ByteArray} {p : Nat} {b x y : UInt8} {r : List UInt8} (h : c.data.toList.drop p = b :: x :: y :: r) (hb : b.toNat = 158) : Reader.runAt (Decoder.instr p) c p = .ok (.ifCond .le (Reader.signed 16 (x.toNat * 256 + y.toNat)), p + 3) := by
  refine (zrb (x := Reader.u1) (zu1 h)).trans ?_
  rw [hb]
  show Reader.runAt (Reader.s2 >>= fun v => pure (Instr.ifCond .le v) : Decoder Instr) c (p + 1) = _
  exact (zrb (zs2 (zdr _ _ h))).trans rfl
theorem zo164 {c : ByteArray} {p : Nat} {b x y : UInt8} {r : List UInt8} (h : c.data.toList.drop p = b :: x :: y :: r) (hb : b.toNat = 164) : Reader.runAt (Decoder.instr p) c p = .ok (.if_icmp .le (Reader.signed 16 (x.toNat * 256 + y.toNat)), p + 3) := by
  refine (zrb (x := Reader.u1) (zu1 h)).trans ?_
  rw [hb]
  show Reader.runAt (Reader.s2 >>= fun v => pure (Instr.if_icmp .le v) : Decoder Instr) c (p + 1) = _
  exact (zrb (zs2 (zdr _ _ h))).trans rfl
theorem zo165 {c : ByteArray} {p : Nat} {b x y : UInt8} {r : List UInt8} (h : c.data.toList.drop p = b :: x :: y :: r) (hb : b.toNat = 165) : Reader.runAt (Decoder.instr p) c p = .ok (.if_acmp .eq (Reader.signed 16 (x.toNat * 256 + y.toNat)), p + 3) := by
  refine (zrb (x := Reader.u1) (zu1 h)).trans ?_
  rw [hb]
  show Reader.runAt (Reader.s2 >>= fun v => pure (Instr.if_acmp .eq v) : Decoder Instr) c (p + 1) = _
  exact (zrb (zs2 (zdr _ _ h))).trans rfl
theorem zo166 {c : ByteArray} {p : Nat} {b x y : UInt8} {r : List UInt8} (h : c.data.toList.drop p = b :: x :: y :: r) (hb : b.toNat = 166) : Reader.runAt (Decoder.instr p) c p = .ok (.if_acmp .ne (Reader.signed 16 (x.toNat * 256 + y.toNat)), p + 3) := by
  refine (zrb (x := Reader.u1) (zu1 h)).trans ?_
  rw [hb]
  show Reader.runAt (Reader.s2 >>= fun v => pure (Instr.if_acmp .ne v) : Decoder Instr) c (p + 1) = _
  exact (zrb (zs2 (zdr _ _ h))).trans rfl
theorem zo16 {c : ByteArray} {p : Nat} {b x : UInt8} {r : List UInt8} (h : c.data.toList.drop p = b :: x :: r) (hb : b.toNat = 16) : Reader.runAt (Decoder.instr p) c p = .ok (.bipush (Reader.signed 8 x.toNat), p + 2) := by
  refine (zrb (x := Reader.u1) (zu1 h)).trans ?_
  rw [hb]
  show Reader.runAt (Reader.s1 >>= fun v => pure (Instr.bipush v) : Decoder Instr) c (p + 1) = _
  exact (zrb (zs1 (zdr _ _ h))).trans rfl
theorem zo132 {c : ByteArray} {p : Nat} {b x y : UInt8} {r : List UInt8} (h : c.data.toList.drop p = b :: x :: y :: r) (hb : b.toNat = 132) : Reader.runAt (Decoder.instr p) c p = .ok (.iinc x.toNat (Reader.signed 8 y.toNat), p + 3) := by
  refine (zrb (x := Reader.u1) (zu1 h)).trans ?_
  rw [hb]
  show Reader.runAt (Reader.u1 >>= fun v => (Reader.s1 >>= fun w => pure (Instr.iinc v w)) : Decoder Instr) c (p + 1) = _
  exact (zrb (zu1 (zdr _ _ h))).trans ((zrb (zs1 (zdr _ _ (zdr _ _ h)))).trans rfl)
noncomputable def zm0 (o n : Nat) : List UInt8 → Bool
  | b :: _ => Nat.beq b.toNat o && Nat.beq n 1
  | [] => false
noncomputable def zm1 (o n v : Nat) : List UInt8 → Bool
  | b :: x :: _ => Nat.beq b.toNat o && (Nat.beq n 2 && Nat.beq x.toNat v)
  | _ => false
noncomputable def zm2 (o n v : Nat) : List UInt8 → Bool
  | b :: x :: y :: _ => Nat.beq b.toNat o && (Nat.beq n 3 && Nat.beq (x.toNat * 256 + y.toNat) v)
  | _ => false
noncomputable def zm3 (o n : Nat) (v : Int) : List UInt8 → Bool
  | b :: x :: _ => Nat.beq b.toNat o && (Nat.beq n 2 && decide (Reader.signed 8 x.toNat = v))
  | _ => false
noncomputable def zm4 (o n : Nat) (v : Int) : List UInt8 → Bool
  | b :: x :: y :: _ => Nat.beq b.toNat o && (Nat.beq n 3 && decide (Reader.signed 16 (x.toNat * 256 + y.toNat) = v))
  | _ => false
noncomputable def zm5 (n v : Nat) (w : Int) : List UInt8 → Bool
  | b :: x :: y :: _ => Nat.beq b.toNat 132 && (Nat.beq n 3 && (Nat.beq x.toNat v && decide (Reader.signed 8 y.toNat = w)))
  | _ => false
theorem zan {a b : Bool} (h : (a && b) = true) : a = true ∧ b = true := by
  cases a
  · exact absurd h Bool.false_ne_true
  · exact ⟨rfl, h⟩
theorem zk0 {o n : Nat} {i : Instr} {c : ByteArray} {p : Nat} (hop : ∀ {b : UInt8} {r : List UInt8}, c.data.toList.drop p = b :: r → b.toNat = o → Reader.runAt (Decoder.instr p) c p = .ok (i, p + 1)) (h : zm0 o n (c.data.toList.drop p) = true) : decode c p = .ok (i, n) := by
  generalize hl : c.data.toList.drop p = l at h
  match l, hl, h with
  | b :: r, hl, h =>
    obtain ⟨h1, h2⟩ := zan h
    rw [Nat.eq_of_beq_eq_true h2]
    exact zdk (hop hl (Nat.eq_of_beq_eq_true h1))
theorem zk1 {o n v : Nat} {i : Nat → Instr} {c : ByteArray} {p : Nat} (hop : ∀ {b x : UInt8} {r : List UInt8}, c.data.toList.drop p = b :: x :: r → b.toNat = o → Reader.runAt (Decoder.instr p) c p = .ok (i x.toNat, p + 2)) (h : zm1 o n v (c.data.toList.drop p) = true) : decode c p = .ok (i v, n) := by
  generalize hl : c.data.toList.drop p = l at h
  match l, hl, h with
  | b :: x :: r, hl, h =>
    obtain ⟨h1, h2⟩ := zan h
    obtain ⟨h2, h3⟩ := zan h2
    rw [Nat.eq_of_beq_eq_true h2, ← Nat.eq_of_beq_eq_true h3]
    exact zdk (hop hl (Nat.eq_of_beq_eq_true h1))
theorem zk2 {o n v : Nat} {i : Nat → Instr} {c : ByteArray} {p : Nat} (hop : ∀ {b x y : UInt8} {r : List UInt8}, c.data.toList.drop p = b :: x :: y :: r → b.toNat = o → Reader.runAt (Decoder.instr p) c p = .ok (i (x.toNat * 256 + y.toNat), p + 3)) (h : zm2 o n v (c.data.toList.drop p) = true) : decode c p = .ok (i v, n) := by
  generalize hl : c.data.toList.drop p = l at h
  match l, hl, h with
  | b :: x :: y :: r, hl, h =>
    obtain ⟨h1, h2⟩ := zan h
    obtain ⟨h2, h3⟩ := zan h2
    rw [Nat.eq_of_beq_eq_true h2, ← Nat.eq_of_beq_eq_true h3]
    exact zdk (hop hl (Nat.eq_of_beq_eq_true h1))
theorem zk3 {o n : Nat} {v : Int} {i : Int → Instr} {c : ByteArray} {p : Nat} (hop : ∀ {b x : UInt8} {r : List UInt8}, c.data.toList.drop p = b :: x :: r → b.toNat = o → Reader.runAt (Decoder.instr p) c p = .ok (i (Reader.signed 8 x.toNat), p + 2)) (h : zm3 o n v (c.data.toList.drop p) = true) : decode c p = .ok (i v, n) := by
  generalize hl : c.data.toList.drop p = l at h
  match l, hl, h with
  | b :: x :: r, hl, h =>
    obtain ⟨h1, h2⟩ := zan h
    obtain ⟨h2, h3⟩ := zan h2
    rw [Nat.eq_of_beq_eq_true h2, ← of_decide_eq_true h3]
    exact zdk (hop hl (Nat.eq_of_beq_eq_true h1))
theorem zk4 {o n : Nat} {v : Int} {i : Int → Instr} {c : ByteArray} {p : Nat} (hop : ∀ {b x y : UInt8} {r : List UInt8}, c.data.toList.drop p = b :: x :: y :: r → b.toNat = o → Reader.runAt (Decoder.instr p) c p = .ok (i (Reader.signed 16 (x.toNat * 256 + y.toNat)), p + 3)) (h : zm4 o n v (c.data.toList.drop p) = true) : decode c p = .ok (i v, n) := by
  generalize hl : c.data.toList.drop p = l at h
  match l, hl, h with
  | b :: x :: y :: r, hl, h =>
    obtain ⟨h1, h2⟩ := zan h
    obtain ⟨h2, h3⟩ := zan h2
    rw [Nat.eq_of_beq_eq_true h2, ← of_decide_eq_true h3]
    exact zdk (hop hl (Nat.eq_of_beq_eq_true h1))
theorem zk5 {n v : Nat} {w : Int} {c : ByteArray} {p : Nat} (h : zm5 n v w (c.data.toList.drop p) = true) : decode c p = .ok (.iinc v w, n) := by
  generalize hl : c.data.toList.drop p = l at h
  match l, hl, h with
  | b :: x :: y :: r, hl, h =>
    obtain ⟨h1, h2⟩ := zan h
    obtain ⟨h2, h3⟩ := zan h2
    obtain ⟨h3, h4⟩ := zan h3
    rw [Nat.eq_of_beq_eq_true h2, ← Nat.eq_of_beq_eq_true h3, ← of_decide_eq_true h4]
    exact zdk (zo132 hl (Nat.eq_of_beq_eq_true h1))
noncomputable def zcd : Jvm.ClassFile.Cond → Nat
  | .eq => 0
  | .ne => 1
  | .lt => 2
  | .ge => 3
  | .gt => 4
  | .le => 5
noncomputable def zca : Jvm.ClassFile.ACond → Nat
  | .eq => 0
  | .ne => 1
noncomputable def zM (i : Instr) (n : Nat) (l : List UInt8) : Bool := match i with
  | .iload_n k => zm0 (26 + k.val) n l
  | .lload_n k => zm0 (30 + k.val) n l
  | .aload_n k => zm0 (42 + k.val) n l
  | .istore_n k => zm0 (59 + k.val) n l
  | .lstore_n k => zm0 (63 + k.val) n l
  | .astore_n k => zm0 (75 + k.val) n l
  | .lconst k => zm0 (9 + k.val) n l
  | .iconst v => decide (-1 ≤ v ∧ v ≤ 5) && zm0 (v + 3).toNat n l
  | .iaload => zm0 46 n l
  | .laload => zm0 47 n l
  | .aaload => zm0 50 n l
  | .baload => zm0 51 n l
  | .caload => zm0 52 n l
  | .iastore => zm0 79 n l
  | .lastore => zm0 80 n l
  | .aastore => zm0 83 n l
  | .bastore => zm0 84 n l
  | .castore => zm0 85 n l
  | .pop => zm0 87 n l
  | .dup => zm0 89 n l
  | .dup2 => zm0 92 n l
  | .iadd => zm0 96 n l
  | .ladd => zm0 97 n l
  | .isub => zm0 100 n l
  | .lsub => zm0 101 n l
  | .imul => zm0 104 n l
  | .lmul => zm0 105 n l
  | .idiv => zm0 108 n l
  | .ldiv => zm0 109 n l
  | .irem => zm0 112 n l
  | .lrem => zm0 113 n l
  | .ineg => zm0 116 n l
  | .ishl => zm0 120 n l
  | .lshl => zm0 121 n l
  | .ishr => zm0 122 n l
  | .lshr => zm0 123 n l
  | .iushr => zm0 124 n l
  | .lushr => zm0 125 n l
  | .iand => zm0 126 n l
  | .land => zm0 127 n l
  | .ior => zm0 128 n l
  | .lor => zm0 129 n l
  | .ixor => zm0 130 n l
  | .lxor => zm0 131 n l
  | .i2l => zm0 133 n l
  | .l2i => zm0 136 n l
  | .i2c => zm0 146 n l
  | .lcmp => zm0 148 n l
  | .ireturn => zm0 172 n l
  | .lreturn => zm0 173 n l
  | .areturn => zm0 176 n l
  | .return_ => zm0 177 n l
  | .arraylength => zm0 190 n l
  | .athrow => zm0 191 n l
  | .ldc v => zm1 18 n v l
  | .iload v => zm1 21 n v l
  | .lload v => zm1 22 n v l
  | .aload v => zm1 25 n v l
  | .istore v => zm1 54 n v l
  | .lstore v => zm1 55 n v l
  | .astore v => zm1 58 n v l
  | .ldc_w v => zm2 19 n v l
  | .ldc2_w v => zm2 20 n v l
  | .getstatic v => zm2 178 n v l
  | .putstatic v => zm2 179 n v l
  | .getfield v => zm2 180 n v l
  | .putfield v => zm2 181 n v l
  | .invokevirtual v => zm2 182 n v l
  | .invokespecial v => zm2 183 n v l
  | .invokestatic v => zm2 184 n v l
  | .new v => zm2 187 n v l
  | .anewarray v => zm2 189 n v l
  | .checkcast v => zm2 192 n v l
  | .instanceof v => zm2 193 n v l
  | .bipush v => zm3 16 n v l
  | .goto v => zm4 167 n v l
  | .sipush v => zm4 17 n v l
  | .ifnull v => zm4 198 n v l
  | .ifnonnull v => zm4 199 n v l
  | .ifCond k v => zm4 (153 + zcd k) n v l
  | .if_icmp k v => zm4 (159 + zcd k) n v l
  | .if_acmp k v => zm4 (165 + zca k) n v l
  | .iinc v w => zm5 n v w l
  | _ => false
set_option maxRecDepth 20000 in
theorem zMk {c : ByteArray} {p n : Nat} (i : Instr) : zM i n (c.data.toList.drop p) = true → decode c p = .ok (i, n) := by
  cases i with
  | iload_n k =>
    intro h
    match k, h with
    | ⟨0, _⟩, h => exact zk0 zo26 h
    | ⟨1, _⟩, h => exact zk0 zo27 h
    | ⟨2, _⟩, h => exact zk0 zo28 h
    | ⟨3, _⟩, h => exact zk0 zo29 h
    | ⟨j + 4, hj⟩, _ => omega
  | lload_n k =>
    intro h
    match k, h with
    | ⟨0, _⟩, h => exact zk0 zo30 h
    | ⟨1, _⟩, h => exact zk0 zo31 h
    | ⟨2, _⟩, h => exact zk0 zo32 h
    | ⟨3, _⟩, h => exact zk0 zo33 h
    | ⟨j + 4, hj⟩, _ => omega
  | aload_n k =>
    intro h
    match k, h with
    | ⟨0, _⟩, h => exact zk0 zo42 h
    | ⟨1, _⟩, h => exact zk0 zo43 h
    | ⟨2, _⟩, h => exact zk0 zo44 h
    | ⟨3, _⟩, h => exact zk0 zo45 h
    | ⟨j + 4, hj⟩, _ => omega
  | istore_n k =>
    intro h
    match k, h with
    | ⟨0, _⟩, h => exact zk0 zo59 h
    | ⟨1, _⟩, h => exact zk0 zo60 h
    | ⟨2, _⟩, h => exact zk0 zo61 h
    | ⟨3, _⟩, h => exact zk0 zo62 h
    | ⟨j + 4, hj⟩, _ => omega
  | lstore_n k =>
    intro h
    match k, h with
    | ⟨0, _⟩, h => exact zk0 zo63 h
    | ⟨1, _⟩, h => exact zk0 zo64 h
    | ⟨2, _⟩, h => exact zk0 zo65 h
    | ⟨3, _⟩, h => exact zk0 zo66 h
    | ⟨j + 4, hj⟩, _ => omega
  | astore_n k =>
    intro h
    match k, h with
    | ⟨0, _⟩, h => exact zk0 zo75 h
    | ⟨1, _⟩, h => exact zk0 zo76 h
    | ⟨2, _⟩, h => exact zk0 zo77 h
    | ⟨3, _⟩, h => exact zk0 zo78 h
    | ⟨j + 4, hj⟩, _ => omega
  | lconst k =>
    intro h
    match k, h with
    | ⟨0, _⟩, h => exact zk0 zo9 h
    | ⟨1, _⟩, h => exact zk0 zo10 h
    | ⟨j + 2, hj⟩, _ => omega
  | iconst v =>
    intro h
    obtain ⟨h1, h2⟩ := zan h
    have h3 := of_decide_eq_true h1
    rcases (show v = -1 ∨ v = 0 ∨ v = 1 ∨ v = 2 ∨ v = 3 ∨ v = 4 ∨ v = 5 by omega) with rfl | rfl | rfl | rfl | rfl | rfl | rfl
    · exact zk0 zo2 h2
    · exact zk0 zo3 h2
    · exact zk0 zo4 h2
    · exact zk0 zo5 h2
    · exact zk0 zo6 h2
    · exact zk0 zo7 h2
    · exact zk0 zo8 h2
  | iaload => exact zk0 zo46
  | laload => exact zk0 zo47
  | aaload => exact zk0 zo50
  | baload => exact zk0 zo51
  | caload => exact zk0 zo52
  | iastore => exact zk0 zo79
  | lastore => exact zk0 zo80
  | aastore => exact zk0 zo83
  | bastore => exact zk0 zo84
  | castore => exact zk0 zo85
  | pop => exact zk0 zo87
  | dup => exact zk0 zo89
  | dup2 => exact zk0 zo92
  | iadd => exact zk0 zo96
  | ladd => exact zk0 zo97
  | isub => exact zk0 zo100
  | lsub => exact zk0 zo101
  | imul => exact zk0 zo104
  | lmul => exact zk0 zo105
  | idiv => exact zk0 zo108
  | ldiv => exact zk0 zo109
  | irem => exact zk0 zo112
  | lrem => exact zk0 zo113
  | ineg => exact zk0 zo116
  | ishl => exact zk0 zo120
  | lshl => exact zk0 zo121
  | ishr => exact zk0 zo122
  | lshr => exact zk0 zo123
  | iushr => exact zk0 zo124
  | lushr => exact zk0 zo125
  | iand => exact zk0 zo126
  | land => exact zk0 zo127
  | ior => exact zk0 zo128
  | lor => exact zk0 zo129
  | ixor => exact zk0 zo130
  | lxor => exact zk0 zo131
  | i2l => exact zk0 zo133
  | l2i => exact zk0 zo136
  | i2c => exact zk0 zo146
  | lcmp => exact zk0 zo148
  | ireturn => exact zk0 zo172
  | lreturn => exact zk0 zo173
  | areturn => exact zk0 zo176
  | return_ => exact zk0 zo177
  | arraylength => exact zk0 zo190
  | athrow => exact zk0 zo191
  | ldc v => exact zk1 (i := fun v => .ldc v) zo18
  | iload v => exact zk1 (i := fun v => .iload v) zo21
  | lload v => exact zk1 (i := fun v => .lload v) zo22
  | aload v => exact zk1 (i := fun v => .aload v) zo25
  | istore v => exact zk1 (i := fun v => .istore v) zo54
  | lstore v => exact zk1 (i := fun v => .lstore v) zo55
  | astore v => exact zk1 (i := fun v => .astore v) zo58
  | ldc_w v => exact zk2 (i := fun v => .ldc_w v) zo19
  | ldc2_w v => exact zk2 (i := fun v => .ldc2_w v) zo20
  | getstatic v => exact zk2 (i := fun v => .getstatic v) zo178
  | putstatic v => exact zk2 (i := fun v => .putstatic v) zo179
  | getfield v => exact zk2 (i := fun v => .getfield v) zo180
  | putfield v => exact zk2 (i := fun v => .putfield v) zo181
  | invokevirtual v => exact zk2 (i := fun v => .invokevirtual v) zo182
  | invokespecial v => exact zk2 (i := fun v => .invokespecial v) zo183
  | invokestatic v => exact zk2 (i := fun v => .invokestatic v) zo184
  | new v => exact zk2 (i := fun v => .new v) zo187
  | anewarray v => exact zk2 (i := fun v => .anewarray v) zo189
  | checkcast v => exact zk2 (i := fun v => .checkcast v) zo192
  | instanceof v => exact zk2 (i := fun v => .instanceof v) zo193
  | bipush v => exact zk3 (i := fun v => .bipush v) zo16
  | goto v => exact zk4 (i := fun v => .goto v) zo167
  | sipush v => exact zk4 (i := fun v => .sipush v) zo17
  | ifnull v => exact zk4 (i := fun v => .ifnull v) zo198
  | ifnonnull v => exact zk4 (i := fun v => .ifnonnull v) zo199
  | ifCond k v =>
    cases k with
    | eq => exact zk4 (i := fun v => .ifCond .eq v) zo153
    | ne => exact zk4 (i := fun v => .ifCond .ne v) zo154
    | lt => exact zk4 (i := fun v => .ifCond .lt v) zo155
    | ge => exact zk4 (i := fun v => .ifCond .ge v) zo156
    | gt => exact zk4 (i := fun v => .ifCond .gt v) zo157
    | le => exact zk4 (i := fun v => .ifCond .le v) zo158
  | if_icmp k v =>
    cases k with
    | eq => exact zk4 (i := fun v => .if_icmp .eq v) zo159
    | ne => exact zk4 (i := fun v => .if_icmp .ne v) zo160
    | lt => exact zk4 (i := fun v => .if_icmp .lt v) zo161
    | ge => exact zk4 (i := fun v => .if_icmp .ge v) zo162
    | gt => exact zk4 (i := fun v => .if_icmp .gt v) zo163
    | le => exact zk4 (i := fun v => .if_icmp .le v) zo164
  | if_acmp k v =>
    cases k with
    | eq => exact zk4 (i := fun v => .if_acmp .eq v) zo165
    | ne => exact zk4 (i := fun v => .if_acmp .ne v) zo166
  | iinc v w => exact zk5
  | _ => exact fun h => absurd h Bool.false_ne_true
noncomputable def zCk : List (Nat × Instr × Nat) → Nat → List UInt8 → Bool
  | [], _, _ => true
  | q :: r, p, l => Nat.beq q.1 p && (zM q.2.1 q.2.2 l && zCk r (p + q.2.2) (l.drop q.2.2))
noncomputable def zCj (c : ByteArray) : List (Nat × Instr × Nat) → Prop
  | [] => True
  | q :: r => decode c q.1 = .ok q.2 ∧ zCj c r
theorem zdd : ∀ (l : List UInt8) (p n : Nat), (l.drop p).drop n = l.drop (p + n)
  | [], p, n => by rw [List.drop_nil, List.drop_nil, List.drop_nil]
  | _ :: _, 0, n => by rw [Nat.zero_add]; rfl
  | a :: l, p + 1, n => by rw [Nat.add_right_comm]; exact zdd l p n
theorem zCo {c : ByteArray} : ∀ (L : List (Nat × Instr × Nat)) (p : Nat), zCk L p (c.data.toList.drop p) = true → zCj c L
  | [], _, _ => trivial
  | q :: r, p, h => by
    obtain ⟨h1, h2⟩ := zan h
    obtain ⟨h2, h3⟩ := zan h2
    have e := Nat.eq_of_beq_eq_true h1
    rw [zdd] at h3
    exact ⟨by rw [e]; exact zMk _ h2, zCo r _ h3⟩
theorem zc1 {c : ByteArray} {p n : Nat} {i : Instr} {r : List (Nat × Instr × Nat)} (h : zCj c ((p, i, n) :: r)) : decode c p = .ok (i, n) := h.1
theorem zc2 {c : ByteArray} {q : Nat × Instr × Nat} {r : List (Nat × Instr × Nat)} (h : zCj c (q :: r)) : zCj c r := h.2
theorem zg08d00_0 : zCj cX12_within [(0, .iload_n 0, 1), (1, .iload_n 1, 1), (2, .if_icmp .lt 12, 3), (5, .iload_n 0, 1), (6, .iload_n 2, 1), (7, .if_icmp .gt 7, 3), (10, .iconst 1, 1), (11, .goto 4, 3), (14, .iconst 0, 1), (15, .ireturn, 1)] := zCo _ 0 (by decide +kernel)
theorem dX12_within_0 : decode cX12_within 0 = .ok (.iload_n 0, 1) := zc1 zg08d00_0
theorem dX12_within_1 : decode cX12_within 1 = .ok (.iload_n 1, 1) := zc1 (zc2 zg08d00_0)
theorem dX12_within_2 : decode cX12_within 2 = .ok (.if_icmp .lt 12, 3) := zc1 (zc2 (zc2 zg08d00_0))
theorem dX12_within_5 : decode cX12_within 5 = .ok (.iload_n 0, 1) := zc1 (zc2 (zc2 (zc2 zg08d00_0)))
theorem dX12_within_6 : decode cX12_within 6 = .ok (.iload_n 2, 1) := zc1 (zc2 (zc2 (zc2 (zc2 zg08d00_0))))
theorem dX12_within_7 : decode cX12_within 7 = .ok (.if_icmp .gt 7, 3) := zc1 (zc2 (zc2 (zc2 (zc2 (zc2 zg08d00_0)))))
theorem dX12_within_10 : decode cX12_within 10 = .ok (.iconst 1, 1) := zc1 (zc2 (zc2 (zc2 (zc2 (zc2 (zc2 zg08d00_0))))))
theorem dX12_within_11 : decode cX12_within 11 = .ok (.goto 4, 3) := zc1 (zc2 (zc2 (zc2 (zc2 (zc2 (zc2 (zc2 zg08d00_0)))))))
theorem dX12_within_14 : decode cX12_within 14 = .ok (.iconst 0, 1) := zc1 (zc2 (zc2 (zc2 (zc2 (zc2 (zc2 (zc2 (zc2 zg08d00_0))))))))
theorem dX12_within_15 : decode cX12_within 15 = .ok (.ireturn, 1) := zc1 (zc2 (zc2 (zc2 (zc2 (zc2 (zc2 (zc2 (zc2 (zc2 zg08d00_0)))))))))
theorem zg08d00_1 : zCj cX12_bits [(0, .iconst 0, 1), (1, .istore_n 1, 1), (2, .iconst 0, 1), (3, .istore_n 2, 1), (4, .iload_n 2, 1), (5, .bipush 6, 2), (7, .if_icmp .ge 17, 3), (10, .iload_n 1, 1), (11, .iload_n 0, 1), (12, .iload_n 2, 1)] := zCo _ 0 (by decide +kernel)
theorem dX12_bits_0 : decode cX12_bits 0 = .ok (.iconst 0, 1) := zc1 zg08d00_1
theorem dX12_bits_1 : decode cX12_bits 1 = .ok (.istore_n 1, 1) := zc1 (zc2 zg08d00_1)
theorem dX12_bits_2 : decode cX12_bits 2 = .ok (.iconst 0, 1) := zc1 (zc2 (zc2 zg08d00_1))
theorem dX12_bits_3 : decode cX12_bits 3 = .ok (.istore_n 2, 1) := zc1 (zc2 (zc2 (zc2 zg08d00_1)))
theorem dX12_bits_4 : decode cX12_bits 4 = .ok (.iload_n 2, 1) := zc1 (zc2 (zc2 (zc2 (zc2 zg08d00_1))))
theorem dX12_bits_5 : decode cX12_bits 5 = .ok (.bipush 6, 2) := zc1 (zc2 (zc2 (zc2 (zc2 (zc2 zg08d00_1)))))
theorem dX12_bits_7 : decode cX12_bits 7 = .ok (.if_icmp .ge 17, 3) := zc1 (zc2 (zc2 (zc2 (zc2 (zc2 (zc2 zg08d00_1))))))
theorem dX12_bits_10 : decode cX12_bits 10 = .ok (.iload_n 1, 1) := zc1 (zc2 (zc2 (zc2 (zc2 (zc2 (zc2 (zc2 zg08d00_1)))))))
theorem dX12_bits_11 : decode cX12_bits 11 = .ok (.iload_n 0, 1) := zc1 (zc2 (zc2 (zc2 (zc2 (zc2 (zc2 (zc2 (zc2 zg08d00_1))))))))
theorem dX12_bits_12 : decode cX12_bits 12 = .ok (.iload_n 2, 1) := zc1 (zc2 (zc2 (zc2 (zc2 (zc2 (zc2 (zc2 (zc2 (zc2 zg08d00_1)))))))))
theorem zg08d00_2 : zCj cX12_bits [(13, .ishr, 1), (14, .iconst 1, 1), (15, .iand, 1), (16, .iadd, 1), (17, .istore_n 1, 1), (18, .iinc 2 1, 3), (21, .goto (-17), 3), (24, .iload_n 1, 1), (25, .ireturn, 1)] := zCo _ 13 (by decide +kernel)
theorem dX12_bits_13 : decode cX12_bits 13 = .ok (.ishr, 1) := zc1 zg08d00_2
theorem dX12_bits_14 : decode cX12_bits 14 = .ok (.iconst 1, 1) := zc1 (zc2 zg08d00_2)
theorem dX12_bits_15 : decode cX12_bits 15 = .ok (.iand, 1) := zc1 (zc2 (zc2 zg08d00_2))
theorem dX12_bits_16 : decode cX12_bits 16 = .ok (.iadd, 1) := zc1 (zc2 (zc2 (zc2 zg08d00_2)))
theorem dX12_bits_17 : decode cX12_bits 17 = .ok (.istore_n 1, 1) := zc1 (zc2 (zc2 (zc2 (zc2 zg08d00_2))))
theorem dX12_bits_18 : decode cX12_bits 18 = .ok (.iinc 2 1, 3) := zc1 (zc2 (zc2 (zc2 (zc2 (zc2 zg08d00_2)))))
theorem dX12_bits_21 : decode cX12_bits 21 = .ok (.goto (-17), 3) := zc1 (zc2 (zc2 (zc2 (zc2 (zc2 (zc2 zg08d00_2))))))
theorem dX12_bits_24 : decode cX12_bits 24 = .ok (.iload_n 1, 1) := zc1 (zc2 (zc2 (zc2 (zc2 (zc2 (zc2 (zc2 zg08d00_2)))))))
theorem dX12_bits_25 : decode cX12_bits 25 = .ok (.ireturn, 1) := zc1 (zc2 (zc2 (zc2 (zc2 (zc2 (zc2 (zc2 (zc2 zg08d00_2))))))))
theorem zg08d00_3 : zCj cX12_feed [(0, .aload_n 0, 1), (1, .iconst 0, 1), (2, .putfield 129, 3), (5, .iconst 0, 1), (6, .istore 7, 2), (8, .iload 7, 2), (10, .bipush 24, 2), (12, .if_icmp .ge 108, 3), (15, .iload 7, 2), (17, .bipush 8, 2)] := zCo _ 0 (by decide +kernel)
theorem dX12_feed_0 : decode cX12_feed 0 = .ok (.aload_n 0, 1) := zc1 zg08d00_3
theorem dX12_feed_1 : decode cX12_feed 1 = .ok (.iconst 0, 1) := zc1 (zc2 zg08d00_3)
theorem dX12_feed_2 : decode cX12_feed 2 = .ok (.putfield 129, 3) := zc1 (zc2 (zc2 zg08d00_3))
theorem dX12_feed_5 : decode cX12_feed 5 = .ok (.iconst 0, 1) := zc1 (zc2 (zc2 (zc2 zg08d00_3)))
theorem dX12_feed_6 : decode cX12_feed 6 = .ok (.istore 7, 2) := zc1 (zc2 (zc2 (zc2 (zc2 zg08d00_3))))
theorem dX12_feed_8 : decode cX12_feed 8 = .ok (.iload 7, 2) := zc1 (zc2 (zc2 (zc2 (zc2 (zc2 zg08d00_3)))))
theorem dX12_feed_10 : decode cX12_feed 10 = .ok (.bipush 24, 2) := zc1 (zc2 (zc2 (zc2 (zc2 (zc2 (zc2 zg08d00_3))))))
theorem dX12_feed_12 : decode cX12_feed 12 = .ok (.if_icmp .ge 108, 3) := zc1 (zc2 (zc2 (zc2 (zc2 (zc2 (zc2 (zc2 zg08d00_3)))))))
theorem dX12_feed_15 : decode cX12_feed 15 = .ok (.iload 7, 2) := zc1 (zc2 (zc2 (zc2 (zc2 (zc2 (zc2 (zc2 (zc2 zg08d00_3))))))))
theorem dX12_feed_17 : decode cX12_feed 17 = .ok (.bipush 8, 2) := zc1 (zc2 (zc2 (zc2 (zc2 (zc2 (zc2 (zc2 (zc2 (zc2 zg08d00_3)))))))))
theorem zg08d00_4 : zCj cX12_feed [(19, .if_icmp .ge 7, 3), (22, .lload_n 1, 1), (23, .goto 16, 3), (26, .iload 7, 2), (28, .bipush 16, 2), (30, .if_icmp .ge 7, 3), (33, .lload_n 3, 1), (34, .goto 5, 3), (37, .lload 5, 2), (39, .lstore 8, 2)] := zCo _ 19 (by decide +kernel)
theorem dX12_feed_19 : decode cX12_feed 19 = .ok (.if_icmp .ge 7, 3) := zc1 zg08d00_4
theorem dX12_feed_22 : decode cX12_feed 22 = .ok (.lload_n 1, 1) := zc1 (zc2 zg08d00_4)
theorem dX12_feed_23 : decode cX12_feed 23 = .ok (.goto 16, 3) := zc1 (zc2 (zc2 zg08d00_4))
theorem dX12_feed_26 : decode cX12_feed 26 = .ok (.iload 7, 2) := zc1 (zc2 (zc2 (zc2 zg08d00_4)))
theorem dX12_feed_28 : decode cX12_feed 28 = .ok (.bipush 16, 2) := zc1 (zc2 (zc2 (zc2 (zc2 zg08d00_4))))
theorem dX12_feed_30 : decode cX12_feed 30 = .ok (.if_icmp .ge 7, 3) := zc1 (zc2 (zc2 (zc2 (zc2 (zc2 zg08d00_4)))))
theorem dX12_feed_33 : decode cX12_feed 33 = .ok (.lload_n 3, 1) := zc1 (zc2 (zc2 (zc2 (zc2 (zc2 (zc2 zg08d00_4))))))
theorem dX12_feed_34 : decode cX12_feed 34 = .ok (.goto 5, 3) := zc1 (zc2 (zc2 (zc2 (zc2 (zc2 (zc2 (zc2 zg08d00_4)))))))
theorem dX12_feed_37 : decode cX12_feed 37 = .ok (.lload 5, 2) := zc1 (zc2 (zc2 (zc2 (zc2 (zc2 (zc2 (zc2 (zc2 zg08d00_4))))))))
theorem dX12_feed_39 : decode cX12_feed 39 = .ok (.lstore 8, 2) := zc1 (zc2 (zc2 (zc2 (zc2 (zc2 (zc2 (zc2 (zc2 (zc2 zg08d00_4)))))))))
theorem zg08d00_5 : zCj cX12_feed [(41, .lload 8, 2), (43, .bipush 56, 2), (45, .bipush 8, 2), (47, .iload 7, 2), (49, .bipush 7, 2), (51, .iand, 1), (52, .imul, 1), (53, .isub, 1), (54, .lushr, 1), (55, .ldc2_w 133, 3)] := zCo _ 41 (by decide +kernel)
theorem dX12_feed_41 : decode cX12_feed 41 = .ok (.lload 8, 2) := zc1 zg08d00_5
theorem dX12_feed_43 : decode cX12_feed 43 = .ok (.bipush 56, 2) := zc1 (zc2 zg08d00_5)
theorem dX12_feed_45 : decode cX12_feed 45 = .ok (.bipush 8, 2) := zc1 (zc2 (zc2 zg08d00_5))
theorem dX12_feed_47 : decode cX12_feed 47 = .ok (.iload 7, 2) := zc1 (zc2 (zc2 (zc2 zg08d00_5)))
theorem dX12_feed_49 : decode cX12_feed 49 = .ok (.bipush 7, 2) := zc1 (zc2 (zc2 (zc2 (zc2 zg08d00_5))))
theorem dX12_feed_51 : decode cX12_feed 51 = .ok (.iand, 1) := zc1 (zc2 (zc2 (zc2 (zc2 (zc2 zg08d00_5)))))
theorem dX12_feed_52 : decode cX12_feed 52 = .ok (.imul, 1) := zc1 (zc2 (zc2 (zc2 (zc2 (zc2 (zc2 zg08d00_5))))))
theorem dX12_feed_53 : decode cX12_feed 53 = .ok (.isub, 1) := zc1 (zc2 (zc2 (zc2 (zc2 (zc2 (zc2 (zc2 zg08d00_5)))))))
theorem dX12_feed_54 : decode cX12_feed 54 = .ok (.lushr, 1) := zc1 (zc2 (zc2 (zc2 (zc2 (zc2 (zc2 (zc2 (zc2 zg08d00_5))))))))
theorem dX12_feed_55 : decode cX12_feed 55 = .ok (.ldc2_w 133, 3) := zc1 (zc2 (zc2 (zc2 (zc2 (zc2 (zc2 (zc2 (zc2 (zc2 zg08d00_5)))))))))
theorem zg08d00_6 : zCj cX12_feed [(58, .land, 1), (59, .l2i, 1), (60, .istore 10, 2), (62, .aload_n 0, 1), (63, .getfield 135, 3), (66, .sipush 1000, 3), (69, .if_icmp .ge 45, 3), (72, .iload 10, 2), (74, .bipush 10, 2), (76, .if_icmp .eq 17, 3)] := zCo _ 58 (by decide +kernel)
theorem dX12_feed_58 : decode cX12_feed 58 = .ok (.land, 1) := zc1 zg08d00_6
theorem dX12_feed_59 : decode cX12_feed 59 = .ok (.l2i, 1) := zc1 (zc2 zg08d00_6)
theorem dX12_feed_60 : decode cX12_feed 60 = .ok (.istore 10, 2) := zc1 (zc2 (zc2 zg08d00_6))
theorem dX12_feed_62 : decode cX12_feed 62 = .ok (.aload_n 0, 1) := zc1 (zc2 (zc2 (zc2 zg08d00_6)))
theorem dX12_feed_63 : decode cX12_feed 63 = .ok (.getfield 135, 3) := zc1 (zc2 (zc2 (zc2 (zc2 zg08d00_6))))
theorem dX12_feed_66 : decode cX12_feed 66 = .ok (.sipush 1000, 3) := zc1 (zc2 (zc2 (zc2 (zc2 (zc2 zg08d00_6)))))
theorem dX12_feed_69 : decode cX12_feed 69 = .ok (.if_icmp .ge 45, 3) := zc1 (zc2 (zc2 (zc2 (zc2 (zc2 (zc2 zg08d00_6))))))
theorem dX12_feed_72 : decode cX12_feed 72 = .ok (.iload 10, 2) := zc1 (zc2 (zc2 (zc2 (zc2 (zc2 (zc2 (zc2 zg08d00_6)))))))
theorem dX12_feed_74 : decode cX12_feed 74 = .ok (.bipush 10, 2) := zc1 (zc2 (zc2 (zc2 (zc2 (zc2 (zc2 (zc2 (zc2 zg08d00_6))))))))
theorem dX12_feed_76 : decode cX12_feed 76 = .ok (.if_icmp .eq 17, 3) := zc1 (zc2 (zc2 (zc2 (zc2 (zc2 (zc2 (zc2 (zc2 (zc2 zg08d00_6)))))))))
theorem zg08d00_7 : zCj cX12_feed [(79, .iload 10, 2), (81, .bipush 32, 2), (83, .if_icmp .lt 31, 3), (86, .iload 10, 2), (88, .bipush 126, 2), (90, .if_icmp .gt 24, 3), (93, .aload_n 0, 1), (94, .getfield 7, 3), (97, .aload_n 0, 1), (98, .getfield 135, 3)] := zCo _ 79 (by decide +kernel)
theorem dX12_feed_79 : decode cX12_feed 79 = .ok (.iload 10, 2) := zc1 zg08d00_7
theorem dX12_feed_81 : decode cX12_feed 81 = .ok (.bipush 32, 2) := zc1 (zc2 zg08d00_7)
theorem dX12_feed_83 : decode cX12_feed 83 = .ok (.if_icmp .lt 31, 3) := zc1 (zc2 (zc2 zg08d00_7))
theorem dX12_feed_86 : decode cX12_feed 86 = .ok (.iload 10, 2) := zc1 (zc2 (zc2 (zc2 zg08d00_7)))
theorem dX12_feed_88 : decode cX12_feed 88 = .ok (.bipush 126, 2) := zc1 (zc2 (zc2 (zc2 (zc2 zg08d00_7))))
theorem dX12_feed_90 : decode cX12_feed 90 = .ok (.if_icmp .gt 24, 3) := zc1 (zc2 (zc2 (zc2 (zc2 (zc2 zg08d00_7)))))
theorem dX12_feed_93 : decode cX12_feed 93 = .ok (.aload_n 0, 1) := zc1 (zc2 (zc2 (zc2 (zc2 (zc2 (zc2 zg08d00_7))))))
theorem dX12_feed_94 : decode cX12_feed 94 = .ok (.getfield 7, 3) := zc1 (zc2 (zc2 (zc2 (zc2 (zc2 (zc2 (zc2 zg08d00_7)))))))
theorem dX12_feed_97 : decode cX12_feed 97 = .ok (.aload_n 0, 1) := zc1 (zc2 (zc2 (zc2 (zc2 (zc2 (zc2 (zc2 (zc2 zg08d00_7))))))))
theorem dX12_feed_98 : decode cX12_feed 98 = .ok (.getfield 135, 3) := zc1 (zc2 (zc2 (zc2 (zc2 (zc2 (zc2 (zc2 (zc2 (zc2 zg08d00_7)))))))))
theorem zg08d00_8 : zCj cX12_feed [(101, .iload 10, 2), (103, .iastore, 1), (104, .aload_n 0, 1), (105, .dup, 1), (106, .getfield 135, 3), (109, .iconst 1, 1), (110, .iadd, 1), (111, .putfield 135, 3), (114, .iinc 7 1, 3), (117, .goto (-109), 3)] := zCo _ 101 (by decide +kernel)
theorem dX12_feed_101 : decode cX12_feed 101 = .ok (.iload 10, 2) := zc1 zg08d00_8
theorem dX12_feed_103 : decode cX12_feed 103 = .ok (.iastore, 1) := zc1 (zc2 zg08d00_8)
theorem dX12_feed_104 : decode cX12_feed 104 = .ok (.aload_n 0, 1) := zc1 (zc2 (zc2 zg08d00_8))
theorem dX12_feed_105 : decode cX12_feed 105 = .ok (.dup, 1) := zc1 (zc2 (zc2 (zc2 zg08d00_8)))
theorem dX12_feed_106 : decode cX12_feed 106 = .ok (.getfield 135, 3) := zc1 (zc2 (zc2 (zc2 (zc2 zg08d00_8))))
theorem dX12_feed_109 : decode cX12_feed 109 = .ok (.iconst 1, 1) := zc1 (zc2 (zc2 (zc2 (zc2 (zc2 zg08d00_8)))))
theorem dX12_feed_110 : decode cX12_feed 110 = .ok (.iadd, 1) := zc1 (zc2 (zc2 (zc2 (zc2 (zc2 (zc2 zg08d00_8))))))
theorem dX12_feed_111 : decode cX12_feed 111 = .ok (.putfield 135, 3) := zc1 (zc2 (zc2 (zc2 (zc2 (zc2 (zc2 (zc2 zg08d00_8)))))))
theorem dX12_feed_114 : decode cX12_feed 114 = .ok (.iinc 7 1, 3) := zc1 (zc2 (zc2 (zc2 (zc2 (zc2 (zc2 (zc2 (zc2 zg08d00_8))))))))
theorem dX12_feed_117 : decode cX12_feed 117 = .ok (.goto (-109), 3) := zc1 (zc2 (zc2 (zc2 (zc2 (zc2 (zc2 (zc2 (zc2 (zc2 zg08d00_8)))))))))
theorem zg08d00_9 : zCj cX12_feed [(120, .aload_n 0, 1), (121, .getfield 135, 3), (124, .ireturn, 1)] := zCo _ 120 (by decide +kernel)
theorem dX12_feed_120 : decode cX12_feed 120 = .ok (.aload_n 0, 1) := zc1 zg08d00_9
theorem dX12_feed_121 : decode cX12_feed 121 = .ok (.getfield 135, 3) := zc1 (zc2 zg08d00_9)
theorem dX12_feed_124 : decode cX12_feed 124 = .ok (.ireturn, 1) := zc1 (zc2 (zc2 zg08d00_9))
theorem zg08d00_10 : zCj cX12_signAt [(0, .iload_n 1, 1), (1, .aload_n 0, 1), (2, .getfield 138, 3), (5, .if_icmp .ge 12, 3), (8, .aload_n 0, 1), (9, .getfield 7, 3), (12, .iload_n 1, 1), (13, .iaload, 1), (14, .goto 4, 3), (17, .iconst 0, 1)] := zCo _ 0 (by decide +kernel)
theorem dX12_signAt_0 : decode cX12_signAt 0 = .ok (.iload_n 1, 1) := zc1 zg08d00_10
theorem dX12_signAt_1 : decode cX12_signAt 1 = .ok (.aload_n 0, 1) := zc1 (zc2 zg08d00_10)
theorem dX12_signAt_2 : decode cX12_signAt 2 = .ok (.getfield 138, 3) := zc1 (zc2 (zc2 zg08d00_10))
theorem dX12_signAt_5 : decode cX12_signAt 5 = .ok (.if_icmp .ge 12, 3) := zc1 (zc2 (zc2 (zc2 zg08d00_10)))
theorem dX12_signAt_8 : decode cX12_signAt 8 = .ok (.aload_n 0, 1) := zc1 (zc2 (zc2 (zc2 (zc2 zg08d00_10))))
theorem dX12_signAt_9 : decode cX12_signAt 9 = .ok (.getfield 7, 3) := zc1 (zc2 (zc2 (zc2 (zc2 (zc2 zg08d00_10)))))
theorem dX12_signAt_12 : decode cX12_signAt 12 = .ok (.iload_n 1, 1) := zc1 (zc2 (zc2 (zc2 (zc2 (zc2 (zc2 zg08d00_10))))))
theorem dX12_signAt_13 : decode cX12_signAt 13 = .ok (.iaload, 1) := zc1 (zc2 (zc2 (zc2 (zc2 (zc2 (zc2 (zc2 zg08d00_10)))))))
theorem dX12_signAt_14 : decode cX12_signAt 14 = .ok (.goto 4, 3) := zc1 (zc2 (zc2 (zc2 (zc2 (zc2 (zc2 (zc2 (zc2 zg08d00_10))))))))
theorem dX12_signAt_17 : decode cX12_signAt 17 = .ok (.iconst 0, 1) := zc1 (zc2 (zc2 (zc2 (zc2 (zc2 (zc2 (zc2 (zc2 (zc2 zg08d00_10)))))))))
theorem dX12_signAt_18 : decode cX12_signAt 18 = .ok (.ireturn, 1) := by decide +kernel
theorem zg08d00_11 : zCj cX12_nextToken [(0, .aload_n 0, 1), (1, .getfield 141, 3), (4, .aload_n 0, 1), (5, .getfield 138, 3), (8, .if_icmp .ge 44, 3), (11, .aload_n 0, 1), (12, .getfield 7, 3), (15, .aload_n 0, 1), (16, .getfield 141, 3), (19, .iaload, 1)] := zCo _ 0 (by decide +kernel)
theorem dX12_nextToken_0 : decode cX12_nextToken 0 = .ok (.aload_n 0, 1) := zc1 zg08d00_11
theorem dX12_nextToken_1 : decode cX12_nextToken 1 = .ok (.getfield 141, 3) := zc1 (zc2 zg08d00_11)
theorem dX12_nextToken_4 : decode cX12_nextToken 4 = .ok (.aload_n 0, 1) := zc1 (zc2 (zc2 zg08d00_11))
theorem dX12_nextToken_5 : decode cX12_nextToken 5 = .ok (.getfield 138, 3) := zc1 (zc2 (zc2 (zc2 zg08d00_11)))
theorem dX12_nextToken_8 : decode cX12_nextToken 8 = .ok (.if_icmp .ge 44, 3) := zc1 (zc2 (zc2 (zc2 (zc2 zg08d00_11))))
theorem dX12_nextToken_11 : decode cX12_nextToken 11 = .ok (.aload_n 0, 1) := zc1 (zc2 (zc2 (zc2 (zc2 (zc2 zg08d00_11)))))
theorem dX12_nextToken_12 : decode cX12_nextToken 12 = .ok (.getfield 7, 3) := zc1 (zc2 (zc2 (zc2 (zc2 (zc2 (zc2 zg08d00_11))))))
theorem dX12_nextToken_15 : decode cX12_nextToken 15 = .ok (.aload_n 0, 1) := zc1 (zc2 (zc2 (zc2 (zc2 (zc2 (zc2 (zc2 zg08d00_11)))))))
theorem dX12_nextToken_16 : decode cX12_nextToken 16 = .ok (.getfield 141, 3) := zc1 (zc2 (zc2 (zc2 (zc2 (zc2 (zc2 (zc2 (zc2 zg08d00_11))))))))
theorem dX12_nextToken_19 : decode cX12_nextToken 19 = .ok (.iaload, 1) := zc1 (zc2 (zc2 (zc2 (zc2 (zc2 (zc2 (zc2 (zc2 (zc2 zg08d00_11)))))))))
theorem zg08d00_12 : zCj cX12_nextToken [(20, .bipush 32, 2), (22, .if_icmp .eq 17, 3), (25, .aload_n 0, 1), (26, .getfield 7, 3), (29, .aload_n 0, 1), (30, .getfield 141, 3), (33, .iaload, 1), (34, .bipush 10, 2), (36, .if_icmp .ne 16, 3), (39, .aload_n 0, 1)] := zCo _ 20 (by decide +kernel)
theorem dX12_nextToken_20 : decode cX12_nextToken 20 = .ok (.bipush 32, 2) := zc1 zg08d00_12
theorem dX12_nextToken_22 : decode cX12_nextToken 22 = .ok (.if_icmp .eq 17, 3) := zc1 (zc2 zg08d00_12)
theorem dX12_nextToken_25 : decode cX12_nextToken 25 = .ok (.aload_n 0, 1) := zc1 (zc2 (zc2 zg08d00_12))
theorem dX12_nextToken_26 : decode cX12_nextToken 26 = .ok (.getfield 7, 3) := zc1 (zc2 (zc2 (zc2 zg08d00_12)))
theorem dX12_nextToken_29 : decode cX12_nextToken 29 = .ok (.aload_n 0, 1) := zc1 (zc2 (zc2 (zc2 (zc2 zg08d00_12))))
theorem dX12_nextToken_30 : decode cX12_nextToken 30 = .ok (.getfield 141, 3) := zc1 (zc2 (zc2 (zc2 (zc2 (zc2 zg08d00_12)))))
theorem dX12_nextToken_33 : decode cX12_nextToken 33 = .ok (.iaload, 1) := zc1 (zc2 (zc2 (zc2 (zc2 (zc2 (zc2 zg08d00_12))))))
theorem dX12_nextToken_34 : decode cX12_nextToken 34 = .ok (.bipush 10, 2) := zc1 (zc2 (zc2 (zc2 (zc2 (zc2 (zc2 (zc2 zg08d00_12)))))))
theorem dX12_nextToken_36 : decode cX12_nextToken 36 = .ok (.if_icmp .ne 16, 3) := zc1 (zc2 (zc2 (zc2 (zc2 (zc2 (zc2 (zc2 (zc2 zg08d00_12))))))))
theorem dX12_nextToken_39 : decode cX12_nextToken 39 = .ok (.aload_n 0, 1) := zc1 (zc2 (zc2 (zc2 (zc2 (zc2 (zc2 (zc2 (zc2 (zc2 zg08d00_12)))))))))
theorem zg08d00_13 : zCj cX12_nextToken [(40, .dup, 1), (41, .getfield 141, 3), (44, .iconst 1, 1), (45, .iadd, 1), (46, .putfield 141, 3), (49, .goto (-49), 3), (52, .aload_n 0, 1), (53, .aload_n 0, 1), (54, .getfield 141, 3), (57, .putfield 144, 3)] := zCo _ 40 (by decide +kernel)
theorem dX12_nextToken_40 : decode cX12_nextToken 40 = .ok (.dup, 1) := zc1 zg08d00_13
theorem dX12_nextToken_41 : decode cX12_nextToken 41 = .ok (.getfield 141, 3) := zc1 (zc2 zg08d00_13)
theorem dX12_nextToken_44 : decode cX12_nextToken 44 = .ok (.iconst 1, 1) := zc1 (zc2 (zc2 zg08d00_13))
theorem dX12_nextToken_45 : decode cX12_nextToken 45 = .ok (.iadd, 1) := zc1 (zc2 (zc2 (zc2 zg08d00_13)))
theorem dX12_nextToken_46 : decode cX12_nextToken 46 = .ok (.putfield 141, 3) := zc1 (zc2 (zc2 (zc2 (zc2 zg08d00_13))))
theorem dX12_nextToken_49 : decode cX12_nextToken 49 = .ok (.goto (-49), 3) := zc1 (zc2 (zc2 (zc2 (zc2 (zc2 zg08d00_13)))))
theorem dX12_nextToken_52 : decode cX12_nextToken 52 = .ok (.aload_n 0, 1) := zc1 (zc2 (zc2 (zc2 (zc2 (zc2 (zc2 zg08d00_13))))))
theorem dX12_nextToken_53 : decode cX12_nextToken 53 = .ok (.aload_n 0, 1) := zc1 (zc2 (zc2 (zc2 (zc2 (zc2 (zc2 (zc2 zg08d00_13)))))))
theorem dX12_nextToken_54 : decode cX12_nextToken 54 = .ok (.getfield 141, 3) := zc1 (zc2 (zc2 (zc2 (zc2 (zc2 (zc2 (zc2 (zc2 zg08d00_13))))))))
theorem dX12_nextToken_57 : decode cX12_nextToken 57 = .ok (.putfield 144, 3) := zc1 (zc2 (zc2 (zc2 (zc2 (zc2 (zc2 (zc2 (zc2 (zc2 zg08d00_13)))))))))
theorem zg08d00_14 : zCj cX12_nextToken [(60, .aload_n 0, 1), (61, .lconst 0, 1), (62, .putfield 147, 3), (65, .aload_n 0, 1), (66, .iconst 0, 1), (67, .putfield 151, 3), (70, .aload_n 0, 1), (71, .getfield 141, 3), (74, .aload_n 0, 1), (75, .getfield 138, 3)] := zCo _ 60 (by decide +kernel)
theorem dX12_nextToken_60 : decode cX12_nextToken 60 = .ok (.aload_n 0, 1) := zc1 zg08d00_14
theorem dX12_nextToken_61 : decode cX12_nextToken 61 = .ok (.lconst 0, 1) := zc1 (zc2 zg08d00_14)
theorem dX12_nextToken_62 : decode cX12_nextToken 62 = .ok (.putfield 147, 3) := zc1 (zc2 (zc2 zg08d00_14))
theorem dX12_nextToken_65 : decode cX12_nextToken 65 = .ok (.aload_n 0, 1) := zc1 (zc2 (zc2 (zc2 zg08d00_14)))
theorem dX12_nextToken_66 : decode cX12_nextToken 66 = .ok (.iconst 0, 1) := zc1 (zc2 (zc2 (zc2 (zc2 zg08d00_14))))
theorem dX12_nextToken_67 : decode cX12_nextToken 67 = .ok (.putfield 151, 3) := zc1 (zc2 (zc2 (zc2 (zc2 (zc2 zg08d00_14)))))
theorem dX12_nextToken_70 : decode cX12_nextToken 70 = .ok (.aload_n 0, 1) := zc1 (zc2 (zc2 (zc2 (zc2 (zc2 (zc2 zg08d00_14))))))
theorem dX12_nextToken_71 : decode cX12_nextToken 71 = .ok (.getfield 141, 3) := zc1 (zc2 (zc2 (zc2 (zc2 (zc2 (zc2 (zc2 zg08d00_14)))))))
theorem dX12_nextToken_74 : decode cX12_nextToken 74 = .ok (.aload_n 0, 1) := zc1 (zc2 (zc2 (zc2 (zc2 (zc2 (zc2 (zc2 (zc2 zg08d00_14))))))))
theorem dX12_nextToken_75 : decode cX12_nextToken 75 = .ok (.getfield 138, 3) := zc1 (zc2 (zc2 (zc2 (zc2 (zc2 (zc2 (zc2 (zc2 (zc2 zg08d00_14)))))))))
theorem zg08d00_15 : zCj cX12_nextToken [(78, .if_icmp .ne 9, 3), (81, .aload_n 0, 1), (82, .iconst 0, 1), (83, .putfield 154, 3), (86, .return_, 1), (87, .aload_n 0, 1), (88, .getfield 7, 3), (91, .aload_n 0, 1), (92, .getfield 141, 3), (95, .iaload, 1)] := zCo _ 78 (by decide +kernel)
theorem dX12_nextToken_78 : decode cX12_nextToken 78 = .ok (.if_icmp .ne 9, 3) := zc1 zg08d00_15
theorem dX12_nextToken_81 : decode cX12_nextToken 81 = .ok (.aload_n 0, 1) := zc1 (zc2 zg08d00_15)
theorem dX12_nextToken_82 : decode cX12_nextToken 82 = .ok (.iconst 0, 1) := zc1 (zc2 (zc2 zg08d00_15))
theorem dX12_nextToken_83 : decode cX12_nextToken 83 = .ok (.putfield 154, 3) := zc1 (zc2 (zc2 (zc2 zg08d00_15)))
theorem dX12_nextToken_86 : decode cX12_nextToken 86 = .ok (.return_, 1) := zc1 (zc2 (zc2 (zc2 (zc2 zg08d00_15))))
theorem dX12_nextToken_87 : decode cX12_nextToken 87 = .ok (.aload_n 0, 1) := zc1 (zc2 (zc2 (zc2 (zc2 (zc2 zg08d00_15)))))
theorem dX12_nextToken_88 : decode cX12_nextToken 88 = .ok (.getfield 7, 3) := zc1 (zc2 (zc2 (zc2 (zc2 (zc2 (zc2 zg08d00_15))))))
theorem dX12_nextToken_91 : decode cX12_nextToken 91 = .ok (.aload_n 0, 1) := zc1 (zc2 (zc2 (zc2 (zc2 (zc2 (zc2 (zc2 zg08d00_15)))))))
theorem dX12_nextToken_92 : decode cX12_nextToken 92 = .ok (.getfield 141, 3) := zc1 (zc2 (zc2 (zc2 (zc2 (zc2 (zc2 (zc2 (zc2 zg08d00_15))))))))
theorem dX12_nextToken_95 : decode cX12_nextToken 95 = .ok (.iaload, 1) := zc1 (zc2 (zc2 (zc2 (zc2 (zc2 (zc2 (zc2 (zc2 (zc2 zg08d00_15)))))))))
theorem zg08d00_16 : zCj cX12_nextToken [(96, .istore_n 1, 1), (97, .iload_n 1, 1), (98, .bipush 97, 2), (100, .if_icmp .lt 112, 3), (103, .iload_n 1, 1), (104, .bipush 122, 2), (106, .if_icmp .gt 106, 3), (109, .aload_n 0, 1), (110, .aload_n 0, 1), (111, .getfield 141, 3)] := zCo _ 96 (by decide +kernel)
theorem dX12_nextToken_96 : decode cX12_nextToken 96 = .ok (.istore_n 1, 1) := zc1 zg08d00_16
theorem dX12_nextToken_97 : decode cX12_nextToken 97 = .ok (.iload_n 1, 1) := zc1 (zc2 zg08d00_16)
theorem dX12_nextToken_98 : decode cX12_nextToken 98 = .ok (.bipush 97, 2) := zc1 (zc2 (zc2 zg08d00_16))
theorem dX12_nextToken_100 : decode cX12_nextToken 100 = .ok (.if_icmp .lt 112, 3) := zc1 (zc2 (zc2 (zc2 zg08d00_16)))
theorem dX12_nextToken_103 : decode cX12_nextToken 103 = .ok (.iload_n 1, 1) := zc1 (zc2 (zc2 (zc2 (zc2 zg08d00_16))))
theorem dX12_nextToken_104 : decode cX12_nextToken 104 = .ok (.bipush 122, 2) := zc1 (zc2 (zc2 (zc2 (zc2 (zc2 zg08d00_16)))))
theorem dX12_nextToken_106 : decode cX12_nextToken 106 = .ok (.if_icmp .gt 106, 3) := zc1 (zc2 (zc2 (zc2 (zc2 (zc2 (zc2 zg08d00_16))))))
theorem dX12_nextToken_109 : decode cX12_nextToken 109 = .ok (.aload_n 0, 1) := zc1 (zc2 (zc2 (zc2 (zc2 (zc2 (zc2 (zc2 zg08d00_16)))))))
theorem dX12_nextToken_110 : decode cX12_nextToken 110 = .ok (.aload_n 0, 1) := zc1 (zc2 (zc2 (zc2 (zc2 (zc2 (zc2 (zc2 (zc2 zg08d00_16))))))))
theorem dX12_nextToken_111 : decode cX12_nextToken 111 = .ok (.getfield 141, 3) := zc1 (zc2 (zc2 (zc2 (zc2 (zc2 (zc2 (zc2 (zc2 (zc2 zg08d00_16)))))))))
theorem zg08d00_17 : zCj cX12_nextToken [(114, .invokevirtual 157, 3), (117, .bipush 97, 2), (119, .if_icmp .lt 69, 3), (122, .aload_n 0, 1), (123, .aload_n 0, 1), (124, .getfield 141, 3), (127, .invokevirtual 157, 3), (130, .bipush 122, 2), (132, .if_icmp .gt 56, 3), (135, .aload_n 0, 1)] := zCo _ 114 (by decide +kernel)
theorem dX12_nextToken_114 : decode cX12_nextToken 114 = .ok (.invokevirtual 157, 3) := zc1 zg08d00_17
theorem dX12_nextToken_117 : decode cX12_nextToken 117 = .ok (.bipush 97, 2) := zc1 (zc2 zg08d00_17)
theorem dX12_nextToken_119 : decode cX12_nextToken 119 = .ok (.if_icmp .lt 69, 3) := zc1 (zc2 (zc2 zg08d00_17))
theorem dX12_nextToken_122 : decode cX12_nextToken 122 = .ok (.aload_n 0, 1) := zc1 (zc2 (zc2 (zc2 zg08d00_17)))
theorem dX12_nextToken_123 : decode cX12_nextToken 123 = .ok (.aload_n 0, 1) := zc1 (zc2 (zc2 (zc2 (zc2 zg08d00_17))))
theorem dX12_nextToken_124 : decode cX12_nextToken 124 = .ok (.getfield 141, 3) := zc1 (zc2 (zc2 (zc2 (zc2 (zc2 zg08d00_17)))))
theorem dX12_nextToken_127 : decode cX12_nextToken 127 = .ok (.invokevirtual 157, 3) := zc1 (zc2 (zc2 (zc2 (zc2 (zc2 (zc2 zg08d00_17))))))
theorem dX12_nextToken_130 : decode cX12_nextToken 130 = .ok (.bipush 122, 2) := zc1 (zc2 (zc2 (zc2 (zc2 (zc2 (zc2 (zc2 zg08d00_17)))))))
theorem dX12_nextToken_132 : decode cX12_nextToken 132 = .ok (.if_icmp .gt 56, 3) := zc1 (zc2 (zc2 (zc2 (zc2 (zc2 (zc2 (zc2 (zc2 zg08d00_17))))))))
theorem dX12_nextToken_135 : decode cX12_nextToken 135 = .ok (.aload_n 0, 1) := zc1 (zc2 (zc2 (zc2 (zc2 (zc2 (zc2 (zc2 (zc2 (zc2 zg08d00_17)))))))))
theorem zg08d00_18 : zCj cX12_nextToken [(136, .getfield 141, 3), (139, .aload_n 0, 1), (140, .getfield 144, 3), (143, .isub, 1), (144, .bipush 8, 2), (146, .if_icmp .ge 29, 3), (149, .aload_n 0, 1), (150, .aload_n 0, 1), (151, .getfield 147, 3), (154, .ldc2_w 161, 3)] := zCo _ 136 (by decide +kernel)
theorem dX12_nextToken_136 : decode cX12_nextToken 136 = .ok (.getfield 141, 3) := zc1 zg08d00_18
theorem dX12_nextToken_139 : decode cX12_nextToken 139 = .ok (.aload_n 0, 1) := zc1 (zc2 zg08d00_18)
theorem dX12_nextToken_140 : decode cX12_nextToken 140 = .ok (.getfield 144, 3) := zc1 (zc2 (zc2 zg08d00_18))
theorem dX12_nextToken_143 : decode cX12_nextToken 143 = .ok (.isub, 1) := zc1 (zc2 (zc2 (zc2 zg08d00_18)))
theorem dX12_nextToken_144 : decode cX12_nextToken 144 = .ok (.bipush 8, 2) := zc1 (zc2 (zc2 (zc2 (zc2 zg08d00_18))))
theorem dX12_nextToken_146 : decode cX12_nextToken 146 = .ok (.if_icmp .ge 29, 3) := zc1 (zc2 (zc2 (zc2 (zc2 (zc2 zg08d00_18)))))
theorem dX12_nextToken_149 : decode cX12_nextToken 149 = .ok (.aload_n 0, 1) := zc1 (zc2 (zc2 (zc2 (zc2 (zc2 (zc2 zg08d00_18))))))
theorem dX12_nextToken_150 : decode cX12_nextToken 150 = .ok (.aload_n 0, 1) := zc1 (zc2 (zc2 (zc2 (zc2 (zc2 (zc2 (zc2 zg08d00_18)))))))
theorem dX12_nextToken_151 : decode cX12_nextToken 151 = .ok (.getfield 147, 3) := zc1 (zc2 (zc2 (zc2 (zc2 (zc2 (zc2 (zc2 (zc2 zg08d00_18))))))))
theorem dX12_nextToken_154 : decode cX12_nextToken 154 = .ok (.ldc2_w 161, 3) := zc1 (zc2 (zc2 (zc2 (zc2 (zc2 (zc2 (zc2 (zc2 (zc2 zg08d00_18)))))))))
theorem zg08d00_19 : zCj cX12_nextToken [(157, .lmul, 1), (158, .aload_n 0, 1), (159, .aload_n 0, 1), (160, .getfield 141, 3), (163, .invokevirtual 157, 3), (166, .i2l, 1), (167, .ladd, 1), (168, .ldc2_w 163, 3), (171, .lsub, 1), (172, .putfield 147, 3)] := zCo _ 157 (by decide +kernel)
theorem dX12_nextToken_157 : decode cX12_nextToken 157 = .ok (.lmul, 1) := zc1 zg08d00_19
theorem dX12_nextToken_158 : decode cX12_nextToken 158 = .ok (.aload_n 0, 1) := zc1 (zc2 zg08d00_19)
theorem dX12_nextToken_159 : decode cX12_nextToken 159 = .ok (.aload_n 0, 1) := zc1 (zc2 (zc2 zg08d00_19))
theorem dX12_nextToken_160 : decode cX12_nextToken 160 = .ok (.getfield 141, 3) := zc1 (zc2 (zc2 (zc2 zg08d00_19)))
theorem dX12_nextToken_163 : decode cX12_nextToken 163 = .ok (.invokevirtual 157, 3) := zc1 (zc2 (zc2 (zc2 (zc2 zg08d00_19))))
theorem dX12_nextToken_166 : decode cX12_nextToken 166 = .ok (.i2l, 1) := zc1 (zc2 (zc2 (zc2 (zc2 (zc2 zg08d00_19)))))
theorem dX12_nextToken_167 : decode cX12_nextToken 167 = .ok (.ladd, 1) := zc1 (zc2 (zc2 (zc2 (zc2 (zc2 (zc2 zg08d00_19))))))
theorem dX12_nextToken_168 : decode cX12_nextToken 168 = .ok (.ldc2_w 163, 3) := zc1 (zc2 (zc2 (zc2 (zc2 (zc2 (zc2 (zc2 zg08d00_19)))))))
theorem dX12_nextToken_171 : decode cX12_nextToken 171 = .ok (.lsub, 1) := zc1 (zc2 (zc2 (zc2 (zc2 (zc2 (zc2 (zc2 (zc2 zg08d00_19))))))))
theorem dX12_nextToken_172 : decode cX12_nextToken 172 = .ok (.putfield 147, 3) := zc1 (zc2 (zc2 (zc2 (zc2 (zc2 (zc2 (zc2 (zc2 (zc2 zg08d00_19)))))))))
theorem zg08d00_20 : zCj cX12_nextToken [(175, .aload_n 0, 1), (176, .dup, 1), (177, .getfield 141, 3), (180, .iconst 1, 1), (181, .iadd, 1), (182, .putfield 141, 3), (185, .goto (-76), 3), (188, .aload_n 0, 1), (189, .aload_n 0, 1), (190, .getfield 141, 3)] := zCo _ 175 (by decide +kernel)
theorem dX12_nextToken_175 : decode cX12_nextToken 175 = .ok (.aload_n 0, 1) := zc1 zg08d00_20
theorem dX12_nextToken_176 : decode cX12_nextToken 176 = .ok (.dup, 1) := zc1 (zc2 zg08d00_20)
theorem dX12_nextToken_177 : decode cX12_nextToken 177 = .ok (.getfield 141, 3) := zc1 (zc2 (zc2 zg08d00_20))
theorem dX12_nextToken_180 : decode cX12_nextToken 180 = .ok (.iconst 1, 1) := zc1 (zc2 (zc2 (zc2 zg08d00_20)))
theorem dX12_nextToken_181 : decode cX12_nextToken 181 = .ok (.iadd, 1) := zc1 (zc2 (zc2 (zc2 (zc2 zg08d00_20))))
theorem dX12_nextToken_182 : decode cX12_nextToken 182 = .ok (.putfield 141, 3) := zc1 (zc2 (zc2 (zc2 (zc2 (zc2 zg08d00_20)))))
theorem dX12_nextToken_185 : decode cX12_nextToken 185 = .ok (.goto (-76), 3) := zc1 (zc2 (zc2 (zc2 (zc2 (zc2 (zc2 zg08d00_20))))))
theorem dX12_nextToken_188 : decode cX12_nextToken 188 = .ok (.aload_n 0, 1) := zc1 (zc2 (zc2 (zc2 (zc2 (zc2 (zc2 (zc2 zg08d00_20)))))))
theorem dX12_nextToken_189 : decode cX12_nextToken 189 = .ok (.aload_n 0, 1) := zc1 (zc2 (zc2 (zc2 (zc2 (zc2 (zc2 (zc2 (zc2 zg08d00_20))))))))
theorem dX12_nextToken_190 : decode cX12_nextToken 190 = .ok (.getfield 141, 3) := zc1 (zc2 (zc2 (zc2 (zc2 (zc2 (zc2 (zc2 (zc2 (zc2 zg08d00_20)))))))))
theorem zg08d00_21 : zCj cX12_nextToken [(193, .aload_n 0, 1), (194, .getfield 144, 3), (197, .isub, 1), (198, .bipush 8, 2), (200, .if_icmp .le 7, 3), (203, .iconst 4, 1), (204, .goto 4, 3), (207, .iconst 1, 1), (208, .putfield 154, 3), (211, .return_, 1)] := zCo _ 193 (by decide +kernel)
theorem dX12_nextToken_193 : decode cX12_nextToken 193 = .ok (.aload_n 0, 1) := zc1 zg08d00_21
theorem dX12_nextToken_194 : decode cX12_nextToken 194 = .ok (.getfield 144, 3) := zc1 (zc2 zg08d00_21)
theorem dX12_nextToken_197 : decode cX12_nextToken 197 = .ok (.isub, 1) := zc1 (zc2 (zc2 zg08d00_21))
theorem dX12_nextToken_198 : decode cX12_nextToken 198 = .ok (.bipush 8, 2) := zc1 (zc2 (zc2 (zc2 zg08d00_21)))
theorem dX12_nextToken_200 : decode cX12_nextToken 200 = .ok (.if_icmp .le 7, 3) := zc1 (zc2 (zc2 (zc2 (zc2 zg08d00_21))))
theorem dX12_nextToken_203 : decode cX12_nextToken 203 = .ok (.iconst 4, 1) := zc1 (zc2 (zc2 (zc2 (zc2 (zc2 zg08d00_21)))))
theorem dX12_nextToken_204 : decode cX12_nextToken 204 = .ok (.goto 4, 3) := zc1 (zc2 (zc2 (zc2 (zc2 (zc2 (zc2 zg08d00_21))))))
theorem dX12_nextToken_207 : decode cX12_nextToken 207 = .ok (.iconst 1, 1) := zc1 (zc2 (zc2 (zc2 (zc2 (zc2 (zc2 (zc2 zg08d00_21)))))))
theorem dX12_nextToken_208 : decode cX12_nextToken 208 = .ok (.putfield 154, 3) := zc1 (zc2 (zc2 (zc2 (zc2 (zc2 (zc2 (zc2 (zc2 zg08d00_21))))))))
theorem dX12_nextToken_211 : decode cX12_nextToken 211 = .ok (.return_, 1) := zc1 (zc2 (zc2 (zc2 (zc2 (zc2 (zc2 (zc2 (zc2 (zc2 zg08d00_21)))))))))
theorem zg08d00_22 : zCj cX12_nextToken [(212, .iload_n 1, 1), (213, .bipush 48, 2), (215, .if_icmp .lt 107, 3), (218, .iload_n 1, 1), (219, .bipush 57, 2), (221, .if_icmp .gt 101, 3), (224, .aload_n 0, 1), (225, .aload_n 0, 1), (226, .getfield 141, 3), (229, .invokevirtual 157, 3)] := zCo _ 212 (by decide +kernel)
theorem dX12_nextToken_212 : decode cX12_nextToken 212 = .ok (.iload_n 1, 1) := zc1 zg08d00_22
theorem dX12_nextToken_213 : decode cX12_nextToken 213 = .ok (.bipush 48, 2) := zc1 (zc2 zg08d00_22)
theorem dX12_nextToken_215 : decode cX12_nextToken 215 = .ok (.if_icmp .lt 107, 3) := zc1 (zc2 (zc2 zg08d00_22))
theorem dX12_nextToken_218 : decode cX12_nextToken 218 = .ok (.iload_n 1, 1) := zc1 (zc2 (zc2 (zc2 zg08d00_22)))
theorem dX12_nextToken_219 : decode cX12_nextToken 219 = .ok (.bipush 57, 2) := zc1 (zc2 (zc2 (zc2 (zc2 zg08d00_22))))
theorem dX12_nextToken_221 : decode cX12_nextToken 221 = .ok (.if_icmp .gt 101, 3) := zc1 (zc2 (zc2 (zc2 (zc2 (zc2 zg08d00_22)))))
theorem dX12_nextToken_224 : decode cX12_nextToken 224 = .ok (.aload_n 0, 1) := zc1 (zc2 (zc2 (zc2 (zc2 (zc2 (zc2 zg08d00_22))))))
theorem dX12_nextToken_225 : decode cX12_nextToken 225 = .ok (.aload_n 0, 1) := zc1 (zc2 (zc2 (zc2 (zc2 (zc2 (zc2 (zc2 zg08d00_22)))))))
theorem dX12_nextToken_226 : decode cX12_nextToken 226 = .ok (.getfield 141, 3) := zc1 (zc2 (zc2 (zc2 (zc2 (zc2 (zc2 (zc2 (zc2 zg08d00_22))))))))
theorem dX12_nextToken_229 : decode cX12_nextToken 229 = .ok (.invokevirtual 157, 3) := zc1 (zc2 (zc2 (zc2 (zc2 (zc2 (zc2 (zc2 (zc2 (zc2 zg08d00_22)))))))))
theorem zg08d00_23 : zCj cX12_nextToken [(232, .bipush 48, 2), (234, .if_icmp .lt 65, 3), (237, .aload_n 0, 1), (238, .aload_n 0, 1), (239, .getfield 141, 3), (242, .invokevirtual 157, 3), (245, .bipush 57, 2), (247, .if_icmp .gt 52, 3), (250, .aload_n 0, 1), (251, .getfield 141, 3)] := zCo _ 232 (by decide +kernel)
theorem dX12_nextToken_232 : decode cX12_nextToken 232 = .ok (.bipush 48, 2) := zc1 zg08d00_23
theorem dX12_nextToken_234 : decode cX12_nextToken 234 = .ok (.if_icmp .lt 65, 3) := zc1 (zc2 zg08d00_23)
theorem dX12_nextToken_237 : decode cX12_nextToken 237 = .ok (.aload_n 0, 1) := zc1 (zc2 (zc2 zg08d00_23))
theorem dX12_nextToken_238 : decode cX12_nextToken 238 = .ok (.aload_n 0, 1) := zc1 (zc2 (zc2 (zc2 zg08d00_23)))
theorem dX12_nextToken_239 : decode cX12_nextToken 239 = .ok (.getfield 141, 3) := zc1 (zc2 (zc2 (zc2 (zc2 zg08d00_23))))
theorem dX12_nextToken_242 : decode cX12_nextToken 242 = .ok (.invokevirtual 157, 3) := zc1 (zc2 (zc2 (zc2 (zc2 (zc2 zg08d00_23)))))
theorem dX12_nextToken_245 : decode cX12_nextToken 245 = .ok (.bipush 57, 2) := zc1 (zc2 (zc2 (zc2 (zc2 (zc2 (zc2 zg08d00_23))))))
theorem dX12_nextToken_247 : decode cX12_nextToken 247 = .ok (.if_icmp .gt 52, 3) := zc1 (zc2 (zc2 (zc2 (zc2 (zc2 (zc2 (zc2 zg08d00_23)))))))
theorem dX12_nextToken_250 : decode cX12_nextToken 250 = .ok (.aload_n 0, 1) := zc1 (zc2 (zc2 (zc2 (zc2 (zc2 (zc2 (zc2 (zc2 zg08d00_23))))))))
theorem dX12_nextToken_251 : decode cX12_nextToken 251 = .ok (.getfield 141, 3) := zc1 (zc2 (zc2 (zc2 (zc2 (zc2 (zc2 (zc2 (zc2 (zc2 zg08d00_23)))))))))
theorem zg08d00_24 : zCj cX12_nextToken [(254, .aload_n 0, 1), (255, .getfield 144, 3), (258, .isub, 1), (259, .iconst 4, 1), (260, .if_icmp .ge 26, 3), (263, .aload_n 0, 1), (264, .aload_n 0, 1), (265, .getfield 151, 3), (268, .bipush 10, 2), (270, .imul, 1)] := zCo _ 254 (by decide +kernel)
theorem dX12_nextToken_254 : decode cX12_nextToken 254 = .ok (.aload_n 0, 1) := zc1 zg08d00_24
theorem dX12_nextToken_255 : decode cX12_nextToken 255 = .ok (.getfield 144, 3) := zc1 (zc2 zg08d00_24)
theorem dX12_nextToken_258 : decode cX12_nextToken 258 = .ok (.isub, 1) := zc1 (zc2 (zc2 zg08d00_24))
theorem dX12_nextToken_259 : decode cX12_nextToken 259 = .ok (.iconst 4, 1) := zc1 (zc2 (zc2 (zc2 zg08d00_24)))
theorem dX12_nextToken_260 : decode cX12_nextToken 260 = .ok (.if_icmp .ge 26, 3) := zc1 (zc2 (zc2 (zc2 (zc2 zg08d00_24))))
theorem dX12_nextToken_263 : decode cX12_nextToken 263 = .ok (.aload_n 0, 1) := zc1 (zc2 (zc2 (zc2 (zc2 (zc2 zg08d00_24)))))
theorem dX12_nextToken_264 : decode cX12_nextToken 264 = .ok (.aload_n 0, 1) := zc1 (zc2 (zc2 (zc2 (zc2 (zc2 (zc2 zg08d00_24))))))
theorem dX12_nextToken_265 : decode cX12_nextToken 265 = .ok (.getfield 151, 3) := zc1 (zc2 (zc2 (zc2 (zc2 (zc2 (zc2 (zc2 zg08d00_24)))))))
theorem dX12_nextToken_268 : decode cX12_nextToken 268 = .ok (.bipush 10, 2) := zc1 (zc2 (zc2 (zc2 (zc2 (zc2 (zc2 (zc2 (zc2 zg08d00_24))))))))
theorem dX12_nextToken_270 : decode cX12_nextToken 270 = .ok (.imul, 1) := zc1 (zc2 (zc2 (zc2 (zc2 (zc2 (zc2 (zc2 (zc2 (zc2 zg08d00_24)))))))))
theorem zg08d00_25 : zCj cX12_nextToken [(271, .aload_n 0, 1), (272, .aload_n 0, 1), (273, .getfield 141, 3), (276, .invokevirtual 157, 3), (279, .iadd, 1), (280, .bipush 48, 2), (282, .isub, 1), (283, .putfield 151, 3), (286, .aload_n 0, 1), (287, .dup, 1)] := zCo _ 271 (by decide +kernel)
theorem dX12_nextToken_271 : decode cX12_nextToken 271 = .ok (.aload_n 0, 1) := zc1 zg08d00_25
theorem dX12_nextToken_272 : decode cX12_nextToken 272 = .ok (.aload_n 0, 1) := zc1 (zc2 zg08d00_25)
theorem dX12_nextToken_273 : decode cX12_nextToken 273 = .ok (.getfield 141, 3) := zc1 (zc2 (zc2 zg08d00_25))
theorem dX12_nextToken_276 : decode cX12_nextToken 276 = .ok (.invokevirtual 157, 3) := zc1 (zc2 (zc2 (zc2 zg08d00_25)))
theorem dX12_nextToken_279 : decode cX12_nextToken 279 = .ok (.iadd, 1) := zc1 (zc2 (zc2 (zc2 (zc2 zg08d00_25))))
theorem dX12_nextToken_280 : decode cX12_nextToken 280 = .ok (.bipush 48, 2) := zc1 (zc2 (zc2 (zc2 (zc2 (zc2 zg08d00_25)))))
theorem dX12_nextToken_282 : decode cX12_nextToken 282 = .ok (.isub, 1) := zc1 (zc2 (zc2 (zc2 (zc2 (zc2 (zc2 zg08d00_25))))))
theorem dX12_nextToken_283 : decode cX12_nextToken 283 = .ok (.putfield 151, 3) := zc1 (zc2 (zc2 (zc2 (zc2 (zc2 (zc2 (zc2 zg08d00_25)))))))
theorem dX12_nextToken_286 : decode cX12_nextToken 286 = .ok (.aload_n 0, 1) := zc1 (zc2 (zc2 (zc2 (zc2 (zc2 (zc2 (zc2 (zc2 zg08d00_25))))))))
theorem dX12_nextToken_287 : decode cX12_nextToken 287 = .ok (.dup, 1) := zc1 (zc2 (zc2 (zc2 (zc2 (zc2 (zc2 (zc2 (zc2 (zc2 zg08d00_25)))))))))
theorem zg08d00_26 : zCj cX12_nextToken [(288, .getfield 141, 3), (291, .iconst 1, 1), (292, .iadd, 1), (293, .putfield 141, 3), (296, .goto (-72), 3), (299, .aload_n 0, 1), (300, .aload_n 0, 1), (301, .getfield 141, 3), (304, .aload_n 0, 1), (305, .getfield 144, 3)] := zCo _ 288 (by decide +kernel)
theorem dX12_nextToken_288 : decode cX12_nextToken 288 = .ok (.getfield 141, 3) := zc1 zg08d00_26
theorem dX12_nextToken_291 : decode cX12_nextToken 291 = .ok (.iconst 1, 1) := zc1 (zc2 zg08d00_26)
theorem dX12_nextToken_292 : decode cX12_nextToken 292 = .ok (.iadd, 1) := zc1 (zc2 (zc2 zg08d00_26))
theorem dX12_nextToken_293 : decode cX12_nextToken 293 = .ok (.putfield 141, 3) := zc1 (zc2 (zc2 (zc2 zg08d00_26)))
theorem dX12_nextToken_296 : decode cX12_nextToken 296 = .ok (.goto (-72), 3) := zc1 (zc2 (zc2 (zc2 (zc2 zg08d00_26))))
theorem dX12_nextToken_299 : decode cX12_nextToken 299 = .ok (.aload_n 0, 1) := zc1 (zc2 (zc2 (zc2 (zc2 (zc2 zg08d00_26)))))
theorem dX12_nextToken_300 : decode cX12_nextToken 300 = .ok (.aload_n 0, 1) := zc1 (zc2 (zc2 (zc2 (zc2 (zc2 (zc2 zg08d00_26))))))
theorem dX12_nextToken_301 : decode cX12_nextToken 301 = .ok (.getfield 141, 3) := zc1 (zc2 (zc2 (zc2 (zc2 (zc2 (zc2 (zc2 zg08d00_26)))))))
theorem dX12_nextToken_304 : decode cX12_nextToken 304 = .ok (.aload_n 0, 1) := zc1 (zc2 (zc2 (zc2 (zc2 (zc2 (zc2 (zc2 (zc2 zg08d00_26))))))))
theorem dX12_nextToken_305 : decode cX12_nextToken 305 = .ok (.getfield 144, 3) := zc1 (zc2 (zc2 (zc2 (zc2 (zc2 (zc2 (zc2 (zc2 (zc2 zg08d00_26)))))))))
theorem zg08d00_27 : zCj cX12_nextToken [(308, .isub, 1), (309, .iconst 4, 1), (310, .if_icmp .le 7, 3), (313, .iconst 4, 1), (314, .goto 4, 3), (317, .iconst 2, 1), (318, .putfield 154, 3), (321, .return_, 1), (322, .aload_n 0, 1), (323, .dup, 1)] := zCo _ 308 (by decide +kernel)
theorem dX12_nextToken_308 : decode cX12_nextToken 308 = .ok (.isub, 1) := zc1 zg08d00_27
theorem dX12_nextToken_309 : decode cX12_nextToken 309 = .ok (.iconst 4, 1) := zc1 (zc2 zg08d00_27)
theorem dX12_nextToken_310 : decode cX12_nextToken 310 = .ok (.if_icmp .le 7, 3) := zc1 (zc2 (zc2 zg08d00_27))
theorem dX12_nextToken_313 : decode cX12_nextToken 313 = .ok (.iconst 4, 1) := zc1 (zc2 (zc2 (zc2 zg08d00_27)))
theorem dX12_nextToken_314 : decode cX12_nextToken 314 = .ok (.goto 4, 3) := zc1 (zc2 (zc2 (zc2 (zc2 zg08d00_27))))
theorem dX12_nextToken_317 : decode cX12_nextToken 317 = .ok (.iconst 2, 1) := zc1 (zc2 (zc2 (zc2 (zc2 (zc2 zg08d00_27)))))
theorem dX12_nextToken_318 : decode cX12_nextToken 318 = .ok (.putfield 154, 3) := zc1 (zc2 (zc2 (zc2 (zc2 (zc2 (zc2 zg08d00_27))))))
theorem dX12_nextToken_321 : decode cX12_nextToken 321 = .ok (.return_, 1) := zc1 (zc2 (zc2 (zc2 (zc2 (zc2 (zc2 (zc2 zg08d00_27)))))))
theorem dX12_nextToken_322 : decode cX12_nextToken 322 = .ok (.aload_n 0, 1) := zc1 (zc2 (zc2 (zc2 (zc2 (zc2 (zc2 (zc2 (zc2 zg08d00_27))))))))
theorem dX12_nextToken_323 : decode cX12_nextToken 323 = .ok (.dup, 1) := zc1 (zc2 (zc2 (zc2 (zc2 (zc2 (zc2 (zc2 (zc2 (zc2 zg08d00_27)))))))))
theorem zg08d00_28 : zCj cX12_nextToken [(324, .getfield 141, 3), (327, .iconst 1, 1), (328, .iadd, 1), (329, .putfield 141, 3), (332, .aload_n 0, 1), (333, .iload_n 1, 1), (334, .bipush 40, 2), (336, .if_icmp .lt 9, 3), (339, .iload_n 1, 1), (340, .bipush 43, 2)] := zCo _ 324 (by decide +kernel)
theorem dX12_nextToken_324 : decode cX12_nextToken 324 = .ok (.getfield 141, 3) := zc1 zg08d00_28
theorem dX12_nextToken_327 : decode cX12_nextToken 327 = .ok (.iconst 1, 1) := zc1 (zc2 zg08d00_28)
theorem dX12_nextToken_328 : decode cX12_nextToken 328 = .ok (.iadd, 1) := zc1 (zc2 (zc2 zg08d00_28))
theorem dX12_nextToken_329 : decode cX12_nextToken 329 = .ok (.putfield 141, 3) := zc1 (zc2 (zc2 (zc2 zg08d00_28)))
theorem dX12_nextToken_332 : decode cX12_nextToken 332 = .ok (.aload_n 0, 1) := zc1 (zc2 (zc2 (zc2 (zc2 zg08d00_28))))
theorem dX12_nextToken_333 : decode cX12_nextToken 333 = .ok (.iload_n 1, 1) := zc1 (zc2 (zc2 (zc2 (zc2 (zc2 zg08d00_28)))))
theorem dX12_nextToken_334 : decode cX12_nextToken 334 = .ok (.bipush 40, 2) := zc1 (zc2 (zc2 (zc2 (zc2 (zc2 (zc2 zg08d00_28))))))
theorem dX12_nextToken_336 : decode cX12_nextToken 336 = .ok (.if_icmp .lt 9, 3) := zc1 (zc2 (zc2 (zc2 (zc2 (zc2 (zc2 (zc2 zg08d00_28)))))))
theorem dX12_nextToken_339 : decode cX12_nextToken 339 = .ok (.iload_n 1, 1) := zc1 (zc2 (zc2 (zc2 (zc2 (zc2 (zc2 (zc2 (zc2 zg08d00_28))))))))
theorem dX12_nextToken_340 : decode cX12_nextToken 340 = .ok (.bipush 43, 2) := zc1 (zc2 (zc2 (zc2 (zc2 (zc2 (zc2 (zc2 (zc2 (zc2 zg08d00_28)))))))))
theorem zg08d00_29 : zCj cX12_nextToken [(342, .if_icmp .le 21, 3), (345, .iload_n 1, 1), (346, .bipush 45, 2), (348, .if_icmp .eq 15, 3), (351, .iload_n 1, 1), (352, .bipush 59, 2), (354, .if_icmp .lt 13, 3), (357, .iload_n 1, 1), (358, .bipush 61, 2), (360, .if_icmp .gt 7, 3)] := zCo _ 342 (by decide +kernel)
theorem dX12_nextToken_342 : decode cX12_nextToken 342 = .ok (.if_icmp .le 21, 3) := zc1 zg08d00_29
theorem dX12_nextToken_345 : decode cX12_nextToken 345 = .ok (.iload_n 1, 1) := zc1 (zc2 zg08d00_29)
theorem dX12_nextToken_346 : decode cX12_nextToken 346 = .ok (.bipush 45, 2) := zc1 (zc2 (zc2 zg08d00_29))
theorem dX12_nextToken_348 : decode cX12_nextToken 348 = .ok (.if_icmp .eq 15, 3) := zc1 (zc2 (zc2 (zc2 zg08d00_29)))
theorem dX12_nextToken_351 : decode cX12_nextToken 351 = .ok (.iload_n 1, 1) := zc1 (zc2 (zc2 (zc2 (zc2 zg08d00_29))))
theorem dX12_nextToken_352 : decode cX12_nextToken 352 = .ok (.bipush 59, 2) := zc1 (zc2 (zc2 (zc2 (zc2 (zc2 zg08d00_29)))))
theorem dX12_nextToken_354 : decode cX12_nextToken 354 = .ok (.if_icmp .lt 13, 3) := zc1 (zc2 (zc2 (zc2 (zc2 (zc2 (zc2 zg08d00_29))))))
theorem dX12_nextToken_357 : decode cX12_nextToken 357 = .ok (.iload_n 1, 1) := zc1 (zc2 (zc2 (zc2 (zc2 (zc2 (zc2 (zc2 zg08d00_29)))))))
theorem dX12_nextToken_358 : decode cX12_nextToken 358 = .ok (.bipush 61, 2) := zc1 (zc2 (zc2 (zc2 (zc2 (zc2 (zc2 (zc2 (zc2 zg08d00_29))))))))
theorem dX12_nextToken_360 : decode cX12_nextToken 360 = .ok (.if_icmp .gt 7, 3) := zc1 (zc2 (zc2 (zc2 (zc2 (zc2 (zc2 (zc2 (zc2 (zc2 zg08d00_29)))))))))
theorem zg08d00_30 : zCj cX12_nextToken [(363, .iconst 3, 1), (364, .goto 4, 3), (367, .iconst 4, 1), (368, .putfield 154, 3), (371, .return_, 1)] := zCo _ 363 (by decide +kernel)
theorem dX12_nextToken_363 : decode cX12_nextToken 363 = .ok (.iconst 3, 1) := zc1 zg08d00_30
theorem dX12_nextToken_364 : decode cX12_nextToken 364 = .ok (.goto 4, 3) := zc1 (zc2 zg08d00_30)
theorem dX12_nextToken_367 : decode cX12_nextToken 367 = .ok (.iconst 4, 1) := zc1 (zc2 (zc2 zg08d00_30))
theorem dX12_nextToken_368 : decode cX12_nextToken 368 = .ok (.putfield 154, 3) := zc1 (zc2 (zc2 (zc2 zg08d00_30)))
theorem dX12_nextToken_371 : decode cX12_nextToken 371 = .ok (.return_, 1) := zc1 (zc2 (zc2 (zc2 (zc2 zg08d00_30))))
theorem zg08d00_31 : zCj cX12_isWord [(0, .aload_n 0, 1), (1, .getfield 154, 3), (4, .iconst 1, 1), (5, .if_icmp .ne 16, 3), (8, .aload_n 0, 1), (9, .getfield 147, 3), (12, .lload_n 1, 1), (13, .lcmp, 1), (14, .ifCond .ne 7, 3), (17, .iconst 1, 1)] := zCo _ 0 (by decide +kernel)
theorem dX12_isWord_0 : decode cX12_isWord 0 = .ok (.aload_n 0, 1) := zc1 zg08d00_31
theorem dX12_isWord_1 : decode cX12_isWord 1 = .ok (.getfield 154, 3) := zc1 (zc2 zg08d00_31)
theorem dX12_isWord_4 : decode cX12_isWord 4 = .ok (.iconst 1, 1) := zc1 (zc2 (zc2 zg08d00_31))
theorem dX12_isWord_5 : decode cX12_isWord 5 = .ok (.if_icmp .ne 16, 3) := zc1 (zc2 (zc2 (zc2 zg08d00_31)))
theorem dX12_isWord_8 : decode cX12_isWord 8 = .ok (.aload_n 0, 1) := zc1 (zc2 (zc2 (zc2 (zc2 zg08d00_31))))
theorem dX12_isWord_9 : decode cX12_isWord 9 = .ok (.getfield 147, 3) := zc1 (zc2 (zc2 (zc2 (zc2 (zc2 zg08d00_31)))))
theorem dX12_isWord_12 : decode cX12_isWord 12 = .ok (.lload_n 1, 1) := zc1 (zc2 (zc2 (zc2 (zc2 (zc2 (zc2 zg08d00_31))))))
theorem dX12_isWord_13 : decode cX12_isWord 13 = .ok (.lcmp, 1) := zc1 (zc2 (zc2 (zc2 (zc2 (zc2 (zc2 (zc2 zg08d00_31)))))))
theorem dX12_isWord_14 : decode cX12_isWord 14 = .ok (.ifCond .ne 7, 3) := zc1 (zc2 (zc2 (zc2 (zc2 (zc2 (zc2 (zc2 (zc2 zg08d00_31))))))))
theorem dX12_isWord_17 : decode cX12_isWord 17 = .ok (.iconst 1, 1) := zc1 (zc2 (zc2 (zc2 (zc2 (zc2 (zc2 (zc2 (zc2 (zc2 zg08d00_31)))))))))
theorem zg08d00_32 : zCj cX12_isWord [(18, .goto 4, 3), (21, .iconst 0, 1), (22, .ireturn, 1)] := zCo _ 18 (by decide +kernel)
theorem dX12_isWord_18 : decode cX12_isWord 18 = .ok (.goto 4, 3) := zc1 zg08d00_32
theorem dX12_isWord_21 : decode cX12_isWord 21 = .ok (.iconst 0, 1) := zc1 (zc2 zg08d00_32)
theorem dX12_isWord_22 : decode cX12_isWord 22 = .ok (.ireturn, 1) := zc1 (zc2 (zc2 zg08d00_32))
theorem zg08d00_33 : zCj cX12_isSign [(0, .aload_n 0, 1), (1, .getfield 154, 3), (4, .iconst 3, 1), (5, .if_icmp .ne 20, 3), (8, .aload_n 0, 1), (9, .getfield 7, 3), (12, .aload_n 0, 1), (13, .getfield 144, 3), (16, .iaload, 1), (17, .iload_n 1, 1)] := zCo _ 0 (by decide +kernel)
theorem dX12_isSign_0 : decode cX12_isSign 0 = .ok (.aload_n 0, 1) := zc1 zg08d00_33
theorem dX12_isSign_1 : decode cX12_isSign 1 = .ok (.getfield 154, 3) := zc1 (zc2 zg08d00_33)
theorem dX12_isSign_4 : decode cX12_isSign 4 = .ok (.iconst 3, 1) := zc1 (zc2 (zc2 zg08d00_33))
theorem dX12_isSign_5 : decode cX12_isSign 5 = .ok (.if_icmp .ne 20, 3) := zc1 (zc2 (zc2 (zc2 zg08d00_33)))
theorem dX12_isSign_8 : decode cX12_isSign 8 = .ok (.aload_n 0, 1) := zc1 (zc2 (zc2 (zc2 (zc2 zg08d00_33))))
theorem dX12_isSign_9 : decode cX12_isSign 9 = .ok (.getfield 7, 3) := zc1 (zc2 (zc2 (zc2 (zc2 (zc2 zg08d00_33)))))
theorem dX12_isSign_12 : decode cX12_isSign 12 = .ok (.aload_n 0, 1) := zc1 (zc2 (zc2 (zc2 (zc2 (zc2 (zc2 zg08d00_33))))))
theorem dX12_isSign_13 : decode cX12_isSign 13 = .ok (.getfield 144, 3) := zc1 (zc2 (zc2 (zc2 (zc2 (zc2 (zc2 (zc2 zg08d00_33)))))))
theorem dX12_isSign_16 : decode cX12_isSign 16 = .ok (.iaload, 1) := zc1 (zc2 (zc2 (zc2 (zc2 (zc2 (zc2 (zc2 (zc2 zg08d00_33))))))))
theorem dX12_isSign_17 : decode cX12_isSign 17 = .ok (.iload_n 1, 1) := zc1 (zc2 (zc2 (zc2 (zc2 (zc2 (zc2 (zc2 (zc2 (zc2 zg08d00_33)))))))))
theorem zg08d00_34 : zCj cX12_isSign [(18, .if_icmp .ne 7, 3), (21, .iconst 1, 1), (22, .goto 4, 3), (25, .iconst 0, 1), (26, .ireturn, 1)] := zCo _ 18 (by decide +kernel)
theorem dX12_isSign_18 : decode cX12_isSign 18 = .ok (.if_icmp .ne 7, 3) := zc1 zg08d00_34
theorem dX12_isSign_21 : decode cX12_isSign 21 = .ok (.iconst 1, 1) := zc1 (zc2 zg08d00_34)
theorem dX12_isSign_22 : decode cX12_isSign 22 = .ok (.goto 4, 3) := zc1 (zc2 (zc2 zg08d00_34))
theorem dX12_isSign_25 : decode cX12_isSign 25 = .ok (.iconst 0, 1) := zc1 (zc2 (zc2 (zc2 zg08d00_34)))
theorem dX12_isSign_26 : decode cX12_isSign 26 = .ok (.ireturn, 1) := zc1 (zc2 (zc2 (zc2 (zc2 zg08d00_34))))
theorem zg08d00_35 : zCj cX12_fails [(0, .aload_n 0, 1), (1, .iload_n 1, 1), (2, .bipush 16, 2), (4, .aload_n 0, 1), (5, .getfield 144, 3), (8, .imul, 1), (9, .iadd, 1), (10, .putfield 165, 3), (13, .iconst 0, 1), (14, .ireturn, 1)] := zCo _ 0 (by decide +kernel)
theorem dX12_fails_0 : decode cX12_fails 0 = .ok (.aload_n 0, 1) := zc1 zg08d00_35
theorem dX12_fails_1 : decode cX12_fails 1 = .ok (.iload_n 1, 1) := zc1 (zc2 zg08d00_35)
theorem dX12_fails_2 : decode cX12_fails 2 = .ok (.bipush 16, 2) := zc1 (zc2 (zc2 zg08d00_35))
theorem dX12_fails_4 : decode cX12_fails 4 = .ok (.aload_n 0, 1) := zc1 (zc2 (zc2 (zc2 zg08d00_35)))
theorem dX12_fails_5 : decode cX12_fails 5 = .ok (.getfield 144, 3) := zc1 (zc2 (zc2 (zc2 (zc2 zg08d00_35))))
theorem dX12_fails_8 : decode cX12_fails 8 = .ok (.imul, 1) := zc1 (zc2 (zc2 (zc2 (zc2 (zc2 zg08d00_35)))))
theorem dX12_fails_9 : decode cX12_fails 9 = .ok (.iadd, 1) := zc1 (zc2 (zc2 (zc2 (zc2 (zc2 (zc2 zg08d00_35))))))
theorem dX12_fails_10 : decode cX12_fails 10 = .ok (.putfield 165, 3) := zc1 (zc2 (zc2 (zc2 (zc2 (zc2 (zc2 (zc2 zg08d00_35)))))))
theorem dX12_fails_13 : decode cX12_fails 13 = .ok (.iconst 0, 1) := zc1 (zc2 (zc2 (zc2 (zc2 (zc2 (zc2 (zc2 (zc2 zg08d00_35))))))))
theorem dX12_fails_14 : decode cX12_fails 14 = .ok (.ireturn, 1) := zc1 (zc2 (zc2 (zc2 (zc2 (zc2 (zc2 (zc2 (zc2 (zc2 zg08d00_35)))))))))
theorem zg08d00_36 : zCj cX12_puts [(0, .aload_n 0, 1), (1, .getfield 47, 3), (4, .aload_n 0, 1), (5, .getfield 168, 3), (8, .iload_n 1, 1), (9, .iastore, 1), (10, .aload_n 0, 1), (11, .dup, 1), (12, .getfield 168, 3), (15, .iconst 1, 1)] := zCo _ 0 (by decide +kernel)
theorem dX12_puts_0 : decode cX12_puts 0 = .ok (.aload_n 0, 1) := zc1 zg08d00_36
theorem dX12_puts_1 : decode cX12_puts 1 = .ok (.getfield 47, 3) := zc1 (zc2 zg08d00_36)
theorem dX12_puts_4 : decode cX12_puts 4 = .ok (.aload_n 0, 1) := zc1 (zc2 (zc2 zg08d00_36))
theorem dX12_puts_5 : decode cX12_puts 5 = .ok (.getfield 168, 3) := zc1 (zc2 (zc2 (zc2 zg08d00_36)))
theorem dX12_puts_8 : decode cX12_puts 8 = .ok (.iload_n 1, 1) := zc1 (zc2 (zc2 (zc2 (zc2 zg08d00_36))))
theorem dX12_puts_9 : decode cX12_puts 9 = .ok (.iastore, 1) := zc1 (zc2 (zc2 (zc2 (zc2 (zc2 zg08d00_36)))))
theorem dX12_puts_10 : decode cX12_puts 10 = .ok (.aload_n 0, 1) := zc1 (zc2 (zc2 (zc2 (zc2 (zc2 (zc2 zg08d00_36))))))
theorem dX12_puts_11 : decode cX12_puts 11 = .ok (.dup, 1) := zc1 (zc2 (zc2 (zc2 (zc2 (zc2 (zc2 (zc2 zg08d00_36)))))))
theorem dX12_puts_12 : decode cX12_puts 12 = .ok (.getfield 168, 3) := zc1 (zc2 (zc2 (zc2 (zc2 (zc2 (zc2 (zc2 (zc2 zg08d00_36))))))))
theorem dX12_puts_15 : decode cX12_puts 15 = .ok (.iconst 1, 1) := zc1 (zc2 (zc2 (zc2 (zc2 (zc2 (zc2 (zc2 (zc2 (zc2 zg08d00_36)))))))))
theorem zg08d00_37 : zCj cX12_puts [(16, .iadd, 1), (17, .putfield 168, 3), (20, .return_, 1)] := zCo _ 16 (by decide +kernel)
theorem dX12_puts_16 : decode cX12_puts 16 = .ok (.iadd, 1) := zc1 zg08d00_37
theorem dX12_puts_17 : decode cX12_puts 17 = .ok (.putfield 168, 3) := zc1 (zc2 zg08d00_37)
theorem dX12_puts_20 : decode cX12_puts 20 = .ok (.return_, 1) := zc1 (zc2 (zc2 zg08d00_37))
theorem zg08d00_38 : zCj cX12_fact [(0, .aload_n 0, 1), (1, .getfield 154, 3), (4, .iconst 1, 1), (5, .if_icmp .eq 5, 3), (8, .iconst 0, 1), (9, .ireturn, 1), (10, .aload_n 0, 1), (11, .getfield 147, 3), (14, .ldc2_w 171, 3), (17, .lcmp, 1)] := zCo _ 0 (by decide +kernel)
theorem dX12_fact_0 : decode cX12_fact 0 = .ok (.aload_n 0, 1) := zc1 zg08d00_38
theorem dX12_fact_1 : decode cX12_fact 1 = .ok (.getfield 154, 3) := zc1 (zc2 zg08d00_38)
theorem dX12_fact_4 : decode cX12_fact 4 = .ok (.iconst 1, 1) := zc1 (zc2 (zc2 zg08d00_38))
theorem dX12_fact_5 : decode cX12_fact 5 = .ok (.if_icmp .eq 5, 3) := zc1 (zc2 (zc2 (zc2 zg08d00_38)))
theorem dX12_fact_8 : decode cX12_fact 8 = .ok (.iconst 0, 1) := zc1 (zc2 (zc2 (zc2 (zc2 zg08d00_38))))
theorem dX12_fact_9 : decode cX12_fact 9 = .ok (.ireturn, 1) := zc1 (zc2 (zc2 (zc2 (zc2 (zc2 zg08d00_38)))))
theorem dX12_fact_10 : decode cX12_fact 10 = .ok (.aload_n 0, 1) := zc1 (zc2 (zc2 (zc2 (zc2 (zc2 (zc2 zg08d00_38))))))
theorem dX12_fact_11 : decode cX12_fact 11 = .ok (.getfield 147, 3) := zc1 (zc2 (zc2 (zc2 (zc2 (zc2 (zc2 (zc2 zg08d00_38)))))))
theorem dX12_fact_14 : decode cX12_fact 14 = .ok (.ldc2_w 171, 3) := zc1 (zc2 (zc2 (zc2 (zc2 (zc2 (zc2 (zc2 (zc2 zg08d00_38))))))))
theorem dX12_fact_17 : decode cX12_fact 17 = .ok (.lcmp, 1) := zc1 (zc2 (zc2 (zc2 (zc2 (zc2 (zc2 (zc2 (zc2 (zc2 zg08d00_38)))))))))
theorem zg08d00_39 : zCj cX12_fact [(18, .ifCond .ne 5, 3), (21, .iconst 1, 1), (22, .ireturn, 1), (23, .aload_n 0, 1), (24, .getfield 147, 3), (27, .ldc2_w 173, 3), (30, .lcmp, 1), (31, .ifCond .ne 5, 3), (34, .iconst 2, 1), (35, .ireturn, 1)] := zCo _ 18 (by decide +kernel)
theorem dX12_fact_18 : decode cX12_fact 18 = .ok (.ifCond .ne 5, 3) := zc1 zg08d00_39
theorem dX12_fact_21 : decode cX12_fact 21 = .ok (.iconst 1, 1) := zc1 (zc2 zg08d00_39)
theorem dX12_fact_22 : decode cX12_fact 22 = .ok (.ireturn, 1) := zc1 (zc2 (zc2 zg08d00_39))
theorem dX12_fact_23 : decode cX12_fact 23 = .ok (.aload_n 0, 1) := zc1 (zc2 (zc2 (zc2 zg08d00_39)))
theorem dX12_fact_24 : decode cX12_fact 24 = .ok (.getfield 147, 3) := zc1 (zc2 (zc2 (zc2 (zc2 zg08d00_39))))
theorem dX12_fact_27 : decode cX12_fact 27 = .ok (.ldc2_w 173, 3) := zc1 (zc2 (zc2 (zc2 (zc2 (zc2 zg08d00_39)))))
theorem dX12_fact_30 : decode cX12_fact 30 = .ok (.lcmp, 1) := zc1 (zc2 (zc2 (zc2 (zc2 (zc2 (zc2 zg08d00_39))))))
theorem dX12_fact_31 : decode cX12_fact 31 = .ok (.ifCond .ne 5, 3) := zc1 (zc2 (zc2 (zc2 (zc2 (zc2 (zc2 (zc2 zg08d00_39)))))))
theorem dX12_fact_34 : decode cX12_fact 34 = .ok (.iconst 2, 1) := zc1 (zc2 (zc2 (zc2 (zc2 (zc2 (zc2 (zc2 (zc2 zg08d00_39))))))))
theorem dX12_fact_35 : decode cX12_fact 35 = .ok (.ireturn, 1) := zc1 (zc2 (zc2 (zc2 (zc2 (zc2 (zc2 (zc2 (zc2 (zc2 zg08d00_39)))))))))
theorem zg08d00_40 : zCj cX12_fact [(36, .aload_n 0, 1), (37, .getfield 147, 3), (40, .ldc2_w 175, 3), (43, .lcmp, 1), (44, .ifCond .ne 7, 3), (47, .iconst 3, 1), (48, .goto 19, 3), (51, .aload_n 0, 1), (52, .getfield 147, 3), (55, .ldc2_w 177, 3)] := zCo _ 36 (by decide +kernel)
theorem dX12_fact_36 : decode cX12_fact 36 = .ok (.aload_n 0, 1) := zc1 zg08d00_40
theorem dX12_fact_37 : decode cX12_fact 37 = .ok (.getfield 147, 3) := zc1 (zc2 zg08d00_40)
theorem dX12_fact_40 : decode cX12_fact 40 = .ok (.ldc2_w 175, 3) := zc1 (zc2 (zc2 zg08d00_40))
theorem dX12_fact_43 : decode cX12_fact 43 = .ok (.lcmp, 1) := zc1 (zc2 (zc2 (zc2 zg08d00_40)))
theorem dX12_fact_44 : decode cX12_fact 44 = .ok (.ifCond .ne 7, 3) := zc1 (zc2 (zc2 (zc2 (zc2 zg08d00_40))))
theorem dX12_fact_47 : decode cX12_fact 47 = .ok (.iconst 3, 1) := zc1 (zc2 (zc2 (zc2 (zc2 (zc2 zg08d00_40)))))
theorem dX12_fact_48 : decode cX12_fact 48 = .ok (.goto 19, 3) := zc1 (zc2 (zc2 (zc2 (zc2 (zc2 (zc2 zg08d00_40))))))
theorem dX12_fact_51 : decode cX12_fact 51 = .ok (.aload_n 0, 1) := zc1 (zc2 (zc2 (zc2 (zc2 (zc2 (zc2 (zc2 zg08d00_40)))))))
theorem dX12_fact_52 : decode cX12_fact 52 = .ok (.getfield 147, 3) := zc1 (zc2 (zc2 (zc2 (zc2 (zc2 (zc2 (zc2 (zc2 zg08d00_40))))))))
theorem dX12_fact_55 : decode cX12_fact 55 = .ok (.ldc2_w 177, 3) := zc1 (zc2 (zc2 (zc2 (zc2 (zc2 (zc2 (zc2 (zc2 (zc2 zg08d00_40)))))))))
theorem zg08d00_41 : zCj cX12_fact [(58, .lcmp, 1), (59, .ifCond .ne 7, 3), (62, .iconst 4, 1), (63, .goto 4, 3), (66, .iconst 0, 1), (67, .ireturn, 1)] := zCo _ 58 (by decide +kernel)
theorem dX12_fact_58 : decode cX12_fact 58 = .ok (.lcmp, 1) := zc1 zg08d00_41
theorem dX12_fact_59 : decode cX12_fact 59 = .ok (.ifCond .ne 7, 3) := zc1 (zc2 zg08d00_41)
theorem dX12_fact_62 : decode cX12_fact 62 = .ok (.iconst 4, 1) := zc1 (zc2 (zc2 zg08d00_41))
theorem dX12_fact_63 : decode cX12_fact 63 = .ok (.goto 4, 3) := zc1 (zc2 (zc2 (zc2 zg08d00_41)))
theorem dX12_fact_66 : decode cX12_fact 66 = .ok (.iconst 0, 1) := zc1 (zc2 (zc2 (zc2 (zc2 zg08d00_41))))
theorem dX12_fact_67 : decode cX12_fact 67 = .ok (.ireturn, 1) := zc1 (zc2 (zc2 (zc2 (zc2 (zc2 zg08d00_41)))))
theorem zg08d00_42 : zCj cX12_reads [(0, .iconst 0, 1), (1, .istore_n 1, 1), (2, .iconst 1, 1), (3, .istore_n 2, 1), (4, .aload_n 0, 1), (5, .getfield 53, 3), (8, .iconst 0, 1), (9, .iconst 0, 1), (10, .bastore, 1), (11, .iload_n 2, 1)] := zCo _ 0 (by decide +kernel)
theorem dX12_reads_0 : decode cX12_reads 0 = .ok (.iconst 0, 1) := zc1 zg08d00_42
theorem dX12_reads_1 : decode cX12_reads 1 = .ok (.istore_n 1, 1) := zc1 (zc2 zg08d00_42)
theorem dX12_reads_2 : decode cX12_reads 2 = .ok (.iconst 1, 1) := zc1 (zc2 (zc2 zg08d00_42))
theorem dX12_reads_3 : decode cX12_reads 3 = .ok (.istore_n 2, 1) := zc1 (zc2 (zc2 (zc2 zg08d00_42)))
theorem dX12_reads_4 : decode cX12_reads 4 = .ok (.aload_n 0, 1) := zc1 (zc2 (zc2 (zc2 (zc2 zg08d00_42))))
theorem dX12_reads_5 : decode cX12_reads 5 = .ok (.getfield 53, 3) := zc1 (zc2 (zc2 (zc2 (zc2 (zc2 zg08d00_42)))))
theorem dX12_reads_8 : decode cX12_reads 8 = .ok (.iconst 0, 1) := zc1 (zc2 (zc2 (zc2 (zc2 (zc2 (zc2 zg08d00_42))))))
theorem dX12_reads_9 : decode cX12_reads 9 = .ok (.iconst 0, 1) := zc1 (zc2 (zc2 (zc2 (zc2 (zc2 (zc2 (zc2 zg08d00_42)))))))
theorem dX12_reads_10 : decode cX12_reads 10 = .ok (.bastore, 1) := zc1 (zc2 (zc2 (zc2 (zc2 (zc2 (zc2 (zc2 (zc2 zg08d00_42))))))))
theorem dX12_reads_11 : decode cX12_reads 11 = .ok (.iload_n 2, 1) := zc1 (zc2 (zc2 (zc2 (zc2 (zc2 (zc2 (zc2 (zc2 (zc2 zg08d00_42)))))))))
theorem zg08d00_43 : zCj cX12_reads [(12, .ifCond .eq 167, 3), (15, .aload_n 0, 1), (16, .invokevirtual 179, 3), (19, .istore_n 3, 1), (20, .aload_n 0, 1), (21, .ldc2_w 183, 3), (24, .invokevirtual 185, 3), (27, .istore 4, 2), (29, .aload_n 0, 1), (30, .bipush 40, 2)] := zCo _ 12 (by decide +kernel)
theorem dX12_reads_12 : decode cX12_reads 12 = .ok (.ifCond .eq 167, 3) := zc1 zg08d00_43
theorem dX12_reads_15 : decode cX12_reads 15 = .ok (.aload_n 0, 1) := zc1 (zc2 zg08d00_43)
theorem dX12_reads_16 : decode cX12_reads 16 = .ok (.invokevirtual 179, 3) := zc1 (zc2 (zc2 zg08d00_43))
theorem dX12_reads_19 : decode cX12_reads 19 = .ok (.istore_n 3, 1) := zc1 (zc2 (zc2 (zc2 zg08d00_43)))
theorem dX12_reads_20 : decode cX12_reads 20 = .ok (.aload_n 0, 1) := zc1 (zc2 (zc2 (zc2 (zc2 zg08d00_43))))
theorem dX12_reads_21 : decode cX12_reads 21 = .ok (.ldc2_w 183, 3) := zc1 (zc2 (zc2 (zc2 (zc2 (zc2 zg08d00_43)))))
theorem dX12_reads_24 : decode cX12_reads 24 = .ok (.invokevirtual 185, 3) := zc1 (zc2 (zc2 (zc2 (zc2 (zc2 (zc2 zg08d00_43))))))
theorem dX12_reads_27 : decode cX12_reads 27 = .ok (.istore 4, 2) := zc1 (zc2 (zc2 (zc2 (zc2 (zc2 (zc2 (zc2 zg08d00_43)))))))
theorem dX12_reads_29 : decode cX12_reads 29 = .ok (.aload_n 0, 1) := zc1 (zc2 (zc2 (zc2 (zc2 (zc2 (zc2 (zc2 (zc2 zg08d00_43))))))))
theorem dX12_reads_30 : decode cX12_reads 30 = .ok (.bipush 40, 2) := zc1 (zc2 (zc2 (zc2 (zc2 (zc2 (zc2 (zc2 (zc2 (zc2 zg08d00_43)))))))))
theorem zg08d00_44 : zCj cX12_reads [(32, .invokevirtual 189, 3), (35, .istore 5, 2), (37, .iload_n 3, 1), (38, .ifCond .ne 27, 3), (41, .iload 4, 2), (43, .ifCond .ne 22, 3), (46, .iload 5, 2), (48, .ifCond .ne 17, 3), (51, .aload_n 0, 1), (52, .getfield 154, 3)] := zCo _ 32 (by decide +kernel)
theorem dX12_reads_32 : decode cX12_reads 32 = .ok (.invokevirtual 189, 3) := zc1 zg08d00_44
theorem dX12_reads_35 : decode cX12_reads 35 = .ok (.istore 5, 2) := zc1 (zc2 zg08d00_44)
theorem dX12_reads_37 : decode cX12_reads 37 = .ok (.iload_n 3, 1) := zc1 (zc2 (zc2 zg08d00_44))
theorem dX12_reads_38 : decode cX12_reads 38 = .ok (.ifCond .ne 27, 3) := zc1 (zc2 (zc2 (zc2 zg08d00_44)))
theorem dX12_reads_41 : decode cX12_reads 41 = .ok (.iload 4, 2) := zc1 (zc2 (zc2 (zc2 (zc2 zg08d00_44))))
theorem dX12_reads_43 : decode cX12_reads 43 = .ok (.ifCond .ne 22, 3) := zc1 (zc2 (zc2 (zc2 (zc2 (zc2 zg08d00_44)))))
theorem dX12_reads_46 : decode cX12_reads 46 = .ok (.iload 5, 2) := zc1 (zc2 (zc2 (zc2 (zc2 (zc2 (zc2 zg08d00_44))))))
theorem dX12_reads_48 : decode cX12_reads 48 = .ok (.ifCond .ne 17, 3) := zc1 (zc2 (zc2 (zc2 (zc2 (zc2 (zc2 (zc2 zg08d00_44)))))))
theorem dX12_reads_51 : decode cX12_reads 51 = .ok (.aload_n 0, 1) := zc1 (zc2 (zc2 (zc2 (zc2 (zc2 (zc2 (zc2 (zc2 zg08d00_44))))))))
theorem dX12_reads_52 : decode cX12_reads 52 = .ok (.getfield 154, 3) := zc1 (zc2 (zc2 (zc2 (zc2 (zc2 (zc2 (zc2 (zc2 (zc2 zg08d00_44)))))))))
theorem zg08d00_45 : zCj cX12_reads [(55, .iconst 2, 1), (56, .if_icmp .eq 9, 3), (59, .aload_n 0, 1), (60, .iconst 1, 1), (61, .invokevirtual 193, 3), (64, .ireturn, 1), (65, .iload_n 1, 1), (66, .iconst 5, 1), (67, .if_icmp .ne 9, 3), (70, .aload_n 0, 1)] := zCo _ 55 (by decide +kernel)
theorem dX12_reads_55 : decode cX12_reads 55 = .ok (.iconst 2, 1) := zc1 zg08d00_45
theorem dX12_reads_56 : decode cX12_reads 56 = .ok (.if_icmp .eq 9, 3) := zc1 (zc2 zg08d00_45)
theorem dX12_reads_59 : decode cX12_reads 59 = .ok (.aload_n 0, 1) := zc1 (zc2 (zc2 zg08d00_45))
theorem dX12_reads_60 : decode cX12_reads 60 = .ok (.iconst 1, 1) := zc1 (zc2 (zc2 (zc2 zg08d00_45)))
theorem dX12_reads_61 : decode cX12_reads 61 = .ok (.invokevirtual 193, 3) := zc1 (zc2 (zc2 (zc2 (zc2 zg08d00_45))))
theorem dX12_reads_64 : decode cX12_reads 64 = .ok (.ireturn, 1) := zc1 (zc2 (zc2 (zc2 (zc2 (zc2 zg08d00_45)))))
theorem dX12_reads_65 : decode cX12_reads 65 = .ok (.iload_n 1, 1) := zc1 (zc2 (zc2 (zc2 (zc2 (zc2 (zc2 zg08d00_45))))))
theorem dX12_reads_66 : decode cX12_reads 66 = .ok (.iconst 5, 1) := zc1 (zc2 (zc2 (zc2 (zc2 (zc2 (zc2 (zc2 zg08d00_45)))))))
theorem dX12_reads_67 : decode cX12_reads 67 = .ok (.if_icmp .ne 9, 3) := zc1 (zc2 (zc2 (zc2 (zc2 (zc2 (zc2 (zc2 (zc2 zg08d00_45))))))))
theorem dX12_reads_70 : decode cX12_reads 70 = .ok (.aload_n 0, 1) := zc1 (zc2 (zc2 (zc2 (zc2 (zc2 (zc2 (zc2 (zc2 (zc2 zg08d00_45)))))))))
theorem zg08d00_46 : zCj cX12_reads [(71, .iconst 5, 1), (72, .invokevirtual 193, 3), (75, .ireturn, 1), (76, .iload 4, 2), (78, .ifCond .ne 8, 3), (81, .iload 5, 2), (83, .ifCond .eq 48, 3), (86, .aload_n 0, 1), (87, .iload 4, 2), (89, .ifCond .eq 8, 3)] := zCo _ 71 (by decide +kernel)
theorem dX12_reads_71 : decode cX12_reads 71 = .ok (.iconst 5, 1) := zc1 zg08d00_46
theorem dX12_reads_72 : decode cX12_reads 72 = .ok (.invokevirtual 193, 3) := zc1 (zc2 zg08d00_46)
theorem dX12_reads_75 : decode cX12_reads 75 = .ok (.ireturn, 1) := zc1 (zc2 (zc2 zg08d00_46))
theorem dX12_reads_76 : decode cX12_reads 76 = .ok (.iload 4, 2) := zc1 (zc2 (zc2 (zc2 zg08d00_46)))
theorem dX12_reads_78 : decode cX12_reads 78 = .ok (.ifCond .ne 8, 3) := zc1 (zc2 (zc2 (zc2 (zc2 zg08d00_46))))
theorem dX12_reads_81 : decode cX12_reads 81 = .ok (.iload 5, 2) := zc1 (zc2 (zc2 (zc2 (zc2 (zc2 zg08d00_46)))))
theorem dX12_reads_83 : decode cX12_reads 83 = .ok (.ifCond .eq 48, 3) := zc1 (zc2 (zc2 (zc2 (zc2 (zc2 (zc2 zg08d00_46))))))
theorem dX12_reads_86 : decode cX12_reads 86 = .ok (.aload_n 0, 1) := zc1 (zc2 (zc2 (zc2 (zc2 (zc2 (zc2 (zc2 zg08d00_46)))))))
theorem dX12_reads_87 : decode cX12_reads 87 = .ok (.iload 4, 2) := zc1 (zc2 (zc2 (zc2 (zc2 (zc2 (zc2 (zc2 (zc2 zg08d00_46))))))))
theorem dX12_reads_89 : decode cX12_reads 89 = .ok (.ifCond .eq 8, 3) := zc1 (zc2 (zc2 (zc2 (zc2 (zc2 (zc2 (zc2 (zc2 (zc2 zg08d00_46)))))))))
theorem zg08d00_47 : zCj cX12_reads [(92, .bipush 30, 2), (94, .goto 5, 3), (97, .bipush 28, 2), (99, .invokevirtual 196, 3), (102, .iinc 1 1, 3), (105, .aload_n 0, 1), (106, .getfield 50, 3), (109, .iload_n 1, 1), (110, .iload 4, 2), (112, .ifCond .eq 7, 3)] := zCo _ 92 (by decide +kernel)
theorem dX12_reads_92 : decode cX12_reads 92 = .ok (.bipush 30, 2) := zc1 zg08d00_47
theorem dX12_reads_94 : decode cX12_reads 94 = .ok (.goto 5, 3) := zc1 (zc2 zg08d00_47)
theorem dX12_reads_97 : decode cX12_reads 97 = .ok (.bipush 28, 2) := zc1 (zc2 (zc2 zg08d00_47))
theorem dX12_reads_99 : decode cX12_reads 99 = .ok (.invokevirtual 196, 3) := zc1 (zc2 (zc2 (zc2 zg08d00_47)))
theorem dX12_reads_102 : decode cX12_reads 102 = .ok (.iinc 1 1, 3) := zc1 (zc2 (zc2 (zc2 (zc2 zg08d00_47))))
theorem dX12_reads_105 : decode cX12_reads 105 = .ok (.aload_n 0, 1) := zc1 (zc2 (zc2 (zc2 (zc2 (zc2 zg08d00_47)))))
theorem dX12_reads_106 : decode cX12_reads 106 = .ok (.getfield 50, 3) := zc1 (zc2 (zc2 (zc2 (zc2 (zc2 (zc2 zg08d00_47))))))
theorem dX12_reads_109 : decode cX12_reads 109 = .ok (.iload_n 1, 1) := zc1 (zc2 (zc2 (zc2 (zc2 (zc2 (zc2 (zc2 zg08d00_47)))))))
theorem dX12_reads_110 : decode cX12_reads 110 = .ok (.iload 4, 2) := zc1 (zc2 (zc2 (zc2 (zc2 (zc2 (zc2 (zc2 (zc2 zg08d00_47))))))))
theorem dX12_reads_112 : decode cX12_reads 112 = .ok (.ifCond .eq 7, 3) := zc1 (zc2 (zc2 (zc2 (zc2 (zc2 (zc2 (zc2 (zc2 (zc2 zg08d00_47)))))))))
theorem zg08d00_48 : zCj cX12_reads [(115, .iconst 1, 1), (116, .goto 4, 3)] := zCo _ 115 (by decide +kernel)
theorem dX12_reads_115 : decode cX12_reads 115 = .ok (.iconst 1, 1) := zc1 zg08d00_48
theorem dX12_reads_116 : decode cX12_reads 116 = .ok (.goto 4, 3) := zc1 (zc2 zg08d00_48)
