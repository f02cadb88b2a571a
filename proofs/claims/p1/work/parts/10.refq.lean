set_option maxHeartbeats 4000000 in
set_option maxRecDepth 100000 in
/-- judged on a new object -/
theorem r_judged (l : Launch) (D : va_G) (ct : Nat → ClassId) (h0 : Nat) (y : Nat → Nat) (p1 : Int32)  : zC l yX12_judged wsX12_judged ({ frames := 2, cells := 0, slots := 0, locals := 120 }) D ct [] [.ref h0, .int p1] [(h0, .inr (11, [.int 0, .int 0, .ref (y 0), .int 0, .int 0, .int 0, .int 0, .long 0, .int 0, .int 0, .ref (y 1), .ref (y 2), .ref (y 3), .ref (y 4), .ref (y 5), .ref (y 6), .ref (y 7), .ref (y 8), .ref (y 9), .ref (y 10), .ref (y 11), .ref (y 12), .int 0, .int 0, .ref (y 13), .ref (y 14), .ref (y 15), .ref (y 16), .ref (y 17), .ref (y 18), .ref (y 19), .ref (y 20), .ref (y 21), .ref (y 22), .ref (y 23), .ref (y 24), .int 0, .long 0, .ref (y 25), .ref (y 26), .ref (y 27), .ref (y 28), .ref (y 29), .ref (y 30), .ref (y 31), .ref (y 32), .ref (y 33), .ref (y 34), .ref (y 35), .ref (y 36), .ref (y 37), .int 0, .int 0, .ref (y 38), .long 0, .int 0, .int 0])), (y 1, .inl (ct 0, 8, .inl (upd (upd (fun _ => 0) 2 1) 3 2))), (y 32, .inl (ct 0, 31, .inl (fun _ => 0))), (y 33, .inl (ct 0, 31, .inl (fun _ => 0))), (y 25, .inl (ct 0, 6, .inl (fun _ => 0)))] (S := Unit) (fun _ => some (.int (zjd p1))) (fun _ => True) (fun _ => []) 0 0 := by
  refine zofW cX12_judged 7 (some .int) (by decide) rfl (Nat.le_of_ble_eq_true rfl) ?_
  intro p e s m below meth c A hx hb hr hml hts hown hlocks hname hK hA hZ hN H locs hw hS ls hl
  have hown : s.vm.findClass RX12 = some m.cls := hown
  have hl : lv_has ls 7 [(0, .ref h0), (1, .int p1)] := hl
  have hiX12 : ∀ w ∈ wsX120, w ∈ wsX12_judged := by decide +kernel
  by_cases c_1 : p1.toInt < 0 ∨ 2 < p1.toInt
  · refine lv_aload_n hx hb dX12_judged_0 rfl (lv_at hl 0 rfl) ?_
    refine lv_iconst (v := 0) hx hb dX12_judged_1 (by decide) ?_
    refine zput (D := D) (ci := 11) (v := .int 0) (ty := .int) hx hb hts hiX12 tyX12 tyX12_ok nmX12 hown hK hw hS 0 rfl rfl 0 (by decide) (hts (.fieldLink RX12 129 "BeardPassModel" "thrown" "I") (by decide +kernel)) (fun _ h9 => h9) rfl (by decide +kernel) rfl rfl (Nat.le_of_ble_eq_true rfl) dX12_judged_2 [(h0, .inr (11, [.int 0, .int 0, .ref (y 0), .int 0, .int 0, .int 0, .int 0, .long 0, .int 0, .int 0, .ref (y 1), .ref (y 2), .ref (y 3), .ref (y 4), .ref (y 5), .ref (y 6), .ref (y 7), .ref (y 8), .ref (y 9), .ref (y 10), .ref (y 11), .ref (y 12), .int 0, .int 0, .ref (y 13), .ref (y 14), .ref (y 15), .ref (y 16), .ref (y 17), .ref (y 18), .ref (y 19), .ref (y 20), .ref (y 21), .ref (y 22), .ref (y 23), .ref (y 24), .int 0, .long 0, .ref (y 25), .ref (y 26), .ref (y 27), .ref (y 28), .ref (y 29), .ref (y 30), .ref (y 31), .ref (y 32), .ref (y 33), .ref (y 34), .ref (y 35), .ref (y 36), .ref (y 37), .int 0, .int 0, .ref (y 38), .long 0, .int 0, .int 0])), (y 1, .inl (ct 0, 8, .inl (upd (upd (fun _ => 0) 2 1) 3 2))), (y 32, .inl (ct 0, 31, .inl (fun _ => 0))), (y 33, .inl (ct 0, 31, .inl (fun _ => 0))), (y 25, .inl (ct 0, 6, .inl (fun _ => 0)))] rfl (fun H locs hw hS => ?_)
    refine lv_iload_n hx hb dX12_judged_5 rfl (lv_at hl 1 rfl) ?_
    refine lv_iconst (v := 0) hx hb dX12_judged_6 (by decide) ?_
    refine lv_iconst (v := 2) hx hb dX12_judged_7 (by decide) ?_
    refine zcall2 (va_runS (As := [.int p1, .int 0, .int 2]) (rest := []) ⟨hx, hb, hml, hown, hts⟩ (c_within l D ct p1 0 2 H.size) (va_cwS 3 hts gX12_judged_X12_within rfl rfl rfl (by decide +kernel) ⟨Nat.le_of_ble_eq_true rfl, Nat.le_of_ble_eq_true rfl⟩) (zpreS hK hw hS hA zZ.nil hN [] rfl rfl) rfl rfl hl.1 rfl (lv_room (Nat.le_of_ble_eq_true rfl)) dX12_judged_8 ⟨Nat.le_of_ble_eq_true rfl, Nat.le_of_ble_eq_true rfl⟩) hw hS hA [] [0, 1, 2, 3, 4] rfl rfl rfl rfl (fun _ H locs hp2 hw hS => ?_)
    have hw : zPD D A [(h0, .inr (11, [.int 0, .int 0, .ref (y 0), .int 0, .int 0, .int 0, .int 0, .long 0, .int 0, .int 0, .ref (y 1), .ref (y 2), .ref (y 3), .ref (y 4), .ref (y 5), .ref (y 6), .ref (y 7), .ref (y 8), .ref (y 9), .ref (y 10), .ref (y 11), .ref (y 12), .int 0, .int 0, .ref (y 13), .ref (y 14), .ref (y 15), .ref (y 16), .ref (y 17), .ref (y 18), .ref (y 19), .ref (y 20), .ref (y 21), .ref (y 22), .ref (y 23), .ref (y 24), .int 0, .long 0, .ref (y 25), .ref (y 26), .ref (y 27), .ref (y 28), .ref (y 29), .ref (y 30), .ref (y 31), .ref (y 32), .ref (y 33), .ref (y 34), .ref (y 35), .ref (y 36), .ref (y 37), .int 0, .int 0, .ref (y 38), .long 0, .int 0, .int 0])), (y 1, .inl (ct 0, 8, .inl (upd (upd (fun _ => 0) 2 1) 3 2))), (y 32, .inl (ct 0, 31, .inl (fun _ => 0))), (y 33, .inl (ct 0, 31, .inl (fun _ => 0))), (y 25, .inl (ct 0, 6, .inl (fun _ => 0)))] H := hw
    refine zfr 11 [.int (zwi p1 0 2)] rfl rfl ?_
    refine ztop (.int 0) (congrArg Value.int (zwi_out c_1 (by decide) (by decide))) ?_
    refine lv_if_ne (tgt := 17) hx hb dX12_judged_11 (by decide) (fun h => absurd (by decide) h) (fun _ => ?_)
    refine lv_bipush (v := (-2)) hx hb dX12_judged_14 (by decide) ?_
    exact ziret hx hb hr (rfl) hlocks () (by simp [zjd, c_1]) (trivial) hw [] rfl (rfl) hS (Nat.le_of_ble_eq_true rfl) (Nat.le_of_ble_eq_true rfl) dX12_judged_16
  · obtain ⟨j4, hj5, hxj6⟩ := zsw (lo := 0) (hi := 2) (k := 3) (by decide) (by decide) c_1
    rcases (show j4 = 0 ∨ j4 = 1 ∨ j4 = 2 by omega) with rfl | rfl | rfl
    · obtain rfl : p1 = 0 := hxj6
      refine lv_aload_n hx hb dX12_judged_0 rfl (lv_at hl 0 rfl) ?_
      refine lv_iconst (v := 0) hx hb dX12_judged_1 (by decide) ?_
      refine zput (D := D) (ci := 11) (v := .int 0) (ty := .int) hx hb hts hiX12 tyX12 tyX12_ok nmX12 hown hK hw hS 0 rfl rfl 0 (by decide) (hts (.fieldLink RX12 129 "BeardPassModel" "thrown" "I") (by decide +kernel)) (fun _ h9 => h9) rfl (by decide +kernel) rfl rfl (Nat.le_of_ble_eq_true rfl) dX12_judged_2 [(h0, .inr (11, [.int 0, .int 0, .ref (y 0), .int 0, .int 0, .int 0, .int 0, .long 0, .int 0, .int 0, .ref (y 1), .ref (y 2), .ref (y 3), .ref (y 4), .ref (y 5), .ref (y 6), .ref (y 7), .ref (y 8), .ref (y 9), .ref (y 10), .ref (y 11), .ref (y 12), .int 0, .int 0, .ref (y 13), .ref (y 14), .ref (y 15), .ref (y 16), .ref (y 17), .ref (y 18), .ref (y 19), .ref (y 20), .ref (y 21), .ref (y 22), .ref (y 23), .ref (y 24), .int 0, .long 0, .ref (y 25), .ref (y 26), .ref (y 27), .ref (y 28), .ref (y 29), .ref (y 30), .ref (y 31), .ref (y 32), .ref (y 33), .ref (y 34), .ref (y 35), .ref (y 36), .ref (y 37), .int 0, .int 0, .ref (y 38), .long 0, .int 0, .int 0])), (y 1, .inl (ct 0, 8, .inl (upd (upd (fun _ => 0) 2 1) 3 2))), (y 32, .inl (ct 0, 31, .inl (fun _ => 0))), (y 33, .inl (ct 0, 31, .inl (fun _ => 0))), (y 25, .inl (ct 0, 6, .inl (fun _ => 0)))] rfl (fun H locs hw hS => ?_)
      refine lv_iload_n hx hb dX12_judged_5 rfl (lv_at hl 1 rfl) ?_
      refine lv_iconst (v := 0) hx hb dX12_judged_6 (by decide) ?_
      refine lv_iconst (v := 2) hx hb dX12_judged_7 (by decide) ?_
      refine zcall2 (va_runS (As := [.int 0, .int 0, .int 2]) (rest := []) ⟨hx, hb, hml, hown, hts⟩ (c_within l D ct 0 0 2 H.size) (va_cwS 3 hts gX12_judged_X12_within rfl rfl rfl (by decide +kernel) ⟨Nat.le_of_ble_eq_true rfl, Nat.le_of_ble_eq_true rfl⟩) (zpreS hK hw hS hA zZ.nil hN [] rfl rfl) rfl rfl hl.1 rfl (lv_room (Nat.le_of_ble_eq_true rfl)) dX12_judged_8 ⟨Nat.le_of_ble_eq_true rfl, Nat.le_of_ble_eq_true rfl⟩) hw hS hA [] [0, 1, 2, 3, 4] rfl rfl rfl rfl (fun _ H locs hp7 hw hS => ?_)
      have hw : zPD D A [(h0, .inr (11, [.int 0, .int 0, .ref (y 0), .int 0, .int 0, .int 0, .int 0, .long 0, .int 0, .int 0, .ref (y 1), .ref (y 2), .ref (y 3), .ref (y 4), .ref (y 5), .ref (y 6), .ref (y 7), .ref (y 8), .ref (y 9), .ref (y 10), .ref (y 11), .ref (y 12), .int 0, .int 0, .ref (y 13), .ref (y 14), .ref (y 15), .ref (y 16), .ref (y 17), .ref (y 18), .ref (y 19), .ref (y 20), .ref (y 21), .ref (y 22), .ref (y 23), .ref (y 24), .int 0, .long 0, .ref (y 25), .ref (y 26), .ref (y 27), .ref (y 28), .ref (y 29), .ref (y 30), .ref (y 31), .ref (y 32), .ref (y 33), .ref (y 34), .ref (y 35), .ref (y 36), .ref (y 37), .int 0, .int 0, .ref (y 38), .long 0, .int 0, .int 0])), (y 1, .inl (ct 0, 8, .inl (upd (upd (fun _ => 0) 2 1) 3 2))), (y 32, .inl (ct 0, 31, .inl (fun _ => 0))), (y 33, .inl (ct 0, 31, .inl (fun _ => 0))), (y 25, .inl (ct 0, 6, .inl (fun _ => 0)))] H := hw
      refine zfr 11 [.int (zwi 0 0 2)] rfl rfl ?_
      refine ztop (.int 1) (congrArg Value.int (by decide)) ?_
      refine lv_if_ne (tgt := 17) hx hb dX12_judged_11 (by decide) (fun _ => ?_) (fun h => absurd h (by decide))
      refine lv_aload_n hx hb dX12_judged_17 rfl (lv_at hl 0 rfl) ?_
      refine va_get (D := D) (ci := 11) (v := .ref (y 32)) hx hb hts hiX12 hown hK hw.1 0 rfl rfl 45 (by decide) (hts (.fieldLink RX12 108 "BeardPassModel" "s" "[I") (by decide +kernel)) (fun _ h9 => h9) rfl dX12_judged_18 ?_
      refine lv_iconst (v := 0) hx hb dX12_judged_21 (by decide) ?_
      refine lv_aload_n hx hb dX12_judged_22 rfl (lv_at hl 0 rfl) ?_
      refine va_get (D := D) (ci := 11) (v := .ref (y 33)) hx hb hts hiX12 hown hK hw.1 0 rfl rfl 46 (by decide) (hts (.fieldLink RX12 111 "BeardPassModel" "aside" "[I") (by decide +kernel)) (fun _ h9 => h9) rfl dX12_judged_23 ?_
      refine lv_iconst (v := 0) hx hb dX12_judged_26 (by decide) ?_
      refine zcall2 (va_runS (As := [.ref (y 32), .int 0, .ref (y 33), .int 0]) (rest := []) ⟨hx, hb, hml, hown, hts⟩ (c_copies l D ct (y 32) 0 (y 33) 0 31 31 (fun _ => 0) (fun _ => 0) (by decide) (by decide) (by decide) (by decide) H.size) (va_cwS 4 hts gX12_judged_X12_copies rfl rfl rfl (by decide +kernel) ⟨Nat.le_of_ble_eq_true rfl, Nat.le_of_ble_eq_true rfl⟩) (zpreS hK hw hS hA zZ.nil hN [2, 3] rfl rfl) rfl rfl hl.1 rfl (lv_room (Nat.le_of_ble_eq_true rfl)) dX12_judged_27 ⟨Nat.le_of_ble_eq_true rfl, Nat.le_of_ble_eq_true rfl⟩) hw hS hA [2, 3] [0, 1, 4] rfl rfl rfl rfl (fun _ H locs hp9 hw hS => ?_)
      have hw : zPD D A [(h0, .inr (11, [.int 0, .int 0, .ref (y 0), .int 0, .int 0, .int 0, .int 0, .long 0, .int 0, .int 0, .ref (y 1), .ref (y 2), .ref (y 3), .ref (y 4), .ref (y 5), .ref (y 6), .ref (y 7), .ref (y 8), .ref (y 9), .ref (y 10), .ref (y 11), .ref (y 12), .int 0, .int 0, .ref (y 13), .ref (y 14), .ref (y 15), .ref (y 16), .ref (y 17), .ref (y 18), .ref (y 19), .ref (y 20), .ref (y 21), .ref (y 22), .ref (y 23), .ref (y 24), .int 0, .long 0, .ref (y 25), .ref (y 26), .ref (y 27), .ref (y 28), .ref (y 29), .ref (y 30), .ref (y 31), .ref (y 32), .ref (y 33), .ref (y 34), .ref (y 35), .ref (y 36), .ref (y 37), .int 0, .int 0, .ref (y 38), .long 0, .int 0, .int 0])), (y 1, .inl (ct 0, 8, .inl (upd (upd (fun _ => 0) 2 1) 3 2))), (y 25, .inl (ct 0, 6, .inl (fun _ => 0))), (y 32, .inl (ct 0, 31, .inl (fun _ => 0))), (y 33, .inl (ct 0, 31, .inl (zcp (fun _ => 0) (fun _ => 0) 0 0 31)))] H := hw
      refine zfr 30 [] rfl rfl ?_
      refine lv_aload_n hx hb dX12_judged_30 rfl (lv_at hl 0 rfl) ?_
      refine zcall2 (va_runV (As := []) (rest := []) ⟨hx, hb, hml, hown, hts⟩ (c_fresh12 l D ct h0 y 0 0 0 0 0 0 0 0 0 0 0 0 0 0 0 0 0 0 (upd (upd (fun _ => 0) 2 1) 3 2) (fun _ => 0) (by decide) H.size) (cwV 0 hts gX12_judged_X12_fresh0 rfl rfl rfl (by decide +kernel) ⟨Nat.le_of_ble_eq_true rfl, Nat.le_of_ble_eq_true rfl⟩) (zpreV hK hw hS hA zZ.nil hN [0, 1, 3] rfl rfl 11 0 rfl rfl) rfl rfl hl.1 rfl (lv_room (Nat.le_of_ble_eq_true rfl)) dX12_judged_31 ⟨Nat.le_of_ble_eq_true rfl, Nat.le_of_ble_eq_true rfl⟩) hw hS hA [0, 1, 3] [2, 4] rfl rfl rfl rfl (fun _ H locs hp10 hw hS => ?_)
      have hw : zPD D A [(y 25, .inl (ct 0, 6, .inl (fun _ => 0))), (y 33, .inl (ct 0, 31, .inl (zcp (fun _ => 0) (fun _ => 0) 0 0 31))), (h0, .inr (11, [.int 0, .int 0, .ref (y 0), .int 0, .int 0, .int 0, .int 0, .long 0, .int 0, .int 0, .ref (y 1), .ref (y 2), .ref (y 3), .ref (y 4), .ref (y 5), .ref (y 6), .ref (y 7), .ref (y 8), .ref (y 9), .ref (y 10), .ref (y 11), .ref (y 12), .int 0, .int 0, .ref (y 13), .ref (y 14), .ref (y 15), .ref (y 16), .ref (y 17), .ref (y 18), .ref (y 19), .ref (y 20), .ref (y 21), .ref (y 22), .ref (y 23), .ref (y 24), .int 0, .long 0, .ref (y 25), .ref (y 26), .ref (y 27), .ref (y 28), .ref (y 29), .ref (y 30), .ref (y 31), .ref (y 32), .ref (y 33), .ref (y 34), .ref (y 35), .ref (y 36), .ref (y 37), .int 0, .int 0, .ref (y 38), .long 0, .int 0, .int 0])), (y 1, .inl (ct 0, 8, .inl (upd (upd (fun _ => 0) 2 1) 3 2))), (y 32, .inl (ct 0, 31, .inl (zfl (fun _ => 0) 0 31)))] H := hw
      refine zfr 34 [] rfl rfl ?_
      refine lv_aload_n hx hb dX12_judged_34 rfl (lv_at hl 0 rfl) ?_
      refine lv_bipush (v := 19) hx hb dX12_judged_35 (by decide) ?_
      refine zcall2 (va_runV (As := [.int 19]) (rest := []) ⟨hx, hb, hml, hown, hts⟩ (c_all19 l D ct h0 y 0 0 0 0 0 0 0 0 0 0 0 0 0 0 0 0 0 0 (zfl (fun _ => 0) 0 31) H.size) (cwV 1 hts gX12_judged_X12_allOf rfl rfl rfl (by decide +kernel) ⟨Nat.le_of_ble_eq_true rfl, Nat.le_of_ble_eq_true rfl⟩) (zpreV hK hw hS hA zZ.nil hN [2, 4] rfl rfl 11 2 rfl rfl) rfl rfl hl.1 rfl (lv_room (Nat.le_of_ble_eq_true rfl)) dX12_judged_37 ⟨Nat.le_of_ble_eq_true rfl, Nat.le_of_ble_eq_true rfl⟩) hw hS hA [2, 4] [0, 1, 3] rfl rfl rfl rfl (fun _ H locs hp11 hw hS => ?_)
      have hw : zPD D A [(y 25, .inl (ct 0, 6, .inl (fun _ => 0))), (y 33, .inl (ct 0, 31, .inl (zcp (fun _ => 0) (fun _ => 0) 0 0 31))), (y 1, .inl (ct 0, 8, .inl (upd (upd (fun _ => 0) 2 1) 3 2))), (h0, .inr (11, [.int 0, .int 0, .ref (y 0), .int 0, .int 0, .int 0, .int 0, .long 0, .int 0, .int 0, .ref (y 1), .ref (y 2), .ref (y 3), .ref (y 4), .ref (y 5), .ref (y 6), .ref (y 7), .ref (y 8), .ref (y 9), .ref (y 10), .ref (y 11), .ref (y 12), .int 0, .int 0, .ref (y 13), .ref (y 14), .ref (y 15), .ref (y 16), .ref (y 17), .ref (y 18), .ref (y 19), .ref (y 20), .ref (y 21), .ref (y 22), .ref (y 23), .ref (y 24), .int 0, .long 0, .ref (y 25), .ref (y 26), .ref (y 27), .ref (y 28), .ref (y 29), .ref (y 30), .ref (y 31), .ref (y 32), .ref (y 33), .ref (y 34), .ref (y 35), .ref (y 36), .ref (y 37), .int 0, .int 0, .ref (y 38), .long 0, .int 0, .int 0])), (y 32, .inl (ct 0, 31, .inl (zfl (fun _ => 0) 0 31)))] H := hw
      refine zfr 40 [.int (0 + (zfl (fun _ => 0) 0 31) 19 + (zfl (fun _ => 0) 0 31) 20 + (zfl (fun _ => 0) 0 31) 21 + (zfl (fun _ => 0) 0 31) 22 + (zfl (fun _ => 0) 0 31) 23 + (zfl (fun _ => 0) 0 31) 24)] rfl rfl ?_
      refine ztop (.int 0) (congrArg Value.int (by decide)) ?_
      refine lv_istore_n (lv' := [(2, .int 0), (0, .ref h0), (1, .int 0)]) hx hb dX12_judged_40 rfl hl (by decide) rfl (fun ls hl => ?_)
      refine lv_iconst (v := (-1)) hx hb dX12_judged_41 (by decide) ?_
      refine lv_istore_n (lv' := [(3, .int (-1)), (2, .int 0), (0, .ref h0), (1, .int 0)]) hx hb dX12_judged_42 rfl hl (by decide) rfl (fun ls hl => ?_)
      refine lv_iconst (v := (-1)) hx hb dX12_judged_43 (by decide) ?_
      refine lv_istore (lv' := [(4, .int (-1)), (3, .int (-1)), (2, .int 0), (0, .ref h0), (1, .int 0)]) hx hb dX12_judged_44 hl (by decide) rfl (fun ls hl => ?_)
      refine lv_iconst (v := 0) hx hb dX12_judged_46 (by decide) ?_
      refine lv_istore (lv' := [(5, .int 0), (4, .int (-1)), (3, .int (-1)), (2, .int 0), (0, .ref h0), (1, .int 0)]) hx hb dX12_judged_47 hl (by decide) rfl (fun ls hl => ?_)
      refine lv_iload hx hb dX12_judged_49 (lv_at hl 0 rfl) ?_
      refine lv_aload_n hx hb dX12_judged_51 rfl (lv_at hl 4 rfl) ?_
      refine va_get (D := D) (ci := 11) (v := .ref (y 25)) hx hb hts hiX12 hown hK hw.1 3 rfl rfl 38 (by decide) (hts (.fieldLink RX12 87 "BeardPassModel" "lines" "[I") (by decide +kernel)) (fun _ h9 => h9) rfl dX12_judged_52 ?_
      refine lv_iconst (v := 0) hx hb dX12_judged_55 (by decide) ?_
      refine ziald hx hb hK hw 0 rfl 0 (by decide) (by decide) (by decide) dX12_judged_56 ?_
      refine ztop (.int 0) rfl ?_
      refine lv_icmp_ge (tgt := 129) hx hb dX12_judged_57 (by decide) (fun _ => ?_) (fun h => absurd (by decide) h)
      refine lv_iload_n hx hb dX12_judged_129 rfl (lv_at hl 3 rfl) ?_
      refine lv_aload_n hx hb dX12_judged_130 rfl (lv_at hl 4 rfl) ?_
      refine lv_bipush (v := 19) hx hb dX12_judged_131 (by decide) ?_
      refine zcall2 (va_runV (As := [.int 19]) (rest := [.int 0]) ⟨hx, hb, hml, hown, hts⟩ (c_all19 l D ct h0 y 0 0 0 0 0 0 0 0 0 0 0 0 0 0 0 0 0 0 (zfl (fun _ => 0) 0 31) H.size) (cwV 1 hts gX12_judged_X12_allOf rfl rfl rfl (by decide +kernel) ⟨Nat.le_of_ble_eq_true rfl, Nat.le_of_ble_eq_true rfl⟩) (zpreV hK hw hS hA zZ.nil hN [3, 4] rfl rfl 11 3 rfl rfl) rfl rfl hl.1 rfl (lv_room (Nat.le_of_ble_eq_true rfl)) dX12_judged_133 ⟨Nat.le_of_ble_eq_true rfl, Nat.le_of_ble_eq_true rfl⟩) hw hS hA [3, 4] [0, 1, 2] rfl rfl rfl rfl (fun _ H locs hp13 hw hS => ?_)
      have hw : zPD D A [(y 25, .inl (ct 0, 6, .inl (fun _ => 0))), (y 33, .inl (ct 0, 31, .inl (zcp (fun _ => 0) (fun _ => 0) 0 0 31))), (y 1, .inl (ct 0, 8, .inl (upd (upd (fun _ => 0) 2 1) 3 2))), (h0, .inr (11, [.int 0, .int 0, .ref (y 0), .int 0, .int 0, .int 0, .int 0, .long 0, .int 0, .int 0, .ref (y 1), .ref (y 2), .ref (y 3), .ref (y 4), .ref (y 5), .ref (y 6), .ref (y 7), .ref (y 8), .ref (y 9), .ref (y 10), .ref (y 11), .ref (y 12), .int 0, .int 0, .ref (y 13), .ref (y 14), .ref (y 15), .ref (y 16), .ref (y 17), .ref (y 18), .ref (y 19), .ref (y 20), .ref (y 21), .ref (y 22), .ref (y 23), .ref (y 24), .int 0, .long 0, .ref (y 25), .ref (y 26), .ref (y 27), .ref (y 28), .ref (y 29), .ref (y 30), .ref (y 31), .ref (y 32), .ref (y 33), .ref (y 34), .ref (y 35), .ref (y 36), .ref (y 37), .int 0, .int 0, .ref (y 38), .long 0, .int 0, .int 0])), (y 32, .inl (ct 0, 31, .inl (zfl (fun _ => 0) 0 31)))] H := hw
      refine zfr 136 [.int (0 + (zfl (fun _ => 0) 0 31) 19 + (zfl (fun _ => 0) 0 31) 20 + (zfl (fun _ => 0) 0 31) 21 + (zfl (fun _ => 0) 0 31) 22 + (zfl (fun _ => 0) 0 31) 23 + (zfl (fun _ => 0) 0 31) 24), .int 0] rfl rfl ?_
      refine ztop (.int 0) (congrArg Value.int (by decide)) ?_
      refine lv_isub hx hb dX12_judged_136 ?_
      refine ztop (.int 0) (congrArg Value.int (by decide)) ?_
      refine lv_istore (lv' := [(5, .int 0), (4, .int (-1)), (3, .int (-1)), (2, .int 0), (0, .ref h0), (1, .int 0)]) hx hb dX12_judged_137 hl (by decide) rfl (fun ls hl => ?_)
      refine lv_aload_n hx hb dX12_judged_139 rfl (lv_at hl 4 rfl) ?_
      refine va_get (D := D) (ci := 11) (v := .ref (y 33)) hx hb hts hiX12 hown hK hw.1 3 rfl rfl 46 (by decide) (hts (.fieldLink RX12 111 "BeardPassModel" "aside" "[I") (by decide +kernel)) (fun _ h9 => h9) rfl dX12_judged_140 ?_
      refine lv_iconst (v := 0) hx hb dX12_judged_143 (by decide) ?_
      refine lv_aload_n hx hb dX12_judged_144 rfl (lv_at hl 4 rfl) ?_
      refine va_get (D := D) (ci := 11) (v := .ref (y 32)) hx hb hts hiX12 hown hK hw.1 3 rfl rfl 45 (by decide) (hts (.fieldLink RX12 108 "BeardPassModel" "s" "[I") (by decide +kernel)) (fun _ h9 => h9) rfl dX12_judged_145 ?_
      refine lv_iconst (v := 0) hx hb dX12_judged_148 (by decide) ?_
      refine zcall2 (va_runS (As := [.ref (y 33), .int 0, .ref (y 32), .int 0]) (rest := []) ⟨hx, hb, hml, hown, hts⟩ (c_copies l D ct (y 33) 0 (y 32) 0 31 31 (zcp (fun _ => 0) (fun _ => 0) 0 0 31) (zfl (fun _ => 0) 0 31) (by decide) (by decide) (by decide) (by decide) H.size) (va_cwS 4 hts gX12_judged_X12_copies rfl rfl rfl (by decide +kernel) ⟨Nat.le_of_ble_eq_true rfl, Nat.le_of_ble_eq_true rfl⟩) (zpreS hK hw hS hA zZ.nil hN [1, 4] rfl rfl) rfl rfl hl.1 rfl (lv_room (Nat.le_of_ble_eq_true rfl)) dX12_judged_149 ⟨Nat.le_of_ble_eq_true rfl, Nat.le_of_ble_eq_true rfl⟩) hw hS hA [1, 4] [0, 2, 3] rfl rfl rfl rfl (fun _ H locs hp14 hw hS => ?_)
      have hw : zPD D A [(y 25, .inl (ct 0, 6, .inl (fun _ => 0))), (y 1, .inl (ct 0, 8, .inl (upd (upd (fun _ => 0) 2 1) 3 2))), (h0, .inr (11, [.int 0, .int 0, .ref (y 0), .int 0, .int 0, .int 0, .int 0, .long 0, .int 0, .int 0, .ref (y 1), .ref (y 2), .ref (y 3), .ref (y 4), .ref (y 5), .ref (y 6), .ref (y 7), .ref (y 8), .ref (y 9), .ref (y 10), .ref (y 11), .ref (y 12), .int 0, .int 0, .ref (y 13), .ref (y 14), .ref (y 15), .ref (y 16), .ref (y 17), .ref (y 18), .ref (y 19), .ref (y 20), .ref (y 21), .ref (y 22), .ref (y 23), .ref (y 24), .int 0, .long 0, .ref (y 25), .ref (y 26), .ref (y 27), .ref (y 28), .ref (y 29), .ref (y 30), .ref (y 31), .ref (y 32), .ref (y 33), .ref (y 34), .ref (y 35), .ref (y 36), .ref (y 37), .int 0, .int 0, .ref (y 38), .long 0, .int 0, .int 0])), (y 33, .inl (ct 0, 31, .inl (zcp (fun _ => 0) (fun _ => 0) 0 0 31))), (y 32, .inl (ct 0, 31, .inl (zcp (zcp (fun _ => 0) (fun _ => 0) 0 0 31) (zfl (fun _ => 0) 0 31) 0 0 31)))] H := hw
      refine zfr 152 [] rfl rfl ?_
      refine lv_iload_n hx hb dX12_judged_152 rfl (lv_at hl 5 rfl) ?_
      refine lv_if_ne (tgt := 160) hx hb dX12_judged_153 (by decide) (fun h => absurd (by decide) h) (fun _ => ?_)
      refine lv_iload_n hx hb dX12_judged_156 rfl (lv_at hl 2 rfl) ?_
      refine lv_goto (tgt := 172) hx hb dX12_judged_157 (by decide) ?_
      exact ziret hx hb hr (rfl) hlocks () (by decide) (trivial) hw [] rfl (rfl) hS (Nat.le_of_ble_eq_true rfl) (Nat.le_of_ble_eq_true rfl) dX12_judged_172
    · obtain rfl : p1 = 1 := hxj6
      refine lv_aload_n hx hb dX12_judged_0 rfl (lv_at hl 0 rfl) ?_
      refine lv_iconst (v := 0) hx hb dX12_judged_1 (by decide) ?_
      refine zput (D := D) (ci := 11) (v := .int 0) (ty := .int) hx hb hts hiX12 tyX12 tyX12_ok nmX12 hown hK hw hS 0 rfl rfl 0 (by decide) (hts (.fieldLink RX12 129 "BeardPassModel" "thrown" "I") (by decide +kernel)) (fun _ h9 => h9) rfl (by decide +kernel) rfl rfl (Nat.le_of_ble_eq_true rfl) dX12_judged_2 [(h0, .inr (11, [.int 0, .int 0, .ref (y 0), .int 0, .int 0, .int 0, .int 0, .long 0, .int 0, .int 0, .ref (y 1), .ref (y 2), .ref (y 3), .ref (y 4), .ref (y 5), .ref (y 6), .ref (y 7), .ref (y 8), .ref (y 9), .ref (y 10), .ref (y 11), .ref (y 12), .int 0, .int 0, .ref (y 13), .ref (y 14), .ref (y 15), .ref (y 16), .ref (y 17), .ref (y 18), .ref (y 19), .ref (y 20), .ref (y 21), .ref (y 22), .ref (y 23), .ref (y 24), .int 0, .long 0, .ref (y 25), .ref (y 26), .ref (y 27), .ref (y 28), .ref (y 29), .ref (y 30), .ref (y 31), .ref (y 32), .ref (y 33), .ref (y 34), .ref (y 35), .ref (y 36), .ref (y 37), .int 0, .int 0, .ref (y 38), .long 0, .int 0, .int 0])), (y 1, .inl (ct 0, 8, .inl (upd (upd (fun _ => 0) 2 1) 3 2))), (y 32, .inl (ct 0, 31, .inl (fun _ => 0))), (y 33, .inl (ct 0, 31, .inl (fun _ => 0))), (y 25, .inl (ct 0, 6, .inl (fun _ => 0)))] rfl (fun H locs hw hS => ?_)
      refine lv_iload_n hx hb dX12_judged_5 rfl (lv_at hl 1 rfl) ?_
      refine lv_iconst (v := 0) hx hb dX12_judged_6 (by decide) ?_
      refine lv_iconst (v := 2) hx hb dX12_judged_7 (by decide) ?_
      refine zcall2 (va_runS (As := [.int 1, .int 0, .int 2]) (rest := []) ⟨hx, hb, hml, hown, hts⟩ (c_within l D ct 1 0 2 H.size) (va_cwS 3 hts gX12_judged_X12_within rfl rfl rfl (by decide +kernel) ⟨Nat.le_of_ble_eq_true rfl, Nat.le_of_ble_eq_true rfl⟩) (zpreS hK hw hS hA zZ.nil hN [] rfl rfl) rfl rfl hl.1 rfl (lv_room (Nat.le_of_ble_eq_true rfl)) dX12_judged_8 ⟨Nat.le_of_ble_eq_true rfl, Nat.le_of_ble_eq_true rfl⟩) hw hS hA [] [0, 1, 2, 3, 4] rfl rfl rfl rfl (fun _ H locs hp16 hw hS => ?_)
      have hw : zPD D A [(h0, .inr (11, [.int 0, .int 0, .ref (y 0), .int 0, .int 0, .int 0, .int 0, .long 0, .int 0, .int 0, .ref (y 1), .ref (y 2), .ref (y 3), .ref (y 4), .ref (y 5), .ref (y 6), .ref (y 7), .ref (y 8), .ref (y 9), .ref (y 10), .ref (y 11), .ref (y 12), .int 0, .int 0, .ref (y 13), .ref (y 14), .ref (y 15), .ref (y 16), .ref (y 17), .ref (y 18), .ref (y 19), .ref (y 20), .ref (y 21), .ref (y 22), .ref (y 23), .ref (y 24), .int 0, .long 0, .ref (y 25), .ref (y 26), .ref (y 27), .ref (y 28), .ref (y 29), .ref (y 30), .ref (y 31), .ref (y 32), .ref (y 33), .ref (y 34), .ref (y 35), .ref (y 36), .ref (y 37), .int 0, .int 0, .ref (y 38), .long 0, .int 0, .int 0])), (y 1, .inl (ct 0, 8, .inl (upd (upd (fun _ => 0) 2 1) 3 2))), (y 32, .inl (ct 0, 31, .inl (fun _ => 0))), (y 33, .inl (ct 0, 31, .inl (fun _ => 0))), (y 25, .inl (ct 0, 6, .inl (fun _ => 0)))] H := hw
      refine zfr 11 [.int (zwi 1 0 2)] rfl rfl ?_
      refine ztop (.int 1) (congrArg Value.int (by decide)) ?_
      refine lv_if_ne (tgt := 17) hx hb dX12_judged_11 (by decide) (fun _ => ?_) (fun h => absurd h (by decide))
      refine lv_aload_n hx hb dX12_judged_17 rfl (lv_at hl 0 rfl) ?_
      refine va_get (D := D) (ci := 11) (v := .ref (y 32)) hx hb hts hiX12 hown hK hw.1 0 rfl rfl 45 (by decide) (hts (.fieldLink RX12 108 "BeardPassModel" "s" "[I") (by decide +kernel)) (fun _ h9 => h9) rfl dX12_judged_18 ?_
      refine lv_iconst (v := 0) hx hb dX12_judged_21 (by decide) ?_
      refine lv_aload_n hx hb dX12_judged_22 rfl (lv_at hl 0 rfl) ?_
      refine va_get (D := D) (ci := 11) (v := .ref (y 33)) hx hb hts hiX12 hown hK hw.1 0 rfl rfl 46 (by decide) (hts (.fieldLink RX12 111 "BeardPassModel" "aside" "[I") (by decide +kernel)) (fun _ h9 => h9) rfl dX12_judged_23 ?_
      refine lv_iconst (v := 0) hx hb dX12_judged_26 (by decide) ?_
      refine zcall2 (va_runS (As := [.ref (y 32), .int 0, .ref (y 33), .int 0]) (rest := []) ⟨hx, hb, hml, hown, hts⟩ (c_copies l D ct (y 32) 0 (y 33) 0 31 31 (fun _ => 0) (fun _ => 0) (by decide) (by decide) (by decide) (by decide) H.size) (va_cwS 4 hts gX12_judged_X12_copies rfl rfl rfl (by decide +kernel) ⟨Nat.le_of_ble_eq_true rfl, Nat.le_of_ble_eq_true rfl⟩) (zpreS hK hw hS hA zZ.nil hN [2, 3] rfl rfl) rfl rfl hl.1 rfl (lv_room (Nat.le_of_ble_eq_true rfl)) dX12_judged_27 ⟨Nat.le_of_ble_eq_true rfl, Nat.le_of_ble_eq_true rfl⟩) hw hS hA [2, 3] [0, 1, 4] rfl rfl rfl rfl (fun _ H locs hp18 hw hS => ?_)
      have hw : zPD D A [(h0, .inr (11, [.int 0, .int 0, .ref (y 0), .int 0, .int 0, .int 0, .int 0, .long 0, .int 0, .int 0, .ref (y 1), .ref (y 2), .ref (y 3), .ref (y 4), .ref (y 5), .ref (y 6), .ref (y 7), .ref (y 8), .ref (y 9), .ref (y 10), .ref (y 11), .ref (y 12), .int 0, .int 0, .ref (y 13), .ref (y 14), .ref (y 15), .ref (y 16), .ref (y 17), .ref (y 18), .ref (y 19), .ref (y 20), .ref (y 21), .ref (y 22), .ref (y 23), .ref (y 24), .int 0, .long 0, .ref (y 25), .ref (y 26), .ref (y 27), .ref (y 28), .ref (y 29), .ref (y 30), .ref (y 31), .ref (y 32), .ref (y 33), .ref (y 34), .ref (y 35), .ref (y 36), .ref (y 37), .int 0, .int 0, .ref (y 38), .long 0, .int 0, .int 0])), (y 1, .inl (ct 0, 8, .inl (upd (upd (fun _ => 0) 2 1) 3 2))), (y 25, .inl (ct 0, 6, .inl (fun _ => 0))), (y 32, .inl (ct 0, 31, .inl (fun _ => 0))), (y 33, .inl (ct 0, 31, .inl (zcp (fun _ => 0) (fun _ => 0) 0 0 31)))] H := hw
      refine zfr 30 [] rfl rfl ?_
      refine lv_aload_n hx hb dX12_judged_30 rfl (lv_at hl 0 rfl) ?_
      refine zcall2 (va_runV (As := []) (rest := []) ⟨hx, hb, hml, hown, hts⟩ (c_fresh12 l D ct h0 y 0 0 0 0 0 0 0 0 0 0 0 0 0 0 0 0 0 0 (upd (upd (fun _ => 0) 2 1) 3 2) (fun _ => 0) (by decide) H.size) (cwV 0 hts gX12_judged_X12_fresh0 rfl rfl rfl (by decide +kernel) ⟨Nat.le_of_ble_eq_true rfl, Nat.le_of_ble_eq_true rfl⟩) (zpreV hK hw hS hA zZ.nil hN [0, 1, 3] rfl rfl 11 0 rfl rfl) rfl rfl hl.1 rfl (lv_room (Nat.le_of_ble_eq_true rfl)) dX12_judged_31 ⟨Nat.le_of_ble_eq_true rfl, Nat.le_of_ble_eq_true rfl⟩) hw hS hA [0, 1, 3] [2, 4] rfl rfl rfl rfl (fun _ H locs hp19 hw hS => ?_)
      have hw : zPD D A [(y 25, .inl (ct 0, 6, .inl (fun _ => 0))), (y 33, .inl (ct 0, 31, .inl (zcp (fun _ => 0) (fun _ => 0) 0 0 31))), (h0, .inr (11, [.int 0, .int 0, .ref (y 0), .int 0, .int 0, .int 0, .int 0, .long 0, .int 0, .int 0, .ref (y 1), .ref (y 2), .ref (y 3), .ref (y 4), .ref (y 5), .ref (y 6), .ref (y 7), .ref (y 8), .ref (y 9), .ref (y 10), .ref (y 11), .ref (y 12), .int 0, .int 0, .ref (y 13), .ref (y 14), .ref (y 15), .ref (y 16), .ref (y 17), .ref (y 18), .ref (y 19), .ref (y 20), .ref (y 21), .ref (y 22), .ref (y 23), .ref (y 24), .int 0, .long 0, .ref (y 25), .ref (y 26), .ref (y 27), .ref (y 28), .ref (y 29), .ref (y 30), .ref (y 31), .ref (y 32), .ref (y 33), .ref (y 34), .ref (y 35), .ref (y 36), .ref (y 37), .int 0, .int 0, .ref (y 38), .long 0, .int 0, .int 0])), (y 1, .inl (ct 0, 8, .inl (upd (upd (fun _ => 0) 2 1) 3 2))), (y 32, .inl (ct 0, 31, .inl (zfl (fun _ => 0) 0 31)))] H := hw
      refine zfr 34 [] rfl rfl ?_
      refine lv_aload_n hx hb dX12_judged_34 rfl (lv_at hl 0 rfl) ?_
      refine lv_bipush (v := 19) hx hb dX12_judged_35 (by decide) ?_
      refine zcall2 (va_runV (As := [.int 19]) (rest := []) ⟨hx, hb, hml, hown, hts⟩ (c_all19 l D ct h0 y 0 0 0 0 0 0 0 0 0 0 0 0 0 0 0 0 0 0 (zfl (fun _ => 0) 0 31) H.size) (cwV 1 hts gX12_judged_X12_allOf rfl rfl rfl (by decide +kernel) ⟨Nat.le_of_ble_eq_true rfl, Nat.le_of_ble_eq_true rfl⟩) (zpreV hK hw hS hA zZ.nil hN [2, 4] rfl rfl 11 2 rfl rfl) rfl rfl hl.1 rfl (lv_room (Nat.le_of_ble_eq_true rfl)) dX12_judged_37 ⟨Nat.le_of_ble_eq_true rfl, Nat.le_of_ble_eq_true rfl⟩) hw hS hA [2, 4] [0, 1, 3] rfl rfl rfl rfl (fun _ H locs hp20 hw hS => ?_)
      have hw : zPD D A [(y 25, .inl (ct 0, 6, .inl (fun _ => 0))), (y 33, .inl (ct 0, 31, .inl (zcp (fun _ => 0) (fun _ => 0) 0 0 31))), (y 1, .inl (ct 0, 8, .inl (upd (upd (fun _ => 0) 2 1) 3 2))), (h0, .inr (11, [.int 0, .int 0, .ref (y 0), .int 0, .int 0, .int 0, .int 0, .long 0, .int 0, .int 0, .ref (y 1), .ref (y 2), .ref (y 3), .ref (y 4), .ref (y 5), .ref (y 6), .ref (y 7), .ref (y 8), .ref (y 9), .ref (y 10), .ref (y 11), .ref (y 12), .int 0, .int 0, .ref (y 13), .ref (y 14), .ref (y 15), .ref (y 16), .ref (y 17), .ref (y 18), .ref (y 19), .ref (y 20), .ref (y 21), .ref (y 22), .ref (y 23), .ref (y 24), .int 0, .long 0, .ref (y 25), .ref (y 26), .ref (y 27), .ref (y 28), .ref (y 29), .ref (y 30), .ref (y 31), .ref (y 32), .ref (y 33), .ref (y 34), .ref (y 35), .ref (y 36), .ref (y 37), .int 0, .int 0, .ref (y 38), .long 0, .int 0, .int 0])), (y 32, .inl (ct 0, 31, .inl (zfl (fun _ => 0) 0 31)))] H := hw
      refine zfr 40 [.int (0 + (zfl (fun _ => 0) 0 31) 19 + (zfl (fun _ => 0) 0 31) 20 + (zfl (fun _ => 0) 0 31) 21 + (zfl (fun _ => 0) 0 31) 22 + (zfl (fun _ => 0) 0 31) 23 + (zfl (fun _ => 0) 0 31) 24)] rfl rfl ?_
      refine ztop (.int 0) (congrArg Value.int (by decide)) ?_
      refine lv_istore_n (lv' := [(2, .int 0), (0, .ref h0), (1, .int 1)]) hx hb dX12_judged_40 rfl hl (by decide) rfl (fun ls hl => ?_)
      refine lv_iconst (v := (-1)) hx hb dX12_judged_41 (by decide) ?_
      refine lv_istore_n (lv' := [(3, .int (-1)), (2, .int 0), (0, .ref h0), (1, .int 1)]) hx hb dX12_judged_42 rfl hl (by decide) rfl (fun ls hl => ?_)
      refine lv_iconst (v := (-1)) hx hb dX12_judged_43 (by decide) ?_
      refine lv_istore (lv' := [(4, .int (-1)), (3, .int (-1)), (2, .int 0), (0, .ref h0), (1, .int 1)]) hx hb dX12_judged_44 hl (by decide) rfl (fun ls hl => ?_)
      refine lv_iconst (v := 0) hx hb dX12_judged_46 (by decide) ?_
      refine lv_istore (lv' := [(5, .int 0), (4, .int (-1)), (3, .int (-1)), (2, .int 0), (0, .ref h0), (1, .int 1)]) hx hb dX12_judged_47 hl (by decide) rfl (fun ls hl => ?_)
      refine lv_iload hx hb dX12_judged_49 (lv_at hl 0 rfl) ?_
      refine lv_aload_n hx hb dX12_judged_51 rfl (lv_at hl 4 rfl) ?_
      refine va_get (D := D) (ci := 11) (v := .ref (y 25)) hx hb hts hiX12 hown hK hw.1 3 rfl rfl 38 (by decide) (hts (.fieldLink RX12 87 "BeardPassModel" "lines" "[I") (by decide +kernel)) (fun _ h9 => h9) rfl dX12_judged_52 ?_
      refine lv_iconst (v := 0) hx hb dX12_judged_55 (by decide) ?_
      refine ziald hx hb hK hw 0 rfl 0 (by decide) (by decide) (by decide) dX12_judged_56 ?_
      refine ztop (.int 0) rfl ?_
      refine lv_icmp_ge (tgt := 129) hx hb dX12_judged_57 (by decide) (fun _ => ?_) (fun h => absurd (by decide) h)
      refine lv_iload_n hx hb dX12_judged_129 rfl (lv_at hl 3 rfl) ?_
      refine lv_aload_n hx hb dX12_judged_130 rfl (lv_at hl 4 rfl) ?_
      refine lv_bipush (v := 19) hx hb dX12_judged_131 (by decide) ?_
      refine zcall2 (va_runV (As := [.int 19]) (rest := [.int 0]) ⟨hx, hb, hml, hown, hts⟩ (c_all19 l D ct h0 y 0 0 0 0 0 0 0 0 0 0 0 0 0 0 0 0 0 0 (zfl (fun _ => 0) 0 31) H.size) (cwV 1 hts gX12_judged_X12_allOf rfl rfl rfl (by decide +kernel) ⟨Nat.le_of_ble_eq_true rfl, Nat.le_of_ble_eq_true rfl⟩) (zpreV hK hw hS hA zZ.nil hN [3, 4] rfl rfl 11 3 rfl rfl) rfl rfl hl.1 rfl (lv_room (Nat.le_of_ble_eq_true rfl)) dX12_judged_133 ⟨Nat.le_of_ble_eq_true rfl, Nat.le_of_ble_eq_true rfl⟩) hw hS hA [3, 4] [0, 1, 2] rfl rfl rfl rfl (fun _ H locs hp22 hw hS => ?_)
      have hw : zPD D A [(y 25, .inl (ct 0, 6, .inl (fun _ => 0))), (y 33, .inl (ct 0, 31, .inl (zcp (fun _ => 0) (fun _ => 0) 0 0 31))), (y 1, .inl (ct 0, 8, .inl (upd (upd (fun _ => 0) 2 1) 3 2))), (h0, .inr (11, [.int 0, .int 0, .ref (y 0), .int 0, .int 0, .int 0, .int 0, .long 0, .int 0, .int 0, .ref (y 1), .ref (y 2), .ref (y 3), .ref (y 4), .ref (y 5), .ref (y 6), .ref (y 7), .ref (y 8), .ref (y 9), .ref (y 10), .ref (y 11), .ref (y 12), .int 0, .int 0, .ref (y 13), .ref (y 14), .ref (y 15), .ref (y 16), .ref (y 17), .ref (y 18), .ref (y 19), .ref (y 20), .ref (y 21), .ref (y 22), .ref (y 23), .ref (y 24), .int 0, .long 0, .ref (y 25), .ref (y 26), .ref (y 27), .ref (y 28), .ref (y 29), .ref (y 30), .ref (y 31), .ref (y 32), .ref (y 33), .ref (y 34), .ref (y 35), .ref (y 36), .ref (y 37), .int 0, .int 0, .ref (y 38), .long 0, .int 0, .int 0])), (y 32, .inl (ct 0, 31, .inl (zfl (fun _ => 0) 0 31)))] H := hw
      refine zfr 136 [.int (0 + (zfl (fun _ => 0) 0 31) 19 + (zfl (fun _ => 0) 0 31) 20 + (zfl (fun _ => 0) 0 31) 21 + (zfl (fun _ => 0) 0 31) 22 + (zfl (fun _ => 0) 0 31) 23 + (zfl (fun _ => 0) 0 31) 24), .int 0] rfl rfl ?_
      refine ztop (.int 0) (congrArg Value.int (by decide)) ?_
      refine lv_isub hx hb dX12_judged_136 ?_
      refine ztop (.int 0) (congrArg Value.int (by decide)) ?_
      refine lv_istore (lv' := [(5, .int 0), (4, .int (-1)), (3, .int (-1)), (2, .int 0), (0, .ref h0), (1, .int 1)]) hx hb dX12_judged_137 hl (by decide) rfl (fun ls hl => ?_)
      refine lv_aload_n hx hb dX12_judged_139 rfl (lv_at hl 4 rfl) ?_
      refine va_get (D := D) (ci := 11) (v := .ref (y 33)) hx hb hts hiX12 hown hK hw.1 3 rfl rfl 46 (by decide) (hts (.fieldLink RX12 111 "BeardPassModel" "aside" "[I") (by decide +kernel)) (fun _ h9 => h9) rfl dX12_judged_140 ?_
      refine lv_iconst (v := 0) hx hb dX12_judged_143 (by decide) ?_
      refine lv_aload_n hx hb dX12_judged_144 rfl (lv_at hl 4 rfl) ?_
      refine va_get (D := D) (ci := 11) (v := .ref (y 32)) hx hb hts hiX12 hown hK hw.1 3 rfl rfl 45 (by decide) (hts (.fieldLink RX12 108 "BeardPassModel" "s" "[I") (by decide +kernel)) (fun _ h9 => h9) rfl dX12_judged_145 ?_
      refine lv_iconst (v := 0) hx hb dX12_judged_148 (by decide) ?_
      refine zcall2 (va_runS (As := [.ref (y 33), .int 0, .ref (y 32), .int 0]) (rest := []) ⟨hx, hb, hml, hown, hts⟩ (c_copies l D ct (y 33) 0 (y 32) 0 31 31 (zcp (fun _ => 0) (fun _ => 0) 0 0 31) (zfl (fun _ => 0) 0 31) (by decide) (by decide) (by decide) (by decide) H.size) (va_cwS 4 hts gX12_judged_X12_copies rfl rfl rfl (by decide +kernel) ⟨Nat.le_of_ble_eq_true rfl, Nat.le_of_ble_eq_true rfl⟩) (zpreS hK hw hS hA zZ.nil hN [1, 4] rfl rfl) rfl rfl hl.1 rfl (lv_room (Nat.le_of_ble_eq_true rfl)) dX12_judged_149 ⟨Nat.le_of_ble_eq_true rfl, Nat.le_of_ble_eq_true rfl⟩) hw hS hA [1, 4] [0, 2, 3] rfl rfl rfl rfl (fun _ H locs hp23 hw hS => ?_)
      have hw : zPD D A [(y 25, .inl (ct 0, 6, .inl (fun _ => 0))), (y 1, .inl (ct 0, 8, .inl (upd (upd (fun _ => 0) 2 1) 3 2))), (h0, .inr (11, [.int 0, .int 0, .ref (y 0), .int 0, .int 0, .int 0, .int 0, .long 0, .int 0, .int 0, .ref (y 1), .ref (y 2), .ref (y 3), .ref (y 4), .ref (y 5), .ref (y 6), .ref (y 7), .ref (y 8), .ref (y 9), .ref (y 10), .ref (y 11), .ref (y 12), .int 0, .int 0, .ref (y 13), .ref (y 14), .ref (y 15), .ref (y 16), .ref (y 17), .ref (y 18), .ref (y 19), .ref (y 20), .ref (y 21), .ref (y 22), .ref (y 23), .ref (y 24), .int 0, .long 0, .ref (y 25), .ref (y 26), .ref (y 27), .ref (y 28), .ref (y 29), .ref (y 30), .ref (y 31), .ref (y 32), .ref (y 33), .ref (y 34), .ref (y 35), .ref (y 36), .ref (y 37), .int 0, .int 0, .ref (y 38), .long 0, .int 0, .int 0])), (y 33, .inl (ct 0, 31, .inl (zcp (fun _ => 0) (fun _ => 0) 0 0 31))), (y 32, .inl (ct 0, 31, .inl (zcp (zcp (fun _ => 0) (fun _ => 0) 0 0 31) (zfl (fun _ => 0) 0 31) 0 0 31)))] H := hw
      refine zfr 152 [] rfl rfl ?_
      refine lv_iload_n hx hb dX12_judged_152 rfl (lv_at hl 5 rfl) ?_
      refine lv_if_ne (tgt := 160) hx hb dX12_judged_153 (by decide) (fun _ => ?_) (fun h => absurd h (by decide))
      refine lv_iload_n hx hb dX12_judged_160 rfl (lv_at hl 5 rfl) ?_
      refine lv_iconst (v := 1) hx hb dX12_judged_161 (by decide) ?_
      refine lv_icmp_ne (tgt := 170) hx hb dX12_judged_162 (by decide) (fun h => absurd (by decide) h) (fun _ => ?_)
      refine lv_iload hx hb dX12_judged_165 (lv_at hl 1 rfl) ?_
      refine lv_goto (tgt := 172) hx hb dX12_judged_167 (by decide) ?_
      exact ziret hx hb hr (rfl) hlocks () (by decide) (trivial) hw [] rfl (rfl) hS (Nat.le_of_ble_eq_true rfl) (Nat.le_of_ble_eq_true rfl) dX12_judged_172
    · obtain rfl : p1 = 2 := hxj6
      refine lv_aload_n hx hb dX12_judged_0 rfl (lv_at hl 0 rfl) ?_
      refine lv_iconst (v := 0) hx hb dX12_judged_1 (by decide) ?_
      refine zput (D := D) (ci := 11) (v := .int 0) (ty := .int) hx hb hts hiX12 tyX12 tyX12_ok nmX12 hown hK hw hS 0 rfl rfl 0 (by decide) (hts (.fieldLink RX12 129 "BeardPassModel" "thrown" "I") (by decide +kernel)) (fun _ h9 => h9) rfl (by decide +kernel) rfl rfl (Nat.le_of_ble_eq_true rfl) dX12_judged_2 [(h0, .inr (11, [.int 0, .int 0, .ref (y 0), .int 0, .int 0, .int 0, .int 0, .long 0, .int 0, .int 0, .ref (y 1), .ref (y 2), .ref (y 3), .ref (y 4), .ref (y 5), .ref (y 6), .ref (y 7), .ref (y 8), .ref (y 9), .ref (y 10), .ref (y 11), .ref (y 12), .int 0, .int 0, .ref (y 13), .ref (y 14), .ref (y 15), .ref (y 16), .ref (y 17), .ref (y 18), .ref (y 19), .ref (y 20), .ref (y 21), .ref (y 22), .ref (y 23), .ref (y 24), .int 0, .long 0, .ref (y 25), .ref (y 26), .ref (y 27), .ref (y 28), .ref (y 29), .ref (y 30), .ref (y 31), .ref (y 32), .ref (y 33), .ref (y 34), .ref (y 35), .ref (y 36), .ref (y 37), .int 0, .int 0, .ref (y 38), .long 0, .int 0, .int 0])), (y 1, .inl (ct 0, 8, .inl (upd (upd (fun _ => 0) 2 1) 3 2))), (y 32, .inl (ct 0, 31, .inl (fun _ => 0))), (y 33, .inl (ct 0, 31, .inl (fun _ => 0))), (y 25, .inl (ct 0, 6, .inl (fun _ => 0)))] rfl (fun H locs hw hS => ?_)
      refine lv_iload_n hx hb dX12_judged_5 rfl (lv_at hl 1 rfl) ?_
      refine lv_iconst (v := 0) hx hb dX12_judged_6 (by decide) ?_
      refine lv_iconst (v := 2) hx hb dX12_judged_7 (by decide) ?_
      refine zcall2 (va_runS (As := [.int 2, .int 0, .int 2]) (rest := []) ⟨hx, hb, hml, hown, hts⟩ (c_within l D ct 2 0 2 H.size) (va_cwS 3 hts gX12_judged_X12_within rfl rfl rfl (by decide +kernel) ⟨Nat.le_of_ble_eq_true rfl, Nat.le_of_ble_eq_true rfl⟩) (zpreS hK hw hS hA zZ.nil hN [] rfl rfl) rfl rfl hl.1 rfl (lv_room (Nat.le_of_ble_eq_true rfl)) dX12_judged_8 ⟨Nat.le_of_ble_eq_true rfl, Nat.le_of_ble_eq_true rfl⟩) hw hS hA [] [0, 1, 2, 3, 4] rfl rfl rfl rfl (fun _ H locs hp26 hw hS => ?_)
      have hw : zPD D A [(h0, .inr (11, [.int 0, .int 0, .ref (y 0), .int 0, .int 0, .int 0, .int 0, .long 0, .int 0, .int 0, .ref (y 1), .ref (y 2), .ref (y 3), .ref (y 4), .ref (y 5), .ref (y 6), .ref (y 7), .ref (y 8), .ref (y 9), .ref (y 10), .ref (y 11), .ref (y 12), .int 0, .int 0, .ref (y 13), .ref (y 14), .ref (y 15), .ref (y 16), .ref (y 17), .ref (y 18), .ref (y 19), .ref (y 20), .ref (y 21), .ref (y 22), .ref (y 23), .ref (y 24), .int 0, .long 0, .ref (y 25), .ref (y 26), .ref (y 27), .ref (y 28), .ref (y 29), .ref (y 30), .ref (y 31), .ref (y 32), .ref (y 33), .ref (y 34), .ref (y 35), .ref (y 36), .ref (y 37), .int 0, .int 0, .ref (y 38), .long 0, .int 0, .int 0])), (y 1, .inl (ct 0, 8, .inl (upd (upd (fun _ => 0) 2 1) 3 2))), (y 32, .inl (ct 0, 31, .inl (fun _ => 0))), (y 33, .inl (ct 0, 31, .inl (fun _ => 0))), (y 25, .inl (ct 0, 6, .inl (fun _ => 0)))] H := hw
      refine zfr 11 [.int (zwi 2 0 2)] rfl rfl ?_
      refine ztop (.int 1) (congrArg Value.int (by decide)) ?_
      refine lv_if_ne (tgt := 17) hx hb dX12_judged_11 (by decide) (fun _ => ?_) (fun h => absurd h (by decide))
      refine lv_aload_n hx hb dX12_judged_17 rfl (lv_at hl 0 rfl) ?_
      refine va_get (D := D) (ci := 11) (v := .ref (y 32)) hx hb hts hiX12 hown hK hw.1 0 rfl rfl 45 (by decide) (hts (.fieldLink RX12 108 "BeardPassModel" "s" "[I") (by decide +kernel)) (fun _ h9 => h9) rfl dX12_judged_18 ?_
      refine lv_iconst (v := 0) hx hb dX12_judged_21 (by decide) ?_
      refine lv_aload_n hx hb dX12_judged_22 rfl (lv_at hl 0 rfl) ?_
      refine va_get (D := D) (ci := 11) (v := .ref (y 33)) hx hb hts hiX12 hown hK hw.1 0 rfl rfl 46 (by decide) (hts (.fieldLink RX12 111 "BeardPassModel" "aside" "[I") (by decide +kernel)) (fun _ h9 => h9) rfl dX12_judged_23 ?_
      refine lv_iconst (v := 0) hx hb dX12_judged_26 (by decide) ?_
      refine zcall2 (va_runS (As := [.ref (y 32), .int 0, .ref (y 33), .int 0]) (rest := []) ⟨hx, hb, hml, hown, hts⟩ (c_copies l D ct (y 32) 0 (y 33) 0 31 31 (fun _ => 0) (fun _ => 0) (by decide) (by decide) (by decide) (by decide) H.size) (va_cwS 4 hts gX12_judged_X12_copies rfl rfl rfl (by decide +kernel) ⟨Nat.le_of_ble_eq_true rfl, Nat.le_of_ble_eq_true rfl⟩) (zpreS hK hw hS hA zZ.nil hN [2, 3] rfl rfl) rfl rfl hl.1 rfl (lv_room (Nat.le_of_ble_eq_true rfl)) dX12_judged_27 ⟨Nat.le_of_ble_eq_true rfl, Nat.le_of_ble_eq_true rfl⟩) hw hS hA [2, 3] [0, 1, 4] rfl rfl rfl rfl (fun _ H locs hp28 hw hS => ?_)
      have hw : zPD D A [(h0, .inr (11, [.int 0, .int 0, .ref (y 0), .int 0, .int 0, .int 0, .int 0, .long 0, .int 0, .int 0, .ref (y 1), .ref (y 2), .ref (y 3), .ref (y 4), .ref (y 5), .ref (y 6), .ref (y 7), .ref (y 8), .ref (y 9), .ref (y 10), .ref (y 11), .ref (y 12), .int 0, .int 0, .ref (y 13), .ref (y 14), .ref (y 15), .ref (y 16), .ref (y 17), .ref (y 18), .ref (y 19), .ref (y 20), .ref (y 21), .ref (y 22), .ref (y 23), .ref (y 24), .int 0, .long 0, .ref (y 25), .ref (y 26), .ref (y 27), .ref (y 28), .ref (y 29), .ref (y 30), .ref (y 31), .ref (y 32), .ref (y 33), .ref (y 34), .ref (y 35), .ref (y 36), .ref (y 37), .int 0, .int 0, .ref (y 38), .long 0, .int 0, .int 0])), (y 1, .inl (ct 0, 8, .inl (upd (upd (fun _ => 0) 2 1) 3 2))), (y 25, .inl (ct 0, 6, .inl (fun _ => 0))), (y 32, .inl (ct 0, 31, .inl (fun _ => 0))), (y 33, .inl (ct 0, 31, .inl (zcp (fun _ => 0) (fun _ => 0) 0 0 31)))] H := hw
      refine zfr 30 [] rfl rfl ?_
      refine lv_aload_n hx hb dX12_judged_30 rfl (lv_at hl 0 rfl) ?_
      refine zcall2 (va_runV (As := []) (rest := []) ⟨hx, hb, hml, hown, hts⟩ (c_fresh12 l D ct h0 y 0 0 0 0 0 0 0 0 0 0 0 0 0 0 0 0 0 0 (upd (upd (fun _ => 0) 2 1) 3 2) (fun _ => 0) (by decide) H.size) (cwV 0 hts gX12_judged_X12_fresh0 rfl rfl rfl (by decide +kernel) ⟨Nat.le_of_ble_eq_true rfl, Nat.le_of_ble_eq_true rfl⟩) (zpreV hK hw hS hA zZ.nil hN [0, 1, 3] rfl rfl 11 0 rfl rfl) rfl rfl hl.1 rfl (lv_room (Nat.le_of_ble_eq_true rfl)) dX12_judged_31 ⟨Nat.le_of_ble_eq_true rfl, Nat.le_of_ble_eq_true rfl⟩) hw hS hA [0, 1, 3] [2, 4] rfl rfl rfl rfl (fun _ H locs hp29 hw hS => ?_)
      have hw : zPD D A [(y 25, .inl (ct 0, 6, .inl (fun _ => 0))), (y 33, .inl (ct 0, 31, .inl (zcp (fun _ => 0) (fun _ => 0) 0 0 31))), (h0, .inr (11, [.int 0, .int 0, .ref (y 0), .int 0, .int 0, .int 0, .int 0, .long 0, .int 0, .int 0, .ref (y 1), .ref (y 2), .ref (y 3), .ref (y 4), .ref (y 5), .ref (y 6), .ref (y 7), .ref (y 8), .ref (y 9), .ref (y 10), .ref (y 11), .ref (y 12), .int 0, .int 0, .ref (y 13), .ref (y 14), .ref (y 15), .ref (y 16), .ref (y 17), .ref (y 18), .ref (y 19), .ref (y 20), .ref (y 21), .ref (y 22), .ref (y 23), .ref (y 24), .int 0, .long 0, .ref (y 25), .ref (y 26), .ref (y 27), .ref (y 28), .ref (y 29), .ref (y 30), .ref (y 31), .ref (y 32), .ref (y 33), .ref (y 34), .ref (y 35), .ref (y 36), .ref (y 37), .int 0, .int 0, .ref (y 38), .long 0, .int 0, .int 0])), (y 1, .inl (ct 0, 8, .inl (upd (upd (fun _ => 0) 2 1) 3 2))), (y 32, .inl (ct 0, 31, .inl (zfl (fun _ => 0) 0 31)))] H := hw
      refine zfr 34 [] rfl rfl ?_
      refine lv_aload_n hx hb dX12_judged_34 rfl (lv_at hl 0 rfl) ?_
      refine lv_bipush (v := 19) hx hb dX12_judged_35 (by decide) ?_
      refine zcall2 (va_runV (As := [.int 19]) (rest := []) ⟨hx, hb, hml, hown, hts⟩ (c_all19 l D ct h0 y 0 0 0 0 0 0 0 0 0 0 0 0 0 0 0 0 0 0 (zfl (fun _ => 0) 0 31) H.size) (cwV 1 hts gX12_judged_X12_allOf rfl rfl rfl (by decide +kernel) ⟨Nat.le_of_ble_eq_true rfl, Nat.le_of_ble_eq_true rfl⟩) (zpreV hK hw hS hA zZ.nil hN [2, 4] rfl rfl 11 2 rfl rfl) rfl rfl hl.1 rfl (lv_room (Nat.le_of_ble_eq_true rfl)) dX12_judged_37 ⟨Nat.le_of_ble_eq_true rfl, Nat.le_of_ble_eq_true rfl⟩) hw hS hA [2, 4] [0, 1, 3] rfl rfl rfl rfl (fun _ H locs hp30 hw hS => ?_)
      have hw : zPD D A [(y 25, .inl (ct 0, 6, .inl (fun _ => 0))), (y 33, .inl (ct 0, 31, .inl (zcp (fun _ => 0) (fun _ => 0) 0 0 31))), (y 1, .inl (ct 0, 8, .inl (upd (upd (fun _ => 0) 2 1) 3 2))), (h0, .inr (11, [.int 0, .int 0, .ref (y 0), .int 0, .int 0, .int 0, .int 0, .long 0, .int 0, .int 0, .ref (y 1), .ref (y 2), .ref (y 3), .ref (y 4), .ref (y 5), .ref (y 6), .ref (y 7), .ref (y 8), .ref (y 9), .ref (y 10), .ref (y 11), .ref (y 12), .int 0, .int 0, .ref (y 13), .ref (y 14), .ref (y 15), .ref (y 16), .ref (y 17), .ref (y 18), .ref (y 19), .ref (y 20), .ref (y 21), .ref (y 22), .ref (y 23), .ref (y 24), .int 0, .long 0, .ref (y 25), .ref (y 26), .ref (y 27), .ref (y 28), .ref (y 29), .ref (y 30), .ref (y 31), .ref (y 32), .ref (y 33), .ref (y 34), .ref (y 35), .ref (y 36), .ref (y 37), .int 0, .int 0, .ref (y 38), .long 0, .int 0, .int 0])), (y 32, .inl (ct 0, 31, .inl (zfl (fun _ => 0) 0 31)))] H := hw
      refine zfr 40 [.int (0 + (zfl (fun _ => 0) 0 31) 19 + (zfl (fun _ => 0) 0 31) 20 + (zfl (fun _ => 0) 0 31) 21 + (zfl (fun _ => 0) 0 31) 22 + (zfl (fun _ => 0) 0 31) 23 + (zfl (fun _ => 0) 0 31) 24)] rfl rfl ?_
      refine ztop (.int 0) (congrArg Value.int (by decide)) ?_
      refine lv_istore_n (lv' := [(2, .int 0), (0, .ref h0), (1, .int 2)]) hx hb dX12_judged_40 rfl hl (by decide) rfl (fun ls hl => ?_)
      refine lv_iconst (v := (-1)) hx hb dX12_judged_41 (by decide) ?_
      refine lv_istore_n (lv' := [(3, .int (-1)), (2, .int 0), (0, .ref h0), (1, .int 2)]) hx hb dX12_judged_42 rfl hl (by decide) rfl (fun ls hl => ?_)
      refine lv_iconst (v := (-1)) hx hb dX12_judged_43 (by decide) ?_
      refine lv_istore (lv' := [(4, .int (-1)), (3, .int (-1)), (2, .int 0), (0, .ref h0), (1, .int 2)]) hx hb dX12_judged_44 hl (by decide) rfl (fun ls hl => ?_)
      refine lv_iconst (v := 0) hx hb dX12_judged_46 (by decide) ?_
      refine lv_istore (lv' := [(5, .int 0), (4, .int (-1)), (3, .int (-1)), (2, .int 0), (0, .ref h0), (1, .int 2)]) hx hb dX12_judged_47 hl (by decide) rfl (fun ls hl => ?_)
      refine lv_iload hx hb dX12_judged_49 (lv_at hl 0 rfl) ?_
      refine lv_aload_n hx hb dX12_judged_51 rfl (lv_at hl 4 rfl) ?_
      refine va_get (D := D) (ci := 11) (v := .ref (y 25)) hx hb hts hiX12 hown hK hw.1 3 rfl rfl 38 (by decide) (hts (.fieldLink RX12 87 "BeardPassModel" "lines" "[I") (by decide +kernel)) (fun _ h9 => h9) rfl dX12_judged_52 ?_
      refine lv_iconst (v := 0) hx hb dX12_judged_55 (by decide) ?_
      refine ziald hx hb hK hw 0 rfl 0 (by decide) (by decide) (by decide) dX12_judged_56 ?_
      refine ztop (.int 0) rfl ?_
      refine lv_icmp_ge (tgt := 129) hx hb dX12_judged_57 (by decide) (fun _ => ?_) (fun h => absurd (by decide) h)
      refine lv_iload_n hx hb dX12_judged_129 rfl (lv_at hl 3 rfl) ?_
      refine lv_aload_n hx hb dX12_judged_130 rfl (lv_at hl 4 rfl) ?_
      refine lv_bipush (v := 19) hx hb dX12_judged_131 (by decide) ?_
      refine zcall2 (va_runV (As := [.int 19]) (rest := [.int 0]) ⟨hx, hb, hml, hown, hts⟩ (c_all19 l D ct h0 y 0 0 0 0 0 0 0 0 0 0 0 0 0 0 0 0 0 0 (zfl (fun _ => 0) 0 31) H.size) (cwV 1 hts gX12_judged_X12_allOf rfl rfl rfl (by decide +kernel) ⟨Nat.le_of_ble_eq_true rfl, Nat.le_of_ble_eq_true rfl⟩) (zpreV hK hw hS hA zZ.nil hN [3, 4] rfl rfl 11 3 rfl rfl) rfl rfl hl.1 rfl (lv_room (Nat.le_of_ble_eq_true rfl)) dX12_judged_133 ⟨Nat.le_of_ble_eq_true rfl, Nat.le_of_ble_eq_true rfl⟩) hw hS hA [3, 4] [0, 1, 2] rfl rfl rfl rfl (fun _ H locs hp32 hw hS => ?_)
      have hw : zPD D A [(y 25, .inl (ct 0, 6, .inl (fun _ => 0))), (y 33, .inl (ct 0, 31, .inl (zcp (fun _ => 0) (fun _ => 0) 0 0 31))), (y 1, .inl (ct 0, 8, .inl (upd (upd (fun _ => 0) 2 1) 3 2))), (h0, .inr (11, [.int 0, .int 0, .ref (y 0), .int 0, .int 0, .int 0, .int 0, .long 0, .int 0, .int 0, .ref (y 1), .ref (y 2), .ref (y 3), .ref (y 4), .ref (y 5), .ref (y 6), .ref (y 7), .ref (y 8), .ref (y 9), .ref (y 10), .ref (y 11), .ref (y 12), .int 0, .int 0, .ref (y 13), .ref (y 14), .ref (y 15), .ref (y 16), .ref (y 17), .ref (y 18), .ref (y 19), .ref (y 20), .ref (y 21), .ref (y 22), .ref (y 23), .ref (y 24), .int 0, .long 0, .ref (y 25), .ref (y 26), .ref (y 27), .ref (y 28), .ref (y 29), .ref (y 30), .ref (y 31), .ref (y 32), .ref (y 33), .ref (y 34), .ref (y 35), .ref (y 36), .ref (y 37), .int 0, .int 0, .ref (y 38), .long 0, .int 0, .int 0])), (y 32, .inl (ct 0, 31, .inl (zfl (fun _ => 0) 0 31)))] H := hw
      refine zfr 136 [.int (0 + (zfl (fun _ => 0) 0 31) 19 + (zfl (fun _ => 0) 0 31) 20 + (zfl (fun _ => 0) 0 31) 21 + (zfl (fun _ => 0) 0 31) 22 + (zfl (fun _ => 0) 0 31) 23 + (zfl (fun _ => 0) 0 31) 24), .int 0] rfl rfl ?_
      refine ztop (.int 0) (congrArg Value.int (by decide)) ?_
      refine lv_isub hx hb dX12_judged_136 ?_
      refine ztop (.int 0) (congrArg Value.int (by decide)) ?_
      refine lv_istore (lv' := [(5, .int 0), (4, .int (-1)), (3, .int (-1)), (2, .int 0), (0, .ref h0), (1, .int 2)]) hx hb dX12_judged_137 hl (by decide) rfl (fun ls hl => ?_)
      refine lv_aload_n hx hb dX12_judged_139 rfl (lv_at hl 4 rfl) ?_
      refine va_get (D := D) (ci := 11) (v := .ref (y 33)) hx hb hts hiX12 hown hK hw.1 3 rfl rfl 46 (by decide) (hts (.fieldLink RX12 111 "BeardPassModel" "aside" "[I") (by decide +kernel)) (fun _ h9 => h9) rfl dX12_judged_140 ?_
      refine lv_iconst (v := 0) hx hb dX12_judged_143 (by decide) ?_
      refine lv_aload_n hx hb dX12_judged_144 rfl (lv_at hl 4 rfl) ?_
      refine va_get (D := D) (ci := 11) (v := .ref (y 32)) hx hb hts hiX12 hown hK hw.1 3 rfl rfl 45 (by decide) (hts (.fieldLink RX12 108 "BeardPassModel" "s" "[I") (by decide +kernel)) (fun _ h9 => h9) rfl dX12_judged_145 ?_
      refine lv_iconst (v := 0) hx hb dX12_judged_148 (by decide) ?_
      refine zcall2 (va_runS (As := [.ref (y 33), .int 0, .ref (y 32), .int 0]) (rest := []) ⟨hx, hb, hml, hown, hts⟩ (c_copies l D ct (y 33) 0 (y 32) 0 31 31 (zcp (fun _ => 0) (fun _ => 0) 0 0 31) (zfl (fun _ => 0) 0 31) (by decide) (by decide) (by decide) (by decide) H.size) (va_cwS 4 hts gX12_judged_X12_copies rfl rfl rfl (by decide +kernel) ⟨Nat.le_of_ble_eq_true rfl, Nat.le_of_ble_eq_true rfl⟩) (zpreS hK hw hS hA zZ.nil hN [1, 4] rfl rfl) rfl rfl hl.1 rfl (lv_room (Nat.le_of_ble_eq_true rfl)) dX12_judged_149 ⟨Nat.le_of_ble_eq_true rfl, Nat.le_of_ble_eq_true rfl⟩) hw hS hA [1, 4] [0, 2, 3] rfl rfl rfl rfl (fun _ H locs hp33 hw hS => ?_)
      have hw : zPD D A [(y 25, .inl (ct 0, 6, .inl (fun _ => 0))), (y 1, .inl (ct 0, 8, .inl (upd (upd (fun _ => 0) 2 1) 3 2))), (h0, .inr (11, [.int 0, .int 0, .ref (y 0), .int 0, .int 0, .int 0, .int 0, .long 0, .int 0, .int 0, .ref (y 1), .ref (y 2), .ref (y 3), .ref (y 4), .ref (y 5), .ref (y 6), .ref (y 7), .ref (y 8), .ref (y 9), .ref (y 10), .ref (y 11), .ref (y 12), .int 0, .int 0, .ref (y 13), .ref (y 14), .ref (y 15), .ref (y 16), .ref (y 17), .ref (y 18), .ref (y 19), .ref (y 20), .ref (y 21), .ref (y 22), .ref (y 23), .ref (y 24), .int 0, .long 0, .ref (y 25), .ref (y 26), .ref (y 27), .ref (y 28), .ref (y 29), .ref (y 30), .ref (y 31), .ref (y 32), .ref (y 33), .ref (y 34), .ref (y 35), .ref (y 36), .ref (y 37), .int 0, .int 0, .ref (y 38), .long 0, .int 0, .int 0])), (y 33, .inl (ct 0, 31, .inl (zcp (fun _ => 0) (fun _ => 0) 0 0 31))), (y 32, .inl (ct 0, 31, .inl (zcp (zcp (fun _ => 0) (fun _ => 0) 0 0 31) (zfl (fun _ => 0) 0 31) 0 0 31)))] H := hw
      refine zfr 152 [] rfl rfl ?_
      refine lv_iload_n hx hb dX12_judged_152 rfl (lv_at hl 5 rfl) ?_
      refine lv_if_ne (tgt := 160) hx hb dX12_judged_153 (by decide) (fun _ => ?_) (fun h => absurd h (by decide))
      refine lv_iload_n hx hb dX12_judged_160 rfl (lv_at hl 5 rfl) ?_
      refine lv_iconst (v := 1) hx hb dX12_judged_161 (by decide) ?_
      refine lv_icmp_ne (tgt := 170) hx hb dX12_judged_162 (by decide) (fun _ => ?_) (fun h => absurd h (by decide))
      refine lv_iload hx hb dX12_judged_170 (lv_at hl 0 rfl) ?_
      exact ziret hx hb hr (rfl) hlocks () (by decide) (trivial) hw [] rfl (rfl) hS (Nat.le_of_ble_eq_true rfl) (Nat.le_of_ble_eq_true rfl) dX12_judged_172

set_option maxHeartbeats 4000000 in
set_option maxRecDepth 100000 in
/-- lengths on a new object -/
theorem r_lengths (l : Launch) (D : va_G) (ct : Nat → ClassId) (h0 : Nat) (y : Nat → Nat) (p1 : Int32)  : zC l yX12_lengths wsX12_lengths ({ frames := 2, cells := 0, slots := 0, locals := 120 }) D ct [] [.ref h0, .int p1] [(h0, .inr (11, [.int 0, .int 0, .ref (y 0), .int 0, .int 0, .int 0, .int 0, .long 0, .int 0, .int 0, .ref (y 1), .ref (y 2), .ref (y 3), .ref (y 4), .ref (y 5), .ref (y 6), .ref (y 7), .ref (y 8), .ref (y 9), .ref (y 10), .ref (y 11), .ref (y 12), .int 0, .int 0, .ref (y 13), .ref (y 14), .ref (y 15), .ref (y 16), .ref (y 17), .ref (y 18), .ref (y 19), .ref (y 20), .ref (y 21), .ref (y 22), .ref (y 23), .ref (y 24), .int 0, .long 0, .ref (y 25), .ref (y 26), .ref (y 27), .ref (y 28), .ref (y 29), .ref (y 30), .ref (y 31), .ref (y 32), .ref (y 33), .ref (y 34), .ref (y 35), .ref (y 36), .ref (y 37), .int 0, .int 0, .ref (y 38), .long 0, .int 0, .int 0])), (y 1, .inl (ct 0, 8, .inl (upd (upd (fun _ => 0) 2 1) 3 2))), (y 29, .inl (ct 0, 5, .inl (fun _ => 0)))] (S := Unit) (fun _ => some (.int (zln p1))) (fun _ => True) (fun _ => [(h0, .inr (11, [.int 0, .int 0, .ref (y 0), .int 0, .int 0, .int 0, .int 0, .long 0, .int 0, .int 0, .ref (y 1), .ref (y 2), .ref (y 3), .ref (y 4), .ref (y 5), .ref (y 6), .ref (y 7), .ref (y 8), .ref (y 9), .ref (y 10), .ref (y 11), .ref (y 12), .int 0, .int 0, .ref (y 13), .ref (y 14), .ref (y 15), .ref (y 16), .ref (y 17), .ref (y 18), .ref (y 19), .ref (y 20), .ref (y 21), .ref (y 22), .ref (y 23), .ref (y 24), .int 0, .long 0, .ref (y 25), .ref (y 26), .ref (y 27), .ref (y 28), .ref (y 29), .ref (y 30), .ref (y 31), .ref (y 32), .ref (y 33), .ref (y 34), .ref (y 35), .ref (y 36), .ref (y 37), .int 0, .int 0, .ref (y 38), .long 0, .int 0, .int 0])), (y 1, .inl (ct 0, 8, .inl (upd (upd (fun _ => 0) 2 1) 3 2))), (y 29, .inl (ct 0, 5, .inl (fun _ => 0)))]) 0 0 := by
  refine zofW cX12_lengths 6 (some .int) (by decide) rfl (Nat.le_of_ble_eq_true rfl) ?_
  intro p e s m below meth c A hx hb hr hml hts hown hlocks hname hK hA hZ hN H locs hw hS ls hl
  have hown : s.vm.findClass RX12 = some m.cls := hown
  have hl : lv_has ls 6 [(0, .ref h0), (1, .int p1)] := hl
  have hiX12 : ∀ w ∈ wsX120, w ∈ wsX12_lengths := by decide +kernel
  by_cases c_1 : p1.toInt < 0 ∨ 2 < p1.toInt
  · refine lv_aload_n hx hb dX12_lengths_0 rfl (lv_at hl 0 rfl) ?_
    refine lv_iconst (v := 0) hx hb dX12_lengths_1 (by decide) ?_
    refine zput (D := D) (ci := 11) (v := .int 0) (ty := .int) hx hb hts hiX12 tyX12 tyX12_ok nmX12 hown hK hw hS 0 rfl rfl 0 (by decide) (hts (.fieldLink RX12 129 "BeardPassModel" "thrown" "I") (by decide +kernel)) (fun _ h9 => h9) rfl (by decide +kernel) rfl rfl (Nat.le_of_ble_eq_true rfl) dX12_lengths_2 [(h0, .inr (11, [.int 0, .int 0, .ref (y 0), .int 0, .int 0, .int 0, .int 0, .long 0, .int 0, .int 0, .ref (y 1), .ref (y 2), .ref (y 3), .ref (y 4), .ref (y 5), .ref (y 6), .ref (y 7), .ref (y 8), .ref (y 9), .ref (y 10), .ref (y 11), .ref (y 12), .int 0, .int 0, .ref (y 13), .ref (y 14), .ref (y 15), .ref (y 16), .ref (y 17), .ref (y 18), .ref (y 19), .ref (y 20), .ref (y 21), .ref (y 22), .ref (y 23), .ref (y 24), .int 0, .long 0, .ref (y 25), .ref (y 26), .ref (y 27), .ref (y 28), .ref (y 29), .ref (y 30), .ref (y 31), .ref (y 32), .ref (y 33), .ref (y 34), .ref (y 35), .ref (y 36), .ref (y 37), .int 0, .int 0, .ref (y 38), .long 0, .int 0, .int 0])), (y 1, .inl (ct 0, 8, .inl (upd (upd (fun _ => 0) 2 1) 3 2))), (y 29, .inl (ct 0, 5, .inl (fun _ => 0)))] rfl (fun H locs hw hS => ?_)
    refine lv_iload_n hx hb dX12_lengths_5 rfl (lv_at hl 1 rfl) ?_
    refine lv_iconst (v := 0) hx hb dX12_lengths_6 (by decide) ?_
    refine lv_iconst (v := 2) hx hb dX12_lengths_7 (by decide) ?_
    refine zcall2 (va_runS (As := [.int p1, .int 0, .int 2]) (rest := []) ⟨hx, hb, hml, hown, hts⟩ (c_within l D ct p1 0 2 H.size) (va_cwS 3 hts gX12_lengths_X12_within rfl rfl rfl (by decide +kernel) ⟨Nat.le_of_ble_eq_true rfl, Nat.le_of_ble_eq_true rfl⟩) (zpreS hK hw hS hA zZ.nil hN [] rfl rfl) rfl rfl hl.1 rfl (lv_room (Nat.le_of_ble_eq_true rfl)) dX12_lengths_8 ⟨Nat.le_of_ble_eq_true rfl, Nat.le_of_ble_eq_true rfl⟩) hw hS hA [] [0, 1, 2] rfl rfl rfl rfl (fun _ H locs hp2 hw hS => ?_)
    have hw : zPD D A [(h0, .inr (11, [.int 0, .int 0, .ref (y 0), .int 0, .int 0, .int 0, .int 0, .long 0, .int 0, .int 0, .ref (y 1), .ref (y 2), .ref (y 3), .ref (y 4), .ref (y 5), .ref (y 6), .ref (y 7), .ref (y 8), .ref (y 9), .ref (y 10), .ref (y 11), .ref (y 12), .int 0, .int 0, .ref (y 13), .ref (y 14), .ref (y 15), .ref (y 16), .ref (y 17), .ref (y 18), .ref (y 19), .ref (y 20), .ref (y 21), .ref (y 22), .ref (y 23), .ref (y 24), .int 0, .long 0, .ref (y 25), .ref (y 26), .ref (y 27), .ref (y 28), .ref (y 29), .ref (y 30), .ref (y 31), .ref (y 32), .ref (y 33), .ref (y 34), .ref (y 35), .ref (y 36), .ref (y 37), .int 0, .int 0, .ref (y 38), .long 0, .int 0, .int 0])), (y 1, .inl (ct 0, 8, .inl (upd (upd (fun _ => 0) 2 1) 3 2))), (y 29, .inl (ct 0, 5, .inl (fun _ => 0)))] H := hw
    refine zfr 11 [.int (zwi p1 0 2)] rfl rfl ?_
    refine ztop (.int 0) (congrArg Value.int (zwi_out c_1 (by decide) (by decide))) ?_
    refine lv_if_ne (tgt := 16) hx hb dX12_lengths_11 (by decide) (fun h => absurd (by decide) h) (fun _ => ?_)
    refine lv_iconst (v := (-1)) hx hb dX12_lengths_14 (by decide) ?_
    exact ziret hx hb hr (rfl) hlocks () (by simp [zln, c_1]) (trivial) hw [0, 1, 2] rfl (rfl) hS (Nat.le_of_ble_eq_true rfl) (Nat.le_of_ble_eq_true rfl) dX12_lengths_15
  · obtain ⟨j4, hj5, hxj6⟩ := zsw (lo := 0) (hi := 2) (k := 3) (by decide) (by decide) c_1
    rcases (show j4 = 0 ∨ j4 = 1 ∨ j4 = 2 by omega) with rfl | rfl | rfl
    · obtain rfl : p1 = 0 := hxj6
      refine lv_aload_n hx hb dX12_lengths_0 rfl (lv_at hl 0 rfl) ?_
      refine lv_iconst (v := 0) hx hb dX12_lengths_1 (by decide) ?_
      refine zput (D := D) (ci := 11) (v := .int 0) (ty := .int) hx hb hts hiX12 tyX12 tyX12_ok nmX12 hown hK hw hS 0 rfl rfl 0 (by decide) (hts (.fieldLink RX12 129 "BeardPassModel" "thrown" "I") (by decide +kernel)) (fun _ h9 => h9) rfl (by decide +kernel) rfl rfl (Nat.le_of_ble_eq_true rfl) dX12_lengths_2 [(h0, .inr (11, [.int 0, .int 0, .ref (y 0), .int 0, .int 0, .int 0, .int 0, .long 0, .int 0, .int 0, .ref (y 1), .ref (y 2), .ref (y 3), .ref (y 4), .ref (y 5), .ref (y 6), .ref (y 7), .ref (y 8), .ref (y 9), .ref (y 10), .ref (y 11), .ref (y 12), .int 0, .int 0, .ref (y 13), .ref (y 14), .ref (y 15), .ref (y 16), .ref (y 17), .ref (y 18), .ref (y 19), .ref (y 20), .ref (y 21), .ref (y 22), .ref (y 23), .ref (y 24), .int 0, .long 0, .ref (y 25), .ref (y 26), .ref (y 27), .ref (y 28), .ref (y 29), .ref (y 30), .ref (y 31), .ref (y 32), .ref (y 33), .ref (y 34), .ref (y 35), .ref (y 36), .ref (y 37), .int 0, .int 0, .ref (y 38), .long 0, .int 0, .int 0])), (y 1, .inl (ct 0, 8, .inl (upd (upd (fun _ => 0) 2 1) 3 2))), (y 29, .inl (ct 0, 5, .inl (fun _ => 0)))] rfl (fun H locs hw hS => ?_)
      refine lv_iload_n hx hb dX12_lengths_5 rfl (lv_at hl 1 rfl) ?_
      refine lv_iconst (v := 0) hx hb dX12_lengths_6 (by decide) ?_
      refine lv_iconst (v := 2) hx hb dX12_lengths_7 (by decide) ?_
      refine zcall2 (va_runS (As := [.int 0, .int 0, .int 2]) (rest := []) ⟨hx, hb, hml, hown, hts⟩ (c_within l D ct 0 0 2 H.size) (va_cwS 3 hts gX12_lengths_X12_within rfl rfl rfl (by decide +kernel) ⟨Nat.le_of_ble_eq_true rfl, Nat.le_of_ble_eq_true rfl⟩) (zpreS hK hw hS hA zZ.nil hN [] rfl rfl) rfl rfl hl.1 rfl (lv_room (Nat.le_of_ble_eq_true rfl)) dX12_lengths_8 ⟨Nat.le_of_ble_eq_true rfl, Nat.le_of_ble_eq_true rfl⟩) hw hS hA [] [0, 1, 2] rfl rfl rfl rfl (fun _ H locs hp7 hw hS => ?_)
      have hw : zPD D A [(h0, .inr (11, [.int 0, .int 0, .ref (y 0), .int 0, .int 0, .int 0, .int 0, .long 0, .int 0, .int 0, .ref (y 1), .ref (y 2), .ref (y 3), .ref (y 4), .ref (y 5), .ref (y 6), .ref (y 7), .ref (y 8), .ref (y 9), .ref (y 10), .ref (y 11), .ref (y 12), .int 0, .int 0, .ref (y 13), .ref (y 14), .ref (y 15), .ref (y 16), .ref (y 17), .ref (y 18), .ref (y 19), .ref (y 20), .ref (y 21), .ref (y 22), .ref (y 23), .ref (y 24), .int 0, .long 0, .ref (y 25), .ref (y 26), .ref (y 27), .ref (y 28), .ref (y 29), .ref (y 30), .ref (y 31), .ref (y 32), .ref (y 33), .ref (y 34), .ref (y 35), .ref (y 36), .ref (y 37), .int 0, .int 0, .ref (y 38), .long 0, .int 0, .int 0])), (y 1, .inl (ct 0, 8, .inl (upd (upd (fun _ => 0) 2 1) 3 2))), (y 29, .inl (ct 0, 5, .inl (fun _ => 0)))] H := hw
      refine zfr 11 [.int (zwi 0 0 2)] rfl rfl ?_
      refine ztop (.int 1) (congrArg Value.int (by decide)) ?_
      refine lv_if_ne (tgt := 16) hx hb dX12_lengths_11 (by decide) (fun _ => ?_) (fun h => absurd h (by decide))
      refine lv_iconst (v := 0) hx hb dX12_lengths_16 (by decide) ?_
      refine lv_istore_n (lv' := [(2, .int 0), (0, .ref h0), (1, .int 0)]) hx hb dX12_lengths_17 rfl hl (by decide) rfl (fun ls hl => ?_)
      refine lv_iconst (v := (-1)) hx hb dX12_lengths_18 (by decide) ?_
      refine lv_istore_n (lv' := [(3, .int (-1)), (2, .int 0), (0, .ref h0), (1, .int 0)]) hx hb dX12_lengths_19 rfl hl (by decide) rfl (fun ls hl => ?_)
      refine lv_iconst (v := (-1)) hx hb dX12_lengths_20 (by decide) ?_
      refine lv_istore (lv' := [(4, .int (-1)), (3, .int (-1)), (2, .int 0), (0, .ref h0), (1, .int 0)]) hx hb dX12_lengths_21 hl (by decide) rfl (fun ls hl => ?_)
      refine lv_iconst (v := 0) hx hb dX12_lengths_23 (by decide) ?_
      refine lv_istore (lv' := [(5, .int 0), (4, .int (-1)), (3, .int (-1)), (2, .int 0), (0, .ref h0), (1, .int 0)]) hx hb dX12_lengths_24 hl (by decide) rfl (fun ls hl => ?_)
      refine lv_iload hx hb dX12_lengths_26 (lv_at hl 0 rfl) ?_
      refine lv_bipush (v := 31) hx hb dX12_lengths_28 (by decide) ?_
      refine lv_icmp_ge (tgt := 65) hx hb dX12_lengths_30 (by decide) (fun h => absurd h (by decide)) (fun _ => ?_)
      refine lv_aload_n hx hb dX12_lengths_33 rfl (lv_at hl 4 rfl) ?_
      refine lv_iload hx hb dX12_lengths_34 (lv_at hl 0 rfl) ?_
      refine zcall2 (va_runV (As := [.int 0]) (rest := []) ⟨hx, hb, hml, hown, hts⟩ (c_asSeen12 l D ct h0 y 0 0 0 0 0 0 0 0 0 0 0 0 0 0 0 0 0 0 0 (fun _ => 0) (by decide) H.size) (cwV 1 hts gX12_lengths_X12_isAsSeen rfl rfl rfl (by decide +kernel) ⟨Nat.le_of_ble_eq_true rfl, Nat.le_of_ble_eq_true rfl⟩) (zpreV hK hw hS hA zZ.nil hN [0, 2] rfl rfl 11 0 rfl rfl) rfl rfl hl.1 rfl (lv_room (Nat.le_of_ble_eq_true rfl)) dX12_lengths_36 ⟨Nat.le_of_ble_eq_true rfl, Nat.le_of_ble_eq_true rfl⟩) hw hS hA [0, 2] [1] rfl rfl rfl rfl (fun _ H locs hp10 hw hS => ?_)
      have hw : zPD D A [(y 1, .inl (ct 0, 8, .inl (upd (upd (fun _ => 0) 2 1) 3 2))), (h0, .inr (11, [.int 0, .int 0, .ref (y 0), .int 0, .int 0, .int 0, .int 0, .long 0, .int 0, .int 0, .ref (y 1), .ref (y 2), .ref (y 3), .ref (y 4), .ref (y 5), .ref (y 6), .ref (y 7), .ref (y 8), .ref (y 9), .ref (y 10), .ref (y 11), .ref (y 12), .int 0, .int 0, .ref (y 13), .ref (y 14), .ref (y 15), .ref (y 16), .ref (y 17), .ref (y 18), .ref (y 19), .ref (y 20), .ref (y 21), .ref (y 22), .ref (y 23), .ref (y 24), .int 0, .long 0, .ref (y 25), .ref (y 26), .ref (y 27), .ref (y 28), .ref (y 29), .ref (y 30), .ref (y 31), .ref (y 32), .ref (y 33), .ref (y 34), .ref (y 35), .ref (y 36), .ref (y 37), .int 0, .int 0, .ref (y 38), .long 0, .int 0, .int 0])), (y 29, .inl (ct 0, 5, .inl (fun _ => 0)))] H := hw
      refine zfr 39 [.int 1] rfl rfl ?_
      refine lv_if_ne (tgt := 45) hx hb dX12_lengths_39 (by decide) (fun _ => ?_) (fun h => absurd h (by decide))
      refine lv_iinc (v := 1) (lv' := [(2, .int 1), (5, .int 0), (4, .int (-1)), (3, .int (-1)), (0, .ref h0), (1, .int 0)]) hx hb dX12_lengths_45 hl (k := 3) rfl (by decide) (by decide) rfl (fun ls hl => ?_)
      refine lv_iload_n hx hb dX12_lengths_48 rfl (lv_at hl 3 rfl) ?_
      refine lv_if_ge (tgt := 55) hx hb dX12_lengths_49 (by decide) (fun h => absurd h (by decide)) (fun _ => ?_)
      refine lv_iload hx hb dX12_lengths_52 (lv_at hl 1 rfl) ?_
      refine lv_istore_n (lv' := [(3, .int 0), (2, .int 1), (5, .int 0), (4, .int (-1)), (0, .ref h0), (1, .int 0)]) hx hb dX12_lengths_54 rfl hl (by decide) rfl (fun ls hl => ?_)
      refine lv_iload hx hb dX12_lengths_55 (lv_at hl 2 rfl) ?_
      refine lv_istore (lv' := [(4, .int 0), (3, .int 0), (2, .int 1), (5, .int 0), (0, .ref h0), (1, .int 0)]) hx hb dX12_lengths_57 hl (by decide) rfl (fun ls hl => ?_)
      refine lv_iinc (v := 1) (lv' := [(5, .int 1), (4, .int 0), (3, .int 0), (2, .int 1), (0, .ref h0), (1, .int 0)]) hx hb dX12_lengths_59 hl (k := 3) rfl (by decide) (by decide) rfl (fun ls hl => ?_)
      refine lv_goto (tgt := 26) hx hb dX12_lengths_62 (by decide) ?_
      refine lv_iload hx hb dX12_lengths_26 (lv_at hl 0 rfl) ?_
      refine lv_bipush (v := 31) hx hb dX12_lengths_28 (by decide) ?_
      refine lv_icmp_ge (tgt := 65) hx hb dX12_lengths_30 (by decide) (fun h => absurd h (by decide)) (fun _ => ?_)
      refine lv_aload_n hx hb dX12_lengths_33 rfl (lv_at hl 4 rfl) ?_
      refine lv_iload hx hb dX12_lengths_34 (lv_at hl 0 rfl) ?_
      refine zcall2 (va_runV (As := [.int 1]) (rest := []) ⟨hx, hb, hml, hown, hts⟩ (c_asSeen12 l D ct h0 y 0 0 0 0 0 0 0 0 0 0 0 0 0 0 0 0 0 0 1 (fun _ => 0) (by decide) H.size) (cwV 1 hts gX12_lengths_X12_isAsSeen rfl rfl rfl (by decide +kernel) ⟨Nat.le_of_ble_eq_true rfl, Nat.le_of_ble_eq_true rfl⟩) (zpreV hK hw hS hA zZ.nil hN [1, 2] rfl rfl 11 1 rfl rfl) rfl rfl hl.1 rfl (lv_room (Nat.le_of_ble_eq_true rfl)) dX12_lengths_36 ⟨Nat.le_of_ble_eq_true rfl, Nat.le_of_ble_eq_true rfl⟩) hw hS hA [1, 2] [0] rfl rfl rfl rfl (fun _ H locs hp14 hw hS => ?_)
      have hw : zPD D A [(y 1, .inl (ct 0, 8, .inl (upd (upd (fun _ => 0) 2 1) 3 2))), (h0, .inr (11, [.int 0, .int 0, .ref (y 0), .int 0, .int 0, .int 0, .int 0, .long 0, .int 0, .int 0, .ref (y 1), .ref (y 2), .ref (y 3), .ref (y 4), .ref (y 5), .ref (y 6), .ref (y 7), .ref (y 8), .ref (y 9), .ref (y 10), .ref (y 11), .ref (y 12), .int 0, .int 0, .ref (y 13), .ref (y 14), .ref (y 15), .ref (y 16), .ref (y 17), .ref (y 18), .ref (y 19), .ref (y 20), .ref (y 21), .ref (y 22), .ref (y 23), .ref (y 24), .int 0, .long 0, .ref (y 25), .ref (y 26), .ref (y 27), .ref (y 28), .ref (y 29), .ref (y 30), .ref (y 31), .ref (y 32), .ref (y 33), .ref (y 34), .ref (y 35), .ref (y 36), .ref (y 37), .int 0, .int 0, .ref (y 38), .long 0, .int 0, .int 0])), (y 29, .inl (ct 0, 5, .inl (fun _ => 0)))] H := hw
      refine zfr 39 [.int 1] rfl rfl ?_
      refine lv_if_ne (tgt := 45) hx hb dX12_lengths_39 (by decide) (fun _ => ?_) (fun h => absurd h (by decide))
      refine lv_iinc (v := 2) (lv' := [(2, .int 2), (5, .int 1), (4, .int 0), (3, .int 0), (0, .ref h0), (1, .int 0)]) hx hb dX12_lengths_45 hl (k := 3) rfl (by decide) (by decide) rfl (fun ls hl => ?_)
      refine lv_iload_n hx hb dX12_lengths_48 rfl (lv_at hl 3 rfl) ?_
      refine lv_if_ge (tgt := 55) hx hb dX12_lengths_49 (by decide) (fun _ => ?_) (fun h => absurd (by decide) h)
      refine lv_iload hx hb dX12_lengths_55 (lv_at hl 1 rfl) ?_
      refine lv_istore (lv' := [(4, .int 1), (2, .int 2), (5, .int 1), (3, .int 0), (0, .ref h0), (1, .int 0)]) hx hb dX12_lengths_57 hl (by decide) rfl (fun ls hl => ?_)
      refine lv_iinc (v := 2) (lv' := [(5, .int 2), (4, .int 1), (2, .int 2), (3, .int 0), (0, .ref h0), (1, .int 0)]) hx hb dX12_lengths_59 hl (k := 2) rfl (by decide) (by decide) rfl (fun ls hl => ?_)
      refine lv_goto (tgt := 26) hx hb dX12_lengths_62 (by decide) ?_
      refine lv_iload hx hb dX12_lengths_26 (lv_at hl 0 rfl) ?_
      refine lv_bipush (v := 31) hx hb dX12_lengths_28 (by decide) ?_
      refine lv_icmp_ge (tgt := 65) hx hb dX12_lengths_30 (by decide) (fun h => absurd h (by decide)) (fun _ => ?_)
      refine lv_aload_n hx hb dX12_lengths_33 rfl (lv_at hl 4 rfl) ?_
      refine lv_iload hx hb dX12_lengths_34 (lv_at hl 0 rfl) ?_
      refine zcall2 (va_runV (As := [.int 2]) (rest := []) ⟨hx, hb, hml, hown, hts⟩ (c_asSeen12 l D ct h0 y 0 0 0 0 0 0 0 0 0 0 0 0 0 0 0 0 0 0 2 (fun _ => 0) (by decide) H.size) (cwV 1 hts gX12_lengths_X12_isAsSeen rfl rfl rfl (by decide +kernel) ⟨Nat.le_of_ble_eq_true rfl, Nat.le_of_ble_eq_true rfl⟩) (zpreV hK hw hS hA zZ.nil hN [1, 2] rfl rfl 11 1 rfl rfl) rfl rfl hl.1 rfl (lv_room (Nat.le_of_ble_eq_true rfl)) dX12_lengths_36 ⟨Nat.le_of_ble_eq_true rfl, Nat.le_of_ble_eq_true rfl⟩) hw hS hA [1, 2] [0] rfl rfl rfl rfl (fun _ H locs hp18 hw hS => ?_)
      have hw : zPD D A [(y 1, .inl (ct 0, 8, .inl (upd (upd (fun _ => 0) 2 1) 3 2))), (h0, .inr (11, [.int 0, .int 0, .ref (y 0), .int 0, .int 0, .int 0, .int 0, .long 0, .int 0, .int 0, .ref (y 1), .ref (y 2), .ref (y 3), .ref (y 4), .ref (y 5), .ref (y 6), .ref (y 7), .ref (y 8), .ref (y 9), .ref (y 10), .ref (y 11), .ref (y 12), .int 0, .int 0, .ref (y 13), .ref (y 14), .ref (y 15), .ref (y 16), .ref (y 17), .ref (y 18), .ref (y 19), .ref (y 20), .ref (y 21), .ref (y 22), .ref (y 23), .ref (y 24), .int 0, .long 0, .ref (y 25), .ref (y 26), .ref (y 27), .ref (y 28), .ref (y 29), .ref (y 30), .ref (y 31), .ref (y 32), .ref (y 33), .ref (y 34), .ref (y 35), .ref (y 36), .ref (y 37), .int 0, .int 0, .ref (y 38), .long 0, .int 0, .int 0])), (y 29, .inl (ct 0, 5, .inl (fun _ => 0)))] H := hw
      refine zfr 39 [.int 1] rfl rfl ?_
      refine lv_if_ne (tgt := 45) hx hb dX12_lengths_39 (by decide) (fun _ => ?_) (fun h => absurd h (by decide))
      refine lv_iinc (v := 3) (lv' := [(2, .int 3), (5, .int 2), (4, .int 1), (3, .int 0), (0, .ref h0), (1, .int 0)]) hx hb dX12_lengths_45 hl (k := 2) rfl (by decide) (by decide) rfl (fun ls hl => ?_)
      refine lv_iload_n hx hb dX12_lengths_48 rfl (lv_at hl 3 rfl) ?_
      refine lv_if_ge (tgt := 55) hx hb dX12_lengths_49 (by decide) (fun _ => ?_) (fun h => absurd (by decide) h)
      refine lv_iload hx hb dX12_lengths_55 (lv_at hl 1 rfl) ?_
      refine lv_istore (lv' := [(4, .int 2), (2, .int 3), (5, .int 2), (3, .int 0), (0, .ref h0), (1, .int 0)]) hx hb dX12_lengths_57 hl (by decide) rfl (fun ls hl => ?_)
      refine lv_iinc (v := 3) (lv' := [(5, .int 3), (4, .int 2), (2, .int 3), (3, .int 0), (0, .ref h0), (1, .int 0)]) hx hb dX12_lengths_59 hl (k := 2) rfl (by decide) (by decide) rfl (fun ls hl => ?_)
      refine lv_goto (tgt := 26) hx hb dX12_lengths_62 (by decide) ?_
      refine lv_iload hx hb dX12_lengths_26 (lv_at hl 0 rfl) ?_
      refine lv_bipush (v := 31) hx hb dX12_lengths_28 (by decide) ?_
      refine lv_icmp_ge (tgt := 65) hx hb dX12_lengths_30 (by decide) (fun h => absurd h (by decide)) (fun _ => ?_)
      refine lv_aload_n hx hb dX12_lengths_33 rfl (lv_at hl 4 rfl) ?_
      refine lv_iload hx hb dX12_lengths_34 (lv_at hl 0 rfl) ?_
      refine zcall2 (va_runV (As := [.int 3]) (rest := []) ⟨hx, hb, hml, hown, hts⟩ (c_asSeen12 l D ct h0 y 0 0 0 0 0 0 0 0 0 0 0 0 0 0 0 0 0 0 3 (fun _ => 0) (by decide) H.size) (cwV 1 hts gX12_lengths_X12_isAsSeen rfl rfl rfl (by decide +kernel) ⟨Nat.le_of_ble_eq_true rfl, Nat.le_of_ble_eq_true rfl⟩) (zpreV hK hw hS hA zZ.nil hN [1, 2] rfl rfl 11 1 rfl rfl) rfl rfl hl.1 rfl (lv_room (Nat.le_of_ble_eq_true rfl)) dX12_lengths_36 ⟨Nat.le_of_ble_eq_true rfl, Nat.le_of_ble_eq_true rfl⟩) hw hS hA [1, 2] [0] rfl rfl rfl rfl (fun _ H locs hp22 hw hS => ?_)
      have hw : zPD D A [(y 1, .inl (ct 0, 8, .inl (upd (upd (fun _ => 0) 2 1) 3 2))), (h0, .inr (11, [.int 0, .int 0, .ref (y 0), .int 0, .int 0, .int 0, .int 0, .long 0, .int 0, .int 0, .ref (y 1), .ref (y 2), .ref (y 3), .ref (y 4), .ref (y 5), .ref (y 6), .ref (y 7), .ref (y 8), .ref (y 9), .ref (y 10), .ref (y 11), .ref (y 12), .int 0, .int 0, .ref (y 13), .ref (y 14), .ref (y 15), .ref (y 16), .ref (y 17), .ref (y 18), .ref (y 19), .ref (y 20), .ref (y 21), .ref (y 22), .ref (y 23), .ref (y 24), .int 0, .long 0, .ref (y 25), .ref (y 26), .ref (y 27), .ref (y 28), .ref (y 29), .ref (y 30), .ref (y 31), .ref (y 32), .ref (y 33), .ref (y 34), .ref (y 35), .ref (y 36), .ref (y 37), .int 0, .int 0, .ref (y 38), .long 0, .int 0, .int 0])), (y 29, .inl (ct 0, 5, .inl (fun _ => 0)))] H := hw
      refine zfr 39 [.int 1] rfl rfl ?_
      refine lv_if_ne (tgt := 45) hx hb dX12_lengths_39 (by decide) (fun _ => ?_) (fun h => absurd h (by decide))
      refine lv_iinc (v := 4) (lv' := [(2, .int 4), (5, .int 3), (4, .int 2), (3, .int 0), (0, .ref h0), (1, .int 0)]) hx hb dX12_lengths_45 hl (k := 2) rfl (by decide) (by decide) rfl (fun ls hl => ?_)
      refine lv_iload_n hx hb dX12_lengths_48 rfl (lv_at hl 3 rfl) ?_
      refine lv_if_ge (tgt := 55) hx hb dX12_lengths_49 (by decide) (fun _ => ?_) (fun h => absurd (by decide) h)
      refine lv_iload hx hb dX12_lengths_55 (lv_at hl 1 rfl) ?_
      refine lv_istore (lv' := [(4, .int 3), (2, .int 4), (5, .int 3), (3, .int 0), (0, .ref h0), (1, .int 0)]) hx hb dX12_lengths_57 hl (by decide) rfl (fun ls hl => ?_)
      refine lv_iinc (v := 4) (lv' := [(5, .int 4), (4, .int 3), (2, .int 4), (3, .int 0), (0, .ref h0), (1, .int 0)]) hx hb dX12_lengths_59 hl (k := 2) rfl (by decide) (by decide) rfl (fun ls hl => ?_)
      refine lv_goto (tgt := 26) hx hb dX12_lengths_62 (by decide) ?_
      refine lv_iload hx hb dX12_lengths_26 (lv_at hl 0 rfl) ?_
      refine lv_bipush (v := 31) hx hb dX12_lengths_28 (by decide) ?_
      refine lv_icmp_ge (tgt := 65) hx hb dX12_lengths_30 (by decide) (fun h => absurd h (by decide)) (fun _ => ?_)
      refine lv_aload_n hx hb dX12_lengths_33 rfl (lv_at hl 4 rfl) ?_
      refine lv_iload hx hb dX12_lengths_34 (lv_at hl 0 rfl) ?_
      refine zcall2 (va_runV (As := [.int 4]) (rest := []) ⟨hx, hb, hml, hown, hts⟩ (c_asSeen12 l D ct h0 y 0 0 0 0 0 0 0 0 0 0 0 0 0 0 0 0 0 0 4 (fun _ => 0) (by decide) H.size) (cwV 1 hts gX12_lengths_X12_isAsSeen rfl rfl rfl (by decide +kernel) ⟨Nat.le_of_ble_eq_true rfl, Nat.le_of_ble_eq_true rfl⟩) (zpreV hK hw hS hA zZ.nil hN [1, 2] rfl rfl 11 1 rfl rfl) rfl rfl hl.1 rfl (lv_room (Nat.le_of_ble_eq_true rfl)) dX12_lengths_36 ⟨Nat.le_of_ble_eq_true rfl, Nat.le_of_ble_eq_true rfl⟩) hw hS hA [1, 2] [0] rfl rfl rfl rfl (fun _ H locs hp26 hw hS => ?_)
      have hw : zPD D A [(y 1, .inl (ct 0, 8, .inl (upd (upd (fun _ => 0) 2 1) 3 2))), (h0, .inr (11, [.int 0, .int 0, .ref (y 0), .int 0, .int 0, .int 0, .int 0, .long 0, .int 0, .int 0, .ref (y 1), .ref (y 2), .ref (y 3), .ref (y 4), .ref (y 5), .ref (y 6), .ref (y 7), .ref (y 8), .ref (y 9), .ref (y 10), .ref (y 11), .ref (y 12), .int 0, .int 0, .ref (y 13), .ref (y 14), .ref (y 15), .ref (y 16), .ref (y 17), .ref (y 18), .ref (y 19), .ref (y 20), .ref (y 21), .ref (y 22), .ref (y 23), .ref (y 24), .int 0, .long 0, .ref (y 25), .ref (y 26), .ref (y 27), .ref (y 28), .ref (y 29), .ref (y 30), .ref (y 31), .ref (y 32), .ref (y 33), .ref (y 34), .ref (y 35), .ref (y 36), .ref (y 37), .int 0, .int 0, .ref (y 38), .long 0, .int 0, .int 0])), (y 29, .inl (ct 0, 5, .inl (fun _ => 0)))] H := hw
      refine zfr 39 [.int 1] rfl rfl ?_
      refine lv_if_ne (tgt := 45) hx hb dX12_lengths_39 (by decide) (fun _ => ?_) (fun h => absurd h (by decide))
      refine lv_iinc (v := 5) (lv' := [(2, .int 5), (5, .int 4), (4, .int 3), (3, .int 0), (0, .ref h0), (1, .int 0)]) hx hb dX12_lengths_45 hl (k := 2) rfl (by decide) (by decide) rfl (fun ls hl => ?_)
      refine lv_iload_n hx hb dX12_lengths_48 rfl (lv_at hl 3 rfl) ?_
      refine lv_if_ge (tgt := 55) hx hb dX12_lengths_49 (by decide) (fun _ => ?_) (fun h => absurd (by decide) h)
      refine lv_iload hx hb dX12_lengths_55 (lv_at hl 1 rfl) ?_
      refine lv_istore (lv' := [(4, .int 4), (2, .int 5), (5, .int 4), (3, .int 0), (0, .ref h0), (1, .int 0)]) hx hb dX12_lengths_57 hl (by decide) rfl (fun ls hl => ?_)
      refine lv_iinc (v := 5) (lv' := [(5, .int 5), (4, .int 4), (2, .int 5), (3, .int 0), (0, .ref h0), (1, .int 0)]) hx hb dX12_lengths_59 hl (k := 2) rfl (by decide) (by decide) rfl (fun ls hl => ?_)
      refine lv_goto (tgt := 26) hx hb dX12_lengths_62 (by decide) ?_
      refine lv_iload hx hb dX12_lengths_26 (lv_at hl 0 rfl) ?_
      refine lv_bipush (v := 31) hx hb dX12_lengths_28 (by decide) ?_
      refine lv_icmp_ge (tgt := 65) hx hb dX12_lengths_30 (by decide) (fun h => absurd h (by decide)) (fun _ => ?_)
      refine lv_aload_n hx hb dX12_lengths_33 rfl (lv_at hl 4 rfl) ?_
      refine lv_iload hx hb dX12_lengths_34 (lv_at hl 0 rfl) ?_
      refine zcall2 (va_runV (As := [.int 5]) (rest := []) ⟨hx, hb, hml, hown, hts⟩ (c_asSeen12 l D ct h0 y 0 0 0 0 0 0 0 0 0 0 0 0 0 0 0 0 0 0 5 (fun _ => 0) (by decide) H.size) (cwV 1 hts gX12_lengths_X12_isAsSeen rfl rfl rfl (by decide +kernel) ⟨Nat.le_of_ble_eq_true rfl, Nat.le_of_ble_eq_true rfl⟩) (zpreV hK hw hS hA zZ.nil hN [1, 2] rfl rfl 11 1 rfl rfl) rfl rfl hl.1 rfl (lv_room (Nat.le_of_ble_eq_true rfl)) dX12_lengths_36 ⟨Nat.le_of_ble_eq_true rfl, Nat.le_of_ble_eq_true rfl⟩) hw hS hA [1, 2] [0] rfl rfl rfl rfl (fun _ H locs hp30 hw hS => ?_)
      have hw : zPD D A [(y 1, .inl (ct 0, 8, .inl (upd (upd (fun _ => 0) 2 1) 3 2))), (h0, .inr (11, [.int 0, .int 0, .ref (y 0), .int 0, .int 0, .int 0, .int 0, .long 0, .int 0, .int 0, .ref (y 1), .ref (y 2), .ref (y 3), .ref (y 4), .ref (y 5), .ref (y 6), .ref (y 7), .ref (y 8), .ref (y 9), .ref (y 10), .ref (y 11), .ref (y 12), .int 0, .int 0, .ref (y 13), .ref (y 14), .ref (y 15), .ref (y 16), .ref (y 17), .ref (y 18), .ref (y 19), .ref (y 20), .ref (y 21), .ref (y 22), .ref (y 23), .ref (y 24), .int 0, .long 0, .ref (y 25), .ref (y 26), .ref (y 27), .ref (y 28), .ref (y 29), .ref (y 30), .ref (y 31), .ref (y 32), .ref (y 33), .ref (y 34), .ref (y 35), .ref (y 36), .ref (y 37), .int 0, .int 0, .ref (y 38), .long 0, .int 0, .int 0])), (y 29, .inl (ct 0, 5, .inl (fun _ => 0)))] H := hw
      refine zfr 39 [.int 1] rfl rfl ?_
      refine lv_if_ne (tgt := 45) hx hb dX12_lengths_39 (by decide) (fun _ => ?_) (fun h => absurd h (by decide))
      refine lv_iinc (v := 6) (lv' := [(2, .int 6), (5, .int 5), (4, .int 4), (3, .int 0), (0, .ref h0), (1, .int 0)]) hx hb dX12_lengths_45 hl (k := 2) rfl (by decide) (by decide) rfl (fun ls hl => ?_)
      refine lv_iload_n hx hb dX12_lengths_48 rfl (lv_at hl 3 rfl) ?_
      refine lv_if_ge (tgt := 55) hx hb dX12_lengths_49 (by decide) (fun _ => ?_) (fun h => absurd (by decide) h)
      refine lv_iload hx hb dX12_lengths_55 (lv_at hl 1 rfl) ?_
      refine lv_istore (lv' := [(4, .int 5), (2, .int 6), (5, .int 5), (3, .int 0), (0, .ref h0), (1, .int 0)]) hx hb dX12_lengths_57 hl (by decide) rfl (fun ls hl => ?_)
      refine lv_iinc (v := 6) (lv' := [(5, .int 6), (4, .int 5), (2, .int 6), (3, .int 0), (0, .ref h0), (1, .int 0)]) hx hb dX12_lengths_59 hl (k := 2) rfl (by decide) (by decide) rfl (fun ls hl => ?_)
      refine lv_goto (tgt := 26) hx hb dX12_lengths_62 (by decide) ?_
      refine lv_iload hx hb dX12_lengths_26 (lv_at hl 0 rfl) ?_
      refine lv_bipush (v := 31) hx hb dX12_lengths_28 (by decide) ?_
      refine lv_icmp_ge (tgt := 65) hx hb dX12_lengths_30 (by decide) (fun h => absurd h (by decide)) (fun _ => ?_)
      refine lv_aload_n hx hb dX12_lengths_33 rfl (lv_at hl 4 rfl) ?_
      refine lv_iload hx hb dX12_lengths_34 (lv_at hl 0 rfl) ?_
      refine zcall2 (va_runV (As := [.int 6]) (rest := []) ⟨hx, hb, hml, hown, hts⟩ (c_asSeen12 l D ct h0 y 0 0 0 0 0 0 0 0 0 0 0 0 0 0 0 0 0 0 6 (fun _ => 0) (by decide) H.size) (cwV 1 hts gX12_lengths_X12_isAsSeen rfl rfl rfl (by decide +kernel) ⟨Nat.le_of_ble_eq_true rfl, Nat.le_of_ble_eq_true rfl⟩) (zpreV hK hw hS hA zZ.nil hN [1, 2] rfl rfl 11 1 rfl rfl) rfl rfl hl.1 rfl (lv_room (Nat.le_of_ble_eq_true rfl)) dX12_lengths_36 ⟨Nat.le_of_ble_eq_true rfl, Nat.le_of_ble_eq_true rfl⟩) hw hS hA [1, 2] [0] rfl rfl rfl rfl (fun _ H locs hp34 hw hS => ?_)
      have hw : zPD D A [(y 1, .inl (ct 0, 8, .inl (upd (upd (fun _ => 0) 2 1) 3 2))), (h0, .inr (11, [.int 0, .int 0, .ref (y 0), .int 0, .int 0, .int 0, .int 0, .long 0, .int 0, .int 0, .ref (y 1), .ref (y 2), .ref (y 3), .ref (y 4), .ref (y 5), .ref (y 6), .ref (y 7), .ref (y 8), .ref (y 9), .ref (y 10), .ref (y 11), .ref (y 12), .int 0, .int 0, .ref (y 13), .ref (y 14), .ref (y 15), .ref (y 16), .ref (y 17), .ref (y 18), .ref (y 19), .ref (y 20), .ref (y 21), .ref (y 22), .ref (y 23), .ref (y 24), .int 0, .long 0, .ref (y 25), .ref (y 26), .ref (y 27), .ref (y 28), .ref (y 29), .ref (y 30), .ref (y 31), .ref (y 32), .ref (y 33), .ref (y 34), .ref (y 35), .ref (y 36), .ref (y 37), .int 0, .int 0, .ref (y 38), .long 0, .int 0, .int 0])), (y 29, .inl (ct 0, 5, .inl (fun _ => 0)))] H := hw
      refine zfr 39 [.int 1] rfl rfl ?_
      refine lv_if_ne (tgt := 45) hx hb dX12_lengths_39 (by decide) (fun _ => ?_) (fun h => absurd h (by decide))
      refine lv_iinc (v := 7) (lv' := [(2, .int 7), (5, .int 6), (4, .int 5), (3, .int 0), (0, .ref h0), (1, .int 0)]) hx hb dX12_lengths_45 hl (k := 2) rfl (by decide) (by decide) rfl (fun ls hl => ?_)
      refine lv_iload_n hx hb dX12_lengths_48 rfl (lv_at hl 3 rfl) ?_
      refine lv_if_ge (tgt := 55) hx hb dX12_lengths_49 (by decide) (fun _ => ?_) (fun h => absurd (by decide) h)
      refine lv_iload hx hb dX12_lengths_55 (lv_at hl 1 rfl) ?_
      refine lv_istore (lv' := [(4, .int 6), (2, .int 7), (5, .int 6), (3, .int 0), (0, .ref h0), (1, .int 0)]) hx hb dX12_lengths_57 hl (by decide) rfl (fun ls hl => ?_)
      refine lv_iinc (v := 7) (lv' := [(5, .int 7), (4, .int 6), (2, .int 7), (3, .int 0), (0, .ref h0), (1, .int 0)]) hx hb dX12_lengths_59 hl (k := 2) rfl (by decide) (by decide) rfl (fun ls hl => ?_)
      refine lv_goto (tgt := 26) hx hb dX12_lengths_62 (by decide) ?_
      refine lv_iload hx hb dX12_lengths_26 (lv_at hl 0 rfl) ?_
      refine lv_bipush (v := 31) hx hb dX12_lengths_28 (by decide) ?_
      refine lv_icmp_ge (tgt := 65) hx hb dX12_lengths_30 (by decide) (fun h => absurd h (by decide)) (fun _ => ?_)
      refine lv_aload_n hx hb dX12_lengths_33 rfl (lv_at hl 4 rfl) ?_
      refine lv_iload hx hb dX12_lengths_34 (lv_at hl 0 rfl) ?_
      refine zcall2 (va_runV (As := [.int 7]) (rest := []) ⟨hx, hb, hml, hown, hts⟩ (c_asSeen12 l D ct h0 y 0 0 0 0 0 0 0 0 0 0 0 0 0 0 0 0 0 0 7 (fun _ => 0) (by decide) H.size) (cwV 1 hts gX12_lengths_X12_isAsSeen rfl rfl rfl (by decide +kernel) ⟨Nat.le_of_ble_eq_true rfl, Nat.le_of_ble_eq_true rfl⟩) (zpreV hK hw hS hA zZ.nil hN [1, 2] rfl rfl 11 1 rfl rfl) rfl rfl hl.1 rfl (lv_room (Nat.le_of_ble_eq_true rfl)) dX12_lengths_36 ⟨Nat.le_of_ble_eq_true rfl, Nat.le_of_ble_eq_true rfl⟩) hw hS hA [1, 2] [0] rfl rfl rfl rfl (fun _ H locs hp38 hw hS => ?_)
      have hw : zPD D A [(y 1, .inl (ct 0, 8, .inl (upd (upd (fun _ => 0) 2 1) 3 2))), (h0, .inr (11, [.int 0, .int 0, .ref (y 0), .int 0, .int 0, .int 0, .int 0, .long 0, .int 0, .int 0, .ref (y 1), .ref (y 2), .ref (y 3), .ref (y 4), .ref (y 5), .ref (y 6), .ref (y 7), .ref (y 8), .ref (y 9), .ref (y 10), .ref (y 11), .ref (y 12), .int 0, .int 0, .ref (y 13), .ref (y 14), .ref (y 15), .ref (y 16), .ref (y 17), .ref (y 18), .ref (y 19), .ref (y 20), .ref (y 21), .ref (y 22), .ref (y 23), .ref (y 24), .int 0, .long 0, .ref (y 25), .ref (y 26), .ref (y 27), .ref (y 28), .ref (y 29), .ref (y 30), .ref (y 31), .ref (y 32), .ref (y 33), .ref (y 34), .ref (y 35), .ref (y 36), .ref (y 37), .int 0, .int 0, .ref (y 38), .long 0, .int 0, .int 0])), (y 29, .inl (ct 0, 5, .inl (fun _ => 0)))] H := hw
      refine zfr 39 [.int 1] rfl rfl ?_
      refine lv_if_ne (tgt := 45) hx hb dX12_lengths_39 (by decide) (fun _ => ?_) (fun h => absurd h (by decide))
      refine lv_iinc (v := 8) (lv' := [(2, .int 8), (5, .int 7), (4, .int 6), (3, .int 0), (0, .ref h0), (1, .int 0)]) hx hb dX12_lengths_45 hl (k := 2) rfl (by decide) (by decide) rfl (fun ls hl => ?_)
      refine lv_iload_n hx hb dX12_lengths_48 rfl (lv_at hl 3 rfl) ?_
      refine lv_if_ge (tgt := 55) hx hb dX12_lengths_49 (by decide) (fun _ => ?_) (fun h => absurd (by decide) h)
      refine lv_iload hx hb dX12_lengths_55 (lv_at hl 1 rfl) ?_
      refine lv_istore (lv' := [(4, .int 7), (2, .int 8), (5, .int 7), (3, .int 0), (0, .ref h0), (1, .int 0)]) hx hb dX12_lengths_57 hl (by decide) rfl (fun ls hl => ?_)
      refine lv_iinc (v := 8) (lv' := [(5, .int 8), (4, .int 7), (2, .int 8), (3, .int 0), (0, .ref h0), (1, .int 0)]) hx hb dX12_lengths_59 hl (k := 2) rfl (by decide) (by decide) rfl (fun ls hl => ?_)
      refine lv_goto (tgt := 26) hx hb dX12_lengths_62 (by decide) ?_
      refine lv_iload hx hb dX12_lengths_26 (lv_at hl 0 rfl) ?_
      refine lv_bipush (v := 31) hx hb dX12_lengths_28 (by decide) ?_
      refine lv_icmp_ge (tgt := 65) hx hb dX12_lengths_30 (by decide) (fun h => absurd h (by decide)) (fun _ => ?_)
      refine lv_aload_n hx hb dX12_lengths_33 rfl (lv_at hl 4 rfl) ?_
      refine lv_iload hx hb dX12_lengths_34 (lv_at hl 0 rfl) ?_
      refine zcall2 (va_runV (As := [.int 8]) (rest := []) ⟨hx, hb, hml, hown, hts⟩ (c_asSeen12 l D ct h0 y 0 0 0 0 0 0 0 0 0 0 0 0 0 0 0 0 0 0 8 (fun _ => 0) (by decide) H.size) (cwV 1 hts gX12_lengths_X12_isAsSeen rfl rfl rfl (by decide +kernel) ⟨Nat.le_of_ble_eq_true rfl, Nat.le_of_ble_eq_true rfl⟩) (zpreV hK hw hS hA zZ.nil hN [1, 2] rfl rfl 11 1 rfl rfl) rfl rfl hl.1 rfl (lv_room (Nat.le_of_ble_eq_true rfl)) dX12_lengths_36 ⟨Nat.le_of_ble_eq_true rfl, Nat.le_of_ble_eq_true rfl⟩) hw hS hA [1, 2] [0] rfl rfl rfl rfl (fun _ H locs hp42 hw hS => ?_)
      have hw : zPD D A [(y 1, .inl (ct 0, 8, .inl (upd (upd (fun _ => 0) 2 1) 3 2))), (h0, .inr (11, [.int 0, .int 0, .ref (y 0), .int 0, .int 0, .int 0, .int 0, .long 0, .int 0, .int 0, .ref (y 1), .ref (y 2), .ref (y 3), .ref (y 4), .ref (y 5), .ref (y 6), .ref (y 7), .ref (y 8), .ref (y 9), .ref (y 10), .ref (y 11), .ref (y 12), .int 0, .int 0, .ref (y 13), .ref (y 14), .ref (y 15), .ref (y 16), .ref (y 17), .ref (y 18), .ref (y 19), .ref (y 20), .ref (y 21), .ref (y 22), .ref (y 23), .ref (y 24), .int 0, .long 0, .ref (y 25), .ref (y 26), .ref (y 27), .ref (y 28), .ref (y 29), .ref (y 30), .ref (y 31), .ref (y 32), .ref (y 33), .ref (y 34), .ref (y 35), .ref (y 36), .ref (y 37), .int 0, .int 0, .ref (y 38), .long 0, .int 0, .int 0])), (y 29, .inl (ct 0, 5, .inl (fun _ => 0)))] H := hw
      refine zfr 39 [.int 1] rfl rfl ?_
      refine lv_if_ne (tgt := 45) hx hb dX12_lengths_39 (by decide) (fun _ => ?_) (fun h => absurd h (by decide))
      refine lv_iinc (v := 9) (lv' := [(2, .int 9), (5, .int 8), (4, .int 7), (3, .int 0), (0, .ref h0), (1, .int 0)]) hx hb dX12_lengths_45 hl (k := 2) rfl (by decide) (by decide) rfl (fun ls hl => ?_)
      refine lv_iload_n hx hb dX12_lengths_48 rfl (lv_at hl 3 rfl) ?_
      refine lv_if_ge (tgt := 55) hx hb dX12_lengths_49 (by decide) (fun _ => ?_) (fun h => absurd (by decide) h)
      refine lv_iload hx hb dX12_lengths_55 (lv_at hl 1 rfl) ?_
      refine lv_istore (lv' := [(4, .int 8), (2, .int 9), (5, .int 8), (3, .int 0), (0, .ref h0), (1, .int 0)]) hx hb dX12_lengths_57 hl (by decide) rfl (fun ls hl => ?_)
      refine lv_iinc (v := 9) (lv' := [(5, .int 9), (4, .int 8), (2, .int 9), (3, .int 0), (0, .ref h0), (1, .int 0)]) hx hb dX12_lengths_59 hl (k := 2) rfl (by decide) (by decide) rfl (fun ls hl => ?_)
      refine lv_goto (tgt := 26) hx hb dX12_lengths_62 (by decide) ?_
      refine lv_iload hx hb dX12_lengths_26 (lv_at hl 0 rfl) ?_
      refine lv_bipush (v := 31) hx hb dX12_lengths_28 (by decide) ?_
      refine lv_icmp_ge (tgt := 65) hx hb dX12_lengths_30 (by decide) (fun h => absurd h (by decide)) (fun _ => ?_)
      refine lv_aload_n hx hb dX12_lengths_33 rfl (lv_at hl 4 rfl) ?_
      refine lv_iload hx hb dX12_lengths_34 (lv_at hl 0 rfl) ?_
      refine zcall2 (va_runV (As := [.int 9]) (rest := []) ⟨hx, hb, hml, hown, hts⟩ (c_asSeen12 l D ct h0 y 0 0 0 0 0 0 0 0 0 0 0 0 0 0 0 0 0 0 9 (fun _ => 0) (by decide) H.size) (cwV 1 hts gX12_lengths_X12_isAsSeen rfl rfl rfl (by decide +kernel) ⟨Nat.le_of_ble_eq_true rfl, Nat.le_of_ble_eq_true rfl⟩) (zpreV hK hw hS hA zZ.nil hN [1, 2] rfl rfl 11 1 rfl rfl) rfl rfl hl.1 rfl (lv_room (Nat.le_of_ble_eq_true rfl)) dX12_lengths_36 ⟨Nat.le_of_ble_eq_true rfl, Nat.le_of_ble_eq_true rfl⟩) hw hS hA [1, 2] [0] rfl rfl rfl rfl (fun _ H locs hp46 hw hS => ?_)
      have hw : zPD D A [(y 1, .inl (ct 0, 8, .inl (upd (upd (fun _ => 0) 2 1) 3 2))), (h0, .inr (11, [.int 0, .int 0, .ref (y 0), .int 0, .int 0, .int 0, .int 0, .long 0, .int 0, .int 0, .ref (y 1), .ref (y 2), .ref (y 3), .ref (y 4), .ref (y 5), .ref (y 6), .ref (y 7), .ref (y 8), .ref (y 9), .ref (y 10), .ref (y 11), .ref (y 12), .int 0, .int 0, .ref (y 13), .ref (y 14), .ref (y 15), .ref (y 16), .ref (y 17), .ref (y 18), .ref (y 19), .ref (y 20), .ref (y 21), .ref (y 22), .ref (y 23), .ref (y 24), .int 0, .long 0, .ref (y 25), .ref (y 26), .ref (y 27), .ref (y 28), .ref (y 29), .ref (y 30), .ref (y 31), .ref (y 32), .ref (y 33), .ref (y 34), .ref (y 35), .ref (y 36), .ref (y 37), .int 0, .int 0, .ref (y 38), .long 0, .int 0, .int 0])), (y 29, .inl (ct 0, 5, .inl (fun _ => 0)))] H := hw
      refine zfr 39 [.int 1] rfl rfl ?_
      refine lv_if_ne (tgt := 45) hx hb dX12_lengths_39 (by decide) (fun _ => ?_) (fun h => absurd h (by decide))
      refine lv_iinc (v := 10) (lv' := [(2, .int 10), (5, .int 9), (4, .int 8), (3, .int 0), (0, .ref h0), (1, .int 0)]) hx hb dX12_lengths_45 hl (k := 2) rfl (by decide) (by decide) rfl (fun ls hl => ?_)
      refine lv_iload_n hx hb dX12_lengths_48 rfl (lv_at hl 3 rfl) ?_
      refine lv_if_ge (tgt := 55) hx hb dX12_lengths_49 (by decide) (fun _ => ?_) (fun h => absurd (by decide) h)
      refine lv_iload hx hb dX12_lengths_55 (lv_at hl 1 rfl) ?_
      refine lv_istore (lv' := [(4, .int 9), (2, .int 10), (5, .int 9), (3, .int 0), (0, .ref h0), (1, .int 0)]) hx hb dX12_lengths_57 hl (by decide) rfl (fun ls hl => ?_)
      refine lv_iinc (v := 10) (lv' := [(5, .int 10), (4, .int 9), (2, .int 10), (3, .int 0), (0, .ref h0), (1, .int 0)]) hx hb dX12_lengths_59 hl (k := 2) rfl (by decide) (by decide) rfl (fun ls hl => ?_)
      refine lv_goto (tgt := 26) hx hb dX12_lengths_62 (by decide) ?_
      refine lv_iload hx hb dX12_lengths_26 (lv_at hl 0 rfl) ?_
      refine lv_bipush (v := 31) hx hb dX12_lengths_28 (by decide) ?_
      refine lv_icmp_ge (tgt := 65) hx hb dX12_lengths_30 (by decide) (fun h => absurd h (by decide)) (fun _ => ?_)
      refine lv_aload_n hx hb dX12_lengths_33 rfl (lv_at hl 4 rfl) ?_
      refine lv_iload hx hb dX12_lengths_34 (lv_at hl 0 rfl) ?_
      refine zcall2 (va_runV (As := [.int 10]) (rest := []) ⟨hx, hb, hml, hown, hts⟩ (c_asSeen12 l D ct h0 y 0 0 0 0 0 0 0 0 0 0 0 0 0 0 0 0 0 0 10 (fun _ => 0) (by decide) H.size) (cwV 1 hts gX12_lengths_X12_isAsSeen rfl rfl rfl (by decide +kernel) ⟨Nat.le_of_ble_eq_true rfl, Nat.le_of_ble_eq_true rfl⟩) (zpreV hK hw hS hA zZ.nil hN [1, 2] rfl rfl 11 1 rfl rfl) rfl rfl hl.1 rfl (lv_room (Nat.le_of_ble_eq_true rfl)) dX12_lengths_36 ⟨Nat.le_of_ble_eq_true rfl, Nat.le_of_ble_eq_true rfl⟩) hw hS hA [1, 2] [0] rfl rfl rfl rfl (fun _ H locs hp50 hw hS => ?_)
      have hw : zPD D A [(y 1, .inl (ct 0, 8, .inl (upd (upd (fun _ => 0) 2 1) 3 2))), (h0, .inr (11, [.int 0, .int 0, .ref (y 0), .int 0, .int 0, .int 0, .int 0, .long 0, .int 0, .int 0, .ref (y 1), .ref (y 2), .ref (y 3), .ref (y 4), .ref (y 5), .ref (y 6), .ref (y 7), .ref (y 8), .ref (y 9), .ref (y 10), .ref (y 11), .ref (y 12), .int 0, .int 0, .ref (y 13), .ref (y 14), .ref (y 15), .ref (y 16), .ref (y 17), .ref (y 18), .ref (y 19), .ref (y 20), .ref (y 21), .ref (y 22), .ref (y 23), .ref (y 24), .int 0, .long 0, .ref (y 25), .ref (y 26), .ref (y 27), .ref (y 28), .ref (y 29), .ref (y 30), .ref (y 31), .ref (y 32), .ref (y 33), .ref (y 34), .ref (y 35), .ref (y 36), .ref (y 37), .int 0, .int 0, .ref (y 38), .long 0, .int 0, .int 0])), (y 29, .inl (ct 0, 5, .inl (fun _ => 0)))] H := hw
      refine zfr 39 [.int 1] rfl rfl ?_
      refine lv_if_ne (tgt := 45) hx hb dX12_lengths_39 (by decide) (fun _ => ?_) (fun h => absurd h (by decide))
      refine lv_iinc (v := 11) (lv' := [(2, .int 11), (5, .int 10), (4, .int 9), (3, .int 0), (0, .ref h0), (1, .int 0)]) hx hb dX12_lengths_45 hl (k := 2) rfl (by decide) (by decide) rfl (fun ls hl => ?_)
      refine lv_iload_n hx hb dX12_lengths_48 rfl (lv_at hl 3 rfl) ?_
      refine lv_if_ge (tgt := 55) hx hb dX12_lengths_49 (by decide) (fun _ => ?_) (fun h => absurd (by decide) h)
      refine lv_iload hx hb dX12_lengths_55 (lv_at hl 1 rfl) ?_
      refine lv_istore (lv' := [(4, .int 10), (2, .int 11), (5, .int 10), (3, .int 0), (0, .ref h0), (1, .int 0)]) hx hb dX12_lengths_57 hl (by decide) rfl (fun ls hl => ?_)
      refine lv_iinc (v := 11) (lv' := [(5, .int 11), (4, .int 10), (2, .int 11), (3, .int 0), (0, .ref h0), (1, .int 0)]) hx hb dX12_lengths_59 hl (k := 2) rfl (by decide) (by decide) rfl (fun ls hl => ?_)
      refine lv_goto (tgt := 26) hx hb dX12_lengths_62 (by decide) ?_
      refine lv_iload hx hb dX12_lengths_26 (lv_at hl 0 rfl) ?_
      refine lv_bipush (v := 31) hx hb dX12_lengths_28 (by decide) ?_
      refine lv_icmp_ge (tgt := 65) hx hb dX12_lengths_30 (by decide) (fun h => absurd h (by decide)) (fun _ => ?_)
      refine lv_aload_n hx hb dX12_lengths_33 rfl (lv_at hl 4 rfl) ?_
      refine lv_iload hx hb dX12_lengths_34 (lv_at hl 0 rfl) ?_
      refine zcall2 (va_runV (As := [.int 11]) (rest := []) ⟨hx, hb, hml, hown, hts⟩ (c_asSeen12 l D ct h0 y 0 0 0 0 0 0 0 0 0 0 0 0 0 0 0 0 0 0 11 (fun _ => 0) (by decide) H.size) (cwV 1 hts gX12_lengths_X12_isAsSeen rfl rfl rfl (by decide +kernel) ⟨Nat.le_of_ble_eq_true rfl, Nat.le_of_ble_eq_true rfl⟩) (zpreV hK hw hS hA zZ.nil hN [1, 2] rfl rfl 11 1 rfl rfl) rfl rfl hl.1 rfl (lv_room (Nat.le_of_ble_eq_true rfl)) dX12_lengths_36 ⟨Nat.le_of_ble_eq_true rfl, Nat.le_of_ble_eq_true rfl⟩) hw hS hA [1, 2] [0] rfl rfl rfl rfl (fun _ H locs hp54 hw hS => ?_)
      have hw : zPD D A [(y 1, .inl (ct 0, 8, .inl (upd (upd (fun _ => 0) 2 1) 3 2))), (h0, .inr (11, [.int 0, .int 0, .ref (y 0), .int 0, .int 0, .int 0, .int 0, .long 0, .int 0, .int 0, .ref (y 1), .ref (y 2), .ref (y 3), .ref (y 4), .ref (y 5), .ref (y 6), .ref (y 7), .ref (y 8), .ref (y 9), .ref (y 10), .ref (y 11), .ref (y 12), .int 0, .int 0, .ref (y 13), .ref (y 14), .ref (y 15), .ref (y 16), .ref (y 17), .ref (y 18), .ref (y 19), .ref (y 20), .ref (y 21), .ref (y 22), .ref (y 23), .ref (y 24), .int 0, .long 0, .ref (y 25), .ref (y 26), .ref (y 27), .ref (y 28), .ref (y 29), .ref (y 30), .ref (y 31), .ref (y 32), .ref (y 33), .ref (y 34), .ref (y 35), .ref (y 36), .ref (y 37), .int 0, .int 0, .ref (y 38), .long 0, .int 0, .int 0])), (y 29, .inl (ct 0, 5, .inl (fun _ => 0)))] H := hw
      refine zfr 39 [.int 1] rfl rfl ?_
      refine lv_if_ne (tgt := 45) hx hb dX12_lengths_39 (by decide) (fun _ => ?_) (fun h => absurd h (by decide))
      refine lv_iinc (v := 12) (lv' := [(2, .int 12), (5, .int 11), (4, .int 10), (3, .int 0), (0, .ref h0), (1, .int 0)]) hx hb dX12_lengths_45 hl (k := 2) rfl (by decide) (by decide) rfl (fun ls hl => ?_)
      refine lv_iload_n hx hb dX12_lengths_48 rfl (lv_at hl 3 rfl) ?_
      refine lv_if_ge (tgt := 55) hx hb dX12_lengths_49 (by decide) (fun _ => ?_) (fun h => absurd (by decide) h)
      refine lv_iload hx hb dX12_lengths_55 (lv_at hl 1 rfl) ?_
      refine lv_istore (lv' := [(4, .int 11), (2, .int 12), (5, .int 11), (3, .int 0), (0, .ref h0), (1, .int 0)]) hx hb dX12_lengths_57 hl (by decide) rfl (fun ls hl => ?_)
      refine lv_iinc (v := 12) (lv' := [(5, .int 12), (4, .int 11), (2, .int 12), (3, .int 0), (0, .ref h0), (1, .int 0)]) hx hb dX12_lengths_59 hl (k := 2) rfl (by decide) (by decide) rfl (fun ls hl => ?_)
      refine lv_goto (tgt := 26) hx hb dX12_lengths_62 (by decide) ?_
      refine lv_iload hx hb dX12_lengths_26 (lv_at hl 0 rfl) ?_
      refine lv_bipush (v := 31) hx hb dX12_lengths_28 (by decide) ?_
      refine lv_icmp_ge (tgt := 65) hx hb dX12_lengths_30 (by decide) (fun h => absurd h (by decide)) (fun _ => ?_)
      refine lv_aload_n hx hb dX12_lengths_33 rfl (lv_at hl 4 rfl) ?_
      refine lv_iload hx hb dX12_lengths_34 (lv_at hl 0 rfl) ?_
      refine zcall2 (va_runV (As := [.int 12]) (rest := []) ⟨hx, hb, hml, hown, hts⟩ (c_asSeen12 l D ct h0 y 0 0 0 0 0 0 0 0 0 0 0 0 0 0 0 0 0 0 12 (fun _ => 0) (by decide) H.size) (cwV 1 hts gX12_lengths_X12_isAsSeen rfl rfl rfl (by decide +kernel) ⟨Nat.le_of_ble_eq_true rfl, Nat.le_of_ble_eq_true rfl⟩) (zpreV hK hw hS hA zZ.nil hN [1, 2] rfl rfl 11 1 rfl rfl) rfl rfl hl.1 rfl (lv_room (Nat.le_of_ble_eq_true rfl)) dX12_lengths_36 ⟨Nat.le_of_ble_eq_true rfl, Nat.le_of_ble_eq_true rfl⟩) hw hS hA [1, 2] [0] rfl rfl rfl rfl (fun _ H locs hp58 hw hS => ?_)
      have hw : zPD D A [(y 1, .inl (ct 0, 8, .inl (upd (upd (fun _ => 0) 2 1) 3 2))), (h0, .inr (11, [.int 0, .int 0, .ref (y 0), .int 0, .int 0, .int 0, .int 0, .long 0, .int 0, .int 0, .ref (y 1), .ref (y 2), .ref (y 3), .ref (y 4), .ref (y 5), .ref (y 6), .ref (y 7), .ref (y 8), .ref (y 9), .ref (y 10), .ref (y 11), .ref (y 12), .int 0, .int 0, .ref (y 13), .ref (y 14), .ref (y 15), .ref (y 16), .ref (y 17), .ref (y 18), .ref (y 19), .ref (y 20), .ref (y 21), .ref (y 22), .ref (y 23), .ref (y 24), .int 0, .long 0, .ref (y 25), .ref (y 26), .ref (y 27), .ref (y 28), .ref (y 29), .ref (y 30), .ref (y 31), .ref (y 32), .ref (y 33), .ref (y 34), .ref (y 35), .ref (y 36), .ref (y 37), .int 0, .int 0, .ref (y 38), .long 0, .int 0, .int 0])), (y 29, .inl (ct 0, 5, .inl (fun _ => 0)))] H := hw
      refine zfr 39 [.int 1] rfl rfl ?_
      refine lv_if_ne (tgt := 45) hx hb dX12_lengths_39 (by decide) (fun _ => ?_) (fun h => absurd h (by decide))
      refine lv_iinc (v := 13) (lv' := [(2, .int 13), (5, .int 12), (4, .int 11), (3, .int 0), (0, .ref h0), (1, .int 0)]) hx hb dX12_lengths_45 hl (k := 2) rfl (by decide) (by decide) rfl (fun ls hl => ?_)
      refine lv_iload_n hx hb dX12_lengths_48 rfl (lv_at hl 3 rfl) ?_
      refine lv_if_ge (tgt := 55) hx hb dX12_lengths_49 (by decide) (fun _ => ?_) (fun h => absurd (by decide) h)
      refine lv_iload hx hb dX12_lengths_55 (lv_at hl 1 rfl) ?_
      refine lv_istore (lv' := [(4, .int 12), (2, .int 13), (5, .int 12), (3, .int 0), (0, .ref h0), (1, .int 0)]) hx hb dX12_lengths_57 hl (by decide) rfl (fun ls hl => ?_)
      refine lv_iinc (v := 13) (lv' := [(5, .int 13), (4, .int 12), (2, .int 13), (3, .int 0), (0, .ref h0), (1, .int 0)]) hx hb dX12_lengths_59 hl (k := 2) rfl (by decide) (by decide) rfl (fun ls hl => ?_)
      refine lv_goto (tgt := 26) hx hb dX12_lengths_62 (by decide) ?_
      refine lv_iload hx hb dX12_lengths_26 (lv_at hl 0 rfl) ?_
      refine lv_bipush (v := 31) hx hb dX12_lengths_28 (by decide) ?_
      refine lv_icmp_ge (tgt := 65) hx hb dX12_lengths_30 (by decide) (fun h => absurd h (by decide)) (fun _ => ?_)
      refine lv_aload_n hx hb dX12_lengths_33 rfl (lv_at hl 4 rfl) ?_
      refine lv_iload hx hb dX12_lengths_34 (lv_at hl 0 rfl) ?_
      refine zcall2 (va_runV (As := [.int 13]) (rest := []) ⟨hx, hb, hml, hown, hts⟩ (c_asSeen12 l D ct h0 y 0 0 0 0 0 0 0 0 0 0 0 0 0 0 0 0 0 0 13 (fun _ => 0) (by decide) H.size) (cwV 1 hts gX12_lengths_X12_isAsSeen rfl rfl rfl (by decide +kernel) ⟨Nat.le_of_ble_eq_true rfl, Nat.le_of_ble_eq_true rfl⟩) (zpreV hK hw hS hA zZ.nil hN [1, 2] rfl rfl 11 1 rfl rfl) rfl rfl hl.1 rfl (lv_room (Nat.le_of_ble_eq_true rfl)) dX12_lengths_36 ⟨Nat.le_of_ble_eq_true rfl, Nat.le_of_ble_eq_true rfl⟩) hw hS hA [1, 2] [0] rfl rfl rfl rfl (fun _ H locs hp62 hw hS => ?_)
      have hw : zPD D A [(y 1, .inl (ct 0, 8, .inl (upd (upd (fun _ => 0) 2 1) 3 2))), (h0, .inr (11, [.int 0, .int 0, .ref (y 0), .int 0, .int 0, .int 0, .int 0, .long 0, .int 0, .int 0, .ref (y 1), .ref (y 2), .ref (y 3), .ref (y 4), .ref (y 5), .ref (y 6), .ref (y 7), .ref (y 8), .ref (y 9), .ref (y 10), .ref (y 11), .ref (y 12), .int 0, .int 0, .ref (y 13), .ref (y 14), .ref (y 15), .ref (y 16), .ref (y 17), .ref (y 18), .ref (y 19), .ref (y 20), .ref (y 21), .ref (y 22), .ref (y 23), .ref (y 24), .int 0, .long 0, .ref (y 25), .ref (y 26), .ref (y 27), .ref (y 28), .ref (y 29), .ref (y 30), .ref (y 31), .ref (y 32), .ref (y 33), .ref (y 34), .ref (y 35), .ref (y 36), .ref (y 37), .int 0, .int 0, .ref (y 38), .long 0, .int 0, .int 0])), (y 29, .inl (ct 0, 5, .inl (fun _ => 0)))] H := hw
      refine zfr 39 [.int 1] rfl rfl ?_
      refine lv_if_ne (tgt := 45) hx hb dX12_lengths_39 (by decide) (fun _ => ?_) (fun h => absurd h (by decide))
      refine lv_iinc (v := 14) (lv' := [(2, .int 14), (5, .int 13), (4, .int 12), (3, .int 0), (0, .ref h0), (1, .int 0)]) hx hb dX12_lengths_45 hl (k := 2) rfl (by decide) (by decide) rfl (fun ls hl => ?_)
      refine lv_iload_n hx hb dX12_lengths_48 rfl (lv_at hl 3 rfl) ?_
      refine lv_if_ge (tgt := 55) hx hb dX12_lengths_49 (by decide) (fun _ => ?_) (fun h => absurd (by decide) h)
      refine lv_iload hx hb dX12_lengths_55 (lv_at hl 1 rfl) ?_
      refine lv_istore (lv' := [(4, .int 13), (2, .int 14), (5, .int 13), (3, .int 0), (0, .ref h0), (1, .int 0)]) hx hb dX12_lengths_57 hl (by decide) rfl (fun ls hl => ?_)
      refine lv_iinc (v := 14) (lv' := [(5, .int 14), (4, .int 13), (2, .int 14), (3, .int 0), (0, .ref h0), (1, .int 0)]) hx hb dX12_lengths_59 hl (k := 2) rfl (by decide) (by decide) rfl (fun ls hl => ?_)
      refine lv_goto (tgt := 26) hx hb dX12_lengths_62 (by decide) ?_
      refine lv_iload hx hb dX12_lengths_26 (lv_at hl 0 rfl) ?_
      refine lv_bipush (v := 31) hx hb dX12_lengths_28 (by decide) ?_
      refine lv_icmp_ge (tgt := 65) hx hb dX12_lengths_30 (by decide) (fun h => absurd h (by decide)) (fun _ => ?_)
      refine lv_aload_n hx hb dX12_lengths_33 rfl (lv_at hl 4 rfl) ?_
      refine lv_iload hx hb dX12_lengths_34 (lv_at hl 0 rfl) ?_
      refine zcall2 (va_runV (As := [.int 14]) (rest := []) ⟨hx, hb, hml, hown, hts⟩ (c_asSeen12 l D ct h0 y 0 0 0 0 0 0 0 0 0 0 0 0 0 0 0 0 0 0 14 (fun _ => 0) (by decide) H.size) (cwV 1 hts gX12_lengths_X12_isAsSeen rfl rfl rfl (by decide +kernel) ⟨Nat.le_of_ble_eq_true rfl, Nat.le_of_ble_eq_true rfl⟩) (zpreV hK hw hS hA zZ.nil hN [1, 2] rfl rfl 11 1 rfl rfl) rfl rfl hl.1 rfl (lv_room (Nat.le_of_ble_eq_true rfl)) dX12_lengths_36 ⟨Nat.le_of_ble_eq_true rfl, Nat.le_of_ble_eq_true rfl⟩) hw hS hA [1, 2] [0] rfl rfl rfl rfl (fun _ H locs hp66 hw hS => ?_)
      have hw : zPD D A [(y 1, .inl (ct 0, 8, .inl (upd (upd (fun _ => 0) 2 1) 3 2))), (h0, .inr (11, [.int 0, .int 0, .ref (y 0), .int 0, .int 0, .int 0, .int 0, .long 0, .int 0, .int 0, .ref (y 1), .ref (y 2), .ref (y 3), .ref (y 4), .ref (y 5), .ref (y 6), .ref (y 7), .ref (y 8), .ref (y 9), .ref (y 10), .ref (y 11), .ref (y 12), .int 0, .int 0, .ref (y 13), .ref (y 14), .ref (y 15), .ref (y 16), .ref (y 17), .ref (y 18), .ref (y 19), .ref (y 20), .ref (y 21), .ref (y 22), .ref (y 23), .ref (y 24), .int 0, .long 0, .ref (y 25), .ref (y 26), .ref (y 27), .ref (y 28), .ref (y 29), .ref (y 30), .ref (y 31), .ref (y 32), .ref (y 33), .ref (y 34), .ref (y 35), .ref (y 36), .ref (y 37), .int 0, .int 0, .ref (y 38), .long 0, .int 0, .int 0])), (y 29, .inl (ct 0, 5, .inl (fun _ => 0)))] H := hw
      refine zfr 39 [.int 1] rfl rfl ?_
      refine lv_if_ne (tgt := 45) hx hb dX12_lengths_39 (by decide) (fun _ => ?_) (fun h => absurd h (by decide))
      refine lv_iinc (v := 15) (lv' := [(2, .int 15), (5, .int 14), (4, .int 13), (3, .int 0), (0, .ref h0), (1, .int 0)]) hx hb dX12_lengths_45 hl (k := 2) rfl (by decide) (by decide) rfl (fun ls hl => ?_)
      refine lv_iload_n hx hb dX12_lengths_48 rfl (lv_at hl 3 rfl) ?_
      refine lv_if_ge (tgt := 55) hx hb dX12_lengths_49 (by decide) (fun _ => ?_) (fun h => absurd (by decide) h)
      refine lv_iload hx hb dX12_lengths_55 (lv_at hl 1 rfl) ?_
      refine lv_istore (lv' := [(4, .int 14), (2, .int 15), (5, .int 14), (3, .int 0), (0, .ref h0), (1, .int 0)]) hx hb dX12_lengths_57 hl (by decide) rfl (fun ls hl => ?_)
      refine lv_iinc (v := 15) (lv' := [(5, .int 15), (4, .int 14), (2, .int 15), (3, .int 0), (0, .ref h0), (1, .int 0)]) hx hb dX12_lengths_59 hl (k := 2) rfl (by decide) (by decide) rfl (fun ls hl => ?_)
      refine lv_goto (tgt := 26) hx hb dX12_lengths_62 (by decide) ?_
      refine lv_iload hx hb dX12_lengths_26 (lv_at hl 0 rfl) ?_
      refine lv_bipush (v := 31) hx hb dX12_lengths_28 (by decide) ?_
      refine lv_icmp_ge (tgt := 65) hx hb dX12_lengths_30 (by decide) (fun h => absurd h (by decide)) (fun _ => ?_)
      refine lv_aload_n hx hb dX12_lengths_33 rfl (lv_at hl 4 rfl) ?_
      refine lv_iload hx hb dX12_lengths_34 (lv_at hl 0 rfl) ?_
      refine zcall2 (va_runV (As := [.int 15]) (rest := []) ⟨hx, hb, hml, hown, hts⟩ (c_asSeen12 l D ct h0 y 0 0 0 0 0 0 0 0 0 0 0 0 0 0 0 0 0 0 15 (fun _ => 0) (by decide) H.size) (cwV 1 hts gX12_lengths_X12_isAsSeen rfl rfl rfl (by decide +kernel) ⟨Nat.le_of_ble_eq_true rfl, Nat.le_of_ble_eq_true rfl⟩) (zpreV hK hw hS hA zZ.nil hN [1, 2] rfl rfl 11 1 rfl rfl) rfl rfl hl.1 rfl (lv_room (Nat.le_of_ble_eq_true rfl)) dX12_lengths_36 ⟨Nat.le_of_ble_eq_true rfl, Nat.le_of_ble_eq_true rfl⟩) hw hS hA [1, 2] [0] rfl rfl rfl rfl (fun _ H locs hp70 hw hS => ?_)
      have hw : zPD D A [(y 1, .inl (ct 0, 8, .inl (upd (upd (fun _ => 0) 2 1) 3 2))), (h0, .inr (11, [.int 0, .int 0, .ref (y 0), .int 0, .int 0, .int 0, .int 0, .long 0, .int 0, .int 0, .ref (y 1), .ref (y 2), .ref (y 3), .ref (y 4), .ref (y 5), .ref (y 6), .ref (y 7), .ref (y 8), .ref (y 9), .ref (y 10), .ref (y 11), .ref (y 12), .int 0, .int 0, .ref (y 13), .ref (y 14), .ref (y 15), .ref (y 16), .ref (y 17), .ref (y 18), .ref (y 19), .ref (y 20), .ref (y 21), .ref (y 22), .ref (y 23), .ref (y 24), .int 0, .long 0, .ref (y 25), .ref (y 26), .ref (y 27), .ref (y 28), .ref (y 29), .ref (y 30), .ref (y 31), .ref (y 32), .ref (y 33), .ref (y 34), .ref (y 35), .ref (y 36), .ref (y 37), .int 0, .int 0, .ref (y 38), .long 0, .int 0, .int 0])), (y 29, .inl (ct 0, 5, .inl (fun _ => 0)))] H := hw
      refine zfr 39 [.int 1] rfl rfl ?_
      refine lv_if_ne (tgt := 45) hx hb dX12_lengths_39 (by decide) (fun _ => ?_) (fun h => absurd h (by decide))
      refine lv_iinc (v := 16) (lv' := [(2, .int 16), (5, .int 15), (4, .int 14), (3, .int 0), (0, .ref h0), (1, .int 0)]) hx hb dX12_lengths_45 hl (k := 2) rfl (by decide) (by decide) rfl (fun ls hl => ?_)
      refine lv_iload_n hx hb dX12_lengths_48 rfl (lv_at hl 3 rfl) ?_
      refine lv_if_ge (tgt := 55) hx hb dX12_lengths_49 (by decide) (fun _ => ?_) (fun h => absurd (by decide) h)
      refine lv_iload hx hb dX12_lengths_55 (lv_at hl 1 rfl) ?_
      refine lv_istore (lv' := [(4, .int 15), (2, .int 16), (5, .int 15), (3, .int 0), (0, .ref h0), (1, .int 0)]) hx hb dX12_lengths_57 hl (by decide) rfl (fun ls hl => ?_)
      refine lv_iinc (v := 16) (lv' := [(5, .int 16), (4, .int 15), (2, .int 16), (3, .int 0), (0, .ref h0), (1, .int 0)]) hx hb dX12_lengths_59 hl (k := 2) rfl (by decide) (by decide) rfl (fun ls hl => ?_)
      refine lv_goto (tgt := 26) hx hb dX12_lengths_62 (by decide) ?_
      refine lv_iload hx hb dX12_lengths_26 (lv_at hl 0 rfl) ?_
      refine lv_bipush (v := 31) hx hb dX12_lengths_28 (by decide) ?_
      refine lv_icmp_ge (tgt := 65) hx hb dX12_lengths_30 (by decide) (fun h => absurd h (by decide)) (fun _ => ?_)
      refine lv_aload_n hx hb dX12_lengths_33 rfl (lv_at hl 4 rfl) ?_
      refine lv_iload hx hb dX12_lengths_34 (lv_at hl 0 rfl) ?_
      refine zcall2 (va_runV (As := [.int 16]) (rest := []) ⟨hx, hb, hml, hown, hts⟩ (c_asSeen12 l D ct h0 y 0 0 0 0 0 0 0 0 0 0 0 0 0 0 0 0 0 0 16 (fun _ => 0) (by decide) H.size) (cwV 1 hts gX12_lengths_X12_isAsSeen rfl rfl rfl (by decide +kernel) ⟨Nat.le_of_ble_eq_true rfl, Nat.le_of_ble_eq_true rfl⟩) (zpreV hK hw hS hA zZ.nil hN [1, 2] rfl rfl 11 1 rfl rfl) rfl rfl hl.1 rfl (lv_room (Nat.le_of_ble_eq_true rfl)) dX12_lengths_36 ⟨Nat.le_of_ble_eq_true rfl, Nat.le_of_ble_eq_true rfl⟩) hw hS hA [1, 2] [0] rfl rfl rfl rfl (fun _ H locs hp74 hw hS => ?_)
      have hw : zPD D A [(y 1, .inl (ct 0, 8, .inl (upd (upd (fun _ => 0) 2 1) 3 2))), (h0, .inr (11, [.int 0, .int 0, .ref (y 0), .int 0, .int 0, .int 0, .int 0, .long 0, .int 0, .int 0, .ref (y 1), .ref (y 2), .ref (y 3), .ref (y 4), .ref (y 5), .ref (y 6), .ref (y 7), .ref (y 8), .ref (y 9), .ref (y 10), .ref (y 11), .ref (y 12), .int 0, .int 0, .ref (y 13), .ref (y 14), .ref (y 15), .ref (y 16), .ref (y 17), .ref (y 18), .ref (y 19), .ref (y 20), .ref (y 21), .ref (y 22), .ref (y 23), .ref (y 24), .int 0, .long 0, .ref (y 25), .ref (y 26), .ref (y 27), .ref (y 28), .ref (y 29), .ref (y 30), .ref (y 31), .ref (y 32), .ref (y 33), .ref (y 34), .ref (y 35), .ref (y 36), .ref (y 37), .int 0, .int 0, .ref (y 38), .long 0, .int 0, .int 0])), (y 29, .inl (ct 0, 5, .inl (fun _ => 0)))] H := hw
      refine zfr 39 [.int 1] rfl rfl ?_
      refine lv_if_ne (tgt := 45) hx hb dX12_lengths_39 (by decide) (fun _ => ?_) (fun h => absurd h (by decide))
      refine lv_iinc (v := 17) (lv' := [(2, .int 17), (5, .int 16), (4, .int 15), (3, .int 0), (0, .ref h0), (1, .int 0)]) hx hb dX12_lengths_45 hl (k := 2) rfl (by decide) (by decide) rfl (fun ls hl => ?_)
      refine lv_iload_n hx hb dX12_lengths_48 rfl (lv_at hl 3 rfl) ?_
      refine lv_if_ge (tgt := 55) hx hb dX12_lengths_49 (by decide) (fun _ => ?_) (fun h => absurd (by decide) h)
      refine lv_iload hx hb dX12_lengths_55 (lv_at hl 1 rfl) ?_
      refine lv_istore (lv' := [(4, .int 16), (2, .int 17), (5, .int 16), (3, .int 0), (0, .ref h0), (1, .int 0)]) hx hb dX12_lengths_57 hl (by decide) rfl (fun ls hl => ?_)
      refine lv_iinc (v := 17) (lv' := [(5, .int 17), (4, .int 16), (2, .int 17), (3, .int 0), (0, .ref h0), (1, .int 0)]) hx hb dX12_lengths_59 hl (k := 2) rfl (by decide) (by decide) rfl (fun ls hl => ?_)
      refine lv_goto (tgt := 26) hx hb dX12_lengths_62 (by decide) ?_
      refine lv_iload hx hb dX12_lengths_26 (lv_at hl 0 rfl) ?_
      refine lv_bipush (v := 31) hx hb dX12_lengths_28 (by decide) ?_
      refine lv_icmp_ge (tgt := 65) hx hb dX12_lengths_30 (by decide) (fun h => absurd h (by decide)) (fun _ => ?_)
      refine lv_aload_n hx hb dX12_lengths_33 rfl (lv_at hl 4 rfl) ?_
      refine lv_iload hx hb dX12_lengths_34 (lv_at hl 0 rfl) ?_
      refine zcall2 (va_runV (As := [.int 17]) (rest := []) ⟨hx, hb, hml, hown, hts⟩ (c_asSeen12 l D ct h0 y 0 0 0 0 0 0 0 0 0 0 0 0 0 0 0 0 0 0 17 (fun _ => 0) (by decide) H.size) (cwV 1 hts gX12_lengths_X12_isAsSeen rfl rfl rfl (by decide +kernel) ⟨Nat.le_of_ble_eq_true rfl, Nat.le_of_ble_eq_true rfl⟩) (zpreV hK hw hS hA zZ.nil hN [1, 2] rfl rfl 11 1 rfl rfl) rfl rfl hl.1 rfl (lv_room (Nat.le_of_ble_eq_true rfl)) dX12_lengths_36 ⟨Nat.le_of_ble_eq_true rfl, Nat.le_of_ble_eq_true rfl⟩) hw hS hA [1, 2] [0] rfl rfl rfl rfl (fun _ H locs hp78 hw hS => ?_)
      have hw : zPD D A [(y 1, .inl (ct 0, 8, .inl (upd (upd (fun _ => 0) 2 1) 3 2))), (h0, .inr (11, [.int 0, .int 0, .ref (y 0), .int 0, .int 0, .int 0, .int 0, .long 0, .int 0, .int 0, .ref (y 1), .ref (y 2), .ref (y 3), .ref (y 4), .ref (y 5), .ref (y 6), .ref (y 7), .ref (y 8), .ref (y 9), .ref (y 10), .ref (y 11), .ref (y 12), .int 0, .int 0, .ref (y 13), .ref (y 14), .ref (y 15), .ref (y 16), .ref (y 17), .ref (y 18), .ref (y 19), .ref (y 20), .ref (y 21), .ref (y 22), .ref (y 23), .ref (y 24), .int 0, .long 0, .ref (y 25), .ref (y 26), .ref (y 27), .ref (y 28), .ref (y 29), .ref (y 30), .ref (y 31), .ref (y 32), .ref (y 33), .ref (y 34), .ref (y 35), .ref (y 36), .ref (y 37), .int 0, .int 0, .ref (y 38), .long 0, .int 0, .int 0])), (y 29, .inl (ct 0, 5, .inl (fun _ => 0)))] H := hw
      refine zfr 39 [.int 1] rfl rfl ?_
      refine lv_if_ne (tgt := 45) hx hb dX12_lengths_39 (by decide) (fun _ => ?_) (fun h => absurd h (by decide))
      refine lv_iinc (v := 18) (lv' := [(2, .int 18), (5, .int 17), (4, .int 16), (3, .int 0), (0, .ref h0), (1, .int 0)]) hx hb dX12_lengths_45 hl (k := 2) rfl (by decide) (by decide) rfl (fun ls hl => ?_)
      refine lv_iload_n hx hb dX12_lengths_48 rfl (lv_at hl 3 rfl) ?_
      refine lv_if_ge (tgt := 55) hx hb dX12_lengths_49 (by decide) (fun _ => ?_) (fun h => absurd (by decide) h)
      refine lv_iload hx hb dX12_lengths_55 (lv_at hl 1 rfl) ?_
      refine lv_istore (lv' := [(4, .int 17), (2, .int 18), (5, .int 17), (3, .int 0), (0, .ref h0), (1, .int 0)]) hx hb dX12_lengths_57 hl (by decide) rfl (fun ls hl => ?_)
      refine lv_iinc (v := 18) (lv' := [(5, .int 18), (4, .int 17), (2, .int 18), (3, .int 0), (0, .ref h0), (1, .int 0)]) hx hb dX12_lengths_59 hl (k := 2) rfl (by decide) (by decide) rfl (fun ls hl => ?_)
      refine lv_goto (tgt := 26) hx hb dX12_lengths_62 (by decide) ?_
      refine lv_iload hx hb dX12_lengths_26 (lv_at hl 0 rfl) ?_
      refine lv_bipush (v := 31) hx hb dX12_lengths_28 (by decide) ?_
      refine lv_icmp_ge (tgt := 65) hx hb dX12_lengths_30 (by decide) (fun h => absurd h (by decide)) (fun _ => ?_)
      refine lv_aload_n hx hb dX12_lengths_33 rfl (lv_at hl 4 rfl) ?_
      refine lv_iload hx hb dX12_lengths_34 (lv_at hl 0 rfl) ?_
      refine zcall2 (va_runV (As := [.int 18]) (rest := []) ⟨hx, hb, hml, hown, hts⟩ (c_asSeen12 l D ct h0 y 0 0 0 0 0 0 0 0 0 0 0 0 0 0 0 0 0 0 18 (fun _ => 0) (by decide) H.size) (cwV 1 hts gX12_lengths_X12_isAsSeen rfl rfl rfl (by decide +kernel) ⟨Nat.le_of_ble_eq_true rfl, Nat.le_of_ble_eq_true rfl⟩) (zpreV hK hw hS hA zZ.nil hN [1, 2] rfl rfl 11 1 rfl rfl) rfl rfl hl.1 rfl (lv_room (Nat.le_of_ble_eq_true rfl)) dX12_lengths_36 ⟨Nat.le_of_ble_eq_true rfl, Nat.le_of_ble_eq_true rfl⟩) hw hS hA [1, 2] [0] rfl rfl rfl rfl (fun _ H locs hp82 hw hS => ?_)
      have hw : zPD D A [(y 1, .inl (ct 0, 8, .inl (upd (upd (fun _ => 0) 2 1) 3 2))), (h0, .inr (11, [.int 0, .int 0, .ref (y 0), .int 0, .int 0, .int 0, .int 0, .long 0, .int 0, .int 0, .ref (y 1), .ref (y 2), .ref (y 3), .ref (y 4), .ref (y 5), .ref (y 6), .ref (y 7), .ref (y 8), .ref (y 9), .ref (y 10), .ref (y 11), .ref (y 12), .int 0, .int 0, .ref (y 13), .ref (y 14), .ref (y 15), .ref (y 16), .ref (y 17), .ref (y 18), .ref (y 19), .ref (y 20), .ref (y 21), .ref (y 22), .ref (y 23), .ref (y 24), .int 0, .long 0, .ref (y 25), .ref (y 26), .ref (y 27), .ref (y 28), .ref (y 29), .ref (y 30), .ref (y 31), .ref (y 32), .ref (y 33), .ref (y 34), .ref (y 35), .ref (y 36), .ref (y 37), .int 0, .int 0, .ref (y 38), .long 0, .int 0, .int 0])), (y 29, .inl (ct 0, 5, .inl (fun _ => 0)))] H := hw
      refine zfr 39 [.int 1] rfl rfl ?_
      refine lv_if_ne (tgt := 45) hx hb dX12_lengths_39 (by decide) (fun _ => ?_) (fun h => absurd h (by decide))
      refine lv_iinc (v := 19) (lv' := [(2, .int 19), (5, .int 18), (4, .int 17), (3, .int 0), (0, .ref h0), (1, .int 0)]) hx hb dX12_lengths_45 hl (k := 2) rfl (by decide) (by decide) rfl (fun ls hl => ?_)
      refine lv_iload_n hx hb dX12_lengths_48 rfl (lv_at hl 3 rfl) ?_
      refine lv_if_ge (tgt := 55) hx hb dX12_lengths_49 (by decide) (fun _ => ?_) (fun h => absurd (by decide) h)
      refine lv_iload hx hb dX12_lengths_55 (lv_at hl 1 rfl) ?_
      refine lv_istore (lv' := [(4, .int 18), (2, .int 19), (5, .int 18), (3, .int 0), (0, .ref h0), (1, .int 0)]) hx hb dX12_lengths_57 hl (by decide) rfl (fun ls hl => ?_)
      refine lv_iinc (v := 19) (lv' := [(5, .int 19), (4, .int 18), (2, .int 19), (3, .int 0), (0, .ref h0), (1, .int 0)]) hx hb dX12_lengths_59 hl (k := 2) rfl (by decide) (by decide) rfl (fun ls hl => ?_)
      refine lv_goto (tgt := 26) hx hb dX12_lengths_62 (by decide) ?_
      refine lv_iload hx hb dX12_lengths_26 (lv_at hl 0 rfl) ?_
      refine lv_bipush (v := 31) hx hb dX12_lengths_28 (by decide) ?_
      refine lv_icmp_ge (tgt := 65) hx hb dX12_lengths_30 (by decide) (fun h => absurd h (by decide)) (fun _ => ?_)
      refine lv_aload_n hx hb dX12_lengths_33 rfl (lv_at hl 4 rfl) ?_
      refine lv_iload hx hb dX12_lengths_34 (lv_at hl 0 rfl) ?_
      refine zcall2 (va_runV (As := [.int 19]) (rest := []) ⟨hx, hb, hml, hown, hts⟩ (c_asSeen12 l D ct h0 y 0 0 0 0 0 0 0 0 0 0 0 0 0 0 0 0 0 0 19 (fun _ => 0) (by decide) H.size) (cwV 1 hts gX12_lengths_X12_isAsSeen rfl rfl rfl (by decide +kernel) ⟨Nat.le_of_ble_eq_true rfl, Nat.le_of_ble_eq_true rfl⟩) (zpreV hK hw hS hA zZ.nil hN [1, 2] rfl rfl 11 1 rfl rfl) rfl rfl hl.1 rfl (lv_room (Nat.le_of_ble_eq_true rfl)) dX12_lengths_36 ⟨Nat.le_of_ble_eq_true rfl, Nat.le_of_ble_eq_true rfl⟩) hw hS hA [1, 2] [0] rfl rfl rfl rfl (fun _ H locs hp86 hw hS => ?_)
      have hw : zPD D A [(y 1, .inl (ct 0, 8, .inl (upd (upd (fun _ => 0) 2 1) 3 2))), (h0, .inr (11, [.int 0, .int 0, .ref (y 0), .int 0, .int 0, .int 0, .int 0, .long 0, .int 0, .int 0, .ref (y 1), .ref (y 2), .ref (y 3), .ref (y 4), .ref (y 5), .ref (y 6), .ref (y 7), .ref (y 8), .ref (y 9), .ref (y 10), .ref (y 11), .ref (y 12), .int 0, .int 0, .ref (y 13), .ref (y 14), .ref (y 15), .ref (y 16), .ref (y 17), .ref (y 18), .ref (y 19), .ref (y 20), .ref (y 21), .ref (y 22), .ref (y 23), .ref (y 24), .int 0, .long 0, .ref (y 25), .ref (y 26), .ref (y 27), .ref (y 28), .ref (y 29), .ref (y 30), .ref (y 31), .ref (y 32), .ref (y 33), .ref (y 34), .ref (y 35), .ref (y 36), .ref (y 37), .int 0, .int 0, .ref (y 38), .long 0, .int 0, .int 0])), (y 29, .inl (ct 0, 5, .inl (fun _ => 0)))] H := hw
      refine zfr 39 [.int 1] rfl rfl ?_
      refine lv_if_ne (tgt := 45) hx hb dX12_lengths_39 (by decide) (fun _ => ?_) (fun h => absurd h (by decide))
      refine lv_iinc (v := 20) (lv' := [(2, .int 20), (5, .int 19), (4, .int 18), (3, .int 0), (0, .ref h0), (1, .int 0)]) hx hb dX12_lengths_45 hl (k := 2) rfl (by decide) (by decide) rfl (fun ls hl => ?_)
      refine lv_iload_n hx hb dX12_lengths_48 rfl (lv_at hl 3 rfl) ?_
      refine lv_if_ge (tgt := 55) hx hb dX12_lengths_49 (by decide) (fun _ => ?_) (fun h => absurd (by decide) h)
      refine lv_iload hx hb dX12_lengths_55 (lv_at hl 1 rfl) ?_
      refine lv_istore (lv' := [(4, .int 19), (2, .int 20), (5, .int 19), (3, .int 0), (0, .ref h0), (1, .int 0)]) hx hb dX12_lengths_57 hl (by decide) rfl (fun ls hl => ?_)
      refine lv_iinc (v := 20) (lv' := [(5, .int 20), (4, .int 19), (2, .int 20), (3, .int 0), (0, .ref h0), (1, .int 0)]) hx hb dX12_lengths_59 hl (k := 2) rfl (by decide) (by decide) rfl (fun ls hl => ?_)
      refine lv_goto (tgt := 26) hx hb dX12_lengths_62 (by decide) ?_
      refine lv_iload hx hb dX12_lengths_26 (lv_at hl 0 rfl) ?_
      refine lv_bipush (v := 31) hx hb dX12_lengths_28 (by decide) ?_
      refine lv_icmp_ge (tgt := 65) hx hb dX12_lengths_30 (by decide) (fun h => absurd h (by decide)) (fun _ => ?_)
      refine lv_aload_n hx hb dX12_lengths_33 rfl (lv_at hl 4 rfl) ?_
      refine lv_iload hx hb dX12_lengths_34 (lv_at hl 0 rfl) ?_
      refine zcall2 (va_runV (As := [.int 20]) (rest := []) ⟨hx, hb, hml, hown, hts⟩ (c_asSeen12 l D ct h0 y 0 0 0 0 0 0 0 0 0 0 0 0 0 0 0 0 0 0 20 (fun _ => 0) (by decide) H.size) (cwV 1 hts gX12_lengths_X12_isAsSeen rfl rfl rfl (by decide +kernel) ⟨Nat.le_of_ble_eq_true rfl, Nat.le_of_ble_eq_true rfl⟩) (zpreV hK hw hS hA zZ.nil hN [1, 2] rfl rfl 11 1 rfl rfl) rfl rfl hl.1 rfl (lv_room (Nat.le_of_ble_eq_true rfl)) dX12_lengths_36 ⟨Nat.le_of_ble_eq_true rfl, Nat.le_of_ble_eq_true rfl⟩) hw hS hA [1, 2] [0] rfl rfl rfl rfl (fun _ H locs hp90 hw hS => ?_)
      have hw : zPD D A [(y 1, .inl (ct 0, 8, .inl (upd (upd (fun _ => 0) 2 1) 3 2))), (h0, .inr (11, [.int 0, .int 0, .ref (y 0), .int 0, .int 0, .int 0, .int 0, .long 0, .int 0, .int 0, .ref (y 1), .ref (y 2), .ref (y 3), .ref (y 4), .ref (y 5), .ref (y 6), .ref (y 7), .ref (y 8), .ref (y 9), .ref (y 10), .ref (y 11), .ref (y 12), .int 0, .int 0, .ref (y 13), .ref (y 14), .ref (y 15), .ref (y 16), .ref (y 17), .ref (y 18), .ref (y 19), .ref (y 20), .ref (y 21), .ref (y 22), .ref (y 23), .ref (y 24), .int 0, .long 0, .ref (y 25), .ref (y 26), .ref (y 27), .ref (y 28), .ref (y 29), .ref (y 30), .ref (y 31), .ref (y 32), .ref (y 33), .ref (y 34), .ref (y 35), .ref (y 36), .ref (y 37), .int 0, .int 0, .ref (y 38), .long 0, .int 0, .int 0])), (y 29, .inl (ct 0, 5, .inl (fun _ => 0)))] H := hw
      refine zfr 39 [.int 1] rfl rfl ?_
      refine lv_if_ne (tgt := 45) hx hb dX12_lengths_39 (by decide) (fun _ => ?_) (fun h => absurd h (by decide))
      refine lv_iinc (v := 21) (lv' := [(2, .int 21), (5, .int 20), (4, .int 19), (3, .int 0), (0, .ref h0), (1, .int 0)]) hx hb dX12_lengths_45 hl (k := 2) rfl (by decide) (by decide) rfl (fun ls hl => ?_)
      refine lv_iload_n hx hb dX12_lengths_48 rfl (lv_at hl 3 rfl) ?_
      refine lv_if_ge (tgt := 55) hx hb dX12_lengths_49 (by decide) (fun _ => ?_) (fun h => absurd (by decide) h)
      refine lv_iload hx hb dX12_lengths_55 (lv_at hl 1 rfl) ?_
      refine lv_istore (lv' := [(4, .int 20), (2, .int 21), (5, .int 20), (3, .int 0), (0, .ref h0), (1, .int 0)]) hx hb dX12_lengths_57 hl (by decide) rfl (fun ls hl => ?_)
      refine lv_iinc (v := 21) (lv' := [(5, .int 21), (4, .int 20), (2, .int 21), (3, .int 0), (0, .ref h0), (1, .int 0)]) hx hb dX12_lengths_59 hl (k := 2) rfl (by decide) (by decide) rfl (fun ls hl => ?_)
      refine lv_goto (tgt := 26) hx hb dX12_lengths_62 (by decide) ?_
      refine lv_iload hx hb dX12_lengths_26 (lv_at hl 0 rfl) ?_
      refine lv_bipush (v := 31) hx hb dX12_lengths_28 (by decide) ?_
      refine lv_icmp_ge (tgt := 65) hx hb dX12_lengths_30 (by decide) (fun h => absurd h (by decide)) (fun _ => ?_)
      refine lv_aload_n hx hb dX12_lengths_33 rfl (lv_at hl 4 rfl) ?_
      refine lv_iload hx hb dX12_lengths_34 (lv_at hl 0 rfl) ?_
      refine zcall2 (va_runV (As := [.int 21]) (rest := []) ⟨hx, hb, hml, hown, hts⟩ (c_asSeen12 l D ct h0 y 0 0 0 0 0 0 0 0 0 0 0 0 0 0 0 0 0 0 21 (fun _ => 0) (by decide) H.size) (cwV 1 hts gX12_lengths_X12_isAsSeen rfl rfl rfl (by decide +kernel) ⟨Nat.le_of_ble_eq_true rfl, Nat.le_of_ble_eq_true rfl⟩) (zpreV hK hw hS hA zZ.nil hN [1, 2] rfl rfl 11 1 rfl rfl) rfl rfl hl.1 rfl (lv_room (Nat.le_of_ble_eq_true rfl)) dX12_lengths_36 ⟨Nat.le_of_ble_eq_true rfl, Nat.le_of_ble_eq_true rfl⟩) hw hS hA [1, 2] [0] rfl rfl rfl rfl (fun _ H locs hp94 hw hS => ?_)
      have hw : zPD D A [(y 1, .inl (ct 0, 8, .inl (upd (upd (fun _ => 0) 2 1) 3 2))), (h0, .inr (11, [.int 0, .int 0, .ref (y 0), .int 0, .int 0, .int 0, .int 0, .long 0, .int 0, .int 0, .ref (y 1), .ref (y 2), .ref (y 3), .ref (y 4), .ref (y 5), .ref (y 6), .ref (y 7), .ref (y 8), .ref (y 9), .ref (y 10), .ref (y 11), .ref (y 12), .int 0, .int 0, .ref (y 13), .ref (y 14), .ref (y 15), .ref (y 16), .ref (y 17), .ref (y 18), .ref (y 19), .ref (y 20), .ref (y 21), .ref (y 22), .ref (y 23), .ref (y 24), .int 0, .long 0, .ref (y 25), .ref (y 26), .ref (y 27), .ref (y 28), .ref (y 29), .ref (y 30), .ref (y 31), .ref (y 32), .ref (y 33), .ref (y 34), .ref (y 35), .ref (y 36), .ref (y 37), .int 0, .int 0, .ref (y 38), .long 0, .int 0, .int 0])), (y 29, .inl (ct 0, 5, .inl (fun _ => 0)))] H := hw
      refine zfr 39 [.int 1] rfl rfl ?_
      refine lv_if_ne (tgt := 45) hx hb dX12_lengths_39 (by decide) (fun _ => ?_) (fun h => absurd h (by decide))
      refine lv_iinc (v := 22) (lv' := [(2, .int 22), (5, .int 21), (4, .int 20), (3, .int 0), (0, .ref h0), (1, .int 0)]) hx hb dX12_lengths_45 hl (k := 2) rfl (by decide) (by decide) rfl (fun ls hl => ?_)
      refine lv_iload_n hx hb dX12_lengths_48 rfl (lv_at hl 3 rfl) ?_
      refine lv_if_ge (tgt := 55) hx hb dX12_lengths_49 (by decide) (fun _ => ?_) (fun h => absurd (by decide) h)
      refine lv_iload hx hb dX12_lengths_55 (lv_at hl 1 rfl) ?_
      refine lv_istore (lv' := [(4, .int 21), (2, .int 22), (5, .int 21), (3, .int 0), (0, .ref h0), (1, .int 0)]) hx hb dX12_lengths_57 hl (by decide) rfl (fun ls hl => ?_)
      refine lv_iinc (v := 22) (lv' := [(5, .int 22), (4, .int 21), (2, .int 22), (3, .int 0), (0, .ref h0), (1, .int 0)]) hx hb dX12_lengths_59 hl (k := 2) rfl (by decide) (by decide) rfl (fun ls hl => ?_)
      refine lv_goto (tgt := 26) hx hb dX12_lengths_62 (by decide) ?_
      refine lv_iload hx hb dX12_lengths_26 (lv_at hl 0 rfl) ?_
      refine lv_bipush (v := 31) hx hb dX12_lengths_28 (by decide) ?_
      refine lv_icmp_ge (tgt := 65) hx hb dX12_lengths_30 (by decide) (fun h => absurd h (by decide)) (fun _ => ?_)
      refine lv_aload_n hx hb dX12_lengths_33 rfl (lv_at hl 4 rfl) ?_
      refine lv_iload hx hb dX12_lengths_34 (lv_at hl 0 rfl) ?_
      refine zcall2 (va_runV (As := [.int 22]) (rest := []) ⟨hx, hb, hml, hown, hts⟩ (c_asSeen12 l D ct h0 y 0 0 0 0 0 0 0 0 0 0 0 0 0 0 0 0 0 0 22 (fun _ => 0) (by decide) H.size) (cwV 1 hts gX12_lengths_X12_isAsSeen rfl rfl rfl (by decide +kernel) ⟨Nat.le_of_ble_eq_true rfl, Nat.le_of_ble_eq_true rfl⟩) (zpreV hK hw hS hA zZ.nil hN [1, 2] rfl rfl 11 1 rfl rfl) rfl rfl hl.1 rfl (lv_room (Nat.le_of_ble_eq_true rfl)) dX12_lengths_36 ⟨Nat.le_of_ble_eq_true rfl, Nat.le_of_ble_eq_true rfl⟩) hw hS hA [1, 2] [0] rfl rfl rfl rfl (fun _ H locs hp98 hw hS => ?_)
      have hw : zPD D A [(y 1, .inl (ct 0, 8, .inl (upd (upd (fun _ => 0) 2 1) 3 2))), (h0, .inr (11, [.int 0, .int 0, .ref (y 0), .int 0, .int 0, .int 0, .int 0, .long 0, .int 0, .int 0, .ref (y 1), .ref (y 2), .ref (y 3), .ref (y 4), .ref (y 5), .ref (y 6), .ref (y 7), .ref (y 8), .ref (y 9), .ref (y 10), .ref (y 11), .ref (y 12), .int 0, .int 0, .ref (y 13), .ref (y 14), .ref (y 15), .ref (y 16), .ref (y 17), .ref (y 18), .ref (y 19), .ref (y 20), .ref (y 21), .ref (y 22), .ref (y 23), .ref (y 24), .int 0, .long 0, .ref (y 25), .ref (y 26), .ref (y 27), .ref (y 28), .ref (y 29), .ref (y 30), .ref (y 31), .ref (y 32), .ref (y 33), .ref (y 34), .ref (y 35), .ref (y 36), .ref (y 37), .int 0, .int 0, .ref (y 38), .long 0, .int 0, .int 0])), (y 29, .inl (ct 0, 5, .inl (fun _ => 0)))] H := hw
      refine zfr 39 [.int 1] rfl rfl ?_
      refine lv_if_ne (tgt := 45) hx hb dX12_lengths_39 (by decide) (fun _ => ?_) (fun h => absurd h (by decide))
      refine lv_iinc (v := 23) (lv' := [(2, .int 23), (5, .int 22), (4, .int 21), (3, .int 0), (0, .ref h0), (1, .int 0)]) hx hb dX12_lengths_45 hl (k := 2) rfl (by decide) (by decide) rfl (fun ls hl => ?_)
      refine lv_iload_n hx hb dX12_lengths_48 rfl (lv_at hl 3 rfl) ?_
      refine lv_if_ge (tgt := 55) hx hb dX12_lengths_49 (by decide) (fun _ => ?_) (fun h => absurd (by decide) h)
      refine lv_iload hx hb dX12_lengths_55 (lv_at hl 1 rfl) ?_
      refine lv_istore (lv' := [(4, .int 22), (2, .int 23), (5, .int 22), (3, .int 0), (0, .ref h0), (1, .int 0)]) hx hb dX12_lengths_57 hl (by decide) rfl (fun ls hl => ?_)
      refine lv_iinc (v := 23) (lv' := [(5, .int 23), (4, .int 22), (2, .int 23), (3, .int 0), (0, .ref h0), (1, .int 0)]) hx hb dX12_lengths_59 hl (k := 2) rfl (by decide) (by decide) rfl (fun ls hl => ?_)
      refine lv_goto (tgt := 26) hx hb dX12_lengths_62 (by decide) ?_
      refine lv_iload hx hb dX12_lengths_26 (lv_at hl 0 rfl) ?_
      refine lv_bipush (v := 31) hx hb dX12_lengths_28 (by decide) ?_
      refine lv_icmp_ge (tgt := 65) hx hb dX12_lengths_30 (by decide) (fun h => absurd h (by decide)) (fun _ => ?_)
      refine lv_aload_n hx hb dX12_lengths_33 rfl (lv_at hl 4 rfl) ?_
      refine lv_iload hx hb dX12_lengths_34 (lv_at hl 0 rfl) ?_
      refine zcall2 (va_runV (As := [.int 23]) (rest := []) ⟨hx, hb, hml, hown, hts⟩ (c_asSeen12 l D ct h0 y 0 0 0 0 0 0 0 0 0 0 0 0 0 0 0 0 0 0 23 (fun _ => 0) (by decide) H.size) (cwV 1 hts gX12_lengths_X12_isAsSeen rfl rfl rfl (by decide +kernel) ⟨Nat.le_of_ble_eq_true rfl, Nat.le_of_ble_eq_true rfl⟩) (zpreV hK hw hS hA zZ.nil hN [1, 2] rfl rfl 11 1 rfl rfl) rfl rfl hl.1 rfl (lv_room (Nat.le_of_ble_eq_true rfl)) dX12_lengths_36 ⟨Nat.le_of_ble_eq_true rfl, Nat.le_of_ble_eq_true rfl⟩) hw hS hA [1, 2] [0] rfl rfl rfl rfl (fun _ H locs hp102 hw hS => ?_)
      have hw : zPD D A [(y 1, .inl (ct 0, 8, .inl (upd (upd (fun _ => 0) 2 1) 3 2))), (h0, .inr (11, [.int 0, .int 0, .ref (y 0), .int 0, .int 0, .int 0, .int 0, .long 0, .int 0, .int 0, .ref (y 1), .ref (y 2), .ref (y 3), .ref (y 4), .ref (y 5), .ref (y 6), .ref (y 7), .ref (y 8), .ref (y 9), .ref (y 10), .ref (y 11), .ref (y 12), .int 0, .int 0, .ref (y 13), .ref (y 14), .ref (y 15), .ref (y 16), .ref (y 17), .ref (y 18), .ref (y 19), .ref (y 20), .ref (y 21), .ref (y 22), .ref (y 23), .ref (y 24), .int 0, .long 0, .ref (y 25), .ref (y 26), .ref (y 27), .ref (y 28), .ref (y 29), .ref (y 30), .ref (y 31), .ref (y 32), .ref (y 33), .ref (y 34), .ref (y 35), .ref (y 36), .ref (y 37), .int 0, .int 0, .ref (y 38), .long 0, .int 0, .int 0])), (y 29, .inl (ct 0, 5, .inl (fun _ => 0)))] H := hw
      refine zfr 39 [.int 1] rfl rfl ?_
      refine lv_if_ne (tgt := 45) hx hb dX12_lengths_39 (by decide) (fun _ => ?_) (fun h => absurd h (by decide))
      refine lv_iinc (v := 24) (lv' := [(2, .int 24), (5, .int 23), (4, .int 22), (3, .int 0), (0, .ref h0), (1, .int 0)]) hx hb dX12_lengths_45 hl (k := 2) rfl (by decide) (by decide) rfl (fun ls hl => ?_)
      refine lv_iload_n hx hb dX12_lengths_48 rfl (lv_at hl 3 rfl) ?_
      refine lv_if_ge (tgt := 55) hx hb dX12_lengths_49 (by decide) (fun _ => ?_) (fun h => absurd (by decide) h)
      refine lv_iload hx hb dX12_lengths_55 (lv_at hl 1 rfl) ?_
      refine lv_istore (lv' := [(4, .int 23), (2, .int 24), (5, .int 23), (3, .int 0), (0, .ref h0), (1, .int 0)]) hx hb dX12_lengths_57 hl (by decide) rfl (fun ls hl => ?_)
      refine lv_iinc (v := 24) (lv' := [(5, .int 24), (4, .int 23), (2, .int 24), (3, .int 0), (0, .ref h0), (1, .int 0)]) hx hb dX12_lengths_59 hl (k := 2) rfl (by decide) (by decide) rfl (fun ls hl => ?_)
      refine lv_goto (tgt := 26) hx hb dX12_lengths_62 (by decide) ?_
      refine lv_iload hx hb dX12_lengths_26 (lv_at hl 0 rfl) ?_
      refine lv_bipush (v := 31) hx hb dX12_lengths_28 (by decide) ?_
      refine lv_icmp_ge (tgt := 65) hx hb dX12_lengths_30 (by decide) (fun h => absurd h (by decide)) (fun _ => ?_)
      refine lv_aload_n hx hb dX12_lengths_33 rfl (lv_at hl 4 rfl) ?_
      refine lv_iload hx hb dX12_lengths_34 (lv_at hl 0 rfl) ?_
      refine zcall2 (va_runV (As := [.int 24]) (rest := []) ⟨hx, hb, hml, hown, hts⟩ (c_asSeen12 l D ct h0 y 0 0 0 0 0 0 0 0 0 0 0 0 0 0 0 0 0 0 24 (fun _ => 0) (by decide) H.size) (cwV 1 hts gX12_lengths_X12_isAsSeen rfl rfl rfl (by decide +kernel) ⟨Nat.le_of_ble_eq_true rfl, Nat.le_of_ble_eq_true rfl⟩) (zpreV hK hw hS hA zZ.nil hN [1, 2] rfl rfl 11 1 rfl rfl) rfl rfl hl.1 rfl (lv_room (Nat.le_of_ble_eq_true rfl)) dX12_lengths_36 ⟨Nat.le_of_ble_eq_true rfl, Nat.le_of_ble_eq_true rfl⟩) hw hS hA [1, 2] [0] rfl rfl rfl rfl (fun _ H locs hp106 hw hS => ?_)
      have hw : zPD D A [(y 1, .inl (ct 0, 8, .inl (upd (upd (fun _ => 0) 2 1) 3 2))), (h0, .inr (11, [.int 0, .int 0, .ref (y 0), .int 0, .int 0, .int 0, .int 0, .long 0, .int 0, .int 0, .ref (y 1), .ref (y 2), .ref (y 3), .ref (y 4), .ref (y 5), .ref (y 6), .ref (y 7), .ref (y 8), .ref (y 9), .ref (y 10), .ref (y 11), .ref (y 12), .int 0, .int 0, .ref (y 13), .ref (y 14), .ref (y 15), .ref (y 16), .ref (y 17), .ref (y 18), .ref (y 19), .ref (y 20), .ref (y 21), .ref (y 22), .ref (y 23), .ref (y 24), .int 0, .long 0, .ref (y 25), .ref (y 26), .ref (y 27), .ref (y 28), .ref (y 29), .ref (y 30), .ref (y 31), .ref (y 32), .ref (y 33), .ref (y 34), .ref (y 35), .ref (y 36), .ref (y 37), .int 0, .int 0, .ref (y 38), .long 0, .int 0, .int 0])), (y 29, .inl (ct 0, 5, .inl (fun _ => 0)))] H := hw
      refine zfr 39 [.int 1] rfl rfl ?_
      refine lv_if_ne (tgt := 45) hx hb dX12_lengths_39 (by decide) (fun _ => ?_) (fun h => absurd h (by decide))
      refine lv_iinc (v := 25) (lv' := [(2, .int 25), (5, .int 24), (4, .int 23), (3, .int 0), (0, .ref h0), (1, .int 0)]) hx hb dX12_lengths_45 hl (k := 2) rfl (by decide) (by decide) rfl (fun ls hl => ?_)
      refine lv_iload_n hx hb dX12_lengths_48 rfl (lv_at hl 3 rfl) ?_
      refine lv_if_ge (tgt := 55) hx hb dX12_lengths_49 (by decide) (fun _ => ?_) (fun h => absurd (by decide) h)
      refine lv_iload hx hb dX12_lengths_55 (lv_at hl 1 rfl) ?_
      refine lv_istore (lv' := [(4, .int 24), (2, .int 25), (5, .int 24), (3, .int 0), (0, .ref h0), (1, .int 0)]) hx hb dX12_lengths_57 hl (by decide) rfl (fun ls hl => ?_)
      refine lv_iinc (v := 25) (lv' := [(5, .int 25), (4, .int 24), (2, .int 25), (3, .int 0), (0, .ref h0), (1, .int 0)]) hx hb dX12_lengths_59 hl (k := 2) rfl (by decide) (by decide) rfl (fun ls hl => ?_)
      refine lv_goto (tgt := 26) hx hb dX12_lengths_62 (by decide) ?_
      refine lv_iload hx hb dX12_lengths_26 (lv_at hl 0 rfl) ?_
      refine lv_bipush (v := 31) hx hb dX12_lengths_28 (by decide) ?_
      refine lv_icmp_ge (tgt := 65) hx hb dX12_lengths_30 (by decide) (fun h => absurd h (by decide)) (fun _ => ?_)
      refine lv_aload_n hx hb dX12_lengths_33 rfl (lv_at hl 4 rfl) ?_
      refine lv_iload hx hb dX12_lengths_34 (lv_at hl 0 rfl) ?_
      refine zcall2 (va_runV (As := [.int 25]) (rest := []) ⟨hx, hb, hml, hown, hts⟩ (c_asSeen12 l D ct h0 y 0 0 0 0 0 0 0 0 0 0 0 0 0 0 0 0 0 0 25 (fun _ => 0) (by decide) H.size) (cwV 1 hts gX12_lengths_X12_isAsSeen rfl rfl rfl (by decide +kernel) ⟨Nat.le_of_ble_eq_true rfl, Nat.le_of_ble_eq_true rfl⟩) (zpreV hK hw hS hA zZ.nil hN [1, 2] rfl rfl 11 1 rfl rfl) rfl rfl hl.1 rfl (lv_room (Nat.le_of_ble_eq_true rfl)) dX12_lengths_36 ⟨Nat.le_of_ble_eq_true rfl, Nat.le_of_ble_eq_true rfl⟩) hw hS hA [1, 2] [0] rfl rfl rfl rfl (fun _ H locs hp110 hw hS => ?_)
      have hw : zPD D A [(y 1, .inl (ct 0, 8, .inl (upd (upd (fun _ => 0) 2 1) 3 2))), (h0, .inr (11, [.int 0, .int 0, .ref (y 0), .int 0, .int 0, .int 0, .int 0, .long 0, .int 0, .int 0, .ref (y 1), .ref (y 2), .ref (y 3), .ref (y 4), .ref (y 5), .ref (y 6), .ref (y 7), .ref (y 8), .ref (y 9), .ref (y 10), .ref (y 11), .ref (y 12), .int 0, .int 0, .ref (y 13), .ref (y 14), .ref (y 15), .ref (y 16), .ref (y 17), .ref (y 18), .ref (y 19), .ref (y 20), .ref (y 21), .ref (y 22), .ref (y 23), .ref (y 24), .int 0, .long 0, .ref (y 25), .ref (y 26), .ref (y 27), .ref (y 28), .ref (y 29), .ref (y 30), .ref (y 31), .ref (y 32), .ref (y 33), .ref (y 34), .ref (y 35), .ref (y 36), .ref (y 37), .int 0, .int 0, .ref (y 38), .long 0, .int 0, .int 0])), (y 29, .inl (ct 0, 5, .inl (fun _ => 0)))] H := hw
      refine zfr 39 [.int 1] rfl rfl ?_
      refine lv_if_ne (tgt := 45) hx hb dX12_lengths_39 (by decide) (fun _ => ?_) (fun h => absurd h (by decide))
      refine lv_iinc (v := 26) (lv' := [(2, .int 26), (5, .int 25), (4, .int 24), (3, .int 0), (0, .ref h0), (1, .int 0)]) hx hb dX12_lengths_45 hl (k := 2) rfl (by decide) (by decide) rfl (fun ls hl => ?_)
      refine lv_iload_n hx hb dX12_lengths_48 rfl (lv_at hl 3 rfl) ?_
      refine lv_if_ge (tgt := 55) hx hb dX12_lengths_49 (by decide) (fun _ => ?_) (fun h => absurd (by decide) h)
      refine lv_iload hx hb dX12_lengths_55 (lv_at hl 1 rfl) ?_
      refine lv_istore (lv' := [(4, .int 25), (2, .int 26), (5, .int 25), (3, .int 0), (0, .ref h0), (1, .int 0)]) hx hb dX12_lengths_57 hl (by decide) rfl (fun ls hl => ?_)
      refine lv_iinc (v := 26) (lv' := [(5, .int 26), (4, .int 25), (2, .int 26), (3, .int 0), (0, .ref h0), (1, .int 0)]) hx hb dX12_lengths_59 hl (k := 2) rfl (by decide) (by decide) rfl (fun ls hl => ?_)
      refine lv_goto (tgt := 26) hx hb dX12_lengths_62 (by decide) ?_
      refine lv_iload hx hb dX12_lengths_26 (lv_at hl 0 rfl) ?_
      refine lv_bipush (v := 31) hx hb dX12_lengths_28 (by decide) ?_
      refine lv_icmp_ge (tgt := 65) hx hb dX12_lengths_30 (by decide) (fun h => absurd h (by decide)) (fun _ => ?_)
      refine lv_aload_n hx hb dX12_lengths_33 rfl (lv_at hl 4 rfl) ?_
      refine lv_iload hx hb dX12_lengths_34 (lv_at hl 0 rfl) ?_
      refine zcall2 (va_runV (As := [.int 26]) (rest := []) ⟨hx, hb, hml, hown, hts⟩ (c_asSeen12 l D ct h0 y 0 0 0 0 0 0 0 0 0 0 0 0 0 0 0 0 0 0 26 (fun _ => 0) (by decide) H.size) (cwV 1 hts gX12_lengths_X12_isAsSeen rfl rfl rfl (by decide +kernel) ⟨Nat.le_of_ble_eq_true rfl, Nat.le_of_ble_eq_true rfl⟩) (zpreV hK hw hS hA zZ.nil hN [1, 2] rfl rfl 11 1 rfl rfl) rfl rfl hl.1 rfl (lv_room (Nat.le_of_ble_eq_true rfl)) dX12_lengths_36 ⟨Nat.le_of_ble_eq_true rfl, Nat.le_of_ble_eq_true rfl⟩) hw hS hA [1, 2] [0] rfl rfl rfl rfl (fun _ H locs hp114 hw hS => ?_)
      have hw : zPD D A [(y 1, .inl (ct 0, 8, .inl (upd (upd (fun _ => 0) 2 1) 3 2))), (h0, .inr (11, [.int 0, .int 0, .ref (y 0), .int 0, .int 0, .int 0, .int 0, .long 0, .int 0, .int 0, .ref (y 1), .ref (y 2), .ref (y 3), .ref (y 4), .ref (y 5), .ref (y 6), .ref (y 7), .ref (y 8), .ref (y 9), .ref (y 10), .ref (y 11), .ref (y 12), .int 0, .int 0, .ref (y 13), .ref (y 14), .ref (y 15), .ref (y 16), .ref (y 17), .ref (y 18), .ref (y 19), .ref (y 20), .ref (y 21), .ref (y 22), .ref (y 23), .ref (y 24), .int 0, .long 0, .ref (y 25), .ref (y 26), .ref (y 27), .ref (y 28), .ref (y 29), .ref (y 30), .ref (y 31), .ref (y 32), .ref (y 33), .ref (y 34), .ref (y 35), .ref (y 36), .ref (y 37), .int 0, .int 0, .ref (y 38), .long 0, .int 0, .int 0])), (y 29, .inl (ct 0, 5, .inl (fun _ => 0)))] H := hw
      refine zfr 39 [.int 1] rfl rfl ?_
      refine lv_if_ne (tgt := 45) hx hb dX12_lengths_39 (by decide) (fun _ => ?_) (fun h => absurd h (by decide))
      refine lv_iinc (v := 27) (lv' := [(2, .int 27), (5, .int 26), (4, .int 25), (3, .int 0), (0, .ref h0), (1, .int 0)]) hx hb dX12_lengths_45 hl (k := 2) rfl (by decide) (by decide) rfl (fun ls hl => ?_)
      refine lv_iload_n hx hb dX12_lengths_48 rfl (lv_at hl 3 rfl) ?_
      refine lv_if_ge (tgt := 55) hx hb dX12_lengths_49 (by decide) (fun _ => ?_) (fun h => absurd (by decide) h)
      refine lv_iload hx hb dX12_lengths_55 (lv_at hl 1 rfl) ?_
      refine lv_istore (lv' := [(4, .int 26), (2, .int 27), (5, .int 26), (3, .int 0), (0, .ref h0), (1, .int 0)]) hx hb dX12_lengths_57 hl (by decide) rfl (fun ls hl => ?_)
      refine lv_iinc (v := 27) (lv' := [(5, .int 27), (4, .int 26), (2, .int 27), (3, .int 0), (0, .ref h0), (1, .int 0)]) hx hb dX12_lengths_59 hl (k := 2) rfl (by decide) (by decide) rfl (fun ls hl => ?_)
      refine lv_goto (tgt := 26) hx hb dX12_lengths_62 (by decide) ?_
      refine lv_iload hx hb dX12_lengths_26 (lv_at hl 0 rfl) ?_
      refine lv_bipush (v := 31) hx hb dX12_lengths_28 (by decide) ?_
      refine lv_icmp_ge (tgt := 65) hx hb dX12_lengths_30 (by decide) (fun h => absurd h (by decide)) (fun _ => ?_)
      refine lv_aload_n hx hb dX12_lengths_33 rfl (lv_at hl 4 rfl) ?_
      refine lv_iload hx hb dX12_lengths_34 (lv_at hl 0 rfl) ?_
      refine zcall2 (va_runV (As := [.int 27]) (rest := []) ⟨hx, hb, hml, hown, hts⟩ (c_asSeen12 l D ct h0 y 0 0 0 0 0 0 0 0 0 0 0 0 0 0 0 0 0 0 27 (fun _ => 0) (by decide) H.size) (cwV 1 hts gX12_lengths_X12_isAsSeen rfl rfl rfl (by decide +kernel) ⟨Nat.le_of_ble_eq_true rfl, Nat.le_of_ble_eq_true rfl⟩) (zpreV hK hw hS hA zZ.nil hN [1, 2] rfl rfl 11 1 rfl rfl) rfl rfl hl.1 rfl (lv_room (Nat.le_of_ble_eq_true rfl)) dX12_lengths_36 ⟨Nat.le_of_ble_eq_true rfl, Nat.le_of_ble_eq_true rfl⟩) hw hS hA [1, 2] [0] rfl rfl rfl rfl (fun _ H locs hp118 hw hS => ?_)
      have hw : zPD D A [(y 1, .inl (ct 0, 8, .inl (upd (upd (fun _ => 0) 2 1) 3 2))), (h0, .inr (11, [.int 0, .int 0, .ref (y 0), .int 0, .int 0, .int 0, .int 0, .long 0, .int 0, .int 0, .ref (y 1), .ref (y 2), .ref (y 3), .ref (y 4), .ref (y 5), .ref (y 6), .ref (y 7), .ref (y 8), .ref (y 9), .ref (y 10), .ref (y 11), .ref (y 12), .int 0, .int 0, .ref (y 13), .ref (y 14), .ref (y 15), .ref (y 16), .ref (y 17), .ref (y 18), .ref (y 19), .ref (y 20), .ref (y 21), .ref (y 22), .ref (y 23), .ref (y 24), .int 0, .long 0, .ref (y 25), .ref (y 26), .ref (y 27), .ref (y 28), .ref (y 29), .ref (y 30), .ref (y 31), .ref (y 32), .ref (y 33), .ref (y 34), .ref (y 35), .ref (y 36), .ref (y 37), .int 0, .int 0, .ref (y 38), .long 0, .int 0, .int 0])), (y 29, .inl (ct 0, 5, .inl (fun _ => 0)))] H := hw
      refine zfr 39 [.int 1] rfl rfl ?_
      refine lv_if_ne (tgt := 45) hx hb dX12_lengths_39 (by decide) (fun _ => ?_) (fun h => absurd h (by decide))
      refine lv_iinc (v := 28) (lv' := [(2, .int 28), (5, .int 27), (4, .int 26), (3, .int 0), (0, .ref h0), (1, .int 0)]) hx hb dX12_lengths_45 hl (k := 2) rfl (by decide) (by decide) rfl (fun ls hl => ?_)
      refine lv_iload_n hx hb dX12_lengths_48 rfl (lv_at hl 3 rfl) ?_
      refine lv_if_ge (tgt := 55) hx hb dX12_lengths_49 (by decide) (fun _ => ?_) (fun h => absurd (by decide) h)
      refine lv_iload hx hb dX12_lengths_55 (lv_at hl 1 rfl) ?_
      refine lv_istore (lv' := [(4, .int 27), (2, .int 28), (5, .int 27), (3, .int 0), (0, .ref h0), (1, .int 0)]) hx hb dX12_lengths_57 hl (by decide) rfl (fun ls hl => ?_)
      refine lv_iinc (v := 28) (lv' := [(5, .int 28), (4, .int 27), (2, .int 28), (3, .int 0), (0, .ref h0), (1, .int 0)]) hx hb dX12_lengths_59 hl (k := 2) rfl (by decide) (by decide) rfl (fun ls hl => ?_)
      refine lv_goto (tgt := 26) hx hb dX12_lengths_62 (by decide) ?_
      refine lv_iload hx hb dX12_lengths_26 (lv_at hl 0 rfl) ?_
      refine lv_bipush (v := 31) hx hb dX12_lengths_28 (by decide) ?_
      refine lv_icmp_ge (tgt := 65) hx hb dX12_lengths_30 (by decide) (fun h => absurd h (by decide)) (fun _ => ?_)
      refine lv_aload_n hx hb dX12_lengths_33 rfl (lv_at hl 4 rfl) ?_
      refine lv_iload hx hb dX12_lengths_34 (lv_at hl 0 rfl) ?_
      refine zcall2 (va_runV (As := [.int 28]) (rest := []) ⟨hx, hb, hml, hown, hts⟩ (c_asSeen12 l D ct h0 y 0 0 0 0 0 0 0 0 0 0 0 0 0 0 0 0 0 0 28 (fun _ => 0) (by decide) H.size) (cwV 1 hts gX12_lengths_X12_isAsSeen rfl rfl rfl (by decide +kernel) ⟨Nat.le_of_ble_eq_true rfl, Nat.le_of_ble_eq_true rfl⟩) (zpreV hK hw hS hA zZ.nil hN [1, 2] rfl rfl 11 1 rfl rfl) rfl rfl hl.1 rfl (lv_room (Nat.le_of_ble_eq_true rfl)) dX12_lengths_36 ⟨Nat.le_of_ble_eq_true rfl, Nat.le_of_ble_eq_true rfl⟩) hw hS hA [1, 2] [0] rfl rfl rfl rfl (fun _ H locs hp122 hw hS => ?_)
      have hw : zPD D A [(y 1, .inl (ct 0, 8, .inl (upd (upd (fun _ => 0) 2 1) 3 2))), (h0, .inr (11, [.int 0, .int 0, .ref (y 0), .int 0, .int 0, .int 0, .int 0, .long 0, .int 0, .int 0, .ref (y 1), .ref (y 2), .ref (y 3), .ref (y 4), .ref (y 5), .ref (y 6), .ref (y 7), .ref (y 8), .ref (y 9), .ref (y 10), .ref (y 11), .ref (y 12), .int 0, .int 0, .ref (y 13), .ref (y 14), .ref (y 15), .ref (y 16), .ref (y 17), .ref (y 18), .ref (y 19), .ref (y 20), .ref (y 21), .ref (y 22), .ref (y 23), .ref (y 24), .int 0, .long 0, .ref (y 25), .ref (y 26), .ref (y 27), .ref (y 28), .ref (y 29), .ref (y 30), .ref (y 31), .ref (y 32), .ref (y 33), .ref (y 34), .ref (y 35), .ref (y 36), .ref (y 37), .int 0, .int 0, .ref (y 38), .long 0, .int 0, .int 0])), (y 29, .inl (ct 0, 5, .inl (fun _ => 0)))] H := hw
      refine zfr 39 [.int 1] rfl rfl ?_
      refine lv_if_ne (tgt := 45) hx hb dX12_lengths_39 (by decide) (fun _ => ?_) (fun h => absurd h (by decide))
      refine lv_iinc (v := 29) (lv' := [(2, .int 29), (5, .int 28), (4, .int 27), (3, .int 0), (0, .ref h0), (1, .int 0)]) hx hb dX12_lengths_45 hl (k := 2) rfl (by decide) (by decide) rfl (fun ls hl => ?_)
      refine lv_iload_n hx hb dX12_lengths_48 rfl (lv_at hl 3 rfl) ?_
      refine lv_if_ge (tgt := 55) hx hb dX12_lengths_49 (by decide) (fun _ => ?_) (fun h => absurd (by decide) h)
      refine lv_iload hx hb dX12_lengths_55 (lv_at hl 1 rfl) ?_
      refine lv_istore (lv' := [(4, .int 28), (2, .int 29), (5, .int 28), (3, .int 0), (0, .ref h0), (1, .int 0)]) hx hb dX12_lengths_57 hl (by decide) rfl (fun ls hl => ?_)
      refine lv_iinc (v := 29) (lv' := [(5, .int 29), (4, .int 28), (2, .int 29), (3, .int 0), (0, .ref h0), (1, .int 0)]) hx hb dX12_lengths_59 hl (k := 2) rfl (by decide) (by decide) rfl (fun ls hl => ?_)
      refine lv_goto (tgt := 26) hx hb dX12_lengths_62 (by decide) ?_
      refine lv_iload hx hb dX12_lengths_26 (lv_at hl 0 rfl) ?_
      refine lv_bipush (v := 31) hx hb dX12_lengths_28 (by decide) ?_
      refine lv_icmp_ge (tgt := 65) hx hb dX12_lengths_30 (by decide) (fun h => absurd h (by decide)) (fun _ => ?_)
      refine lv_aload_n hx hb dX12_lengths_33 rfl (lv_at hl 4 rfl) ?_
      refine lv_iload hx hb dX12_lengths_34 (lv_at hl 0 rfl) ?_
      refine zcall2 (va_runV (As := [.int 29]) (rest := []) ⟨hx, hb, hml, hown, hts⟩ (c_asSeen12 l D ct h0 y 0 0 0 0 0 0 0 0 0 0 0 0 0 0 0 0 0 0 29 (fun _ => 0) (by decide) H.size) (cwV 1 hts gX12_lengths_X12_isAsSeen rfl rfl rfl (by decide +kernel) ⟨Nat.le_of_ble_eq_true rfl, Nat.le_of_ble_eq_true rfl⟩) (zpreV hK hw hS hA zZ.nil hN [1, 2] rfl rfl 11 1 rfl rfl) rfl rfl hl.1 rfl (lv_room (Nat.le_of_ble_eq_true rfl)) dX12_lengths_36 ⟨Nat.le_of_ble_eq_true rfl, Nat.le_of_ble_eq_true rfl⟩) hw hS hA [1, 2] [0] rfl rfl rfl rfl (fun _ H locs hp126 hw hS => ?_)
      have hw : zPD D A [(y 1, .inl (ct 0, 8, .inl (upd (upd (fun _ => 0) 2 1) 3 2))), (h0, .inr (11, [.int 0, .int 0, .ref (y 0), .int 0, .int 0, .int 0, .int 0, .long 0, .int 0, .int 0, .ref (y 1), .ref (y 2), .ref (y 3), .ref (y 4), .ref (y 5), .ref (y 6), .ref (y 7), .ref (y 8), .ref (y 9), .ref (y 10), .ref (y 11), .ref (y 12), .int 0, .int 0, .ref (y 13), .ref (y 14), .ref (y 15), .ref (y 16), .ref (y 17), .ref (y 18), .ref (y 19), .ref (y 20), .ref (y 21), .ref (y 22), .ref (y 23), .ref (y 24), .int 0, .long 0, .ref (y 25), .ref (y 26), .ref (y 27), .ref (y 28), .ref (y 29), .ref (y 30), .ref (y 31), .ref (y 32), .ref (y 33), .ref (y 34), .ref (y 35), .ref (y 36), .ref (y 37), .int 0, .int 0, .ref (y 38), .long 0, .int 0, .int 0])), (y 29, .inl (ct 0, 5, .inl (fun _ => 0)))] H := hw
      refine zfr 39 [.int 1] rfl rfl ?_
      refine lv_if_ne (tgt := 45) hx hb dX12_lengths_39 (by decide) (fun _ => ?_) (fun h => absurd h (by decide))
      refine lv_iinc (v := 30) (lv' := [(2, .int 30), (5, .int 29), (4, .int 28), (3, .int 0), (0, .ref h0), (1, .int 0)]) hx hb dX12_lengths_45 hl (k := 2) rfl (by decide) (by decide) rfl (fun ls hl => ?_)
      refine lv_iload_n hx hb dX12_lengths_48 rfl (lv_at hl 3 rfl) ?_
      refine lv_if_ge (tgt := 55) hx hb dX12_lengths_49 (by decide) (fun _ => ?_) (fun h => absurd (by decide) h)
      refine lv_iload hx hb dX12_lengths_55 (lv_at hl 1 rfl) ?_
      refine lv_istore (lv' := [(4, .int 29), (2, .int 30), (5, .int 29), (3, .int 0), (0, .ref h0), (1, .int 0)]) hx hb dX12_lengths_57 hl (by decide) rfl (fun ls hl => ?_)
      refine lv_iinc (v := 30) (lv' := [(5, .int 30), (4, .int 29), (2, .int 30), (3, .int 0), (0, .ref h0), (1, .int 0)]) hx hb dX12_lengths_59 hl (k := 2) rfl (by decide) (by decide) rfl (fun ls hl => ?_)
      refine lv_goto (tgt := 26) hx hb dX12_lengths_62 (by decide) ?_
      refine lv_iload hx hb dX12_lengths_26 (lv_at hl 0 rfl) ?_
      refine lv_bipush (v := 31) hx hb dX12_lengths_28 (by decide) ?_
      refine lv_icmp_ge (tgt := 65) hx hb dX12_lengths_30 (by decide) (fun h => absurd h (by decide)) (fun _ => ?_)
      refine lv_aload_n hx hb dX12_lengths_33 rfl (lv_at hl 4 rfl) ?_
      refine lv_iload hx hb dX12_lengths_34 (lv_at hl 0 rfl) ?_
      refine zcall2 (va_runV (As := [.int 30]) (rest := []) ⟨hx, hb, hml, hown, hts⟩ (c_asSeen12 l D ct h0 y 0 0 0 0 0 0 0 0 0 0 0 0 0 0 0 0 0 0 30 (fun _ => 0) (by decide) H.size) (cwV 1 hts gX12_lengths_X12_isAsSeen rfl rfl rfl (by decide +kernel) ⟨Nat.le_of_ble_eq_true rfl, Nat.le_of_ble_eq_true rfl⟩) (zpreV hK hw hS hA zZ.nil hN [1, 2] rfl rfl 11 1 rfl rfl) rfl rfl hl.1 rfl (lv_room (Nat.le_of_ble_eq_true rfl)) dX12_lengths_36 ⟨Nat.le_of_ble_eq_true rfl, Nat.le_of_ble_eq_true rfl⟩) hw hS hA [1, 2] [0] rfl rfl rfl rfl (fun _ H locs hp130 hw hS => ?_)
      have hw : zPD D A [(y 1, .inl (ct 0, 8, .inl (upd (upd (fun _ => 0) 2 1) 3 2))), (h0, .inr (11, [.int 0, .int 0, .ref (y 0), .int 0, .int 0, .int 0, .int 0, .long 0, .int 0, .int 0, .ref (y 1), .ref (y 2), .ref (y 3), .ref (y 4), .ref (y 5), .ref (y 6), .ref (y 7), .ref (y 8), .ref (y 9), .ref (y 10), .ref (y 11), .ref (y 12), .int 0, .int 0, .ref (y 13), .ref (y 14), .ref (y 15), .ref (y 16), .ref (y 17), .ref (y 18), .ref (y 19), .ref (y 20), .ref (y 21), .ref (y 22), .ref (y 23), .ref (y 24), .int 0, .long 0, .ref (y 25), .ref (y 26), .ref (y 27), .ref (y 28), .ref (y 29), .ref (y 30), .ref (y 31), .ref (y 32), .ref (y 33), .ref (y 34), .ref (y 35), .ref (y 36), .ref (y 37), .int 0, .int 0, .ref (y 38), .long 0, .int 0, .int 0])), (y 29, .inl (ct 0, 5, .inl (fun _ => 0)))] H := hw
      refine zfr 39 [.int 1] rfl rfl ?_
      refine lv_if_ne (tgt := 45) hx hb dX12_lengths_39 (by decide) (fun _ => ?_) (fun h => absurd h (by decide))
      refine lv_iinc (v := 31) (lv' := [(2, .int 31), (5, .int 30), (4, .int 29), (3, .int 0), (0, .ref h0), (1, .int 0)]) hx hb dX12_lengths_45 hl (k := 2) rfl (by decide) (by decide) rfl (fun ls hl => ?_)
      refine lv_iload_n hx hb dX12_lengths_48 rfl (lv_at hl 3 rfl) ?_
      refine lv_if_ge (tgt := 55) hx hb dX12_lengths_49 (by decide) (fun _ => ?_) (fun h => absurd (by decide) h)
      refine lv_iload hx hb dX12_lengths_55 (lv_at hl 1 rfl) ?_
      refine lv_istore (lv' := [(4, .int 30), (2, .int 31), (5, .int 30), (3, .int 0), (0, .ref h0), (1, .int 0)]) hx hb dX12_lengths_57 hl (by decide) rfl (fun ls hl => ?_)
      refine lv_iinc (v := 31) (lv' := [(5, .int 31), (4, .int 30), (2, .int 31), (3, .int 0), (0, .ref h0), (1, .int 0)]) hx hb dX12_lengths_59 hl (k := 2) rfl (by decide) (by decide) rfl (fun ls hl => ?_)
      refine lv_goto (tgt := 26) hx hb dX12_lengths_62 (by decide) ?_
      refine lv_iload hx hb dX12_lengths_26 (lv_at hl 0 rfl) ?_
      refine lv_bipush (v := 31) hx hb dX12_lengths_28 (by decide) ?_
      refine lv_icmp_ge (tgt := 65) hx hb dX12_lengths_30 (by decide) (fun _ => ?_) (fun h => absurd (by decide) h)
      refine lv_iload_n hx hb dX12_lengths_65 rfl (lv_at hl 5 rfl) ?_
      refine lv_if_ne (tgt := 73) hx hb dX12_lengths_66 (by decide) (fun h => absurd (by decide) h) (fun _ => ?_)
      refine lv_iload_n hx hb dX12_lengths_69 rfl (lv_at hl 2 rfl) ?_
      refine lv_goto (tgt := 84) hx hb dX12_lengths_70 (by decide) ?_
      exact ziret hx hb hr (rfl) hlocks () (by decide) (trivial) hw [1, 0, 2] rfl (rfl) hS (Nat.le_of_ble_eq_true rfl) (Nat.le_of_ble_eq_true rfl) dX12_lengths_84
    · obtain rfl : p1 = 1 := hxj6
      refine lv_aload_n hx hb dX12_lengths_0 rfl (lv_at hl 0 rfl) ?_
      refine lv_iconst (v := 0) hx hb dX12_lengths_1 (by decide) ?_
      refine zput (D := D) (ci := 11) (v := .int 0) (ty := .int) hx hb hts hiX12 tyX12 tyX12_ok nmX12 hown hK hw hS 0 rfl rfl 0 (by decide) (hts (.fieldLink RX12 129 "BeardPassModel" "thrown" "I") (by decide +kernel)) (fun _ h9 => h9) rfl (by decide +kernel) rfl rfl (Nat.le_of_ble_eq_true rfl) dX12_lengths_2 [(h0, .inr (11, [.int 0, .int 0, .ref (y 0), .int 0, .int 0, .int 0, .int 0, .long 0, .int 0, .int 0, .ref (y 1), .ref (y 2), .ref (y 3), .ref (y 4), .ref (y 5), .ref (y 6), .ref (y 7), .ref (y 8), .ref (y 9), .ref (y 10), .ref (y 11), .ref (y 12), .int 0, .int 0, .ref (y 13), .ref (y 14), .ref (y 15), .ref (y 16), .ref (y 17), .ref (y 18), .ref (y 19), .ref (y 20), .ref (y 21), .ref (y 22), .ref (y 23), .ref (y 24), .int 0, .long 0, .ref (y 25), .ref (y 26), .ref (y 27), .ref (y 28), .ref (y 29), .ref (y 30), .ref (y 31), .ref (y 32), .ref (y 33), .ref (y 34), .ref (y 35), .ref (y 36), .ref (y 37), .int 0, .int 0, .ref (y 38), .long 0, .int 0, .int 0])), (y 1, .inl (ct 0, 8, .inl (upd (upd (fun _ => 0) 2 1) 3 2))), (y 29, .inl (ct 0, 5, .inl (fun _ => 0)))] rfl (fun H locs hw hS => ?_)
      refine lv_iload_n hx hb dX12_lengths_5 rfl (lv_at hl 1 rfl) ?_
      refine lv_iconst (v := 0) hx hb dX12_lengths_6 (by decide) ?_
      refine lv_iconst (v := 2) hx hb dX12_lengths_7 (by decide) ?_
      refine zcall2 (va_runS (As := [.int 1, .int 0, .int 2]) (rest := []) ⟨hx, hb, hml, hown, hts⟩ (c_within l D ct 1 0 2 H.size) (va_cwS 3 hts gX12_lengths_X12_within rfl rfl rfl (by decide +kernel) ⟨Nat.le_of_ble_eq_true rfl, Nat.le_of_ble_eq_true rfl⟩) (zpreS hK hw hS hA zZ.nil hN [] rfl rfl) rfl rfl hl.1 rfl (lv_room (Nat.le_of_ble_eq_true rfl)) dX12_lengths_8 ⟨Nat.le_of_ble_eq_true rfl, Nat.le_of_ble_eq_true rfl⟩) hw hS hA [] [0, 1, 2] rfl rfl rfl rfl (fun _ H locs hp135 hw hS => ?_)
      have hw : zPD D A [(h0, .inr (11, [.int 0, .int 0, .ref (y 0), .int 0, .int 0, .int 0, .int 0, .long 0, .int 0, .int 0, .ref (y 1), .ref (y 2), .ref (y 3), .ref (y 4), .ref (y 5), .ref (y 6), .ref (y 7), .ref (y 8), .ref (y 9), .ref (y 10), .ref (y 11), .ref (y 12), .int 0, .int 0, .ref (y 13), .ref (y 14), .ref (y 15), .ref (y 16), .ref (y 17), .ref (y 18), .ref (y 19), .ref (y 20), .ref (y 21), .ref (y 22), .ref (y 23), .ref (y 24), .int 0, .long 0, .ref (y 25), .ref (y 26), .ref (y 27), .ref (y 28), .ref (y 29), .ref (y 30), .ref (y 31), .ref (y 32), .ref (y 33), .ref (y 34), .ref (y 35), .ref (y 36), .ref (y 37), .int 0, .int 0, .ref (y 38), .long 0, .int 0, .int 0])), (y 1, .inl (ct 0, 8, .inl (upd (upd (fun _ => 0) 2 1) 3 2))), (y 29, .inl (ct 0, 5, .inl (fun _ => 0)))] H := hw
      refine zfr 11 [.int (zwi 1 0 2)] rfl rfl ?_
      refine ztop (.int 1) (congrArg Value.int (by decide)) ?_
      refine lv_if_ne (tgt := 16) hx hb dX12_lengths_11 (by decide) (fun _ => ?_) (fun h => absurd h (by decide))
      refine lv_iconst (v := 0) hx hb dX12_lengths_16 (by decide) ?_
      refine lv_istore_n (lv' := [(2, .int 0), (0, .ref h0), (1, .int 1)]) hx hb dX12_lengths_17 rfl hl (by decide) rfl (fun ls hl => ?_)
      refine lv_iconst (v := (-1)) hx hb dX12_lengths_18 (by decide) ?_
      refine lv_istore_n (lv' := [(3, .int (-1)), (2, .int 0), (0, .ref h0), (1, .int 1)]) hx hb dX12_lengths_19 rfl hl (by decide) rfl (fun ls hl => ?_)
      refine lv_iconst (v := (-1)) hx hb dX12_lengths_20 (by decide) ?_
      refine lv_istore (lv' := [(4, .int (-1)), (3, .int (-1)), (2, .int 0), (0, .ref h0), (1, .int 1)]) hx hb dX12_lengths_21 hl (by decide) rfl (fun ls hl => ?_)
      refine lv_iconst (v := 0) hx hb dX12_lengths_23 (by decide) ?_
      refine lv_istore (lv' := [(5, .int 0), (4, .int (-1)), (3, .int (-1)), (2, .int 0), (0, .ref h0), (1, .int 1)]) hx hb dX12_lengths_24 hl (by decide) rfl (fun ls hl => ?_)
      refine lv_iload hx hb dX12_lengths_26 (lv_at hl 0 rfl) ?_
      refine lv_bipush (v := 31) hx hb dX12_lengths_28 (by decide) ?_
      refine lv_icmp_ge (tgt := 65) hx hb dX12_lengths_30 (by decide) (fun h => absurd h (by decide)) (fun _ => ?_)
      refine lv_aload_n hx hb dX12_lengths_33 rfl (lv_at hl 4 rfl) ?_
      refine lv_iload hx hb dX12_lengths_34 (lv_at hl 0 rfl) ?_
      refine zcall2 (va_runV (As := [.int 0]) (rest := []) ⟨hx, hb, hml, hown, hts⟩ (c_asSeen12 l D ct h0 y 0 0 0 0 0 0 0 0 0 0 0 0 0 0 0 0 0 0 0 (fun _ => 0) (by decide) H.size) (cwV 1 hts gX12_lengths_X12_isAsSeen rfl rfl rfl (by decide +kernel) ⟨Nat.le_of_ble_eq_true rfl, Nat.le_of_ble_eq_true rfl⟩) (zpreV hK hw hS hA zZ.nil hN [0, 2] rfl rfl 11 0 rfl rfl) rfl rfl hl.1 rfl (lv_room (Nat.le_of_ble_eq_true rfl)) dX12_lengths_36 ⟨Nat.le_of_ble_eq_true rfl, Nat.le_of_ble_eq_true rfl⟩) hw hS hA [0, 2] [1] rfl rfl rfl rfl (fun _ H locs hp138 hw hS => ?_)
      have hw : zPD D A [(y 1, .inl (ct 0, 8, .inl (upd (upd (fun _ => 0) 2 1) 3 2))), (h0, .inr (11, [.int 0, .int 0, .ref (y 0), .int 0, .int 0, .int 0, .int 0, .long 0, .int 0, .int 0, .ref (y 1), .ref (y 2), .ref (y 3), .ref (y 4), .ref (y 5), .ref (y 6), .ref (y 7), .ref (y 8), .ref (y 9), .ref (y 10), .ref (y 11), .ref (y 12), .int 0, .int 0, .ref (y 13), .ref (y 14), .ref (y 15), .ref (y 16), .ref (y 17), .ref (y 18), .ref (y 19), .ref (y 20), .ref (y 21), .ref (y 22), .ref (y 23), .ref (y 24), .int 0, .long 0, .ref (y 25), .ref (y 26), .ref (y 27), .ref (y 28), .ref (y 29), .ref (y 30), .ref (y 31), .ref (y 32), .ref (y 33), .ref (y 34), .ref (y 35), .ref (y 36), .ref (y 37), .int 0, .int 0, .ref (y 38), .long 0, .int 0, .int 0])), (y 29, .inl (ct 0, 5, .inl (fun _ => 0)))] H := hw
      refine zfr 39 [.int 1] rfl rfl ?_
      refine lv_if_ne (tgt := 45) hx hb dX12_lengths_39 (by decide) (fun _ => ?_) (fun h => absurd h (by decide))
      refine lv_iinc (v := 1) (lv' := [(2, .int 1), (5, .int 0), (4, .int (-1)), (3, .int (-1)), (0, .ref h0), (1, .int 1)]) hx hb dX12_lengths_45 hl (k := 3) rfl (by decide) (by decide) rfl (fun ls hl => ?_)
      refine lv_iload_n hx hb dX12_lengths_48 rfl (lv_at hl 3 rfl) ?_
      refine lv_if_ge (tgt := 55) hx hb dX12_lengths_49 (by decide) (fun h => absurd h (by decide)) (fun _ => ?_)
      refine lv_iload hx hb dX12_lengths_52 (lv_at hl 1 rfl) ?_
      refine lv_istore_n (lv' := [(3, .int 0), (2, .int 1), (5, .int 0), (4, .int (-1)), (0, .ref h0), (1, .int 1)]) hx hb dX12_lengths_54 rfl hl (by decide) rfl (fun ls hl => ?_)
      refine lv_iload hx hb dX12_lengths_55 (lv_at hl 2 rfl) ?_
      refine lv_istore (lv' := [(4, .int 0), (3, .int 0), (2, .int 1), (5, .int 0), (0, .ref h0), (1, .int 1)]) hx hb dX12_lengths_57 hl (by decide) rfl (fun ls hl => ?_)
      refine lv_iinc (v := 1) (lv' := [(5, .int 1), (4, .int 0), (3, .int 0), (2, .int 1), (0, .ref h0), (1, .int 1)]) hx hb dX12_lengths_59 hl (k := 3) rfl (by decide) (by decide) rfl (fun ls hl => ?_)
      refine lv_goto (tgt := 26) hx hb dX12_lengths_62 (by decide) ?_
      refine lv_iload hx hb dX12_lengths_26 (lv_at hl 0 rfl) ?_
      refine lv_bipush (v := 31) hx hb dX12_lengths_28 (by decide) ?_
      refine lv_icmp_ge (tgt := 65) hx hb dX12_lengths_30 (by decide) (fun h => absurd h (by decide)) (fun _ => ?_)
      refine lv_aload_n hx hb dX12_lengths_33 rfl (lv_at hl 4 rfl) ?_
      refine lv_iload hx hb dX12_lengths_34 (lv_at hl 0 rfl) ?_
      refine zcall2 (va_runV (As := [.int 1]) (rest := []) ⟨hx, hb, hml, hown, hts⟩ (c_asSeen12 l D ct h0 y 0 0 0 0 0 0 0 0 0 0 0 0 0 0 0 0 0 0 1 (fun _ => 0) (by decide) H.size) (cwV 1 hts gX12_lengths_X12_isAsSeen rfl rfl rfl (by decide +kernel) ⟨Nat.le_of_ble_eq_true rfl, Nat.le_of_ble_eq_true rfl⟩) (zpreV hK hw hS hA zZ.nil hN [1, 2] rfl rfl 11 1 rfl rfl) rfl rfl hl.1 rfl (lv_room (Nat.le_of_ble_eq_true rfl)) dX12_lengths_36 ⟨Nat.le_of_ble_eq_true rfl, Nat.le_of_ble_eq_true rfl⟩) hw hS hA [1, 2] [0] rfl rfl rfl rfl (fun _ H locs hp142 hw hS => ?_)
      have hw : zPD D A [(y 1, .inl (ct 0, 8, .inl (upd (upd (fun _ => 0) 2 1) 3 2))), (h0, .inr (11, [.int 0, .int 0, .ref (y 0), .int 0, .int 0, .int 0, .int 0, .long 0, .int 0, .int 0, .ref (y 1), .ref (y 2), .ref (y 3), .ref (y 4), .ref (y 5), .ref (y 6), .ref (y 7), .ref (y 8), .ref (y 9), .ref (y 10), .ref (y 11), .ref (y 12), .int 0, .int 0, .ref (y 13), .ref (y 14), .ref (y 15), .ref (y 16), .ref (y 17), .ref (y 18), .ref (y 19), .ref (y 20), .ref (y 21), .ref (y 22), .ref (y 23), .ref (y 24), .int 0, .long 0, .ref (y 25), .ref (y 26), .ref (y 27), .ref (y 28), .ref (y 29), .ref (y 30), .ref (y 31), .ref (y 32), .ref (y 33), .ref (y 34), .ref (y 35), .ref (y 36), .ref (y 37), .int 0, .int 0, .ref (y 38), .long 0, .int 0, .int 0])), (y 29, .inl (ct 0, 5, .inl (fun _ => 0)))] H := hw
      refine zfr 39 [.int 1] rfl rfl ?_
      refine lv_if_ne (tgt := 45) hx hb dX12_lengths_39 (by decide) (fun _ => ?_) (fun h => absurd h (by decide))
      refine lv_iinc (v := 2) (lv' := [(2, .int 2), (5, .int 1), (4, .int 0), (3, .int 0), (0, .ref h0), (1, .int 1)]) hx hb dX12_lengths_45 hl (k := 3) rfl (by decide) (by decide) rfl (fun ls hl => ?_)
      refine lv_iload_n hx hb dX12_lengths_48 rfl (lv_at hl 3 rfl) ?_
      refine lv_if_ge (tgt := 55) hx hb dX12_lengths_49 (by decide) (fun _ => ?_) (fun h => absurd (by decide) h)
      refine lv_iload hx hb dX12_lengths_55 (lv_at hl 1 rfl) ?_
      refine lv_istore (lv' := [(4, .int 1), (2, .int 2), (5, .int 1), (3, .int 0), (0, .ref h0), (1, .int 1)]) hx hb dX12_lengths_57 hl (by decide) rfl (fun ls hl => ?_)
      refine lv_iinc (v := 2) (lv' := [(5, .int 2), (4, .int 1), (2, .int 2), (3, .int 0), (0, .ref h0), (1, .int 1)]) hx hb dX12_lengths_59 hl (k := 2) rfl (by decide) (by decide) rfl (fun ls hl => ?_)
      refine lv_goto (tgt := 26) hx hb dX12_lengths_62 (by decide) ?_
      refine lv_iload hx hb dX12_lengths_26 (lv_at hl 0 rfl) ?_
      refine lv_bipush (v := 31) hx hb dX12_lengths_28 (by decide) ?_
      refine lv_icmp_ge (tgt := 65) hx hb dX12_lengths_30 (by decide) (fun h => absurd h (by decide)) (fun _ => ?_)
      refine lv_aload_n hx hb dX12_lengths_33 rfl (lv_at hl 4 rfl) ?_
      refine lv_iload hx hb dX12_lengths_34 (lv_at hl 0 rfl) ?_
      refine zcall2 (va_runV (As := [.int 2]) (rest := []) ⟨hx, hb, hml, hown, hts⟩ (c_asSeen12 l D ct h0 y 0 0 0 0 0 0 0 0 0 0 0 0 0 0 0 0 0 0 2 (fun _ => 0) (by decide) H.size) (cwV 1 hts gX12_lengths_X12_isAsSeen rfl rfl rfl (by decide +kernel) ⟨Nat.le_of_ble_eq_true rfl, Nat.le_of_ble_eq_true rfl⟩) (zpreV hK hw hS hA zZ.nil hN [1, 2] rfl rfl 11 1 rfl rfl) rfl rfl hl.1 rfl (lv_room (Nat.le_of_ble_eq_true rfl)) dX12_lengths_36 ⟨Nat.le_of_ble_eq_true rfl, Nat.le_of_ble_eq_true rfl⟩) hw hS hA [1, 2] [0] rfl rfl rfl rfl (fun _ H locs hp146 hw hS => ?_)
      have hw : zPD D A [(y 1, .inl (ct 0, 8, .inl (upd (upd (fun _ => 0) 2 1) 3 2))), (h0, .inr (11, [.int 0, .int 0, .ref (y 0), .int 0, .int 0, .int 0, .int 0, .long 0, .int 0, .int 0, .ref (y 1), .ref (y 2), .ref (y 3), .ref (y 4), .ref (y 5), .ref (y 6), .ref (y 7), .ref (y 8), .ref (y 9), .ref (y 10), .ref (y 11), .ref (y 12), .int 0, .int 0, .ref (y 13), .ref (y 14), .ref (y 15), .ref (y 16), .ref (y 17), .ref (y 18), .ref (y 19), .ref (y 20), .ref (y 21), .ref (y 22), .ref (y 23), .ref (y 24), .int 0, .long 0, .ref (y 25), .ref (y 26), .ref (y 27), .ref (y 28), .ref (y 29), .ref (y 30), .ref (y 31), .ref (y 32), .ref (y 33), .ref (y 34), .ref (y 35), .ref (y 36), .ref (y 37), .int 0, .int 0, .ref (y 38), .long 0, .int 0, .int 0])), (y 29, .inl (ct 0, 5, .inl (fun _ => 0)))] H := hw
      refine zfr 39 [.int 1] rfl rfl ?_
      refine lv_if_ne (tgt := 45) hx hb dX12_lengths_39 (by decide) (fun _ => ?_) (fun h => absurd h (by decide))
      refine lv_iinc (v := 3) (lv' := [(2, .int 3), (5, .int 2), (4, .int 1), (3, .int 0), (0, .ref h0), (1, .int 1)]) hx hb dX12_lengths_45 hl (k := 2) rfl (by decide) (by decide) rfl (fun ls hl => ?_)
      refine lv_iload_n hx hb dX12_lengths_48 rfl (lv_at hl 3 rfl) ?_
      refine lv_if_ge (tgt := 55) hx hb dX12_lengths_49 (by decide) (fun _ => ?_) (fun h => absurd (by decide) h)
      refine lv_iload hx hb dX12_lengths_55 (lv_at hl 1 rfl) ?_
      refine lv_istore (lv' := [(4, .int 2), (2, .int 3), (5, .int 2), (3, .int 0), (0, .ref h0), (1, .int 1)]) hx hb dX12_lengths_57 hl (by decide) rfl (fun ls hl => ?_)
      refine lv_iinc (v := 3) (lv' := [(5, .int 3), (4, .int 2), (2, .int 3), (3, .int 0), (0, .ref h0), (1, .int 1)]) hx hb dX12_lengths_59 hl (k := 2) rfl (by decide) (by decide) rfl (fun ls hl => ?_)
      refine lv_goto (tgt := 26) hx hb dX12_lengths_62 (by decide) ?_
      refine lv_iload hx hb dX12_lengths_26 (lv_at hl 0 rfl) ?_
      refine lv_bipush (v := 31) hx hb dX12_lengths_28 (by decide) ?_
      refine lv_icmp_ge (tgt := 65) hx hb dX12_lengths_30 (by decide) (fun h => absurd h (by decide)) (fun _ => ?_)
      refine lv_aload_n hx hb dX12_lengths_33 rfl (lv_at hl 4 rfl) ?_
      refine lv_iload hx hb dX12_lengths_34 (lv_at hl 0 rfl) ?_
      refine zcall2 (va_runV (As := [.int 3]) (rest := []) ⟨hx, hb, hml, hown, hts⟩ (c_asSeen12 l D ct h0 y 0 0 0 0 0 0 0 0 0 0 0 0 0 0 0 0 0 0 3 (fun _ => 0) (by decide) H.size) (cwV 1 hts gX12_lengths_X12_isAsSeen rfl rfl rfl (by decide +kernel) ⟨Nat.le_of_ble_eq_true rfl, Nat.le_of_ble_eq_true rfl⟩) (zpreV hK hw hS hA zZ.nil hN [1, 2] rfl rfl 11 1 rfl rfl) rfl rfl hl.1 rfl (lv_room (Nat.le_of_ble_eq_true rfl)) dX12_lengths_36 ⟨Nat.le_of_ble_eq_true rfl, Nat.le_of_ble_eq_true rfl⟩) hw hS hA [1, 2] [0] rfl rfl rfl rfl (fun _ H locs hp150 hw hS => ?_)
      have hw : zPD D A [(y 1, .inl (ct 0, 8, .inl (upd (upd (fun _ => 0) 2 1) 3 2))), (h0, .inr (11, [.int 0, .int 0, .ref (y 0), .int 0, .int 0, .int 0, .int 0, .long 0, .int 0, .int 0, .ref (y 1), .ref (y 2), .ref (y 3), .ref (y 4), .ref (y 5), .ref (y 6), .ref (y 7), .ref (y 8), .ref (y 9), .ref (y 10), .ref (y 11), .ref (y 12), .int 0, .int 0, .ref (y 13), .ref (y 14), .ref (y 15), .ref (y 16), .ref (y 17), .ref (y 18), .ref (y 19), .ref (y 20), .ref (y 21), .ref (y 22), .ref (y 23), .ref (y 24), .int 0, .long 0, .ref (y 25), .ref (y 26), .ref (y 27), .ref (y 28), .ref (y 29), .ref (y 30), .ref (y 31), .ref (y 32), .ref (y 33), .ref (y 34), .ref (y 35), .ref (y 36), .ref (y 37), .int 0, .int 0, .ref (y 38), .long 0, .int 0, .int 0])), (y 29, .inl (ct 0, 5, .inl (fun _ => 0)))] H := hw
      refine zfr 39 [.int 1] rfl rfl ?_
      refine lv_if_ne (tgt := 45) hx hb dX12_lengths_39 (by decide) (fun _ => ?_) (fun h => absurd h (by decide))
      refine lv_iinc (v := 4) (lv' := [(2, .int 4), (5, .int 3), (4, .int 2), (3, .int 0), (0, .ref h0), (1, .int 1)]) hx hb dX12_lengths_45 hl (k := 2) rfl (by decide) (by decide) rfl (fun ls hl => ?_)
      refine lv_iload_n hx hb dX12_lengths_48 rfl (lv_at hl 3 rfl) ?_
      refine lv_if_ge (tgt := 55) hx hb dX12_lengths_49 (by decide) (fun _ => ?_) (fun h => absurd (by decide) h)
      refine lv_iload hx hb dX12_lengths_55 (lv_at hl 1 rfl) ?_
      refine lv_istore (lv' := [(4, .int 3), (2, .int 4), (5, .int 3), (3, .int 0), (0, .ref h0), (1, .int 1)]) hx hb dX12_lengths_57 hl (by decide) rfl (fun ls hl => ?_)
      refine lv_iinc (v := 4) (lv' := [(5, .int 4), (4, .int 3), (2, .int 4), (3, .int 0), (0, .ref h0), (1, .int 1)]) hx hb dX12_lengths_59 hl (k := 2) rfl (by decide) (by decide) rfl (fun ls hl => ?_)
      refine lv_goto (tgt := 26) hx hb dX12_lengths_62 (by decide) ?_
      refine lv_iload hx hb dX12_lengths_26 (lv_at hl 0 rfl) ?_
      refine lv_bipush (v := 31) hx hb dX12_lengths_28 (by decide) ?_
      refine lv_icmp_ge (tgt := 65) hx hb dX12_lengths_30 (by decide) (fun h => absurd h (by decide)) (fun _ => ?_)
      refine lv_aload_n hx hb dX12_lengths_33 rfl (lv_at hl 4 rfl) ?_
      refine lv_iload hx hb dX12_lengths_34 (lv_at hl 0 rfl) ?_
      refine zcall2 (va_runV (As := [.int 4]) (rest := []) ⟨hx, hb, hml, hown, hts⟩ (c_asSeen12 l D ct h0 y 0 0 0 0 0 0 0 0 0 0 0 0 0 0 0 0 0 0 4 (fun _ => 0) (by decide) H.size) (cwV 1 hts gX12_lengths_X12_isAsSeen rfl rfl rfl (by decide +kernel) ⟨Nat.le_of_ble_eq_true rfl, Nat.le_of_ble_eq_true rfl⟩) (zpreV hK hw hS hA zZ.nil hN [1, 2] rfl rfl 11 1 rfl rfl) rfl rfl hl.1 rfl (lv_room (Nat.le_of_ble_eq_true rfl)) dX12_lengths_36 ⟨Nat.le_of_ble_eq_true rfl, Nat.le_of_ble_eq_true rfl⟩) hw hS hA [1, 2] [0] rfl rfl rfl rfl (fun _ H locs hp154 hw hS => ?_)
      have hw : zPD D A [(y 1, .inl (ct 0, 8, .inl (upd (upd (fun _ => 0) 2 1) 3 2))), (h0, .inr (11, [.int 0, .int 0, .ref (y 0), .int 0, .int 0, .int 0, .int 0, .long 0, .int 0, .int 0, .ref (y 1), .ref (y 2), .ref (y 3), .ref (y 4), .ref (y 5), .ref (y 6), .ref (y 7), .ref (y 8), .ref (y 9), .ref (y 10), .ref (y 11), .ref (y 12), .int 0, .int 0, .ref (y 13), .ref (y 14), .ref (y 15), .ref (y 16), .ref (y 17), .ref (y 18), .ref (y 19), .ref (y 20), .ref (y 21), .ref (y 22), .ref (y 23), .ref (y 24), .int 0, .long 0, .ref (y 25), .ref (y 26), .ref (y 27), .ref (y 28), .ref (y 29), .ref (y 30), .ref (y 31), .ref (y 32), .ref (y 33), .ref (y 34), .ref (y 35), .ref (y 36), .ref (y 37), .int 0, .int 0, .ref (y 38), .long 0, .int 0, .int 0])), (y 29, .inl (ct 0, 5, .inl (fun _ => 0)))] H := hw
      refine zfr 39 [.int 1] rfl rfl ?_
      refine lv_if_ne (tgt := 45) hx hb dX12_lengths_39 (by decide) (fun _ => ?_) (fun h => absurd h (by decide))
      refine lv_iinc (v := 5) (lv' := [(2, .int 5), (5, .int 4), (4, .int 3), (3, .int 0), (0, .ref h0), (1, .int 1)]) hx hb dX12_lengths_45 hl (k := 2) rfl (by decide) (by decide) rfl (fun ls hl => ?_)
      refine lv_iload_n hx hb dX12_lengths_48 rfl (lv_at hl 3 rfl) ?_
      refine lv_if_ge (tgt := 55) hx hb dX12_lengths_49 (by decide) (fun _ => ?_) (fun h => absurd (by decide) h)
      refine lv_iload hx hb dX12_lengths_55 (lv_at hl 1 rfl) ?_
      refine lv_istore (lv' := [(4, .int 4), (2, .int 5), (5, .int 4), (3, .int 0), (0, .ref h0), (1, .int 1)]) hx hb dX12_lengths_57 hl (by decide) rfl (fun ls hl => ?_)
      refine lv_iinc (v := 5) (lv' := [(5, .int 5), (4, .int 4), (2, .int 5), (3, .int 0), (0, .ref h0), (1, .int 1)]) hx hb dX12_lengths_59 hl (k := 2) rfl (by decide) (by decide) rfl (fun ls hl => ?_)
      refine lv_goto (tgt := 26) hx hb dX12_lengths_62 (by decide) ?_
      refine lv_iload hx hb dX12_lengths_26 (lv_at hl 0 rfl) ?_
      refine lv_bipush (v := 31) hx hb dX12_lengths_28 (by decide) ?_
      refine lv_icmp_ge (tgt := 65) hx hb dX12_lengths_30 (by decide) (fun h => absurd h (by decide)) (fun _ => ?_)
      refine lv_aload_n hx hb dX12_lengths_33 rfl (lv_at hl 4 rfl) ?_
      refine lv_iload hx hb dX12_lengths_34 (lv_at hl 0 rfl) ?_
      refine zcall2 (va_runV (As := [.int 5]) (rest := []) ⟨hx, hb, hml, hown, hts⟩ (c_asSeen12 l D ct h0 y 0 0 0 0 0 0 0 0 0 0 0 0 0 0 0 0 0 0 5 (fun _ => 0) (by decide) H.size) (cwV 1 hts gX12_lengths_X12_isAsSeen rfl rfl rfl (by decide +kernel) ⟨Nat.le_of_ble_eq_true rfl, Nat.le_of_ble_eq_true rfl⟩) (zpreV hK hw hS hA zZ.nil hN [1, 2] rfl rfl 11 1 rfl rfl) rfl rfl hl.1 rfl (lv_room (Nat.le_of_ble_eq_true rfl)) dX12_lengths_36 ⟨Nat.le_of_ble_eq_true rfl, Nat.le_of_ble_eq_true rfl⟩) hw hS hA [1, 2] [0] rfl rfl rfl rfl (fun _ H locs hp158 hw hS => ?_)
      have hw : zPD D A [(y 1, .inl (ct 0, 8, .inl (upd (upd (fun _ => 0) 2 1) 3 2))), (h0, .inr (11, [.int 0, .int 0, .ref (y 0), .int 0, .int 0, .int 0, .int 0, .long 0, .int 0, .int 0, .ref (y 1), .ref (y 2), .ref (y 3), .ref (y 4), .ref (y 5), .ref (y 6), .ref (y 7), .ref (y 8), .ref (y 9), .ref (y 10), .ref (y 11), .ref (y 12), .int 0, .int 0, .ref (y 13), .ref (y 14), .ref (y 15), .ref (y 16), .ref (y 17), .ref (y 18), .ref (y 19), .ref (y 20), .ref (y 21), .ref (y 22), .ref (y 23), .ref (y 24), .int 0, .long 0, .ref (y 25), .ref (y 26), .ref (y 27), .ref (y 28), .ref (y 29), .ref (y 30), .ref (y 31), .ref (y 32), .ref (y 33), .ref (y 34), .ref (y 35), .ref (y 36), .ref (y 37), .int 0, .int 0, .ref (y 38), .long 0, .int 0, .int 0])), (y 29, .inl (ct 0, 5, .inl (fun _ => 0)))] H := hw
      refine zfr 39 [.int 1] rfl rfl ?_
      refine lv_if_ne (tgt := 45) hx hb dX12_lengths_39 (by decide) (fun _ => ?_) (fun h => absurd h (by decide))
      refine lv_iinc (v := 6) (lv' := [(2, .int 6), (5, .int 5), (4, .int 4), (3, .int 0), (0, .ref h0), (1, .int 1)]) hx hb dX12_lengths_45 hl (k := 2) rfl (by decide) (by decide) rfl (fun ls hl => ?_)
      refine lv_iload_n hx hb dX12_lengths_48 rfl (lv_at hl 3 rfl) ?_
      refine lv_if_ge (tgt := 55) hx hb dX12_lengths_49 (by decide) (fun _ => ?_) (fun h => absurd (by decide) h)
      refine lv_iload hx hb dX12_lengths_55 (lv_at hl 1 rfl) ?_
      refine lv_istore (lv' := [(4, .int 5), (2, .int 6), (5, .int 5), (3, .int 0), (0, .ref h0), (1, .int 1)]) hx hb dX12_lengths_57 hl (by decide) rfl (fun ls hl => ?_)
      refine lv_iinc (v := 6) (lv' := [(5, .int 6), (4, .int 5), (2, .int 6), (3, .int 0), (0, .ref h0), (1, .int 1)]) hx hb dX12_lengths_59 hl (k := 2) rfl (by decide) (by decide) rfl (fun ls hl => ?_)
      refine lv_goto (tgt := 26) hx hb dX12_lengths_62 (by decide) ?_
      refine lv_iload hx hb dX12_lengths_26 (lv_at hl 0 rfl) ?_
      refine lv_bipush (v := 31) hx hb dX12_lengths_28 (by decide) ?_
      refine lv_icmp_ge (tgt := 65) hx hb dX12_lengths_30 (by decide) (fun h => absurd h (by decide)) (fun _ => ?_)
      refine lv_aload_n hx hb dX12_lengths_33 rfl (lv_at hl 4 rfl) ?_
      refine lv_iload hx hb dX12_lengths_34 (lv_at hl 0 rfl) ?_
      refine zcall2 (va_runV (As := [.int 6]) (rest := []) ⟨hx, hb, hml, hown, hts⟩ (c_asSeen12 l D ct h0 y 0 0 0 0 0 0 0 0 0 0 0 0 0 0 0 0 0 0 6 (fun _ => 0) (by decide) H.size) (cwV 1 hts gX12_lengths_X12_isAsSeen rfl rfl rfl (by decide +kernel) ⟨Nat.le_of_ble_eq_true rfl, Nat.le_of_ble_eq_true rfl⟩) (zpreV hK hw hS hA zZ.nil hN [1, 2] rfl rfl 11 1 rfl rfl) rfl rfl hl.1 rfl (lv_room (Nat.le_of_ble_eq_true rfl)) dX12_lengths_36 ⟨Nat.le_of_ble_eq_true rfl, Nat.le_of_ble_eq_true rfl⟩) hw hS hA [1, 2] [0] rfl rfl rfl rfl (fun _ H locs hp162 hw hS => ?_)
      have hw : zPD D A [(y 1, .inl (ct 0, 8, .inl (upd (upd (fun _ => 0) 2 1) 3 2))), (h0, .inr (11, [.int 0, .int 0, .ref (y 0), .int 0, .int 0, .int 0, .int 0, .long 0, .int 0, .int 0, .ref (y 1), .ref (y 2), .ref (y 3), .ref (y 4), .ref (y 5), .ref (y 6), .ref (y 7), .ref (y 8), .ref (y 9), .ref (y 10), .ref (y 11), .ref (y 12), .int 0, .int 0, .ref (y 13), .ref (y 14), .ref (y 15), .ref (y 16), .ref (y 17), .ref (y 18), .ref (y 19), .ref (y 20), .ref (y 21), .ref (y 22), .ref (y 23), .ref (y 24), .int 0, .long 0, .ref (y 25), .ref (y 26), .ref (y 27), .ref (y 28), .ref (y 29), .ref (y 30), .ref (y 31), .ref (y 32), .ref (y 33), .ref (y 34), .ref (y 35), .ref (y 36), .ref (y 37), .int 0, .int 0, .ref (y 38), .long 0, .int 0, .int 0])), (y 29, .inl (ct 0, 5, .inl (fun _ => 0)))] H := hw
      refine zfr 39 [.int 1] rfl rfl ?_
      refine lv_if_ne (tgt := 45) hx hb dX12_lengths_39 (by decide) (fun _ => ?_) (fun h => absurd h (by decide))
      refine lv_iinc (v := 7) (lv' := [(2, .int 7), (5, .int 6), (4, .int 5), (3, .int 0), (0, .ref h0), (1, .int 1)]) hx hb dX12_lengths_45 hl (k := 2) rfl (by decide) (by decide) rfl (fun ls hl => ?_)
      refine lv_iload_n hx hb dX12_lengths_48 rfl (lv_at hl 3 rfl) ?_
      refine lv_if_ge (tgt := 55) hx hb dX12_lengths_49 (by decide) (fun _ => ?_) (fun h => absurd (by decide) h)
      refine lv_iload hx hb dX12_lengths_55 (lv_at hl 1 rfl) ?_
      refine lv_istore (lv' := [(4, .int 6), (2, .int 7), (5, .int 6), (3, .int 0), (0, .ref h0), (1, .int 1)]) hx hb dX12_lengths_57 hl (by decide) rfl (fun ls hl => ?_)
      refine lv_iinc (v := 7) (lv' := [(5, .int 7), (4, .int 6), (2, .int 7), (3, .int 0), (0, .ref h0), (1, .int 1)]) hx hb dX12_lengths_59 hl (k := 2) rfl (by decide) (by decide) rfl (fun ls hl => ?_)
      refine lv_goto (tgt := 26) hx hb dX12_lengths_62 (by decide) ?_
      refine lv_iload hx hb dX12_lengths_26 (lv_at hl 0 rfl) ?_
      refine lv_bipush (v := 31) hx hb dX12_lengths_28 (by decide) ?_
      refine lv_icmp_ge (tgt := 65) hx hb dX12_lengths_30 (by decide) (fun h => absurd h (by decide)) (fun _ => ?_)
      refine lv_aload_n hx hb dX12_lengths_33 rfl (lv_at hl 4 rfl) ?_
      refine lv_iload hx hb dX12_lengths_34 (lv_at hl 0 rfl) ?_
      refine zcall2 (va_runV (As := [.int 7]) (rest := []) ⟨hx, hb, hml, hown, hts⟩ (c_asSeen12 l D ct h0 y 0 0 0 0 0 0 0 0 0 0 0 0 0 0 0 0 0 0 7 (fun _ => 0) (by decide) H.size) (cwV 1 hts gX12_lengths_X12_isAsSeen rfl rfl rfl (by decide +kernel) ⟨Nat.le_of_ble_eq_true rfl, Nat.le_of_ble_eq_true rfl⟩) (zpreV hK hw hS hA zZ.nil hN [1, 2] rfl rfl 11 1 rfl rfl) rfl rfl hl.1 rfl (lv_room (Nat.le_of_ble_eq_true rfl)) dX12_lengths_36 ⟨Nat.le_of_ble_eq_true rfl, Nat.le_of_ble_eq_true rfl⟩) hw hS hA [1, 2] [0] rfl rfl rfl rfl (fun _ H locs hp166 hw hS => ?_)
      have hw : zPD D A [(y 1, .inl (ct 0, 8, .inl (upd (upd (fun _ => 0) 2 1) 3 2))), (h0, .inr (11, [.int 0, .int 0, .ref (y 0), .int 0, .int 0, .int 0, .int 0, .long 0, .int 0, .int 0, .ref (y 1), .ref (y 2), .ref (y 3), .ref (y 4), .ref (y 5), .ref (y 6), .ref (y 7), .ref (y 8), .ref (y 9), .ref (y 10), .ref (y 11), .ref (y 12), .int 0, .int 0, .ref (y 13), .ref (y 14), .ref (y 15), .ref (y 16), .ref (y 17), .ref (y 18), .ref (y 19), .ref (y 20), .ref (y 21), .ref (y 22), .ref (y 23), .ref (y 24), .int 0, .long 0, .ref (y 25), .ref (y 26), .ref (y 27), .ref (y 28), .ref (y 29), .ref (y 30), .ref (y 31), .ref (y 32), .ref (y 33), .ref (y 34), .ref (y 35), .ref (y 36), .ref (y 37), .int 0, .int 0, .ref (y 38), .long 0, .int 0, .int 0])), (y 29, .inl (ct 0, 5, .inl (fun _ => 0)))] H := hw
      refine zfr 39 [.int 1] rfl rfl ?_
      refine lv_if_ne (tgt := 45) hx hb dX12_lengths_39 (by decide) (fun _ => ?_) (fun h => absurd h (by decide))
      refine lv_iinc (v := 8) (lv' := [(2, .int 8), (5, .int 7), (4, .int 6), (3, .int 0), (0, .ref h0), (1, .int 1)]) hx hb dX12_lengths_45 hl (k := 2) rfl (by decide) (by decide) rfl (fun ls hl => ?_)
      refine lv_iload_n hx hb dX12_lengths_48 rfl (lv_at hl 3 rfl) ?_
      refine lv_if_ge (tgt := 55) hx hb dX12_lengths_49 (by decide) (fun _ => ?_) (fun h => absurd (by decide) h)
      refine lv_iload hx hb dX12_lengths_55 (lv_at hl 1 rfl) ?_
      refine lv_istore (lv' := [(4, .int 7), (2, .int 8), (5, .int 7), (3, .int 0), (0, .ref h0), (1, .int 1)]) hx hb dX12_lengths_57 hl (by decide) rfl (fun ls hl => ?_)
      refine lv_iinc (v := 8) (lv' := [(5, .int 8), (4, .int 7), (2, .int 8), (3, .int 0), (0, .ref h0), (1, .int 1)]) hx hb dX12_lengths_59 hl (k := 2) rfl (by decide) (by decide) rfl (fun ls hl => ?_)
      refine lv_goto (tgt := 26) hx hb dX12_lengths_62 (by decide) ?_
      refine lv_iload hx hb dX12_lengths_26 (lv_at hl 0 rfl) ?_
      refine lv_bipush (v := 31) hx hb dX12_lengths_28 (by decide) ?_
      refine lv_icmp_ge (tgt := 65) hx hb dX12_lengths_30 (by decide) (fun h => absurd h (by decide)) (fun _ => ?_)
      refine lv_aload_n hx hb dX12_lengths_33 rfl (lv_at hl 4 rfl) ?_
      refine lv_iload hx hb dX12_lengths_34 (lv_at hl 0 rfl) ?_
      refine zcall2 (va_runV (As := [.int 8]) (rest := []) ⟨hx, hb, hml, hown, hts⟩ (c_asSeen12 l D ct h0 y 0 0 0 0 0 0 0 0 0 0 0 0 0 0 0 0 0 0 8 (fun _ => 0) (by decide) H.size) (cwV 1 hts gX12_lengths_X12_isAsSeen rfl rfl rfl (by decide +kernel) ⟨Nat.le_of_ble_eq_true rfl, Nat.le_of_ble_eq_true rfl⟩) (zpreV hK hw hS hA zZ.nil hN [1, 2] rfl rfl 11 1 rfl rfl) rfl rfl hl.1 rfl (lv_room (Nat.le_of_ble_eq_true rfl)) dX12_lengths_36 ⟨Nat.le_of_ble_eq_true rfl, Nat.le_of_ble_eq_true rfl⟩) hw hS hA [1, 2] [0] rfl rfl rfl rfl (fun _ H locs hp170 hw hS => ?_)
      have hw : zPD D A [(y 1, .inl (ct 0, 8, .inl (upd (upd (fun _ => 0) 2 1) 3 2))), (h0, .inr (11, [.int 0, .int 0, .ref (y 0), .int 0, .int 0, .int 0, .int 0, .long 0, .int 0, .int 0, .ref (y 1), .ref (y 2), .ref (y 3), .ref (y 4), .ref (y 5), .ref (y 6), .ref (y 7), .ref (y 8), .ref (y 9), .ref (y 10), .ref (y 11), .ref (y 12), .int 0, .int 0, .ref (y 13), .ref (y 14), .ref (y 15), .ref (y 16), .ref (y 17), .ref (y 18), .ref (y 19), .ref (y 20), .ref (y 21), .ref (y 22), .ref (y 23), .ref (y 24), .int 0, .long 0, .ref (y 25), .ref (y 26), .ref (y 27), .ref (y 28), .ref (y 29), .ref (y 30), .ref (y 31), .ref (y 32), .ref (y 33), .ref (y 34), .ref (y 35), .ref (y 36), .ref (y 37), .int 0, .int 0, .ref (y 38), .long 0, .int 0, .int 0])), (y 29, .inl (ct 0, 5, .inl (fun _ => 0)))] H := hw
      refine zfr 39 [.int 1] rfl rfl ?_
      refine lv_if_ne (tgt := 45) hx hb dX12_lengths_39 (by decide) (fun _ => ?_) (fun h => absurd h (by decide))
      refine lv_iinc (v := 9) (lv' := [(2, .int 9), (5, .int 8), (4, .int 7), (3, .int 0), (0, .ref h0), (1, .int 1)]) hx hb dX12_lengths_45 hl (k := 2) rfl (by decide) (by decide) rfl (fun ls hl => ?_)
      refine lv_iload_n hx hb dX12_lengths_48 rfl (lv_at hl 3 rfl) ?_
      refine lv_if_ge (tgt := 55) hx hb dX12_lengths_49 (by decide) (fun _ => ?_) (fun h => absurd (by decide) h)
      refine lv_iload hx hb dX12_lengths_55 (lv_at hl 1 rfl) ?_
      refine lv_istore (lv' := [(4, .int 8), (2, .int 9), (5, .int 8), (3, .int 0), (0, .ref h0), (1, .int 1)]) hx hb dX12_lengths_57 hl (by decide) rfl (fun ls hl => ?_)
      refine lv_iinc (v := 9) (lv' := [(5, .int 9), (4, .int 8), (2, .int 9), (3, .int 0), (0, .ref h0), (1, .int 1)]) hx hb dX12_lengths_59 hl (k := 2) rfl (by decide) (by decide) rfl (fun ls hl => ?_)
      refine lv_goto (tgt := 26) hx hb dX12_lengths_62 (by decide) ?_
      refine lv_iload hx hb dX12_lengths_26 (lv_at hl 0 rfl) ?_
      refine lv_bipush (v := 31) hx hb dX12_lengths_28 (by decide) ?_
      refine lv_icmp_ge (tgt := 65) hx hb dX12_lengths_30 (by decide) (fun h => absurd h (by decide)) (fun _ => ?_)
      refine lv_aload_n hx hb dX12_lengths_33 rfl (lv_at hl 4 rfl) ?_
      refine lv_iload hx hb dX12_lengths_34 (lv_at hl 0 rfl) ?_
      refine zcall2 (va_runV (As := [.int 9]) (rest := []) ⟨hx, hb, hml, hown, hts⟩ (c_asSeen12 l D ct h0 y 0 0 0 0 0 0 0 0 0 0 0 0 0 0 0 0 0 0 9 (fun _ => 0) (by decide) H.size) (cwV 1 hts gX12_lengths_X12_isAsSeen rfl rfl rfl (by decide +kernel) ⟨Nat.le_of_ble_eq_true rfl, Nat.le_of_ble_eq_true rfl⟩) (zpreV hK hw hS hA zZ.nil hN [1, 2] rfl rfl 11 1 rfl rfl) rfl rfl hl.1 rfl (lv_room (Nat.le_of_ble_eq_true rfl)) dX12_lengths_36 ⟨Nat.le_of_ble_eq_true rfl, Nat.le_of_ble_eq_true rfl⟩) hw hS hA [1, 2] [0] rfl rfl rfl rfl (fun _ H locs hp174 hw hS => ?_)
      have hw : zPD D A [(y 1, .inl (ct 0, 8, .inl (upd (upd (fun _ => 0) 2 1) 3 2))), (h0, .inr (11, [.int 0, .int 0, .ref (y 0), .int 0, .int 0, .int 0, .int 0, .long 0, .int 0, .int 0, .ref (y 1), .ref (y 2), .ref (y 3), .ref (y 4), .ref (y 5), .ref (y 6), .ref (y 7), .ref (y 8), .ref (y 9), .ref (y 10), .ref (y 11), .ref (y 12), .int 0, .int 0, .ref (y 13), .ref (y 14), .ref (y 15), .ref (y 16), .ref (y 17), .ref (y 18), .ref (y 19), .ref (y 20), .ref (y 21), .ref (y 22), .ref (y 23), .ref (y 24), .int 0, .long 0, .ref (y 25), .ref (y 26), .ref (y 27), .ref (y 28), .ref (y 29), .ref (y 30), .ref (y 31), .ref (y 32), .ref (y 33), .ref (y 34), .ref (y 35), .ref (y 36), .ref (y 37), .int 0, .int 0, .ref (y 38), .long 0, .int 0, .int 0])), (y 29, .inl (ct 0, 5, .inl (fun _ => 0)))] H := hw
      refine zfr 39 [.int 1] rfl rfl ?_
      refine lv_if_ne (tgt := 45) hx hb dX12_lengths_39 (by decide) (fun _ => ?_) (fun h => absurd h (by decide))
      refine lv_iinc (v := 10) (lv' := [(2, .int 10), (5, .int 9), (4, .int 8), (3, .int 0), (0, .ref h0), (1, .int 1)]) hx hb dX12_lengths_45 hl (k := 2) rfl (by decide) (by decide) rfl (fun ls hl => ?_)
      refine lv_iload_n hx hb dX12_lengths_48 rfl (lv_at hl 3 rfl) ?_
      refine lv_if_ge (tgt := 55) hx hb dX12_lengths_49 (by decide) (fun _ => ?_) (fun h => absurd (by decide) h)
      refine lv_iload hx hb dX12_lengths_55 (lv_at hl 1 rfl) ?_
      refine lv_istore (lv' := [(4, .int 9), (2, .int 10), (5, .int 9), (3, .int 0), (0, .ref h0), (1, .int 1)]) hx hb dX12_lengths_57 hl (by decide) rfl (fun ls hl => ?_)
      refine lv_iinc (v := 10) (lv' := [(5, .int 10), (4, .int 9), (2, .int 10), (3, .int 0), (0, .ref h0), (1, .int 1)]) hx hb dX12_lengths_59 hl (k := 2) rfl (by decide) (by decide) rfl (fun ls hl => ?_)
      refine lv_goto (tgt := 26) hx hb dX12_lengths_62 (by decide) ?_
      refine lv_iload hx hb dX12_lengths_26 (lv_at hl 0 rfl) ?_
      refine lv_bipush (v := 31) hx hb dX12_lengths_28 (by decide) ?_
      refine lv_icmp_ge (tgt := 65) hx hb dX12_lengths_30 (by decide) (fun h => absurd h (by decide)) (fun _ => ?_)
      refine lv_aload_n hx hb dX12_lengths_33 rfl (lv_at hl 4 rfl) ?_
      refine lv_iload hx hb dX12_lengths_34 (lv_at hl 0 rfl) ?_
      refine zcall2 (va_runV (As := [.int 10]) (rest := []) ⟨hx, hb, hml, hown, hts⟩ (c_asSeen12 l D ct h0 y 0 0 0 0 0 0 0 0 0 0 0 0 0 0 0 0 0 0 10 (fun _ => 0) (by decide) H.size) (cwV 1 hts gX12_lengths_X12_isAsSeen rfl rfl rfl (by decide +kernel) ⟨Nat.le_of_ble_eq_true rfl, Nat.le_of_ble_eq_true rfl⟩) (zpreV hK hw hS hA zZ.nil hN [1, 2] rfl rfl 11 1 rfl rfl) rfl rfl hl.1 rfl (lv_room (Nat.le_of_ble_eq_true rfl)) dX12_lengths_36 ⟨Nat.le_of_ble_eq_true rfl, Nat.le_of_ble_eq_true rfl⟩) hw hS hA [1, 2] [0] rfl rfl rfl rfl (fun _ H locs hp178 hw hS => ?_)
      have hw : zPD D A [(y 1, .inl (ct 0, 8, .inl (upd (upd (fun _ => 0) 2 1) 3 2))), (h0, .inr (11, [.int 0, .int 0, .ref (y 0), .int 0, .int 0, .int 0, .int 0, .long 0, .int 0, .int 0, .ref (y 1), .ref (y 2), .ref (y 3), .ref (y 4), .ref (y 5), .ref (y 6), .ref (y 7), .ref (y 8), .ref (y 9), .ref (y 10), .ref (y 11), .ref (y 12), .int 0, .int 0, .ref (y 13), .ref (y 14), .ref (y 15), .ref (y 16), .ref (y 17), .ref (y 18), .ref (y 19), .ref (y 20), .ref (y 21), .ref (y 22), .ref (y 23), .ref (y 24), .int 0, .long 0, .ref (y 25), .ref (y 26), .ref (y 27), .ref (y 28), .ref (y 29), .ref (y 30), .ref (y 31), .ref (y 32), .ref (y 33), .ref (y 34), .ref (y 35), .ref (y 36), .ref (y 37), .int 0, .int 0, .ref (y 38), .long 0, .int 0, .int 0])), (y 29, .inl (ct 0, 5, .inl (fun _ => 0)))] H := hw
      refine zfr 39 [.int 1] rfl rfl ?_
      refine lv_if_ne (tgt := 45) hx hb dX12_lengths_39 (by decide) (fun _ => ?_) (fun h => absurd h (by decide))
      refine lv_iinc (v := 11) (lv' := [(2, .int 11), (5, .int 10), (4, .int 9), (3, .int 0), (0, .ref h0), (1, .int 1)]) hx hb dX12_lengths_45 hl (k := 2) rfl (by decide) (by decide) rfl (fun ls hl => ?_)
      refine lv_iload_n hx hb dX12_lengths_48 rfl (lv_at hl 3 rfl) ?_
      refine lv_if_ge (tgt := 55) hx hb dX12_lengths_49 (by decide) (fun _ => ?_) (fun h => absurd (by decide) h)
      refine lv_iload hx hb dX12_lengths_55 (lv_at hl 1 rfl) ?_
      refine lv_istore (lv' := [(4, .int 10), (2, .int 11), (5, .int 10), (3, .int 0), (0, .ref h0), (1, .int 1)]) hx hb dX12_lengths_57 hl (by decide) rfl (fun ls hl => ?_)
      refine lv_iinc (v := 11) (lv' := [(5, .int 11), (4, .int 10), (2, .int 11), (3, .int 0), (0, .ref h0), (1, .int 1)]) hx hb dX12_lengths_59 hl (k := 2) rfl (by decide) (by decide) rfl (fun ls hl => ?_)
      refine lv_goto (tgt := 26) hx hb dX12_lengths_62 (by decide) ?_
      refine lv_iload hx hb dX12_lengths_26 (lv_at hl 0 rfl) ?_
      refine lv_bipush (v := 31) hx hb dX12_lengths_28 (by decide) ?_
      refine lv_icmp_ge (tgt := 65) hx hb dX12_lengths_30 (by decide) (fun h => absurd h (by decide)) (fun _ => ?_)
      refine lv_aload_n hx hb dX12_lengths_33 rfl (lv_at hl 4 rfl) ?_
      refine lv_iload hx hb dX12_lengths_34 (lv_at hl 0 rfl) ?_
      refine zcall2 (va_runV (As := [.int 11]) (rest := []) ⟨hx, hb, hml, hown, hts⟩ (c_asSeen12 l D ct h0 y 0 0 0 0 0 0 0 0 0 0 0 0 0 0 0 0 0 0 11 (fun _ => 0) (by decide) H.size) (cwV 1 hts gX12_lengths_X12_isAsSeen rfl rfl rfl (by decide +kernel) ⟨Nat.le_of_ble_eq_true rfl, Nat.le_of_ble_eq_true rfl⟩) (zpreV hK hw hS hA zZ.nil hN [1, 2] rfl rfl 11 1 rfl rfl) rfl rfl hl.1 rfl (lv_room (Nat.le_of_ble_eq_true rfl)) dX12_lengths_36 ⟨Nat.le_of_ble_eq_true rfl, Nat.le_of_ble_eq_true rfl⟩) hw hS hA [1, 2] [0] rfl rfl rfl rfl (fun _ H locs hp182 hw hS => ?_)
      have hw : zPD D A [(y 1, .inl (ct 0, 8, .inl (upd (upd (fun _ => 0) 2 1) 3 2))), (h0, .inr (11, [.int 0, .int 0, .ref (y 0), .int 0, .int 0, .int 0, .int 0, .long 0, .int 0, .int 0, .ref (y 1), .ref (y 2), .ref (y 3), .ref (y 4), .ref (y 5), .ref (y 6), .ref (y 7), .ref (y 8), .ref (y 9), .ref (y 10), .ref (y 11), .ref (y 12), .int 0, .int 0, .ref (y 13), .ref (y 14), .ref (y 15), .ref (y 16), .ref (y 17), .ref (y 18), .ref (y 19), .ref (y 20), .ref (y 21), .ref (y 22), .ref (y 23), .ref (y 24), .int 0, .long 0, .ref (y 25), .ref (y 26), .ref (y 27), .ref (y 28), .ref (y 29), .ref (y 30), .ref (y 31), .ref (y 32), .ref (y 33), .ref (y 34), .ref (y 35), .ref (y 36), .ref (y 37), .int 0, .int 0, .ref (y 38), .long 0, .int 0, .int 0])), (y 29, .inl (ct 0, 5, .inl (fun _ => 0)))] H := hw
      refine zfr 39 [.int 1] rfl rfl ?_
      refine lv_if_ne (tgt := 45) hx hb dX12_lengths_39 (by decide) (fun _ => ?_) (fun h => absurd h (by decide))
      refine lv_iinc (v := 12) (lv' := [(2, .int 12), (5, .int 11), (4, .int 10), (3, .int 0), (0, .ref h0), (1, .int 1)]) hx hb dX12_lengths_45 hl (k := 2) rfl (by decide) (by decide) rfl (fun ls hl => ?_)
      refine lv_iload_n hx hb dX12_lengths_48 rfl (lv_at hl 3 rfl) ?_
      refine lv_if_ge (tgt := 55) hx hb dX12_lengths_49 (by decide) (fun _ => ?_) (fun h => absurd (by decide) h)
      refine lv_iload hx hb dX12_lengths_55 (lv_at hl 1 rfl) ?_
      refine lv_istore (lv' := [(4, .int 11), (2, .int 12), (5, .int 11), (3, .int 0), (0, .ref h0), (1, .int 1)]) hx hb dX12_lengths_57 hl (by decide) rfl (fun ls hl => ?_)
      refine lv_iinc (v := 12) (lv' := [(5, .int 12), (4, .int 11), (2, .int 12), (3, .int 0), (0, .ref h0), (1, .int 1)]) hx hb dX12_lengths_59 hl (k := 2) rfl (by decide) (by decide) rfl (fun ls hl => ?_)
      refine lv_goto (tgt := 26) hx hb dX12_lengths_62 (by decide) ?_
      refine lv_iload hx hb dX12_lengths_26 (lv_at hl 0 rfl) ?_
      refine lv_bipush (v := 31) hx hb dX12_lengths_28 (by decide) ?_
      refine lv_icmp_ge (tgt := 65) hx hb dX12_lengths_30 (by decide) (fun h => absurd h (by decide)) (fun _ => ?_)
      refine lv_aload_n hx hb dX12_lengths_33 rfl (lv_at hl 4 rfl) ?_
      refine lv_iload hx hb dX12_lengths_34 (lv_at hl 0 rfl) ?_
      refine zcall2 (va_runV (As := [.int 12]) (rest := []) ⟨hx, hb, hml, hown, hts⟩ (c_asSeen12 l D ct h0 y 0 0 0 0 0 0 0 0 0 0 0 0 0 0 0 0 0 0 12 (fun _ => 0) (by decide) H.size) (cwV 1 hts gX12_lengths_X12_isAsSeen rfl rfl rfl (by decide +kernel) ⟨Nat.le_of_ble_eq_true rfl, Nat.le_of_ble_eq_true rfl⟩) (zpreV hK hw hS hA zZ.nil hN [1, 2] rfl rfl 11 1 rfl rfl) rfl rfl hl.1 rfl (lv_room (Nat.le_of_ble_eq_true rfl)) dX12_lengths_36 ⟨Nat.le_of_ble_eq_true rfl, Nat.le_of_ble_eq_true rfl⟩) hw hS hA [1, 2] [0] rfl rfl rfl rfl (fun _ H locs hp186 hw hS => ?_)
      have hw : zPD D A [(y 1, .inl (ct 0, 8, .inl (upd (upd (fun _ => 0) 2 1) 3 2))), (h0, .inr (11, [.int 0, .int 0, .ref (y 0), .int 0, .int 0, .int 0, .int 0, .long 0, .int 0, .int 0, .ref (y 1), .ref (y 2), .ref (y 3), .ref (y 4), .ref (y 5), .ref (y 6), .ref (y 7), .ref (y 8), .ref (y 9), .ref (y 10), .ref (y 11), .ref (y 12), .int 0, .int 0, .ref (y 13), .ref (y 14), .ref (y 15), .ref (y 16), .ref (y 17), .ref (y 18), .ref (y 19), .ref (y 20), .ref (y 21), .ref (y 22), .ref (y 23), .ref (y 24), .int 0, .long 0, .ref (y 25), .ref (y 26), .ref (y 27), .ref (y 28), .ref (y 29), .ref (y 30), .ref (y 31), .ref (y 32), .ref (y 33), .ref (y 34), .ref (y 35), .ref (y 36), .ref (y 37), .int 0, .int 0, .ref (y 38), .long 0, .int 0, .int 0])), (y 29, .inl (ct 0, 5, .inl (fun _ => 0)))] H := hw
      refine zfr 39 [.int 1] rfl rfl ?_
      refine lv_if_ne (tgt := 45) hx hb dX12_lengths_39 (by decide) (fun _ => ?_) (fun h => absurd h (by decide))
      refine lv_iinc (v := 13) (lv' := [(2, .int 13), (5, .int 12), (4, .int 11), (3, .int 0), (0, .ref h0), (1, .int 1)]) hx hb dX12_lengths_45 hl (k := 2) rfl (by decide) (by decide) rfl (fun ls hl => ?_)
      refine lv_iload_n hx hb dX12_lengths_48 rfl (lv_at hl 3 rfl) ?_
      refine lv_if_ge (tgt := 55) hx hb dX12_lengths_49 (by decide) (fun _ => ?_) (fun h => absurd (by decide) h)
      refine lv_iload hx hb dX12_lengths_55 (lv_at hl 1 rfl) ?_
      refine lv_istore (lv' := [(4, .int 12), (2, .int 13), (5, .int 12), (3, .int 0), (0, .ref h0), (1, .int 1)]) hx hb dX12_lengths_57 hl (by decide) rfl (fun ls hl => ?_)
      refine lv_iinc (v := 13) (lv' := [(5, .int 13), (4, .int 12), (2, .int 13), (3, .int 0), (0, .ref h0), (1, .int 1)]) hx hb dX12_lengths_59 hl (k := 2) rfl (by decide) (by decide) rfl (fun ls hl => ?_)
      refine lv_goto (tgt := 26) hx hb dX12_lengths_62 (by decide) ?_
      refine lv_iload hx hb dX12_lengths_26 (lv_at hl 0 rfl) ?_
      refine lv_bipush (v := 31) hx hb dX12_lengths_28 (by decide) ?_
      refine lv_icmp_ge (tgt := 65) hx hb dX12_lengths_30 (by decide) (fun h => absurd h (by decide)) (fun _ => ?_)
      refine lv_aload_n hx hb dX12_lengths_33 rfl (lv_at hl 4 rfl) ?_
      refine lv_iload hx hb dX12_lengths_34 (lv_at hl 0 rfl) ?_
      refine zcall2 (va_runV (As := [.int 13]) (rest := []) ⟨hx, hb, hml, hown, hts⟩ (c_asSeen12 l D ct h0 y 0 0 0 0 0 0 0 0 0 0 0 0 0 0 0 0 0 0 13 (fun _ => 0) (by decide) H.size) (cwV 1 hts gX12_lengths_X12_isAsSeen rfl rfl rfl (by decide +kernel) ⟨Nat.le_of_ble_eq_true rfl, Nat.le_of_ble_eq_true rfl⟩) (zpreV hK hw hS hA zZ.nil hN [1, 2] rfl rfl 11 1 rfl rfl) rfl rfl hl.1 rfl (lv_room (Nat.le_of_ble_eq_true rfl)) dX12_lengths_36 ⟨Nat.le_of_ble_eq_true rfl, Nat.le_of_ble_eq_true rfl⟩) hw hS hA [1, 2] [0] rfl rfl rfl rfl (fun _ H locs hp190 hw hS => ?_)
      have hw : zPD D A [(y 1, .inl (ct 0, 8, .inl (upd (upd (fun _ => 0) 2 1) 3 2))), (h0, .inr (11, [.int 0, .int 0, .ref (y 0), .int 0, .int 0, .int 0, .int 0, .long 0, .int 0, .int 0, .ref (y 1), .ref (y 2), .ref (y 3), .ref (y 4), .ref (y 5), .ref (y 6), .ref (y 7), .ref (y 8), .ref (y 9), .ref (y 10), .ref (y 11), .ref (y 12), .int 0, .int 0, .ref (y 13), .ref (y 14), .ref (y 15), .ref (y 16), .ref (y 17), .ref (y 18), .ref (y 19), .ref (y 20), .ref (y 21), .ref (y 22), .ref (y 23), .ref (y 24), .int 0, .long 0, .ref (y 25), .ref (y 26), .ref (y 27), .ref (y 28), .ref (y 29), .ref (y 30), .ref (y 31), .ref (y 32), .ref (y 33), .ref (y 34), .ref (y 35), .ref (y 36), .ref (y 37), .int 0, .int 0, .ref (y 38), .long 0, .int 0, .int 0])), (y 29, .inl (ct 0, 5, .inl (fun _ => 0)))] H := hw
      refine zfr 39 [.int 1] rfl rfl ?_
      refine lv_if_ne (tgt := 45) hx hb dX12_lengths_39 (by decide) (fun _ => ?_) (fun h => absurd h (by decide))
      refine lv_iinc (v := 14) (lv' := [(2, .int 14), (5, .int 13), (4, .int 12), (3, .int 0), (0, .ref h0), (1, .int 1)]) hx hb dX12_lengths_45 hl (k := 2) rfl (by decide) (by decide) rfl (fun ls hl => ?_)
      refine lv_iload_n hx hb dX12_lengths_48 rfl (lv_at hl 3 rfl) ?_
      refine lv_if_ge (tgt := 55) hx hb dX12_lengths_49 (by decide) (fun _ => ?_) (fun h => absurd (by decide) h)
      refine lv_iload hx hb dX12_lengths_55 (lv_at hl 1 rfl) ?_
      refine lv_istore (lv' := [(4, .int 13), (2, .int 14), (5, .int 13), (3, .int 0), (0, .ref h0), (1, .int 1)]) hx hb dX12_lengths_57 hl (by decide) rfl (fun ls hl => ?_)
      refine lv_iinc (v := 14) (lv' := [(5, .int 14), (4, .int 13), (2, .int 14), (3, .int 0), (0, .ref h0), (1, .int 1)]) hx hb dX12_lengths_59 hl (k := 2) rfl (by decide) (by decide) rfl (fun ls hl => ?_)
      refine lv_goto (tgt := 26) hx hb dX12_lengths_62 (by decide) ?_
      refine lv_iload hx hb dX12_lengths_26 (lv_at hl 0 rfl) ?_
      refine lv_bipush (v := 31) hx hb dX12_lengths_28 (by decide) ?_
      refine lv_icmp_ge (tgt := 65) hx hb dX12_lengths_30 (by decide) (fun h => absurd h (by decide)) (fun _ => ?_)
      refine lv_aload_n hx hb dX12_lengths_33 rfl (lv_at hl 4 rfl) ?_
      refine lv_iload hx hb dX12_lengths_34 (lv_at hl 0 rfl) ?_
      refine zcall2 (va_runV (As := [.int 14]) (rest := []) ⟨hx, hb, hml, hown, hts⟩ (c_asSeen12 l D ct h0 y 0 0 0 0 0 0 0 0 0 0 0 0 0 0 0 0 0 0 14 (fun _ => 0) (by decide) H.size) (cwV 1 hts gX12_lengths_X12_isAsSeen rfl rfl rfl (by decide +kernel) ⟨Nat.le_of_ble_eq_true rfl, Nat.le_of_ble_eq_true rfl⟩) (zpreV hK hw hS hA zZ.nil hN [1, 2] rfl rfl 11 1 rfl rfl) rfl rfl hl.1 rfl (lv_room (Nat.le_of_ble_eq_true rfl)) dX12_lengths_36 ⟨Nat.le_of_ble_eq_true rfl, Nat.le_of_ble_eq_true rfl⟩) hw hS hA [1, 2] [0] rfl rfl rfl rfl (fun _ H locs hp194 hw hS => ?_)
      have hw : zPD D A [(y 1, .inl (ct 0, 8, .inl (upd (upd (fun _ => 0) 2 1) 3 2))), (h0, .inr (11, [.int 0, .int 0, .ref (y 0), .int 0, .int 0, .int 0, .int 0, .long 0, .int 0, .int 0, .ref (y 1), .ref (y 2), .ref (y 3), .ref (y 4), .ref (y 5), .ref (y 6), .ref (y 7), .ref (y 8), .ref (y 9), .ref (y 10), .ref (y 11), .ref (y 12), .int 0, .int 0, .ref (y 13), .ref (y 14), .ref (y 15), .ref (y 16), .ref (y 17), .ref (y 18), .ref (y 19), .ref (y 20), .ref (y 21), .ref (y 22), .ref (y 23), .ref (y 24), .int 0, .long 0, .ref (y 25), .ref (y 26), .ref (y 27), .ref (y 28), .ref (y 29), .ref (y 30), .ref (y 31), .ref (y 32), .ref (y 33), .ref (y 34), .ref (y 35), .ref (y 36), .ref (y 37), .int 0, .int 0, .ref (y 38), .long 0, .int 0, .int 0])), (y 29, .inl (ct 0, 5, .inl (fun _ => 0)))] H := hw
      refine zfr 39 [.int 1] rfl rfl ?_
      refine lv_if_ne (tgt := 45) hx hb dX12_lengths_39 (by decide) (fun _ => ?_) (fun h => absurd h (by decide))
      refine lv_iinc (v := 15) (lv' := [(2, .int 15), (5, .int 14), (4, .int 13), (3, .int 0), (0, .ref h0), (1, .int 1)]) hx hb dX12_lengths_45 hl (k := 2) rfl (by decide) (by decide) rfl (fun ls hl => ?_)
      refine lv_iload_n hx hb dX12_lengths_48 rfl (lv_at hl 3 rfl) ?_
      refine lv_if_ge (tgt := 55) hx hb dX12_lengths_49 (by decide) (fun _ => ?_) (fun h => absurd (by decide) h)
      refine lv_iload hx hb dX12_lengths_55 (lv_at hl 1 rfl) ?_
      refine lv_istore (lv' := [(4, .int 14), (2, .int 15), (5, .int 14), (3, .int 0), (0, .ref h0), (1, .int 1)]) hx hb dX12_lengths_57 hl (by decide) rfl (fun ls hl => ?_)
      refine lv_iinc (v := 15) (lv' := [(5, .int 15), (4, .int 14), (2, .int 15), (3, .int 0), (0, .ref h0), (1, .int 1)]) hx hb dX12_lengths_59 hl (k := 2) rfl (by decide) (by decide) rfl (fun ls hl => ?_)
      refine lv_goto (tgt := 26) hx hb dX12_lengths_62 (by decide) ?_
      refine lv_iload hx hb dX12_lengths_26 (lv_at hl 0 rfl) ?_
      refine lv_bipush (v := 31) hx hb dX12_lengths_28 (by decide) ?_
      refine lv_icmp_ge (tgt := 65) hx hb dX12_lengths_30 (by decide) (fun h => absurd h (by decide)) (fun _ => ?_)
      refine lv_aload_n hx hb dX12_lengths_33 rfl (lv_at hl 4 rfl) ?_
      refine lv_iload hx hb dX12_lengths_34 (lv_at hl 0 rfl) ?_
      refine zcall2 (va_runV (As := [.int 15]) (rest := []) ⟨hx, hb, hml, hown, hts⟩ (c_asSeen12 l D ct h0 y 0 0 0 0 0 0 0 0 0 0 0 0 0 0 0 0 0 0 15 (fun _ => 0) (by decide) H.size) (cwV 1 hts gX12_lengths_X12_isAsSeen rfl rfl rfl (by decide +kernel) ⟨Nat.le_of_ble_eq_true rfl, Nat.le_of_ble_eq_true rfl⟩) (zpreV hK hw hS hA zZ.nil hN [1, 2] rfl rfl 11 1 rfl rfl) rfl rfl hl.1 rfl (lv_room (Nat.le_of_ble_eq_true rfl)) dX12_lengths_36 ⟨Nat.le_of_ble_eq_true rfl, Nat.le_of_ble_eq_true rfl⟩) hw hS hA [1, 2] [0] rfl rfl rfl rfl (fun _ H locs hp198 hw hS => ?_)
      have hw : zPD D A [(y 1, .inl (ct 0, 8, .inl (upd (upd (fun _ => 0) 2 1) 3 2))), (h0, .inr (11, [.int 0, .int 0, .ref (y 0), .int 0, .int 0, .int 0, .int 0, .long 0, .int 0, .int 0, .ref (y 1), .ref (y 2), .ref (y 3), .ref (y 4), .ref (y 5), .ref (y 6), .ref (y 7), .ref (y 8), .ref (y 9), .ref (y 10), .ref (y 11), .ref (y 12), .int 0, .int 0, .ref (y 13), .ref (y 14), .ref (y 15), .ref (y 16), .ref (y 17), .ref (y 18), .ref (y 19), .ref (y 20), .ref (y 21), .ref (y 22), .ref (y 23), .ref (y 24), .int 0, .long 0, .ref (y 25), .ref (y 26), .ref (y 27), .ref (y 28), .ref (y 29), .ref (y 30), .ref (y 31), .ref (y 32), .ref (y 33), .ref (y 34), .ref (y 35), .ref (y 36), .ref (y 37), .int 0, .int 0, .ref (y 38), .long 0, .int 0, .int 0])), (y 29, .inl (ct 0, 5, .inl (fun _ => 0)))] H := hw
      refine zfr 39 [.int 1] rfl rfl ?_
      refine lv_if_ne (tgt := 45) hx hb dX12_lengths_39 (by decide) (fun _ => ?_) (fun h => absurd h (by decide))
      refine lv_iinc (v := 16) (lv' := [(2, .int 16), (5, .int 15), (4, .int 14), (3, .int 0), (0, .ref h0), (1, .int 1)]) hx hb dX12_lengths_45 hl (k := 2) rfl (by decide) (by decide) rfl (fun ls hl => ?_)
      refine lv_iload_n hx hb dX12_lengths_48 rfl (lv_at hl 3 rfl) ?_
      refine lv_if_ge (tgt := 55) hx hb dX12_lengths_49 (by decide) (fun _ => ?_) (fun h => absurd (by decide) h)
      refine lv_iload hx hb dX12_lengths_55 (lv_at hl 1 rfl) ?_
      refine lv_istore (lv' := [(4, .int 15), (2, .int 16), (5, .int 15), (3, .int 0), (0, .ref h0), (1, .int 1)]) hx hb dX12_lengths_57 hl (by decide) rfl (fun ls hl => ?_)
      refine lv_iinc (v := 16) (lv' := [(5, .int 16), (4, .int 15), (2, .int 16), (3, .int 0), (0, .ref h0), (1, .int 1)]) hx hb dX12_lengths_59 hl (k := 2) rfl (by decide) (by decide) rfl (fun ls hl => ?_)
      refine lv_goto (tgt := 26) hx hb dX12_lengths_62 (by decide) ?_
      refine lv_iload hx hb dX12_lengths_26 (lv_at hl 0 rfl) ?_
      refine lv_bipush (v := 31) hx hb dX12_lengths_28 (by decide) ?_
      refine lv_icmp_ge (tgt := 65) hx hb dX12_lengths_30 (by decide) (fun h => absurd h (by decide)) (fun _ => ?_)
      refine lv_aload_n hx hb dX12_lengths_33 rfl (lv_at hl 4 rfl) ?_
      refine lv_iload hx hb dX12_lengths_34 (lv_at hl 0 rfl) ?_
      refine zcall2 (va_runV (As := [.int 16]) (rest := []) ⟨hx, hb, hml, hown, hts⟩ (c_asSeen12 l D ct h0 y 0 0 0 0 0 0 0 0 0 0 0 0 0 0 0 0 0 0 16 (fun _ => 0) (by decide) H.size) (cwV 1 hts gX12_lengths_X12_isAsSeen rfl rfl rfl (by decide +kernel) ⟨Nat.le_of_ble_eq_true rfl, Nat.le_of_ble_eq_true rfl⟩) (zpreV hK hw hS hA zZ.nil hN [1, 2] rfl rfl 11 1 rfl rfl) rfl rfl hl.1 rfl (lv_room (Nat.le_of_ble_eq_true rfl)) dX12_lengths_36 ⟨Nat.le_of_ble_eq_true rfl, Nat.le_of_ble_eq_true rfl⟩) hw hS hA [1, 2] [0] rfl rfl rfl rfl (fun _ H locs hp202 hw hS => ?_)
      have hw : zPD D A [(y 1, .inl (ct 0, 8, .inl (upd (upd (fun _ => 0) 2 1) 3 2))), (h0, .inr (11, [.int 0, .int 0, .ref (y 0), .int 0, .int 0, .int 0, .int 0, .long 0, .int 0, .int 0, .ref (y 1), .ref (y 2), .ref (y 3), .ref (y 4), .ref (y 5), .ref (y 6), .ref (y 7), .ref (y 8), .ref (y 9), .ref (y 10), .ref (y 11), .ref (y 12), .int 0, .int 0, .ref (y 13), .ref (y 14), .ref (y 15), .ref (y 16), .ref (y 17), .ref (y 18), .ref (y 19), .ref (y 20), .ref (y 21), .ref (y 22), .ref (y 23), .ref (y 24), .int 0, .long 0, .ref (y 25), .ref (y 26), .ref (y 27), .ref (y 28), .ref (y 29), .ref (y 30), .ref (y 31), .ref (y 32), .ref (y 33), .ref (y 34), .ref (y 35), .ref (y 36), .ref (y 37), .int 0, .int 0, .ref (y 38), .long 0, .int 0, .int 0])), (y 29, .inl (ct 0, 5, .inl (fun _ => 0)))] H := hw
      refine zfr 39 [.int 1] rfl rfl ?_
      refine lv_if_ne (tgt := 45) hx hb dX12_lengths_39 (by decide) (fun _ => ?_) (fun h => absurd h (by decide))
      refine lv_iinc (v := 17) (lv' := [(2, .int 17), (5, .int 16), (4, .int 15), (3, .int 0), (0, .ref h0), (1, .int 1)]) hx hb dX12_lengths_45 hl (k := 2) rfl (by decide) (by decide) rfl (fun ls hl => ?_)
      refine lv_iload_n hx hb dX12_lengths_48 rfl (lv_at hl 3 rfl) ?_
      refine lv_if_ge (tgt := 55) hx hb dX12_lengths_49 (by decide) (fun _ => ?_) (fun h => absurd (by decide) h)
      refine lv_iload hx hb dX12_lengths_55 (lv_at hl 1 rfl) ?_
      refine lv_istore (lv' := [(4, .int 16), (2, .int 17), (5, .int 16), (3, .int 0), (0, .ref h0), (1, .int 1)]) hx hb dX12_lengths_57 hl (by decide) rfl (fun ls hl => ?_)
      refine lv_iinc (v := 17) (lv' := [(5, .int 17), (4, .int 16), (2, .int 17), (3, .int 0), (0, .ref h0), (1, .int 1)]) hx hb dX12_lengths_59 hl (k := 2) rfl (by decide) (by decide) rfl (fun ls hl => ?_)
      refine lv_goto (tgt := 26) hx hb dX12_lengths_62 (by decide) ?_
      refine lv_iload hx hb dX12_lengths_26 (lv_at hl 0 rfl) ?_
      refine lv_bipush (v := 31) hx hb dX12_lengths_28 (by decide) ?_
      refine lv_icmp_ge (tgt := 65) hx hb dX12_lengths_30 (by decide) (fun h => absurd h (by decide)) (fun _ => ?_)
      refine lv_aload_n hx hb dX12_lengths_33 rfl (lv_at hl 4 rfl) ?_
      refine lv_iload hx hb dX12_lengths_34 (lv_at hl 0 rfl) ?_
      refine zcall2 (va_runV (As := [.int 17]) (rest := []) ⟨hx, hb, hml, hown, hts⟩ (c_asSeen12 l D ct h0 y 0 0 0 0 0 0 0 0 0 0 0 0 0 0 0 0 0 0 17 (fun _ => 0) (by decide) H.size) (cwV 1 hts gX12_lengths_X12_isAsSeen rfl rfl rfl (by decide +kernel) ⟨Nat.le_of_ble_eq_true rfl, Nat.le_of_ble_eq_true rfl⟩) (zpreV hK hw hS hA zZ.nil hN [1, 2] rfl rfl 11 1 rfl rfl) rfl rfl hl.1 rfl (lv_room (Nat.le_of_ble_eq_true rfl)) dX12_lengths_36 ⟨Nat.le_of_ble_eq_true rfl, Nat.le_of_ble_eq_true rfl⟩) hw hS hA [1, 2] [0] rfl rfl rfl rfl (fun _ H locs hp206 hw hS => ?_)
      have hw : zPD D A [(y 1, .inl (ct 0, 8, .inl (upd (upd (fun _ => 0) 2 1) 3 2))), (h0, .inr (11, [.int 0, .int 0, .ref (y 0), .int 0, .int 0, .int 0, .int 0, .long 0, .int 0, .int 0, .ref (y 1), .ref (y 2), .ref (y 3), .ref (y 4), .ref (y 5), .ref (y 6), .ref (y 7), .ref (y 8), .ref (y 9), .ref (y 10), .ref (y 11), .ref (y 12), .int 0, .int 0, .ref (y 13), .ref (y 14), .ref (y 15), .ref (y 16), .ref (y 17), .ref (y 18), .ref (y 19), .ref (y 20), .ref (y 21), .ref (y 22), .ref (y 23), .ref (y 24), .int 0, .long 0, .ref (y 25), .ref (y 26), .ref (y 27), .ref (y 28), .ref (y 29), .ref (y 30), .ref (y 31), .ref (y 32), .ref (y 33), .ref (y 34), .ref (y 35), .ref (y 36), .ref (y 37), .int 0, .int 0, .ref (y 38), .long 0, .int 0, .int 0])), (y 29, .inl (ct 0, 5, .inl (fun _ => 0)))] H := hw
      refine zfr 39 [.int 1] rfl rfl ?_
      refine lv_if_ne (tgt := 45) hx hb dX12_lengths_39 (by decide) (fun _ => ?_) (fun h => absurd h (by decide))
      refine lv_iinc (v := 18) (lv' := [(2, .int 18), (5, .int 17), (4, .int 16), (3, .int 0), (0, .ref h0), (1, .int 1)]) hx hb dX12_lengths_45 hl (k := 2) rfl (by decide) (by decide) rfl (fun ls hl => ?_)
      refine lv_iload_n hx hb dX12_lengths_48 rfl (lv_at hl 3 rfl) ?_
      refine lv_if_ge (tgt := 55) hx hb dX12_lengths_49 (by decide) (fun _ => ?_) (fun h => absurd (by decide) h)
      refine lv_iload hx hb dX12_lengths_55 (lv_at hl 1 rfl) ?_
      refine lv_istore (lv' := [(4, .int 17), (2, .int 18), (5, .int 17), (3, .int 0), (0, .ref h0), (1, .int 1)]) hx hb dX12_lengths_57 hl (by decide) rfl (fun ls hl => ?_)
      refine lv_iinc (v := 18) (lv' := [(5, .int 18), (4, .int 17), (2, .int 18), (3, .int 0), (0, .ref h0), (1, .int 1)]) hx hb dX12_lengths_59 hl (k := 2) rfl (by decide) (by decide) rfl (fun ls hl => ?_)
      refine lv_goto (tgt := 26) hx hb dX12_lengths_62 (by decide) ?_
      refine lv_iload hx hb dX12_lengths_26 (lv_at hl 0 rfl) ?_
      refine lv_bipush (v := 31) hx hb dX12_lengths_28 (by decide) ?_
      refine lv_icmp_ge (tgt := 65) hx hb dX12_lengths_30 (by decide) (fun h => absurd h (by decide)) (fun _ => ?_)
      refine lv_aload_n hx hb dX12_lengths_33 rfl (lv_at hl 4 rfl) ?_
      refine lv_iload hx hb dX12_lengths_34 (lv_at hl 0 rfl) ?_
      refine zcall2 (va_runV (As := [.int 18]) (rest := []) ⟨hx, hb, hml, hown, hts⟩ (c_asSeen12 l D ct h0 y 0 0 0 0 0 0 0 0 0 0 0 0 0 0 0 0 0 0 18 (fun _ => 0) (by decide) H.size) (cwV 1 hts gX12_lengths_X12_isAsSeen rfl rfl rfl (by decide +kernel) ⟨Nat.le_of_ble_eq_true rfl, Nat.le_of_ble_eq_true rfl⟩) (zpreV hK hw hS hA zZ.nil hN [1, 2] rfl rfl 11 1 rfl rfl) rfl rfl hl.1 rfl (lv_room (Nat.le_of_ble_eq_true rfl)) dX12_lengths_36 ⟨Nat.le_of_ble_eq_true rfl, Nat.le_of_ble_eq_true rfl⟩) hw hS hA [1, 2] [0] rfl rfl rfl rfl (fun _ H locs hp210 hw hS => ?_)
      have hw : zPD D A [(y 1, .inl (ct 0, 8, .inl (upd (upd (fun _ => 0) 2 1) 3 2))), (h0, .inr (11, [.int 0, .int 0, .ref (y 0), .int 0, .int 0, .int 0, .int 0, .long 0, .int 0, .int 0, .ref (y 1), .ref (y 2), .ref (y 3), .ref (y 4), .ref (y 5), .ref (y 6), .ref (y 7), .ref (y 8), .ref (y 9), .ref (y 10), .ref (y 11), .ref (y 12), .int 0, .int 0, .ref (y 13), .ref (y 14), .ref (y 15), .ref (y 16), .ref (y 17), .ref (y 18), .ref (y 19), .ref (y 20), .ref (y 21), .ref (y 22), .ref (y 23), .ref (y 24), .int 0, .long 0, .ref (y 25), .ref (y 26), .ref (y 27), .ref (y 28), .ref (y 29), .ref (y 30), .ref (y 31), .ref (y 32), .ref (y 33), .ref (y 34), .ref (y 35), .ref (y 36), .ref (y 37), .int 0, .int 0, .ref (y 38), .long 0, .int 0, .int 0])), (y 29, .inl (ct 0, 5, .inl (fun _ => 0)))] H := hw
      refine zfr 39 [.int 1] rfl rfl ?_
      refine lv_if_ne (tgt := 45) hx hb dX12_lengths_39 (by decide) (fun _ => ?_) (fun h => absurd h (by decide))
      refine lv_iinc (v := 19) (lv' := [(2, .int 19), (5, .int 18), (4, .int 17), (3, .int 0), (0, .ref h0), (1, .int 1)]) hx hb dX12_lengths_45 hl (k := 2) rfl (by decide) (by decide) rfl (fun ls hl => ?_)
      refine lv_iload_n hx hb dX12_lengths_48 rfl (lv_at hl 3 rfl) ?_
      refine lv_if_ge (tgt := 55) hx hb dX12_lengths_49 (by decide) (fun _ => ?_) (fun h => absurd (by decide) h)
      refine lv_iload hx hb dX12_lengths_55 (lv_at hl 1 rfl) ?_
      refine lv_istore (lv' := [(4, .int 18), (2, .int 19), (5, .int 18), (3, .int 0), (0, .ref h0), (1, .int 1)]) hx hb dX12_lengths_57 hl (by decide) rfl (fun ls hl => ?_)
      refine lv_iinc (v := 19) (lv' := [(5, .int 19), (4, .int 18), (2, .int 19), (3, .int 0), (0, .ref h0), (1, .int 1)]) hx hb dX12_lengths_59 hl (k := 2) rfl (by decide) (by decide) rfl (fun ls hl => ?_)
      refine lv_goto (tgt := 26) hx hb dX12_lengths_62 (by decide) ?_
      refine lv_iload hx hb dX12_lengths_26 (lv_at hl 0 rfl) ?_
      refine lv_bipush (v := 31) hx hb dX12_lengths_28 (by decide) ?_
      refine lv_icmp_ge (tgt := 65) hx hb dX12_lengths_30 (by decide) (fun h => absurd h (by decide)) (fun _ => ?_)
      refine lv_aload_n hx hb dX12_lengths_33 rfl (lv_at hl 4 rfl) ?_
      refine lv_iload hx hb dX12_lengths_34 (lv_at hl 0 rfl) ?_
      refine zcall2 (va_runV (As := [.int 19]) (rest := []) ⟨hx, hb, hml, hown, hts⟩ (c_asSeen12 l D ct h0 y 0 0 0 0 0 0 0 0 0 0 0 0 0 0 0 0 0 0 19 (fun _ => 0) (by decide) H.size) (cwV 1 hts gX12_lengths_X12_isAsSeen rfl rfl rfl (by decide +kernel) ⟨Nat.le_of_ble_eq_true rfl, Nat.le_of_ble_eq_true rfl⟩) (zpreV hK hw hS hA zZ.nil hN [1, 2] rfl rfl 11 1 rfl rfl) rfl rfl hl.1 rfl (lv_room (Nat.le_of_ble_eq_true rfl)) dX12_lengths_36 ⟨Nat.le_of_ble_eq_true rfl, Nat.le_of_ble_eq_true rfl⟩) hw hS hA [1, 2] [0] rfl rfl rfl rfl (fun _ H locs hp214 hw hS => ?_)
      have hw : zPD D A [(y 1, .inl (ct 0, 8, .inl (upd (upd (fun _ => 0) 2 1) 3 2))), (h0, .inr (11, [.int 0, .int 0, .ref (y 0), .int 0, .int 0, .int 0, .int 0, .long 0, .int 0, .int 0, .ref (y 1), .ref (y 2), .ref (y 3), .ref (y 4), .ref (y 5), .ref (y 6), .ref (y 7), .ref (y 8), .ref (y 9), .ref (y 10), .ref (y 11), .ref (y 12), .int 0, .int 0, .ref (y 13), .ref (y 14), .ref (y 15), .ref (y 16), .ref (y 17), .ref (y 18), .ref (y 19), .ref (y 20), .ref (y 21), .ref (y 22), .ref (y 23), .ref (y 24), .int 0, .long 0, .ref (y 25), .ref (y 26), .ref (y 27), .ref (y 28), .ref (y 29), .ref (y 30), .ref (y 31), .ref (y 32), .ref (y 33), .ref (y 34), .ref (y 35), .ref (y 36), .ref (y 37), .int 0, .int 0, .ref (y 38), .long 0, .int 0, .int 0])), (y 29, .inl (ct 0, 5, .inl (fun _ => 0)))] H := hw
      refine zfr 39 [.int 1] rfl rfl ?_
      refine lv_if_ne (tgt := 45) hx hb dX12_lengths_39 (by decide) (fun _ => ?_) (fun h => absurd h (by decide))
      refine lv_iinc (v := 20) (lv' := [(2, .int 20), (5, .int 19), (4, .int 18), (3, .int 0), (0, .ref h0), (1, .int 1)]) hx hb dX12_lengths_45 hl (k := 2) rfl (by decide) (by decide) rfl (fun ls hl => ?_)
      refine lv_iload_n hx hb dX12_lengths_48 rfl (lv_at hl 3 rfl) ?_
      refine lv_if_ge (tgt := 55) hx hb dX12_lengths_49 (by decide) (fun _ => ?_) (fun h => absurd (by decide) h)
      refine lv_iload hx hb dX12_lengths_55 (lv_at hl 1 rfl) ?_
      refine lv_istore (lv' := [(4, .int 19), (2, .int 20), (5, .int 19), (3, .int 0), (0, .ref h0), (1, .int 1)]) hx hb dX12_lengths_57 hl (by decide) rfl (fun ls hl => ?_)
      refine lv_iinc (v := 20) (lv' := [(5, .int 20), (4, .int 19), (2, .int 20), (3, .int 0), (0, .ref h0), (1, .int 1)]) hx hb dX12_lengths_59 hl (k := 2) rfl (by decide) (by decide) rfl (fun ls hl => ?_)
      refine lv_goto (tgt := 26) hx hb dX12_lengths_62 (by decide) ?_
      refine lv_iload hx hb dX12_lengths_26 (lv_at hl 0 rfl) ?_
      refine lv_bipush (v := 31) hx hb dX12_lengths_28 (by decide) ?_
      refine lv_icmp_ge (tgt := 65) hx hb dX12_lengths_30 (by decide) (fun h => absurd h (by decide)) (fun _ => ?_)
      refine lv_aload_n hx hb dX12_lengths_33 rfl (lv_at hl 4 rfl) ?_
      refine lv_iload hx hb dX12_lengths_34 (lv_at hl 0 rfl) ?_
      refine zcall2 (va_runV (As := [.int 20]) (rest := []) ⟨hx, hb, hml, hown, hts⟩ (c_asSeen12 l D ct h0 y 0 0 0 0 0 0 0 0 0 0 0 0 0 0 0 0 0 0 20 (fun _ => 0) (by decide) H.size) (cwV 1 hts gX12_lengths_X12_isAsSeen rfl rfl rfl (by decide +kernel) ⟨Nat.le_of_ble_eq_true rfl, Nat.le_of_ble_eq_true rfl⟩) (zpreV hK hw hS hA zZ.nil hN [1, 2] rfl rfl 11 1 rfl rfl) rfl rfl hl.1 rfl (lv_room (Nat.le_of_ble_eq_true rfl)) dX12_lengths_36 ⟨Nat.le_of_ble_eq_true rfl, Nat.le_of_ble_eq_true rfl⟩) hw hS hA [1, 2] [0] rfl rfl rfl rfl (fun _ H locs hp218 hw hS => ?_)
      have hw : zPD D A [(y 1, .inl (ct 0, 8, .inl (upd (upd (fun _ => 0) 2 1) 3 2))), (h0, .inr (11, [.int 0, .int 0, .ref (y 0), .int 0, .int 0, .int 0, .int 0, .long 0, .int 0, .int 0, .ref (y 1), .ref (y 2), .ref (y 3), .ref (y 4), .ref (y 5), .ref (y 6), .ref (y 7), .ref (y 8), .ref (y 9), .ref (y 10), .ref (y 11), .ref (y 12), .int 0, .int 0, .ref (y 13), .ref (y 14), .ref (y 15), .ref (y 16), .ref (y 17), .ref (y 18), .ref (y 19), .ref (y 20), .ref (y 21), .ref (y 22), .ref (y 23), .ref (y 24), .int 0, .long 0, .ref (y 25), .ref (y 26), .ref (y 27), .ref (y 28), .ref (y 29), .ref (y 30), .ref (y 31), .ref (y 32), .ref (y 33), .ref (y 34), .ref (y 35), .ref (y 36), .ref (y 37), .int 0, .int 0, .ref (y 38), .long 0, .int 0, .int 0])), (y 29, .inl (ct 0, 5, .inl (fun _ => 0)))] H := hw
      refine zfr 39 [.int 1] rfl rfl ?_
      refine lv_if_ne (tgt := 45) hx hb dX12_lengths_39 (by decide) (fun _ => ?_) (fun h => absurd h (by decide))
      refine lv_iinc (v := 21) (lv' := [(2, .int 21), (5, .int 20), (4, .int 19), (3, .int 0), (0, .ref h0), (1, .int 1)]) hx hb dX12_lengths_45 hl (k := 2) rfl (by decide) (by decide) rfl (fun ls hl => ?_)
      refine lv_iload_n hx hb dX12_lengths_48 rfl (lv_at hl 3 rfl) ?_
      refine lv_if_ge (tgt := 55) hx hb dX12_lengths_49 (by decide) (fun _ => ?_) (fun h => absurd (by decide) h)
      refine lv_iload hx hb dX12_lengths_55 (lv_at hl 1 rfl) ?_
      refine lv_istore (lv' := [(4, .int 20), (2, .int 21), (5, .int 20), (3, .int 0), (0, .ref h0), (1, .int 1)]) hx hb dX12_lengths_57 hl (by decide) rfl (fun ls hl => ?_)
      refine lv_iinc (v := 21) (lv' := [(5, .int 21), (4, .int 20), (2, .int 21), (3, .int 0), (0, .ref h0), (1, .int 1)]) hx hb dX12_lengths_59 hl (k := 2) rfl (by decide) (by decide) rfl (fun ls hl => ?_)
      refine lv_goto (tgt := 26) hx hb dX12_lengths_62 (by decide) ?_
      refine lv_iload hx hb dX12_lengths_26 (lv_at hl 0 rfl) ?_
      refine lv_bipush (v := 31) hx hb dX12_lengths_28 (by decide) ?_
      refine lv_icmp_ge (tgt := 65) hx hb dX12_lengths_30 (by decide) (fun h => absurd h (by decide)) (fun _ => ?_)
      refine lv_aload_n hx hb dX12_lengths_33 rfl (lv_at hl 4 rfl) ?_
      refine lv_iload hx hb dX12_lengths_34 (lv_at hl 0 rfl) ?_
      refine zcall2 (va_runV (As := [.int 21]) (rest := []) ⟨hx, hb, hml, hown, hts⟩ (c_asSeen12 l D ct h0 y 0 0 0 0 0 0 0 0 0 0 0 0 0 0 0 0 0 0 21 (fun _ => 0) (by decide) H.size) (cwV 1 hts gX12_lengths_X12_isAsSeen rfl rfl rfl (by decide +kernel) ⟨Nat.le_of_ble_eq_true rfl, Nat.le_of_ble_eq_true rfl⟩) (zpreV hK hw hS hA zZ.nil hN [1, 2] rfl rfl 11 1 rfl rfl) rfl rfl hl.1 rfl (lv_room (Nat.le_of_ble_eq_true rfl)) dX12_lengths_36 ⟨Nat.le_of_ble_eq_true rfl, Nat.le_of_ble_eq_true rfl⟩) hw hS hA [1, 2] [0] rfl rfl rfl rfl (fun _ H locs hp222 hw hS => ?_)
      have hw : zPD D A [(y 1, .inl (ct 0, 8, .inl (upd (upd (fun _ => 0) 2 1) 3 2))), (h0, .inr (11, [.int 0, .int 0, .ref (y 0), .int 0, .int 0, .int 0, .int 0, .long 0, .int 0, .int 0, .ref (y 1), .ref (y 2), .ref (y 3), .ref (y 4), .ref (y 5), .ref (y 6), .ref (y 7), .ref (y 8), .ref (y 9), .ref (y 10), .ref (y 11), .ref (y 12), .int 0, .int 0, .ref (y 13), .ref (y 14), .ref (y 15), .ref (y 16), .ref (y 17), .ref (y 18), .ref (y 19), .ref (y 20), .ref (y 21), .ref (y 22), .ref (y 23), .ref (y 24), .int 0, .long 0, .ref (y 25), .ref (y 26), .ref (y 27), .ref (y 28), .ref (y 29), .ref (y 30), .ref (y 31), .ref (y 32), .ref (y 33), .ref (y 34), .ref (y 35), .ref (y 36), .ref (y 37), .int 0, .int 0, .ref (y 38), .long 0, .int 0, .int 0])), (y 29, .inl (ct 0, 5, .inl (fun _ => 0)))] H := hw
      refine zfr 39 [.int 1] rfl rfl ?_
      refine lv_if_ne (tgt := 45) hx hb dX12_lengths_39 (by decide) (fun _ => ?_) (fun h => absurd h (by decide))
      refine lv_iinc (v := 22) (lv' := [(2, .int 22), (5, .int 21), (4, .int 20), (3, .int 0), (0, .ref h0), (1, .int 1)]) hx hb dX12_lengths_45 hl (k := 2) rfl (by decide) (by decide) rfl (fun ls hl => ?_)
      refine lv_iload_n hx hb dX12_lengths_48 rfl (lv_at hl 3 rfl) ?_
      refine lv_if_ge (tgt := 55) hx hb dX12_lengths_49 (by decide) (fun _ => ?_) (fun h => absurd (by decide) h)
      refine lv_iload hx hb dX12_lengths_55 (lv_at hl 1 rfl) ?_
      refine lv_istore (lv' := [(4, .int 21), (2, .int 22), (5, .int 21), (3, .int 0), (0, .ref h0), (1, .int 1)]) hx hb dX12_lengths_57 hl (by decide) rfl (fun ls hl => ?_)
      refine lv_iinc (v := 22) (lv' := [(5, .int 22), (4, .int 21), (2, .int 22), (3, .int 0), (0, .ref h0), (1, .int 1)]) hx hb dX12_lengths_59 hl (k := 2) rfl (by decide) (by decide) rfl (fun ls hl => ?_)
      refine lv_goto (tgt := 26) hx hb dX12_lengths_62 (by decide) ?_
      refine lv_iload hx hb dX12_lengths_26 (lv_at hl 0 rfl) ?_
      refine lv_bipush (v := 31) hx hb dX12_lengths_28 (by decide) ?_
      refine lv_icmp_ge (tgt := 65) hx hb dX12_lengths_30 (by decide) (fun h => absurd h (by decide)) (fun _ => ?_)
      refine lv_aload_n hx hb dX12_lengths_33 rfl (lv_at hl 4 rfl) ?_
      refine lv_iload hx hb dX12_lengths_34 (lv_at hl 0 rfl) ?_
      refine zcall2 (va_runV (As := [.int 22]) (rest := []) ⟨hx, hb, hml, hown, hts⟩ (c_asSeen12 l D ct h0 y 0 0 0 0 0 0 0 0 0 0 0 0 0 0 0 0 0 0 22 (fun _ => 0) (by decide) H.size) (cwV 1 hts gX12_lengths_X12_isAsSeen rfl rfl rfl (by decide +kernel) ⟨Nat.le_of_ble_eq_true rfl, Nat.le_of_ble_eq_true rfl⟩) (zpreV hK hw hS hA zZ.nil hN [1, 2] rfl rfl 11 1 rfl rfl) rfl rfl hl.1 rfl (lv_room (Nat.le_of_ble_eq_true rfl)) dX12_lengths_36 ⟨Nat.le_of_ble_eq_true rfl, Nat.le_of_ble_eq_true rfl⟩) hw hS hA [1, 2] [0] rfl rfl rfl rfl (fun _ H locs hp226 hw hS => ?_)
      have hw : zPD D A [(y 1, .inl (ct 0, 8, .inl (upd (upd (fun _ => 0) 2 1) 3 2))), (h0, .inr (11, [.int 0, .int 0, .ref (y 0), .int 0, .int 0, .int 0, .int 0, .long 0, .int 0, .int 0, .ref (y 1), .ref (y 2), .ref (y 3), .ref (y 4), .ref (y 5), .ref (y 6), .ref (y 7), .ref (y 8), .ref (y 9), .ref (y 10), .ref (y 11), .ref (y 12), .int 0, .int 0, .ref (y 13), .ref (y 14), .ref (y 15), .ref (y 16), .ref (y 17), .ref (y 18), .ref (y 19), .ref (y 20), .ref (y 21), .ref (y 22), .ref (y 23), .ref (y 24), .int 0, .long 0, .ref (y 25), .ref (y 26), .ref (y 27), .ref (y 28), .ref (y 29), .ref (y 30), .ref (y 31), .ref (y 32), .ref (y 33), .ref (y 34), .ref (y 35), .ref (y 36), .ref (y 37), .int 0, .int 0, .ref (y 38), .long 0, .int 0, .int 0])), (y 29, .inl (ct 0, 5, .inl (fun _ => 0)))] H := hw
      refine zfr 39 [.int 1] rfl rfl ?_
      refine lv_if_ne (tgt := 45) hx hb dX12_lengths_39 (by decide) (fun _ => ?_) (fun h => absurd h (by decide))
      refine lv_iinc (v := 23) (lv' := [(2, .int 23), (5, .int 22), (4, .int 21), (3, .int 0), (0, .ref h0), (1, .int 1)]) hx hb dX12_lengths_45 hl (k := 2) rfl (by decide) (by decide) rfl (fun ls hl => ?_)
      refine lv_iload_n hx hb dX12_lengths_48 rfl (lv_at hl 3 rfl) ?_
      refine lv_if_ge (tgt := 55) hx hb dX12_lengths_49 (by decide) (fun _ => ?_) (fun h => absurd (by decide) h)
      refine lv_iload hx hb dX12_lengths_55 (lv_at hl 1 rfl) ?_
      refine lv_istore (lv' := [(4, .int 22), (2, .int 23), (5, .int 22), (3, .int 0), (0, .ref h0), (1, .int 1)]) hx hb dX12_lengths_57 hl (by decide) rfl (fun ls hl => ?_)
      refine lv_iinc (v := 23) (lv' := [(5, .int 23), (4, .int 22), (2, .int 23), (3, .int 0), (0, .ref h0), (1, .int 1)]) hx hb dX12_lengths_59 hl (k := 2) rfl (by decide) (by decide) rfl (fun ls hl => ?_)
      refine lv_goto (tgt := 26) hx hb dX12_lengths_62 (by decide) ?_
      refine lv_iload hx hb dX12_lengths_26 (lv_at hl 0 rfl) ?_
      refine lv_bipush (v := 31) hx hb dX12_lengths_28 (by decide) ?_
      refine lv_icmp_ge (tgt := 65) hx hb dX12_lengths_30 (by decide) (fun h => absurd h (by decide)) (fun _ => ?_)
      refine lv_aload_n hx hb dX12_lengths_33 rfl (lv_at hl 4 rfl) ?_
      refine lv_iload hx hb dX12_lengths_34 (lv_at hl 0 rfl) ?_
      refine zcall2 (va_runV (As := [.int 23]) (rest := []) ⟨hx, hb, hml, hown, hts⟩ (c_asSeen12 l D ct h0 y 0 0 0 0 0 0 0 0 0 0 0 0 0 0 0 0 0 0 23 (fun _ => 0) (by decide) H.size) (cwV 1 hts gX12_lengths_X12_isAsSeen rfl rfl rfl (by decide +kernel) ⟨Nat.le_of_ble_eq_true rfl, Nat.le_of_ble_eq_true rfl⟩) (zpreV hK hw hS hA zZ.nil hN [1, 2] rfl rfl 11 1 rfl rfl) rfl rfl hl.1 rfl (lv_room (Nat.le_of_ble_eq_true rfl)) dX12_lengths_36 ⟨Nat.le_of_ble_eq_true rfl, Nat.le_of_ble_eq_true rfl⟩) hw hS hA [1, 2] [0] rfl rfl rfl rfl (fun _ H locs hp230 hw hS => ?_)
      have hw : zPD D A [(y 1, .inl (ct 0, 8, .inl (upd (upd (fun _ => 0) 2 1) 3 2))), (h0, .inr (11, [.int 0, .int 0, .ref (y 0), .int 0, .int 0, .int 0, .int 0, .long 0, .int 0, .int 0, .ref (y 1), .ref (y 2), .ref (y 3), .ref (y 4), .ref (y 5), .ref (y 6), .ref (y 7), .ref (y 8), .ref (y 9), .ref (y 10), .ref (y 11), .ref (y 12), .int 0, .int 0, .ref (y 13), .ref (y 14), .ref (y 15), .ref (y 16), .ref (y 17), .ref (y 18), .ref (y 19), .ref (y 20), .ref (y 21), .ref (y 22), .ref (y 23), .ref (y 24), .int 0, .long 0, .ref (y 25), .ref (y 26), .ref (y 27), .ref (y 28), .ref (y 29), .ref (y 30), .ref (y 31), .ref (y 32), .ref (y 33), .ref (y 34), .ref (y 35), .ref (y 36), .ref (y 37), .int 0, .int 0, .ref (y 38), .long 0, .int 0, .int 0])), (y 29, .inl (ct 0, 5, .inl (fun _ => 0)))] H := hw
      refine zfr 39 [.int 1] rfl rfl ?_
      refine lv_if_ne (tgt := 45) hx hb dX12_lengths_39 (by decide) (fun _ => ?_) (fun h => absurd h (by decide))
      refine lv_iinc (v := 24) (lv' := [(2, .int 24), (5, .int 23), (4, .int 22), (3, .int 0), (0, .ref h0), (1, .int 1)]) hx hb dX12_lengths_45 hl (k := 2) rfl (by decide) (by decide) rfl (fun ls hl => ?_)
      refine lv_iload_n hx hb dX12_lengths_48 rfl (lv_at hl 3 rfl) ?_
      refine lv_if_ge (tgt := 55) hx hb dX12_lengths_49 (by decide) (fun _ => ?_) (fun h => absurd (by decide) h)
      refine lv_iload hx hb dX12_lengths_55 (lv_at hl 1 rfl) ?_
      refine lv_istore (lv' := [(4, .int 23), (2, .int 24), (5, .int 23), (3, .int 0), (0, .ref h0), (1, .int 1)]) hx hb dX12_lengths_57 hl (by decide) rfl (fun ls hl => ?_)
      refine lv_iinc (v := 24) (lv' := [(5, .int 24), (4, .int 23), (2, .int 24), (3, .int 0), (0, .ref h0), (1, .int 1)]) hx hb dX12_lengths_59 hl (k := 2) rfl (by decide) (by decide) rfl (fun ls hl => ?_)
      refine lv_goto (tgt := 26) hx hb dX12_lengths_62 (by decide) ?_
      refine lv_iload hx hb dX12_lengths_26 (lv_at hl 0 rfl) ?_
      refine lv_bipush (v := 31) hx hb dX12_lengths_28 (by decide) ?_
      refine lv_icmp_ge (tgt := 65) hx hb dX12_lengths_30 (by decide) (fun h => absurd h (by decide)) (fun _ => ?_)
      refine lv_aload_n hx hb dX12_lengths_33 rfl (lv_at hl 4 rfl) ?_
      refine lv_iload hx hb dX12_lengths_34 (lv_at hl 0 rfl) ?_
      refine zcall2 (va_runV (As := [.int 24]) (rest := []) ⟨hx, hb, hml, hown, hts⟩ (c_asSeen12 l D ct h0 y 0 0 0 0 0 0 0 0 0 0 0 0 0 0 0 0 0 0 24 (fun _ => 0) (by decide) H.size) (cwV 1 hts gX12_lengths_X12_isAsSeen rfl rfl rfl (by decide +kernel) ⟨Nat.le_of_ble_eq_true rfl, Nat.le_of_ble_eq_true rfl⟩) (zpreV hK hw hS hA zZ.nil hN [1, 2] rfl rfl 11 1 rfl rfl) rfl rfl hl.1 rfl (lv_room (Nat.le_of_ble_eq_true rfl)) dX12_lengths_36 ⟨Nat.le_of_ble_eq_true rfl, Nat.le_of_ble_eq_true rfl⟩) hw hS hA [1, 2] [0] rfl rfl rfl rfl (fun _ H locs hp234 hw hS => ?_)
      have hw : zPD D A [(y 1, .inl (ct 0, 8, .inl (upd (upd (fun _ => 0) 2 1) 3 2))), (h0, .inr (11, [.int 0, .int 0, .ref (y 0), .int 0, .int 0, .int 0, .int 0, .long 0, .int 0, .int 0, .ref (y 1), .ref (y 2), .ref (y 3), .ref (y 4), .ref (y 5), .ref (y 6), .ref (y 7), .ref (y 8), .ref (y 9), .ref (y 10), .ref (y 11), .ref (y 12), .int 0, .int 0, .ref (y 13), .ref (y 14), .ref (y 15), .ref (y 16), .ref (y 17), .ref (y 18), .ref (y 19), .ref (y 20), .ref (y 21), .ref (y 22), .ref (y 23), .ref (y 24), .int 0, .long 0, .ref (y 25), .ref (y 26), .ref (y 27), .ref (y 28), .ref (y 29), .ref (y 30), .ref (y 31), .ref (y 32), .ref (y 33), .ref (y 34), .ref (y 35), .ref (y 36), .ref (y 37), .int 0, .int 0, .ref (y 38), .long 0, .int 0, .int 0])), (y 29, .inl (ct 0, 5, .inl (fun _ => 0)))] H := hw
      refine zfr 39 [.int 1] rfl rfl ?_
      refine lv_if_ne (tgt := 45) hx hb dX12_lengths_39 (by decide) (fun _ => ?_) (fun h => absurd h (by decide))
      refine lv_iinc (v := 25) (lv' := [(2, .int 25), (5, .int 24), (4, .int 23), (3, .int 0), (0, .ref h0), (1, .int 1)]) hx hb dX12_lengths_45 hl (k := 2) rfl (by decide) (by decide) rfl (fun ls hl => ?_)
      refine lv_iload_n hx hb dX12_lengths_48 rfl (lv_at hl 3 rfl) ?_
      refine lv_if_ge (tgt := 55) hx hb dX12_lengths_49 (by decide) (fun _ => ?_) (fun h => absurd (by decide) h)
      refine lv_iload hx hb dX12_lengths_55 (lv_at hl 1 rfl) ?_
      refine lv_istore (lv' := [(4, .int 24), (2, .int 25), (5, .int 24), (3, .int 0), (0, .ref h0), (1, .int 1)]) hx hb dX12_lengths_57 hl (by decide) rfl (fun ls hl => ?_)
      refine lv_iinc (v := 25) (lv' := [(5, .int 25), (4, .int 24), (2, .int 25), (3, .int 0), (0, .ref h0), (1, .int 1)]) hx hb dX12_lengths_59 hl (k := 2) rfl (by decide) (by decide) rfl (fun ls hl => ?_)
      refine lv_goto (tgt := 26) hx hb dX12_lengths_62 (by decide) ?_
      refine lv_iload hx hb dX12_lengths_26 (lv_at hl 0 rfl) ?_
      refine lv_bipush (v := 31) hx hb dX12_lengths_28 (by decide) ?_
      refine lv_icmp_ge (tgt := 65) hx hb dX12_lengths_30 (by decide) (fun h => absurd h (by decide)) (fun _ => ?_)
      refine lv_aload_n hx hb dX12_lengths_33 rfl (lv_at hl 4 rfl) ?_
      refine lv_iload hx hb dX12_lengths_34 (lv_at hl 0 rfl) ?_
      refine zcall2 (va_runV (As := [.int 25]) (rest := []) ⟨hx, hb, hml, hown, hts⟩ (c_asSeen12 l D ct h0 y 0 0 0 0 0 0 0 0 0 0 0 0 0 0 0 0 0 0 25 (fun _ => 0) (by decide) H.size) (cwV 1 hts gX12_lengths_X12_isAsSeen rfl rfl rfl (by decide +kernel) ⟨Nat.le_of_ble_eq_true rfl, Nat.le_of_ble_eq_true rfl⟩) (zpreV hK hw hS hA zZ.nil hN [1, 2] rfl rfl 11 1 rfl rfl) rfl rfl hl.1 rfl (lv_room (Nat.le_of_ble_eq_true rfl)) dX12_lengths_36 ⟨Nat.le_of_ble_eq_true rfl, Nat.le_of_ble_eq_true rfl⟩) hw hS hA [1, 2] [0] rfl rfl rfl rfl (fun _ H locs hp238 hw hS => ?_)
      have hw : zPD D A [(y 1, .inl (ct 0, 8, .inl (upd (upd (fun _ => 0) 2 1) 3 2))), (h0, .inr (11, [.int 0, .int 0, .ref (y 0), .int 0, .int 0, .int 0, .int 0, .long 0, .int 0, .int 0, .ref (y 1), .ref (y 2), .ref (y 3), .ref (y 4), .ref (y 5), .ref (y 6), .ref (y 7), .ref (y 8), .ref (y 9), .ref (y 10), .ref (y 11), .ref (y 12), .int 0, .int 0, .ref (y 13), .ref (y 14), .ref (y 15), .ref (y 16), .ref (y 17), .ref (y 18), .ref (y 19), .ref (y 20), .ref (y 21), .ref (y 22), .ref (y 23), .ref (y 24), .int 0, .long 0, .ref (y 25), .ref (y 26), .ref (y 27), .ref (y 28), .ref (y 29), .ref (y 30), .ref (y 31), .ref (y 32), .ref (y 33), .ref (y 34), .ref (y 35), .ref (y 36), .ref (y 37), .int 0, .int 0, .ref (y 38), .long 0, .int 0, .int 0])), (y 29, .inl (ct 0, 5, .inl (fun _ => 0)))] H := hw
      refine zfr 39 [.int 1] rfl rfl ?_
      refine lv_if_ne (tgt := 45) hx hb dX12_lengths_39 (by decide) (fun _ => ?_) (fun h => absurd h (by decide))
      refine lv_iinc (v := 26) (lv' := [(2, .int 26), (5, .int 25), (4, .int 24), (3, .int 0), (0, .ref h0), (1, .int 1)]) hx hb dX12_lengths_45 hl (k := 2) rfl (by decide) (by decide) rfl (fun ls hl => ?_)
      refine lv_iload_n hx hb dX12_lengths_48 rfl (lv_at hl 3 rfl) ?_
      refine lv_if_ge (tgt := 55) hx hb dX12_lengths_49 (by decide) (fun _ => ?_) (fun h => absurd (by decide) h)
      refine lv_iload hx hb dX12_lengths_55 (lv_at hl 1 rfl) ?_
      refine lv_istore (lv' := [(4, .int 25), (2, .int 26), (5, .int 25), (3, .int 0), (0, .ref h0), (1, .int 1)]) hx hb dX12_lengths_57 hl (by decide) rfl (fun ls hl => ?_)
      refine lv_iinc (v := 26) (lv' := [(5, .int 26), (4, .int 25), (2, .int 26), (3, .int 0), (0, .ref h0), (1, .int 1)]) hx hb dX12_lengths_59 hl (k := 2) rfl (by decide) (by decide) rfl (fun ls hl => ?_)
      refine lv_goto (tgt := 26) hx hb dX12_lengths_62 (by decide) ?_
      refine lv_iload hx hb dX12_lengths_26 (lv_at hl 0 rfl) ?_
      refine lv_bipush (v := 31) hx hb dX12_lengths_28 (by decide) ?_
      refine lv_icmp_ge (tgt := 65) hx hb dX12_lengths_30 (by decide) (fun h => absurd h (by decide)) (fun _ => ?_)
      refine lv_aload_n hx hb dX12_lengths_33 rfl (lv_at hl 4 rfl) ?_
      refine lv_iload hx hb dX12_lengths_34 (lv_at hl 0 rfl) ?_
      refine zcall2 (va_runV (As := [.int 26]) (rest := []) ⟨hx, hb, hml, hown, hts⟩ (c_asSeen12 l D ct h0 y 0 0 0 0 0 0 0 0 0 0 0 0 0 0 0 0 0 0 26 (fun _ => 0) (by decide) H.size) (cwV 1 hts gX12_lengths_X12_isAsSeen rfl rfl rfl (by decide +kernel) ⟨Nat.le_of_ble_eq_true rfl, Nat.le_of_ble_eq_true rfl⟩) (zpreV hK hw hS hA zZ.nil hN [1, 2] rfl rfl 11 1 rfl rfl) rfl rfl hl.1 rfl (lv_room (Nat.le_of_ble_eq_true rfl)) dX12_lengths_36 ⟨Nat.le_of_ble_eq_true rfl, Nat.le_of_ble_eq_true rfl⟩) hw hS hA [1, 2] [0] rfl rfl rfl rfl (fun _ H locs hp242 hw hS => ?_)
      have hw : zPD D A [(y 1, .inl (ct 0, 8, .inl (upd (upd (fun _ => 0) 2 1) 3 2))), (h0, .inr (11, [.int 0, .int 0, .ref (y 0), .int 0, .int 0, .int 0, .int 0, .long 0, .int 0, .int 0, .ref (y 1), .ref (y 2), .ref (y 3), .ref (y 4), .ref (y 5), .ref (y 6), .ref (y 7), .ref (y 8), .ref (y 9), .ref (y 10), .ref (y 11), .ref (y 12), .int 0, .int 0, .ref (y 13), .ref (y 14), .ref (y 15), .ref (y 16), .ref (y 17), .ref (y 18), .ref (y 19), .ref (y 20), .ref (y 21), .ref (y 22), .ref (y 23), .ref (y 24), .int 0, .long 0, .ref (y 25), .ref (y 26), .ref (y 27), .ref (y 28), .ref (y 29), .ref (y 30), .ref (y 31), .ref (y 32), .ref (y 33), .ref (y 34), .ref (y 35), .ref (y 36), .ref (y 37), .int 0, .int 0, .ref (y 38), .long 0, .int 0, .int 0])), (y 29, .inl (ct 0, 5, .inl (fun _ => 0)))] H := hw
      refine zfr 39 [.int 1] rfl rfl ?_
      refine lv_if_ne (tgt := 45) hx hb dX12_lengths_39 (by decide) (fun _ => ?_) (fun h => absurd h (by decide))
      refine lv_iinc (v := 27) (lv' := [(2, .int 27), (5, .int 26), (4, .int 25), (3, .int 0), (0, .ref h0), (1, .int 1)]) hx hb dX12_lengths_45 hl (k := 2) rfl (by decide) (by decide) rfl (fun ls hl => ?_)
      refine lv_iload_n hx hb dX12_lengths_48 rfl (lv_at hl 3 rfl) ?_
      refine lv_if_ge (tgt := 55) hx hb dX12_lengths_49 (by decide) (fun _ => ?_) (fun h => absurd (by decide) h)
      refine lv_iload hx hb dX12_lengths_55 (lv_at hl 1 rfl) ?_
      refine lv_istore (lv' := [(4, .int 26), (2, .int 27), (5, .int 26), (3, .int 0), (0, .ref h0), (1, .int 1)]) hx hb dX12_lengths_57 hl (by decide) rfl (fun ls hl => ?_)
      refine lv_iinc (v := 27) (lv' := [(5, .int 27), (4, .int 26), (2, .int 27), (3, .int 0), (0, .ref h0), (1, .int 1)]) hx hb dX12_lengths_59 hl (k := 2) rfl (by decide) (by decide) rfl (fun ls hl => ?_)
      refine lv_goto (tgt := 26) hx hb dX12_lengths_62 (by decide) ?_
      refine lv_iload hx hb dX12_lengths_26 (lv_at hl 0 rfl) ?_
      refine lv_bipush (v := 31) hx hb dX12_lengths_28 (by decide) ?_
      refine lv_icmp_ge (tgt := 65) hx hb dX12_lengths_30 (by decide) (fun h => absurd h (by decide)) (fun _ => ?_)
      refine lv_aload_n hx hb dX12_lengths_33 rfl (lv_at hl 4 rfl) ?_
      refine lv_iload hx hb dX12_lengths_34 (lv_at hl 0 rfl) ?_
      refine zcall2 (va_runV (As := [.int 27]) (rest := []) ⟨hx, hb, hml, hown, hts⟩ (c_asSeen12 l D ct h0 y 0 0 0 0 0 0 0 0 0 0 0 0 0 0 0 0 0 0 27 (fun _ => 0) (by decide) H.size) (cwV 1 hts gX12_lengths_X12_isAsSeen rfl rfl rfl (by decide +kernel) ⟨Nat.le_of_ble_eq_true rfl, Nat.le_of_ble_eq_true rfl⟩) (zpreV hK hw hS hA zZ.nil hN [1, 2] rfl rfl 11 1 rfl rfl) rfl rfl hl.1 rfl (lv_room (Nat.le_of_ble_eq_true rfl)) dX12_lengths_36 ⟨Nat.le_of_ble_eq_true rfl, Nat.le_of_ble_eq_true rfl⟩) hw hS hA [1, 2] [0] rfl rfl rfl rfl (fun _ H locs hp246 hw hS => ?_)
      have hw : zPD D A [(y 1, .inl (ct 0, 8, .inl (upd (upd (fun _ => 0) 2 1) 3 2))), (h0, .inr (11, [.int 0, .int 0, .ref (y 0), .int 0, .int 0, .int 0, .int 0, .long 0, .int 0, .int 0, .ref (y 1), .ref (y 2), .ref (y 3), .ref (y 4), .ref (y 5), .ref (y 6), .ref (y 7), .ref (y 8), .ref (y 9), .ref (y 10), .ref (y 11), .ref (y 12), .int 0, .int 0, .ref (y 13), .ref (y 14), .ref (y 15), .ref (y 16), .ref (y 17), .ref (y 18), .ref (y 19), .ref (y 20), .ref (y 21), .ref (y 22), .ref (y 23), .ref (y 24), .int 0, .long 0, .ref (y 25), .ref (y 26), .ref (y 27), .ref (y 28), .ref (y 29), .ref (y 30), .ref (y 31), .ref (y 32), .ref (y 33), .ref (y 34), .ref (y 35), .ref (y 36), .ref (y 37), .int 0, .int 0, .ref (y 38), .long 0, .int 0, .int 0])), (y 29, .inl (ct 0, 5, .inl (fun _ => 0)))] H := hw
      refine zfr 39 [.int 1] rfl rfl ?_
      refine lv_if_ne (tgt := 45) hx hb dX12_lengths_39 (by decide) (fun _ => ?_) (fun h => absurd h (by decide))
      refine lv_iinc (v := 28) (lv' := [(2, .int 28), (5, .int 27), (4, .int 26), (3, .int 0), (0, .ref h0), (1, .int 1)]) hx hb dX12_lengths_45 hl (k := 2) rfl (by decide) (by decide) rfl (fun ls hl => ?_)
      refine lv_iload_n hx hb dX12_lengths_48 rfl (lv_at hl 3 rfl) ?_
      refine lv_if_ge (tgt := 55) hx hb dX12_lengths_49 (by decide) (fun _ => ?_) (fun h => absurd (by decide) h)
      refine lv_iload hx hb dX12_lengths_55 (lv_at hl 1 rfl) ?_
      refine lv_istore (lv' := [(4, .int 27), (2, .int 28), (5, .int 27), (3, .int 0), (0, .ref h0), (1, .int 1)]) hx hb dX12_lengths_57 hl (by decide) rfl (fun ls hl => ?_)
      refine lv_iinc (v := 28) (lv' := [(5, .int 28), (4, .int 27), (2, .int 28), (3, .int 0), (0, .ref h0), (1, .int 1)]) hx hb dX12_lengths_59 hl (k := 2) rfl (by decide) (by decide) rfl (fun ls hl => ?_)
      refine lv_goto (tgt := 26) hx hb dX12_lengths_62 (by decide) ?_
      refine lv_iload hx hb dX12_lengths_26 (lv_at hl 0 rfl) ?_
      refine lv_bipush (v := 31) hx hb dX12_lengths_28 (by decide) ?_
      refine lv_icmp_ge (tgt := 65) hx hb dX12_lengths_30 (by decide) (fun h => absurd h (by decide)) (fun _ => ?_)
      refine lv_aload_n hx hb dX12_lengths_33 rfl (lv_at hl 4 rfl) ?_
      refine lv_iload hx hb dX12_lengths_34 (lv_at hl 0 rfl) ?_
      refine zcall2 (va_runV (As := [.int 28]) (rest := []) ⟨hx, hb, hml, hown, hts⟩ (c_asSeen12 l D ct h0 y 0 0 0 0 0 0 0 0 0 0 0 0 0 0 0 0 0 0 28 (fun _ => 0) (by decide) H.size) (cwV 1 hts gX12_lengths_X12_isAsSeen rfl rfl rfl (by decide +kernel) ⟨Nat.le_of_ble_eq_true rfl, Nat.le_of_ble_eq_true rfl⟩) (zpreV hK hw hS hA zZ.nil hN [1, 2] rfl rfl 11 1 rfl rfl) rfl rfl hl.1 rfl (lv_room (Nat.le_of_ble_eq_true rfl)) dX12_lengths_36 ⟨Nat.le_of_ble_eq_true rfl, Nat.le_of_ble_eq_true rfl⟩) hw hS hA [1, 2] [0] rfl rfl rfl rfl (fun _ H locs hp250 hw hS => ?_)
      have hw : zPD D A [(y 1, .inl (ct 0, 8, .inl (upd (upd (fun _ => 0) 2 1) 3 2))), (h0, .inr (11, [.int 0, .int 0, .ref (y 0), .int 0, .int 0, .int 0, .int 0, .long 0, .int 0, .int 0, .ref (y 1), .ref (y 2), .ref (y 3), .ref (y 4), .ref (y 5), .ref (y 6), .ref (y 7), .ref (y 8), .ref (y 9), .ref (y 10), .ref (y 11), .ref (y 12), .int 0, .int 0, .ref (y 13), .ref (y 14), .ref (y 15), .ref (y 16), .ref (y 17), .ref (y 18), .ref (y 19), .ref (y 20), .ref (y 21), .ref (y 22), .ref (y 23), .ref (y 24), .int 0, .long 0, .ref (y 25), .ref (y 26), .ref (y 27), .ref (y 28), .ref (y 29), .ref (y 30), .ref (y 31), .ref (y 32), .ref (y 33), .ref (y 34), .ref (y 35), .ref (y 36), .ref (y 37), .int 0, .int 0, .ref (y 38), .long 0, .int 0, .int 0])), (y 29, .inl (ct 0, 5, .inl (fun _ => 0)))] H := hw
      refine zfr 39 [.int 1] rfl rfl ?_
      refine lv_if_ne (tgt := 45) hx hb dX12_lengths_39 (by decide) (fun _ => ?_) (fun h => absurd h (by decide))
      refine lv_iinc (v := 29) (lv' := [(2, .int 29), (5, .int 28), (4, .int 27), (3, .int 0), (0, .ref h0), (1, .int 1)]) hx hb dX12_lengths_45 hl (k := 2) rfl (by decide) (by decide) rfl (fun ls hl => ?_)
      refine lv_iload_n hx hb dX12_lengths_48 rfl (lv_at hl 3 rfl) ?_
      refine lv_if_ge (tgt := 55) hx hb dX12_lengths_49 (by decide) (fun _ => ?_) (fun h => absurd (by decide) h)
      refine lv_iload hx hb dX12_lengths_55 (lv_at hl 1 rfl) ?_
      refine lv_istore (lv' := [(4, .int 28), (2, .int 29), (5, .int 28), (3, .int 0), (0, .ref h0), (1, .int 1)]) hx hb dX12_lengths_57 hl (by decide) rfl (fun ls hl => ?_)
      refine lv_iinc (v := 29) (lv' := [(5, .int 29), (4, .int 28), (2, .int 29), (3, .int 0), (0, .ref h0), (1, .int 1)]) hx hb dX12_lengths_59 hl (k := 2) rfl (by decide) (by decide) rfl (fun ls hl => ?_)
      refine lv_goto (tgt := 26) hx hb dX12_lengths_62 (by decide) ?_
      refine lv_iload hx hb dX12_lengths_26 (lv_at hl 0 rfl) ?_
      refine lv_bipush (v := 31) hx hb dX12_lengths_28 (by decide) ?_
      refine lv_icmp_ge (tgt := 65) hx hb dX12_lengths_30 (by decide) (fun h => absurd h (by decide)) (fun _ => ?_)
      refine lv_aload_n hx hb dX12_lengths_33 rfl (lv_at hl 4 rfl) ?_
      refine lv_iload hx hb dX12_lengths_34 (lv_at hl 0 rfl) ?_
      refine zcall2 (va_runV (As := [.int 29]) (rest := []) ⟨hx, hb, hml, hown, hts⟩ (c_asSeen12 l D ct h0 y 0 0 0 0 0 0 0 0 0 0 0 0 0 0 0 0 0 0 29 (fun _ => 0) (by decide) H.size) (cwV 1 hts gX12_lengths_X12_isAsSeen rfl rfl rfl (by decide +kernel) ⟨Nat.le_of_ble_eq_true rfl, Nat.le_of_ble_eq_true rfl⟩) (zpreV hK hw hS hA zZ.nil hN [1, 2] rfl rfl 11 1 rfl rfl) rfl rfl hl.1 rfl (lv_room (Nat.le_of_ble_eq_true rfl)) dX12_lengths_36 ⟨Nat.le_of_ble_eq_true rfl, Nat.le_of_ble_eq_true rfl⟩) hw hS hA [1, 2] [0] rfl rfl rfl rfl (fun _ H locs hp254 hw hS => ?_)
      have hw : zPD D A [(y 1, .inl (ct 0, 8, .inl (upd (upd (fun _ => 0) 2 1) 3 2))), (h0, .inr (11, [.int 0, .int 0, .ref (y 0), .int 0, .int 0, .int 0, .int 0, .long 0, .int 0, .int 0, .ref (y 1), .ref (y 2), .ref (y 3), .ref (y 4), .ref (y 5), .ref (y 6), .ref (y 7), .ref (y 8), .ref (y 9), .ref (y 10), .ref (y 11), .ref (y 12), .int 0, .int 0, .ref (y 13), .ref (y 14), .ref (y 15), .ref (y 16), .ref (y 17), .ref (y 18), .ref (y 19), .ref (y 20), .ref (y 21), .ref (y 22), .ref (y 23), .ref (y 24), .int 0, .long 0, .ref (y 25), .ref (y 26), .ref (y 27), .ref (y 28), .ref (y 29), .ref (y 30), .ref (y 31), .ref (y 32), .ref (y 33), .ref (y 34), .ref (y 35), .ref (y 36), .ref (y 37), .int 0, .int 0, .ref (y 38), .long 0, .int 0, .int 0])), (y 29, .inl (ct 0, 5, .inl (fun _ => 0)))] H := hw
      refine zfr 39 [.int 1] rfl rfl ?_
      refine lv_if_ne (tgt := 45) hx hb dX12_lengths_39 (by decide) (fun _ => ?_) (fun h => absurd h (by decide))
      refine lv_iinc (v := 30) (lv' := [(2, .int 30), (5, .int 29), (4, .int 28), (3, .int 0), (0, .ref h0), (1, .int 1)]) hx hb dX12_lengths_45 hl (k := 2) rfl (by decide) (by decide) rfl (fun ls hl => ?_)
      refine lv_iload_n hx hb dX12_lengths_48 rfl (lv_at hl 3 rfl) ?_
      refine lv_if_ge (tgt := 55) hx hb dX12_lengths_49 (by decide) (fun _ => ?_) (fun h => absurd (by decide) h)
      refine lv_iload hx hb dX12_lengths_55 (lv_at hl 1 rfl) ?_
      refine lv_istore (lv' := [(4, .int 29), (2, .int 30), (5, .int 29), (3, .int 0), (0, .ref h0), (1, .int 1)]) hx hb dX12_lengths_57 hl (by decide) rfl (fun ls hl => ?_)
      refine lv_iinc (v := 30) (lv' := [(5, .int 30), (4, .int 29), (2, .int 30), (3, .int 0), (0, .ref h0), (1, .int 1)]) hx hb dX12_lengths_59 hl (k := 2) rfl (by decide) (by decide) rfl (fun ls hl => ?_)
      refine lv_goto (tgt := 26) hx hb dX12_lengths_62 (by decide) ?_
      refine lv_iload hx hb dX12_lengths_26 (lv_at hl 0 rfl) ?_
      refine lv_bipush (v := 31) hx hb dX12_lengths_28 (by decide) ?_
      refine lv_icmp_ge (tgt := 65) hx hb dX12_lengths_30 (by decide) (fun h => absurd h (by decide)) (fun _ => ?_)
      refine lv_aload_n hx hb dX12_lengths_33 rfl (lv_at hl 4 rfl) ?_
      refine lv_iload hx hb dX12_lengths_34 (lv_at hl 0 rfl) ?_
      refine zcall2 (va_runV (As := [.int 30]) (rest := []) ⟨hx, hb, hml, hown, hts⟩ (c_asSeen12 l D ct h0 y 0 0 0 0 0 0 0 0 0 0 0 0 0 0 0 0 0 0 30 (fun _ => 0) (by decide) H.size) (cwV 1 hts gX12_lengths_X12_isAsSeen rfl rfl rfl (by decide +kernel) ⟨Nat.le_of_ble_eq_true rfl, Nat.le_of_ble_eq_true rfl⟩) (zpreV hK hw hS hA zZ.nil hN [1, 2] rfl rfl 11 1 rfl rfl) rfl rfl hl.1 rfl (lv_room (Nat.le_of_ble_eq_true rfl)) dX12_lengths_36 ⟨Nat.le_of_ble_eq_true rfl, Nat.le_of_ble_eq_true rfl⟩) hw hS hA [1, 2] [0] rfl rfl rfl rfl (fun _ H locs hp258 hw hS => ?_)
      have hw : zPD D A [(y 1, .inl (ct 0, 8, .inl (upd (upd (fun _ => 0) 2 1) 3 2))), (h0, .inr (11, [.int 0, .int 0, .ref (y 0), .int 0, .int 0, .int 0, .int 0, .long 0, .int 0, .int 0, .ref (y 1), .ref (y 2), .ref (y 3), .ref (y 4), .ref (y 5), .ref (y 6), .ref (y 7), .ref (y 8), .ref (y 9), .ref (y 10), .ref (y 11), .ref (y 12), .int 0, .int 0, .ref (y 13), .ref (y 14), .ref (y 15), .ref (y 16), .ref (y 17), .ref (y 18), .ref (y 19), .ref (y 20), .ref (y 21), .ref (y 22), .ref (y 23), .ref (y 24), .int 0, .long 0, .ref (y 25), .ref (y 26), .ref (y 27), .ref (y 28), .ref (y 29), .ref (y 30), .ref (y 31), .ref (y 32), .ref (y 33), .ref (y 34), .ref (y 35), .ref (y 36), .ref (y 37), .int 0, .int 0, .ref (y 38), .long 0, .int 0, .int 0])), (y 29, .inl (ct 0, 5, .inl (fun _ => 0)))] H := hw
      refine zfr 39 [.int 1] rfl rfl ?_
      refine lv_if_ne (tgt := 45) hx hb dX12_lengths_39 (by decide) (fun _ => ?_) (fun h => absurd h (by decide))
      refine lv_iinc (v := 31) (lv' := [(2, .int 31), (5, .int 30), (4, .int 29), (3, .int 0), (0, .ref h0), (1, .int 1)]) hx hb dX12_lengths_45 hl (k := 2) rfl (by decide) (by decide) rfl (fun ls hl => ?_)
      refine lv_iload_n hx hb dX12_lengths_48 rfl (lv_at hl 3 rfl) ?_
      refine lv_if_ge (tgt := 55) hx hb dX12_lengths_49 (by decide) (fun _ => ?_) (fun h => absurd (by decide) h)
      refine lv_iload hx hb dX12_lengths_55 (lv_at hl 1 rfl) ?_
      refine lv_istore (lv' := [(4, .int 30), (2, .int 31), (5, .int 30), (3, .int 0), (0, .ref h0), (1, .int 1)]) hx hb dX12_lengths_57 hl (by decide) rfl (fun ls hl => ?_)
      refine lv_iinc (v := 31) (lv' := [(5, .int 31), (4, .int 30), (2, .int 31), (3, .int 0), (0, .ref h0), (1, .int 1)]) hx hb dX12_lengths_59 hl (k := 2) rfl (by decide) (by decide) rfl (fun ls hl => ?_)
      refine lv_goto (tgt := 26) hx hb dX12_lengths_62 (by decide) ?_
      refine lv_iload hx hb dX12_lengths_26 (lv_at hl 0 rfl) ?_
      refine lv_bipush (v := 31) hx hb dX12_lengths_28 (by decide) ?_
      refine lv_icmp_ge (tgt := 65) hx hb dX12_lengths_30 (by decide) (fun _ => ?_) (fun h => absurd (by decide) h)
      refine lv_iload_n hx hb dX12_lengths_65 rfl (lv_at hl 5 rfl) ?_
      refine lv_if_ne (tgt := 73) hx hb dX12_lengths_66 (by decide) (fun _ => ?_) (fun h => absurd h (by decide))
      refine lv_iload_n hx hb dX12_lengths_73 rfl (lv_at hl 5 rfl) ?_
      refine lv_iconst (v := 1) hx hb dX12_lengths_74 (by decide) ?_
      refine lv_icmp_ne (tgt := 82) hx hb dX12_lengths_75 (by decide) (fun h => absurd (by decide) h) (fun _ => ?_)
      refine lv_iload_n hx hb dX12_lengths_78 rfl (lv_at hl 3 rfl) ?_
      refine lv_goto (tgt := 84) hx hb dX12_lengths_79 (by decide) ?_
      exact ziret hx hb hr (rfl) hlocks () (by decide) (trivial) hw [1, 0, 2] rfl (rfl) hS (Nat.le_of_ble_eq_true rfl) (Nat.le_of_ble_eq_true rfl) dX12_lengths_84
    · obtain rfl : p1 = 2 := hxj6
      refine lv_aload_n hx hb dX12_lengths_0 rfl (lv_at hl 0 rfl) ?_
      refine lv_iconst (v := 0) hx hb dX12_lengths_1 (by decide) ?_
      refine zput (D := D) (ci := 11) (v := .int 0) (ty := .int) hx hb hts hiX12 tyX12 tyX12_ok nmX12 hown hK hw hS 0 rfl rfl 0 (by decide) (hts (.fieldLink RX12 129 "BeardPassModel" "thrown" "I") (by decide +kernel)) (fun _ h9 => h9) rfl (by decide +kernel) rfl rfl (Nat.le_of_ble_eq_true rfl) dX12_lengths_2 [(h0, .inr (11, [.int 0, .int 0, .ref (y 0), .int 0, .int 0, .int 0, .int 0, .long 0, .int 0, .int 0, .ref (y 1), .ref (y 2), .ref (y 3), .ref (y 4), .ref (y 5), .ref (y 6), .ref (y 7), .ref (y 8), .ref (y 9), .ref (y 10), .ref (y 11), .ref (y 12), .int 0, .int 0, .ref (y 13), .ref (y 14), .ref (y 15), .ref (y 16), .ref (y 17), .ref (y 18), .ref (y 19), .ref (y 20), .ref (y 21), .ref (y 22), .ref (y 23), .ref (y 24), .int 0, .long 0, .ref (y 25), .ref (y 26), .ref (y 27), .ref (y 28), .ref (y 29), .ref (y 30), .ref (y 31), .ref (y 32), .ref (y 33), .ref (y 34), .ref (y 35), .ref (y 36), .ref (y 37), .int 0, .int 0, .ref (y 38), .long 0, .int 0, .int 0])), (y 1, .inl (ct 0, 8, .inl (upd (upd (fun _ => 0) 2 1) 3 2))), (y 29, .inl (ct 0, 5, .inl (fun _ => 0)))] rfl (fun H locs hw hS => ?_)
      refine lv_iload_n hx hb dX12_lengths_5 rfl (lv_at hl 1 rfl) ?_
      refine lv_iconst (v := 0) hx hb dX12_lengths_6 (by decide) ?_
      refine lv_iconst (v := 2) hx hb dX12_lengths_7 (by decide) ?_
      refine zcall2 (va_runS (As := [.int 2, .int 0, .int 2]) (rest := []) ⟨hx, hb, hml, hown, hts⟩ (c_within l D ct 2 0 2 H.size) (va_cwS 3 hts gX12_lengths_X12_within rfl rfl rfl (by decide +kernel) ⟨Nat.le_of_ble_eq_true rfl, Nat.le_of_ble_eq_true rfl⟩) (zpreS hK hw hS hA zZ.nil hN [] rfl rfl) rfl rfl hl.1 rfl (lv_room (Nat.le_of_ble_eq_true rfl)) dX12_lengths_8 ⟨Nat.le_of_ble_eq_true rfl, Nat.le_of_ble_eq_true rfl⟩) hw hS hA [] [0, 1, 2] rfl rfl rfl rfl (fun _ H locs hp264 hw hS => ?_)
      have hw : zPD D A [(h0, .inr (11, [.int 0, .int 0, .ref (y 0), .int 0, .int 0, .int 0, .int 0, .long 0, .int 0, .int 0, .ref (y 1), .ref (y 2), .ref (y 3), .ref (y 4), .ref (y 5), .ref (y 6), .ref (y 7), .ref (y 8), .ref (y 9), .ref (y 10), .ref (y 11), .ref (y 12), .int 0, .int 0, .ref (y 13), .ref (y 14), .ref (y 15), .ref (y 16), .ref (y 17), .ref (y 18), .ref (y 19), .ref (y 20), .ref (y 21), .ref (y 22), .ref (y 23), .ref (y 24), .int 0, .long 0, .ref (y 25), .ref (y 26), .ref (y 27), .ref (y 28), .ref (y 29), .ref (y 30), .ref (y 31), .ref (y 32), .ref (y 33), .ref (y 34), .ref (y 35), .ref (y 36), .ref (y 37), .int 0, .int 0, .ref (y 38), .long 0, .int 0, .int 0])), (y 1, .inl (ct 0, 8, .inl (upd (upd (fun _ => 0) 2 1) 3 2))), (y 29, .inl (ct 0, 5, .inl (fun _ => 0)))] H := hw
      refine zfr 11 [.int (zwi 2 0 2)] rfl rfl ?_
      refine ztop (.int 1) (congrArg Value.int (by decide)) ?_
      refine lv_if_ne (tgt := 16) hx hb dX12_lengths_11 (by decide) (fun _ => ?_) (fun h => absurd h (by decide))
      refine lv_iconst (v := 0) hx hb dX12_lengths_16 (by decide) ?_
      refine lv_istore_n (lv' := [(2, .int 0), (0, .ref h0), (1, .int 2)]) hx hb dX12_lengths_17 rfl hl (by decide) rfl (fun ls hl => ?_)
      refine lv_iconst (v := (-1)) hx hb dX12_lengths_18 (by decide) ?_
      refine lv_istore_n (lv' := [(3, .int (-1)), (2, .int 0), (0, .ref h0), (1, .int 2)]) hx hb dX12_lengths_19 rfl hl (by decide) rfl (fun ls hl => ?_)
      refine lv_iconst (v := (-1)) hx hb dX12_lengths_20 (by decide) ?_
      refine lv_istore (lv' := [(4, .int (-1)), (3, .int (-1)), (2, .int 0), (0, .ref h0), (1, .int 2)]) hx hb dX12_lengths_21 hl (by decide) rfl (fun ls hl => ?_)
      refine lv_iconst (v := 0) hx hb dX12_lengths_23 (by decide) ?_
      refine lv_istore (lv' := [(5, .int 0), (4, .int (-1)), (3, .int (-1)), (2, .int 0), (0, .ref h0), (1, .int 2)]) hx hb dX12_lengths_24 hl (by decide) rfl (fun ls hl => ?_)
      refine lv_iload hx hb dX12_lengths_26 (lv_at hl 0 rfl) ?_
      refine lv_bipush (v := 31) hx hb dX12_lengths_28 (by decide) ?_
      refine lv_icmp_ge (tgt := 65) hx hb dX12_lengths_30 (by decide) (fun h => absurd h (by decide)) (fun _ => ?_)
      refine lv_aload_n hx hb dX12_lengths_33 rfl (lv_at hl 4 rfl) ?_
      refine lv_iload hx hb dX12_lengths_34 (lv_at hl 0 rfl) ?_
      refine zcall2 (va_runV (As := [.int 0]) (rest := []) ⟨hx, hb, hml, hown, hts⟩ (c_asSeen12 l D ct h0 y 0 0 0 0 0 0 0 0 0 0 0 0 0 0 0 0 0 0 0 (fun _ => 0) (by decide) H.size) (cwV 1 hts gX12_lengths_X12_isAsSeen rfl rfl rfl (by decide +kernel) ⟨Nat.le_of_ble_eq_true rfl, Nat.le_of_ble_eq_true rfl⟩) (zpreV hK hw hS hA zZ.nil hN [0, 2] rfl rfl 11 0 rfl rfl) rfl rfl hl.1 rfl (lv_room (Nat.le_of_ble_eq_true rfl)) dX12_lengths_36 ⟨Nat.le_of_ble_eq_true rfl, Nat.le_of_ble_eq_true rfl⟩) hw hS hA [0, 2] [1] rfl rfl rfl rfl (fun _ H locs hp267 hw hS => ?_)
      have hw : zPD D A [(y 1, .inl (ct 0, 8, .inl (upd (upd (fun _ => 0) 2 1) 3 2))), (h0, .inr (11, [.int 0, .int 0, .ref (y 0), .int 0, .int 0, .int 0, .int 0, .long 0, .int 0, .int 0, .ref (y 1), .ref (y 2), .ref (y 3), .ref (y 4), .ref (y 5), .ref (y 6), .ref (y 7), .ref (y 8), .ref (y 9), .ref (y 10), .ref (y 11), .ref (y 12), .int 0, .int 0, .ref (y 13), .ref (y 14), .ref (y 15), .ref (y 16), .ref (y 17), .ref (y 18), .ref (y 19), .ref (y 20), .ref (y 21), .ref (y 22), .ref (y 23), .ref (y 24), .int 0, .long 0, .ref (y 25), .ref (y 26), .ref (y 27), .ref (y 28), .ref (y 29), .ref (y 30), .ref (y 31), .ref (y 32), .ref (y 33), .ref (y 34), .ref (y 35), .ref (y 36), .ref (y 37), .int 0, .int 0, .ref (y 38), .long 0, .int 0, .int 0])), (y 29, .inl (ct 0, 5, .inl (fun _ => 0)))] H := hw
      refine zfr 39 [.int 1] rfl rfl ?_
      refine lv_if_ne (tgt := 45) hx hb dX12_lengths_39 (by decide) (fun _ => ?_) (fun h => absurd h (by decide))
      refine lv_iinc (v := 1) (lv' := [(2, .int 1), (5, .int 0), (4, .int (-1)), (3, .int (-1)), (0, .ref h0), (1, .int 2)]) hx hb dX12_lengths_45 hl (k := 3) rfl (by decide) (by decide) rfl (fun ls hl => ?_)
      refine lv_iload_n hx hb dX12_lengths_48 rfl (lv_at hl 3 rfl) ?_
      refine lv_if_ge (tgt := 55) hx hb dX12_lengths_49 (by decide) (fun h => absurd h (by decide)) (fun _ => ?_)
      refine lv_iload hx hb dX12_lengths_52 (lv_at hl 1 rfl) ?_
      refine lv_istore_n (lv' := [(3, .int 0), (2, .int 1), (5, .int 0), (4, .int (-1)), (0, .ref h0), (1, .int 2)]) hx hb dX12_lengths_54 rfl hl (by decide) rfl (fun ls hl => ?_)
      refine lv_iload hx hb dX12_lengths_55 (lv_at hl 2 rfl) ?_
      refine lv_istore (lv' := [(4, .int 0), (3, .int 0), (2, .int 1), (5, .int 0), (0, .ref h0), (1, .int 2)]) hx hb dX12_lengths_57 hl (by decide) rfl (fun ls hl => ?_)
      refine lv_iinc (v := 1) (lv' := [(5, .int 1), (4, .int 0), (3, .int 0), (2, .int 1), (0, .ref h0), (1, .int 2)]) hx hb dX12_lengths_59 hl (k := 3) rfl (by decide) (by decide) rfl (fun ls hl => ?_)
      refine lv_goto (tgt := 26) hx hb dX12_lengths_62 (by decide) ?_
      refine lv_iload hx hb dX12_lengths_26 (lv_at hl 0 rfl) ?_
      refine lv_bipush (v := 31) hx hb dX12_lengths_28 (by decide) ?_
      refine lv_icmp_ge (tgt := 65) hx hb dX12_lengths_30 (by decide) (fun h => absurd h (by decide)) (fun _ => ?_)
      refine lv_aload_n hx hb dX12_lengths_33 rfl (lv_at hl 4 rfl) ?_
      refine lv_iload hx hb dX12_lengths_34 (lv_at hl 0 rfl) ?_
      refine zcall2 (va_runV (As := [.int 1]) (rest := []) ⟨hx, hb, hml, hown, hts⟩ (c_asSeen12 l D ct h0 y 0 0 0 0 0 0 0 0 0 0 0 0 0 0 0 0 0 0 1 (fun _ => 0) (by decide) H.size) (cwV 1 hts gX12_lengths_X12_isAsSeen rfl rfl rfl (by decide +kernel) ⟨Nat.le_of_ble_eq_true rfl, Nat.le_of_ble_eq_true rfl⟩) (zpreV hK hw hS hA zZ.nil hN [1, 2] rfl rfl 11 1 rfl rfl) rfl rfl hl.1 rfl (lv_room (Nat.le_of_ble_eq_true rfl)) dX12_lengths_36 ⟨Nat.le_of_ble_eq_true rfl, Nat.le_of_ble_eq_true rfl⟩) hw hS hA [1, 2] [0] rfl rfl rfl rfl (fun _ H locs hp271 hw hS => ?_)
      have hw : zPD D A [(y 1, .inl (ct 0, 8, .inl (upd (upd (fun _ => 0) 2 1) 3 2))), (h0, .inr (11, [.int 0, .int 0, .ref (y 0), .int 0, .int 0, .int 0, .int 0, .long 0, .int 0, .int 0, .ref (y 1), .ref (y 2), .ref (y 3), .ref (y 4), .ref (y 5), .ref (y 6), .ref (y 7), .ref (y 8), .ref (y 9), .ref (y 10), .ref (y 11), .ref (y 12), .int 0, .int 0, .ref (y 13), .ref (y 14), .ref (y 15), .ref (y 16), .ref (y 17), .ref (y 18), .ref (y 19), .ref (y 20), .ref (y 21), .ref (y 22), .ref (y 23), .ref (y 24), .int 0, .long 0, .ref (y 25), .ref (y 26), .ref (y 27), .ref (y 28), .ref (y 29), .ref (y 30), .ref (y 31), .ref (y 32), .ref (y 33), .ref (y 34), .ref (y 35), .ref (y 36), .ref (y 37), .int 0, .int 0, .ref (y 38), .long 0, .int 0, .int 0])), (y 29, .inl (ct 0, 5, .inl (fun _ => 0)))] H := hw
      refine zfr 39 [.int 1] rfl rfl ?_
      refine lv_if_ne (tgt := 45) hx hb dX12_lengths_39 (by decide) (fun _ => ?_) (fun h => absurd h (by decide))
      refine lv_iinc (v := 2) (lv' := [(2, .int 2), (5, .int 1), (4, .int 0), (3, .int 0), (0, .ref h0), (1, .int 2)]) hx hb dX12_lengths_45 hl (k := 3) rfl (by decide) (by decide) rfl (fun ls hl => ?_)
      refine lv_iload_n hx hb dX12_lengths_48 rfl (lv_at hl 3 rfl) ?_
      refine lv_if_ge (tgt := 55) hx hb dX12_lengths_49 (by decide) (fun _ => ?_) (fun h => absurd (by decide) h)
      refine lv_iload hx hb dX12_lengths_55 (lv_at hl 1 rfl) ?_
      refine lv_istore (lv' := [(4, .int 1), (2, .int 2), (5, .int 1), (3, .int 0), (0, .ref h0), (1, .int 2)]) hx hb dX12_lengths_57 hl (by decide) rfl (fun ls hl => ?_)
      refine lv_iinc (v := 2) (lv' := [(5, .int 2), (4, .int 1), (2, .int 2), (3, .int 0), (0, .ref h0), (1, .int 2)]) hx hb dX12_lengths_59 hl (k := 2) rfl (by decide) (by decide) rfl (fun ls hl => ?_)
      refine lv_goto (tgt := 26) hx hb dX12_lengths_62 (by decide) ?_
      refine lv_iload hx hb dX12_lengths_26 (lv_at hl 0 rfl) ?_
      refine lv_bipush (v := 31) hx hb dX12_lengths_28 (by decide) ?_
      refine lv_icmp_ge (tgt := 65) hx hb dX12_lengths_30 (by decide) (fun h => absurd h (by decide)) (fun _ => ?_)
      refine lv_aload_n hx hb dX12_lengths_33 rfl (lv_at hl 4 rfl) ?_
      refine lv_iload hx hb dX12_lengths_34 (lv_at hl 0 rfl) ?_
      refine zcall2 (va_runV (As := [.int 2]) (rest := []) ⟨hx, hb, hml, hown, hts⟩ (c_asSeen12 l D ct h0 y 0 0 0 0 0 0 0 0 0 0 0 0 0 0 0 0 0 0 2 (fun _ => 0) (by decide) H.size) (cwV 1 hts gX12_lengths_X12_isAsSeen rfl rfl rfl (by decide +kernel) ⟨Nat.le_of_ble_eq_true rfl, Nat.le_of_ble_eq_true rfl⟩) (zpreV hK hw hS hA zZ.nil hN [1, 2] rfl rfl 11 1 rfl rfl) rfl rfl hl.1 rfl (lv_room (Nat.le_of_ble_eq_true rfl)) dX12_lengths_36 ⟨Nat.le_of_ble_eq_true rfl, Nat.le_of_ble_eq_true rfl⟩) hw hS hA [1, 2] [0] rfl rfl rfl rfl (fun _ H locs hp275 hw hS => ?_)
      have hw : zPD D A [(y 1, .inl (ct 0, 8, .inl (upd (upd (fun _ => 0) 2 1) 3 2))), (h0, .inr (11, [.int 0, .int 0, .ref (y 0), .int 0, .int 0, .int 0, .int 0, .long 0, .int 0, .int 0, .ref (y 1), .ref (y 2), .ref (y 3), .ref (y 4), .ref (y 5), .ref (y 6), .ref (y 7), .ref (y 8), .ref (y 9), .ref (y 10), .ref (y 11), .ref (y 12), .int 0, .int 0, .ref (y 13), .ref (y 14), .ref (y 15), .ref (y 16), .ref (y 17), .ref (y 18), .ref (y 19), .ref (y 20), .ref (y 21), .ref (y 22), .ref (y 23), .ref (y 24), .int 0, .long 0, .ref (y 25), .ref (y 26), .ref (y 27), .ref (y 28), .ref (y 29), .ref (y 30), .ref (y 31), .ref (y 32), .ref (y 33), .ref (y 34), .ref (y 35), .ref (y 36), .ref (y 37), .int 0, .int 0, .ref (y 38), .long 0, .int 0, .int 0])), (y 29, .inl (ct 0, 5, .inl (fun _ => 0)))] H := hw
      refine zfr 39 [.int 1] rfl rfl ?_
      refine lv_if_ne (tgt := 45) hx hb dX12_lengths_39 (by decide) (fun _ => ?_) (fun h => absurd h (by decide))
      refine lv_iinc (v := 3) (lv' := [(2, .int 3), (5, .int 2), (4, .int 1), (3, .int 0), (0, .ref h0), (1, .int 2)]) hx hb dX12_lengths_45 hl (k := 2) rfl (by decide) (by decide) rfl (fun ls hl => ?_)
      refine lv_iload_n hx hb dX12_lengths_48 rfl (lv_at hl 3 rfl) ?_
      refine lv_if_ge (tgt := 55) hx hb dX12_lengths_49 (by decide) (fun _ => ?_) (fun h => absurd (by decide) h)
      refine lv_iload hx hb dX12_lengths_55 (lv_at hl 1 rfl) ?_
      refine lv_istore (lv' := [(4, .int 2), (2, .int 3), (5, .int 2), (3, .int 0), (0, .ref h0), (1, .int 2)]) hx hb dX12_lengths_57 hl (by decide) rfl (fun ls hl => ?_)
      refine lv_iinc (v := 3) (lv' := [(5, .int 3), (4, .int 2), (2, .int 3), (3, .int 0), (0, .ref h0), (1, .int 2)]) hx hb dX12_lengths_59 hl (k := 2) rfl (by decide) (by decide) rfl (fun ls hl => ?_)
      refine lv_goto (tgt := 26) hx hb dX12_lengths_62 (by decide) ?_
      refine lv_iload hx hb dX12_lengths_26 (lv_at hl 0 rfl) ?_
      refine lv_bipush (v := 31) hx hb dX12_lengths_28 (by decide) ?_
      refine lv_icmp_ge (tgt := 65) hx hb dX12_lengths_30 (by decide) (fun h => absurd h (by decide)) (fun _ => ?_)
      refine lv_aload_n hx hb dX12_lengths_33 rfl (lv_at hl 4 rfl) ?_
      refine lv_iload hx hb dX12_lengths_34 (lv_at hl 0 rfl) ?_
      refine zcall2 (va_runV (As := [.int 3]) (rest := []) ⟨hx, hb, hml, hown, hts⟩ (c_asSeen12 l D ct h0 y 0 0 0 0 0 0 0 0 0 0 0 0 0 0 0 0 0 0 3 (fun _ => 0) (by decide) H.size) (cwV 1 hts gX12_lengths_X12_isAsSeen rfl rfl rfl (by decide +kernel) ⟨Nat.le_of_ble_eq_true rfl, Nat.le_of_ble_eq_true rfl⟩) (zpreV hK hw hS hA zZ.nil hN [1, 2] rfl rfl 11 1 rfl rfl) rfl rfl hl.1 rfl (lv_room (Nat.le_of_ble_eq_true rfl)) dX12_lengths_36 ⟨Nat.le_of_ble_eq_true rfl, Nat.le_of_ble_eq_true rfl⟩) hw hS hA [1, 2] [0] rfl rfl rfl rfl (fun _ H locs hp279 hw hS => ?_)
      have hw : zPD D A [(y 1, .inl (ct 0, 8, .inl (upd (upd (fun _ => 0) 2 1) 3 2))), (h0, .inr (11, [.int 0, .int 0, .ref (y 0), .int 0, .int 0, .int 0, .int 0, .long 0, .int 0, .int 0, .ref (y 1), .ref (y 2), .ref (y 3), .ref (y 4), .ref (y 5), .ref (y 6), .ref (y 7), .ref (y 8), .ref (y 9), .ref (y 10), .ref (y 11), .ref (y 12), .int 0, .int 0, .ref (y 13), .ref (y 14), .ref (y 15), .ref (y 16), .ref (y 17), .ref (y 18), .ref (y 19), .ref (y 20), .ref (y 21), .ref (y 22), .ref (y 23), .ref (y 24), .int 0, .long 0, .ref (y 25), .ref (y 26), .ref (y 27), .ref (y 28), .ref (y 29), .ref (y 30), .ref (y 31), .ref (y 32), .ref (y 33), .ref (y 34), .ref (y 35), .ref (y 36), .ref (y 37), .int 0, .int 0, .ref (y 38), .long 0, .int 0, .int 0])), (y 29, .inl (ct 0, 5, .inl (fun _ => 0)))] H := hw
      refine zfr 39 [.int 1] rfl rfl ?_
      refine lv_if_ne (tgt := 45) hx hb dX12_lengths_39 (by decide) (fun _ => ?_) (fun h => absurd h (by decide))
      refine lv_iinc (v := 4) (lv' := [(2, .int 4), (5, .int 3), (4, .int 2), (3, .int 0), (0, .ref h0), (1, .int 2)]) hx hb dX12_lengths_45 hl (k := 2) rfl (by decide) (by decide) rfl (fun ls hl => ?_)
      refine lv_iload_n hx hb dX12_lengths_48 rfl (lv_at hl 3 rfl) ?_
      refine lv_if_ge (tgt := 55) hx hb dX12_lengths_49 (by decide) (fun _ => ?_) (fun h => absurd (by decide) h)
      refine lv_iload hx hb dX12_lengths_55 (lv_at hl 1 rfl) ?_
      refine lv_istore (lv' := [(4, .int 3), (2, .int 4), (5, .int 3), (3, .int 0), (0, .ref h0), (1, .int 2)]) hx hb dX12_lengths_57 hl (by decide) rfl (fun ls hl => ?_)
      refine lv_iinc (v := 4) (lv' := [(5, .int 4), (4, .int 3), (2, .int 4), (3, .int 0), (0, .ref h0), (1, .int 2)]) hx hb dX12_lengths_59 hl (k := 2) rfl (by decide) (by decide) rfl (fun ls hl => ?_)
      refine lv_goto (tgt := 26) hx hb dX12_lengths_62 (by decide) ?_
      refine lv_iload hx hb dX12_lengths_26 (lv_at hl 0 rfl) ?_
      refine lv_bipush (v := 31) hx hb dX12_lengths_28 (by decide) ?_
      refine lv_icmp_ge (tgt := 65) hx hb dX12_lengths_30 (by decide) (fun h => absurd h (by decide)) (fun _ => ?_)
      refine lv_aload_n hx hb dX12_lengths_33 rfl (lv_at hl 4 rfl) ?_
      refine lv_iload hx hb dX12_lengths_34 (lv_at hl 0 rfl) ?_
      refine zcall2 (va_runV (As := [.int 4]) (rest := []) ⟨hx, hb, hml, hown, hts⟩ (c_asSeen12 l D ct h0 y 0 0 0 0 0 0 0 0 0 0 0 0 0 0 0 0 0 0 4 (fun _ => 0) (by decide) H.size) (cwV 1 hts gX12_lengths_X12_isAsSeen rfl rfl rfl (by decide +kernel) ⟨Nat.le_of_ble_eq_true rfl, Nat.le_of_ble_eq_true rfl⟩) (zpreV hK hw hS hA zZ.nil hN [1, 2] rfl rfl 11 1 rfl rfl) rfl rfl hl.1 rfl (lv_room (Nat.le_of_ble_eq_true rfl)) dX12_lengths_36 ⟨Nat.le_of_ble_eq_true rfl, Nat.le_of_ble_eq_true rfl⟩) hw hS hA [1, 2] [0] rfl rfl rfl rfl (fun _ H locs hp283 hw hS => ?_)
      have hw : zPD D A [(y 1, .inl (ct 0, 8, .inl (upd (upd (fun _ => 0) 2 1) 3 2))), (h0, .inr (11, [.int 0, .int 0, .ref (y 0), .int 0, .int 0, .int 0, .int 0, .long 0, .int 0, .int 0, .ref (y 1), .ref (y 2), .ref (y 3), .ref (y 4), .ref (y 5), .ref (y 6), .ref (y 7), .ref (y 8), .ref (y 9), .ref (y 10), .ref (y 11), .ref (y 12), .int 0, .int 0, .ref (y 13), .ref (y 14), .ref (y 15), .ref (y 16), .ref (y 17), .ref (y 18), .ref (y 19), .ref (y 20), .ref (y 21), .ref (y 22), .ref (y 23), .ref (y 24), .int 0, .long 0, .ref (y 25), .ref (y 26), .ref (y 27), .ref (y 28), .ref (y 29), .ref (y 30), .ref (y 31), .ref (y 32), .ref (y 33), .ref (y 34), .ref (y 35), .ref (y 36), .ref (y 37), .int 0, .int 0, .ref (y 38), .long 0, .int 0, .int 0])), (y 29, .inl (ct 0, 5, .inl (fun _ => 0)))] H := hw
      refine zfr 39 [.int 1] rfl rfl ?_
      refine lv_if_ne (tgt := 45) hx hb dX12_lengths_39 (by decide) (fun _ => ?_) (fun h => absurd h (by decide))
      refine lv_iinc (v := 5) (lv' := [(2, .int 5), (5, .int 4), (4, .int 3), (3, .int 0), (0, .ref h0), (1, .int 2)]) hx hb dX12_lengths_45 hl (k := 2) rfl (by decide) (by decide) rfl (fun ls hl => ?_)
      refine lv_iload_n hx hb dX12_lengths_48 rfl (lv_at hl 3 rfl) ?_
      refine lv_if_ge (tgt := 55) hx hb dX12_lengths_49 (by decide) (fun _ => ?_) (fun h => absurd (by decide) h)
      refine lv_iload hx hb dX12_lengths_55 (lv_at hl 1 rfl) ?_
      refine lv_istore (lv' := [(4, .int 4), (2, .int 5), (5, .int 4), (3, .int 0), (0, .ref h0), (1, .int 2)]) hx hb dX12_lengths_57 hl (by decide) rfl (fun ls hl => ?_)
      refine lv_iinc (v := 5) (lv' := [(5, .int 5), (4, .int 4), (2, .int 5), (3, .int 0), (0, .ref h0), (1, .int 2)]) hx hb dX12_lengths_59 hl (k := 2) rfl (by decide) (by decide) rfl (fun ls hl => ?_)
      refine lv_goto (tgt := 26) hx hb dX12_lengths_62 (by decide) ?_
      refine lv_iload hx hb dX12_lengths_26 (lv_at hl 0 rfl) ?_
      refine lv_bipush (v := 31) hx hb dX12_lengths_28 (by decide) ?_
      refine lv_icmp_ge (tgt := 65) hx hb dX12_lengths_30 (by decide) (fun h => absurd h (by decide)) (fun _ => ?_)
      refine lv_aload_n hx hb dX12_lengths_33 rfl (lv_at hl 4 rfl) ?_
      refine lv_iload hx hb dX12_lengths_34 (lv_at hl 0 rfl) ?_
      refine zcall2 (va_runV (As := [.int 5]) (rest := []) ⟨hx, hb, hml, hown, hts⟩ (c_asSeen12 l D ct h0 y 0 0 0 0 0 0 0 0 0 0 0 0 0 0 0 0 0 0 5 (fun _ => 0) (by decide) H.size) (cwV 1 hts gX12_lengths_X12_isAsSeen rfl rfl rfl (by decide +kernel) ⟨Nat.le_of_ble_eq_true rfl, Nat.le_of_ble_eq_true rfl⟩) (zpreV hK hw hS hA zZ.nil hN [1, 2] rfl rfl 11 1 rfl rfl) rfl rfl hl.1 rfl (lv_room (Nat.le_of_ble_eq_true rfl)) dX12_lengths_36 ⟨Nat.le_of_ble_eq_true rfl, Nat.le_of_ble_eq_true rfl⟩) hw hS hA [1, 2] [0] rfl rfl rfl rfl (fun _ H locs hp287 hw hS => ?_)
      have hw : zPD D A [(y 1, .inl (ct 0, 8, .inl (upd (upd (fun _ => 0) 2 1) 3 2))), (h0, .inr (11, [.int 0, .int 0, .ref (y 0), .int 0, .int 0, .int 0, .int 0, .long 0, .int 0, .int 0, .ref (y 1), .ref (y 2), .ref (y 3), .ref (y 4), .ref (y 5), .ref (y 6), .ref (y 7), .ref (y 8), .ref (y 9), .ref (y 10), .ref (y 11), .ref (y 12), .int 0, .int 0, .ref (y 13), .ref (y 14), .ref (y 15), .ref (y 16), .ref (y 17), .ref (y 18), .ref (y 19), .ref (y 20), .ref (y 21), .ref (y 22), .ref (y 23), .ref (y 24), .int 0, .long 0, .ref (y 25), .ref (y 26), .ref (y 27), .ref (y 28), .ref (y 29), .ref (y 30), .ref (y 31), .ref (y 32), .ref (y 33), .ref (y 34), .ref (y 35), .ref (y 36), .ref (y 37), .int 0, .int 0, .ref (y 38), .long 0, .int 0, .int 0])), (y 29, .inl (ct 0, 5, .inl (fun _ => 0)))] H := hw
      refine zfr 39 [.int 1] rfl rfl ?_
      refine lv_if_ne (tgt := 45) hx hb dX12_lengths_39 (by decide) (fun _ => ?_) (fun h => absurd h (by decide))
      refine lv_iinc (v := 6) (lv' := [(2, .int 6), (5, .int 5), (4, .int 4), (3, .int 0), (0, .ref h0), (1, .int 2)]) hx hb dX12_lengths_45 hl (k := 2) rfl (by decide) (by decide) rfl (fun ls hl => ?_)
      refine lv_iload_n hx hb dX12_lengths_48 rfl (lv_at hl 3 rfl) ?_
      refine lv_if_ge (tgt := 55) hx hb dX12_lengths_49 (by decide) (fun _ => ?_) (fun h => absurd (by decide) h)
      refine lv_iload hx hb dX12_lengths_55 (lv_at hl 1 rfl) ?_
      refine lv_istore (lv' := [(4, .int 5), (2, .int 6), (5, .int 5), (3, .int 0), (0, .ref h0), (1, .int 2)]) hx hb dX12_lengths_57 hl (by decide) rfl (fun ls hl => ?_)
      refine lv_iinc (v := 6) (lv' := [(5, .int 6), (4, .int 5), (2, .int 6), (3, .int 0), (0, .ref h0), (1, .int 2)]) hx hb dX12_lengths_59 hl (k := 2) rfl (by decide) (by decide) rfl (fun ls hl => ?_)
      refine lv_goto (tgt := 26) hx hb dX12_lengths_62 (by decide) ?_
      refine lv_iload hx hb dX12_lengths_26 (lv_at hl 0 rfl) ?_
      refine lv_bipush (v := 31) hx hb dX12_lengths_28 (by decide) ?_
      refine lv_icmp_ge (tgt := 65) hx hb dX12_lengths_30 (by decide) (fun h => absurd h (by decide)) (fun _ => ?_)
      refine lv_aload_n hx hb dX12_lengths_33 rfl (lv_at hl 4 rfl) ?_
      refine lv_iload hx hb dX12_lengths_34 (lv_at hl 0 rfl) ?_
      refine zcall2 (va_runV (As := [.int 6]) (rest := []) ⟨hx, hb, hml, hown, hts⟩ (c_asSeen12 l D ct h0 y 0 0 0 0 0 0 0 0 0 0 0 0 0 0 0 0 0 0 6 (fun _ => 0) (by decide) H.size) (cwV 1 hts gX12_lengths_X12_isAsSeen rfl rfl rfl (by decide +kernel) ⟨Nat.le_of_ble_eq_true rfl, Nat.le_of_ble_eq_true rfl⟩) (zpreV hK hw hS hA zZ.nil hN [1, 2] rfl rfl 11 1 rfl rfl) rfl rfl hl.1 rfl (lv_room (Nat.le_of_ble_eq_true rfl)) dX12_lengths_36 ⟨Nat.le_of_ble_eq_true rfl, Nat.le_of_ble_eq_true rfl⟩) hw hS hA [1, 2] [0] rfl rfl rfl rfl (fun _ H locs hp291 hw hS => ?_)
      have hw : zPD D A [(y 1, .inl (ct 0, 8, .inl (upd (upd (fun _ => 0) 2 1) 3 2))), (h0, .inr (11, [.int 0, .int 0, .ref (y 0), .int 0, .int 0, .int 0, .int 0, .long 0, .int 0, .int 0, .ref (y 1), .ref (y 2), .ref (y 3), .ref (y 4), .ref (y 5), .ref (y 6), .ref (y 7), .ref (y 8), .ref (y 9), .ref (y 10), .ref (y 11), .ref (y 12), .int 0, .int 0, .ref (y 13), .ref (y 14), .ref (y 15), .ref (y 16), .ref (y 17), .ref (y 18), .ref (y 19), .ref (y 20), .ref (y 21), .ref (y 22), .ref (y 23), .ref (y 24), .int 0, .long 0, .ref (y 25), .ref (y 26), .ref (y 27), .ref (y 28), .ref (y 29), .ref (y 30), .ref (y 31), .ref (y 32), .ref (y 33), .ref (y 34), .ref (y 35), .ref (y 36), .ref (y 37), .int 0, .int 0, .ref (y 38), .long 0, .int 0, .int 0])), (y 29, .inl (ct 0, 5, .inl (fun _ => 0)))] H := hw
      refine zfr 39 [.int 1] rfl rfl ?_
      refine lv_if_ne (tgt := 45) hx hb dX12_lengths_39 (by decide) (fun _ => ?_) (fun h => absurd h (by decide))
      refine lv_iinc (v := 7) (lv' := [(2, .int 7), (5, .int 6), (4, .int 5), (3, .int 0), (0, .ref h0), (1, .int 2)]) hx hb dX12_lengths_45 hl (k := 2) rfl (by decide) (by decide) rfl (fun ls hl => ?_)
      refine lv_iload_n hx hb dX12_lengths_48 rfl (lv_at hl 3 rfl) ?_
      refine lv_if_ge (tgt := 55) hx hb dX12_lengths_49 (by decide) (fun _ => ?_) (fun h => absurd (by decide) h)
      refine lv_iload hx hb dX12_lengths_55 (lv_at hl 1 rfl) ?_
      refine lv_istore (lv' := [(4, .int 6), (2, .int 7), (5, .int 6), (3, .int 0), (0, .ref h0), (1, .int 2)]) hx hb dX12_lengths_57 hl (by decide) rfl (fun ls hl => ?_)
      refine lv_iinc (v := 7) (lv' := [(5, .int 7), (4, .int 6), (2, .int 7), (3, .int 0), (0, .ref h0), (1, .int 2)]) hx hb dX12_lengths_59 hl (k := 2) rfl (by decide) (by decide) rfl (fun ls hl => ?_)
      refine lv_goto (tgt := 26) hx hb dX12_lengths_62 (by decide) ?_
      refine lv_iload hx hb dX12_lengths_26 (lv_at hl 0 rfl) ?_
      refine lv_bipush (v := 31) hx hb dX12_lengths_28 (by decide) ?_
      refine lv_icmp_ge (tgt := 65) hx hb dX12_lengths_30 (by decide) (fun h => absurd h (by decide)) (fun _ => ?_)
      refine lv_aload_n hx hb dX12_lengths_33 rfl (lv_at hl 4 rfl) ?_
      refine lv_iload hx hb dX12_lengths_34 (lv_at hl 0 rfl) ?_
      refine zcall2 (va_runV (As := [.int 7]) (rest := []) ⟨hx, hb, hml, hown, hts⟩ (c_asSeen12 l D ct h0 y 0 0 0 0 0 0 0 0 0 0 0 0 0 0 0 0 0 0 7 (fun _ => 0) (by decide) H.size) (cwV 1 hts gX12_lengths_X12_isAsSeen rfl rfl rfl (by decide +kernel) ⟨Nat.le_of_ble_eq_true rfl, Nat.le_of_ble_eq_true rfl⟩) (zpreV hK hw hS hA zZ.nil hN [1, 2] rfl rfl 11 1 rfl rfl) rfl rfl hl.1 rfl (lv_room (Nat.le_of_ble_eq_true rfl)) dX12_lengths_36 ⟨Nat.le_of_ble_eq_true rfl, Nat.le_of_ble_eq_true rfl⟩) hw hS hA [1, 2] [0] rfl rfl rfl rfl (fun _ H locs hp295 hw hS => ?_)
      have hw : zPD D A [(y 1, .inl (ct 0, 8, .inl (upd (upd (fun _ => 0) 2 1) 3 2))), (h0, .inr (11, [.int 0, .int 0, .ref (y 0), .int 0, .int 0, .int 0, .int 0, .long 0, .int 0, .int 0, .ref (y 1), .ref (y 2), .ref (y 3), .ref (y 4), .ref (y 5), .ref (y 6), .ref (y 7), .ref (y 8), .ref (y 9), .ref (y 10), .ref (y 11), .ref (y 12), .int 0, .int 0, .ref (y 13), .ref (y 14), .ref (y 15), .ref (y 16), .ref (y 17), .ref (y 18), .ref (y 19), .ref (y 20), .ref (y 21), .ref (y 22), .ref (y 23), .ref (y 24), .int 0, .long 0, .ref (y 25), .ref (y 26), .ref (y 27), .ref (y 28), .ref (y 29), .ref (y 30), .ref (y 31), .ref (y 32), .ref (y 33), .ref (y 34), .ref (y 35), .ref (y 36), .ref (y 37), .int 0, .int 0, .ref (y 38), .long 0, .int 0, .int 0])), (y 29, .inl (ct 0, 5, .inl (fun _ => 0)))] H := hw
      refine zfr 39 [.int 1] rfl rfl ?_
      refine lv_if_ne (tgt := 45) hx hb dX12_lengths_39 (by decide) (fun _ => ?_) (fun h => absurd h (by decide))
      refine lv_iinc (v := 8) (lv' := [(2, .int 8), (5, .int 7), (4, .int 6), (3, .int 0), (0, .ref h0), (1, .int 2)]) hx hb dX12_lengths_45 hl (k := 2) rfl (by decide) (by decide) rfl (fun ls hl => ?_)
      refine lv_iload_n hx hb dX12_lengths_48 rfl (lv_at hl 3 rfl) ?_
      refine lv_if_ge (tgt := 55) hx hb dX12_lengths_49 (by decide) (fun _ => ?_) (fun h => absurd (by decide) h)
      refine lv_iload hx hb dX12_lengths_55 (lv_at hl 1 rfl) ?_
      refine lv_istore (lv' := [(4, .int 7), (2, .int 8), (5, .int 7), (3, .int 0), (0, .ref h0), (1, .int 2)]) hx hb dX12_lengths_57 hl (by decide) rfl (fun ls hl => ?_)
      refine lv_iinc (v := 8) (lv' := [(5, .int 8), (4, .int 7), (2, .int 8), (3, .int 0), (0, .ref h0), (1, .int 2)]) hx hb dX12_lengths_59 hl (k := 2) rfl (by decide) (by decide) rfl (fun ls hl => ?_)
      refine lv_goto (tgt := 26) hx hb dX12_lengths_62 (by decide) ?_
      refine lv_iload hx hb dX12_lengths_26 (lv_at hl 0 rfl) ?_
      refine lv_bipush (v := 31) hx hb dX12_lengths_28 (by decide) ?_
      refine lv_icmp_ge (tgt := 65) hx hb dX12_lengths_30 (by decide) (fun h => absurd h (by decide)) (fun _ => ?_)
      refine lv_aload_n hx hb dX12_lengths_33 rfl (lv_at hl 4 rfl) ?_
      refine lv_iload hx hb dX12_lengths_34 (lv_at hl 0 rfl) ?_
      refine zcall2 (va_runV (As := [.int 8]) (rest := []) ⟨hx, hb, hml, hown, hts⟩ (c_asSeen12 l D ct h0 y 0 0 0 0 0 0 0 0 0 0 0 0 0 0 0 0 0 0 8 (fun _ => 0) (by decide) H.size) (cwV 1 hts gX12_lengths_X12_isAsSeen rfl rfl rfl (by decide +kernel) ⟨Nat.le_of_ble_eq_true rfl, Nat.le_of_ble_eq_true rfl⟩) (zpreV hK hw hS hA zZ.nil hN [1, 2] rfl rfl 11 1 rfl rfl) rfl rfl hl.1 rfl (lv_room (Nat.le_of_ble_eq_true rfl)) dX12_lengths_36 ⟨Nat.le_of_ble_eq_true rfl, Nat.le_of_ble_eq_true rfl⟩) hw hS hA [1, 2] [0] rfl rfl rfl rfl (fun _ H locs hp299 hw hS => ?_)
      have hw : zPD D A [(y 1, .inl (ct 0, 8, .inl (upd (upd (fun _ => 0) 2 1) 3 2))), (h0, .inr (11, [.int 0, .int 0, .ref (y 0), .int 0, .int 0, .int 0, .int 0, .long 0, .int 0, .int 0, .ref (y 1), .ref (y 2), .ref (y 3), .ref (y 4), .ref (y 5), .ref (y 6), .ref (y 7), .ref (y 8), .ref (y 9), .ref (y 10), .ref (y 11), .ref (y 12), .int 0, .int 0, .ref (y 13), .ref (y 14), .ref (y 15), .ref (y 16), .ref (y 17), .ref (y 18), .ref (y 19), .ref (y 20), .ref (y 21), .ref (y 22), .ref (y 23), .ref (y 24), .int 0, .long 0, .ref (y 25), .ref (y 26), .ref (y 27), .ref (y 28), .ref (y 29), .ref (y 30), .ref (y 31), .ref (y 32), .ref (y 33), .ref (y 34), .ref (y 35), .ref (y 36), .ref (y 37), .int 0, .int 0, .ref (y 38), .long 0, .int 0, .int 0])), (y 29, .inl (ct 0, 5, .inl (fun _ => 0)))] H := hw
      refine zfr 39 [.int 1] rfl rfl ?_
      refine lv_if_ne (tgt := 45) hx hb dX12_lengths_39 (by decide) (fun _ => ?_) (fun h => absurd h (by decide))
      refine lv_iinc (v := 9) (lv' := [(2, .int 9), (5, .int 8), (4, .int 7), (3, .int 0), (0, .ref h0), (1, .int 2)]) hx hb dX12_lengths_45 hl (k := 2) rfl (by decide) (by decide) rfl (fun ls hl => ?_)
      refine lv_iload_n hx hb dX12_lengths_48 rfl (lv_at hl 3 rfl) ?_
      refine lv_if_ge (tgt := 55) hx hb dX12_lengths_49 (by decide) (fun _ => ?_) (fun h => absurd (by decide) h)
      refine lv_iload hx hb dX12_lengths_55 (lv_at hl 1 rfl) ?_
      refine lv_istore (lv' := [(4, .int 8), (2, .int 9), (5, .int 8), (3, .int 0), (0, .ref h0), (1, .int 2)]) hx hb dX12_lengths_57 hl (by decide) rfl (fun ls hl => ?_)
      refine lv_iinc (v := 9) (lv' := [(5, .int 9), (4, .int 8), (2, .int 9), (3, .int 0), (0, .ref h0), (1, .int 2)]) hx hb dX12_lengths_59 hl (k := 2) rfl (by decide) (by decide) rfl (fun ls hl => ?_)
      refine lv_goto (tgt := 26) hx hb dX12_lengths_62 (by decide) ?_
      refine lv_iload hx hb dX12_lengths_26 (lv_at hl 0 rfl) ?_
      refine lv_bipush (v := 31) hx hb dX12_lengths_28 (by decide) ?_
      refine lv_icmp_ge (tgt := 65) hx hb dX12_lengths_30 (by decide) (fun h => absurd h (by decide)) (fun _ => ?_)
      refine lv_aload_n hx hb dX12_lengths_33 rfl (lv_at hl 4 rfl) ?_
      refine lv_iload hx hb dX12_lengths_34 (lv_at hl 0 rfl) ?_
      refine zcall2 (va_runV (As := [.int 9]) (rest := []) ⟨hx, hb, hml, hown, hts⟩ (c_asSeen12 l D ct h0 y 0 0 0 0 0 0 0 0 0 0 0 0 0 0 0 0 0 0 9 (fun _ => 0) (by decide) H.size) (cwV 1 hts gX12_lengths_X12_isAsSeen rfl rfl rfl (by decide +kernel) ⟨Nat.le_of_ble_eq_true rfl, Nat.le_of_ble_eq_true rfl⟩) (zpreV hK hw hS hA zZ.nil hN [1, 2] rfl rfl 11 1 rfl rfl) rfl rfl hl.1 rfl (lv_room (Nat.le_of_ble_eq_true rfl)) dX12_lengths_36 ⟨Nat.le_of_ble_eq_true rfl, Nat.le_of_ble_eq_true rfl⟩) hw hS hA [1, 2] [0] rfl rfl rfl rfl (fun _ H locs hp303 hw hS => ?_)
      have hw : zPD D A [(y 1, .inl (ct 0, 8, .inl (upd (upd (fun _ => 0) 2 1) 3 2))), (h0, .inr (11, [.int 0, .int 0, .ref (y 0), .int 0, .int 0, .int 0, .int 0, .long 0, .int 0, .int 0, .ref (y 1), .ref (y 2), .ref (y 3), .ref (y 4), .ref (y 5), .ref (y 6), .ref (y 7), .ref (y 8), .ref (y 9), .ref (y 10), .ref (y 11), .ref (y 12), .int 0, .int 0, .ref (y 13), .ref (y 14), .ref (y 15), .ref (y 16), .ref (y 17), .ref (y 18), .ref (y 19), .ref (y 20), .ref (y 21), .ref (y 22), .ref (y 23), .ref (y 24), .int 0, .long 0, .ref (y 25), .ref (y 26), .ref (y 27), .ref (y 28), .ref (y 29), .ref (y 30), .ref (y 31), .ref (y 32), .ref (y 33), .ref (y 34), .ref (y 35), .ref (y 36), .ref (y 37), .int 0, .int 0, .ref (y 38), .long 0, .int 0, .int 0])), (y 29, .inl (ct 0, 5, .inl (fun _ => 0)))] H := hw
      refine zfr 39 [.int 1] rfl rfl ?_
      refine lv_if_ne (tgt := 45) hx hb dX12_lengths_39 (by decide) (fun _ => ?_) (fun h => absurd h (by decide))
      refine lv_iinc (v := 10) (lv' := [(2, .int 10), (5, .int 9), (4, .int 8), (3, .int 0), (0, .ref h0), (1, .int 2)]) hx hb dX12_lengths_45 hl (k := 2) rfl (by decide) (by decide) rfl (fun ls hl => ?_)
      refine lv_iload_n hx hb dX12_lengths_48 rfl (lv_at hl 3 rfl) ?_
      refine lv_if_ge (tgt := 55) hx hb dX12_lengths_49 (by decide) (fun _ => ?_) (fun h => absurd (by decide) h)
      refine lv_iload hx hb dX12_lengths_55 (lv_at hl 1 rfl) ?_
      refine lv_istore (lv' := [(4, .int 9), (2, .int 10), (5, .int 9), (3, .int 0), (0, .ref h0), (1, .int 2)]) hx hb dX12_lengths_57 hl (by decide) rfl (fun ls hl => ?_)
      refine lv_iinc (v := 10) (lv' := [(5, .int 10), (4, .int 9), (2, .int 10), (3, .int 0), (0, .ref h0), (1, .int 2)]) hx hb dX12_lengths_59 hl (k := 2) rfl (by decide) (by decide) rfl (fun ls hl => ?_)
      refine lv_goto (tgt := 26) hx hb dX12_lengths_62 (by decide) ?_
      refine lv_iload hx hb dX12_lengths_26 (lv_at hl 0 rfl) ?_
      refine lv_bipush (v := 31) hx hb dX12_lengths_28 (by decide) ?_
      refine lv_icmp_ge (tgt := 65) hx hb dX12_lengths_30 (by decide) (fun h => absurd h (by decide)) (fun _ => ?_)
      refine lv_aload_n hx hb dX12_lengths_33 rfl (lv_at hl 4 rfl) ?_
      refine lv_iload hx hb dX12_lengths_34 (lv_at hl 0 rfl) ?_
      refine zcall2 (va_runV (As := [.int 10]) (rest := []) ⟨hx, hb, hml, hown, hts⟩ (c_asSeen12 l D ct h0 y 0 0 0 0 0 0 0 0 0 0 0 0 0 0 0 0 0 0 10 (fun _ => 0) (by decide) H.size) (cwV 1 hts gX12_lengths_X12_isAsSeen rfl rfl rfl (by decide +kernel) ⟨Nat.le_of_ble_eq_true rfl, Nat.le_of_ble_eq_true rfl⟩) (zpreV hK hw hS hA zZ.nil hN [1, 2] rfl rfl 11 1 rfl rfl) rfl rfl hl.1 rfl (lv_room (Nat.le_of_ble_eq_true rfl)) dX12_lengths_36 ⟨Nat.le_of_ble_eq_true rfl, Nat.le_of_ble_eq_true rfl⟩) hw hS hA [1, 2] [0] rfl rfl rfl rfl (fun _ H locs hp307 hw hS => ?_)
      have hw : zPD D A [(y 1, .inl (ct 0, 8, .inl (upd (upd (fun _ => 0) 2 1) 3 2))), (h0, .inr (11, [.int 0, .int 0, .ref (y 0), .int 0, .int 0, .int 0, .int 0, .long 0, .int 0, .int 0, .ref (y 1), .ref (y 2), .ref (y 3), .ref (y 4), .ref (y 5), .ref (y 6), .ref (y 7), .ref (y 8), .ref (y 9), .ref (y 10), .ref (y 11), .ref (y 12), .int 0, .int 0, .ref (y 13), .ref (y 14), .ref (y 15), .ref (y 16), .ref (y 17), .ref (y 18), .ref (y 19), .ref (y 20), .ref (y 21), .ref (y 22), .ref (y 23), .ref (y 24), .int 0, .long 0, .ref (y 25), .ref (y 26), .ref (y 27), .ref (y 28), .ref (y 29), .ref (y 30), .ref (y 31), .ref (y 32), .ref (y 33), .ref (y 34), .ref (y 35), .ref (y 36), .ref (y 37), .int 0, .int 0, .ref (y 38), .long 0, .int 0, .int 0])), (y 29, .inl (ct 0, 5, .inl (fun _ => 0)))] H := hw
      refine zfr 39 [.int 1] rfl rfl ?_
      refine lv_if_ne (tgt := 45) hx hb dX12_lengths_39 (by decide) (fun _ => ?_) (fun h => absurd h (by decide))
      refine lv_iinc (v := 11) (lv' := [(2, .int 11), (5, .int 10), (4, .int 9), (3, .int 0), (0, .ref h0), (1, .int 2)]) hx hb dX12_lengths_45 hl (k := 2) rfl (by decide) (by decide) rfl (fun ls hl => ?_)
      refine lv_iload_n hx hb dX12_lengths_48 rfl (lv_at hl 3 rfl) ?_
      refine lv_if_ge (tgt := 55) hx hb dX12_lengths_49 (by decide) (fun _ => ?_) (fun h => absurd (by decide) h)
      refine lv_iload hx hb dX12_lengths_55 (lv_at hl 1 rfl) ?_
      refine lv_istore (lv' := [(4, .int 10), (2, .int 11), (5, .int 10), (3, .int 0), (0, .ref h0), (1, .int 2)]) hx hb dX12_lengths_57 hl (by decide) rfl (fun ls hl => ?_)
      refine lv_iinc (v := 11) (lv' := [(5, .int 11), (4, .int 10), (2, .int 11), (3, .int 0), (0, .ref h0), (1, .int 2)]) hx hb dX12_lengths_59 hl (k := 2) rfl (by decide) (by decide) rfl (fun ls hl => ?_)
      refine lv_goto (tgt := 26) hx hb dX12_lengths_62 (by decide) ?_
      refine lv_iload hx hb dX12_lengths_26 (lv_at hl 0 rfl) ?_
      refine lv_bipush (v := 31) hx hb dX12_lengths_28 (by decide) ?_
      refine lv_icmp_ge (tgt := 65) hx hb dX12_lengths_30 (by decide) (fun h => absurd h (by decide)) (fun _ => ?_)
      refine lv_aload_n hx hb dX12_lengths_33 rfl (lv_at hl 4 rfl) ?_
      refine lv_iload hx hb dX12_lengths_34 (lv_at hl 0 rfl) ?_
      refine zcall2 (va_runV (As := [.int 11]) (rest := []) ⟨hx, hb, hml, hown, hts⟩ (c_asSeen12 l D ct h0 y 0 0 0 0 0 0 0 0 0 0 0 0 0 0 0 0 0 0 11 (fun _ => 0) (by decide) H.size) (cwV 1 hts gX12_lengths_X12_isAsSeen rfl rfl rfl (by decide +kernel) ⟨Nat.le_of_ble_eq_true rfl, Nat.le_of_ble_eq_true rfl⟩) (zpreV hK hw hS hA zZ.nil hN [1, 2] rfl rfl 11 1 rfl rfl) rfl rfl hl.1 rfl (lv_room (Nat.le_of_ble_eq_true rfl)) dX12_lengths_36 ⟨Nat.le_of_ble_eq_true rfl, Nat.le_of_ble_eq_true rfl⟩) hw hS hA [1, 2] [0] rfl rfl rfl rfl (fun _ H locs hp311 hw hS => ?_)
      have hw : zPD D A [(y 1, .inl (ct 0, 8, .inl (upd (upd (fun _ => 0) 2 1) 3 2))), (h0, .inr (11, [.int 0, .int 0, .ref (y 0), .int 0, .int 0, .int 0, .int 0, .long 0, .int 0, .int 0, .ref (y 1), .ref (y 2), .ref (y 3), .ref (y 4), .ref (y 5), .ref (y 6), .ref (y 7), .ref (y 8), .ref (y 9), .ref (y 10), .ref (y 11), .ref (y 12), .int 0, .int 0, .ref (y 13), .ref (y 14), .ref (y 15), .ref (y 16), .ref (y 17), .ref (y 18), .ref (y 19), .ref (y 20), .ref (y 21), .ref (y 22), .ref (y 23), .ref (y 24), .int 0, .long 0, .ref (y 25), .ref (y 26), .ref (y 27), .ref (y 28), .ref (y 29), .ref (y 30), .ref (y 31), .ref (y 32), .ref (y 33), .ref (y 34), .ref (y 35), .ref (y 36), .ref (y 37), .int 0, .int 0, .ref (y 38), .long 0, .int 0, .int 0])), (y 29, .inl (ct 0, 5, .inl (fun _ => 0)))] H := hw
      refine zfr 39 [.int 1] rfl rfl ?_
      refine lv_if_ne (tgt := 45) hx hb dX12_lengths_39 (by decide) (fun _ => ?_) (fun h => absurd h (by decide))
      refine lv_iinc (v := 12) (lv' := [(2, .int 12), (5, .int 11), (4, .int 10), (3, .int 0), (0, .ref h0), (1, .int 2)]) hx hb dX12_lengths_45 hl (k := 2) rfl (by decide) (by decide) rfl (fun ls hl => ?_)
      refine lv_iload_n hx hb dX12_lengths_48 rfl (lv_at hl 3 rfl) ?_
      refine lv_if_ge (tgt := 55) hx hb dX12_lengths_49 (by decide) (fun _ => ?_) (fun h => absurd (by decide) h)
      refine lv_iload hx hb dX12_lengths_55 (lv_at hl 1 rfl) ?_
      refine lv_istore (lv' := [(4, .int 11), (2, .int 12), (5, .int 11), (3, .int 0), (0, .ref h0), (1, .int 2)]) hx hb dX12_lengths_57 hl (by decide) rfl (fun ls hl => ?_)
      refine lv_iinc (v := 12) (lv' := [(5, .int 12), (4, .int 11), (2, .int 12), (3, .int 0), (0, .ref h0), (1, .int 2)]) hx hb dX12_lengths_59 hl (k := 2) rfl (by decide) (by decide) rfl (fun ls hl => ?_)
      refine lv_goto (tgt := 26) hx hb dX12_lengths_62 (by decide) ?_
      refine lv_iload hx hb dX12_lengths_26 (lv_at hl 0 rfl) ?_
      refine lv_bipush (v := 31) hx hb dX12_lengths_28 (by decide) ?_
      refine lv_icmp_ge (tgt := 65) hx hb dX12_lengths_30 (by decide) (fun h => absurd h (by decide)) (fun _ => ?_)
      refine lv_aload_n hx hb dX12_lengths_33 rfl (lv_at hl 4 rfl) ?_
      refine lv_iload hx hb dX12_lengths_34 (lv_at hl 0 rfl) ?_
      refine zcall2 (va_runV (As := [.int 12]) (rest := []) ⟨hx, hb, hml, hown, hts⟩ (c_asSeen12 l D ct h0 y 0 0 0 0 0 0 0 0 0 0 0 0 0 0 0 0 0 0 12 (fun _ => 0) (by decide) H.size) (cwV 1 hts gX12_lengths_X12_isAsSeen rfl rfl rfl (by decide +kernel) ⟨Nat.le_of_ble_eq_true rfl, Nat.le_of_ble_eq_true rfl⟩) (zpreV hK hw hS hA zZ.nil hN [1, 2] rfl rfl 11 1 rfl rfl) rfl rfl hl.1 rfl (lv_room (Nat.le_of_ble_eq_true rfl)) dX12_lengths_36 ⟨Nat.le_of_ble_eq_true rfl, Nat.le_of_ble_eq_true rfl⟩) hw hS hA [1, 2] [0] rfl rfl rfl rfl (fun _ H locs hp315 hw hS => ?_)
      have hw : zPD D A [(y 1, .inl (ct 0, 8, .inl (upd (upd (fun _ => 0) 2 1) 3 2))), (h0, .inr (11, [.int 0, .int 0, .ref (y 0), .int 0, .int 0, .int 0, .int 0, .long 0, .int 0, .int 0, .ref (y 1), .ref (y 2), .ref (y 3), .ref (y 4), .ref (y 5), .ref (y 6), .ref (y 7), .ref (y 8), .ref (y 9), .ref (y 10), .ref (y 11), .ref (y 12), .int 0, .int 0, .ref (y 13), .ref (y 14), .ref (y 15), .ref (y 16), .ref (y 17), .ref (y 18), .ref (y 19), .ref (y 20), .ref (y 21), .ref (y 22), .ref (y 23), .ref (y 24), .int 0, .long 0, .ref (y 25), .ref (y 26), .ref (y 27), .ref (y 28), .ref (y 29), .ref (y 30), .ref (y 31), .ref (y 32), .ref (y 33), .ref (y 34), .ref (y 35), .ref (y 36), .ref (y 37), .int 0, .int 0, .ref (y 38), .long 0, .int 0, .int 0])), (y 29, .inl (ct 0, 5, .inl (fun _ => 0)))] H := hw
      refine zfr 39 [.int 1] rfl rfl ?_
      refine lv_if_ne (tgt := 45) hx hb dX12_lengths_39 (by decide) (fun _ => ?_) (fun h => absurd h (by decide))
      refine lv_iinc (v := 13) (lv' := [(2, .int 13), (5, .int 12), (4, .int 11), (3, .int 0), (0, .ref h0), (1, .int 2)]) hx hb dX12_lengths_45 hl (k := 2) rfl (by decide) (by decide) rfl (fun ls hl => ?_)
      refine lv_iload_n hx hb dX12_lengths_48 rfl (lv_at hl 3 rfl) ?_
      refine lv_if_ge (tgt := 55) hx hb dX12_lengths_49 (by decide) (fun _ => ?_) (fun h => absurd (by decide) h)
      refine lv_iload hx hb dX12_lengths_55 (lv_at hl 1 rfl) ?_
      refine lv_istore (lv' := [(4, .int 12), (2, .int 13), (5, .int 12), (3, .int 0), (0, .ref h0), (1, .int 2)]) hx hb dX12_lengths_57 hl (by decide) rfl (fun ls hl => ?_)
      refine lv_iinc (v := 13) (lv' := [(5, .int 13), (4, .int 12), (2, .int 13), (3, .int 0), (0, .ref h0), (1, .int 2)]) hx hb dX12_lengths_59 hl (k := 2) rfl (by decide) (by decide) rfl (fun ls hl => ?_)
      refine lv_goto (tgt := 26) hx hb dX12_lengths_62 (by decide) ?_
      refine lv_iload hx hb dX12_lengths_26 (lv_at hl 0 rfl) ?_
      refine lv_bipush (v := 31) hx hb dX12_lengths_28 (by decide) ?_
      refine lv_icmp_ge (tgt := 65) hx hb dX12_lengths_30 (by decide) (fun h => absurd h (by decide)) (fun _ => ?_)
      refine lv_aload_n hx hb dX12_lengths_33 rfl (lv_at hl 4 rfl) ?_
      refine lv_iload hx hb dX12_lengths_34 (lv_at hl 0 rfl) ?_
      refine zcall2 (va_runV (As := [.int 13]) (rest := []) ⟨hx, hb, hml, hown, hts⟩ (c_asSeen12 l D ct h0 y 0 0 0 0 0 0 0 0 0 0 0 0 0 0 0 0 0 0 13 (fun _ => 0) (by decide) H.size) (cwV 1 hts gX12_lengths_X12_isAsSeen rfl rfl rfl (by decide +kernel) ⟨Nat.le_of_ble_eq_true rfl, Nat.le_of_ble_eq_true rfl⟩) (zpreV hK hw hS hA zZ.nil hN [1, 2] rfl rfl 11 1 rfl rfl) rfl rfl hl.1 rfl (lv_room (Nat.le_of_ble_eq_true rfl)) dX12_lengths_36 ⟨Nat.le_of_ble_eq_true rfl, Nat.le_of_ble_eq_true rfl⟩) hw hS hA [1, 2] [0] rfl rfl rfl rfl (fun _ H locs hp319 hw hS => ?_)
      have hw : zPD D A [(y 1, .inl (ct 0, 8, .inl (upd (upd (fun _ => 0) 2 1) 3 2))), (h0, .inr (11, [.int 0, .int 0, .ref (y 0), .int 0, .int 0, .int 0, .int 0, .long 0, .int 0, .int 0, .ref (y 1), .ref (y 2), .ref (y 3), .ref (y 4), .ref (y 5), .ref (y 6), .ref (y 7), .ref (y 8), .ref (y 9), .ref (y 10), .ref (y 11), .ref (y 12), .int 0, .int 0, .ref (y 13), .ref (y 14), .ref (y 15), .ref (y 16), .ref (y 17), .ref (y 18), .ref (y 19), .ref (y 20), .ref (y 21), .ref (y 22), .ref (y 23), .ref (y 24), .int 0, .long 0, .ref (y 25), .ref (y 26), .ref (y 27), .ref (y 28), .ref (y 29), .ref (y 30), .ref (y 31), .ref (y 32), .ref (y 33), .ref (y 34), .ref (y 35), .ref (y 36), .ref (y 37), .int 0, .int 0, .ref (y 38), .long 0, .int 0, .int 0])), (y 29, .inl (ct 0, 5, .inl (fun _ => 0)))] H := hw
      refine zfr 39 [.int 1] rfl rfl ?_
      refine lv_if_ne (tgt := 45) hx hb dX12_lengths_39 (by decide) (fun _ => ?_) (fun h => absurd h (by decide))
      refine lv_iinc (v := 14) (lv' := [(2, .int 14), (5, .int 13), (4, .int 12), (3, .int 0), (0, .ref h0), (1, .int 2)]) hx hb dX12_lengths_45 hl (k := 2) rfl (by decide) (by decide) rfl (fun ls hl => ?_)
      refine lv_iload_n hx hb dX12_lengths_48 rfl (lv_at hl 3 rfl) ?_
      refine lv_if_ge (tgt := 55) hx hb dX12_lengths_49 (by decide) (fun _ => ?_) (fun h => absurd (by decide) h)
      refine lv_iload hx hb dX12_lengths_55 (lv_at hl 1 rfl) ?_
      refine lv_istore (lv' := [(4, .int 13), (2, .int 14), (5, .int 13), (3, .int 0), (0, .ref h0), (1, .int 2)]) hx hb dX12_lengths_57 hl (by decide) rfl (fun ls hl => ?_)
      refine lv_iinc (v := 14) (lv' := [(5, .int 14), (4, .int 13), (2, .int 14), (3, .int 0), (0, .ref h0), (1, .int 2)]) hx hb dX12_lengths_59 hl (k := 2) rfl (by decide) (by decide) rfl (fun ls hl => ?_)
      refine lv_goto (tgt := 26) hx hb dX12_lengths_62 (by decide) ?_
      refine lv_iload hx hb dX12_lengths_26 (lv_at hl 0 rfl) ?_
      refine lv_bipush (v := 31) hx hb dX12_lengths_28 (by decide) ?_
      refine lv_icmp_ge (tgt := 65) hx hb dX12_lengths_30 (by decide) (fun h => absurd h (by decide)) (fun _ => ?_)
      refine lv_aload_n hx hb dX12_lengths_33 rfl (lv_at hl 4 rfl) ?_
      refine lv_iload hx hb dX12_lengths_34 (lv_at hl 0 rfl) ?_
      refine zcall2 (va_runV (As := [.int 14]) (rest := []) ⟨hx, hb, hml, hown, hts⟩ (c_asSeen12 l D ct h0 y 0 0 0 0 0 0 0 0 0 0 0 0 0 0 0 0 0 0 14 (fun _ => 0) (by decide) H.size) (cwV 1 hts gX12_lengths_X12_isAsSeen rfl rfl rfl (by decide +kernel) ⟨Nat.le_of_ble_eq_true rfl, Nat.le_of_ble_eq_true rfl⟩) (zpreV hK hw hS hA zZ.nil hN [1, 2] rfl rfl 11 1 rfl rfl) rfl rfl hl.1 rfl (lv_room (Nat.le_of_ble_eq_true rfl)) dX12_lengths_36 ⟨Nat.le_of_ble_eq_true rfl, Nat.le_of_ble_eq_true rfl⟩) hw hS hA [1, 2] [0] rfl rfl rfl rfl (fun _ H locs hp323 hw hS => ?_)
      have hw : zPD D A [(y 1, .inl (ct 0, 8, .inl (upd (upd (fun _ => 0) 2 1) 3 2))), (h0, .inr (11, [.int 0, .int 0, .ref (y 0), .int 0, .int 0, .int 0, .int 0, .long 0, .int 0, .int 0, .ref (y 1), .ref (y 2), .ref (y 3), .ref (y 4), .ref (y 5), .ref (y 6), .ref (y 7), .ref (y 8), .ref (y 9), .ref (y 10), .ref (y 11), .ref (y 12), .int 0, .int 0, .ref (y 13), .ref (y 14), .ref (y 15), .ref (y 16), .ref (y 17), .ref (y 18), .ref (y 19), .ref (y 20), .ref (y 21), .ref (y 22), .ref (y 23), .ref (y 24), .int 0, .long 0, .ref (y 25), .ref (y 26), .ref (y 27), .ref (y 28), .ref (y 29), .ref (y 30), .ref (y 31), .ref (y 32), .ref (y 33), .ref (y 34), .ref (y 35), .ref (y 36), .ref (y 37), .int 0, .int 0, .ref (y 38), .long 0, .int 0, .int 0])), (y 29, .inl (ct 0, 5, .inl (fun _ => 0)))] H := hw
      refine zfr 39 [.int 1] rfl rfl ?_
      refine lv_if_ne (tgt := 45) hx hb dX12_lengths_39 (by decide) (fun _ => ?_) (fun h => absurd h (by decide))
      refine lv_iinc (v := 15) (lv' := [(2, .int 15), (5, .int 14), (4, .int 13), (3, .int 0), (0, .ref h0), (1, .int 2)]) hx hb dX12_lengths_45 hl (k := 2) rfl (by decide) (by decide) rfl (fun ls hl => ?_)
      refine lv_iload_n hx hb dX12_lengths_48 rfl (lv_at hl 3 rfl) ?_
      refine lv_if_ge (tgt := 55) hx hb dX12_lengths_49 (by decide) (fun _ => ?_) (fun h => absurd (by decide) h)
      refine lv_iload hx hb dX12_lengths_55 (lv_at hl 1 rfl) ?_
      refine lv_istore (lv' := [(4, .int 14), (2, .int 15), (5, .int 14), (3, .int 0), (0, .ref h0), (1, .int 2)]) hx hb dX12_lengths_57 hl (by decide) rfl (fun ls hl => ?_)
      refine lv_iinc (v := 15) (lv' := [(5, .int 15), (4, .int 14), (2, .int 15), (3, .int 0), (0, .ref h0), (1, .int 2)]) hx hb dX12_lengths_59 hl (k := 2) rfl (by decide) (by decide) rfl (fun ls hl => ?_)
      refine lv_goto (tgt := 26) hx hb dX12_lengths_62 (by decide) ?_
      refine lv_iload hx hb dX12_lengths_26 (lv_at hl 0 rfl) ?_
      refine lv_bipush (v := 31) hx hb dX12_lengths_28 (by decide) ?_
      refine lv_icmp_ge (tgt := 65) hx hb dX12_lengths_30 (by decide) (fun h => absurd h (by decide)) (fun _ => ?_)
      refine lv_aload_n hx hb dX12_lengths_33 rfl (lv_at hl 4 rfl) ?_
      refine lv_iload hx hb dX12_lengths_34 (lv_at hl 0 rfl) ?_
      refine zcall2 (va_runV (As := [.int 15]) (rest := []) ⟨hx, hb, hml, hown, hts⟩ (c_asSeen12 l D ct h0 y 0 0 0 0 0 0 0 0 0 0 0 0 0 0 0 0 0 0 15 (fun _ => 0) (by decide) H.size) (cwV 1 hts gX12_lengths_X12_isAsSeen rfl rfl rfl (by decide +kernel) ⟨Nat.le_of_ble_eq_true rfl, Nat.le_of_ble_eq_true rfl⟩) (zpreV hK hw hS hA zZ.nil hN [1, 2] rfl rfl 11 1 rfl rfl) rfl rfl hl.1 rfl (lv_room (Nat.le_of_ble_eq_true rfl)) dX12_lengths_36 ⟨Nat.le_of_ble_eq_true rfl, Nat.le_of_ble_eq_true rfl⟩) hw hS hA [1, 2] [0] rfl rfl rfl rfl (fun _ H locs hp327 hw hS => ?_)
      have hw : zPD D A [(y 1, .inl (ct 0, 8, .inl (upd (upd (fun _ => 0) 2 1) 3 2))), (h0, .inr (11, [.int 0, .int 0, .ref (y 0), .int 0, .int 0, .int 0, .int 0, .long 0, .int 0, .int 0, .ref (y 1), .ref (y 2), .ref (y 3), .ref (y 4), .ref (y 5), .ref (y 6), .ref (y 7), .ref (y 8), .ref (y 9), .ref (y 10), .ref (y 11), .ref (y 12), .int 0, .int 0, .ref (y 13), .ref (y 14), .ref (y 15), .ref (y 16), .ref (y 17), .ref (y 18), .ref (y 19), .ref (y 20), .ref (y 21), .ref (y 22), .ref (y 23), .ref (y 24), .int 0, .long 0, .ref (y 25), .ref (y 26), .ref (y 27), .ref (y 28), .ref (y 29), .ref (y 30), .ref (y 31), .ref (y 32), .ref (y 33), .ref (y 34), .ref (y 35), .ref (y 36), .ref (y 37), .int 0, .int 0, .ref (y 38), .long 0, .int 0, .int 0])), (y 29, .inl (ct 0, 5, .inl (fun _ => 0)))] H := hw
      refine zfr 39 [.int 1] rfl rfl ?_
      refine lv_if_ne (tgt := 45) hx hb dX12_lengths_39 (by decide) (fun _ => ?_) (fun h => absurd h (by decide))
      refine lv_iinc (v := 16) (lv' := [(2, .int 16), (5, .int 15), (4, .int 14), (3, .int 0), (0, .ref h0), (1, .int 2)]) hx hb dX12_lengths_45 hl (k := 2) rfl (by decide) (by decide) rfl (fun ls hl => ?_)
      refine lv_iload_n hx hb dX12_lengths_48 rfl (lv_at hl 3 rfl) ?_
      refine lv_if_ge (tgt := 55) hx hb dX12_lengths_49 (by decide) (fun _ => ?_) (fun h => absurd (by decide) h)
      refine lv_iload hx hb dX12_lengths_55 (lv_at hl 1 rfl) ?_
      refine lv_istore (lv' := [(4, .int 15), (2, .int 16), (5, .int 15), (3, .int 0), (0, .ref h0), (1, .int 2)]) hx hb dX12_lengths_57 hl (by decide) rfl (fun ls hl => ?_)
      refine lv_iinc (v := 16) (lv' := [(5, .int 16), (4, .int 15), (2, .int 16), (3, .int 0), (0, .ref h0), (1, .int 2)]) hx hb dX12_lengths_59 hl (k := 2) rfl (by decide) (by decide) rfl (fun ls hl => ?_)
      refine lv_goto (tgt := 26) hx hb dX12_lengths_62 (by decide) ?_
      refine lv_iload hx hb dX12_lengths_26 (lv_at hl 0 rfl) ?_
      refine lv_bipush (v := 31) hx hb dX12_lengths_28 (by decide) ?_
      refine lv_icmp_ge (tgt := 65) hx hb dX12_lengths_30 (by decide) (fun h => absurd h (by decide)) (fun _ => ?_)
      refine lv_aload_n hx hb dX12_lengths_33 rfl (lv_at hl 4 rfl) ?_
      refine lv_iload hx hb dX12_lengths_34 (lv_at hl 0 rfl) ?_
      refine zcall2 (va_runV (As := [.int 16]) (rest := []) ⟨hx, hb, hml, hown, hts⟩ (c_asSeen12 l D ct h0 y 0 0 0 0 0 0 0 0 0 0 0 0 0 0 0 0 0 0 16 (fun _ => 0) (by decide) H.size) (cwV 1 hts gX12_lengths_X12_isAsSeen rfl rfl rfl (by decide +kernel) ⟨Nat.le_of_ble_eq_true rfl, Nat.le_of_ble_eq_true rfl⟩) (zpreV hK hw hS hA zZ.nil hN [1, 2] rfl rfl 11 1 rfl rfl) rfl rfl hl.1 rfl (lv_room (Nat.le_of_ble_eq_true rfl)) dX12_lengths_36 ⟨Nat.le_of_ble_eq_true rfl, Nat.le_of_ble_eq_true rfl⟩) hw hS hA [1, 2] [0] rfl rfl rfl rfl (fun _ H locs hp331 hw hS => ?_)
      have hw : zPD D A [(y 1, .inl (ct 0, 8, .inl (upd (upd (fun _ => 0) 2 1) 3 2))), (h0, .inr (11, [.int 0, .int 0, .ref (y 0), .int 0, .int 0, .int 0, .int 0, .long 0, .int 0, .int 0, .ref (y 1), .ref (y 2), .ref (y 3), .ref (y 4), .ref (y 5), .ref (y 6), .ref (y 7), .ref (y 8), .ref (y 9), .ref (y 10), .ref (y 11), .ref (y 12), .int 0, .int 0, .ref (y 13), .ref (y 14), .ref (y 15), .ref (y 16), .ref (y 17), .ref (y 18), .ref (y 19), .ref (y 20), .ref (y 21), .ref (y 22), .ref (y 23), .ref (y 24), .int 0, .long 0, .ref (y 25), .ref (y 26), .ref (y 27), .ref (y 28), .ref (y 29), .ref (y 30), .ref (y 31), .ref (y 32), .ref (y 33), .ref (y 34), .ref (y 35), .ref (y 36), .ref (y 37), .int 0, .int 0, .ref (y 38), .long 0, .int 0, .int 0])), (y 29, .inl (ct 0, 5, .inl (fun _ => 0)))] H := hw
      refine zfr 39 [.int 1] rfl rfl ?_
      refine lv_if_ne (tgt := 45) hx hb dX12_lengths_39 (by decide) (fun _ => ?_) (fun h => absurd h (by decide))
      refine lv_iinc (v := 17) (lv' := [(2, .int 17), (5, .int 16), (4, .int 15), (3, .int 0), (0, .ref h0), (1, .int 2)]) hx hb dX12_lengths_45 hl (k := 2) rfl (by decide) (by decide) rfl (fun ls hl => ?_)
      refine lv_iload_n hx hb dX12_lengths_48 rfl (lv_at hl 3 rfl) ?_
      refine lv_if_ge (tgt := 55) hx hb dX12_lengths_49 (by decide) (fun _ => ?_) (fun h => absurd (by decide) h)
      refine lv_iload hx hb dX12_lengths_55 (lv_at hl 1 rfl) ?_
      refine lv_istore (lv' := [(4, .int 16), (2, .int 17), (5, .int 16), (3, .int 0), (0, .ref h0), (1, .int 2)]) hx hb dX12_lengths_57 hl (by decide) rfl (fun ls hl => ?_)
      refine lv_iinc (v := 17) (lv' := [(5, .int 17), (4, .int 16), (2, .int 17), (3, .int 0), (0, .ref h0), (1, .int 2)]) hx hb dX12_lengths_59 hl (k := 2) rfl (by decide) (by decide) rfl (fun ls hl => ?_)
      refine lv_goto (tgt := 26) hx hb dX12_lengths_62 (by decide) ?_
      refine lv_iload hx hb dX12_lengths_26 (lv_at hl 0 rfl) ?_
      refine lv_bipush (v := 31) hx hb dX12_lengths_28 (by decide) ?_
      refine lv_icmp_ge (tgt := 65) hx hb dX12_lengths_30 (by decide) (fun h => absurd h (by decide)) (fun _ => ?_)
      refine lv_aload_n hx hb dX12_lengths_33 rfl (lv_at hl 4 rfl) ?_
      refine lv_iload hx hb dX12_lengths_34 (lv_at hl 0 rfl) ?_
      refine zcall2 (va_runV (As := [.int 17]) (rest := []) ⟨hx, hb, hml, hown, hts⟩ (c_asSeen12 l D ct h0 y 0 0 0 0 0 0 0 0 0 0 0 0 0 0 0 0 0 0 17 (fun _ => 0) (by decide) H.size) (cwV 1 hts gX12_lengths_X12_isAsSeen rfl rfl rfl (by decide +kernel) ⟨Nat.le_of_ble_eq_true rfl, Nat.le_of_ble_eq_true rfl⟩) (zpreV hK hw hS hA zZ.nil hN [1, 2] rfl rfl 11 1 rfl rfl) rfl rfl hl.1 rfl (lv_room (Nat.le_of_ble_eq_true rfl)) dX12_lengths_36 ⟨Nat.le_of_ble_eq_true rfl, Nat.le_of_ble_eq_true rfl⟩) hw hS hA [1, 2] [0] rfl rfl rfl rfl (fun _ H locs hp335 hw hS => ?_)
      have hw : zPD D A [(y 1, .inl (ct 0, 8, .inl (upd (upd (fun _ => 0) 2 1) 3 2))), (h0, .inr (11, [.int 0, .int 0, .ref (y 0), .int 0, .int 0, .int 0, .int 0, .long 0, .int 0, .int 0, .ref (y 1), .ref (y 2), .ref (y 3), .ref (y 4), .ref (y 5), .ref (y 6), .ref (y 7), .ref (y 8), .ref (y 9), .ref (y 10), .ref (y 11), .ref (y 12), .int 0, .int 0, .ref (y 13), .ref (y 14), .ref (y 15), .ref (y 16), .ref (y 17), .ref (y 18), .ref (y 19), .ref (y 20), .ref (y 21), .ref (y 22), .ref (y 23), .ref (y 24), .int 0, .long 0, .ref (y 25), .ref (y 26), .ref (y 27), .ref (y 28), .ref (y 29), .ref (y 30), .ref (y 31), .ref (y 32), .ref (y 33), .ref (y 34), .ref (y 35), .ref (y 36), .ref (y 37), .int 0, .int 0, .ref (y 38), .long 0, .int 0, .int 0])), (y 29, .inl (ct 0, 5, .inl (fun _ => 0)))] H := hw
      refine zfr 39 [.int 1] rfl rfl ?_
      refine lv_if_ne (tgt := 45) hx hb dX12_lengths_39 (by decide) (fun _ => ?_) (fun h => absurd h (by decide))
      refine lv_iinc (v := 18) (lv' := [(2, .int 18), (5, .int 17), (4, .int 16), (3, .int 0), (0, .ref h0), (1, .int 2)]) hx hb dX12_lengths_45 hl (k := 2) rfl (by decide) (by decide) rfl (fun ls hl => ?_)
      refine lv_iload_n hx hb dX12_lengths_48 rfl (lv_at hl 3 rfl) ?_
      refine lv_if_ge (tgt := 55) hx hb dX12_lengths_49 (by decide) (fun _ => ?_) (fun h => absurd (by decide) h)
      refine lv_iload hx hb dX12_lengths_55 (lv_at hl 1 rfl) ?_
      refine lv_istore (lv' := [(4, .int 17), (2, .int 18), (5, .int 17), (3, .int 0), (0, .ref h0), (1, .int 2)]) hx hb dX12_lengths_57 hl (by decide) rfl (fun ls hl => ?_)
      refine lv_iinc (v := 18) (lv' := [(5, .int 18), (4, .int 17), (2, .int 18), (3, .int 0), (0, .ref h0), (1, .int 2)]) hx hb dX12_lengths_59 hl (k := 2) rfl (by decide) (by decide) rfl (fun ls hl => ?_)
      refine lv_goto (tgt := 26) hx hb dX12_lengths_62 (by decide) ?_
      refine lv_iload hx hb dX12_lengths_26 (lv_at hl 0 rfl) ?_
      refine lv_bipush (v := 31) hx hb dX12_lengths_28 (by decide) ?_
      refine lv_icmp_ge (tgt := 65) hx hb dX12_lengths_30 (by decide) (fun h => absurd h (by decide)) (fun _ => ?_)
      refine lv_aload_n hx hb dX12_lengths_33 rfl (lv_at hl 4 rfl) ?_
      refine lv_iload hx hb dX12_lengths_34 (lv_at hl 0 rfl) ?_
      refine zcall2 (va_runV (As := [.int 18]) (rest := []) ⟨hx, hb, hml, hown, hts⟩ (c_asSeen12 l D ct h0 y 0 0 0 0 0 0 0 0 0 0 0 0 0 0 0 0 0 0 18 (fun _ => 0) (by decide) H.size) (cwV 1 hts gX12_lengths_X12_isAsSeen rfl rfl rfl (by decide +kernel) ⟨Nat.le_of_ble_eq_true rfl, Nat.le_of_ble_eq_true rfl⟩) (zpreV hK hw hS hA zZ.nil hN [1, 2] rfl rfl 11 1 rfl rfl) rfl rfl hl.1 rfl (lv_room (Nat.le_of_ble_eq_true rfl)) dX12_lengths_36 ⟨Nat.le_of_ble_eq_true rfl, Nat.le_of_ble_eq_true rfl⟩) hw hS hA [1, 2] [0] rfl rfl rfl rfl (fun _ H locs hp339 hw hS => ?_)
      have hw : zPD D A [(y 1, .inl (ct 0, 8, .inl (upd (upd (fun _ => 0) 2 1) 3 2))), (h0, .inr (11, [.int 0, .int 0, .ref (y 0), .int 0, .int 0, .int 0, .int 0, .long 0, .int 0, .int 0, .ref (y 1), .ref (y 2), .ref (y 3), .ref (y 4), .ref (y 5), .ref (y 6), .ref (y 7), .ref (y 8), .ref (y 9), .ref (y 10), .ref (y 11), .ref (y 12), .int 0, .int 0, .ref (y 13), .ref (y 14), .ref (y 15), .ref (y 16), .ref (y 17), .ref (y 18), .ref (y 19), .ref (y 20), .ref (y 21), .ref (y 22), .ref (y 23), .ref (y 24), .int 0, .long 0, .ref (y 25), .ref (y 26), .ref (y 27), .ref (y 28), .ref (y 29), .ref (y 30), .ref (y 31), .ref (y 32), .ref (y 33), .ref (y 34), .ref (y 35), .ref (y 36), .ref (y 37), .int 0, .int 0, .ref (y 38), .long 0, .int 0, .int 0])), (y 29, .inl (ct 0, 5, .inl (fun _ => 0)))] H := hw
      refine zfr 39 [.int 1] rfl rfl ?_
      refine lv_if_ne (tgt := 45) hx hb dX12_lengths_39 (by decide) (fun _ => ?_) (fun h => absurd h (by decide))
      refine lv_iinc (v := 19) (lv' := [(2, .int 19), (5, .int 18), (4, .int 17), (3, .int 0), (0, .ref h0), (1, .int 2)]) hx hb dX12_lengths_45 hl (k := 2) rfl (by decide) (by decide) rfl (fun ls hl => ?_)
      refine lv_iload_n hx hb dX12_lengths_48 rfl (lv_at hl 3 rfl) ?_
      refine lv_if_ge (tgt := 55) hx hb dX12_lengths_49 (by decide) (fun _ => ?_) (fun h => absurd (by decide) h)
      refine lv_iload hx hb dX12_lengths_55 (lv_at hl 1 rfl) ?_
      refine lv_istore (lv' := [(4, .int 18), (2, .int 19), (5, .int 18), (3, .int 0), (0, .ref h0), (1, .int 2)]) hx hb dX12_lengths_57 hl (by decide) rfl (fun ls hl => ?_)
      refine lv_iinc (v := 19) (lv' := [(5, .int 19), (4, .int 18), (2, .int 19), (3, .int 0), (0, .ref h0), (1, .int 2)]) hx hb dX12_lengths_59 hl (k := 2) rfl (by decide) (by decide) rfl (fun ls hl => ?_)
      refine lv_goto (tgt := 26) hx hb dX12_lengths_62 (by decide) ?_
      refine lv_iload hx hb dX12_lengths_26 (lv_at hl 0 rfl) ?_
      refine lv_bipush (v := 31) hx hb dX12_lengths_28 (by decide) ?_
      refine lv_icmp_ge (tgt := 65) hx hb dX12_lengths_30 (by decide) (fun h => absurd h (by decide)) (fun _ => ?_)
      refine lv_aload_n hx hb dX12_lengths_33 rfl (lv_at hl 4 rfl) ?_
      refine lv_iload hx hb dX12_lengths_34 (lv_at hl 0 rfl) ?_
      refine zcall2 (va_runV (As := [.int 19]) (rest := []) ⟨hx, hb, hml, hown, hts⟩ (c_asSeen12 l D ct h0 y 0 0 0 0 0 0 0 0 0 0 0 0 0 0 0 0 0 0 19 (fun _ => 0) (by decide) H.size) (cwV 1 hts gX12_lengths_X12_isAsSeen rfl rfl rfl (by decide +kernel) ⟨Nat.le_of_ble_eq_true rfl, Nat.le_of_ble_eq_true rfl⟩) (zpreV hK hw hS hA zZ.nil hN [1, 2] rfl rfl 11 1 rfl rfl) rfl rfl hl.1 rfl (lv_room (Nat.le_of_ble_eq_true rfl)) dX12_lengths_36 ⟨Nat.le_of_ble_eq_true rfl, Nat.le_of_ble_eq_true rfl⟩) hw hS hA [1, 2] [0] rfl rfl rfl rfl (fun _ H locs hp343 hw hS => ?_)
      have hw : zPD D A [(y 1, .inl (ct 0, 8, .inl (upd (upd (fun _ => 0) 2 1) 3 2))), (h0, .inr (11, [.int 0, .int 0, .ref (y 0), .int 0, .int 0, .int 0, .int 0, .long 0, .int 0, .int 0, .ref (y 1), .ref (y 2), .ref (y 3), .ref (y 4), .ref (y 5), .ref (y 6), .ref (y 7), .ref (y 8), .ref (y 9), .ref (y 10), .ref (y 11), .ref (y 12), .int 0, .int 0, .ref (y 13), .ref (y 14), .ref (y 15), .ref (y 16), .ref (y 17), .ref (y 18), .ref (y 19), .ref (y 20), .ref (y 21), .ref (y 22), .ref (y 23), .ref (y 24), .int 0, .long 0, .ref (y 25), .ref (y 26), .ref (y 27), .ref (y 28), .ref (y 29), .ref (y 30), .ref (y 31), .ref (y 32), .ref (y 33), .ref (y 34), .ref (y 35), .ref (y 36), .ref (y 37), .int 0, .int 0, .ref (y 38), .long 0, .int 0, .int 0])), (y 29, .inl (ct 0, 5, .inl (fun _ => 0)))] H := hw
      refine zfr 39 [.int 1] rfl rfl ?_
      refine lv_if_ne (tgt := 45) hx hb dX12_lengths_39 (by decide) (fun _ => ?_) (fun h => absurd h (by decide))
      refine lv_iinc (v := 20) (lv' := [(2, .int 20), (5, .int 19), (4, .int 18), (3, .int 0), (0, .ref h0), (1, .int 2)]) hx hb dX12_lengths_45 hl (k := 2) rfl (by decide) (by decide) rfl (fun ls hl => ?_)
      refine lv_iload_n hx hb dX12_lengths_48 rfl (lv_at hl 3 rfl) ?_
      refine lv_if_ge (tgt := 55) hx hb dX12_lengths_49 (by decide) (fun _ => ?_) (fun h => absurd (by decide) h)
      refine lv_iload hx hb dX12_lengths_55 (lv_at hl 1 rfl) ?_
      refine lv_istore (lv' := [(4, .int 19), (2, .int 20), (5, .int 19), (3, .int 0), (0, .ref h0), (1, .int 2)]) hx hb dX12_lengths_57 hl (by decide) rfl (fun ls hl => ?_)
      refine lv_iinc (v := 20) (lv' := [(5, .int 20), (4, .int 19), (2, .int 20), (3, .int 0), (0, .ref h0), (1, .int 2)]) hx hb dX12_lengths_59 hl (k := 2) rfl (by decide) (by decide) rfl (fun ls hl => ?_)
      refine lv_goto (tgt := 26) hx hb dX12_lengths_62 (by decide) ?_
      refine lv_iload hx hb dX12_lengths_26 (lv_at hl 0 rfl) ?_
      refine lv_bipush (v := 31) hx hb dX12_lengths_28 (by decide) ?_
      refine lv_icmp_ge (tgt := 65) hx hb dX12_lengths_30 (by decide) (fun h => absurd h (by decide)) (fun _ => ?_)
      refine lv_aload_n hx hb dX12_lengths_33 rfl (lv_at hl 4 rfl) ?_
      refine lv_iload hx hb dX12_lengths_34 (lv_at hl 0 rfl) ?_
      refine zcall2 (va_runV (As := [.int 20]) (rest := []) ⟨hx, hb, hml, hown, hts⟩ (c_asSeen12 l D ct h0 y 0 0 0 0 0 0 0 0 0 0 0 0 0 0 0 0 0 0 20 (fun _ => 0) (by decide) H.size) (cwV 1 hts gX12_lengths_X12_isAsSeen rfl rfl rfl (by decide +kernel) ⟨Nat.le_of_ble_eq_true rfl, Nat.le_of_ble_eq_true rfl⟩) (zpreV hK hw hS hA zZ.nil hN [1, 2] rfl rfl 11 1 rfl rfl) rfl rfl hl.1 rfl (lv_room (Nat.le_of_ble_eq_true rfl)) dX12_lengths_36 ⟨Nat.le_of_ble_eq_true rfl, Nat.le_of_ble_eq_true rfl⟩) hw hS hA [1, 2] [0] rfl rfl rfl rfl (fun _ H locs hp347 hw hS => ?_)
      have hw : zPD D A [(y 1, .inl (ct 0, 8, .inl (upd (upd (fun _ => 0) 2 1) 3 2))), (h0, .inr (11, [.int 0, .int 0, .ref (y 0), .int 0, .int 0, .int 0, .int 0, .long 0, .int 0, .int 0, .ref (y 1), .ref (y 2), .ref (y 3), .ref (y 4), .ref (y 5), .ref (y 6), .ref (y 7), .ref (y 8), .ref (y 9), .ref (y 10), .ref (y 11), .ref (y 12), .int 0, .int 0, .ref (y 13), .ref (y 14), .ref (y 15), .ref (y 16), .ref (y 17), .ref (y 18), .ref (y 19), .ref (y 20), .ref (y 21), .ref (y 22), .ref (y 23), .ref (y 24), .int 0, .long 0, .ref (y 25), .ref (y 26), .ref (y 27), .ref (y 28), .ref (y 29), .ref (y 30), .ref (y 31), .ref (y 32), .ref (y 33), .ref (y 34), .ref (y 35), .ref (y 36), .ref (y 37), .int 0, .int 0, .ref (y 38), .long 0, .int 0, .int 0])), (y 29, .inl (ct 0, 5, .inl (fun _ => 0)))] H := hw
      refine zfr 39 [.int 1] rfl rfl ?_
      refine lv_if_ne (tgt := 45) hx hb dX12_lengths_39 (by decide) (fun _ => ?_) (fun h => absurd h (by decide))
      refine lv_iinc (v := 21) (lv' := [(2, .int 21), (5, .int 20), (4, .int 19), (3, .int 0), (0, .ref h0), (1, .int 2)]) hx hb dX12_lengths_45 hl (k := 2) rfl (by decide) (by decide) rfl (fun ls hl => ?_)
      refine lv_iload_n hx hb dX12_lengths_48 rfl (lv_at hl 3 rfl) ?_
      refine lv_if_ge (tgt := 55) hx hb dX12_lengths_49 (by decide) (fun _ => ?_) (fun h => absurd (by decide) h)
      refine lv_iload hx hb dX12_lengths_55 (lv_at hl 1 rfl) ?_
      refine lv_istore (lv' := [(4, .int 20), (2, .int 21), (5, .int 20), (3, .int 0), (0, .ref h0), (1, .int 2)]) hx hb dX12_lengths_57 hl (by decide) rfl (fun ls hl => ?_)
      refine lv_iinc (v := 21) (lv' := [(5, .int 21), (4, .int 20), (2, .int 21), (3, .int 0), (0, .ref h0), (1, .int 2)]) hx hb dX12_lengths_59 hl (k := 2) rfl (by decide) (by decide) rfl (fun ls hl => ?_)
      refine lv_goto (tgt := 26) hx hb dX12_lengths_62 (by decide) ?_
      refine lv_iload hx hb dX12_lengths_26 (lv_at hl 0 rfl) ?_
      refine lv_bipush (v := 31) hx hb dX12_lengths_28 (by decide) ?_
      refine lv_icmp_ge (tgt := 65) hx hb dX12_lengths_30 (by decide) (fun h => absurd h (by decide)) (fun _ => ?_)
      refine lv_aload_n hx hb dX12_lengths_33 rfl (lv_at hl 4 rfl) ?_
      refine lv_iload hx hb dX12_lengths_34 (lv_at hl 0 rfl) ?_
      refine zcall2 (va_runV (As := [.int 21]) (rest := []) ⟨hx, hb, hml, hown, hts⟩ (c_asSeen12 l D ct h0 y 0 0 0 0 0 0 0 0 0 0 0 0 0 0 0 0 0 0 21 (fun _ => 0) (by decide) H.size) (cwV 1 hts gX12_lengths_X12_isAsSeen rfl rfl rfl (by decide +kernel) ⟨Nat.le_of_ble_eq_true rfl, Nat.le_of_ble_eq_true rfl⟩) (zpreV hK hw hS hA zZ.nil hN [1, 2] rfl rfl 11 1 rfl rfl) rfl rfl hl.1 rfl (lv_room (Nat.le_of_ble_eq_true rfl)) dX12_lengths_36 ⟨Nat.le_of_ble_eq_true rfl, Nat.le_of_ble_eq_true rfl⟩) hw hS hA [1, 2] [0] rfl rfl rfl rfl (fun _ H locs hp351 hw hS => ?_)
      have hw : zPD D A [(y 1, .inl (ct 0, 8, .inl (upd (upd (fun _ => 0) 2 1) 3 2))), (h0, .inr (11, [.int 0, .int 0, .ref (y 0), .int 0, .int 0, .int 0, .int 0, .long 0, .int 0, .int 0, .ref (y 1), .ref (y 2), .ref (y 3), .ref (y 4), .ref (y 5), .ref (y 6), .ref (y 7), .ref (y 8), .ref (y 9), .ref (y 10), .ref (y 11), .ref (y 12), .int 0, .int 0, .ref (y 13), .ref (y 14), .ref (y 15), .ref (y 16), .ref (y 17), .ref (y 18), .ref (y 19), .ref (y 20), .ref (y 21), .ref (y 22), .ref (y 23), .ref (y 24), .int 0, .long 0, .ref (y 25), .ref (y 26), .ref (y 27), .ref (y 28), .ref (y 29), .ref (y 30), .ref (y 31), .ref (y 32), .ref (y 33), .ref (y 34), .ref (y 35), .ref (y 36), .ref (y 37), .int 0, .int 0, .ref (y 38), .long 0, .int 0, .int 0])), (y 29, .inl (ct 0, 5, .inl (fun _ => 0)))] H := hw
      refine zfr 39 [.int 1] rfl rfl ?_
      refine lv_if_ne (tgt := 45) hx hb dX12_lengths_39 (by decide) (fun _ => ?_) (fun h => absurd h (by decide))
      refine lv_iinc (v := 22) (lv' := [(2, .int 22), (5, .int 21), (4, .int 20), (3, .int 0), (0, .ref h0), (1, .int 2)]) hx hb dX12_lengths_45 hl (k := 2) rfl (by decide) (by decide) rfl (fun ls hl => ?_)
      refine lv_iload_n hx hb dX12_lengths_48 rfl (lv_at hl 3 rfl) ?_
      refine lv_if_ge (tgt := 55) hx hb dX12_lengths_49 (by decide) (fun _ => ?_) (fun h => absurd (by decide) h)
      refine lv_iload hx hb dX12_lengths_55 (lv_at hl 1 rfl) ?_
      refine lv_istore (lv' := [(4, .int 21), (2, .int 22), (5, .int 21), (3, .int 0), (0, .ref h0), (1, .int 2)]) hx hb dX12_lengths_57 hl (by decide) rfl (fun ls hl => ?_)
      refine lv_iinc (v := 22) (lv' := [(5, .int 22), (4, .int 21), (2, .int 22), (3, .int 0), (0, .ref h0), (1, .int 2)]) hx hb dX12_lengths_59 hl (k := 2) rfl (by decide) (by decide) rfl (fun ls hl => ?_)
      refine lv_goto (tgt := 26) hx hb dX12_lengths_62 (by decide) ?_
      refine lv_iload hx hb dX12_lengths_26 (lv_at hl 0 rfl) ?_
      refine lv_bipush (v := 31) hx hb dX12_lengths_28 (by decide) ?_
      refine lv_icmp_ge (tgt := 65) hx hb dX12_lengths_30 (by decide) (fun h => absurd h (by decide)) (fun _ => ?_)
      refine lv_aload_n hx hb dX12_lengths_33 rfl (lv_at hl 4 rfl) ?_
      refine lv_iload hx hb dX12_lengths_34 (lv_at hl 0 rfl) ?_
      refine zcall2 (va_runV (As := [.int 22]) (rest := []) ⟨hx, hb, hml, hown, hts⟩ (c_asSeen12 l D ct h0 y 0 0 0 0 0 0 0 0 0 0 0 0 0 0 0 0 0 0 22 (fun _ => 0) (by decide) H.size) (cwV 1 hts gX12_lengths_X12_isAsSeen rfl rfl rfl (by decide +kernel) ⟨Nat.le_of_ble_eq_true rfl, Nat.le_of_ble_eq_true rfl⟩) (zpreV hK hw hS hA zZ.nil hN [1, 2] rfl rfl 11 1 rfl rfl) rfl rfl hl.1 rfl (lv_room (Nat.le_of_ble_eq_true rfl)) dX12_lengths_36 ⟨Nat.le_of_ble_eq_true rfl, Nat.le_of_ble_eq_true rfl⟩) hw hS hA [1, 2] [0] rfl rfl rfl rfl (fun _ H locs hp355 hw hS => ?_)
      have hw : zPD D A [(y 1, .inl (ct 0, 8, .inl (upd (upd (fun _ => 0) 2 1) 3 2))), (h0, .inr (11, [.int 0, .int 0, .ref (y 0), .int 0, .int 0, .int 0, .int 0, .long 0, .int 0, .int 0, .ref (y 1), .ref (y 2), .ref (y 3), .ref (y 4), .ref (y 5), .ref (y 6), .ref (y 7), .ref (y 8), .ref (y 9), .ref (y 10), .ref (y 11), .ref (y 12), .int 0, .int 0, .ref (y 13), .ref (y 14), .ref (y 15), .ref (y 16), .ref (y 17), .ref (y 18), .ref (y 19), .ref (y 20), .ref (y 21), .ref (y 22), .ref (y 23), .ref (y 24), .int 0, .long 0, .ref (y 25), .ref (y 26), .ref (y 27), .ref (y 28), .ref (y 29), .ref (y 30), .ref (y 31), .ref (y 32), .ref (y 33), .ref (y 34), .ref (y 35), .ref (y 36), .ref (y 37), .int 0, .int 0, .ref (y 38), .long 0, .int 0, .int 0])), (y 29, .inl (ct 0, 5, .inl (fun _ => 0)))] H := hw
      refine zfr 39 [.int 1] rfl rfl ?_
      refine lv_if_ne (tgt := 45) hx hb dX12_lengths_39 (by decide) (fun _ => ?_) (fun h => absurd h (by decide))
      refine lv_iinc (v := 23) (lv' := [(2, .int 23), (5, .int 22), (4, .int 21), (3, .int 0), (0, .ref h0), (1, .int 2)]) hx hb dX12_lengths_45 hl (k := 2) rfl (by decide) (by decide) rfl (fun ls hl => ?_)
      refine lv_iload_n hx hb dX12_lengths_48 rfl (lv_at hl 3 rfl) ?_
      refine lv_if_ge (tgt := 55) hx hb dX12_lengths_49 (by decide) (fun _ => ?_) (fun h => absurd (by decide) h)
      refine lv_iload hx hb dX12_lengths_55 (lv_at hl 1 rfl) ?_
      refine lv_istore (lv' := [(4, .int 22), (2, .int 23), (5, .int 22), (3, .int 0), (0, .ref h0), (1, .int 2)]) hx hb dX12_lengths_57 hl (by decide) rfl (fun ls hl => ?_)
      refine lv_iinc (v := 23) (lv' := [(5, .int 23), (4, .int 22), (2, .int 23), (3, .int 0), (0, .ref h0), (1, .int 2)]) hx hb dX12_lengths_59 hl (k := 2) rfl (by decide) (by decide) rfl (fun ls hl => ?_)
      refine lv_goto (tgt := 26) hx hb dX12_lengths_62 (by decide) ?_
      refine lv_iload hx hb dX12_lengths_26 (lv_at hl 0 rfl) ?_
      refine lv_bipush (v := 31) hx hb dX12_lengths_28 (by decide) ?_
      refine lv_icmp_ge (tgt := 65) hx hb dX12_lengths_30 (by decide) (fun h => absurd h (by decide)) (fun _ => ?_)
      refine lv_aload_n hx hb dX12_lengths_33 rfl (lv_at hl 4 rfl) ?_
      refine lv_iload hx hb dX12_lengths_34 (lv_at hl 0 rfl) ?_
      refine zcall2 (va_runV (As := [.int 23]) (rest := []) ⟨hx, hb, hml, hown, hts⟩ (c_asSeen12 l D ct h0 y 0 0 0 0 0 0 0 0 0 0 0 0 0 0 0 0 0 0 23 (fun _ => 0) (by decide) H.size) (cwV 1 hts gX12_lengths_X12_isAsSeen rfl rfl rfl (by decide +kernel) ⟨Nat.le_of_ble_eq_true rfl, Nat.le_of_ble_eq_true rfl⟩) (zpreV hK hw hS hA zZ.nil hN [1, 2] rfl rfl 11 1 rfl rfl) rfl rfl hl.1 rfl (lv_room (Nat.le_of_ble_eq_true rfl)) dX12_lengths_36 ⟨Nat.le_of_ble_eq_true rfl, Nat.le_of_ble_eq_true rfl⟩) hw hS hA [1, 2] [0] rfl rfl rfl rfl (fun _ H locs hp359 hw hS => ?_)
      have hw : zPD D A [(y 1, .inl (ct 0, 8, .inl (upd (upd (fun _ => 0) 2 1) 3 2))), (h0, .inr (11, [.int 0, .int 0, .ref (y 0), .int 0, .int 0, .int 0, .int 0, .long 0, .int 0, .int 0, .ref (y 1), .ref (y 2), .ref (y 3), .ref (y 4), .ref (y 5), .ref (y 6), .ref (y 7), .ref (y 8), .ref (y 9), .ref (y 10), .ref (y 11), .ref (y 12), .int 0, .int 0, .ref (y 13), .ref (y 14), .ref (y 15), .ref (y 16), .ref (y 17), .ref (y 18), .ref (y 19), .ref (y 20), .ref (y 21), .ref (y 22), .ref (y 23), .ref (y 24), .int 0, .long 0, .ref (y 25), .ref (y 26), .ref (y 27), .ref (y 28), .ref (y 29), .ref (y 30), .ref (y 31), .ref (y 32), .ref (y 33), .ref (y 34), .ref (y 35), .ref (y 36), .ref (y 37), .int 0, .int 0, .ref (y 38), .long 0, .int 0, .int 0])), (y 29, .inl (ct 0, 5, .inl (fun _ => 0)))] H := hw
      refine zfr 39 [.int 1] rfl rfl ?_
      refine lv_if_ne (tgt := 45) hx hb dX12_lengths_39 (by decide) (fun _ => ?_) (fun h => absurd h (by decide))
      refine lv_iinc (v := 24) (lv' := [(2, .int 24), (5, .int 23), (4, .int 22), (3, .int 0), (0, .ref h0), (1, .int 2)]) hx hb dX12_lengths_45 hl (k := 2) rfl (by decide) (by decide) rfl (fun ls hl => ?_)
      refine lv_iload_n hx hb dX12_lengths_48 rfl (lv_at hl 3 rfl) ?_
      refine lv_if_ge (tgt := 55) hx hb dX12_lengths_49 (by decide) (fun _ => ?_) (fun h => absurd (by decide) h)
      refine lv_iload hx hb dX12_lengths_55 (lv_at hl 1 rfl) ?_
      refine lv_istore (lv' := [(4, .int 23), (2, .int 24), (5, .int 23), (3, .int 0), (0, .ref h0), (1, .int 2)]) hx hb dX12_lengths_57 hl (by decide) rfl (fun ls hl => ?_)
      refine lv_iinc (v := 24) (lv' := [(5, .int 24), (4, .int 23), (2, .int 24), (3, .int 0), (0, .ref h0), (1, .int 2)]) hx hb dX12_lengths_59 hl (k := 2) rfl (by decide) (by decide) rfl (fun ls hl => ?_)
      refine lv_goto (tgt := 26) hx hb dX12_lengths_62 (by decide) ?_
      refine lv_iload hx hb dX12_lengths_26 (lv_at hl 0 rfl) ?_
      refine lv_bipush (v := 31) hx hb dX12_lengths_28 (by decide) ?_
      refine lv_icmp_ge (tgt := 65) hx hb dX12_lengths_30 (by decide) (fun h => absurd h (by decide)) (fun _ => ?_)
      refine lv_aload_n hx hb dX12_lengths_33 rfl (lv_at hl 4 rfl) ?_
      refine lv_iload hx hb dX12_lengths_34 (lv_at hl 0 rfl) ?_
      refine zcall2 (va_runV (As := [.int 24]) (rest := []) ⟨hx, hb, hml, hown, hts⟩ (c_asSeen12 l D ct h0 y 0 0 0 0 0 0 0 0 0 0 0 0 0 0 0 0 0 0 24 (fun _ => 0) (by decide) H.size) (cwV 1 hts gX12_lengths_X12_isAsSeen rfl rfl rfl (by decide +kernel) ⟨Nat.le_of_ble_eq_true rfl, Nat.le_of_ble_eq_true rfl⟩) (zpreV hK hw hS hA zZ.nil hN [1, 2] rfl rfl 11 1 rfl rfl) rfl rfl hl.1 rfl (lv_room (Nat.le_of_ble_eq_true rfl)) dX12_lengths_36 ⟨Nat.le_of_ble_eq_true rfl, Nat.le_of_ble_eq_true rfl⟩) hw hS hA [1, 2] [0] rfl rfl rfl rfl (fun _ H locs hp363 hw hS => ?_)
      have hw : zPD D A [(y 1, .inl (ct 0, 8, .inl (upd (upd (fun _ => 0) 2 1) 3 2))), (h0, .inr (11, [.int 0, .int 0, .ref (y 0), .int 0, .int 0, .int 0, .int 0, .long 0, .int 0, .int 0, .ref (y 1), .ref (y 2), .ref (y 3), .ref (y 4), .ref (y 5), .ref (y 6), .ref (y 7), .ref (y 8), .ref (y 9), .ref (y 10), .ref (y 11), .ref (y 12), .int 0, .int 0, .ref (y 13), .ref (y 14), .ref (y 15), .ref (y 16), .ref (y 17), .ref (y 18), .ref (y 19), .ref (y 20), .ref (y 21), .ref (y 22), .ref (y 23), .ref (y 24), .int 0, .long 0, .ref (y 25), .ref (y 26), .ref (y 27), .ref (y 28), .ref (y 29), .ref (y 30), .ref (y 31), .ref (y 32), .ref (y 33), .ref (y 34), .ref (y 35), .ref (y 36), .ref (y 37), .int 0, .int 0, .ref (y 38), .long 0, .int 0, .int 0])), (y 29, .inl (ct 0, 5, .inl (fun _ => 0)))] H := hw
      refine zfr 39 [.int 1] rfl rfl ?_
      refine lv_if_ne (tgt := 45) hx hb dX12_lengths_39 (by decide) (fun _ => ?_) (fun h => absurd h (by decide))
      refine lv_iinc (v := 25) (lv' := [(2, .int 25), (5, .int 24), (4, .int 23), (3, .int 0), (0, .ref h0), (1, .int 2)]) hx hb dX12_lengths_45 hl (k := 2) rfl (by decide) (by decide) rfl (fun ls hl => ?_)
      refine lv_iload_n hx hb dX12_lengths_48 rfl (lv_at hl 3 rfl) ?_
      refine lv_if_ge (tgt := 55) hx hb dX12_lengths_49 (by decide) (fun _ => ?_) (fun h => absurd (by decide) h)
      refine lv_iload hx hb dX12_lengths_55 (lv_at hl 1 rfl) ?_
      refine lv_istore (lv' := [(4, .int 24), (2, .int 25), (5, .int 24), (3, .int 0), (0, .ref h0), (1, .int 2)]) hx hb dX12_lengths_57 hl (by decide) rfl (fun ls hl => ?_)
      refine lv_iinc (v := 25) (lv' := [(5, .int 25), (4, .int 24), (2, .int 25), (3, .int 0), (0, .ref h0), (1, .int 2)]) hx hb dX12_lengths_59 hl (k := 2) rfl (by decide) (by decide) rfl (fun ls hl => ?_)
      refine lv_goto (tgt := 26) hx hb dX12_lengths_62 (by decide) ?_
      refine lv_iload hx hb dX12_lengths_26 (lv_at hl 0 rfl) ?_
      refine lv_bipush (v := 31) hx hb dX12_lengths_28 (by decide) ?_
      refine lv_icmp_ge (tgt := 65) hx hb dX12_lengths_30 (by decide) (fun h => absurd h (by decide)) (fun _ => ?_)
      refine lv_aload_n hx hb dX12_lengths_33 rfl (lv_at hl 4 rfl) ?_
      refine lv_iload hx hb dX12_lengths_34 (lv_at hl 0 rfl) ?_
      refine zcall2 (va_runV (As := [.int 25]) (rest := []) ⟨hx, hb, hml, hown, hts⟩ (c_asSeen12 l D ct h0 y 0 0 0 0 0 0 0 0 0 0 0 0 0 0 0 0 0 0 25 (fun _ => 0) (by decide) H.size) (cwV 1 hts gX12_lengths_X12_isAsSeen rfl rfl rfl (by decide +kernel) ⟨Nat.le_of_ble_eq_true rfl, Nat.le_of_ble_eq_true rfl⟩) (zpreV hK hw hS hA zZ.nil hN [1, 2] rfl rfl 11 1 rfl rfl) rfl rfl hl.1 rfl (lv_room (Nat.le_of_ble_eq_true rfl)) dX12_lengths_36 ⟨Nat.le_of_ble_eq_true rfl, Nat.le_of_ble_eq_true rfl⟩) hw hS hA [1, 2] [0] rfl rfl rfl rfl (fun _ H locs hp367 hw hS => ?_)
      have hw : zPD D A [(y 1, .inl (ct 0, 8, .inl (upd (upd (fun _ => 0) 2 1) 3 2))), (h0, .inr (11, [.int 0, .int 0, .ref (y 0), .int 0, .int 0, .int 0, .int 0, .long 0, .int 0, .int 0, .ref (y 1), .ref (y 2), .ref (y 3), .ref (y 4), .ref (y 5), .ref (y 6), .ref (y 7), .ref (y 8), .ref (y 9), .ref (y 10), .ref (y 11), .ref (y 12), .int 0, .int 0, .ref (y 13), .ref (y 14), .ref (y 15), .ref (y 16), .ref (y 17), .ref (y 18), .ref (y 19), .ref (y 20), .ref (y 21), .ref (y 22), .ref (y 23), .ref (y 24), .int 0, .long 0, .ref (y 25), .ref (y 26), .ref (y 27), .ref (y 28), .ref (y 29), .ref (y 30), .ref (y 31), .ref (y 32), .ref (y 33), .ref (y 34), .ref (y 35), .ref (y 36), .ref (y 37), .int 0, .int 0, .ref (y 38), .long 0, .int 0, .int 0])), (y 29, .inl (ct 0, 5, .inl (fun _ => 0)))] H := hw
      refine zfr 39 [.int 1] rfl rfl ?_
      refine lv_if_ne (tgt := 45) hx hb dX12_lengths_39 (by decide) (fun _ => ?_) (fun h => absurd h (by decide))
      refine lv_iinc (v := 26) (lv' := [(2, .int 26), (5, .int 25), (4, .int 24), (3, .int 0), (0, .ref h0), (1, .int 2)]) hx hb dX12_lengths_45 hl (k := 2) rfl (by decide) (by decide) rfl (fun ls hl => ?_)
      refine lv_iload_n hx hb dX12_lengths_48 rfl (lv_at hl 3 rfl) ?_
      refine lv_if_ge (tgt := 55) hx hb dX12_lengths_49 (by decide) (fun _ => ?_) (fun h => absurd (by decide) h)
      refine lv_iload hx hb dX12_lengths_55 (lv_at hl 1 rfl) ?_
      refine lv_istore (lv' := [(4, .int 25), (2, .int 26), (5, .int 25), (3, .int 0), (0, .ref h0), (1, .int 2)]) hx hb dX12_lengths_57 hl (by decide) rfl (fun ls hl => ?_)
      refine lv_iinc (v := 26) (lv' := [(5, .int 26), (4, .int 25), (2, .int 26), (3, .int 0), (0, .ref h0), (1, .int 2)]) hx hb dX12_lengths_59 hl (k := 2) rfl (by decide) (by decide) rfl (fun ls hl => ?_)
      refine lv_goto (tgt := 26) hx hb dX12_lengths_62 (by decide) ?_
      refine lv_iload hx hb dX12_lengths_26 (lv_at hl 0 rfl) ?_
      refine lv_bipush (v := 31) hx hb dX12_lengths_28 (by decide) ?_
      refine lv_icmp_ge (tgt := 65) hx hb dX12_lengths_30 (by decide) (fun h => absurd h (by decide)) (fun _ => ?_)
      refine lv_aload_n hx hb dX12_lengths_33 rfl (lv_at hl 4 rfl) ?_
      refine lv_iload hx hb dX12_lengths_34 (lv_at hl 0 rfl) ?_
      refine zcall2 (va_runV (As := [.int 26]) (rest := []) ⟨hx, hb, hml, hown, hts⟩ (c_asSeen12 l D ct h0 y 0 0 0 0 0 0 0 0 0 0 0 0 0 0 0 0 0 0 26 (fun _ => 0) (by decide) H.size) (cwV 1 hts gX12_lengths_X12_isAsSeen rfl rfl rfl (by decide +kernel) ⟨Nat.le_of_ble_eq_true rfl, Nat.le_of_ble_eq_true rfl⟩) (zpreV hK hw hS hA zZ.nil hN [1, 2] rfl rfl 11 1 rfl rfl) rfl rfl hl.1 rfl (lv_room (Nat.le_of_ble_eq_true rfl)) dX12_lengths_36 ⟨Nat.le_of_ble_eq_true rfl, Nat.le_of_ble_eq_true rfl⟩) hw hS hA [1, 2] [0] rfl rfl rfl rfl (fun _ H locs hp371 hw hS => ?_)
      have hw : zPD D A [(y 1, .inl (ct 0, 8, .inl (upd (upd (fun _ => 0) 2 1) 3 2))), (h0, .inr (11, [.int 0, .int 0, .ref (y 0), .int 0, .int 0, .int 0, .int 0, .long 0, .int 0, .int 0, .ref (y 1), .ref (y 2), .ref (y 3), .ref (y 4), .ref (y 5), .ref (y 6), .ref (y 7), .ref (y 8), .ref (y 9), .ref (y 10), .ref (y 11), .ref (y 12), .int 0, .int 0, .ref (y 13), .ref (y 14), .ref (y 15), .ref (y 16), .ref (y 17), .ref (y 18), .ref (y 19), .ref (y 20), .ref (y 21), .ref (y 22), .ref (y 23), .ref (y 24), .int 0, .long 0, .ref (y 25), .ref (y 26), .ref (y 27), .ref (y 28), .ref (y 29), .ref (y 30), .ref (y 31), .ref (y 32), .ref (y 33), .ref (y 34), .ref (y 35), .ref (y 36), .ref (y 37), .int 0, .int 0, .ref (y 38), .long 0, .int 0, .int 0])), (y 29, .inl (ct 0, 5, .inl (fun _ => 0)))] H := hw
      refine zfr 39 [.int 1] rfl rfl ?_
      refine lv_if_ne (tgt := 45) hx hb dX12_lengths_39 (by decide) (fun _ => ?_) (fun h => absurd h (by decide))
      refine lv_iinc (v := 27) (lv' := [(2, .int 27), (5, .int 26), (4, .int 25), (3, .int 0), (0, .ref h0), (1, .int 2)]) hx hb dX12_lengths_45 hl (k := 2) rfl (by decide) (by decide) rfl (fun ls hl => ?_)
      refine lv_iload_n hx hb dX12_lengths_48 rfl (lv_at hl 3 rfl) ?_
      refine lv_if_ge (tgt := 55) hx hb dX12_lengths_49 (by decide) (fun _ => ?_) (fun h => absurd (by decide) h)
      refine lv_iload hx hb dX12_lengths_55 (lv_at hl 1 rfl) ?_
      refine lv_istore (lv' := [(4, .int 26), (2, .int 27), (5, .int 26), (3, .int 0), (0, .ref h0), (1, .int 2)]) hx hb dX12_lengths_57 hl (by decide) rfl (fun ls hl => ?_)
      refine lv_iinc (v := 27) (lv' := [(5, .int 27), (4, .int 26), (2, .int 27), (3, .int 0), (0, .ref h0), (1, .int 2)]) hx hb dX12_lengths_59 hl (k := 2) rfl (by decide) (by decide) rfl (fun ls hl => ?_)
      refine lv_goto (tgt := 26) hx hb dX12_lengths_62 (by decide) ?_
      refine lv_iload hx hb dX12_lengths_26 (lv_at hl 0 rfl) ?_
      refine lv_bipush (v := 31) hx hb dX12_lengths_28 (by decide) ?_
      refine lv_icmp_ge (tgt := 65) hx hb dX12_lengths_30 (by decide) (fun h => absurd h (by decide)) (fun _ => ?_)
      refine lv_aload_n hx hb dX12_lengths_33 rfl (lv_at hl 4 rfl) ?_
      refine lv_iload hx hb dX12_lengths_34 (lv_at hl 0 rfl) ?_
      refine zcall2 (va_runV (As := [.int 27]) (rest := []) ⟨hx, hb, hml, hown, hts⟩ (c_asSeen12 l D ct h0 y 0 0 0 0 0 0 0 0 0 0 0 0 0 0 0 0 0 0 27 (fun _ => 0) (by decide) H.size) (cwV 1 hts gX12_lengths_X12_isAsSeen rfl rfl rfl (by decide +kernel) ⟨Nat.le_of_ble_eq_true rfl, Nat.le_of_ble_eq_true rfl⟩) (zpreV hK hw hS hA zZ.nil hN [1, 2] rfl rfl 11 1 rfl rfl) rfl rfl hl.1 rfl (lv_room (Nat.le_of_ble_eq_true rfl)) dX12_lengths_36 ⟨Nat.le_of_ble_eq_true rfl, Nat.le_of_ble_eq_true rfl⟩) hw hS hA [1, 2] [0] rfl rfl rfl rfl (fun _ H locs hp375 hw hS => ?_)
      have hw : zPD D A [(y 1, .inl (ct 0, 8, .inl (upd (upd (fun _ => 0) 2 1) 3 2))), (h0, .inr (11, [.int 0, .int 0, .ref (y 0), .int 0, .int 0, .int 0, .int 0, .long 0, .int 0, .int 0, .ref (y 1), .ref (y 2), .ref (y 3), .ref (y 4), .ref (y 5), .ref (y 6), .ref (y 7), .ref (y 8), .ref (y 9), .ref (y 10), .ref (y 11), .ref (y 12), .int 0, .int 0, .ref (y 13), .ref (y 14), .ref (y 15), .ref (y 16), .ref (y 17), .ref (y 18), .ref (y 19), .ref (y 20), .ref (y 21), .ref (y 22), .ref (y 23), .ref (y 24), .int 0, .long 0, .ref (y 25), .ref (y 26), .ref (y 27), .ref (y 28), .ref (y 29), .ref (y 30), .ref (y 31), .ref (y 32), .ref (y 33), .ref (y 34), .ref (y 35), .ref (y 36), .ref (y 37), .int 0, .int 0, .ref (y 38), .long 0, .int 0, .int 0])), (y 29, .inl (ct 0, 5, .inl (fun _ => 0)))] H := hw
      refine zfr 39 [.int 1] rfl rfl ?_
      refine lv_if_ne (tgt := 45) hx hb dX12_lengths_39 (by decide) (fun _ => ?_) (fun h => absurd h (by decide))
      refine lv_iinc (v := 28) (lv' := [(2, .int 28), (5, .int 27), (4, .int 26), (3, .int 0), (0, .ref h0), (1, .int 2)]) hx hb dX12_lengths_45 hl (k := 2) rfl (by decide) (by decide) rfl (fun ls hl => ?_)
      refine lv_iload_n hx hb dX12_lengths_48 rfl (lv_at hl 3 rfl) ?_
      refine lv_if_ge (tgt := 55) hx hb dX12_lengths_49 (by decide) (fun _ => ?_) (fun h => absurd (by decide) h)
      refine lv_iload hx hb dX12_lengths_55 (lv_at hl 1 rfl) ?_
      refine lv_istore (lv' := [(4, .int 27), (2, .int 28), (5, .int 27), (3, .int 0), (0, .ref h0), (1, .int 2)]) hx hb dX12_lengths_57 hl (by decide) rfl (fun ls hl => ?_)
      refine lv_iinc (v := 28) (lv' := [(5, .int 28), (4, .int 27), (2, .int 28), (3, .int 0), (0, .ref h0), (1, .int 2)]) hx hb dX12_lengths_59 hl (k := 2) rfl (by decide) (by decide) rfl (fun ls hl => ?_)
      refine lv_goto (tgt := 26) hx hb dX12_lengths_62 (by decide) ?_
      refine lv_iload hx hb dX12_lengths_26 (lv_at hl 0 rfl) ?_
      refine lv_bipush (v := 31) hx hb dX12_lengths_28 (by decide) ?_
      refine lv_icmp_ge (tgt := 65) hx hb dX12_lengths_30 (by decide) (fun h => absurd h (by decide)) (fun _ => ?_)
      refine lv_aload_n hx hb dX12_lengths_33 rfl (lv_at hl 4 rfl) ?_
      refine lv_iload hx hb dX12_lengths_34 (lv_at hl 0 rfl) ?_
      refine zcall2 (va_runV (As := [.int 28]) (rest := []) ⟨hx, hb, hml, hown, hts⟩ (c_asSeen12 l D ct h0 y 0 0 0 0 0 0 0 0 0 0 0 0 0 0 0 0 0 0 28 (fun _ => 0) (by decide) H.size) (cwV 1 hts gX12_lengths_X12_isAsSeen rfl rfl rfl (by decide +kernel) ⟨Nat.le_of_ble_eq_true rfl, Nat.le_of_ble_eq_true rfl⟩) (zpreV hK hw hS hA zZ.nil hN [1, 2] rfl rfl 11 1 rfl rfl) rfl rfl hl.1 rfl (lv_room (Nat.le_of_ble_eq_true rfl)) dX12_lengths_36 ⟨Nat.le_of_ble_eq_true rfl, Nat.le_of_ble_eq_true rfl⟩) hw hS hA [1, 2] [0] rfl rfl rfl rfl (fun _ H locs hp379 hw hS => ?_)
      have hw : zPD D A [(y 1, .inl (ct 0, 8, .inl (upd (upd (fun _ => 0) 2 1) 3 2))), (h0, .inr (11, [.int 0, .int 0, .ref (y 0), .int 0, .int 0, .int 0, .int 0, .long 0, .int 0, .int 0, .ref (y 1), .ref (y 2), .ref (y 3), .ref (y 4), .ref (y 5), .ref (y 6), .ref (y 7), .ref (y 8), .ref (y 9), .ref (y 10), .ref (y 11), .ref (y 12), .int 0, .int 0, .ref (y 13), .ref (y 14), .ref (y 15), .ref (y 16), .ref (y 17), .ref (y 18), .ref (y 19), .ref (y 20), .ref (y 21), .ref (y 22), .ref (y 23), .ref (y 24), .int 0, .long 0, .ref (y 25), .ref (y 26), .ref (y 27), .ref (y 28), .ref (y 29), .ref (y 30), .ref (y 31), .ref (y 32), .ref (y 33), .ref (y 34), .ref (y 35), .ref (y 36), .ref (y 37), .int 0, .int 0, .ref (y 38), .long 0, .int 0, .int 0])), (y 29, .inl (ct 0, 5, .inl (fun _ => 0)))] H := hw
      refine zfr 39 [.int 1] rfl rfl ?_
      refine lv_if_ne (tgt := 45) hx hb dX12_lengths_39 (by decide) (fun _ => ?_) (fun h => absurd h (by decide))
      refine lv_iinc (v := 29) (lv' := [(2, .int 29), (5, .int 28), (4, .int 27), (3, .int 0), (0, .ref h0), (1, .int 2)]) hx hb dX12_lengths_45 hl (k := 2) rfl (by decide) (by decide) rfl (fun ls hl => ?_)
      refine lv_iload_n hx hb dX12_lengths_48 rfl (lv_at hl 3 rfl) ?_
      refine lv_if_ge (tgt := 55) hx hb dX12_lengths_49 (by decide) (fun _ => ?_) (fun h => absurd (by decide) h)
      refine lv_iload hx hb dX12_lengths_55 (lv_at hl 1 rfl) ?_
      refine lv_istore (lv' := [(4, .int 28), (2, .int 29), (5, .int 28), (3, .int 0), (0, .ref h0), (1, .int 2)]) hx hb dX12_lengths_57 hl (by decide) rfl (fun ls hl => ?_)
      refine lv_iinc (v := 29) (lv' := [(5, .int 29), (4, .int 28), (2, .int 29), (3, .int 0), (0, .ref h0), (1, .int 2)]) hx hb dX12_lengths_59 hl (k := 2) rfl (by decide) (by decide) rfl (fun ls hl => ?_)
      refine lv_goto (tgt := 26) hx hb dX12_lengths_62 (by decide) ?_
      refine lv_iload hx hb dX12_lengths_26 (lv_at hl 0 rfl) ?_
      refine lv_bipush (v := 31) hx hb dX12_lengths_28 (by decide) ?_
      refine lv_icmp_ge (tgt := 65) hx hb dX12_lengths_30 (by decide) (fun h => absurd h (by decide)) (fun _ => ?_)
      refine lv_aload_n hx hb dX12_lengths_33 rfl (lv_at hl 4 rfl) ?_
      refine lv_iload hx hb dX12_lengths_34 (lv_at hl 0 rfl) ?_
      refine zcall2 (va_runV (As := [.int 29]) (rest := []) ⟨hx, hb, hml, hown, hts⟩ (c_asSeen12 l D ct h0 y 0 0 0 0 0 0 0 0 0 0 0 0 0 0 0 0 0 0 29 (fun _ => 0) (by decide) H.size) (cwV 1 hts gX12_lengths_X12_isAsSeen rfl rfl rfl (by decide +kernel) ⟨Nat.le_of_ble_eq_true rfl, Nat.le_of_ble_eq_true rfl⟩) (zpreV hK hw hS hA zZ.nil hN [1, 2] rfl rfl 11 1 rfl rfl) rfl rfl hl.1 rfl (lv_room (Nat.le_of_ble_eq_true rfl)) dX12_lengths_36 ⟨Nat.le_of_ble_eq_true rfl, Nat.le_of_ble_eq_true rfl⟩) hw hS hA [1, 2] [0] rfl rfl rfl rfl (fun _ H locs hp383 hw hS => ?_)
      have hw : zPD D A [(y 1, .inl (ct 0, 8, .inl (upd (upd (fun _ => 0) 2 1) 3 2))), (h0, .inr (11, [.int 0, .int 0, .ref (y 0), .int 0, .int 0, .int 0, .int 0, .long 0, .int 0, .int 0, .ref (y 1), .ref (y 2), .ref (y 3), .ref (y 4), .ref (y 5), .ref (y 6), .ref (y 7), .ref (y 8), .ref (y 9), .ref (y 10), .ref (y 11), .ref (y 12), .int 0, .int 0, .ref (y 13), .ref (y 14), .ref (y 15), .ref (y 16), .ref (y 17), .ref (y 18), .ref (y 19), .ref (y 20), .ref (y 21), .ref (y 22), .ref (y 23), .ref (y 24), .int 0, .long 0, .ref (y 25), .ref (y 26), .ref (y 27), .ref (y 28), .ref (y 29), .ref (y 30), .ref (y 31), .ref (y 32), .ref (y 33), .ref (y 34), .ref (y 35), .ref (y 36), .ref (y 37), .int 0, .int 0, .ref (y 38), .long 0, .int 0, .int 0])), (y 29, .inl (ct 0, 5, .inl (fun _ => 0)))] H := hw
      refine zfr 39 [.int 1] rfl rfl ?_
      refine lv_if_ne (tgt := 45) hx hb dX12_lengths_39 (by decide) (fun _ => ?_) (fun h => absurd h (by decide))
      refine lv_iinc (v := 30) (lv' := [(2, .int 30), (5, .int 29), (4, .int 28), (3, .int 0), (0, .ref h0), (1, .int 2)]) hx hb dX12_lengths_45 hl (k := 2) rfl (by decide) (by decide) rfl (fun ls hl => ?_)
      refine lv_iload_n hx hb dX12_lengths_48 rfl (lv_at hl 3 rfl) ?_
      refine lv_if_ge (tgt := 55) hx hb dX12_lengths_49 (by decide) (fun _ => ?_) (fun h => absurd (by decide) h)
      refine lv_iload hx hb dX12_lengths_55 (lv_at hl 1 rfl) ?_
      refine lv_istore (lv' := [(4, .int 29), (2, .int 30), (5, .int 29), (3, .int 0), (0, .ref h0), (1, .int 2)]) hx hb dX12_lengths_57 hl (by decide) rfl (fun ls hl => ?_)
      refine lv_iinc (v := 30) (lv' := [(5, .int 30), (4, .int 29), (2, .int 30), (3, .int 0), (0, .ref h0), (1, .int 2)]) hx hb dX12_lengths_59 hl (k := 2) rfl (by decide) (by decide) rfl (fun ls hl => ?_)
      refine lv_goto (tgt := 26) hx hb dX12_lengths_62 (by decide) ?_
      refine lv_iload hx hb dX12_lengths_26 (lv_at hl 0 rfl) ?_
      refine lv_bipush (v := 31) hx hb dX12_lengths_28 (by decide) ?_
      refine lv_icmp_ge (tgt := 65) hx hb dX12_lengths_30 (by decide) (fun h => absurd h (by decide)) (fun _ => ?_)
      refine lv_aload_n hx hb dX12_lengths_33 rfl (lv_at hl 4 rfl) ?_
      refine lv_iload hx hb dX12_lengths_34 (lv_at hl 0 rfl) ?_
      refine zcall2 (va_runV (As := [.int 30]) (rest := []) ⟨hx, hb, hml, hown, hts⟩ (c_asSeen12 l D ct h0 y 0 0 0 0 0 0 0 0 0 0 0 0 0 0 0 0 0 0 30 (fun _ => 0) (by decide) H.size) (cwV 1 hts gX12_lengths_X12_isAsSeen rfl rfl rfl (by decide +kernel) ⟨Nat.le_of_ble_eq_true rfl, Nat.le_of_ble_eq_true rfl⟩) (zpreV hK hw hS hA zZ.nil hN [1, 2] rfl rfl 11 1 rfl rfl) rfl rfl hl.1 rfl (lv_room (Nat.le_of_ble_eq_true rfl)) dX12_lengths_36 ⟨Nat.le_of_ble_eq_true rfl, Nat.le_of_ble_eq_true rfl⟩) hw hS hA [1, 2] [0] rfl rfl rfl rfl (fun _ H locs hp387 hw hS => ?_)
      have hw : zPD D A [(y 1, .inl (ct 0, 8, .inl (upd (upd (fun _ => 0) 2 1) 3 2))), (h0, .inr (11, [.int 0, .int 0, .ref (y 0), .int 0, .int 0, .int 0, .int 0, .long 0, .int 0, .int 0, .ref (y 1), .ref (y 2), .ref (y 3), .ref (y 4), .ref (y 5), .ref (y 6), .ref (y 7), .ref (y 8), .ref (y 9), .ref (y 10), .ref (y 11), .ref (y 12), .int 0, .int 0, .ref (y 13), .ref (y 14), .ref (y 15), .ref (y 16), .ref (y 17), .ref (y 18), .ref (y 19), .ref (y 20), .ref (y 21), .ref (y 22), .ref (y 23), .ref (y 24), .int 0, .long 0, .ref (y 25), .ref (y 26), .ref (y 27), .ref (y 28), .ref (y 29), .ref (y 30), .ref (y 31), .ref (y 32), .ref (y 33), .ref (y 34), .ref (y 35), .ref (y 36), .ref (y 37), .int 0, .int 0, .ref (y 38), .long 0, .int 0, .int 0])), (y 29, .inl (ct 0, 5, .inl (fun _ => 0)))] H := hw
      refine zfr 39 [.int 1] rfl rfl ?_
      refine lv_if_ne (tgt := 45) hx hb dX12_lengths_39 (by decide) (fun _ => ?_) (fun h => absurd h (by decide))
      refine lv_iinc (v := 31) (lv' := [(2, .int 31), (5, .int 30), (4, .int 29), (3, .int 0), (0, .ref h0), (1, .int 2)]) hx hb dX12_lengths_45 hl (k := 2) rfl (by decide) (by decide) rfl (fun ls hl => ?_)
      refine lv_iload_n hx hb dX12_lengths_48 rfl (lv_at hl 3 rfl) ?_
      refine lv_if_ge (tgt := 55) hx hb dX12_lengths_49 (by decide) (fun _ => ?_) (fun h => absurd (by decide) h)
      refine lv_iload hx hb dX12_lengths_55 (lv_at hl 1 rfl) ?_
      refine lv_istore (lv' := [(4, .int 30), (2, .int 31), (5, .int 30), (3, .int 0), (0, .ref h0), (1, .int 2)]) hx hb dX12_lengths_57 hl (by decide) rfl (fun ls hl => ?_)
      refine lv_iinc (v := 31) (lv' := [(5, .int 31), (4, .int 30), (2, .int 31), (3, .int 0), (0, .ref h0), (1, .int 2)]) hx hb dX12_lengths_59 hl (k := 2) rfl (by decide) (by decide) rfl (fun ls hl => ?_)
      refine lv_goto (tgt := 26) hx hb dX12_lengths_62 (by decide) ?_
      refine lv_iload hx hb dX12_lengths_26 (lv_at hl 0 rfl) ?_
      refine lv_bipush (v := 31) hx hb dX12_lengths_28 (by decide) ?_
      refine lv_icmp_ge (tgt := 65) hx hb dX12_lengths_30 (by decide) (fun _ => ?_) (fun h => absurd (by decide) h)
      refine lv_iload_n hx hb dX12_lengths_65 rfl (lv_at hl 5 rfl) ?_
      refine lv_if_ne (tgt := 73) hx hb dX12_lengths_66 (by decide) (fun _ => ?_) (fun h => absurd h (by decide))
      refine lv_iload_n hx hb dX12_lengths_73 rfl (lv_at hl 5 rfl) ?_
      refine lv_iconst (v := 1) hx hb dX12_lengths_74 (by decide) ?_
      refine lv_icmp_ne (tgt := 82) hx hb dX12_lengths_75 (by decide) (fun _ => ?_) (fun h => absurd h (by decide))
      refine lv_iload hx hb dX12_lengths_82 (lv_at hl 1 rfl) ?_
      exact ziret hx hb hr (rfl) hlocks () (by decide) (trivial) hw [1, 0, 2] rfl (rfl) hS (Nat.le_of_ble_eq_true rfl) (Nat.le_of_ble_eq_true rfl) dX12_lengths_84

set_option maxHeartbeats 4000000 in
set_option maxRecDepth 100000 in
/-- count on a new object -/
theorem r_count (l : Launch) (D : va_G) (ct : Nat → ClassId) (h0 : Nat) (y : Nat → Nat) (p1 : Int32)  : zC l yX12_count wsX12_count ({ frames := 2, cells := 0, slots := 0, locals := 120 }) D ct [] [.ref h0, .int p1] [(h0, .inr (11, [.int 0, .int 0, .ref (y 0), .int 0, .int 0, .int 0, .int 0, .long 0, .int 0, .int 0, .ref (y 1), .ref (y 2), .ref (y 3), .ref (y 4), .ref (y 5), .ref (y 6), .ref (y 7), .ref (y 8), .ref (y 9), .ref (y 10), .ref (y 11), .ref (y 12), .int 0, .int 0, .ref (y 13), .ref (y 14), .ref (y 15), .ref (y 16), .ref (y 17), .ref (y 18), .ref (y 19), .ref (y 20), .ref (y 21), .ref (y 22), .ref (y 23), .ref (y 24), .int 0, .long 0, .ref (y 25), .ref (y 26), .ref (y 27), .ref (y 28), .ref (y 29), .ref (y 30), .ref (y 31), .ref (y 32), .ref (y 33), .ref (y 34), .ref (y 35), .ref (y 36), .ref (y 37), .int 0, .int 0, .ref (y 38), .long 0, .int 0, .int 0])), (y 1, .inl (ct 0, 8, .inl (upd (upd (fun _ => 0) 2 1) 3 2))), (y 32, .inl (ct 0, 31, .inl (fun _ => 0))), (y 25, .inl (ct 0, 6, .inl (fun _ => 0))), (y 29, .inl (ct 0, 5, .inl (fun _ => 0)))] (S := Unit) (fun _ => some (.int (zct p1))) (fun _ => True) (fun _ => []) 0 0 := by
  refine zofW cX12_count 2 (some .int) (by decide) rfl (Nat.le_of_ble_eq_true rfl) ?_
  intro p e s m below meth c A hx hb hr hml hts hown hlocks hname hK hA hZ hN H locs hw hS ls hl
  have hown : s.vm.findClass RX12 = some m.cls := hown
  have hl : lv_has ls 2 [(0, .ref h0), (1, .int p1)] := hl
  have hiX12 : ∀ w ∈ wsX120, w ∈ wsX12_count := by decide +kernel
  by_cases c_1 : p1.toInt < 0 ∨ 11 < p1.toInt
  · refine lv_aload_n hx hb dX12_count_0 rfl (lv_at hl 0 rfl) ?_
    refine lv_iconst (v := 0) hx hb dX12_count_1 (by decide) ?_
    refine zput (D := D) (ci := 11) (v := .int 0) (ty := .int) hx hb hts hiX12 tyX12 tyX12_ok nmX12 hown hK hw hS 0 rfl rfl 0 (by decide) (hts (.fieldLink RX12 129 "BeardPassModel" "thrown" "I") (by decide +kernel)) (fun _ h9 => h9) rfl (by decide +kernel) rfl rfl (Nat.le_of_ble_eq_true rfl) dX12_count_2 [(h0, .inr (11, [.int 0, .int 0, .ref (y 0), .int 0, .int 0, .int 0, .int 0, .long 0, .int 0, .int 0, .ref (y 1), .ref (y 2), .ref (y 3), .ref (y 4), .ref (y 5), .ref (y 6), .ref (y 7), .ref (y 8), .ref (y 9), .ref (y 10), .ref (y 11), .ref (y 12), .int 0, .int 0, .ref (y 13), .ref (y 14), .ref (y 15), .ref (y 16), .ref (y 17), .ref (y 18), .ref (y 19), .ref (y 20), .ref (y 21), .ref (y 22), .ref (y 23), .ref (y 24), .int 0, .long 0, .ref (y 25), .ref (y 26), .ref (y 27), .ref (y 28), .ref (y 29), .ref (y 30), .ref (y 31), .ref (y 32), .ref (y 33), .ref (y 34), .ref (y 35), .ref (y 36), .ref (y 37), .int 0, .int 0, .ref (y 38), .long 0, .int 0, .int 0])), (y 1, .inl (ct 0, 8, .inl (upd (upd (fun _ => 0) 2 1) 3 2))), (y 32, .inl (ct 0, 31, .inl (fun _ => 0))), (y 25, .inl (ct 0, 6, .inl (fun _ => 0))), (y 29, .inl (ct 0, 5, .inl (fun _ => 0)))] rfl (fun H locs hw hS => ?_)
    refine lv_iload_n hx hb dX12_count_5 rfl (lv_at hl 1 rfl) ?_
    refine lv_iconst (v := 0) hx hb dX12_count_6 (by decide) ?_
    refine lv_bipush (v := 11) hx hb dX12_count_7 (by decide) ?_
    refine zcall2 (va_runS (As := [.int p1, .int 0, .int 11]) (rest := []) ⟨hx, hb, hml, hown, hts⟩ (c_within l D ct p1 0 11 H.size) (va_cwS 3 hts gX12_count_X12_within rfl rfl rfl (by decide +kernel) ⟨Nat.le_of_ble_eq_true rfl, Nat.le_of_ble_eq_true rfl⟩) (zpreS hK hw hS hA zZ.nil hN [] rfl rfl) rfl rfl hl.1 rfl (lv_room (Nat.le_of_ble_eq_true rfl)) dX12_count_9 ⟨Nat.le_of_ble_eq_true rfl, Nat.le_of_ble_eq_true rfl⟩) hw hS hA [] [0, 1, 2, 3, 4] rfl rfl rfl rfl (fun _ H locs hp2 hw hS => ?_)
    have hw : zPD D A [(h0, .inr (11, [.int 0, .int 0, .ref (y 0), .int 0, .int 0, .int 0, .int 0, .long 0, .int 0, .int 0, .ref (y 1), .ref (y 2), .ref (y 3), .ref (y 4), .ref (y 5), .ref (y 6), .ref (y 7), .ref (y 8), .ref (y 9), .ref (y 10), .ref (y 11), .ref (y 12), .int 0, .int 0, .ref (y 13), .ref (y 14), .ref (y 15), .ref (y 16), .ref (y 17), .ref (y 18), .ref (y 19), .ref (y 20), .ref (y 21), .ref (y 22), .ref (y 23), .ref (y 24), .int 0, .long 0, .ref (y 25), .ref (y 26), .ref (y 27), .ref (y 28), .ref (y 29), .ref (y 30), .ref (y 31), .ref (y 32), .ref (y 33), .ref (y 34), .ref (y 35), .ref (y 36), .ref (y 37), .int 0, .int 0, .ref (y 38), .long 0, .int 0, .int 0])), (y 1, .inl (ct 0, 8, .inl (upd (upd (fun _ => 0) 2 1) 3 2))), (y 32, .inl (ct 0, 31, .inl (fun _ => 0))), (y 25, .inl (ct 0, 6, .inl (fun _ => 0))), (y 29, .inl (ct 0, 5, .inl (fun _ => 0)))] H := hw
    refine zfr 12 [.int (zwi p1 0 11)] rfl rfl ?_
    refine ztop (.int 0) (congrArg Value.int (zwi_out c_1 (by decide) (by decide))) ?_
    refine lv_if_ne (tgt := 17) hx hb dX12_count_12 (by decide) (fun h => absurd (by decide) h) (fun _ => ?_)
    refine lv_iconst (v := (-1)) hx hb dX12_count_15 (by decide) ?_
    exact ziret hx hb hr (rfl) hlocks () (by simp [zct, c_1]) (trivial) hw [] rfl (rfl) hS (Nat.le_of_ble_eq_true rfl) (Nat.le_of_ble_eq_true rfl) dX12_count_16
  · obtain ⟨j4, hj5, hxj6⟩ := zsw (lo := 0) (hi := 11) (k := 12) (by decide) (by decide) c_1
    rcases (show j4 = 0 ∨ j4 = 1 ∨ j4 = 2 ∨ j4 = 3 ∨ j4 = 4 ∨ j4 = 5 ∨ j4 = 6 ∨ j4 = 7 ∨ j4 = 8 ∨ j4 = 9 ∨ j4 = 10 ∨ j4 = 11 by omega) with rfl | rfl | rfl | rfl | rfl | rfl | rfl | rfl | rfl | rfl | rfl | rfl
    · obtain rfl : p1 = 0 := hxj6
      refine lv_aload_n hx hb dX12_count_0 rfl (lv_at hl 0 rfl) ?_
      refine lv_iconst (v := 0) hx hb dX12_count_1 (by decide) ?_
      refine zput (D := D) (ci := 11) (v := .int 0) (ty := .int) hx hb hts hiX12 tyX12 tyX12_ok nmX12 hown hK hw hS 0 rfl rfl 0 (by decide) (hts (.fieldLink RX12 129 "BeardPassModel" "thrown" "I") (by decide +kernel)) (fun _ h9 => h9) rfl (by decide +kernel) rfl rfl (Nat.le_of_ble_eq_true rfl) dX12_count_2 [(h0, .inr (11, [.int 0, .int 0, .ref (y 0), .int 0, .int 0, .int 0, .int 0, .long 0, .int 0, .int 0, .ref (y 1), .ref (y 2), .ref (y 3), .ref (y 4), .ref (y 5), .ref (y 6), .ref (y 7), .ref (y 8), .ref (y 9), .ref (y 10), .ref (y 11), .ref (y 12), .int 0, .int 0, .ref (y 13), .ref (y 14), .ref (y 15), .ref (y 16), .ref (y 17), .ref (y 18), .ref (y 19), .ref (y 20), .ref (y 21), .ref (y 22), .ref (y 23), .ref (y 24), .int 0, .long 0, .ref (y 25), .ref (y 26), .ref (y 27), .ref (y 28), .ref (y 29), .ref (y 30), .ref (y 31), .ref (y 32), .ref (y 33), .ref (y 34), .ref (y 35), .ref (y 36), .ref (y 37), .int 0, .int 0, .ref (y 38), .long 0, .int 0, .int 0])), (y 1, .inl (ct 0, 8, .inl (upd (upd (fun _ => 0) 2 1) 3 2))), (y 32, .inl (ct 0, 31, .inl (fun _ => 0))), (y 25, .inl (ct 0, 6, .inl (fun _ => 0))), (y 29, .inl (ct 0, 5, .inl (fun _ => 0)))] rfl (fun H locs hw hS => ?_)
      refine lv_iload_n hx hb dX12_count_5 rfl (lv_at hl 1 rfl) ?_
      refine lv_iconst (v := 0) hx hb dX12_count_6 (by decide) ?_
      refine lv_bipush (v := 11) hx hb dX12_count_7 (by decide) ?_
      refine zcall2 (va_runS (As := [.int 0, .int 0, .int 11]) (rest := []) ⟨hx, hb, hml, hown, hts⟩ (c_within l D ct 0 0 11 H.size) (va_cwS 3 hts gX12_count_X12_within rfl rfl rfl (by decide +kernel) ⟨Nat.le_of_ble_eq_true rfl, Nat.le_of_ble_eq_true rfl⟩) (zpreS hK hw hS hA zZ.nil hN [] rfl rfl) rfl rfl hl.1 rfl (lv_room (Nat.le_of_ble_eq_true rfl)) dX12_count_9 ⟨Nat.le_of_ble_eq_true rfl, Nat.le_of_ble_eq_true rfl⟩) hw hS hA [] [0, 1, 2, 3, 4] rfl rfl rfl rfl (fun _ H locs hp7 hw hS => ?_)
      have hw : zPD D A [(h0, .inr (11, [.int 0, .int 0, .ref (y 0), .int 0, .int 0, .int 0, .int 0, .long 0, .int 0, .int 0, .ref (y 1), .ref (y 2), .ref (y 3), .ref (y 4), .ref (y 5), .ref (y 6), .ref (y 7), .ref (y 8), .ref (y 9), .ref (y 10), .ref (y 11), .ref (y 12), .int 0, .int 0, .ref (y 13), .ref (y 14), .ref (y 15), .ref (y 16), .ref (y 17), .ref (y 18), .ref (y 19), .ref (y 20), .ref (y 21), .ref (y 22), .ref (y 23), .ref (y 24), .int 0, .long 0, .ref (y 25), .ref (y 26), .ref (y 27), .ref (y 28), .ref (y 29), .ref (y 30), .ref (y 31), .ref (y 32), .ref (y 33), .ref (y 34), .ref (y 35), .ref (y 36), .ref (y 37), .int 0, .int 0, .ref (y 38), .long 0, .int 0, .int 0])), (y 1, .inl (ct 0, 8, .inl (upd (upd (fun _ => 0) 2 1) 3 2))), (y 32, .inl (ct 0, 31, .inl (fun _ => 0))), (y 25, .inl (ct 0, 6, .inl (fun _ => 0))), (y 29, .inl (ct 0, 5, .inl (fun _ => 0)))] H := hw
      refine zfr 12 [.int (zwi 0 0 11)] rfl rfl ?_
      refine ztop (.int 1) (congrArg Value.int (by decide)) ?_
      refine lv_if_ne (tgt := 17) hx hb dX12_count_12 (by decide) (fun _ => ?_) (fun h => absurd h (by decide))
      refine lv_iload_n hx hb dX12_count_17 rfl (lv_at hl 1 rfl) ?_
      refine lv_iconst (v := 4) hx hb dX12_count_18 (by decide) ?_
      refine lv_icmp_ge (tgt := 29) hx hb dX12_count_19 (by decide) (fun h => absurd h (by decide)) (fun _ => ?_)
      refine lv_aload_n hx hb dX12_count_22 rfl (lv_at hl 0 rfl) ?_
      refine va_get (D := D) (ci := 11) (v := .ref (y 1)) hx hb hts hiX12 hown hK hw.1 0 rfl rfl 10 (by decide) (hts (.fieldLink RX12 13 "BeardPassModel" "land" "[I") (by decide +kernel)) (fun _ h9 => h9) rfl dX12_count_23 ?_
      refine lv_iload_n hx hb dX12_count_26 rfl (lv_at hl 1 rfl) ?_
      refine ziald hx hb hK hw 1 rfl 0 (by decide) (by decide) (by decide) dX12_count_27 ?_
      refine ztop (.int 0) rfl ?_
      exact ziret hx hb hr (rfl) hlocks () (by decide) (trivial) hw [] rfl (rfl) hS (Nat.le_of_ble_eq_true rfl) (Nat.le_of_ble_eq_true rfl) dX12_count_28
    · obtain rfl : p1 = 1 := hxj6
      refine lv_aload_n hx hb dX12_count_0 rfl (lv_at hl 0 rfl) ?_
      refine lv_iconst (v := 0) hx hb dX12_count_1 (by decide) ?_
      refine zput (D := D) (ci := 11) (v := .int 0) (ty := .int) hx hb hts hiX12 tyX12 tyX12_ok nmX12 hown hK hw hS 0 rfl rfl 0 (by decide) (hts (.fieldLink RX12 129 "BeardPassModel" "thrown" "I") (by decide +kernel)) (fun _ h9 => h9) rfl (by decide +kernel) rfl rfl (Nat.le_of_ble_eq_true rfl) dX12_count_2 [(h0, .inr (11, [.int 0, .int 0, .ref (y 0), .int 0, .int 0, .int 0, .int 0, .long 0, .int 0, .int 0, .ref (y 1), .ref (y 2), .ref (y 3), .ref (y 4), .ref (y 5), .ref (y 6), .ref (y 7), .ref (y 8), .ref (y 9), .ref (y 10), .ref (y 11), .ref (y 12), .int 0, .int 0, .ref (y 13), .ref (y 14), .ref (y 15), .ref (y 16), .ref (y 17), .ref (y 18), .ref (y 19), .ref (y 20), .ref (y 21), .ref (y 22), .ref (y 23), .ref (y 24), .int 0, .long 0, .ref (y 25), .ref (y 26), .ref (y 27), .ref (y 28), .ref (y 29), .ref (y 30), .ref (y 31), .ref (y 32), .ref (y 33), .ref (y 34), .ref (y 35), .ref (y 36), .ref (y 37), .int 0, .int 0, .ref (y 38), .long 0, .int 0, .int 0])), (y 1, .inl (ct 0, 8, .inl (upd (upd (fun _ => 0) 2 1) 3 2))), (y 32, .inl (ct 0, 31, .inl (fun _ => 0))), (y 25, .inl (ct 0, 6, .inl (fun _ => 0))), (y 29, .inl (ct 0, 5, .inl (fun _ => 0)))] rfl (fun H locs hw hS => ?_)
      refine lv_iload_n hx hb dX12_count_5 rfl (lv_at hl 1 rfl) ?_
      refine lv_iconst (v := 0) hx hb dX12_count_6 (by decide) ?_
      refine lv_bipush (v := 11) hx hb dX12_count_7 (by decide) ?_
      refine zcall2 (va_runS (As := [.int 1, .int 0, .int 11]) (rest := []) ⟨hx, hb, hml, hown, hts⟩ (c_within l D ct 1 0 11 H.size) (va_cwS 3 hts gX12_count_X12_within rfl rfl rfl (by decide +kernel) ⟨Nat.le_of_ble_eq_true rfl, Nat.le_of_ble_eq_true rfl⟩) (zpreS hK hw hS hA zZ.nil hN [] rfl rfl) rfl rfl hl.1 rfl (lv_room (Nat.le_of_ble_eq_true rfl)) dX12_count_9 ⟨Nat.le_of_ble_eq_true rfl, Nat.le_of_ble_eq_true rfl⟩) hw hS hA [] [0, 1, 2, 3, 4] rfl rfl rfl rfl (fun _ H locs hp10 hw hS => ?_)
      have hw : zPD D A [(h0, .inr (11, [.int 0, .int 0, .ref (y 0), .int 0, .int 0, .int 0, .int 0, .long 0, .int 0, .int 0, .ref (y 1), .ref (y 2), .ref (y 3), .ref (y 4), .ref (y 5), .ref (y 6), .ref (y 7), .ref (y 8), .ref (y 9), .ref (y 10), .ref (y 11), .ref (y 12), .int 0, .int 0, .ref (y 13), .ref (y 14), .ref (y 15), .ref (y 16), .ref (y 17), .ref (y 18), .ref (y 19), .ref (y 20), .ref (y 21), .ref (y 22), .ref (y 23), .ref (y 24), .int 0, .long 0, .ref (y 25), .ref (y 26), .ref (y 27), .ref (y 28), .ref (y 29), .ref (y 30), .ref (y 31), .ref (y 32), .ref (y 33), .ref (y 34), .ref (y 35), .ref (y 36), .ref (y 37), .int 0, .int 0, .ref (y 38), .long 0, .int 0, .int 0])), (y 1, .inl (ct 0, 8, .inl (upd (upd (fun _ => 0) 2 1) 3 2))), (y 32, .inl (ct 0, 31, .inl (fun _ => 0))), (y 25, .inl (ct 0, 6, .inl (fun _ => 0))), (y 29, .inl (ct 0, 5, .inl (fun _ => 0)))] H := hw
      refine zfr 12 [.int (zwi 1 0 11)] rfl rfl ?_
      refine ztop (.int 1) (congrArg Value.int (by decide)) ?_
      refine lv_if_ne (tgt := 17) hx hb dX12_count_12 (by decide) (fun _ => ?_) (fun h => absurd h (by decide))
      refine lv_iload_n hx hb dX12_count_17 rfl (lv_at hl 1 rfl) ?_
      refine lv_iconst (v := 4) hx hb dX12_count_18 (by decide) ?_
      refine lv_icmp_ge (tgt := 29) hx hb dX12_count_19 (by decide) (fun h => absurd h (by decide)) (fun _ => ?_)
      refine lv_aload_n hx hb dX12_count_22 rfl (lv_at hl 0 rfl) ?_
      refine va_get (D := D) (ci := 11) (v := .ref (y 1)) hx hb hts hiX12 hown hK hw.1 0 rfl rfl 10 (by decide) (hts (.fieldLink RX12 13 "BeardPassModel" "land" "[I") (by decide +kernel)) (fun _ h9 => h9) rfl dX12_count_23 ?_
      refine lv_iload_n hx hb dX12_count_26 rfl (lv_at hl 1 rfl) ?_
      refine ziald hx hb hK hw 1 rfl 1 (by decide) (by decide) (by decide) dX12_count_27 ?_
      refine ztop (.int 0) rfl ?_
      exact ziret hx hb hr (rfl) hlocks () (by decide) (trivial) hw [] rfl (rfl) hS (Nat.le_of_ble_eq_true rfl) (Nat.le_of_ble_eq_true rfl) dX12_count_28
    · obtain rfl : p1 = 2 := hxj6
      refine lv_aload_n hx hb dX12_count_0 rfl (lv_at hl 0 rfl) ?_
      refine lv_iconst (v := 0) hx hb dX12_count_1 (by decide) ?_
      refine zput (D := D) (ci := 11) (v := .int 0) (ty := .int) hx hb hts hiX12 tyX12 tyX12_ok nmX12 hown hK hw hS 0 rfl rfl 0 (by decide) (hts (.fieldLink RX12 129 "BeardPassModel" "thrown" "I") (by decide +kernel)) (fun _ h9 => h9) rfl (by decide +kernel) rfl rfl (Nat.le_of_ble_eq_true rfl) dX12_count_2 [(h0, .inr (11, [.int 0, .int 0, .ref (y 0), .int 0, .int 0, .int 0, .int 0, .long 0, .int 0, .int 0, .ref (y 1), .ref (y 2), .ref (y 3), .ref (y 4), .ref (y 5), .ref (y 6), .ref (y 7), .ref (y 8), .ref (y 9), .ref (y 10), .ref (y 11), .ref (y 12), .int 0, .int 0, .ref (y 13), .ref (y 14), .ref (y 15), .ref (y 16), .ref (y 17), .ref (y 18), .ref (y 19), .ref (y 20), .ref (y 21), .ref (y 22), .ref (y 23), .ref (y 24), .int 0, .long 0, .ref (y 25), .ref (y 26), .ref (y 27), .ref (y 28), .ref (y 29), .ref (y 30), .ref (y 31), .ref (y 32), .ref (y 33), .ref (y 34), .ref (y 35), .ref (y 36), .ref (y 37), .int 0, .int 0, .ref (y 38), .long 0, .int 0, .int 0])), (y 1, .inl (ct 0, 8, .inl (upd (upd (fun _ => 0) 2 1) 3 2))), (y 32, .inl (ct 0, 31, .inl (fun _ => 0))), (y 25, .inl (ct 0, 6, .inl (fun _ => 0))), (y 29, .inl (ct 0, 5, .inl (fun _ => 0)))] rfl (fun H locs hw hS => ?_)
      refine lv_iload_n hx hb dX12_count_5 rfl (lv_at hl 1 rfl) ?_
      refine lv_iconst (v := 0) hx hb dX12_count_6 (by decide) ?_
      refine lv_bipush (v := 11) hx hb dX12_count_7 (by decide) ?_
      refine zcall2 (va_runS (As := [.int 2, .int 0, .int 11]) (rest := []) ⟨hx, hb, hml, hown, hts⟩ (c_within l D ct 2 0 11 H.size) (va_cwS 3 hts gX12_count_X12_within rfl rfl rfl (by decide +kernel) ⟨Nat.le_of_ble_eq_true rfl, Nat.le_of_ble_eq_true rfl⟩) (zpreS hK hw hS hA zZ.nil hN [] rfl rfl) rfl rfl hl.1 rfl (lv_room (Nat.le_of_ble_eq_true rfl)) dX12_count_9 ⟨Nat.le_of_ble_eq_true rfl, Nat.le_of_ble_eq_true rfl⟩) hw hS hA [] [0, 1, 2, 3, 4] rfl rfl rfl rfl (fun _ H locs hp13 hw hS => ?_)
      have hw : zPD D A [(h0, .inr (11, [.int 0, .int 0, .ref (y 0), .int 0, .int 0, .int 0, .int 0, .long 0, .int 0, .int 0, .ref (y 1), .ref (y 2), .ref (y 3), .ref (y 4), .ref (y 5), .ref (y 6), .ref (y 7), .ref (y 8), .ref (y 9), .ref (y 10), .ref (y 11), .ref (y 12), .int 0, .int 0, .ref (y 13), .ref (y 14), .ref (y 15), .ref (y 16), .ref (y 17), .ref (y 18), .ref (y 19), .ref (y 20), .ref (y 21), .ref (y 22), .ref (y 23), .ref (y 24), .int 0, .long 0, .ref (y 25), .ref (y 26), .ref (y 27), .ref (y 28), .ref (y 29), .ref (y 30), .ref (y 31), .ref (y 32), .ref (y 33), .ref (y 34), .ref (y 35), .ref (y 36), .ref (y 37), .int 0, .int 0, .ref (y 38), .long 0, .int 0, .int 0])), (y 1, .inl (ct 0, 8, .inl (upd (upd (fun _ => 0) 2 1) 3 2))), (y 32, .inl (ct 0, 31, .inl (fun _ => 0))), (y 25, .inl (ct 0, 6, .inl (fun _ => 0))), (y 29, .inl (ct 0, 5, .inl (fun _ => 0)))] H := hw
      refine zfr 12 [.int (zwi 2 0 11)] rfl rfl ?_
      refine ztop (.int 1) (congrArg Value.int (by decide)) ?_
      refine lv_if_ne (tgt := 17) hx hb dX12_count_12 (by decide) (fun _ => ?_) (fun h => absurd h (by decide))
      refine lv_iload_n hx hb dX12_count_17 rfl (lv_at hl 1 rfl) ?_
      refine lv_iconst (v := 4) hx hb dX12_count_18 (by decide) ?_
      refine lv_icmp_ge (tgt := 29) hx hb dX12_count_19 (by decide) (fun h => absurd h (by decide)) (fun _ => ?_)
      refine lv_aload_n hx hb dX12_count_22 rfl (lv_at hl 0 rfl) ?_
      refine va_get (D := D) (ci := 11) (v := .ref (y 1)) hx hb hts hiX12 hown hK hw.1 0 rfl rfl 10 (by decide) (hts (.fieldLink RX12 13 "BeardPassModel" "land" "[I") (by decide +kernel)) (fun _ h9 => h9) rfl dX12_count_23 ?_
      refine lv_iload_n hx hb dX12_count_26 rfl (lv_at hl 1 rfl) ?_
      refine ziald hx hb hK hw 1 rfl 2 (by decide) (by decide) (by decide) dX12_count_27 ?_
      refine ztop (.int 1) rfl ?_
      exact ziret hx hb hr (rfl) hlocks () (by decide) (trivial) hw [] rfl (rfl) hS (Nat.le_of_ble_eq_true rfl) (Nat.le_of_ble_eq_true rfl) dX12_count_28
    · obtain rfl : p1 = 3 := hxj6
      refine lv_aload_n hx hb dX12_count_0 rfl (lv_at hl 0 rfl) ?_
      refine lv_iconst (v := 0) hx hb dX12_count_1 (by decide) ?_
      refine zput (D := D) (ci := 11) (v := .int 0) (ty := .int) hx hb hts hiX12 tyX12 tyX12_ok nmX12 hown hK hw hS 0 rfl rfl 0 (by decide) (hts (.fieldLink RX12 129 "BeardPassModel" "thrown" "I") (by decide +kernel)) (fun _ h9 => h9) rfl (by decide +kernel) rfl rfl (Nat.le_of_ble_eq_true rfl) dX12_count_2 [(h0, .inr (11, [.int 0, .int 0, .ref (y 0), .int 0, .int 0, .int 0, .int 0, .long 0, .int 0, .int 0, .ref (y 1), .ref (y 2), .ref (y 3), .ref (y 4), .ref (y 5), .ref (y 6), .ref (y 7), .ref (y 8), .ref (y 9), .ref (y 10), .ref (y 11), .ref (y 12), .int 0, .int 0, .ref (y 13), .ref (y 14), .ref (y 15), .ref (y 16), .ref (y 17), .ref (y 18), .ref (y 19), .ref (y 20), .ref (y 21), .ref (y 22), .ref (y 23), .ref (y 24), .int 0, .long 0, .ref (y 25), .ref (y 26), .ref (y 27), .ref (y 28), .ref (y 29), .ref (y 30), .ref (y 31), .ref (y 32), .ref (y 33), .ref (y 34), .ref (y 35), .ref (y 36), .ref (y 37), .int 0, .int 0, .ref (y 38), .long 0, .int 0, .int 0])), (y 1, .inl (ct 0, 8, .inl (upd (upd (fun _ => 0) 2 1) 3 2))), (y 32, .inl (ct 0, 31, .inl (fun _ => 0))), (y 25, .inl (ct 0, 6, .inl (fun _ => 0))), (y 29, .inl (ct 0, 5, .inl (fun _ => 0)))] rfl (fun H locs hw hS => ?_)
      refine lv_iload_n hx hb dX12_count_5 rfl (lv_at hl 1 rfl) ?_
      refine lv_iconst (v := 0) hx hb dX12_count_6 (by decide) ?_
      refine lv_bipush (v := 11) hx hb dX12_count_7 (by decide) ?_
      refine zcall2 (va_runS (As := [.int 3, .int 0, .int 11]) (rest := []) ⟨hx, hb, hml, hown, hts⟩ (c_within l D ct 3 0 11 H.size) (va_cwS 3 hts gX12_count_X12_within rfl rfl rfl (by decide +kernel) ⟨Nat.le_of_ble_eq_true rfl, Nat.le_of_ble_eq_true rfl⟩) (zpreS hK hw hS hA zZ.nil hN [] rfl rfl) rfl rfl hl.1 rfl (lv_room (Nat.le_of_ble_eq_true rfl)) dX12_count_9 ⟨Nat.le_of_ble_eq_true rfl, Nat.le_of_ble_eq_true rfl⟩) hw hS hA [] [0, 1, 2, 3, 4] rfl rfl rfl rfl (fun _ H locs hp16 hw hS => ?_)
      have hw : zPD D A [(h0, .inr (11, [.int 0, .int 0, .ref (y 0), .int 0, .int 0, .int 0, .int 0, .long 0, .int 0, .int 0, .ref (y 1), .ref (y 2), .ref (y 3), .ref (y 4), .ref (y 5), .ref (y 6), .ref (y 7), .ref (y 8), .ref (y 9), .ref (y 10), .ref (y 11), .ref (y 12), .int 0, .int 0, .ref (y 13), .ref (y 14), .ref (y 15), .ref (y 16), .ref (y 17), .ref (y 18), .ref (y 19), .ref (y 20), .ref (y 21), .ref (y 22), .ref (y 23), .ref (y 24), .int 0, .long 0, .ref (y 25), .ref (y 26), .ref (y 27), .ref (y 28), .ref (y 29), .ref (y 30), .ref (y 31), .ref (y 32), .ref (y 33), .ref (y 34), .ref (y 35), .ref (y 36), .ref (y 37), .int 0, .int 0, .ref (y 38), .long 0, .int 0, .int 0])), (y 1, .inl (ct 0, 8, .inl (upd (upd (fun _ => 0) 2 1) 3 2))), (y 32, .inl (ct 0, 31, .inl (fun _ => 0))), (y 25, .inl (ct 0, 6, .inl (fun _ => 0))), (y 29, .inl (ct 0, 5, .inl (fun _ => 0)))] H := hw
      refine zfr 12 [.int (zwi 3 0 11)] rfl rfl ?_
      refine ztop (.int 1) (congrArg Value.int (by decide)) ?_
      refine lv_if_ne (tgt := 17) hx hb dX12_count_12 (by decide) (fun _ => ?_) (fun h => absurd h (by decide))
      refine lv_iload_n hx hb dX12_count_17 rfl (lv_at hl 1 rfl) ?_
      refine lv_iconst (v := 4) hx hb dX12_count_18 (by decide) ?_
      refine lv_icmp_ge (tgt := 29) hx hb dX12_count_19 (by decide) (fun h => absurd h (by decide)) (fun _ => ?_)
      refine lv_aload_n hx hb dX12_count_22 rfl (lv_at hl 0 rfl) ?_
      refine va_get (D := D) (ci := 11) (v := .ref (y 1)) hx hb hts hiX12 hown hK hw.1 0 rfl rfl 10 (by decide) (hts (.fieldLink RX12 13 "BeardPassModel" "land" "[I") (by decide +kernel)) (fun _ h9 => h9) rfl dX12_count_23 ?_
      refine lv_iload_n hx hb dX12_count_26 rfl (lv_at hl 1 rfl) ?_
      refine ziald hx hb hK hw 1 rfl 3 (by decide) (by decide) (by decide) dX12_count_27 ?_
      refine ztop (.int 2) rfl ?_
      exact ziret hx hb hr (rfl) hlocks () (by decide) (trivial) hw [] rfl (rfl) hS (Nat.le_of_ble_eq_true rfl) (Nat.le_of_ble_eq_true rfl) dX12_count_28
    · obtain rfl : p1 = 4 := hxj6
      refine lv_aload_n hx hb dX12_count_0 rfl (lv_at hl 0 rfl) ?_
      refine lv_iconst (v := 0) hx hb dX12_count_1 (by decide) ?_
      refine zput (D := D) (ci := 11) (v := .int 0) (ty := .int) hx hb hts hiX12 tyX12 tyX12_ok nmX12 hown hK hw hS 0 rfl rfl 0 (by decide) (hts (.fieldLink RX12 129 "BeardPassModel" "thrown" "I") (by decide +kernel)) (fun _ h9 => h9) rfl (by decide +kernel) rfl rfl (Nat.le_of_ble_eq_true rfl) dX12_count_2 [(h0, .inr (11, [.int 0, .int 0, .ref (y 0), .int 0, .int 0, .int 0, .int 0, .long 0, .int 0, .int 0, .ref (y 1), .ref (y 2), .ref (y 3), .ref (y 4), .ref (y 5), .ref (y 6), .ref (y 7), .ref (y 8), .ref (y 9), .ref (y 10), .ref (y 11), .ref (y 12), .int 0, .int 0, .ref (y 13), .ref (y 14), .ref (y 15), .ref (y 16), .ref (y 17), .ref (y 18), .ref (y 19), .ref (y 20), .ref (y 21), .ref (y 22), .ref (y 23), .ref (y 24), .int 0, .long 0, .ref (y 25), .ref (y 26), .ref (y 27), .ref (y 28), .ref (y 29), .ref (y 30), .ref (y 31), .ref (y 32), .ref (y 33), .ref (y 34), .ref (y 35), .ref (y 36), .ref (y 37), .int 0, .int 0, .ref (y 38), .long 0, .int 0, .int 0])), (y 1, .inl (ct 0, 8, .inl (upd (upd (fun _ => 0) 2 1) 3 2))), (y 32, .inl (ct 0, 31, .inl (fun _ => 0))), (y 25, .inl (ct 0, 6, .inl (fun _ => 0))), (y 29, .inl (ct 0, 5, .inl (fun _ => 0)))] rfl (fun H locs hw hS => ?_)
      refine lv_iload_n hx hb dX12_count_5 rfl (lv_at hl 1 rfl) ?_
      refine lv_iconst (v := 0) hx hb dX12_count_6 (by decide) ?_
      refine lv_bipush (v := 11) hx hb dX12_count_7 (by decide) ?_
      refine zcall2 (va_runS (As := [.int 4, .int 0, .int 11]) (rest := []) ⟨hx, hb, hml, hown, hts⟩ (c_within l D ct 4 0 11 H.size) (va_cwS 3 hts gX12_count_X12_within rfl rfl rfl (by decide +kernel) ⟨Nat.le_of_ble_eq_true rfl, Nat.le_of_ble_eq_true rfl⟩) (zpreS hK hw hS hA zZ.nil hN [] rfl rfl) rfl rfl hl.1 rfl (lv_room (Nat.le_of_ble_eq_true rfl)) dX12_count_9 ⟨Nat.le_of_ble_eq_true rfl, Nat.le_of_ble_eq_true rfl⟩) hw hS hA [] [0, 1, 2, 3, 4] rfl rfl rfl rfl (fun _ H locs hp19 hw hS => ?_)
      have hw : zPD D A [(h0, .inr (11, [.int 0, .int 0, .ref (y 0), .int 0, .int 0, .int 0, .int 0, .long 0, .int 0, .int 0, .ref (y 1), .ref (y 2), .ref (y 3), .ref (y 4), .ref (y 5), .ref (y 6), .ref (y 7), .ref (y 8), .ref (y 9), .ref (y 10), .ref (y 11), .ref (y 12), .int 0, .int 0, .ref (y 13), .ref (y 14), .ref (y 15), .ref (y 16), .ref (y 17), .ref (y 18), .ref (y 19), .ref (y 20), .ref (y 21), .ref (y 22), .ref (y 23), .ref (y 24), .int 0, .long 0, .ref (y 25), .ref (y 26), .ref (y 27), .ref (y 28), .ref (y 29), .ref (y 30), .ref (y 31), .ref (y 32), .ref (y 33), .ref (y 34), .ref (y 35), .ref (y 36), .ref (y 37), .int 0, .int 0, .ref (y 38), .long 0, .int 0, .int 0])), (y 1, .inl (ct 0, 8, .inl (upd (upd (fun _ => 0) 2 1) 3 2))), (y 32, .inl (ct 0, 31, .inl (fun _ => 0))), (y 25, .inl (ct 0, 6, .inl (fun _ => 0))), (y 29, .inl (ct 0, 5, .inl (fun _ => 0)))] H := hw
      refine zfr 12 [.int (zwi 4 0 11)] rfl rfl ?_
      refine ztop (.int 1) (congrArg Value.int (by decide)) ?_
      refine lv_if_ne (tgt := 17) hx hb dX12_count_12 (by decide) (fun _ => ?_) (fun h => absurd h (by decide))
      refine lv_iload_n hx hb dX12_count_17 rfl (lv_at hl 1 rfl) ?_
      refine lv_iconst (v := 4) hx hb dX12_count_18 (by decide) ?_
      refine lv_icmp_ge (tgt := 29) hx hb dX12_count_19 (by decide) (fun _ => ?_) (fun h => absurd (by decide) h)
      refine lv_iload_n hx hb dX12_count_29 rfl (lv_at hl 1 rfl) ?_
      refine lv_bipush (v := 6) hx hb dX12_count_30 (by decide) ?_
      refine lv_icmp_ge (tgt := 54) hx hb dX12_count_32 (by decide) (fun h => absurd h (by decide)) (fun _ => ?_)
      refine lv_iload_n hx hb dX12_count_35 rfl (lv_at hl 1 rfl) ?_
      refine lv_iconst (v := 4) hx hb dX12_count_36 (by decide) ?_
      refine lv_icmp_ne (tgt := 49) hx hb dX12_count_37 (by decide) (fun h => absurd (by decide) h) (fun _ => ?_)
      refine lv_aload_n hx hb dX12_count_40 rfl (lv_at hl 0 rfl) ?_
      refine va_get (D := D) (ci := 11) (v := .ref (y 32)) hx hb hts hiX12 hown hK hw.1 0 rfl rfl 45 (by decide) (hts (.fieldLink RX12 108 "BeardPassModel" "s" "[I") (by decide +kernel)) (fun _ h9 => h9) rfl dX12_count_41 ?_
      refine lv_iconst (v := 0) hx hb dX12_count_44 (by decide) ?_
      refine ziald hx hb hK hw 2 rfl 0 (by decide) (by decide) (by decide) dX12_count_45 ?_
      refine ztop (.int 0) rfl ?_
      refine lv_goto (tgt := 53) hx hb dX12_count_46 (by decide) ?_
      exact ziret hx hb hr (rfl) hlocks () (by decide) (trivial) hw [] rfl (rfl) hS (Nat.le_of_ble_eq_true rfl) (Nat.le_of_ble_eq_true rfl) dX12_count_53
    · obtain rfl : p1 = 5 := hxj6
      refine lv_aload_n hx hb dX12_count_0 rfl (lv_at hl 0 rfl) ?_
      refine lv_iconst (v := 0) hx hb dX12_count_1 (by decide) ?_
      refine zput (D := D) (ci := 11) (v := .int 0) (ty := .int) hx hb hts hiX12 tyX12 tyX12_ok nmX12 hown hK hw hS 0 rfl rfl 0 (by decide) (hts (.fieldLink RX12 129 "BeardPassModel" "thrown" "I") (by decide +kernel)) (fun _ h9 => h9) rfl (by decide +kernel) rfl rfl (Nat.le_of_ble_eq_true rfl) dX12_count_2 [(h0, .inr (11, [.int 0, .int 0, .ref (y 0), .int 0, .int 0, .int 0, .int 0, .long 0, .int 0, .int 0, .ref (y 1), .ref (y 2), .ref (y 3), .ref (y 4), .ref (y 5), .ref (y 6), .ref (y 7), .ref (y 8), .ref (y 9), .ref (y 10), .ref (y 11), .ref (y 12), .int 0, .int 0, .ref (y 13), .ref (y 14), .ref (y 15), .ref (y 16), .ref (y 17), .ref (y 18), .ref (y 19), .ref (y 20), .ref (y 21), .ref (y 22), .ref (y 23), .ref (y 24), .int 0, .long 0, .ref (y 25), .ref (y 26), .ref (y 27), .ref (y 28), .ref (y 29), .ref (y 30), .ref (y 31), .ref (y 32), .ref (y 33), .ref (y 34), .ref (y 35), .ref (y 36), .ref (y 37), .int 0, .int 0, .ref (y 38), .long 0, .int 0, .int 0])), (y 1, .inl (ct 0, 8, .inl (upd (upd (fun _ => 0) 2 1) 3 2))), (y 32, .inl (ct 0, 31, .inl (fun _ => 0))), (y 25, .inl (ct 0, 6, .inl (fun _ => 0))), (y 29, .inl (ct 0, 5, .inl (fun _ => 0)))] rfl (fun H locs hw hS => ?_)
      refine lv_iload_n hx hb dX12_count_5 rfl (lv_at hl 1 rfl) ?_
      refine lv_iconst (v := 0) hx hb dX12_count_6 (by decide) ?_
      refine lv_bipush (v := 11) hx hb dX12_count_7 (by decide) ?_
      refine zcall2 (va_runS (As := [.int 5, .int 0, .int 11]) (rest := []) ⟨hx, hb, hml, hown, hts⟩ (c_within l D ct 5 0 11 H.size) (va_cwS 3 hts gX12_count_X12_within rfl rfl rfl (by decide +kernel) ⟨Nat.le_of_ble_eq_true rfl, Nat.le_of_ble_eq_true rfl⟩) (zpreS hK hw hS hA zZ.nil hN [] rfl rfl) rfl rfl hl.1 rfl (lv_room (Nat.le_of_ble_eq_true rfl)) dX12_count_9 ⟨Nat.le_of_ble_eq_true rfl, Nat.le_of_ble_eq_true rfl⟩) hw hS hA [] [0, 1, 2, 3, 4] rfl rfl rfl rfl (fun _ H locs hp24 hw hS => ?_)
      have hw : zPD D A [(h0, .inr (11, [.int 0, .int 0, .ref (y 0), .int 0, .int 0, .int 0, .int 0, .long 0, .int 0, .int 0, .ref (y 1), .ref (y 2), .ref (y 3), .ref (y 4), .ref (y 5), .ref (y 6), .ref (y 7), .ref (y 8), .ref (y 9), .ref (y 10), .ref (y 11), .ref (y 12), .int 0, .int 0, .ref (y 13), .ref (y 14), .ref (y 15), .ref (y 16), .ref (y 17), .ref (y 18), .ref (y 19), .ref (y 20), .ref (y 21), .ref (y 22), .ref (y 23), .ref (y 24), .int 0, .long 0, .ref (y 25), .ref (y 26), .ref (y 27), .ref (y 28), .ref (y 29), .ref (y 30), .ref (y 31), .ref (y 32), .ref (y 33), .ref (y 34), .ref (y 35), .ref (y 36), .ref (y 37), .int 0, .int 0, .ref (y 38), .long 0, .int 0, .int 0])), (y 1, .inl (ct 0, 8, .inl (upd (upd (fun _ => 0) 2 1) 3 2))), (y 32, .inl (ct 0, 31, .inl (fun _ => 0))), (y 25, .inl (ct 0, 6, .inl (fun _ => 0))), (y 29, .inl (ct 0, 5, .inl (fun _ => 0)))] H := hw
      refine zfr 12 [.int (zwi 5 0 11)] rfl rfl ?_
      refine ztop (.int 1) (congrArg Value.int (by decide)) ?_
      refine lv_if_ne (tgt := 17) hx hb dX12_count_12 (by decide) (fun _ => ?_) (fun h => absurd h (by decide))
      refine lv_iload_n hx hb dX12_count_17 rfl (lv_at hl 1 rfl) ?_
      refine lv_iconst (v := 4) hx hb dX12_count_18 (by decide) ?_
      refine lv_icmp_ge (tgt := 29) hx hb dX12_count_19 (by decide) (fun _ => ?_) (fun h => absurd (by decide) h)
      refine lv_iload_n hx hb dX12_count_29 rfl (lv_at hl 1 rfl) ?_
      refine lv_bipush (v := 6) hx hb dX12_count_30 (by decide) ?_
      refine lv_icmp_ge (tgt := 54) hx hb dX12_count_32 (by decide) (fun h => absurd h (by decide)) (fun _ => ?_)
      refine lv_iload_n hx hb dX12_count_35 rfl (lv_at hl 1 rfl) ?_
      refine lv_iconst (v := 4) hx hb dX12_count_36 (by decide) ?_
      refine lv_icmp_ne (tgt := 49) hx hb dX12_count_37 (by decide) (fun _ => ?_) (fun h => absurd h (by decide))
      refine lv_aload_n hx hb dX12_count_49 rfl (lv_at hl 0 rfl) ?_
      refine zcall2 (va_runV (As := []) (rest := []) ⟨hx, hb, hml, hown, hts⟩ (c_peopled12 l D ct h0 y 0 0 0 0 0 0 0 0 0 0 0 0 0 0 0 0 0 0 (upd (upd (fun _ => 0) 2 1) 3 2) (fun _ => 0) (by decide) H.size) (cwV 0 hts gX12_count_X12_peopled rfl rfl rfl (by decide +kernel) ⟨Nat.le_of_ble_eq_true rfl, Nat.le_of_ble_eq_true rfl⟩) (zpreV hK hw hS hA zZ.nil hN [0, 1, 2] rfl rfl 11 0 rfl rfl) rfl rfl hl.1 rfl (lv_room (Nat.le_of_ble_eq_true rfl)) dX12_count_50 ⟨Nat.le_of_ble_eq_true rfl, Nat.le_of_ble_eq_true rfl⟩) hw hS hA [0, 1, 2] [3, 4] rfl rfl rfl rfl (fun _ H locs hp29 hw hS => ?_)
      have hw : zPD D A [(y 25, .inl (ct 0, 6, .inl (fun _ => 0))), (y 29, .inl (ct 0, 5, .inl (fun _ => 0))), (h0, .inr (11, [.int 0, .int 0, .ref (y 0), .int 0, .int 0, .int 0, .int 0, .long 0, .int 0, .int 0, .ref (y 1), .ref (y 2), .ref (y 3), .ref (y 4), .ref (y 5), .ref (y 6), .ref (y 7), .ref (y 8), .ref (y 9), .ref (y 10), .ref (y 11), .ref (y 12), .int 0, .int 0, .ref (y 13), .ref (y 14), .ref (y 15), .ref (y 16), .ref (y 17), .ref (y 18), .ref (y 19), .ref (y 20), .ref (y 21), .ref (y 22), .ref (y 23), .ref (y 24), .int 0, .long 0, .ref (y 25), .ref (y 26), .ref (y 27), .ref (y 28), .ref (y 29), .ref (y 30), .ref (y 31), .ref (y 32), .ref (y 33), .ref (y 34), .ref (y 35), .ref (y 36), .ref (y 37), .int 0, .int 0, .ref (y 38), .long 0, .int 0, .int 0])), (y 1, .inl (ct 0, 8, .inl (upd (upd (fun _ => 0) 2 1) 3 2))), (y 32, .inl (ct 0, 31, .inl (fun _ => 0)))] H := hw
      refine zfr 53 [.int 0] rfl rfl ?_
      exact ziret hx hb hr (rfl) hlocks () (by decide) (trivial) hw [] rfl (rfl) hS (Nat.le_of_ble_eq_true rfl) (Nat.le_of_ble_eq_true rfl) dX12_count_53
    · obtain rfl : p1 = 6 := hxj6
      refine lv_aload_n hx hb dX12_count_0 rfl (lv_at hl 0 rfl) ?_
      refine lv_iconst (v := 0) hx hb dX12_count_1 (by decide) ?_
      refine zput (D := D) (ci := 11) (v := .int 0) (ty := .int) hx hb hts hiX12 tyX12 tyX12_ok nmX12 hown hK hw hS 0 rfl rfl 0 (by decide) (hts (.fieldLink RX12 129 "BeardPassModel" "thrown" "I") (by decide +kernel)) (fun _ h9 => h9) rfl (by decide +kernel) rfl rfl (Nat.le_of_ble_eq_true rfl) dX12_count_2 [(h0, .inr (11, [.int 0, .int 0, .ref (y 0), .int 0, .int 0, .int 0, .int 0, .long 0, .int 0, .int 0, .ref (y 1), .ref (y 2), .ref (y 3), .ref (y 4), .ref (y 5), .ref (y 6), .ref (y 7), .ref (y 8), .ref (y 9), .ref (y 10), .ref (y 11), .ref (y 12), .int 0, .int 0, .ref (y 13), .ref (y 14), .ref (y 15), .ref (y 16), .ref (y 17), .ref (y 18), .ref (y 19), .ref (y 20), .ref (y 21), .ref (y 22), .ref (y 23), .ref (y 24), .int 0, .long 0, .ref (y 25), .ref (y 26), .ref (y 27), .ref (y 28), .ref (y 29), .ref (y 30), .ref (y 31), .ref (y 32), .ref (y 33), .ref (y 34), .ref (y 35), .ref (y 36), .ref (y 37), .int 0, .int 0, .ref (y 38), .long 0, .int 0, .int 0])), (y 1, .inl (ct 0, 8, .inl (upd (upd (fun _ => 0) 2 1) 3 2))), (y 32, .inl (ct 0, 31, .inl (fun _ => 0))), (y 25, .inl (ct 0, 6, .inl (fun _ => 0))), (y 29, .inl (ct 0, 5, .inl (fun _ => 0)))] rfl (fun H locs hw hS => ?_)
      refine lv_iload_n hx hb dX12_count_5 rfl (lv_at hl 1 rfl) ?_
      refine lv_iconst (v := 0) hx hb dX12_count_6 (by decide) ?_
      refine lv_bipush (v := 11) hx hb dX12_count_7 (by decide) ?_
      refine zcall2 (va_runS (As := [.int 6, .int 0, .int 11]) (rest := []) ⟨hx, hb, hml, hown, hts⟩ (c_within l D ct 6 0 11 H.size) (va_cwS 3 hts gX12_count_X12_within rfl rfl rfl (by decide +kernel) ⟨Nat.le_of_ble_eq_true rfl, Nat.le_of_ble_eq_true rfl⟩) (zpreS hK hw hS hA zZ.nil hN [] rfl rfl) rfl rfl hl.1 rfl (lv_room (Nat.le_of_ble_eq_true rfl)) dX12_count_9 ⟨Nat.le_of_ble_eq_true rfl, Nat.le_of_ble_eq_true rfl⟩) hw hS hA [] [0, 1, 2, 3, 4] rfl rfl rfl rfl (fun _ H locs hp30 hw hS => ?_)
      have hw : zPD D A [(h0, .inr (11, [.int 0, .int 0, .ref (y 0), .int 0, .int 0, .int 0, .int 0, .long 0, .int 0, .int 0, .ref (y 1), .ref (y 2), .ref (y 3), .ref (y 4), .ref (y 5), .ref (y 6), .ref (y 7), .ref (y 8), .ref (y 9), .ref (y 10), .ref (y 11), .ref (y 12), .int 0, .int 0, .ref (y 13), .ref (y 14), .ref (y 15), .ref (y 16), .ref (y 17), .ref (y 18), .ref (y 19), .ref (y 20), .ref (y 21), .ref (y 22), .ref (y 23), .ref (y 24), .int 0, .long 0, .ref (y 25), .ref (y 26), .ref (y 27), .ref (y 28), .ref (y 29), .ref (y 30), .ref (y 31), .ref (y 32), .ref (y 33), .ref (y 34), .ref (y 35), .ref (y 36), .ref (y 37), .int 0, .int 0, .ref (y 38), .long 0, .int 0, .int 0])), (y 1, .inl (ct 0, 8, .inl (upd (upd (fun _ => 0) 2 1) 3 2))), (y 32, .inl (ct 0, 31, .inl (fun _ => 0))), (y 25, .inl (ct 0, 6, .inl (fun _ => 0))), (y 29, .inl (ct 0, 5, .inl (fun _ => 0)))] H := hw
      refine zfr 12 [.int (zwi 6 0 11)] rfl rfl ?_
      refine ztop (.int 1) (congrArg Value.int (by decide)) ?_
      refine lv_if_ne (tgt := 17) hx hb dX12_count_12 (by decide) (fun _ => ?_) (fun h => absurd h (by decide))
      refine lv_iload_n hx hb dX12_count_17 rfl (lv_at hl 1 rfl) ?_
      refine lv_iconst (v := 4) hx hb dX12_count_18 (by decide) ?_
      refine lv_icmp_ge (tgt := 29) hx hb dX12_count_19 (by decide) (fun _ => ?_) (fun h => absurd (by decide) h)
      refine lv_iload_n hx hb dX12_count_29 rfl (lv_at hl 1 rfl) ?_
      refine lv_bipush (v := 6) hx hb dX12_count_30 (by decide) ?_
      refine lv_icmp_ge (tgt := 54) hx hb dX12_count_32 (by decide) (fun _ => ?_) (fun h => absurd (by decide) h)
      refine lv_iload_n hx hb dX12_count_54 rfl (lv_at hl 1 rfl) ?_
      refine lv_bipush (v := 8) hx hb dX12_count_55 (by decide) ?_
      refine lv_icmp_ge (tgt := 82) hx hb dX12_count_57 (by decide) (fun h => absurd h (by decide)) (fun _ => ?_)
      refine lv_iload_n hx hb dX12_count_60 rfl (lv_at hl 1 rfl) ?_
      refine lv_bipush (v := 6) hx hb dX12_count_61 (by decide) ?_
      refine lv_icmp_ne (tgt := 75) hx hb dX12_count_63 (by decide) (fun h => absurd (by decide) h) (fun _ => ?_)
      refine lv_aload_n hx hb dX12_count_66 rfl (lv_at hl 0 rfl) ?_
      refine lv_bipush (v := 13) hx hb dX12_count_67 (by decide) ?_
      refine zcall2 (va_runV (As := [.int 13]) (rest := []) ⟨hx, hb, hml, hown, hts⟩ (c_all13 l D ct h0 y 0 0 0 0 0 0 0 0 0 0 0 0 0 0 0 0 0 0 (fun _ => 0) H.size) (cwV 1 hts gX12_count_X12_allOf rfl rfl rfl (by decide +kernel) ⟨Nat.le_of_ble_eq_true rfl, Nat.le_of_ble_eq_true rfl⟩) (zpreV hK hw hS hA zZ.nil hN [0, 2] rfl rfl 11 0 rfl rfl) rfl rfl hl.1 rfl (lv_room (Nat.le_of_ble_eq_true rfl)) dX12_count_69 ⟨Nat.le_of_ble_eq_true rfl, Nat.le_of_ble_eq_true rfl⟩) hw hS hA [0, 2] [1, 3, 4] rfl rfl rfl rfl (fun _ H locs hp36 hw hS => ?_)
      have hw : zPD D A [(y 1, .inl (ct 0, 8, .inl (upd (upd (fun _ => 0) 2 1) 3 2))), (y 25, .inl (ct 0, 6, .inl (fun _ => 0))), (y 29, .inl (ct 0, 5, .inl (fun _ => 0))), (h0, .inr (11, [.int 0, .int 0, .ref (y 0), .int 0, .int 0, .int 0, .int 0, .long 0, .int 0, .int 0, .ref (y 1), .ref (y 2), .ref (y 3), .ref (y 4), .ref (y 5), .ref (y 6), .ref (y 7), .ref (y 8), .ref (y 9), .ref (y 10), .ref (y 11), .ref (y 12), .int 0, .int 0, .ref (y 13), .ref (y 14), .ref (y 15), .ref (y 16), .ref (y 17), .ref (y 18), .ref (y 19), .ref (y 20), .ref (y 21), .ref (y 22), .ref (y 23), .ref (y 24), .int 0, .long 0, .ref (y 25), .ref (y 26), .ref (y 27), .ref (y 28), .ref (y 29), .ref (y 30), .ref (y 31), .ref (y 32), .ref (y 33), .ref (y 34), .ref (y 35), .ref (y 36), .ref (y 37), .int 0, .int 0, .ref (y 38), .long 0, .int 0, .int 0])), (y 32, .inl (ct 0, 31, .inl (fun _ => 0)))] H := hw
      refine zfr 72 [.int (0 + (fun _ => 0) 13 + (fun _ => 0) 14 + (fun _ => 0) 15 + (fun _ => 0) 16 + (fun _ => 0) 17 + (fun _ => 0) 18)] rfl rfl ?_
      refine ztop (.int 0) (congrArg Value.int (by decide)) ?_
      refine lv_goto (tgt := 81) hx hb dX12_count_72 (by decide) ?_
      exact ziret hx hb hr (rfl) hlocks () (by decide) (trivial) hw [] rfl (rfl) hS (Nat.le_of_ble_eq_true rfl) (Nat.le_of_ble_eq_true rfl) dX12_count_81
    · obtain rfl : p1 = 7 := hxj6
      refine lv_aload_n hx hb dX12_count_0 rfl (lv_at hl 0 rfl) ?_
      refine lv_iconst (v := 0) hx hb dX12_count_1 (by decide) ?_
      refine zput (D := D) (ci := 11) (v := .int 0) (ty := .int) hx hb hts hiX12 tyX12 tyX12_ok nmX12 hown hK hw hS 0 rfl rfl 0 (by decide) (hts (.fieldLink RX12 129 "BeardPassModel" "thrown" "I") (by decide +kernel)) (fun _ h9 => h9) rfl (by decide +kernel) rfl rfl (Nat.le_of_ble_eq_true rfl) dX12_count_2 [(h0, .inr (11, [.int 0, .int 0, .ref (y 0), .int 0, .int 0, .int 0, .int 0, .long 0, .int 0, .int 0, .ref (y 1), .ref (y 2), .ref (y 3), .ref (y 4), .ref (y 5), .ref (y 6), .ref (y 7), .ref (y 8), .ref (y 9), .ref (y 10), .ref (y 11), .ref (y 12), .int 0, .int 0, .ref (y 13), .ref (y 14), .ref (y 15), .ref (y 16), .ref (y 17), .ref (y 18), .ref (y 19), .ref (y 20), .ref (y 21), .ref (y 22), .ref (y 23), .ref (y 24), .int 0, .long 0, .ref (y 25), .ref (y 26), .ref (y 27), .ref (y 28), .ref (y 29), .ref (y 30), .ref (y 31), .ref (y 32), .ref (y 33), .ref (y 34), .ref (y 35), .ref (y 36), .ref (y 37), .int 0, .int 0, .ref (y 38), .long 0, .int 0, .int 0])), (y 1, .inl (ct 0, 8, .inl (upd (upd (fun _ => 0) 2 1) 3 2))), (y 32, .inl (ct 0, 31, .inl (fun _ => 0))), (y 25, .inl (ct 0, 6, .inl (fun _ => 0))), (y 29, .inl (ct 0, 5, .inl (fun _ => 0)))] rfl (fun H locs hw hS => ?_)
      refine lv_iload_n hx hb dX12_count_5 rfl (lv_at hl 1 rfl) ?_
      refine lv_iconst (v := 0) hx hb dX12_count_6 (by decide) ?_
      refine lv_bipush (v := 11) hx hb dX12_count_7 (by decide) ?_
      refine zcall2 (va_runS (As := [.int 7, .int 0, .int 11]) (rest := []) ⟨hx, hb, hml, hown, hts⟩ (c_within l D ct 7 0 11 H.size) (va_cwS 3 hts gX12_count_X12_within rfl rfl rfl (by decide +kernel) ⟨Nat.le_of_ble_eq_true rfl, Nat.le_of_ble_eq_true rfl⟩) (zpreS hK hw hS hA zZ.nil hN [] rfl rfl) rfl rfl hl.1 rfl (lv_room (Nat.le_of_ble_eq_true rfl)) dX12_count_9 ⟨Nat.le_of_ble_eq_true rfl, Nat.le_of_ble_eq_true rfl⟩) hw hS hA [] [0, 1, 2, 3, 4] rfl rfl rfl rfl (fun _ H locs hp37 hw hS => ?_)
      have hw : zPD D A [(h0, .inr (11, [.int 0, .int 0, .ref (y 0), .int 0, .int 0, .int 0, .int 0, .long 0, .int 0, .int 0, .ref (y 1), .ref (y 2), .ref (y 3), .ref (y 4), .ref (y 5), .ref (y 6), .ref (y 7), .ref (y 8), .ref (y 9), .ref (y 10), .ref (y 11), .ref (y 12), .int 0, .int 0, .ref (y 13), .ref (y 14), .ref (y 15), .ref (y 16), .ref (y 17), .ref (y 18), .ref (y 19), .ref (y 20), .ref (y 21), .ref (y 22), .ref (y 23), .ref (y 24), .int 0, .long 0, .ref (y 25), .ref (y 26), .ref (y 27), .ref (y 28), .ref (y 29), .ref (y 30), .ref (y 31), .ref (y 32), .ref (y 33), .ref (y 34), .ref (y 35), .ref (y 36), .ref (y 37), .int 0, .int 0, .ref (y 38), .long 0, .int 0, .int 0])), (y 1, .inl (ct 0, 8, .inl (upd (upd (fun _ => 0) 2 1) 3 2))), (y 32, .inl (ct 0, 31, .inl (fun _ => 0))), (y 25, .inl (ct 0, 6, .inl (fun _ => 0))), (y 29, .inl (ct 0, 5, .inl (fun _ => 0)))] H := hw
      refine zfr 12 [.int (zwi 7 0 11)] rfl rfl ?_
      refine ztop (.int 1) (congrArg Value.int (by decide)) ?_
      refine lv_if_ne (tgt := 17) hx hb dX12_count_12 (by decide) (fun _ => ?_) (fun h => absurd h (by decide))
      refine lv_iload_n hx hb dX12_count_17 rfl (lv_at hl 1 rfl) ?_
      refine lv_iconst (v := 4) hx hb dX12_count_18 (by decide) ?_
      refine lv_icmp_ge (tgt := 29) hx hb dX12_count_19 (by decide) (fun _ => ?_) (fun h => absurd (by decide) h)
      refine lv_iload_n hx hb dX12_count_29 rfl (lv_at hl 1 rfl) ?_
      refine lv_bipush (v := 6) hx hb dX12_count_30 (by decide) ?_
      refine lv_icmp_ge (tgt := 54) hx hb dX12_count_32 (by decide) (fun _ => ?_) (fun h => absurd (by decide) h)
      refine lv_iload_n hx hb dX12_count_54 rfl (lv_at hl 1 rfl) ?_
      refine lv_bipush (v := 8) hx hb dX12_count_55 (by decide) ?_
      refine lv_icmp_ge (tgt := 82) hx hb dX12_count_57 (by decide) (fun h => absurd h (by decide)) (fun _ => ?_)
      refine lv_iload_n hx hb dX12_count_60 rfl (lv_at hl 1 rfl) ?_
      refine lv_bipush (v := 6) hx hb dX12_count_61 (by decide) ?_
      refine lv_icmp_ne (tgt := 75) hx hb dX12_count_63 (by decide) (fun _ => ?_) (fun h => absurd h (by decide))
      refine lv_aload_n hx hb dX12_count_75 rfl (lv_at hl 0 rfl) ?_
      refine lv_bipush (v := 19) hx hb dX12_count_76 (by decide) ?_
      refine zcall2 (va_runV (As := [.int 19]) (rest := []) ⟨hx, hb, hml, hown, hts⟩ (c_all19 l D ct h0 y 0 0 0 0 0 0 0 0 0 0 0 0 0 0 0 0 0 0 (fun _ => 0) H.size) (cwV 1 hts gX12_count_X12_allOf rfl rfl rfl (by decide +kernel) ⟨Nat.le_of_ble_eq_true rfl, Nat.le_of_ble_eq_true rfl⟩) (zpreV hK hw hS hA zZ.nil hN [0, 2] rfl rfl 11 0 rfl rfl) rfl rfl hl.1 rfl (lv_room (Nat.le_of_ble_eq_true rfl)) dX12_count_78 ⟨Nat.le_of_ble_eq_true rfl, Nat.le_of_ble_eq_true rfl⟩) hw hS hA [0, 2] [1, 3, 4] rfl rfl rfl rfl (fun _ H locs hp43 hw hS => ?_)
      have hw : zPD D A [(y 1, .inl (ct 0, 8, .inl (upd (upd (fun _ => 0) 2 1) 3 2))), (y 25, .inl (ct 0, 6, .inl (fun _ => 0))), (y 29, .inl (ct 0, 5, .inl (fun _ => 0))), (h0, .inr (11, [.int 0, .int 0, .ref (y 0), .int 0, .int 0, .int 0, .int 0, .long 0, .int 0, .int 0, .ref (y 1), .ref (y 2), .ref (y 3), .ref (y 4), .ref (y 5), .ref (y 6), .ref (y 7), .ref (y 8), .ref (y 9), .ref (y 10), .ref (y 11), .ref (y 12), .int 0, .int 0, .ref (y 13), .ref (y 14), .ref (y 15), .ref (y 16), .ref (y 17), .ref (y 18), .ref (y 19), .ref (y 20), .ref (y 21), .ref (y 22), .ref (y 23), .ref (y 24), .int 0, .long 0, .ref (y 25), .ref (y 26), .ref (y 27), .ref (y 28), .ref (y 29), .ref (y 30), .ref (y 31), .ref (y 32), .ref (y 33), .ref (y 34), .ref (y 35), .ref (y 36), .ref (y 37), .int 0, .int 0, .ref (y 38), .long 0, .int 0, .int 0])), (y 32, .inl (ct 0, 31, .inl (fun _ => 0)))] H := hw
      refine zfr 81 [.int (0 + (fun _ => 0) 19 + (fun _ => 0) 20 + (fun _ => 0) 21 + (fun _ => 0) 22 + (fun _ => 0) 23 + (fun _ => 0) 24)] rfl rfl ?_
      refine ztop (.int 0) (congrArg Value.int (by decide)) ?_
      exact ziret hx hb hr (rfl) hlocks () (by decide) (trivial) hw [] rfl (rfl) hS (Nat.le_of_ble_eq_true rfl) (Nat.le_of_ble_eq_true rfl) dX12_count_81
    · obtain rfl : p1 = 8 := hxj6
      refine lv_aload_n hx hb dX12_count_0 rfl (lv_at hl 0 rfl) ?_
      refine lv_iconst (v := 0) hx hb dX12_count_1 (by decide) ?_
      refine zput (D := D) (ci := 11) (v := .int 0) (ty := .int) hx hb hts hiX12 tyX12 tyX12_ok nmX12 hown hK hw hS 0 rfl rfl 0 (by decide) (hts (.fieldLink RX12 129 "BeardPassModel" "thrown" "I") (by decide +kernel)) (fun _ h9 => h9) rfl (by decide +kernel) rfl rfl (Nat.le_of_ble_eq_true rfl) dX12_count_2 [(h0, .inr (11, [.int 0, .int 0, .ref (y 0), .int 0, .int 0, .int 0, .int 0, .long 0, .int 0, .int 0, .ref (y 1), .ref (y 2), .ref (y 3), .ref (y 4), .ref (y 5), .ref (y 6), .ref (y 7), .ref (y 8), .ref (y 9), .ref (y 10), .ref (y 11), .ref (y 12), .int 0, .int 0, .ref (y 13), .ref (y 14), .ref (y 15), .ref (y 16), .ref (y 17), .ref (y 18), .ref (y 19), .ref (y 20), .ref (y 21), .ref (y 22), .ref (y 23), .ref (y 24), .int 0, .long 0, .ref (y 25), .ref (y 26), .ref (y 27), .ref (y 28), .ref (y 29), .ref (y 30), .ref (y 31), .ref (y 32), .ref (y 33), .ref (y 34), .ref (y 35), .ref (y 36), .ref (y 37), .int 0, .int 0, .ref (y 38), .long 0, .int 0, .int 0])), (y 1, .inl (ct 0, 8, .inl (upd (upd (fun _ => 0) 2 1) 3 2))), (y 32, .inl (ct 0, 31, .inl (fun _ => 0))), (y 25, .inl (ct 0, 6, .inl (fun _ => 0))), (y 29, .inl (ct 0, 5, .inl (fun _ => 0)))] rfl (fun H locs hw hS => ?_)
      refine lv_iload_n hx hb dX12_count_5 rfl (lv_at hl 1 rfl) ?_
      refine lv_iconst (v := 0) hx hb dX12_count_6 (by decide) ?_
      refine lv_bipush (v := 11) hx hb dX12_count_7 (by decide) ?_
      refine zcall2 (va_runS (As := [.int 8, .int 0, .int 11]) (rest := []) ⟨hx, hb, hml, hown, hts⟩ (c_within l D ct 8 0 11 H.size) (va_cwS 3 hts gX12_count_X12_within rfl rfl rfl (by decide +kernel) ⟨Nat.le_of_ble_eq_true rfl, Nat.le_of_ble_eq_true rfl⟩) (zpreS hK hw hS hA zZ.nil hN [] rfl rfl) rfl rfl hl.1 rfl (lv_room (Nat.le_of_ble_eq_true rfl)) dX12_count_9 ⟨Nat.le_of_ble_eq_true rfl, Nat.le_of_ble_eq_true rfl⟩) hw hS hA [] [0, 1, 2, 3, 4] rfl rfl rfl rfl (fun _ H locs hp44 hw hS => ?_)
      have hw : zPD D A [(h0, .inr (11, [.int 0, .int 0, .ref (y 0), .int 0, .int 0, .int 0, .int 0, .long 0, .int 0, .int 0, .ref (y 1), .ref (y 2), .ref (y 3), .ref (y 4), .ref (y 5), .ref (y 6), .ref (y 7), .ref (y 8), .ref (y 9), .ref (y 10), .ref (y 11), .ref (y 12), .int 0, .int 0, .ref (y 13), .ref (y 14), .ref (y 15), .ref (y 16), .ref (y 17), .ref (y 18), .ref (y 19), .ref (y 20), .ref (y 21), .ref (y 22), .ref (y 23), .ref (y 24), .int 0, .long 0, .ref (y 25), .ref (y 26), .ref (y 27), .ref (y 28), .ref (y 29), .ref (y 30), .ref (y 31), .ref (y 32), .ref (y 33), .ref (y 34), .ref (y 35), .ref (y 36), .ref (y 37), .int 0, .int 0, .ref (y 38), .long 0, .int 0, .int 0])), (y 1, .inl (ct 0, 8, .inl (upd (upd (fun _ => 0) 2 1) 3 2))), (y 32, .inl (ct 0, 31, .inl (fun _ => 0))), (y 25, .inl (ct 0, 6, .inl (fun _ => 0))), (y 29, .inl (ct 0, 5, .inl (fun _ => 0)))] H := hw
      refine zfr 12 [.int (zwi 8 0 11)] rfl rfl ?_
      refine ztop (.int 1) (congrArg Value.int (by decide)) ?_
      refine lv_if_ne (tgt := 17) hx hb dX12_count_12 (by decide) (fun _ => ?_) (fun h => absurd h (by decide))
      refine lv_iload_n hx hb dX12_count_17 rfl (lv_at hl 1 rfl) ?_
      refine lv_iconst (v := 4) hx hb dX12_count_18 (by decide) ?_
      refine lv_icmp_ge (tgt := 29) hx hb dX12_count_19 (by decide) (fun _ => ?_) (fun h => absurd (by decide) h)
      refine lv_iload_n hx hb dX12_count_29 rfl (lv_at hl 1 rfl) ?_
      refine lv_bipush (v := 6) hx hb dX12_count_30 (by decide) ?_
      refine lv_icmp_ge (tgt := 54) hx hb dX12_count_32 (by decide) (fun _ => ?_) (fun h => absurd (by decide) h)
      refine lv_iload_n hx hb dX12_count_54 rfl (lv_at hl 1 rfl) ?_
      refine lv_bipush (v := 8) hx hb dX12_count_55 (by decide) ?_
      refine lv_icmp_ge (tgt := 82) hx hb dX12_count_57 (by decide) (fun _ => ?_) (fun h => absurd (by decide) h)
      refine lv_iload_n hx hb dX12_count_82 rfl (lv_at hl 1 rfl) ?_
      refine lv_bipush (v := 10) hx hb dX12_count_83 (by decide) ?_
      refine lv_icmp_ge (tgt := 110) hx hb dX12_count_85 (by decide) (fun h => absurd h (by decide)) (fun _ => ?_)
      refine lv_iload_n hx hb dX12_count_88 rfl (lv_at hl 1 rfl) ?_
      refine lv_bipush (v := 8) hx hb dX12_count_89 (by decide) ?_
      refine lv_icmp_ne (tgt := 103) hx hb dX12_count_91 (by decide) (fun h => absurd (by decide) h) (fun _ => ?_)
      refine lv_aload_n hx hb dX12_count_94 rfl (lv_at hl 0 rfl) ?_
      refine va_get (D := D) (ci := 11) (v := .ref (y 25)) hx hb hts hiX12 hown hK hw.1 0 rfl rfl 38 (by decide) (hts (.fieldLink RX12 87 "BeardPassModel" "lines" "[I") (by decide +kernel)) (fun _ h9 => h9) rfl dX12_count_95 ?_
      refine lv_iconst (v := 0) hx hb dX12_count_98 (by decide) ?_
      refine ziald hx hb hK hw 3 rfl 0 (by decide) (by decide) (by decide) dX12_count_99 ?_
      refine ztop (.int 0) rfl ?_
      refine lv_goto (tgt := 109) hx hb dX12_count_100 (by decide) ?_
      exact ziret hx hb hr (rfl) hlocks () (by decide) (trivial) hw [] rfl (rfl) hS (Nat.le_of_ble_eq_true rfl) (Nat.le_of_ble_eq_true rfl) dX12_count_109
    · obtain rfl : p1 = 9 := hxj6
      refine lv_aload_n hx hb dX12_count_0 rfl (lv_at hl 0 rfl) ?_
      refine lv_iconst (v := 0) hx hb dX12_count_1 (by decide) ?_
      refine zput (D := D) (ci := 11) (v := .int 0) (ty := .int) hx hb hts hiX12 tyX12 tyX12_ok nmX12 hown hK hw hS 0 rfl rfl 0 (by decide) (hts (.fieldLink RX12 129 "BeardPassModel" "thrown" "I") (by decide +kernel)) (fun _ h9 => h9) rfl (by decide +kernel) rfl rfl (Nat.le_of_ble_eq_true rfl) dX12_count_2 [(h0, .inr (11, [.int 0, .int 0, .ref (y 0), .int 0, .int 0, .int 0, .int 0, .long 0, .int 0, .int 0, .ref (y 1), .ref (y 2), .ref (y 3), .ref (y 4), .ref (y 5), .ref (y 6), .ref (y 7), .ref (y 8), .ref (y 9), .ref (y 10), .ref (y 11), .ref (y 12), .int 0, .int 0, .ref (y 13), .ref (y 14), .ref (y 15), .ref (y 16), .ref (y 17), .ref (y 18), .ref (y 19), .ref (y 20), .ref (y 21), .ref (y 22), .ref (y 23), .ref (y 24), .int 0, .long 0, .ref (y 25), .ref (y 26), .ref (y 27), .ref (y 28), .ref (y 29), .ref (y 30), .ref (y 31), .ref (y 32), .ref (y 33), .ref (y 34), .ref (y 35), .ref (y 36), .ref (y 37), .int 0, .int 0, .ref (y 38), .long 0, .int 0, .int 0])), (y 1, .inl (ct 0, 8, .inl (upd (upd (fun _ => 0) 2 1) 3 2))), (y 32, .inl (ct 0, 31, .inl (fun _ => 0))), (y 25, .inl (ct 0, 6, .inl (fun _ => 0))), (y 29, .inl (ct 0, 5, .inl (fun _ => 0)))] rfl (fun H locs hw hS => ?_)
      refine lv_iload_n hx hb dX12_count_5 rfl (lv_at hl 1 rfl) ?_
      refine lv_iconst (v := 0) hx hb dX12_count_6 (by decide) ?_
      refine lv_bipush (v := 11) hx hb dX12_count_7 (by decide) ?_
      refine zcall2 (va_runS (As := [.int 9, .int 0, .int 11]) (rest := []) ⟨hx, hb, hml, hown, hts⟩ (c_within l D ct 9 0 11 H.size) (va_cwS 3 hts gX12_count_X12_within rfl rfl rfl (by decide +kernel) ⟨Nat.le_of_ble_eq_true rfl, Nat.le_of_ble_eq_true rfl⟩) (zpreS hK hw hS hA zZ.nil hN [] rfl rfl) rfl rfl hl.1 rfl (lv_room (Nat.le_of_ble_eq_true rfl)) dX12_count_9 ⟨Nat.le_of_ble_eq_true rfl, Nat.le_of_ble_eq_true rfl⟩) hw hS hA [] [0, 1, 2, 3, 4] rfl rfl rfl rfl (fun _ H locs hp51 hw hS => ?_)
      have hw : zPD D A [(h0, .inr (11, [.int 0, .int 0, .ref (y 0), .int 0, .int 0, .int 0, .int 0, .long 0, .int 0, .int 0, .ref (y 1), .ref (y 2), .ref (y 3), .ref (y 4), .ref (y 5), .ref (y 6), .ref (y 7), .ref (y 8), .ref (y 9), .ref (y 10), .ref (y 11), .ref (y 12), .int 0, .int 0, .ref (y 13), .ref (y 14), .ref (y 15), .ref (y 16), .ref (y 17), .ref (y 18), .ref (y 19), .ref (y 20), .ref (y 21), .ref (y 22), .ref (y 23), .ref (y 24), .int 0, .long 0, .ref (y 25), .ref (y 26), .ref (y 27), .ref (y 28), .ref (y 29), .ref (y 30), .ref (y 31), .ref (y 32), .ref (y 33), .ref (y 34), .ref (y 35), .ref (y 36), .ref (y 37), .int 0, .int 0, .ref (y 38), .long 0, .int 0, .int 0])), (y 1, .inl (ct 0, 8, .inl (upd (upd (fun _ => 0) 2 1) 3 2))), (y 32, .inl (ct 0, 31, .inl (fun _ => 0))), (y 25, .inl (ct 0, 6, .inl (fun _ => 0))), (y 29, .inl (ct 0, 5, .inl (fun _ => 0)))] H := hw
      refine zfr 12 [.int (zwi 9 0 11)] rfl rfl ?_
      refine ztop (.int 1) (congrArg Value.int (by decide)) ?_
      refine lv_if_ne (tgt := 17) hx hb dX12_count_12 (by decide) (fun _ => ?_) (fun h => absurd h (by decide))
      refine lv_iload_n hx hb dX12_count_17 rfl (lv_at hl 1 rfl) ?_
      refine lv_iconst (v := 4) hx hb dX12_count_18 (by decide) ?_
      refine lv_icmp_ge (tgt := 29) hx hb dX12_count_19 (by decide) (fun _ => ?_) (fun h => absurd (by decide) h)
      refine lv_iload_n hx hb dX12_count_29 rfl (lv_at hl 1 rfl) ?_
      refine lv_bipush (v := 6) hx hb dX12_count_30 (by decide) ?_
      refine lv_icmp_ge (tgt := 54) hx hb dX12_count_32 (by decide) (fun _ => ?_) (fun h => absurd (by decide) h)
      refine lv_iload_n hx hb dX12_count_54 rfl (lv_at hl 1 rfl) ?_
      refine lv_bipush (v := 8) hx hb dX12_count_55 (by decide) ?_
      refine lv_icmp_ge (tgt := 82) hx hb dX12_count_57 (by decide) (fun _ => ?_) (fun h => absurd (by decide) h)
      refine lv_iload_n hx hb dX12_count_82 rfl (lv_at hl 1 rfl) ?_
      refine lv_bipush (v := 10) hx hb dX12_count_83 (by decide) ?_
      refine lv_icmp_ge (tgt := 110) hx hb dX12_count_85 (by decide) (fun h => absurd h (by decide)) (fun _ => ?_)
      refine lv_iload_n hx hb dX12_count_88 rfl (lv_at hl 1 rfl) ?_
      refine lv_bipush (v := 8) hx hb dX12_count_89 (by decide) ?_
      refine lv_icmp_ne (tgt := 103) hx hb dX12_count_91 (by decide) (fun _ => ?_) (fun h => absurd h (by decide))
      refine lv_aload_n hx hb dX12_count_103 rfl (lv_at hl 0 rfl) ?_
      refine va_get (D := D) (ci := 11) (v := .ref (y 29)) hx hb hts hiX12 hown hK hw.1 0 rfl rfl 42 (by decide) (hts (.fieldLink RX12 99 "BeardPassModel" "seens" "[I") (by decide +kernel)) (fun _ h9 => h9) rfl dX12_count_104 ?_
      refine lv_iconst (v := 0) hx hb dX12_count_107 (by decide) ?_
      refine ziald hx hb hK hw 4 rfl 0 (by decide) (by decide) (by decide) dX12_count_108 ?_
      refine ztop (.int 0) rfl ?_
      exact ziret hx hb hr (rfl) hlocks () (by decide) (trivial) hw [] rfl (rfl) hS (Nat.le_of_ble_eq_true rfl) (Nat.le_of_ble_eq_true rfl) dX12_count_109
    · obtain rfl : p1 = 10 := hxj6
      refine lv_aload_n hx hb dX12_count_0 rfl (lv_at hl 0 rfl) ?_
      refine lv_iconst (v := 0) hx hb dX12_count_1 (by decide) ?_
      refine zput (D := D) (ci := 11) (v := .int 0) (ty := .int) hx hb hts hiX12 tyX12 tyX12_ok nmX12 hown hK hw hS 0 rfl rfl 0 (by decide) (hts (.fieldLink RX12 129 "BeardPassModel" "thrown" "I") (by decide +kernel)) (fun _ h9 => h9) rfl (by decide +kernel) rfl rfl (Nat.le_of_ble_eq_true rfl) dX12_count_2 [(h0, .inr (11, [.int 0, .int 0, .ref (y 0), .int 0, .int 0, .int 0, .int 0, .long 0, .int 0, .int 0, .ref (y 1), .ref (y 2), .ref (y 3), .ref (y 4), .ref (y 5), .ref (y 6), .ref (y 7), .ref (y 8), .ref (y 9), .ref (y 10), .ref (y 11), .ref (y 12), .int 0, .int 0, .ref (y 13), .ref (y 14), .ref (y 15), .ref (y 16), .ref (y 17), .ref (y 18), .ref (y 19), .ref (y 20), .ref (y 21), .ref (y 22), .ref (y 23), .ref (y 24), .int 0, .long 0, .ref (y 25), .ref (y 26), .ref (y 27), .ref (y 28), .ref (y 29), .ref (y 30), .ref (y 31), .ref (y 32), .ref (y 33), .ref (y 34), .ref (y 35), .ref (y 36), .ref (y 37), .int 0, .int 0, .ref (y 38), .long 0, .int 0, .int 0])), (y 1, .inl (ct 0, 8, .inl (upd (upd (fun _ => 0) 2 1) 3 2))), (y 32, .inl (ct 0, 31, .inl (fun _ => 0))), (y 25, .inl (ct 0, 6, .inl (fun _ => 0))), (y 29, .inl (ct 0, 5, .inl (fun _ => 0)))] rfl (fun H locs hw hS => ?_)
      refine lv_iload_n hx hb dX12_count_5 rfl (lv_at hl 1 rfl) ?_
      refine lv_iconst (v := 0) hx hb dX12_count_6 (by decide) ?_
      refine lv_bipush (v := 11) hx hb dX12_count_7 (by decide) ?_
      refine zcall2 (va_runS (As := [.int 10, .int 0, .int 11]) (rest := []) ⟨hx, hb, hml, hown, hts⟩ (c_within l D ct 10 0 11 H.size) (va_cwS 3 hts gX12_count_X12_within rfl rfl rfl (by decide +kernel) ⟨Nat.le_of_ble_eq_true rfl, Nat.le_of_ble_eq_true rfl⟩) (zpreS hK hw hS hA zZ.nil hN [] rfl rfl) rfl rfl hl.1 rfl (lv_room (Nat.le_of_ble_eq_true rfl)) dX12_count_9 ⟨Nat.le_of_ble_eq_true rfl, Nat.le_of_ble_eq_true rfl⟩) hw hS hA [] [0, 1, 2, 3, 4] rfl rfl rfl rfl (fun _ H locs hp58 hw hS => ?_)
      have hw : zPD D A [(h0, .inr (11, [.int 0, .int 0, .ref (y 0), .int 0, .int 0, .int 0, .int 0, .long 0, .int 0, .int 0, .ref (y 1), .ref (y 2), .ref (y 3), .ref (y 4), .ref (y 5), .ref (y 6), .ref (y 7), .ref (y 8), .ref (y 9), .ref (y 10), .ref (y 11), .ref (y 12), .int 0, .int 0, .ref (y 13), .ref (y 14), .ref (y 15), .ref (y 16), .ref (y 17), .ref (y 18), .ref (y 19), .ref (y 20), .ref (y 21), .ref (y 22), .ref (y 23), .ref (y 24), .int 0, .long 0, .ref (y 25), .ref (y 26), .ref (y 27), .ref (y 28), .ref (y 29), .ref (y 30), .ref (y 31), .ref (y 32), .ref (y 33), .ref (y 34), .ref (y 35), .ref (y 36), .ref (y 37), .int 0, .int 0, .ref (y 38), .long 0, .int 0, .int 0])), (y 1, .inl (ct 0, 8, .inl (upd (upd (fun _ => 0) 2 1) 3 2))), (y 32, .inl (ct 0, 31, .inl (fun _ => 0))), (y 25, .inl (ct 0, 6, .inl (fun _ => 0))), (y 29, .inl (ct 0, 5, .inl (fun _ => 0)))] H := hw
      refine zfr 12 [.int (zwi 10 0 11)] rfl rfl ?_
      refine ztop (.int 1) (congrArg Value.int (by decide)) ?_
      refine lv_if_ne (tgt := 17) hx hb dX12_count_12 (by decide) (fun _ => ?_) (fun h => absurd h (by decide))
      refine lv_iload_n hx hb dX12_count_17 rfl (lv_at hl 1 rfl) ?_
      refine lv_iconst (v := 4) hx hb dX12_count_18 (by decide) ?_
      refine lv_icmp_ge (tgt := 29) hx hb dX12_count_19 (by decide) (fun _ => ?_) (fun h => absurd (by decide) h)
      refine lv_iload_n hx hb dX12_count_29 rfl (lv_at hl 1 rfl) ?_
      refine lv_bipush (v := 6) hx hb dX12_count_30 (by decide) ?_
      refine lv_icmp_ge (tgt := 54) hx hb dX12_count_32 (by decide) (fun _ => ?_) (fun h => absurd (by decide) h)
      refine lv_iload_n hx hb dX12_count_54 rfl (lv_at hl 1 rfl) ?_
      refine lv_bipush (v := 8) hx hb dX12_count_55 (by decide) ?_
      refine lv_icmp_ge (tgt := 82) hx hb dX12_count_57 (by decide) (fun _ => ?_) (fun h => absurd (by decide) h)
      refine lv_iload_n hx hb dX12_count_82 rfl (lv_at hl 1 rfl) ?_
      refine lv_bipush (v := 10) hx hb dX12_count_83 (by decide) ?_
      refine lv_icmp_ge (tgt := 110) hx hb dX12_count_85 (by decide) (fun _ => ?_) (fun h => absurd (by decide) h)
      refine lv_iload_n hx hb dX12_count_110 rfl (lv_at hl 1 rfl) ?_
      refine lv_bipush (v := 10) hx hb dX12_count_111 (by decide) ?_
      refine lv_icmp_ne (tgt := 123) hx hb dX12_count_113 (by decide) (fun h => absurd (by decide) h) (fun _ => ?_)
      refine lv_aload_n hx hb dX12_count_116 rfl (lv_at hl 0 rfl) ?_
      refine va_get (D := D) (ci := 11) (v := .int 0) hx hb hts hiX12 hown hK hw.1 0 rfl rfl 51 (by decide) (hts (.fieldLink RX12 336 "BeardPassModel" "done" "I") (by decide +kernel)) (fun _ h9 => h9) rfl dX12_count_117 ?_
      refine lv_goto (tgt := 127) hx hb dX12_count_120 (by decide) ?_
      exact ziret hx hb hr (rfl) hlocks () (by decide) (trivial) hw [] rfl (rfl) hS (Nat.le_of_ble_eq_true rfl) (Nat.le_of_ble_eq_true rfl) dX12_count_127
    · obtain rfl : p1 = 11 := hxj6
      refine lv_aload_n hx hb dX12_count_0 rfl (lv_at hl 0 rfl) ?_
      refine lv_iconst (v := 0) hx hb dX12_count_1 (by decide) ?_
      refine zput (D := D) (ci := 11) (v := .int 0) (ty := .int) hx hb hts hiX12 tyX12 tyX12_ok nmX12 hown hK hw hS 0 rfl rfl 0 (by decide) (hts (.fieldLink RX12 129 "BeardPassModel" "thrown" "I") (by decide +kernel)) (fun _ h9 => h9) rfl (by decide +kernel) rfl rfl (Nat.le_of_ble_eq_true rfl) dX12_count_2 [(h0, .inr (11, [.int 0, .int 0, .ref (y 0), .int 0, .int 0, .int 0, .int 0, .long 0, .int 0, .int 0, .ref (y 1), .ref (y 2), .ref (y 3), .ref (y 4), .ref (y 5), .ref (y 6), .ref (y 7), .ref (y 8), .ref (y 9), .ref (y 10), .ref (y 11), .ref (y 12), .int 0, .int 0, .ref (y 13), .ref (y 14), .ref (y 15), .ref (y 16), .ref (y 17), .ref (y 18), .ref (y 19), .ref (y 20), .ref (y 21), .ref (y 22), .ref (y 23), .ref (y 24), .int 0, .long 0, .ref (y 25), .ref (y 26), .ref (y 27), .ref (y 28), .ref (y 29), .ref (y 30), .ref (y 31), .ref (y 32), .ref (y 33), .ref (y 34), .ref (y 35), .ref (y 36), .ref (y 37), .int 0, .int 0, .ref (y 38), .long 0, .int 0, .int 0])), (y 1, .inl (ct 0, 8, .inl (upd (upd (fun _ => 0) 2 1) 3 2))), (y 32, .inl (ct 0, 31, .inl (fun _ => 0))), (y 25, .inl (ct 0, 6, .inl (fun _ => 0))), (y 29, .inl (ct 0, 5, .inl (fun _ => 0)))] rfl (fun H locs hw hS => ?_)
      refine lv_iload_n hx hb dX12_count_5 rfl (lv_at hl 1 rfl) ?_
      refine lv_iconst (v := 0) hx hb dX12_count_6 (by decide) ?_
      refine lv_bipush (v := 11) hx hb dX12_count_7 (by decide) ?_
      refine zcall2 (va_runS (As := [.int 11, .int 0, .int 11]) (rest := []) ⟨hx, hb, hml, hown, hts⟩ (c_within l D ct 11 0 11 H.size) (va_cwS 3 hts gX12_count_X12_within rfl rfl rfl (by decide +kernel) ⟨Nat.le_of_ble_eq_true rfl, Nat.le_of_ble_eq_true rfl⟩) (zpreS hK hw hS hA zZ.nil hN [] rfl rfl) rfl rfl hl.1 rfl (lv_room (Nat.le_of_ble_eq_true rfl)) dX12_count_9 ⟨Nat.le_of_ble_eq_true rfl, Nat.le_of_ble_eq_true rfl⟩) hw hS hA [] [0, 1, 2, 3, 4] rfl rfl rfl rfl (fun _ H locs hp65 hw hS => ?_)
      have hw : zPD D A [(h0, .inr (11, [.int 0, .int 0, .ref (y 0), .int 0, .int 0, .int 0, .int 0, .long 0, .int 0, .int 0, .ref (y 1), .ref (y 2), .ref (y 3), .ref (y 4), .ref (y 5), .ref (y 6), .ref (y 7), .ref (y 8), .ref (y 9), .ref (y 10), .ref (y 11), .ref (y 12), .int 0, .int 0, .ref (y 13), .ref (y 14), .ref (y 15), .ref (y 16), .ref (y 17), .ref (y 18), .ref (y 19), .ref (y 20), .ref (y 21), .ref (y 22), .ref (y 23), .ref (y 24), .int 0, .long 0, .ref (y 25), .ref (y 26), .ref (y 27), .ref (y 28), .ref (y 29), .ref (y 30), .ref (y 31), .ref (y 32), .ref (y 33), .ref (y 34), .ref (y 35), .ref (y 36), .ref (y 37), .int 0, .int 0, .ref (y 38), .long 0, .int 0, .int 0])), (y 1, .inl (ct 0, 8, .inl (upd (upd (fun _ => 0) 2 1) 3 2))), (y 32, .inl (ct 0, 31, .inl (fun _ => 0))), (y 25, .inl (ct 0, 6, .inl (fun _ => 0))), (y 29, .inl (ct 0, 5, .inl (fun _ => 0)))] H := hw
      refine zfr 12 [.int (zwi 11 0 11)] rfl rfl ?_
      refine ztop (.int 1) (congrArg Value.int (by decide)) ?_
      refine lv_if_ne (tgt := 17) hx hb dX12_count_12 (by decide) (fun _ => ?_) (fun h => absurd h (by decide))
      refine lv_iload_n hx hb dX12_count_17 rfl (lv_at hl 1 rfl) ?_
      refine lv_iconst (v := 4) hx hb dX12_count_18 (by decide) ?_
      refine lv_icmp_ge (tgt := 29) hx hb dX12_count_19 (by decide) (fun _ => ?_) (fun h => absurd (by decide) h)
      refine lv_iload_n hx hb dX12_count_29 rfl (lv_at hl 1 rfl) ?_
      refine lv_bipush (v := 6) hx hb dX12_count_30 (by decide) ?_
      refine lv_icmp_ge (tgt := 54) hx hb dX12_count_32 (by decide) (fun _ => ?_) (fun h => absurd (by decide) h)
      refine lv_iload_n hx hb dX12_count_54 rfl (lv_at hl 1 rfl) ?_
      refine lv_bipush (v := 8) hx hb dX12_count_55 (by decide) ?_
      refine lv_icmp_ge (tgt := 82) hx hb dX12_count_57 (by decide) (fun _ => ?_) (fun h => absurd (by decide) h)
      refine lv_iload_n hx hb dX12_count_82 rfl (lv_at hl 1 rfl) ?_
      refine lv_bipush (v := 10) hx hb dX12_count_83 (by decide) ?_
      refine lv_icmp_ge (tgt := 110) hx hb dX12_count_85 (by decide) (fun _ => ?_) (fun h => absurd (by decide) h)
      refine lv_iload_n hx hb dX12_count_110 rfl (lv_at hl 1 rfl) ?_
      refine lv_bipush (v := 10) hx hb dX12_count_111 (by decide) ?_
      refine lv_icmp_ne (tgt := 123) hx hb dX12_count_113 (by decide) (fun _ => ?_) (fun h => absurd h (by decide))
      refine lv_aload_n hx hb dX12_count_123 rfl (lv_at hl 0 rfl) ?_
      refine va_get (D := D) (ci := 11) (v := .int 0) hx hb hts hiX12 hown hK hw.1 0 rfl rfl 1 (by decide) (hts (.fieldLink RX12 135 "BeardPassModel" "taped" "I") (by decide +kernel)) (fun _ h9 => h9) rfl dX12_count_124 ?_
      exact ziret hx hb hr (rfl) hlocks () (by decide) (trivial) hw [] rfl (rfl) hS (Nat.le_of_ble_eq_true rfl) (Nat.le_of_ble_eq_true rfl) dX12_count_127
