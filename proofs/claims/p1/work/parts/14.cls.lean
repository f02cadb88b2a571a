set_option maxHeartbeats 4000000 in
set_option maxRecDepth 100000 in
/-- judged on a new object -/
theorem k_judged (l : Launch) (D : va_G) (ct : Nat → ClassId) (h0 : Nat) (x : Nat → Nat) (p1 : Int32)  : zC l yX11_judged wsX11_judged ({ frames := 2, cells := 0, slots := 0, locals := 120 }) D ct [] [.ref h0, .int p1] [(h0, .inr (10, [.ref (x 1), .ref (x 3), .ref (x 15), .ref (x 27), .ref (x 28), .ref (x 32), .ref (x 36), .ref (x 37), .ref (x 48), .ref (x 54), .ref (x 60), .ref (x 61), .ref (x 68), .int 0, .int 0])), (x 3, .inr (2, [.ref (x 4), .ref (x 5), .ref (x 6), .ref (x 7), .ref (x 8), .ref (x 9), .ref (x 10), .ref (x 11), .ref (x 12), .int 0, .int 0, .int 1, .int 2])), (x 10, .inl (ct 0, 6, .inl (fun _ => 0))), (x 28, .inr (1, [.ref (x 29), .ref (x 30), .ref (x 31), .int 0])), (x 54, .inr (7, [.ref (x 55), .ref (x 56), .ref (x 57), .ref (x 58), .ref (x 59), .int 0])), (x 58, .inl (ct 0, 6, .inl (fun _ => 0)))] (S := Unit) (fun _ => some (.int (zjd p1))) (fun _ => True) (fun _ => []) 0 0 := by
  refine zofW cX11_judged 6 (some .int) (by decide) rfl (Nat.le_of_ble_eq_true rfl) ?_
  intro p e s m below meth c A hx hb hr hml hts hown hlocks hname hK hA hZ hN H locs hw hS ls hl
  have hown : s.vm.findClass RX11 = some m.cls := hown
  have hl : lv_has ls 6 [(0, .ref h0), (1, .int p1)] := hl
  have hiX1 : ∀ w ∈ wsX10, w ∈ wsX11_judged := by decide +kernel
  have hiX11 : ∀ w ∈ wsX110, w ∈ wsX11_judged := by decide +kernel
  have hiX2 : ∀ w ∈ wsX20, w ∈ wsX11_judged := by decide +kernel
  have hiX8 : ∀ w ∈ wsX80, w ∈ wsX11_judged := by decide +kernel
  by_cases c_1 : p1.toInt < 0 ∨ 2 < p1.toInt
  · refine lv_iconst (v := (-1)) hx hb dX11_judged_0 (by decide) ?_
    refine lv_istore_n (lv' := [(2, .int (-1)), (0, .ref h0), (1, .int p1)]) hx hb dX11_judged_1 rfl hl (by decide) rfl (fun ls hl => ?_)
    refine lv_iconst (v := (-1)) hx hb dX11_judged_2 (by decide) ?_
    refine lv_istore_n (lv' := [(3, .int (-1)), (2, .int (-1)), (0, .ref h0), (1, .int p1)]) hx hb dX11_judged_3 rfl hl (by decide) rfl (fun ls hl => ?_)
    refine lv_aload_n hx hb dX11_judged_4 rfl (lv_at hl 2 rfl) ?_
    refine va_get (D := D) (ci := 10) (v := .ref (x 3)) hx hb hts hiX11 hown hK hw.1 0 rfl rfl 1 (by decide) (hts (.fieldLink RX11 19 "BeardPass" "told" "LBeardPass$Land;") (by decide +kernel)) (fun _ h9 => h9) rfl dX11_judged_5 ?_
    refine zcall2 (va_runV (As := []) (rest := []) ⟨hx, hb, hml, hown, hts⟩ (c_X2_most l D ct (x 3) (x 4) (x 5) (x 6) (x 7) (x 8) (x 9) (x 10) (x 11) (x 12) 0 1 2 H.size) (cwV 0 hts gX11_judged_X2_mostAsked rfl rfl rfl (by decide +kernel) ⟨Nat.le_of_ble_eq_true rfl, Nat.le_of_ble_eq_true rfl⟩) (zpreV hK hw hS hA zZ.nil hN [1] rfl rfl 2 1 rfl rfl) rfl rfl hl.1 rfl (lv_room (Nat.le_of_ble_eq_true rfl)) dX11_judged_8 ⟨Nat.le_of_ble_eq_true rfl, Nat.le_of_ble_eq_true rfl⟩) hw hS hA [1] [0, 2, 3, 4, 5] rfl rfl rfl rfl (fun _ H locs hp2 hw hS => ?_)
    have hw : zPD D A [(h0, .inr (10, [.ref (x 1), .ref (x 3), .ref (x 15), .ref (x 27), .ref (x 28), .ref (x 32), .ref (x 36), .ref (x 37), .ref (x 48), .ref (x 54), .ref (x 60), .ref (x 61), .ref (x 68), .int 0, .int 0])), (x 10, .inl (ct 0, 6, .inl (fun _ => 0))), (x 28, .inr (1, [.ref (x 29), .ref (x 30), .ref (x 31), .int 0])), (x 54, .inr (7, [.ref (x 55), .ref (x 56), .ref (x 57), .ref (x 58), .ref (x 59), .int 0])), (x 58, .inl (ct 0, 6, .inl (fun _ => 0))), (x 3, .inr (2, [.ref (x 4), .ref (x 5), .ref (x 6), .ref (x 7), .ref (x 8), .ref (x 9), .ref (x 10), .ref (x 11), .ref (x 12), .int 0, .int 0, .int 1, .int 2]))] H := hw
    refine zfr 11 [.int 0] rfl rfl ?_
    refine lv_istore (lv' := [(4, .int 0), (3, .int (-1)), (2, .int (-1)), (0, .ref h0), (1, .int p1)]) hx hb dX11_judged_11 hl (by decide) rfl (fun ls hl => ?_)
    refine lv_aload_n hx hb dX11_judged_13 rfl (lv_at hl 3 rfl) ?_
    refine va_get (D := D) (ci := 10) (v := .ref (x 54)) hx hb hts hiX11 hown hK hw.1 0 rfl rfl 9 (by decide) (hts (.fieldLink RX11 68 "BeardPass" "trial" "LBeardPass$Standing;") (by decide +kernel)) (fun _ h9 => h9) rfl dX11_judged_14 ?_
    refine lv_aload_n hx hb dX11_judged_17 rfl (lv_at hl 3 rfl) ?_
    refine va_get (D := D) (ci := 10) (v := .ref (x 3)) hx hb hts hiX11 hown hK hw.1 0 rfl rfl 1 (by decide) (hts (.fieldLink RX11 19 "BeardPass" "told" "LBeardPass$Land;") (by decide +kernel)) (fun _ h9 => h9) rfl dX11_judged_18 ?_
    refine zcall2 (va_runV (As := [.ref (x 3)]) (rest := []) ⟨hx, hb, hml, hown, hts⟩ (c_X8_begin l D ct (x 54) (x 3) (x 55) (x 56) (x 57) (x 58) (x 59) 0 (x 4) (x 5) (x 6) (x 7) (x 8) (x 9) (x 10) (x 11) (x 12) 0 1 2 H.size) (cwV 1 hts gX11_judged_X8_begin rfl rfl rfl (by decide +kernel) ⟨Nat.le_of_ble_eq_true rfl, Nat.le_of_ble_eq_true rfl⟩) (zpreV hK hw hS hA zZ.nil hN [3, 5] rfl rfl 7 3 rfl rfl) rfl rfl hl.1 rfl (lv_room (Nat.le_of_ble_eq_true rfl)) dX11_judged_21 ⟨Nat.le_of_ble_eq_true rfl, Nat.le_of_ble_eq_true rfl⟩) hw hS hA [3, 5] [0, 1, 2, 4] rfl rfl rfl rfl (fun _ H locs hp3 hw hS => ?_)
    have hw : zPD D A [(h0, .inr (10, [.ref (x 1), .ref (x 3), .ref (x 15), .ref (x 27), .ref (x 28), .ref (x 32), .ref (x 36), .ref (x 37), .ref (x 48), .ref (x 54), .ref (x 60), .ref (x 61), .ref (x 68), .int 0, .int 0])), (x 10, .inl (ct 0, 6, .inl (fun _ => 0))), (x 28, .inr (1, [.ref (x 29), .ref (x 30), .ref (x 31), .int 0])), (x 58, .inl (ct 0, 6, .inl (fun _ => 0))), (x 54, .inr (7, [.ref (x 55), .ref (x 56), .ref (x 57), .ref (x 58), .ref (x 59), .int 0])), (x 3, .inr (2, [.ref (x 4), .ref (x 5), .ref (x 6), .ref (x 7), .ref (x 8), .ref (x 9), .ref (x 10), .ref (x 11), .ref (x 12), .int 0, .int 0, .int 1, .int 2]))] H := hw
    refine zfr 24 [] rfl rfl ?_
    refine lv_iconst (v := 0) hx hb dX11_judged_24 (by decide) ?_
    refine lv_istore (lv' := [(5, .int 0), (4, .int 0), (3, .int (-1)), (2, .int (-1)), (0, .ref h0), (1, .int p1)]) hx hb dX11_judged_25 hl (by decide) rfl (fun ls hl => ?_)
    refine lv_iload hx hb dX11_judged_27 (lv_at hl 0 rfl) ?_
    refine lv_aload_n hx hb dX11_judged_29 rfl (lv_at hl 4 rfl) ?_
    refine va_get (D := D) (ci := 10) (v := .ref (x 28)) hx hb hts hiX11 hown hK hw.1 0 rfl rfl 4 (by decide) (hts (.fieldLink RX11 36 "BeardPass" "plan" "LBeardPass$Journey;") (by decide +kernel)) (fun _ h9 => h9) rfl dX11_judged_30 ?_
    refine va_get (D := D) (ci := 1) (v := .int 0) hx hb hts hiX1 hown hK hw.1 2 rfl rfl 3 (by decide) (hts (.fieldLink RX11 116 "BeardPass$Journey" "lines" "I") (by decide +kernel)) (fun _ h9 => h9) rfl dX11_judged_33 ?_
    refine lv_icmp_ge (tgt := 123) hx hb dX11_judged_36 (by decide) (fun _ => ?_) (fun h => absurd (by decide) h)
    refine lv_iload_n hx hb dX11_judged_123 rfl (lv_at hl 5 rfl) ?_
    refine lv_tableOut (tgt := 180) hx hb dX11_judged_124 c_1 (by decide) ?_
    refine lv_bipush (v := (-2)) hx hb dX11_judged_180 (by decide) ?_
    exact ziret hx hb hr (rfl) hlocks () (by simp [zjd, c_1]) (trivial) hw [] rfl (rfl) hS (Nat.le_of_ble_eq_true rfl) (Nat.le_of_ble_eq_true rfl) dX11_judged_182
  · obtain ⟨j5, hj6, hxj7⟩ := zsw (lo := 0) (hi := 2) (k := 3) (by decide) (by decide) c_1
    rcases (show j5 = 0 ∨ j5 = 1 ∨ j5 = 2 by omega) with rfl | rfl | rfl
    · obtain rfl : p1 = 0 := hxj7
      refine lv_iconst (v := (-1)) hx hb dX11_judged_0 (by decide) ?_
      refine lv_istore_n (lv' := [(2, .int (-1)), (0, .ref h0), (1, .int 0)]) hx hb dX11_judged_1 rfl hl (by decide) rfl (fun ls hl => ?_)
      refine lv_iconst (v := (-1)) hx hb dX11_judged_2 (by decide) ?_
      refine lv_istore_n (lv' := [(3, .int (-1)), (2, .int (-1)), (0, .ref h0), (1, .int 0)]) hx hb dX11_judged_3 rfl hl (by decide) rfl (fun ls hl => ?_)
      refine lv_aload_n hx hb dX11_judged_4 rfl (lv_at hl 2 rfl) ?_
      refine va_get (D := D) (ci := 10) (v := .ref (x 3)) hx hb hts hiX11 hown hK hw.1 0 rfl rfl 1 (by decide) (hts (.fieldLink RX11 19 "BeardPass" "told" "LBeardPass$Land;") (by decide +kernel)) (fun _ h9 => h9) rfl dX11_judged_5 ?_
      refine zcall2 (va_runV (As := []) (rest := []) ⟨hx, hb, hml, hown, hts⟩ (c_X2_most l D ct (x 3) (x 4) (x 5) (x 6) (x 7) (x 8) (x 9) (x 10) (x 11) (x 12) 0 1 2 H.size) (cwV 0 hts gX11_judged_X2_mostAsked rfl rfl rfl (by decide +kernel) ⟨Nat.le_of_ble_eq_true rfl, Nat.le_of_ble_eq_true rfl⟩) (zpreV hK hw hS hA zZ.nil hN [1] rfl rfl 2 1 rfl rfl) rfl rfl hl.1 rfl (lv_room (Nat.le_of_ble_eq_true rfl)) dX11_judged_8 ⟨Nat.le_of_ble_eq_true rfl, Nat.le_of_ble_eq_true rfl⟩) hw hS hA [1] [0, 2, 3, 4, 5] rfl rfl rfl rfl (fun _ H locs hp8 hw hS => ?_)
      have hw : zPD D A [(h0, .inr (10, [.ref (x 1), .ref (x 3), .ref (x 15), .ref (x 27), .ref (x 28), .ref (x 32), .ref (x 36), .ref (x 37), .ref (x 48), .ref (x 54), .ref (x 60), .ref (x 61), .ref (x 68), .int 0, .int 0])), (x 10, .inl (ct 0, 6, .inl (fun _ => 0))), (x 28, .inr (1, [.ref (x 29), .ref (x 30), .ref (x 31), .int 0])), (x 54, .inr (7, [.ref (x 55), .ref (x 56), .ref (x 57), .ref (x 58), .ref (x 59), .int 0])), (x 58, .inl (ct 0, 6, .inl (fun _ => 0))), (x 3, .inr (2, [.ref (x 4), .ref (x 5), .ref (x 6), .ref (x 7), .ref (x 8), .ref (x 9), .ref (x 10), .ref (x 11), .ref (x 12), .int 0, .int 0, .int 1, .int 2]))] H := hw
      refine zfr 11 [.int 0] rfl rfl ?_
      refine lv_istore (lv' := [(4, .int 0), (3, .int (-1)), (2, .int (-1)), (0, .ref h0), (1, .int 0)]) hx hb dX11_judged_11 hl (by decide) rfl (fun ls hl => ?_)
      refine lv_aload_n hx hb dX11_judged_13 rfl (lv_at hl 3 rfl) ?_
      refine va_get (D := D) (ci := 10) (v := .ref (x 54)) hx hb hts hiX11 hown hK hw.1 0 rfl rfl 9 (by decide) (hts (.fieldLink RX11 68 "BeardPass" "trial" "LBeardPass$Standing;") (by decide +kernel)) (fun _ h9 => h9) rfl dX11_judged_14 ?_
      refine lv_aload_n hx hb dX11_judged_17 rfl (lv_at hl 3 rfl) ?_
      refine va_get (D := D) (ci := 10) (v := .ref (x 3)) hx hb hts hiX11 hown hK hw.1 0 rfl rfl 1 (by decide) (hts (.fieldLink RX11 19 "BeardPass" "told" "LBeardPass$Land;") (by decide +kernel)) (fun _ h9 => h9) rfl dX11_judged_18 ?_
      refine zcall2 (va_runV (As := [.ref (x 3)]) (rest := []) ⟨hx, hb, hml, hown, hts⟩ (c_X8_begin l D ct (x 54) (x 3) (x 55) (x 56) (x 57) (x 58) (x 59) 0 (x 4) (x 5) (x 6) (x 7) (x 8) (x 9) (x 10) (x 11) (x 12) 0 1 2 H.size) (cwV 1 hts gX11_judged_X8_begin rfl rfl rfl (by decide +kernel) ⟨Nat.le_of_ble_eq_true rfl, Nat.le_of_ble_eq_true rfl⟩) (zpreV hK hw hS hA zZ.nil hN [3, 5] rfl rfl 7 3 rfl rfl) rfl rfl hl.1 rfl (lv_room (Nat.le_of_ble_eq_true rfl)) dX11_judged_21 ⟨Nat.le_of_ble_eq_true rfl, Nat.le_of_ble_eq_true rfl⟩) hw hS hA [3, 5] [0, 1, 2, 4] rfl rfl rfl rfl (fun _ H locs hp9 hw hS => ?_)
      have hw : zPD D A [(h0, .inr (10, [.ref (x 1), .ref (x 3), .ref (x 15), .ref (x 27), .ref (x 28), .ref (x 32), .ref (x 36), .ref (x 37), .ref (x 48), .ref (x 54), .ref (x 60), .ref (x 61), .ref (x 68), .int 0, .int 0])), (x 10, .inl (ct 0, 6, .inl (fun _ => 0))), (x 28, .inr (1, [.ref (x 29), .ref (x 30), .ref (x 31), .int 0])), (x 58, .inl (ct 0, 6, .inl (fun _ => 0))), (x 54, .inr (7, [.ref (x 55), .ref (x 56), .ref (x 57), .ref (x 58), .ref (x 59), .int 0])), (x 3, .inr (2, [.ref (x 4), .ref (x 5), .ref (x 6), .ref (x 7), .ref (x 8), .ref (x 9), .ref (x 10), .ref (x 11), .ref (x 12), .int 0, .int 0, .int 1, .int 2]))] H := hw
      refine zfr 24 [] rfl rfl ?_
      refine lv_iconst (v := 0) hx hb dX11_judged_24 (by decide) ?_
      refine lv_istore (lv' := [(5, .int 0), (4, .int 0), (3, .int (-1)), (2, .int (-1)), (0, .ref h0), (1, .int 0)]) hx hb dX11_judged_25 hl (by decide) rfl (fun ls hl => ?_)
      refine lv_iload hx hb dX11_judged_27 (lv_at hl 0 rfl) ?_
      refine lv_aload_n hx hb dX11_judged_29 rfl (lv_at hl 4 rfl) ?_
      refine va_get (D := D) (ci := 10) (v := .ref (x 28)) hx hb hts hiX11 hown hK hw.1 0 rfl rfl 4 (by decide) (hts (.fieldLink RX11 36 "BeardPass" "plan" "LBeardPass$Journey;") (by decide +kernel)) (fun _ h9 => h9) rfl dX11_judged_30 ?_
      refine va_get (D := D) (ci := 1) (v := .int 0) hx hb hts hiX1 hown hK hw.1 2 rfl rfl 3 (by decide) (hts (.fieldLink RX11 116 "BeardPass$Journey" "lines" "I") (by decide +kernel)) (fun _ h9 => h9) rfl dX11_judged_33 ?_
      refine lv_icmp_ge (tgt := 123) hx hb dX11_judged_36 (by decide) (fun _ => ?_) (fun h => absurd (by decide) h)
      refine lv_iload_n hx hb dX11_judged_123 rfl (lv_at hl 5 rfl) ?_
      refine lv_tableIn (off := 28) (tgt := 152) hx hb dX11_judged_124 (by decide) (by decide) (by decide) (by decide) ?_
      refine lv_iload_n hx hb dX11_judged_152 rfl (lv_at hl 3 rfl) ?_
      exact ziret hx hb hr (rfl) hlocks () (by decide) (trivial) hw [] rfl (rfl) hS (Nat.le_of_ble_eq_true rfl) (Nat.le_of_ble_eq_true rfl) dX11_judged_153
    · obtain rfl : p1 = 1 := hxj7
      refine lv_iconst (v := (-1)) hx hb dX11_judged_0 (by decide) ?_
      refine lv_istore_n (lv' := [(2, .int (-1)), (0, .ref h0), (1, .int 1)]) hx hb dX11_judged_1 rfl hl (by decide) rfl (fun ls hl => ?_)
      refine lv_iconst (v := (-1)) hx hb dX11_judged_2 (by decide) ?_
      refine lv_istore_n (lv' := [(3, .int (-1)), (2, .int (-1)), (0, .ref h0), (1, .int 1)]) hx hb dX11_judged_3 rfl hl (by decide) rfl (fun ls hl => ?_)
      refine lv_aload_n hx hb dX11_judged_4 rfl (lv_at hl 2 rfl) ?_
      refine va_get (D := D) (ci := 10) (v := .ref (x 3)) hx hb hts hiX11 hown hK hw.1 0 rfl rfl 1 (by decide) (hts (.fieldLink RX11 19 "BeardPass" "told" "LBeardPass$Land;") (by decide +kernel)) (fun _ h9 => h9) rfl dX11_judged_5 ?_
      refine zcall2 (va_runV (As := []) (rest := []) ⟨hx, hb, hml, hown, hts⟩ (c_X2_most l D ct (x 3) (x 4) (x 5) (x 6) (x 7) (x 8) (x 9) (x 10) (x 11) (x 12) 0 1 2 H.size) (cwV 0 hts gX11_judged_X2_mostAsked rfl rfl rfl (by decide +kernel) ⟨Nat.le_of_ble_eq_true rfl, Nat.le_of_ble_eq_true rfl⟩) (zpreV hK hw hS hA zZ.nil hN [1] rfl rfl 2 1 rfl rfl) rfl rfl hl.1 rfl (lv_room (Nat.le_of_ble_eq_true rfl)) dX11_judged_8 ⟨Nat.le_of_ble_eq_true rfl, Nat.le_of_ble_eq_true rfl⟩) hw hS hA [1] [0, 2, 3, 4, 5] rfl rfl rfl rfl (fun _ H locs hp11 hw hS => ?_)
      have hw : zPD D A [(h0, .inr (10, [.ref (x 1), .ref (x 3), .ref (x 15), .ref (x 27), .ref (x 28), .ref (x 32), .ref (x 36), .ref (x 37), .ref (x 48), .ref (x 54), .ref (x 60), .ref (x 61), .ref (x 68), .int 0, .int 0])), (x 10, .inl (ct 0, 6, .inl (fun _ => 0))), (x 28, .inr (1, [.ref (x 29), .ref (x 30), .ref (x 31), .int 0])), (x 54, .inr (7, [.ref (x 55), .ref (x 56), .ref (x 57), .ref (x 58), .ref (x 59), .int 0])), (x 58, .inl (ct 0, 6, .inl (fun _ => 0))), (x 3, .inr (2, [.ref (x 4), .ref (x 5), .ref (x 6), .ref (x 7), .ref (x 8), .ref (x 9), .ref (x 10), .ref (x 11), .ref (x 12), .int 0, .int 0, .int 1, .int 2]))] H := hw
      refine zfr 11 [.int 0] rfl rfl ?_
      refine lv_istore (lv' := [(4, .int 0), (3, .int (-1)), (2, .int (-1)), (0, .ref h0), (1, .int 1)]) hx hb dX11_judged_11 hl (by decide) rfl (fun ls hl => ?_)
      refine lv_aload_n hx hb dX11_judged_13 rfl (lv_at hl 3 rfl) ?_
      refine va_get (D := D) (ci := 10) (v := .ref (x 54)) hx hb hts hiX11 hown hK hw.1 0 rfl rfl 9 (by decide) (hts (.fieldLink RX11 68 "BeardPass" "trial" "LBeardPass$Standing;") (by decide +kernel)) (fun _ h9 => h9) rfl dX11_judged_14 ?_
      refine lv_aload_n hx hb dX11_judged_17 rfl (lv_at hl 3 rfl) ?_
      refine va_get (D := D) (ci := 10) (v := .ref (x 3)) hx hb hts hiX11 hown hK hw.1 0 rfl rfl 1 (by decide) (hts (.fieldLink RX11 19 "BeardPass" "told" "LBeardPass$Land;") (by decide +kernel)) (fun _ h9 => h9) rfl dX11_judged_18 ?_
      refine zcall2 (va_runV (As := [.ref (x 3)]) (rest := []) ⟨hx, hb, hml, hown, hts⟩ (c_X8_begin l D ct (x 54) (x 3) (x 55) (x 56) (x 57) (x 58) (x 59) 0 (x 4) (x 5) (x 6) (x 7) (x 8) (x 9) (x 10) (x 11) (x 12) 0 1 2 H.size) (cwV 1 hts gX11_judged_X8_begin rfl rfl rfl (by decide +kernel) ⟨Nat.le_of_ble_eq_true rfl, Nat.le_of_ble_eq_true rfl⟩) (zpreV hK hw hS hA zZ.nil hN [3, 5] rfl rfl 7 3 rfl rfl) rfl rfl hl.1 rfl (lv_room (Nat.le_of_ble_eq_true rfl)) dX11_judged_21 ⟨Nat.le_of_ble_eq_true rfl, Nat.le_of_ble_eq_true rfl⟩) hw hS hA [3, 5] [0, 1, 2, 4] rfl rfl rfl rfl (fun _ H locs hp12 hw hS => ?_)
      have hw : zPD D A [(h0, .inr (10, [.ref (x 1), .ref (x 3), .ref (x 15), .ref (x 27), .ref (x 28), .ref (x 32), .ref (x 36), .ref (x 37), .ref (x 48), .ref (x 54), .ref (x 60), .ref (x 61), .ref (x 68), .int 0, .int 0])), (x 10, .inl (ct 0, 6, .inl (fun _ => 0))), (x 28, .inr (1, [.ref (x 29), .ref (x 30), .ref (x 31), .int 0])), (x 58, .inl (ct 0, 6, .inl (fun _ => 0))), (x 54, .inr (7, [.ref (x 55), .ref (x 56), .ref (x 57), .ref (x 58), .ref (x 59), .int 0])), (x 3, .inr (2, [.ref (x 4), .ref (x 5), .ref (x 6), .ref (x 7), .ref (x 8), .ref (x 9), .ref (x 10), .ref (x 11), .ref (x 12), .int 0, .int 0, .int 1, .int 2]))] H := hw
      refine zfr 24 [] rfl rfl ?_
      refine lv_iconst (v := 0) hx hb dX11_judged_24 (by decide) ?_
      refine lv_istore (lv' := [(5, .int 0), (4, .int 0), (3, .int (-1)), (2, .int (-1)), (0, .ref h0), (1, .int 1)]) hx hb dX11_judged_25 hl (by decide) rfl (fun ls hl => ?_)
      refine lv_iload hx hb dX11_judged_27 (lv_at hl 0 rfl) ?_
      refine lv_aload_n hx hb dX11_judged_29 rfl (lv_at hl 4 rfl) ?_
      refine va_get (D := D) (ci := 10) (v := .ref (x 28)) hx hb hts hiX11 hown hK hw.1 0 rfl rfl 4 (by decide) (hts (.fieldLink RX11 36 "BeardPass" "plan" "LBeardPass$Journey;") (by decide +kernel)) (fun _ h9 => h9) rfl dX11_judged_30 ?_
      refine va_get (D := D) (ci := 1) (v := .int 0) hx hb hts hiX1 hown hK hw.1 2 rfl rfl 3 (by decide) (hts (.fieldLink RX11 116 "BeardPass$Journey" "lines" "I") (by decide +kernel)) (fun _ h9 => h9) rfl dX11_judged_33 ?_
      refine lv_icmp_ge (tgt := 123) hx hb dX11_judged_36 (by decide) (fun _ => ?_) (fun h => absurd (by decide) h)
      refine lv_iload_n hx hb dX11_judged_123 rfl (lv_at hl 5 rfl) ?_
      refine lv_tableIn (off := 30) (tgt := 154) hx hb dX11_judged_124 (by decide) (by decide) (by decide) (by decide) ?_
      refine lv_iload_n hx hb dX11_judged_154 rfl (lv_at hl 2 rfl) ?_
      exact ziret hx hb hr (rfl) hlocks () (by decide) (trivial) hw [] rfl (rfl) hS (Nat.le_of_ble_eq_true rfl) (Nat.le_of_ble_eq_true rfl) dX11_judged_155
    · obtain rfl : p1 = 2 := hxj7
      refine lv_iconst (v := (-1)) hx hb dX11_judged_0 (by decide) ?_
      refine lv_istore_n (lv' := [(2, .int (-1)), (0, .ref h0), (1, .int 2)]) hx hb dX11_judged_1 rfl hl (by decide) rfl (fun ls hl => ?_)
      refine lv_iconst (v := (-1)) hx hb dX11_judged_2 (by decide) ?_
      refine lv_istore_n (lv' := [(3, .int (-1)), (2, .int (-1)), (0, .ref h0), (1, .int 2)]) hx hb dX11_judged_3 rfl hl (by decide) rfl (fun ls hl => ?_)
      refine lv_aload_n hx hb dX11_judged_4 rfl (lv_at hl 2 rfl) ?_
      refine va_get (D := D) (ci := 10) (v := .ref (x 3)) hx hb hts hiX11 hown hK hw.1 0 rfl rfl 1 (by decide) (hts (.fieldLink RX11 19 "BeardPass" "told" "LBeardPass$Land;") (by decide +kernel)) (fun _ h9 => h9) rfl dX11_judged_5 ?_
      refine zcall2 (va_runV (As := []) (rest := []) ⟨hx, hb, hml, hown, hts⟩ (c_X2_most l D ct (x 3) (x 4) (x 5) (x 6) (x 7) (x 8) (x 9) (x 10) (x 11) (x 12) 0 1 2 H.size) (cwV 0 hts gX11_judged_X2_mostAsked rfl rfl rfl (by decide +kernel) ⟨Nat.le_of_ble_eq_true rfl, Nat.le_of_ble_eq_true rfl⟩) (zpreV hK hw hS hA zZ.nil hN [1] rfl rfl 2 1 rfl rfl) rfl rfl hl.1 rfl (lv_room (Nat.le_of_ble_eq_true rfl)) dX11_judged_8 ⟨Nat.le_of_ble_eq_true rfl, Nat.le_of_ble_eq_true rfl⟩) hw hS hA [1] [0, 2, 3, 4, 5] rfl rfl rfl rfl (fun _ H locs hp14 hw hS => ?_)
      have hw : zPD D A [(h0, .inr (10, [.ref (x 1), .ref (x 3), .ref (x 15), .ref (x 27), .ref (x 28), .ref (x 32), .ref (x 36), .ref (x 37), .ref (x 48), .ref (x 54), .ref (x 60), .ref (x 61), .ref (x 68), .int 0, .int 0])), (x 10, .inl (ct 0, 6, .inl (fun _ => 0))), (x 28, .inr (1, [.ref (x 29), .ref (x 30), .ref (x 31), .int 0])), (x 54, .inr (7, [.ref (x 55), .ref (x 56), .ref (x 57), .ref (x 58), .ref (x 59), .int 0])), (x 58, .inl (ct 0, 6, .inl (fun _ => 0))), (x 3, .inr (2, [.ref (x 4), .ref (x 5), .ref (x 6), .ref (x 7), .ref (x 8), .ref (x 9), .ref (x 10), .ref (x 11), .ref (x 12), .int 0, .int 0, .int 1, .int 2]))] H := hw
      refine zfr 11 [.int 0] rfl rfl ?_
      refine lv_istore (lv' := [(4, .int 0), (3, .int (-1)), (2, .int (-1)), (0, .ref h0), (1, .int 2)]) hx hb dX11_judged_11 hl (by decide) rfl (fun ls hl => ?_)
      refine lv_aload_n hx hb dX11_judged_13 rfl (lv_at hl 3 rfl) ?_
      refine va_get (D := D) (ci := 10) (v := .ref (x 54)) hx hb hts hiX11 hown hK hw.1 0 rfl rfl 9 (by decide) (hts (.fieldLink RX11 68 "BeardPass" "trial" "LBeardPass$Standing;") (by decide +kernel)) (fun _ h9 => h9) rfl dX11_judged_14 ?_
      refine lv_aload_n hx hb dX11_judged_17 rfl (lv_at hl 3 rfl) ?_
      refine va_get (D := D) (ci := 10) (v := .ref (x 3)) hx hb hts hiX11 hown hK hw.1 0 rfl rfl 1 (by decide) (hts (.fieldLink RX11 19 "BeardPass" "told" "LBeardPass$Land;") (by decide +kernel)) (fun _ h9 => h9) rfl dX11_judged_18 ?_
      refine zcall2 (va_runV (As := [.ref (x 3)]) (rest := []) ⟨hx, hb, hml, hown, hts⟩ (c_X8_begin l D ct (x 54) (x 3) (x 55) (x 56) (x 57) (x 58) (x 59) 0 (x 4) (x 5) (x 6) (x 7) (x 8) (x 9) (x 10) (x 11) (x 12) 0 1 2 H.size) (cwV 1 hts gX11_judged_X8_begin rfl rfl rfl (by decide +kernel) ⟨Nat.le_of_ble_eq_true rfl, Nat.le_of_ble_eq_true rfl⟩) (zpreV hK hw hS hA zZ.nil hN [3, 5] rfl rfl 7 3 rfl rfl) rfl rfl hl.1 rfl (lv_room (Nat.le_of_ble_eq_true rfl)) dX11_judged_21 ⟨Nat.le_of_ble_eq_true rfl, Nat.le_of_ble_eq_true rfl⟩) hw hS hA [3, 5] [0, 1, 2, 4] rfl rfl rfl rfl (fun _ H locs hp15 hw hS => ?_)
      have hw : zPD D A [(h0, .inr (10, [.ref (x 1), .ref (x 3), .ref (x 15), .ref (x 27), .ref (x 28), .ref (x 32), .ref (x 36), .ref (x 37), .ref (x 48), .ref (x 54), .ref (x 60), .ref (x 61), .ref (x 68), .int 0, .int 0])), (x 10, .inl (ct 0, 6, .inl (fun _ => 0))), (x 28, .inr (1, [.ref (x 29), .ref (x 30), .ref (x 31), .int 0])), (x 58, .inl (ct 0, 6, .inl (fun _ => 0))), (x 54, .inr (7, [.ref (x 55), .ref (x 56), .ref (x 57), .ref (x 58), .ref (x 59), .int 0])), (x 3, .inr (2, [.ref (x 4), .ref (x 5), .ref (x 6), .ref (x 7), .ref (x 8), .ref (x 9), .ref (x 10), .ref (x 11), .ref (x 12), .int 0, .int 0, .int 1, .int 2]))] H := hw
      refine zfr 24 [] rfl rfl ?_
      refine lv_iconst (v := 0) hx hb dX11_judged_24 (by decide) ?_
      refine lv_istore (lv' := [(5, .int 0), (4, .int 0), (3, .int (-1)), (2, .int (-1)), (0, .ref h0), (1, .int 2)]) hx hb dX11_judged_25 hl (by decide) rfl (fun ls hl => ?_)
      refine lv_iload hx hb dX11_judged_27 (lv_at hl 0 rfl) ?_
      refine lv_aload_n hx hb dX11_judged_29 rfl (lv_at hl 4 rfl) ?_
      refine va_get (D := D) (ci := 10) (v := .ref (x 28)) hx hb hts hiX11 hown hK hw.1 0 rfl rfl 4 (by decide) (hts (.fieldLink RX11 36 "BeardPass" "plan" "LBeardPass$Journey;") (by decide +kernel)) (fun _ h9 => h9) rfl dX11_judged_30 ?_
      refine va_get (D := D) (ci := 1) (v := .int 0) hx hb hts hiX1 hown hK hw.1 2 rfl rfl 3 (by decide) (hts (.fieldLink RX11 116 "BeardPass$Journey" "lines" "I") (by decide +kernel)) (fun _ h9 => h9) rfl dX11_judged_33 ?_
      refine lv_icmp_ge (tgt := 123) hx hb dX11_judged_36 (by decide) (fun _ => ?_) (fun h => absurd (by decide) h)
      refine lv_iload_n hx hb dX11_judged_123 rfl (lv_at hl 5 rfl) ?_
      refine lv_tableIn (off := 32) (tgt := 156) hx hb dX11_judged_124 (by decide) (by decide) (by decide) (by decide) ?_
      refine lv_aload_n hx hb dX11_judged_156 rfl (lv_at hl 4 rfl) ?_
      refine lv_aload_n hx hb dX11_judged_157 rfl (lv_at hl 4 rfl) ?_
      refine va_get (D := D) (ci := 10) (v := .ref (x 3)) hx hb hts hiX11 hown hK hw.1 0 rfl rfl 1 (by decide) (hts (.fieldLink RX11 19 "BeardPass" "told" "LBeardPass$Land;") (by decide +kernel)) (fun _ h9 => h9) rfl dX11_judged_158 ?_
      refine va_get (D := D) (ci := 2) (v := .ref (x 10)) hx hb hts hiX2 hown hK hw.1 5 rfl rfl 6 (by decide) (hts (.fieldLink RX11 252 "BeardPass$Land" "purses" "[I") (by decide +kernel)) (fun _ h9 => h9) rfl dX11_judged_161 ?_
      refine zcall2 (va_runV (As := [.ref (x 10)]) (rest := []) ⟨hx, hb, hml, hown, hts⟩ (c_sum11 l D ct h0 x (x 10) H.size) (cwV 1 hts gX11_judged_X11_sum rfl rfl rfl (by decide +kernel) ⟨Nat.le_of_ble_eq_true rfl, Nat.le_of_ble_eq_true rfl⟩) (zpreV hK hw hS hA zZ.nil hN [0, 5] rfl rfl 10 0 rfl rfl) rfl rfl hl.1 rfl (lv_room (Nat.le_of_ble_eq_true rfl)) dX11_judged_164 ⟨Nat.le_of_ble_eq_true rfl, Nat.le_of_ble_eq_true rfl⟩) hw hS hA [0, 5] [1, 2, 3, 4] rfl rfl rfl rfl (fun _ H locs hp17 hw hS => ?_)
      have hw : zPD D A [(x 10, .inl (ct 0, 6, .inl (fun _ => 0))), (x 28, .inr (1, [.ref (x 29), .ref (x 30), .ref (x 31), .int 0])), (x 58, .inl (ct 0, 6, .inl (fun _ => 0))), (x 54, .inr (7, [.ref (x 55), .ref (x 56), .ref (x 57), .ref (x 58), .ref (x 59), .int 0])), (h0, .inr (10, [.ref (x 1), .ref (x 3), .ref (x 15), .ref (x 27), .ref (x 28), .ref (x 32), .ref (x 36), .ref (x 37), .ref (x 48), .ref (x 54), .ref (x 60), .ref (x 61), .ref (x 68), .int 0, .int 0])), (x 3, .inr (2, [.ref (x 4), .ref (x 5), .ref (x 6), .ref (x 7), .ref (x 8), .ref (x 9), .ref (x 10), .ref (x 11), .ref (x 12), .int 0, .int 0, .int 1, .int 2]))] H := hw
      refine zfr 167 [.int 0] rfl rfl ?_
      refine lv_aload_n hx hb dX11_judged_167 rfl (lv_at hl 4 rfl) ?_
      refine lv_aload_n hx hb dX11_judged_168 rfl (lv_at hl 4 rfl) ?_
      refine va_get (D := D) (ci := 10) (v := .ref (x 54)) hx hb hts hiX11 hown hK hw.1 4 rfl rfl 9 (by decide) (hts (.fieldLink RX11 68 "BeardPass" "trial" "LBeardPass$Standing;") (by decide +kernel)) (fun _ h9 => h9) rfl dX11_judged_169 ?_
      refine va_get (D := D) (ci := 7) (v := .ref (x 58)) hx hb hts hiX8 hown hK hw.1 3 rfl rfl 3 (by decide) (hts (.fieldLink RX11 150 "BeardPass$Standing" "purses" "[I") (by decide +kernel)) (fun _ h9 => h9) rfl dX11_judged_172 ?_
      refine zcall2 (va_runV (As := [.ref (x 58)]) (rest := [.int 0]) ⟨hx, hb, hml, hown, hts⟩ (c_sum11 l D ct h0 x (x 58) H.size) (cwV 1 hts gX11_judged_X11_sum rfl rfl rfl (by decide +kernel) ⟨Nat.le_of_ble_eq_true rfl, Nat.le_of_ble_eq_true rfl⟩) (zpreV hK hw hS hA zZ.nil hN [4, 5] rfl rfl 10 4 rfl rfl) rfl rfl hl.1 rfl (lv_room (Nat.le_of_ble_eq_true rfl)) dX11_judged_175 ⟨Nat.le_of_ble_eq_true rfl, Nat.le_of_ble_eq_true rfl⟩) hw hS hA [4, 5] [0, 1, 2, 3] rfl rfl rfl rfl (fun _ H locs hp18 hw hS => ?_)
      have hw : zPD D A [(x 10, .inl (ct 0, 6, .inl (fun _ => 0))), (x 28, .inr (1, [.ref (x 29), .ref (x 30), .ref (x 31), .int 0])), (x 58, .inl (ct 0, 6, .inl (fun _ => 0))), (x 54, .inr (7, [.ref (x 55), .ref (x 56), .ref (x 57), .ref (x 58), .ref (x 59), .int 0])), (h0, .inr (10, [.ref (x 1), .ref (x 3), .ref (x 15), .ref (x 27), .ref (x 28), .ref (x 32), .ref (x 36), .ref (x 37), .ref (x 48), .ref (x 54), .ref (x 60), .ref (x 61), .ref (x 68), .int 0, .int 0])), (x 3, .inr (2, [.ref (x 4), .ref (x 5), .ref (x 6), .ref (x 7), .ref (x 8), .ref (x 9), .ref (x 10), .ref (x 11), .ref (x 12), .int 0, .int 0, .int 1, .int 2]))] H := hw
      refine zfr 178 [.int 0, .int 0] rfl rfl ?_
      refine lv_isub hx hb dX11_judged_178 ?_
      refine ztop (.int 0) (congrArg Value.int (by decide)) ?_
      exact ziret hx hb hr (rfl) hlocks () (by decide) (trivial) hw [] rfl (rfl) hS (Nat.le_of_ble_eq_true rfl) (Nat.le_of_ble_eq_true rfl) dX11_judged_179

set_option maxHeartbeats 4000000 in
set_option maxRecDepth 100000 in
/-- lengths on a new object -/
theorem k_lengths (l : Launch) (D : va_G) (ct : Nat → ClassId) (h0 : Nat) (x : Nat → Nat) (p1 : Int32)  : zC l yX11_lengths wsX11_lengths ({ frames := 2, cells := 0, slots := 0, locals := 120 }) D ct [] [.ref h0, .int p1] [(h0, .inr (10, [.ref (x 1), .ref (x 3), .ref (x 15), .ref (x 27), .ref (x 28), .ref (x 32), .ref (x 36), .ref (x 37), .ref (x 48), .ref (x 54), .ref (x 60), .ref (x 61), .ref (x 68), .int 0, .int 0])), (x 60, .inr (6, [.int 2147483647, .int 0]))] (S := Unit) (fun _ => some (.int (zln p1))) (fun _ => True) (fun _ => []) 0 0 := by
  refine zofW cX11_lengths 3 (some .int) (by decide) rfl (Nat.le_of_ble_eq_true rfl) ?_
  intro p e s m below meth c A hx hb hr hml hts hown hlocks hname hK hA hZ hN H locs hw hS ls hl
  have hown : s.vm.findClass RX11 = some m.cls := hown
  have hl : lv_has ls 3 [(0, .ref h0), (1, .int p1)] := hl
  have hiX11 : ∀ w ∈ wsX110, w ∈ wsX11_lengths := by decide +kernel
  have hiX6 : ∀ w ∈ wsX60, w ∈ wsX11_lengths := by decide +kernel
  by_cases c_1 : p1.toInt < 0 ∨ 2 < p1.toInt
  · refine lv_aload_n hx hb dX11_lengths_0 rfl (lv_at hl 0 rfl) ?_
    refine va_get (D := D) (ci := 10) (v := .ref (x 60)) hx hb hts hiX11 hown hK hw.1 0 rfl rfl 10 (by decide) (hts (.fieldLink RX11 74 "BeardPass" "sightings" "LBeardPass$Sightings;") (by decide +kernel)) (fun _ h9 => h9) rfl dX11_lengths_1 ?_
    refine va_get (D := D) (ci := 6) (v := .int 2147483647) hx hb hts hiX6 hown hK hw.1 1 rfl rfl 0 (by decide) (hts (.fieldLink RX11 316 "BeardPass$Sightings" "possible" "I") (by decide +kernel)) (fun _ h9 => h9) rfl dX11_lengths_4 ?_
    refine lv_istore_n (lv' := [(2, .int 2147483647), (0, .ref h0), (1, .int p1)]) hx hb dX11_lengths_7 rfl hl (by decide) rfl (fun ls hl => ?_)
    refine lv_iload_n hx hb dX11_lengths_8 rfl (lv_at hl 2 rfl) ?_
    refine lv_tableOut (tgt := 70) hx hb dX11_lengths_9 c_1 (by decide) ?_
    refine lv_iconst (v := (-1)) hx hb dX11_lengths_70 (by decide) ?_
    exact ziret hx hb hr (rfl) hlocks () (by simp [zln, c_1]) (trivial) hw [] rfl (rfl) hS (Nat.le_of_ble_eq_true rfl) (Nat.le_of_ble_eq_true rfl) dX11_lengths_71
  · obtain ⟨j2, hj3, hxj4⟩ := zsw (lo := 0) (hi := 2) (k := 3) (by decide) (by decide) c_1
    rcases (show j2 = 0 ∨ j2 = 1 ∨ j2 = 2 by omega) with rfl | rfl | rfl
    · obtain rfl : p1 = 0 := hxj4
      refine lv_aload_n hx hb dX11_lengths_0 rfl (lv_at hl 0 rfl) ?_
      refine va_get (D := D) (ci := 10) (v := .ref (x 60)) hx hb hts hiX11 hown hK hw.1 0 rfl rfl 10 (by decide) (hts (.fieldLink RX11 74 "BeardPass" "sightings" "LBeardPass$Sightings;") (by decide +kernel)) (fun _ h9 => h9) rfl dX11_lengths_1 ?_
      refine va_get (D := D) (ci := 6) (v := .int 2147483647) hx hb hts hiX6 hown hK hw.1 1 rfl rfl 0 (by decide) (hts (.fieldLink RX11 316 "BeardPass$Sightings" "possible" "I") (by decide +kernel)) (fun _ h9 => h9) rfl dX11_lengths_4 ?_
      refine lv_istore_n (lv' := [(2, .int 2147483647), (0, .ref h0), (1, .int 0)]) hx hb dX11_lengths_7 rfl hl (by decide) rfl (fun ls hl => ?_)
      refine lv_iload_n hx hb dX11_lengths_8 rfl (lv_at hl 2 rfl) ?_
      refine lv_tableIn (off := 27) (tgt := 36) hx hb dX11_lengths_9 (by decide) (by decide) (by decide) (by decide) ?_
      refine lv_iload_n hx hb dX11_lengths_36 rfl (lv_at hl 0 rfl) ?_
      refine zcall2 (va_runS (As := [.int 2147483647]) (rest := []) ⟨hx, hb, hml, hown, hts⟩ (c_J6_bitCount_0f7a4 l D ct  H.size) (va_cwS 1 hts gX11_lengths_J6_bitCount_0f7a4 rfl rfl rfl (by decide +kernel) ⟨Nat.le_of_ble_eq_true rfl, Nat.le_of_ble_eq_true rfl⟩) (zpreS hK hw hS hA zZ.nil hN [] rfl rfl) rfl rfl hl.1 rfl (lv_room (Nat.le_of_ble_eq_true rfl)) dX11_lengths_37 ⟨Nat.le_of_ble_eq_true rfl, Nat.le_of_ble_eq_true rfl⟩) hw hS hA [] [0, 1] rfl rfl rfl rfl (fun _ H locs hp5 hw hS => ?_)
      have hw : zPD D A [(h0, .inr (10, [.ref (x 1), .ref (x 3), .ref (x 15), .ref (x 27), .ref (x 28), .ref (x 32), .ref (x 36), .ref (x 37), .ref (x 48), .ref (x 54), .ref (x 60), .ref (x 61), .ref (x 68), .int 0, .int 0])), (x 60, .inr (6, [.int 2147483647, .int 0]))] H := hw
      refine zfr 40 [.int 31] rfl rfl ?_
      exact ziret hx hb hr (rfl) hlocks () (by decide) (trivial) hw [] rfl (rfl) hS (Nat.le_of_ble_eq_true rfl) (Nat.le_of_ble_eq_true rfl) dX11_lengths_40
    · obtain rfl : p1 = 1 := hxj4
      refine lv_aload_n hx hb dX11_lengths_0 rfl (lv_at hl 0 rfl) ?_
      refine va_get (D := D) (ci := 10) (v := .ref (x 60)) hx hb hts hiX11 hown hK hw.1 0 rfl rfl 10 (by decide) (hts (.fieldLink RX11 74 "BeardPass" "sightings" "LBeardPass$Sightings;") (by decide +kernel)) (fun _ h9 => h9) rfl dX11_lengths_1 ?_
      refine va_get (D := D) (ci := 6) (v := .int 2147483647) hx hb hts hiX6 hown hK hw.1 1 rfl rfl 0 (by decide) (hts (.fieldLink RX11 316 "BeardPass$Sightings" "possible" "I") (by decide +kernel)) (fun _ h9 => h9) rfl dX11_lengths_4 ?_
      refine lv_istore_n (lv' := [(2, .int 2147483647), (0, .ref h0), (1, .int 1)]) hx hb dX11_lengths_7 rfl hl (by decide) rfl (fun ls hl => ?_)
      refine lv_iload_n hx hb dX11_lengths_8 rfl (lv_at hl 2 rfl) ?_
      refine lv_tableIn (off := 32) (tgt := 41) hx hb dX11_lengths_9 (by decide) (by decide) (by decide) (by decide) ?_
      refine lv_iload_n hx hb dX11_lengths_41 rfl (lv_at hl 0 rfl) ?_
      refine lv_if_ne (tgt := 49) hx hb dX11_lengths_42 (by decide) (fun _ => ?_) (fun h => absurd h (by decide))
      refine lv_iload_n hx hb dX11_lengths_49 rfl (lv_at hl 0 rfl) ?_
      refine zcall2 (va_runS (As := [.int 2147483647]) (rest := []) ⟨hx, hb, hml, hown, hts⟩ (c_J6_numberOfTrailingZeros_0f7a4 l D ct  H.size) (va_cwS 1 hts gX11_lengths_J6_numberOfTrailingZeros_0f7a4 rfl rfl rfl (by decide +kernel) ⟨Nat.le_of_ble_eq_true rfl, Nat.le_of_ble_eq_true rfl⟩) (zpreS hK hw hS hA zZ.nil hN [] rfl rfl) rfl rfl hl.1 rfl (lv_room (Nat.le_of_ble_eq_true rfl)) dX11_lengths_50 ⟨Nat.le_of_ble_eq_true rfl, Nat.le_of_ble_eq_true rfl⟩) hw hS hA [] [0, 1] rfl rfl rfl rfl (fun _ H locs hp7 hw hS => ?_)
      have hw : zPD D A [(h0, .inr (10, [.ref (x 1), .ref (x 3), .ref (x 15), .ref (x 27), .ref (x 28), .ref (x 32), .ref (x 36), .ref (x 37), .ref (x 48), .ref (x 54), .ref (x 60), .ref (x 61), .ref (x 68), .int 0, .int 0])), (x 60, .inr (6, [.int 2147483647, .int 0]))] H := hw
      refine zfr 53 [.int 0] rfl rfl ?_
      exact ziret hx hb hr (rfl) hlocks () (by decide) (trivial) hw [] rfl (rfl) hS (Nat.le_of_ble_eq_true rfl) (Nat.le_of_ble_eq_true rfl) dX11_lengths_53
    · obtain rfl : p1 = 2 := hxj4
      refine lv_aload_n hx hb dX11_lengths_0 rfl (lv_at hl 0 rfl) ?_
      refine va_get (D := D) (ci := 10) (v := .ref (x 60)) hx hb hts hiX11 hown hK hw.1 0 rfl rfl 10 (by decide) (hts (.fieldLink RX11 74 "BeardPass" "sightings" "LBeardPass$Sightings;") (by decide +kernel)) (fun _ h9 => h9) rfl dX11_lengths_1 ?_
      refine va_get (D := D) (ci := 6) (v := .int 2147483647) hx hb hts hiX6 hown hK hw.1 1 rfl rfl 0 (by decide) (hts (.fieldLink RX11 316 "BeardPass$Sightings" "possible" "I") (by decide +kernel)) (fun _ h9 => h9) rfl dX11_lengths_4 ?_
      refine lv_istore_n (lv' := [(2, .int 2147483647), (0, .ref h0), (1, .int 2)]) hx hb dX11_lengths_7 rfl hl (by decide) rfl (fun ls hl => ?_)
      refine lv_iload_n hx hb dX11_lengths_8 rfl (lv_at hl 2 rfl) ?_
      refine lv_tableIn (off := 45) (tgt := 54) hx hb dX11_lengths_9 (by decide) (by decide) (by decide) (by decide) ?_
      refine lv_iload_n hx hb dX11_lengths_54 rfl (lv_at hl 0 rfl) ?_
      refine lv_if_ne (tgt := 62) hx hb dX11_lengths_55 (by decide) (fun _ => ?_) (fun h => absurd h (by decide))
      refine lv_bipush (v := 31) hx hb dX11_lengths_62 (by decide) ?_
      refine lv_iload_n hx hb dX11_lengths_64 rfl (lv_at hl 0 rfl) ?_
      refine zcall2 (va_runS (As := [.int 2147483647]) (rest := [.int 31]) ⟨hx, hb, hml, hown, hts⟩ (c_J6_numberOfLeadingZeros_0f7a4 l D ct  H.size) (va_cwS 1 hts gX11_lengths_J6_numberOfLeadingZeros_0f7a4 rfl rfl rfl (by decide +kernel) ⟨Nat.le_of_ble_eq_true rfl, Nat.le_of_ble_eq_true rfl⟩) (zpreS hK hw hS hA zZ.nil hN [] rfl rfl) rfl rfl hl.1 rfl (lv_room (Nat.le_of_ble_eq_true rfl)) dX11_lengths_65 ⟨Nat.le_of_ble_eq_true rfl, Nat.le_of_ble_eq_true rfl⟩) hw hS hA [] [0, 1] rfl rfl rfl rfl (fun _ H locs hp9 hw hS => ?_)
      have hw : zPD D A [(h0, .inr (10, [.ref (x 1), .ref (x 3), .ref (x 15), .ref (x 27), .ref (x 28), .ref (x 32), .ref (x 36), .ref (x 37), .ref (x 48), .ref (x 54), .ref (x 60), .ref (x 61), .ref (x 68), .int 0, .int 0])), (x 60, .inr (6, [.int 2147483647, .int 0]))] H := hw
      refine zfr 68 [.int 1, .int 31] rfl rfl ?_
      refine lv_isub hx hb dX11_lengths_68 ?_
      refine ztop (.int 30) (congrArg Value.int (by decide)) ?_
      exact ziret hx hb hr (rfl) hlocks () (by decide) (trivial) hw [] rfl (rfl) hS (Nat.le_of_ble_eq_true rfl) (Nat.le_of_ble_eq_true rfl) dX11_lengths_69

set_option maxHeartbeats 4000000 in
set_option maxRecDepth 100000 in
/-- count on a new object -/
theorem k_count (l : Launch) (D : va_G) (ct : Nat → ClassId) (h0 : Nat) (x : Nat → Nat) (p1 : Int32) (eE : Nat)  : zC l yX11_count wsX11_count ({ frames := 2, cells := 0, slots := 0, locals := 120 }) D ct [] [.ref h0, .int p1] [(h0, .inr (10, [.ref (x 1), .ref (x 3), .ref (x 15), .ref (x 27), .ref (x 28), .ref (x 32), .ref (x 36), .ref (x 37), .ref (x 48), .ref (x 54), .ref (x 60), .ref (x 61), .ref (x 68), .int 0, .int 0])), (x 1, .inr (8, [.ref (x 2), .int 0, .int 0, .int 0, .ref eE, .int 0, .long 0, .int 0])), (x 3, .inr (2, [.ref (x 4), .ref (x 5), .ref (x 6), .ref (x 7), .ref (x 8), .ref (x 9), .ref (x 10), .ref (x 11), .ref (x 12), .int 0, .int 0, .int 1, .int 2])), (x 28, .inr (1, [.ref (x 29), .ref (x 30), .ref (x 31), .int 0])), (x 60, .inr (6, [.int 2147483647, .int 0])), (x 48, .inr (7, [.ref (x 49), .ref (x 50), .ref (x 51), .ref (x 52), .ref (x 53), .int 0])), (x 51, .inl (ct 0, 6, .inl (fun _ => 0))), (x 52, .inl (ct 0, 6, .inl (fun _ => 0)))] (S := Unit) (fun _ => some (.int (zct p1))) (fun _ => True) (fun _ => []) 0 0 := by
  refine zofW cX11_count 2 (some .int) (by decide) rfl (Nat.le_of_ble_eq_true rfl) ?_
  intro p e s m below meth c A hx hb hr hml hts hown hlocks hname hK hA hZ hN H locs hw hS ls hl
  have hown : s.vm.findClass RX11 = some m.cls := hown
  have hl : lv_has ls 2 [(0, .ref h0), (1, .int p1)] := hl
  have hiX1 : ∀ w ∈ wsX10, w ∈ wsX11_count := by decide +kernel
  have hiX11 : ∀ w ∈ wsX110, w ∈ wsX11_count := by decide +kernel
  have hiX2 : ∀ w ∈ wsX20, w ∈ wsX11_count := by decide +kernel
  have hiX6 : ∀ w ∈ wsX60, w ∈ wsX11_count := by decide +kernel
  have hiX8 : ∀ w ∈ wsX80, w ∈ wsX11_count := by decide +kernel
  have hiX9 : ∀ w ∈ wsX90, w ∈ wsX11_count := by decide +kernel
  by_cases c_1 : p1.toInt < 0 ∨ 11 < p1.toInt
  · refine lv_iload_n hx hb dX11_count_0 rfl (lv_at hl 1 rfl) ?_
    refine lv_tableOut (tgt := 172) hx hb dX11_count_1 c_1 (by decide) ?_
    refine lv_iconst (v := (-1)) hx hb dX11_count_172 (by decide) ?_
    exact ziret hx hb hr (rfl) hlocks () (by simp [zct, c_1]) (trivial) hw [] rfl (rfl) hS (Nat.le_of_ble_eq_true rfl) (Nat.le_of_ble_eq_true rfl) dX11_count_173
  · obtain ⟨j2, hj3, hxj4⟩ := zsw (lo := 0) (hi := 11) (k := 12) (by decide) (by decide) c_1
    rcases (show j2 = 0 ∨ j2 = 1 ∨ j2 = 2 ∨ j2 = 3 ∨ j2 = 4 ∨ j2 = 5 ∨ j2 = 6 ∨ j2 = 7 ∨ j2 = 8 ∨ j2 = 9 ∨ j2 = 10 ∨ j2 = 11 by omega) with rfl | rfl | rfl | rfl | rfl | rfl | rfl | rfl | rfl | rfl | rfl | rfl
    · obtain rfl : p1 = 0 := hxj4
      refine lv_iload_n hx hb dX11_count_0 rfl (lv_at hl 1 rfl) ?_
      refine lv_tableIn (off := 63) (tgt := 64) hx hb dX11_count_1 (by decide) (by decide) (by decide) (by decide) ?_
      refine lv_aload_n hx hb dX11_count_64 rfl (lv_at hl 0 rfl) ?_
      refine va_get (D := D) (ci := 10) (v := .ref (x 3)) hx hb hts hiX11 hown hK hw.1 0 rfl rfl 1 (by decide) (hts (.fieldLink RX11 19 "BeardPass" "told" "LBeardPass$Land;") (by decide +kernel)) (fun _ h9 => h9) rfl dX11_count_65 ?_
      refine va_get (D := D) (ci := 2) (v := .int 0) hx hb hts hiX2 hown hK hw.1 2 rfl rfl 9 (by decide) (hts (.fieldLink RX11 169 "BeardPass$Land" "towns" "I") (by decide +kernel)) (fun _ h9 => h9) rfl dX11_count_68 ?_
      exact ziret hx hb hr (rfl) hlocks () (by decide) (trivial) hw [] rfl (rfl) hS (Nat.le_of_ble_eq_true rfl) (Nat.le_of_ble_eq_true rfl) dX11_count_71
    · obtain rfl : p1 = 1 := hxj4
      refine lv_iload_n hx hb dX11_count_0 rfl (lv_at hl 1 rfl) ?_
      refine lv_tableIn (off := 71) (tgt := 72) hx hb dX11_count_1 (by decide) (by decide) (by decide) (by decide) ?_
      refine lv_aload_n hx hb dX11_count_72 rfl (lv_at hl 0 rfl) ?_
      refine va_get (D := D) (ci := 10) (v := .ref (x 3)) hx hb hts hiX11 hown hK hw.1 0 rfl rfl 1 (by decide) (hts (.fieldLink RX11 19 "BeardPass" "told" "LBeardPass$Land;") (by decide +kernel)) (fun _ h9 => h9) rfl dX11_count_73 ?_
      refine va_get (D := D) (ci := 2) (v := .int 0) hx hb hts hiX2 hown hK hw.1 2 rfl rfl 10 (by decide) (hts (.fieldLink RX11 172 "BeardPass$Land" "persons" "I") (by decide +kernel)) (fun _ h9 => h9) rfl dX11_count_76 ?_
      exact ziret hx hb hr (rfl) hlocks () (by decide) (trivial) hw [] rfl (rfl) hS (Nat.le_of_ble_eq_true rfl) (Nat.le_of_ble_eq_true rfl) dX11_count_79
    · obtain rfl : p1 = 2 := hxj4
      refine lv_iload_n hx hb dX11_count_0 rfl (lv_at hl 1 rfl) ?_
      refine lv_tableIn (off := 79) (tgt := 80) hx hb dX11_count_1 (by decide) (by decide) (by decide) (by decide) ?_
      refine lv_aload_n hx hb dX11_count_80 rfl (lv_at hl 0 rfl) ?_
      refine va_get (D := D) (ci := 10) (v := .ref (x 3)) hx hb hts hiX11 hown hK hw.1 0 rfl rfl 1 (by decide) (hts (.fieldLink RX11 19 "BeardPass" "told" "LBeardPass$Land;") (by decide +kernel)) (fun _ h9 => h9) rfl dX11_count_81 ?_
      refine va_get (D := D) (ci := 2) (v := .int 1) hx hb hts hiX2 hown hK hw.1 2 rfl rfl 11 (by decide) (hts (.fieldLink RX11 175 "BeardPass$Land" "grows" "I") (by decide +kernel)) (fun _ h9 => h9) rfl dX11_count_84 ?_
      exact ziret hx hb hr (rfl) hlocks () (by decide) (trivial) hw [] rfl (rfl) hS (Nat.le_of_ble_eq_true rfl) (Nat.le_of_ble_eq_true rfl) dX11_count_87
    · obtain rfl : p1 = 3 := hxj4
      refine lv_iload_n hx hb dX11_count_0 rfl (lv_at hl 1 rfl) ?_
      refine lv_tableIn (off := 87) (tgt := 88) hx hb dX11_count_1 (by decide) (by decide) (by decide) (by decide) ?_
      refine lv_aload_n hx hb dX11_count_88 rfl (lv_at hl 0 rfl) ?_
      refine va_get (D := D) (ci := 10) (v := .ref (x 3)) hx hb hts hiX11 hown hK hw.1 0 rfl rfl 1 (by decide) (hts (.fieldLink RX11 19 "BeardPass" "told" "LBeardPass$Land;") (by decide +kernel)) (fun _ h9 => h9) rfl dX11_count_89 ?_
      refine va_get (D := D) (ci := 2) (v := .int 2) hx hb hts hiX2 hown hK hw.1 2 rfl rfl 12 (by decide) (hts (.fieldLink RX11 178 "BeardPass$Land" "inch" "I") (by decide +kernel)) (fun _ h9 => h9) rfl dX11_count_92 ?_
      exact ziret hx hb hr (rfl) hlocks () (by decide) (trivial) hw [] rfl (rfl) hS (Nat.le_of_ble_eq_true rfl) (Nat.le_of_ble_eq_true rfl) dX11_count_95
    · obtain rfl : p1 = 4 := hxj4
      refine lv_iload_n hx hb dX11_count_0 rfl (lv_at hl 1 rfl) ?_
      refine lv_tableIn (off := 95) (tgt := 96) hx hb dX11_count_1 (by decide) (by decide) (by decide) (by decide) ?_
      refine lv_aload_n hx hb dX11_count_96 rfl (lv_at hl 0 rfl) ?_
      refine va_get (D := D) (ci := 10) (v := .ref (x 48)) hx hb hts hiX11 hown hK hw.1 0 rfl rfl 8 (by decide) (hts (.fieldLink RX11 64 "BeardPass" "now" "LBeardPass$Standing;") (by decide +kernel)) (fun _ h9 => h9) rfl dX11_count_97 ?_
      refine va_get (D := D) (ci := 7) (v := .int 0) hx hb hts hiX8 hown hK hw.1 5 rfl rfl 5 (by decide) (hts (.fieldLink RX11 181 "BeardPass$Standing" "weeks" "I") (by decide +kernel)) (fun _ h9 => h9) rfl dX11_count_100 ?_
      exact ziret hx hb hr (rfl) hlocks () (by decide) (trivial) hw [] rfl (rfl) hS (Nat.le_of_ble_eq_true rfl) (Nat.le_of_ble_eq_true rfl) dX11_count_103
    · obtain rfl : p1 = 5 := hxj4
      refine lv_iload_n hx hb dX11_count_0 rfl (lv_at hl 1 rfl) ?_
      refine lv_tableIn (off := 103) (tgt := 104) hx hb dX11_count_1 (by decide) (by decide) (by decide) (by decide) ?_
      refine lv_aload_n hx hb dX11_count_104 rfl (lv_at hl 0 rfl) ?_
      refine va_get (D := D) (ci := 10) (v := .ref (x 48)) hx hb hts hiX11 hown hK hw.1 0 rfl rfl 8 (by decide) (hts (.fieldLink RX11 64 "BeardPass" "now" "LBeardPass$Standing;") (by decide +kernel)) (fun _ h9 => h9) rfl dX11_count_105 ?_
      refine lv_aload_n hx hb dX11_count_108 rfl (lv_at hl 0 rfl) ?_
      refine va_get (D := D) (ci := 10) (v := .ref (x 3)) hx hb hts hiX11 hown hK hw.1 0 rfl rfl 1 (by decide) (hts (.fieldLink RX11 19 "BeardPass" "told" "LBeardPass$Land;") (by decide +kernel)) (fun _ h9 => h9) rfl dX11_count_109 ?_
      refine va_get (D := D) (ci := 2) (v := .int 0) hx hb hts hiX2 hown hK hw.1 2 rfl rfl 10 (by decide) (hts (.fieldLink RX11 172 "BeardPass$Land" "persons" "I") (by decide +kernel)) (fun _ h9 => h9) rfl dX11_count_112 ?_
      refine zcall2 (va_runV (As := [.int 0]) (rest := []) ⟨hx, hb, hml, hown, hts⟩ (c_X8_peopled l D ct (x 48) (x 49) (x 50) (x 51) (x 52) (x 53) 0 H.size) (cwV 1 hts gX11_count_X8_peopled rfl rfl rfl (by decide +kernel) ⟨Nat.le_of_ble_eq_true rfl, Nat.le_of_ble_eq_true rfl⟩) (zpreV hK hw hS hA zZ.nil hN [5] rfl rfl 7 5 rfl rfl) rfl rfl hl.1 rfl (lv_room (Nat.le_of_ble_eq_true rfl)) dX11_count_115 ⟨Nat.le_of_ble_eq_true rfl, Nat.le_of_ble_eq_true rfl⟩) hw hS hA [5] [0, 1, 2, 3, 4, 6, 7] rfl rfl rfl rfl (fun _ H locs hp5 hw hS => ?_)
      have hw : zPD D A [(h0, .inr (10, [.ref (x 1), .ref (x 3), .ref (x 15), .ref (x 27), .ref (x 28), .ref (x 32), .ref (x 36), .ref (x 37), .ref (x 48), .ref (x 54), .ref (x 60), .ref (x 61), .ref (x 68), .int 0, .int 0])), (x 1, .inr (8, [.ref (x 2), .int 0, .int 0, .int 0, .ref eE, .int 0, .long 0, .int 0])), (x 3, .inr (2, [.ref (x 4), .ref (x 5), .ref (x 6), .ref (x 7), .ref (x 8), .ref (x 9), .ref (x 10), .ref (x 11), .ref (x 12), .int 0, .int 0, .int 1, .int 2])), (x 28, .inr (1, [.ref (x 29), .ref (x 30), .ref (x 31), .int 0])), (x 60, .inr (6, [.int 2147483647, .int 0])), (x 51, .inl (ct 0, 6, .inl (fun _ => 0))), (x 52, .inl (ct 0, 6, .inl (fun _ => 0))), (x 48, .inr (7, [.ref (x 49), .ref (x 50), .ref (x 51), .ref (x 52), .ref (x 53), .int 0]))] H := hw
      refine zfr 118 [.int 0] rfl rfl ?_
      exact ziret hx hb hr (rfl) hlocks () (by decide) (trivial) hw [] rfl (rfl) hS (Nat.le_of_ble_eq_true rfl) (Nat.le_of_ble_eq_true rfl) dX11_count_118
    · obtain rfl : p1 = 6 := hxj4
      refine lv_iload_n hx hb dX11_count_0 rfl (lv_at hl 1 rfl) ?_
      refine lv_tableIn (off := 118) (tgt := 119) hx hb dX11_count_1 (by decide) (by decide) (by decide) (by decide) ?_
      refine lv_aload_n hx hb dX11_count_119 rfl (lv_at hl 0 rfl) ?_
      refine lv_aload_n hx hb dX11_count_120 rfl (lv_at hl 0 rfl) ?_
      refine va_get (D := D) (ci := 10) (v := .ref (x 48)) hx hb hts hiX11 hown hK hw.1 0 rfl rfl 8 (by decide) (hts (.fieldLink RX11 64 "BeardPass" "now" "LBeardPass$Standing;") (by decide +kernel)) (fun _ h9 => h9) rfl dX11_count_121 ?_
      refine va_get (D := D) (ci := 7) (v := .ref (x 51)) hx hb hts hiX8 hown hK hw.1 5 rfl rfl 2 (by decide) (hts (.fieldLink RX11 147 "BeardPass$Standing" "forged" "[I") (by decide +kernel)) (fun _ h9 => h9) rfl dX11_count_124 ?_
      refine zcall2 (va_runV (As := [.ref (x 51)]) (rest := []) ⟨hx, hb, hml, hown, hts⟩ (c_sum11 l D ct h0 x (x 51) H.size) (cwV 1 hts gX11_count_X11_sum rfl rfl rfl (by decide +kernel) ⟨Nat.le_of_ble_eq_true rfl, Nat.le_of_ble_eq_true rfl⟩) (zpreV hK hw hS hA zZ.nil hN [0, 2] rfl rfl 10 0 rfl rfl) rfl rfl hl.1 rfl (lv_room (Nat.le_of_ble_eq_true rfl)) dX11_count_127 ⟨Nat.le_of_ble_eq_true rfl, Nat.le_of_ble_eq_true rfl⟩) hw hS hA [0, 2] [1, 3, 4, 5, 6, 7] rfl rfl rfl rfl (fun _ H locs hp6 hw hS => ?_)
      have hw : zPD D A [(x 1, .inr (8, [.ref (x 2), .int 0, .int 0, .int 0, .ref eE, .int 0, .long 0, .int 0])), (x 28, .inr (1, [.ref (x 29), .ref (x 30), .ref (x 31), .int 0])), (x 60, .inr (6, [.int 2147483647, .int 0])), (x 48, .inr (7, [.ref (x 49), .ref (x 50), .ref (x 51), .ref (x 52), .ref (x 53), .int 0])), (x 51, .inl (ct 0, 6, .inl (fun _ => 0))), (x 52, .inl (ct 0, 6, .inl (fun _ => 0))), (h0, .inr (10, [.ref (x 1), .ref (x 3), .ref (x 15), .ref (x 27), .ref (x 28), .ref (x 32), .ref (x 36), .ref (x 37), .ref (x 48), .ref (x 54), .ref (x 60), .ref (x 61), .ref (x 68), .int 0, .int 0])), (x 3, .inr (2, [.ref (x 4), .ref (x 5), .ref (x 6), .ref (x 7), .ref (x 8), .ref (x 9), .ref (x 10), .ref (x 11), .ref (x 12), .int 0, .int 0, .int 1, .int 2]))] H := hw
      refine zfr 130 [.int 0] rfl rfl ?_
      exact ziret hx hb hr (rfl) hlocks () (by decide) (trivial) hw [] rfl (rfl) hS (Nat.le_of_ble_eq_true rfl) (Nat.le_of_ble_eq_true rfl) dX11_count_130
    · obtain rfl : p1 = 7 := hxj4
      refine lv_iload_n hx hb dX11_count_0 rfl (lv_at hl 1 rfl) ?_
      refine lv_tableIn (off := 130) (tgt := 131) hx hb dX11_count_1 (by decide) (by decide) (by decide) (by decide) ?_
      refine lv_aload_n hx hb dX11_count_131 rfl (lv_at hl 0 rfl) ?_
      refine lv_aload_n hx hb dX11_count_132 rfl (lv_at hl 0 rfl) ?_
      refine va_get (D := D) (ci := 10) (v := .ref (x 48)) hx hb hts hiX11 hown hK hw.1 0 rfl rfl 8 (by decide) (hts (.fieldLink RX11 64 "BeardPass" "now" "LBeardPass$Standing;") (by decide +kernel)) (fun _ h9 => h9) rfl dX11_count_133 ?_
      refine va_get (D := D) (ci := 7) (v := .ref (x 52)) hx hb hts hiX8 hown hK hw.1 5 rfl rfl 3 (by decide) (hts (.fieldLink RX11 150 "BeardPass$Standing" "purses" "[I") (by decide +kernel)) (fun _ h9 => h9) rfl dX11_count_136 ?_
      refine zcall2 (va_runV (As := [.ref (x 52)]) (rest := []) ⟨hx, hb, hml, hown, hts⟩ (c_sum11 l D ct h0 x (x 52) H.size) (cwV 1 hts gX11_count_X11_sum rfl rfl rfl (by decide +kernel) ⟨Nat.le_of_ble_eq_true rfl, Nat.le_of_ble_eq_true rfl⟩) (zpreV hK hw hS hA zZ.nil hN [0, 2] rfl rfl 10 0 rfl rfl) rfl rfl hl.1 rfl (lv_room (Nat.le_of_ble_eq_true rfl)) dX11_count_139 ⟨Nat.le_of_ble_eq_true rfl, Nat.le_of_ble_eq_true rfl⟩) hw hS hA [0, 2] [1, 3, 4, 5, 6, 7] rfl rfl rfl rfl (fun _ H locs hp7 hw hS => ?_)
      have hw : zPD D A [(x 1, .inr (8, [.ref (x 2), .int 0, .int 0, .int 0, .ref eE, .int 0, .long 0, .int 0])), (x 28, .inr (1, [.ref (x 29), .ref (x 30), .ref (x 31), .int 0])), (x 60, .inr (6, [.int 2147483647, .int 0])), (x 48, .inr (7, [.ref (x 49), .ref (x 50), .ref (x 51), .ref (x 52), .ref (x 53), .int 0])), (x 51, .inl (ct 0, 6, .inl (fun _ => 0))), (x 52, .inl (ct 0, 6, .inl (fun _ => 0))), (h0, .inr (10, [.ref (x 1), .ref (x 3), .ref (x 15), .ref (x 27), .ref (x 28), .ref (x 32), .ref (x 36), .ref (x 37), .ref (x 48), .ref (x 54), .ref (x 60), .ref (x 61), .ref (x 68), .int 0, .int 0])), (x 3, .inr (2, [.ref (x 4), .ref (x 5), .ref (x 6), .ref (x 7), .ref (x 8), .ref (x 9), .ref (x 10), .ref (x 11), .ref (x 12), .int 0, .int 0, .int 1, .int 2]))] H := hw
      refine zfr 142 [.int 0] rfl rfl ?_
      exact ziret hx hb hr (rfl) hlocks () (by decide) (trivial) hw [] rfl (rfl) hS (Nat.le_of_ble_eq_true rfl) (Nat.le_of_ble_eq_true rfl) dX11_count_142
    · obtain rfl : p1 = 8 := hxj4
      refine lv_iload_n hx hb dX11_count_0 rfl (lv_at hl 1 rfl) ?_
      refine lv_tableIn (off := 142) (tgt := 143) hx hb dX11_count_1 (by decide) (by decide) (by decide) (by decide) ?_
      refine lv_aload_n hx hb dX11_count_143 rfl (lv_at hl 0 rfl) ?_
      refine va_get (D := D) (ci := 10) (v := .ref (x 28)) hx hb hts hiX11 hown hK hw.1 0 rfl rfl 4 (by decide) (hts (.fieldLink RX11 36 "BeardPass" "plan" "LBeardPass$Journey;") (by decide +kernel)) (fun _ h9 => h9) rfl dX11_count_144 ?_
      refine va_get (D := D) (ci := 1) (v := .int 0) hx hb hts hiX1 hown hK hw.1 3 rfl rfl 3 (by decide) (hts (.fieldLink RX11 116 "BeardPass$Journey" "lines" "I") (by decide +kernel)) (fun _ h9 => h9) rfl dX11_count_147 ?_
      exact ziret hx hb hr (rfl) hlocks () (by decide) (trivial) hw [] rfl (rfl) hS (Nat.le_of_ble_eq_true rfl) (Nat.le_of_ble_eq_true rfl) dX11_count_150
    · obtain rfl : p1 = 9 := hxj4
      refine lv_iload_n hx hb dX11_count_0 rfl (lv_at hl 1 rfl) ?_
      refine lv_tableIn (off := 150) (tgt := 151) hx hb dX11_count_1 (by decide) (by decide) (by decide) (by decide) ?_
      refine lv_aload_n hx hb dX11_count_151 rfl (lv_at hl 0 rfl) ?_
      refine va_get (D := D) (ci := 10) (v := .ref (x 60)) hx hb hts hiX11 hown hK hw.1 0 rfl rfl 10 (by decide) (hts (.fieldLink RX11 74 "BeardPass" "sightings" "LBeardPass$Sightings;") (by decide +kernel)) (fun _ h9 => h9) rfl dX11_count_152 ?_
      refine va_get (D := D) (ci := 6) (v := .int 0) hx hb hts hiX6 hown hK hw.1 4 rfl rfl 1 (by decide) (hts (.fieldLink RX11 192 "BeardPass$Sightings" "many" "I") (by decide +kernel)) (fun _ h9 => h9) rfl dX11_count_155 ?_
      exact ziret hx hb hr (rfl) hlocks () (by decide) (trivial) hw [] rfl (rfl) hS (Nat.le_of_ble_eq_true rfl) (Nat.le_of_ble_eq_true rfl) dX11_count_158
    · obtain rfl : p1 = 10 := hxj4
      refine lv_iload_n hx hb dX11_count_0 rfl (lv_at hl 1 rfl) ?_
      refine lv_tableIn (off := 158) (tgt := 159) hx hb dX11_count_1 (by decide) (by decide) (by decide) (by decide) ?_
      refine lv_aload_n hx hb dX11_count_159 rfl (lv_at hl 0 rfl) ?_
      refine va_get (D := D) (ci := 10) (v := .int 0) hx hb hts hiX11 hown hK hw.1 0 rfl rfl 14 (by decide) (hts (.fieldLink RX11 92 "BeardPass" "pastCount" "I") (by decide +kernel)) (fun _ h9 => h9) rfl dX11_count_160 ?_
      exact ziret hx hb hr (rfl) hlocks () (by decide) (trivial) hw [] rfl (rfl) hS (Nat.le_of_ble_eq_true rfl) (Nat.le_of_ble_eq_true rfl) dX11_count_163
    · obtain rfl : p1 = 11 := hxj4
      refine lv_iload_n hx hb dX11_count_0 rfl (lv_at hl 1 rfl) ?_
      refine lv_tableIn (off := 163) (tgt := 164) hx hb dX11_count_1 (by decide) (by decide) (by decide) (by decide) ?_
      refine lv_aload_n hx hb dX11_count_164 rfl (lv_at hl 0 rfl) ?_
      refine va_get (D := D) (ci := 10) (v := .ref (x 1)) hx hb hts hiX11 hown hK hw.1 0 rfl rfl 0 (by decide) (hts (.fieldLink RX11 10 "BeardPass" "tape" "LBeardPass$Tape;") (by decide +kernel)) (fun _ h9 => h9) rfl dX11_count_165 ?_
      refine va_get (D := D) (ci := 8) (v := .int 0) hx hb hts hiX9 hown hK hw.1 1 rfl rfl 1 (by decide) (hts (.fieldLink RX11 100 "BeardPass$Tape" "length" "I") (by decide +kernel)) (fun _ h9 => h9) rfl dX11_count_168 ?_
      exact ziret hx hb hr (rfl) hlocks () (by decide) (trivial) hw [] rfl (rfl) hS (Nat.le_of_ble_eq_true rfl) (Nat.le_of_ble_eq_true rfl) dX11_count_171

set_option maxHeartbeats 4000000 in
set_option maxRecDepth 100000 in
/-- ask on a new object -/
theorem k_ask (l : Launch) (D : va_G) (ct : Nat → ClassId) (h0 : Nat) (x : Nat → Nat)  : zC l yX11_ask wsX11_ask ({ frames := 2, cells := 0, slots := 0, locals := 120 }) D ct [] [.ref h0] [(h0, .inr (10, [.ref (x 1), .ref (x 3), .ref (x 15), .ref (x 27), .ref (x 28), .ref (x 32), .ref (x 36), .ref (x 37), .ref (x 48), .ref (x 54), .ref (x 60), .ref (x 61), .ref (x 68), .int 0, .int 0])), (x 3, .inr (2, [.ref (x 4), .ref (x 5), .ref (x 6), .ref (x 7), .ref (x 8), .ref (x 9), .ref (x 10), .ref (x 11), .ref (x 12), .int 0, .int 0, .int 1, .int 2])), (x 60, .inr (6, [.int 2147483647, .int 0]))] (S := Unit) (fun _ => some (.int (-1))) (fun _ => True) (fun _ => []) 0 0 := by
  refine zofW cX11_ask 8 (some .int) (by decide) rfl (Nat.le_of_ble_eq_true rfl) ?_
  intro p e s m below meth c A hx hb hr hml hts hown hlocks hname hK hA hZ hN H locs hw hS ls hl
  have hown : s.vm.findClass RX11 = some m.cls := hown
  have hl : lv_has ls 8 [(0, .ref h0)] := hl
  have hiX11 : ∀ w ∈ wsX110, w ∈ wsX11_ask := by decide +kernel
  have hiX2 : ∀ w ∈ wsX20, w ∈ wsX11_ask := by decide +kernel
  have hiX6 : ∀ w ∈ wsX60, w ∈ wsX11_ask := by decide +kernel
  refine lv_aload_n hx hb dX11_ask_0 rfl (lv_at hl 0 rfl) ?_
  refine va_get (D := D) (ci := 10) (v := .ref (x 60)) hx hb hts hiX11 hown hK hw.1 0 rfl rfl 10 (by decide) (hts (.fieldLink RX11 74 "BeardPass" "sightings" "LBeardPass$Sightings;") (by decide +kernel)) (fun _ h9 => h9) rfl dX11_ask_1 ?_
  refine va_get (D := D) (ci := 6) (v := .int 2147483647) hx hb hts hiX6 hown hK hw.1 2 rfl rfl 0 (by decide) (hts (.fieldLink RX11 316 "BeardPass$Sightings" "possible" "I") (by decide +kernel)) (fun _ h9 => h9) rfl dX11_ask_4 ?_
  refine lv_istore_n (lv' := [(1, .int 2147483647), (0, .ref h0)]) hx hb dX11_ask_7 rfl hl (by decide) rfl (fun ls hl => ?_)
  refine lv_iload_n hx hb dX11_ask_8 rfl (lv_at hl 0 rfl) ?_
  refine zcall2 (va_runS (As := [.int 2147483647]) (rest := []) ⟨hx, hb, hml, hown, hts⟩ (c_J6_bitCount_0f7a4 l D ct  H.size) (va_cwS 1 hts gX11_ask_J6_bitCount_0f7a4 rfl rfl rfl (by decide +kernel) ⟨Nat.le_of_ble_eq_true rfl, Nat.le_of_ble_eq_true rfl⟩) (zpreS hK hw hS hA zZ.nil hN [] rfl rfl) rfl rfl hl.1 rfl (lv_room (Nat.le_of_ble_eq_true rfl)) dX11_ask_9 ⟨Nat.le_of_ble_eq_true rfl, Nat.le_of_ble_eq_true rfl⟩) hw hS hA [] [0, 1, 2] rfl rfl rfl rfl (fun _ H locs hp1 hw hS => ?_)
  have hw : zPD D A [(h0, .inr (10, [.ref (x 1), .ref (x 3), .ref (x 15), .ref (x 27), .ref (x 28), .ref (x 32), .ref (x 36), .ref (x 37), .ref (x 48), .ref (x 54), .ref (x 60), .ref (x 61), .ref (x 68), .int 0, .int 0])), (x 3, .inr (2, [.ref (x 4), .ref (x 5), .ref (x 6), .ref (x 7), .ref (x 8), .ref (x 9), .ref (x 10), .ref (x 11), .ref (x 12), .int 0, .int 0, .int 1, .int 2])), (x 60, .inr (6, [.int 2147483647, .int 0]))] H := hw
  refine zfr 12 [.int 31] rfl rfl ?_
  refine lv_istore_n (lv' := [(2, .int 31), (1, .int 2147483647), (0, .ref h0)]) hx hb dX11_ask_12 rfl hl (by decide) rfl (fun ls hl => ?_)
  refine lv_iconst (v := (-1)) hx hb dX11_ask_13 (by decide) ?_
  refine lv_istore_n (lv' := [(3, .int (-1)), (2, .int 31), (1, .int 2147483647), (0, .ref h0)]) hx hb dX11_ask_14 rfl hl (by decide) rfl (fun ls hl => ?_)
  refine lv_iload_n hx hb dX11_ask_15 rfl (lv_at hl 1 rfl) ?_
  refine lv_istore (lv' := [(4, .int 31), (3, .int (-1)), (2, .int 31), (1, .int 2147483647), (0, .ref h0)]) hx hb dX11_ask_16 hl (by decide) rfl (fun ls hl => ?_)
  refine lv_iconst (v := 0) hx hb dX11_ask_18 (by decide) ?_
  refine lv_istore (lv' := [(5, .int 0), (4, .int 31), (3, .int (-1)), (2, .int 31), (1, .int 2147483647), (0, .ref h0)]) hx hb dX11_ask_19 hl (by decide) rfl (fun ls hl => ?_)
  refine lv_iload hx hb dX11_ask_21 (lv_at hl 0 rfl) ?_
  refine lv_aload_n hx hb dX11_ask_23 rfl (lv_at hl 5 rfl) ?_
  refine va_get (D := D) (ci := 10) (v := .ref (x 3)) hx hb hts hiX11 hown hK hw.1 0 rfl rfl 1 (by decide) (hts (.fieldLink RX11 19 "BeardPass" "told" "LBeardPass$Land;") (by decide +kernel)) (fun _ h9 => h9) rfl dX11_ask_24 ?_
  refine va_get (D := D) (ci := 2) (v := .int 0) hx hb hts hiX2 hown hK hw.1 1 rfl rfl 9 (by decide) (hts (.fieldLink RX11 169 "BeardPass$Land" "towns" "I") (by decide +kernel)) (fun _ h9 => h9) rfl dX11_ask_27 ?_
  refine lv_icmp_ge (tgt := 87) hx hb dX11_ask_30 (by decide) (fun _ => ?_) (fun h => absurd (by decide) h)
  refine lv_iload_n hx hb dX11_ask_87 rfl (lv_at hl 2 rfl) ?_
  exact ziret hx hb hr (rfl) hlocks () (rfl) (trivial) hw [] rfl (rfl) hS (Nat.le_of_ble_eq_true rfl) (Nat.le_of_ble_eq_true rfl) dX11_ask_88

set_option maxHeartbeats 4000000 in
set_option maxRecDepth 100000 in
/-- meeting on a new object -/
theorem k_meeting (l : Launch) (D : va_G) (ct : Nat → ClassId) (h0 : Nat) (x : Nat → Nat) (p1 : Int32)  : zC l yX11_meeting wsX11_meeting ({ frames := 2, cells := 0, slots := 0, locals := 120 }) D ct [] [.ref h0, .int p1] [(h0, .inr (10, [.ref (x 1), .ref (x 3), .ref (x 15), .ref (x 27), .ref (x 28), .ref (x 32), .ref (x 36), .ref (x 37), .ref (x 48), .ref (x 54), .ref (x 60), .ref (x 61), .ref (x 68), .int 0, .int 0])), (x 3, .inr (2, [.ref (x 4), .ref (x 5), .ref (x 6), .ref (x 7), .ref (x 8), .ref (x 9), .ref (x 10), .ref (x 11), .ref (x 12), .int 0, .int 0, .int 1, .int 2])), (x 37, .inr (9, [.ref (x 3), .ref (x 36), .ref (x 38), .ref (x 44), .ref (x 45), .ref (x 46), .ref (x 47)])), (x 47, .inl (ct 0, 6, .inl (fun _ => 0)))] (S := Unit) (fun _ => some (.int (-1))) (fun _ => True) (fun _ => []) 0 0 := by
  refine zofW cX11_meeting 5 (some .int) (by decide) rfl (Nat.le_of_ble_eq_true rfl) ?_
  intro p e s m below meth c A hx hb hr hml hts hown hlocks hname hK hA hZ hN H locs hw hS ls hl
  have hown : s.vm.findClass RX11 = some m.cls := hown
  have hl : lv_has ls 5 [(0, .ref h0), (1, .int p1)] := hl
  have hiX10 : ∀ w ∈ wsX100, w ∈ wsX11_meeting := by decide +kernel
  have hiX11 : ∀ w ∈ wsX110, w ∈ wsX11_meeting := by decide +kernel
  have hiX2 : ∀ w ∈ wsX20, w ∈ wsX11_meeting := by decide +kernel
  refine lv_iload_n hx hb dX11_meeting_0 rfl (lv_at hl 1 rfl) ?_
  refine lv_if_eq (tgt := 11) hx hb dX11_meeting_1 (by decide) (fun c_1 => ?_) (fun c_1 => ?_)
  · refine lv_aload_n hx hb dX11_meeting_11 rfl (lv_at hl 0 rfl) ?_
    refine va_get (D := D) (ci := 10) (v := .ref (x 37)) hx hb hts hiX11 hown hK hw.1 0 rfl rfl 7 (by decide) (hts (.fieldLink RX11 57 "BeardPass" "ways" "LBeardPass$Ways;") (by decide +kernel)) (fun _ h9 => h9) rfl dX11_meeting_12 ?_
    refine va_get (D := D) (ci := 9) (v := .ref (x 47)) hx hb hts hiX10 hown hK hw.1 2 rfl rfl 6 (by decide) (hts (.fieldLink RX11 287 "BeardPass$Ways" "latest" "[I") (by decide +kernel)) (fun _ h9 => h9) rfl dX11_meeting_15 ?_
    refine lv_iconst (v := 0) hx hb dX11_meeting_18 (by decide) ?_
    refine zcall2 (va_runS (As := [.ref (x 47), .int 0]) (rest := []) ⟨hx, hb, hml, hown, hts⟩ (c_fill l D ct (x 47) 0 6 (fun _ => 0) (by decide) H.size) (va_cwS 2 hts gX11_meeting_J7_fill_53178 rfl rfl rfl (by decide +kernel) ⟨Nat.le_of_ble_eq_true rfl, Nat.le_of_ble_eq_true rfl⟩) (zpreS hK hw hS hA zZ.nil hN [3] rfl rfl) rfl rfl hl.1 rfl (lv_room (Nat.le_of_ble_eq_true rfl)) dX11_meeting_19 ⟨Nat.le_of_ble_eq_true rfl, Nat.le_of_ble_eq_true rfl⟩) hw hS hA [3] [0, 1, 2] rfl rfl rfl rfl (fun _ H locs hp2 hw hS => ?_)
    have hw : zPD D A [(h0, .inr (10, [.ref (x 1), .ref (x 3), .ref (x 15), .ref (x 27), .ref (x 28), .ref (x 32), .ref (x 36), .ref (x 37), .ref (x 48), .ref (x 54), .ref (x 60), .ref (x 61), .ref (x 68), .int 0, .int 0])), (x 3, .inr (2, [.ref (x 4), .ref (x 5), .ref (x 6), .ref (x 7), .ref (x 8), .ref (x 9), .ref (x 10), .ref (x 11), .ref (x 12), .int 0, .int 0, .int 1, .int 2])), (x 37, .inr (9, [.ref (x 3), .ref (x 36), .ref (x 38), .ref (x 44), .ref (x 45), .ref (x 46), .ref (x 47)])), (x 47, .inl (ct 0, 6, .inl (zfl (fun _ => 0) 0 6)))] H := hw
    refine zfr 22 [] rfl rfl ?_
    refine lv_iconst (v := 0) hx hb dX11_meeting_22 (by decide) ?_
    refine lv_istore_n (lv' := [(2, .int 0), (0, .ref h0), (1, .int p1)]) hx hb dX11_meeting_23 rfl hl (by decide) rfl (fun ls hl => ?_)
    refine lv_iload_n hx hb dX11_meeting_24 rfl (lv_at hl 0 rfl) ?_
    refine lv_aload_n hx hb dX11_meeting_25 rfl (lv_at hl 1 rfl) ?_
    refine va_get (D := D) (ci := 10) (v := .ref (x 3)) hx hb hts hiX11 hown hK hw.1 0 rfl rfl 1 (by decide) (hts (.fieldLink RX11 19 "BeardPass" "told" "LBeardPass$Land;") (by decide +kernel)) (fun _ h9 => h9) rfl dX11_meeting_26 ?_
    refine va_get (D := D) (ci := 2) (v := .int 0) hx hb hts hiX2 hown hK hw.1 1 rfl rfl 10 (by decide) (hts (.fieldLink RX11 172 "BeardPass$Land" "persons" "I") (by decide +kernel)) (fun _ h9 => h9) rfl dX11_meeting_29 ?_
    refine lv_icmp_ge (tgt := 67) hx hb dX11_meeting_32 (by decide) (fun _ => ?_) (fun h => absurd (by decide) h)
    refine lv_iconst (v := (-1)) hx hb dX11_meeting_67 (by decide) ?_
    refine lv_istore_n (lv' := [(2, .int (-1)), (0, .ref h0), (1, .int p1)]) hx hb dX11_meeting_68 rfl hl (by decide) rfl (fun ls hl => ?_)
    refine lv_iconst (v := 0) hx hb dX11_meeting_69 (by decide) ?_
    refine lv_istore_n (lv' := [(3, .int 0), (2, .int (-1)), (0, .ref h0), (1, .int p1)]) hx hb dX11_meeting_70 rfl hl (by decide) rfl (fun ls hl => ?_)
    refine lv_iload_n hx hb dX11_meeting_71 rfl (lv_at hl 0 rfl) ?_
    refine lv_aload_n hx hb dX11_meeting_72 rfl (lv_at hl 2 rfl) ?_
    refine va_get (D := D) (ci := 10) (v := .ref (x 3)) hx hb hts hiX11 hown hK hw.1 0 rfl rfl 1 (by decide) (hts (.fieldLink RX11 19 "BeardPass" "told" "LBeardPass$Land;") (by decide +kernel)) (fun _ h9 => h9) rfl dX11_meeting_73 ?_
    refine va_get (D := D) (ci := 2) (v := .int 0) hx hb hts hiX2 hown hK hw.1 1 rfl rfl 9 (by decide) (hts (.fieldLink RX11 169 "BeardPass$Land" "towns" "I") (by decide +kernel)) (fun _ h9 => h9) rfl dX11_meeting_76 ?_
    refine lv_icmp_ge (tgt := 126) hx hb dX11_meeting_79 (by decide) (fun _ => ?_) (fun h => absurd (by decide) h)
    refine lv_iload_n hx hb dX11_meeting_126 rfl (lv_at hl 1 rfl) ?_
    refine lv_iconst (v := (-1)) hx hb dX11_meeting_127 (by decide) ?_
    refine lv_icmp_eq (tgt := 136) hx hb dX11_meeting_128 (by decide) (fun _ => ?_) (fun h => absurd (by decide) h)
    refine lv_iload_n hx hb dX11_meeting_136 rfl (lv_at hl 1 rfl) ?_
    refine lv_goto (tgt := 149) hx hb dX11_meeting_137 (by decide) ?_
    exact ziret hx hb hr (rfl) hlocks () (rfl) (trivial) hw [] rfl (rfl) hS (Nat.le_of_ble_eq_true rfl) (Nat.le_of_ble_eq_true rfl) dX11_meeting_149
  · refine lv_iload_n hx hb dX11_meeting_4 rfl (lv_at hl 1 rfl) ?_
    refine lv_iconst (v := 1) hx hb dX11_meeting_5 (by decide) ?_
    refine lv_icmp_eq (tgt := 11) hx hb dX11_meeting_6 (by decide) (fun c_6 => ?_) (fun c_6 => ?_)
    · refine lv_aload_n hx hb dX11_meeting_11 rfl (lv_at hl 0 rfl) ?_
      refine va_get (D := D) (ci := 10) (v := .ref (x 37)) hx hb hts hiX11 hown hK hw.1 0 rfl rfl 7 (by decide) (hts (.fieldLink RX11 57 "BeardPass" "ways" "LBeardPass$Ways;") (by decide +kernel)) (fun _ h9 => h9) rfl dX11_meeting_12 ?_
      refine va_get (D := D) (ci := 9) (v := .ref (x 47)) hx hb hts hiX10 hown hK hw.1 2 rfl rfl 6 (by decide) (hts (.fieldLink RX11 287 "BeardPass$Ways" "latest" "[I") (by decide +kernel)) (fun _ h9 => h9) rfl dX11_meeting_15 ?_
      refine lv_iconst (v := 0) hx hb dX11_meeting_18 (by decide) ?_
      refine zcall2 (va_runS (As := [.ref (x 47), .int 0]) (rest := []) ⟨hx, hb, hml, hown, hts⟩ (c_fill l D ct (x 47) 0 6 (fun _ => 0) (by decide) H.size) (va_cwS 2 hts gX11_meeting_J7_fill_53178 rfl rfl rfl (by decide +kernel) ⟨Nat.le_of_ble_eq_true rfl, Nat.le_of_ble_eq_true rfl⟩) (zpreS hK hw hS hA zZ.nil hN [3] rfl rfl) rfl rfl hl.1 rfl (lv_room (Nat.le_of_ble_eq_true rfl)) dX11_meeting_19 ⟨Nat.le_of_ble_eq_true rfl, Nat.le_of_ble_eq_true rfl⟩) hw hS hA [3] [0, 1, 2] rfl rfl rfl rfl (fun _ H locs hp7 hw hS => ?_)
      have hw : zPD D A [(h0, .inr (10, [.ref (x 1), .ref (x 3), .ref (x 15), .ref (x 27), .ref (x 28), .ref (x 32), .ref (x 36), .ref (x 37), .ref (x 48), .ref (x 54), .ref (x 60), .ref (x 61), .ref (x 68), .int 0, .int 0])), (x 3, .inr (2, [.ref (x 4), .ref (x 5), .ref (x 6), .ref (x 7), .ref (x 8), .ref (x 9), .ref (x 10), .ref (x 11), .ref (x 12), .int 0, .int 0, .int 1, .int 2])), (x 37, .inr (9, [.ref (x 3), .ref (x 36), .ref (x 38), .ref (x 44), .ref (x 45), .ref (x 46), .ref (x 47)])), (x 47, .inl (ct 0, 6, .inl (zfl (fun _ => 0) 0 6)))] H := hw
      refine zfr 22 [] rfl rfl ?_
      refine lv_iconst (v := 0) hx hb dX11_meeting_22 (by decide) ?_
      refine lv_istore_n (lv' := [(2, .int 0), (0, .ref h0), (1, .int p1)]) hx hb dX11_meeting_23 rfl hl (by decide) rfl (fun ls hl => ?_)
      refine lv_iload_n hx hb dX11_meeting_24 rfl (lv_at hl 0 rfl) ?_
      refine lv_aload_n hx hb dX11_meeting_25 rfl (lv_at hl 1 rfl) ?_
      refine va_get (D := D) (ci := 10) (v := .ref (x 3)) hx hb hts hiX11 hown hK hw.1 0 rfl rfl 1 (by decide) (hts (.fieldLink RX11 19 "BeardPass" "told" "LBeardPass$Land;") (by decide +kernel)) (fun _ h9 => h9) rfl dX11_meeting_26 ?_
      refine va_get (D := D) (ci := 2) (v := .int 0) hx hb hts hiX2 hown hK hw.1 1 rfl rfl 10 (by decide) (hts (.fieldLink RX11 172 "BeardPass$Land" "persons" "I") (by decide +kernel)) (fun _ h9 => h9) rfl dX11_meeting_29 ?_
      refine lv_icmp_ge (tgt := 67) hx hb dX11_meeting_32 (by decide) (fun _ => ?_) (fun h => absurd (by decide) h)
      refine lv_iconst (v := (-1)) hx hb dX11_meeting_67 (by decide) ?_
      refine lv_istore_n (lv' := [(2, .int (-1)), (0, .ref h0), (1, .int p1)]) hx hb dX11_meeting_68 rfl hl (by decide) rfl (fun ls hl => ?_)
      refine lv_iconst (v := 0) hx hb dX11_meeting_69 (by decide) ?_
      refine lv_istore_n (lv' := [(3, .int 0), (2, .int (-1)), (0, .ref h0), (1, .int p1)]) hx hb dX11_meeting_70 rfl hl (by decide) rfl (fun ls hl => ?_)
      refine lv_iload_n hx hb dX11_meeting_71 rfl (lv_at hl 0 rfl) ?_
      refine lv_aload_n hx hb dX11_meeting_72 rfl (lv_at hl 2 rfl) ?_
      refine va_get (D := D) (ci := 10) (v := .ref (x 3)) hx hb hts hiX11 hown hK hw.1 0 rfl rfl 1 (by decide) (hts (.fieldLink RX11 19 "BeardPass" "told" "LBeardPass$Land;") (by decide +kernel)) (fun _ h9 => h9) rfl dX11_meeting_73 ?_
      refine va_get (D := D) (ci := 2) (v := .int 0) hx hb hts hiX2 hown hK hw.1 1 rfl rfl 9 (by decide) (hts (.fieldLink RX11 169 "BeardPass$Land" "towns" "I") (by decide +kernel)) (fun _ h9 => h9) rfl dX11_meeting_76 ?_
      refine lv_icmp_ge (tgt := 126) hx hb dX11_meeting_79 (by decide) (fun _ => ?_) (fun h => absurd (by decide) h)
      refine lv_iload_n hx hb dX11_meeting_126 rfl (lv_at hl 1 rfl) ?_
      refine lv_iconst (v := (-1)) hx hb dX11_meeting_127 (by decide) ?_
      refine lv_icmp_eq (tgt := 136) hx hb dX11_meeting_128 (by decide) (fun _ => ?_) (fun h => absurd (by decide) h)
      refine lv_iload_n hx hb dX11_meeting_136 rfl (lv_at hl 1 rfl) ?_
      refine lv_goto (tgt := 149) hx hb dX11_meeting_137 (by decide) ?_
      exact ziret hx hb hr (rfl) hlocks () (rfl) (trivial) hw [] rfl (rfl) hS (Nat.le_of_ble_eq_true rfl) (Nat.le_of_ble_eq_true rfl) dX11_meeting_149
    · refine lv_iconst (v := (-1)) hx hb dX11_meeting_9 (by decide) ?_
      exact ziret hx hb hr (rfl) hlocks () (rfl) (trivial) hw [] rfl (rfl) hS (Nat.le_of_ble_eq_true rfl) (Nat.le_of_ble_eq_true rfl) dX11_meeting_10

set_option maxHeartbeats 4000000 in
set_option maxRecDepth 100000 in
/-- remember, the first time -/
theorem c_remember (l : Launch) (D : va_G) (ct : Nat → ClassId) (h0 : Nat) (x : Nat → Nat) (pf : Nat → Option Nat) (hpf : pf 0 = some (x 62)) : zC l yX11_remember wsX11_remember ({ frames := 3, cells := 0, slots := 0, locals := 160 }) D ct [] [.ref h0] [(h0, .inr (10, [.ref (x 1), .ref (x 3), .ref (x 15), .ref (x 27), .ref (x 28), .ref (x 32), .ref (x 36), .ref (x 37), .ref (x 48), .ref (x 54), .ref (x 60), .ref (x 61), .ref (x 68), .int 0, .int 0])), (x 61, .inl (ct 4, 16, .inr (.inr (.inr (.inr pf))))), (x 48, .inr (7, [.ref (x 49), .ref (x 50), .ref (x 51), .ref (x 52), .ref (x 53), .int 0])), (x 49, .inl (ct 0, 6, .inl (fun _ => 0))), (x 50, .inl (ct 0, 6, .inl (fun _ => 0))), (x 51, .inl (ct 0, 6, .inl (fun _ => 0))), (x 52, .inl (ct 0, 6, .inl (fun _ => 0))), (x 53, .inl (ct 0, 6, .inl (fun _ => 0))), (x 62, .inr (7, [.ref (x 63), .ref (x 64), .ref (x 65), .ref (x 66), .ref (x 67), .int 0])), (x 63, .inl (ct 0, 6, .inl (fun _ => 0))), (x 64, .inl (ct 0, 6, .inl (fun _ => 0))), (x 65, .inl (ct 0, 6, .inl (fun _ => 0))), (x 66, .inl (ct 0, 6, .inl (fun _ => 0))), (x 67, .inl (ct 0, 6, .inl (fun _ => 0)))] (S := Unit) (fun _ => none) (fun _ => True) (fun _ => [(h0, .inr (10, [.ref (x 1), .ref (x 3), .ref (x 15), .ref (x 27), .ref (x 28), .ref (x 32), .ref (x 36), .ref (x 37), .ref (x 48), .ref (x 54), .ref (x 60), .ref (x 61), .ref (x 68), .int 1, .int 1])), (x 48, .inr (7, [.ref (x 49), .ref (x 50), .ref (x 51), .ref (x 52), .ref (x 53), .int 0])), (x 49, .inl (ct 0, 6, .inl (fun _ => 0))), (x 50, .inl (ct 0, 6, .inl (fun _ => 0))), (x 51, .inl (ct 0, 6, .inl (fun _ => 0))), (x 52, .inl (ct 0, 6, .inl (fun _ => 0))), (x 53, .inl (ct 0, 6, .inl (fun _ => 0)))]) 0 0 := by
  refine zofW cX11_remember 1 none (by decide) rfl (Nat.le_of_ble_eq_true rfl) ?_
  intro p e s m below meth c A hx hb hr hml hts hown hlocks hname hK hA hZ hN H locs hw hS ls hl
  have hown : s.vm.findClass RX11 = some m.cls := hown
  have hl : lv_has ls 1 [(0, .ref h0)] := hl
  have hiX11 : ∀ w ∈ wsX110, w ∈ wsX11_remember := by decide +kernel
  refine lv_aload_n hx hb dX11_remember_0 rfl (lv_at hl 0 rfl) ?_
  refine va_get (D := D) (ci := 10) (v := .ref (x 61)) hx hb hts hiX11 hown hK hw.1 0 rfl rfl 11 (by decide) (hts (.fieldLink RX11 78 "BeardPass" "past" "[LBeardPass$Standing;") (by decide +kernel)) (fun _ h9 => h9) rfl dX11_remember_1 ?_
  refine lv_aload_n hx hb dX11_remember_4 rfl (lv_at hl 0 rfl) ?_
  refine va_get (D := D) (ci := 10) (v := .int 0) hx hb hts hiX11 hown hK hw.1 0 rfl rfl 13 (by decide) (hts (.fieldLink RX11 88 "BeardPass" "pastNext" "I") (by decide +kernel)) (fun _ h9 => h9) rfl dX11_remember_5 ?_
  refine zaald hx hb hK hw 1 4 rfl rfl 0 (by decide) (by decide) (by decide) (x 62) (hpf) dX11_remember_8 ?_
  refine lv_aload_n hx hb dX11_remember_9 rfl (lv_at hl 0 rfl) ?_
  refine va_get (D := D) (ci := 10) (v := .ref (x 48)) hx hb hts hiX11 hown hK hw.1 0 rfl rfl 8 (by decide) (hts (.fieldLink RX11 64 "BeardPass" "now" "LBeardPass$Standing;") (by decide +kernel)) (fun _ h9 => h9) rfl dX11_remember_10 ?_
  refine zcall2 (va_runV (As := [.ref (x 48)]) (rest := []) ⟨hx, hb, hml, hown, hts⟩ (c_X8_copy l D ct (x 62) (x 48) (x 63) (x 64) (x 65) (x 66) (x 67) (x 49) (x 50) (x 51) (x 52) (x 53) (fun _ => 0) (fun _ => 0) (fun _ => 0) (fun _ => 0) (fun _ => 0) (fun _ => 0) (fun _ => 0) (fun _ => 0) (fun _ => 0) (fun _ => 0) 0 0 H.size) (cwV 1 hts gX11_remember_X8_copy rfl rfl rfl (by decide +kernel) ⟨Nat.le_of_ble_eq_true rfl, Nat.le_of_ble_eq_true rfl⟩) (zpreV hK hw hS hA zZ.nil hN [8, 9, 10, 11, 12, 13, 2, 3, 4, 5, 6, 7] rfl rfl 7 8 rfl rfl) rfl rfl hl.1 rfl (lv_room (Nat.le_of_ble_eq_true rfl)) dX11_remember_13 ⟨Nat.le_of_ble_eq_true rfl, Nat.le_of_ble_eq_true rfl⟩) hw hS hA [8, 9, 10, 11, 12, 13, 2, 3, 4, 5, 6, 7] [0, 1] rfl rfl rfl rfl (fun _ H locs hp1 hw hS => ?_)
  have hw : zPD D A [(h0, .inr (10, [.ref (x 1), .ref (x 3), .ref (x 15), .ref (x 27), .ref (x 28), .ref (x 32), .ref (x 36), .ref (x 37), .ref (x 48), .ref (x 54), .ref (x 60), .ref (x 61), .ref (x 68), .int 0, .int 0])), (x 61, .inl (ct 4, 16, .inr (.inr (.inr (.inr pf))))), (x 62, .inr (7, [.ref (x 63), .ref (x 64), .ref (x 65), .ref (x 66), .ref (x 67), .int 0])), (x 63, .inl (ct 0, 6, .inl (va_cpy (fun _ => 0) (fun _ => 0) 0 0 6))), (x 64, .inl (ct 0, 6, .inl (va_cpy (fun _ => 0) (fun _ => 0) 0 0 6))), (x 65, .inl (ct 0, 6, .inl (va_cpy (fun _ => 0) (fun _ => 0) 0 0 6))), (x 66, .inl (ct 0, 6, .inl (va_cpy (fun _ => 0) (fun _ => 0) 0 0 6))), (x 67, .inl (ct 0, 6, .inl (va_cpy (fun _ => 0) (fun _ => 0) 0 0 6))), (x 48, .inr (7, [.ref (x 49), .ref (x 50), .ref (x 51), .ref (x 52), .ref (x 53), .int 0])), (x 49, .inl (ct 0, 6, .inl (fun _ => 0))), (x 50, .inl (ct 0, 6, .inl (fun _ => 0))), (x 51, .inl (ct 0, 6, .inl (fun _ => 0))), (x 52, .inl (ct 0, 6, .inl (fun _ => 0))), (x 53, .inl (ct 0, 6, .inl (fun _ => 0)))] H := hw
  refine zfr 16 [] rfl rfl ?_
  refine lv_aload_n hx hb dX11_remember_16 rfl (lv_at hl 0 rfl) ?_
  refine lv_aload_n hx hb dX11_remember_17 rfl (lv_at hl 0 rfl) ?_
  refine va_get (D := D) (ci := 10) (v := .int 0) hx hb hts hiX11 hown hK hw.1 0 rfl rfl 13 (by decide) (hts (.fieldLink RX11 88 "BeardPass" "pastNext" "I") (by decide +kernel)) (fun _ h9 => h9) rfl dX11_remember_18 ?_
  refine lv_iconst (v := 1) hx hb dX11_remember_21 (by decide) ?_
  refine lv_iadd hx hb dX11_remember_22 ?_
  refine ztop (.int 1) (congrArg Value.int (by decide)) ?_
  refine lv_bipush (v := 16) hx hb dX11_remember_23 (by decide) ?_
  refine lv_irem hx hb dX11_remember_25 (by decide) ?_
  refine ztop (.int 1) (congrArg Value.int (by decide)) ?_
  refine zput (D := D) (ci := 10) (v := .int 1) (ty := .int) hx hb hts hiX11 tyX11 tyX11_ok nmX11 hown hK hw hS 0 rfl rfl 13 (by decide) (hts (.fieldLink RX11 88 "BeardPass" "pastNext" "I") (by decide +kernel)) (fun _ h9 => h9) rfl (by decide +kernel) rfl rfl (Nat.le_of_ble_eq_true rfl) dX11_remember_26 [(h0, .inr (10, [.ref (x 1), .ref (x 3), .ref (x 15), .ref (x 27), .ref (x 28), .ref (x 32), .ref (x 36), .ref (x 37), .ref (x 48), .ref (x 54), .ref (x 60), .ref (x 61), .ref (x 68), .int 1, .int 0])), (x 61, .inl (ct 4, 16, .inr (.inr (.inr (.inr pf))))), (x 62, .inr (7, [.ref (x 63), .ref (x 64), .ref (x 65), .ref (x 66), .ref (x 67), .int 0])), (x 63, .inl (ct 0, 6, .inl (va_cpy (fun _ => 0) (fun _ => 0) 0 0 6))), (x 64, .inl (ct 0, 6, .inl (va_cpy (fun _ => 0) (fun _ => 0) 0 0 6))), (x 65, .inl (ct 0, 6, .inl (va_cpy (fun _ => 0) (fun _ => 0) 0 0 6))), (x 66, .inl (ct 0, 6, .inl (va_cpy (fun _ => 0) (fun _ => 0) 0 0 6))), (x 67, .inl (ct 0, 6, .inl (va_cpy (fun _ => 0) (fun _ => 0) 0 0 6))), (x 48, .inr (7, [.ref (x 49), .ref (x 50), .ref (x 51), .ref (x 52), .ref (x 53), .int 0])), (x 49, .inl (ct 0, 6, .inl (fun _ => 0))), (x 50, .inl (ct 0, 6, .inl (fun _ => 0))), (x 51, .inl (ct 0, 6, .inl (fun _ => 0))), (x 52, .inl (ct 0, 6, .inl (fun _ => 0))), (x 53, .inl (ct 0, 6, .inl (fun _ => 0)))] rfl (fun H locs hw hS => ?_)
  refine lv_aload_n hx hb dX11_remember_29 rfl (lv_at hl 0 rfl) ?_
  refine lv_aload_n hx hb dX11_remember_30 rfl (lv_at hl 0 rfl) ?_
  refine va_get (D := D) (ci := 10) (v := .int 0) hx hb hts hiX11 hown hK hw.1 0 rfl rfl 14 (by decide) (hts (.fieldLink RX11 92 "BeardPass" "pastCount" "I") (by decide +kernel)) (fun _ h9 => h9) rfl dX11_remember_31 ?_
  refine lv_iconst (v := 1) hx hb dX11_remember_34 (by decide) ?_
  refine lv_iadd hx hb dX11_remember_35 ?_
  refine ztop (.int 1) (congrArg Value.int (by decide)) ?_
  refine lv_bipush (v := 16) hx hb dX11_remember_36 (by decide) ?_
  refine va_mmin hx hb (hml.trans hl.1.symm) hown (hts (.methodLink RX11 223 Lib.Math.min.name) (by decide +kernel)) (hts (.static Lib.Math.min.name) (by decide +kernel)) (hts (.initialized "java/lang/Math") (by decide +kernel)) (hts (.code Lib.Math.min.name Lib.Math.min.code 2 (some .int)) (by decide +kernel)) (Nat.le_of_ble_eq_true rfl) (Nat.le_of_ble_eq_true rfl) (Nat.le_of_ble_eq_true rfl) (Nat.le_of_ble_eq_true rfl) dX11_remember_38 ?_
  refine ztop (.int 1) (congrArg Value.int (by decide)) ?_
  refine zput (D := D) (ci := 10) (v := .int 1) (ty := .int) hx hb hts hiX11 tyX11 tyX11_ok nmX11 hown hK hw hS 0 rfl rfl 14 (by decide) (hts (.fieldLink RX11 92 "BeardPass" "pastCount" "I") (by decide +kernel)) (fun _ h9 => h9) rfl (by decide +kernel) rfl rfl (Nat.le_of_ble_eq_true rfl) dX11_remember_41 [(h0, .inr (10, [.ref (x 1), .ref (x 3), .ref (x 15), .ref (x 27), .ref (x 28), .ref (x 32), .ref (x 36), .ref (x 37), .ref (x 48), .ref (x 54), .ref (x 60), .ref (x 61), .ref (x 68), .int 1, .int 1])), (x 61, .inl (ct 4, 16, .inr (.inr (.inr (.inr pf))))), (x 62, .inr (7, [.ref (x 63), .ref (x 64), .ref (x 65), .ref (x 66), .ref (x 67), .int 0])), (x 63, .inl (ct 0, 6, .inl (va_cpy (fun _ => 0) (fun _ => 0) 0 0 6))), (x 64, .inl (ct 0, 6, .inl (va_cpy (fun _ => 0) (fun _ => 0) 0 0 6))), (x 65, .inl (ct 0, 6, .inl (va_cpy (fun _ => 0) (fun _ => 0) 0 0 6))), (x 66, .inl (ct 0, 6, .inl (va_cpy (fun _ => 0) (fun _ => 0) 0 0 6))), (x 67, .inl (ct 0, 6, .inl (va_cpy (fun _ => 0) (fun _ => 0) 0 0 6))), (x 48, .inr (7, [.ref (x 49), .ref (x 50), .ref (x 51), .ref (x 52), .ref (x 53), .int 0])), (x 49, .inl (ct 0, 6, .inl (fun _ => 0))), (x 50, .inl (ct 0, 6, .inl (fun _ => 0))), (x 51, .inl (ct 0, 6, .inl (fun _ => 0))), (x 52, .inl (ct 0, 6, .inl (fun _ => 0))), (x 53, .inl (ct 0, 6, .inl (fun _ => 0)))] rfl (fun H locs hw hS => ?_)
  exact zvret hx hb hr hlocks () rfl (trivial) hw [0, 8, 9, 10, 11, 12, 13] rfl (rfl) hS (Nat.le_of_ble_eq_true rfl) (Nat.le_of_ble_eq_true rfl) dX11_remember_44

set_option maxHeartbeats 4000000 in
set_option maxRecDepth 100000 in
/-- week on a new object -/
theorem k_week (l : Launch) (D : va_G) (ct : Nat → ClassId) (h0 : Nat) (x : Nat → Nat) (pf : Nat → Option Nat) (hpf : pf 0 = some (x 62)) : zC l yX11_week wsX11_week ({ frames := 4, cells := 0, slots := 0, locals := 200 }) D ct [] [.ref h0] [(h0, .inr (10, [.ref (x 1), .ref (x 3), .ref (x 15), .ref (x 27), .ref (x 28), .ref (x 32), .ref (x 36), .ref (x 37), .ref (x 48), .ref (x 54), .ref (x 60), .ref (x 61), .ref (x 68), .int 0, .int 0])), (x 3, .inr (2, [.ref (x 4), .ref (x 5), .ref (x 6), .ref (x 7), .ref (x 8), .ref (x 9), .ref (x 10), .ref (x 11), .ref (x 12), .int 0, .int 0, .int 1, .int 2])), (x 36, .inr (0, [.ref (x 3)])), (x 61, .inl (ct 4, 16, .inr (.inr (.inr (.inr pf))))), (x 48, .inr (7, [.ref (x 49), .ref (x 50), .ref (x 51), .ref (x 52), .ref (x 53), .int 0])), (x 49, .inl (ct 0, 6, .inl (fun _ => 0))), (x 50, .inl (ct 0, 6, .inl (fun _ => 0))), (x 51, .inl (ct 0, 6, .inl (fun _ => 0))), (x 52, .inl (ct 0, 6, .inl (fun _ => 0))), (x 53, .inl (ct 0, 6, .inl (fun _ => 0))), (x 62, .inr (7, [.ref (x 63), .ref (x 64), .ref (x 65), .ref (x 66), .ref (x 67), .int 0])), (x 63, .inl (ct 0, 6, .inl (fun _ => 0))), (x 64, .inl (ct 0, 6, .inl (fun _ => 0))), (x 65, .inl (ct 0, 6, .inl (fun _ => 0))), (x 66, .inl (ct 0, 6, .inl (fun _ => 0))), (x 67, .inl (ct 0, 6, .inl (fun _ => 0)))] (S := Unit) (fun _ => some (.int 1)) (fun _ => True) (fun _ => []) 0 0 := by
  refine zofW cX11_week 1 (some .int) (by decide) rfl (Nat.le_of_ble_eq_true rfl) ?_
  intro p e s m below meth c A hx hb hr hml hts hown hlocks hname hK hA hZ hN H locs hw hS ls hl
  have hown : s.vm.findClass RX11 = some m.cls := hown
  have hl : lv_has ls 1 [(0, .ref h0)] := hl
  have hiX11 : ∀ w ∈ wsX110, w ∈ wsX11_week := by decide +kernel
  have hiX8 : ∀ w ∈ wsX80, w ∈ wsX11_week := by decide +kernel
  refine lv_aload_n hx hb dX11_week_0 rfl (lv_at hl 0 rfl) ?_
  refine zcall2 (va_runV (As := []) (rest := []) ⟨hx, hb, hml, hown, hts⟩ (c_remember l D ct h0 x pf (hpf) H.size) (cwV 0 hts gX11_week_X11_remember rfl rfl rfl (by decide +kernel) ⟨Nat.le_of_ble_eq_true rfl, Nat.le_of_ble_eq_true rfl⟩) (zpreV hK hw hS hA zZ.nil hN [0, 3, 4, 5, 6, 7, 8, 9, 10, 11, 12, 13, 14, 15] rfl rfl 10 0 rfl rfl) rfl rfl hl.1 rfl (lv_room (Nat.le_of_ble_eq_true rfl)) dX11_week_1 ⟨Nat.le_of_ble_eq_true rfl, Nat.le_of_ble_eq_true rfl⟩) hw hS hA [0, 3, 4, 5, 6, 7, 8, 9, 10, 11, 12, 13, 14, 15] [1, 2] rfl rfl rfl rfl (fun _ H locs hp1 hw hS => ?_)
  have hw : zPD D A [(x 3, .inr (2, [.ref (x 4), .ref (x 5), .ref (x 6), .ref (x 7), .ref (x 8), .ref (x 9), .ref (x 10), .ref (x 11), .ref (x 12), .int 0, .int 0, .int 1, .int 2])), (x 36, .inr (0, [.ref (x 3)])), (h0, .inr (10, [.ref (x 1), .ref (x 3), .ref (x 15), .ref (x 27), .ref (x 28), .ref (x 32), .ref (x 36), .ref (x 37), .ref (x 48), .ref (x 54), .ref (x 60), .ref (x 61), .ref (x 68), .int 1, .int 1])), (x 48, .inr (7, [.ref (x 49), .ref (x 50), .ref (x 51), .ref (x 52), .ref (x 53), .int 0])), (x 49, .inl (ct 0, 6, .inl (fun _ => 0))), (x 50, .inl (ct 0, 6, .inl (fun _ => 0))), (x 51, .inl (ct 0, 6, .inl (fun _ => 0))), (x 52, .inl (ct 0, 6, .inl (fun _ => 0))), (x 53, .inl (ct 0, 6, .inl (fun _ => 0)))] H := hw
  refine zfr 4 [] rfl rfl ?_
  refine lv_aload_n hx hb dX11_week_4 rfl (lv_at hl 0 rfl) ?_
  refine va_get (D := D) (ci := 10) (v := .ref (x 36)) hx hb hts hiX11 hown hK hw.1 2 rfl rfl 6 (by decide) (hts (.fieldLink RX11 48 "BeardPass" "frontier" "LBeardPass$Frontier;") (by decide +kernel)) (fun _ h9 => h9) rfl dX11_week_5 ?_
  refine lv_aload_n hx hb dX11_week_8 rfl (lv_at hl 0 rfl) ?_
  refine va_get (D := D) (ci := 10) (v := .ref (x 48)) hx hb hts hiX11 hown hK hw.1 2 rfl rfl 8 (by decide) (hts (.fieldLink RX11 64 "BeardPass" "now" "LBeardPass$Standing;") (by decide +kernel)) (fun _ h9 => h9) rfl dX11_week_9 ?_
  refine zcall2 (va_runV (As := [.ref (x 48)]) (rest := []) ⟨hx, hb, hml, hown, hts⟩ (c_X0_pass l D ct (x 36) (x 48) (x 3) (x 49) (x 50) (x 51) (x 52) (x 53) 0 (x 4) (x 5) (x 6) (x 7) (x 8) (x 9) (x 10) (x 11) (x 12) 0 1 2 H.size) (cwV 1 hts gX11_week_X0_passWeek rfl rfl rfl (by decide +kernel) ⟨Nat.le_of_ble_eq_true rfl, Nat.le_of_ble_eq_true rfl⟩) (zpreV hK hw hS hA zZ.nil hN [1, 3, 0] rfl rfl 0 1 rfl rfl) rfl rfl hl.1 rfl (lv_room (Nat.le_of_ble_eq_true rfl)) dX11_week_12 ⟨Nat.le_of_ble_eq_true rfl, Nat.le_of_ble_eq_true rfl⟩) hw hS hA [1, 3, 0] [2, 4, 5, 6, 7, 8] rfl rfl rfl rfl (fun _ H locs hp2 hw hS => ?_)
  have hw : zPD D A [(h0, .inr (10, [.ref (x 1), .ref (x 3), .ref (x 15), .ref (x 27), .ref (x 28), .ref (x 32), .ref (x 36), .ref (x 37), .ref (x 48), .ref (x 54), .ref (x 60), .ref (x 61), .ref (x 68), .int 1, .int 1])), (x 49, .inl (ct 0, 6, .inl (fun _ => 0))), (x 50, .inl (ct 0, 6, .inl (fun _ => 0))), (x 51, .inl (ct 0, 6, .inl (fun _ => 0))), (x 52, .inl (ct 0, 6, .inl (fun _ => 0))), (x 53, .inl (ct 0, 6, .inl (fun _ => 0))), (x 36, .inr (0, [.ref (x 3)])), (x 48, .inr (7, [.ref (x 49), .ref (x 50), .ref (x 51), .ref (x 52), .ref (x 53), .int (0 + 1)])), (x 3, .inr (2, [.ref (x 4), .ref (x 5), .ref (x 6), .ref (x 7), .ref (x 8), .ref (x 9), .ref (x 10), .ref (x 11), .ref (x 12), .int 0, .int 0, .int 1, .int 2]))] H := hw
  refine zfr 15 [] rfl rfl ?_
  refine lv_aload_n hx hb dX11_week_15 rfl (lv_at hl 0 rfl) ?_
  refine va_get (D := D) (ci := 10) (v := .ref (x 48)) hx hb hts hiX11 hown hK hw.1 0 rfl rfl 8 (by decide) (hts (.fieldLink RX11 64 "BeardPass" "now" "LBeardPass$Standing;") (by decide +kernel)) (fun _ h9 => h9) rfl dX11_week_16 ?_
  refine va_get (D := D) (ci := 7) (v := .int (0 + 1)) hx hb hts hiX8 hown hK hw.1 7 rfl rfl 5 (by decide) (hts (.fieldLink RX11 181 "BeardPass$Standing" "weeks" "I") (by decide +kernel)) (fun _ h9 => h9) rfl dX11_week_19 ?_
  exact ziret hx hb hr (rfl) hlocks () (rfl) (trivial) hw [] rfl (rfl) hS (Nat.le_of_ble_eq_true rfl) (Nat.le_of_ble_eq_true rfl) dX11_week_22

set_option maxHeartbeats 4000000 in
set_option maxRecDepth 100000 in
/-- years on a new object -/
theorem k_years (l : Launch) (D : va_G) (ct : Nat → ClassId) (h0 : Nat) (x : Nat → Nat) (p1 : Int32) (p2 : Int32) (p3 : Int32)  : zC l yX11_years wsX11_years ({ frames := 3, cells := 0, slots := 0, locals := 160 }) D ct [] [.ref h0, .int p1, .int p2, .int p3] [(h0, .inr (10, [.ref (x 1), .ref (x 3), .ref (x 15), .ref (x 27), .ref (x 28), .ref (x 32), .ref (x 36), .ref (x 37), .ref (x 48), .ref (x 54), .ref (x 60), .ref (x 61), .ref (x 68), .int 0, .int 0])), (x 3, .inr (2, [.ref (x 4), .ref (x 5), .ref (x 6), .ref (x 7), .ref (x 8), .ref (x 9), .ref (x 10), .ref (x 11), .ref (x 12), .int 0, .int 0, .int 1, .int 2])), (x 36, .inr (0, [.ref (x 3)])), (x 48, .inr (7, [.ref (x 49), .ref (x 50), .ref (x 51), .ref (x 52), .ref (x 53), .int 0])), (x 49, .inl (ct 0, 6, .inl (fun _ => 0))), (x 50, .inl (ct 0, 6, .inl (fun _ => 0))), (x 51, .inl (ct 0, 6, .inl (fun _ => 0))), (x 52, .inl (ct 0, 6, .inl (fun _ => 0))), (x 53, .inl (ct 0, 6, .inl (fun _ => 0))), (x 54, .inr (7, [.ref (x 55), .ref (x 56), .ref (x 57), .ref (x 58), .ref (x 59), .int 0])), (x 55, .inl (ct 0, 6, .inl (fun _ => 0))), (x 56, .inl (ct 0, 6, .inl (fun _ => 0))), (x 57, .inl (ct 0, 6, .inl (fun _ => 0))), (x 58, .inl (ct 0, 6, .inl (fun _ => 0))), (x 59, .inl (ct 0, 6, .inl (fun _ => 0)))] (S := Unit) (fun _ => some (.int (zyr p1 p2 p3))) (fun _ => True) (fun _ => []) 0 0 := by
  refine zofW cX11_years 11 (some .int) (by decide) rfl (Nat.le_of_ble_eq_true rfl) ?_
  intro p e s m below meth c A hx hb hr hml hts hown hlocks hname hK hA hZ hN H locs hw hS ls hl
  have hown : s.vm.findClass RX11 = some m.cls := hown
  have hl : lv_has ls 11 [(0, .ref h0), (1, .int p1), (2, .int p2), (3, .int p3)] := hl
  have hiX11 : ∀ w ∈ wsX110, w ∈ wsX11_years := by decide +kernel
  have hiX2 : ∀ w ∈ wsX20, w ∈ wsX11_years := by decide +kernel
  refine lv_iload_n hx hb dX11_years_0 rfl (lv_at hl 1 rfl) ?_
  refine lv_if_lt (tgt := 31) hx hb dX11_years_1 (by decide) (fun c_1 => ?_) (fun c_1 => ?_)
  · refine lv_iconst (v := (-1)) hx hb dX11_years_31 (by decide) ?_
    exact ziret hx hb hr (rfl) hlocks () (by simp [zyr, zwi, c_1]) (trivial) hw [] rfl (rfl) hS (Nat.le_of_ble_eq_true rfl) (Nat.le_of_ble_eq_true rfl) dX11_years_32
  · refine lv_iload_n hx hb dX11_years_4 rfl (lv_at hl 1 rfl) ?_
    refine lv_sipush (v := 9999) hx hb dX11_years_5 (by decide) ?_
    refine lv_icmp_gt (tgt := 31) hx hb dX11_years_8 (by decide) (fun c_2 => ?_) (fun c_2 => ?_)
    · refine lv_iconst (v := (-1)) hx hb dX11_years_31 (by decide) ?_
      exact ziret hx hb hr (rfl) hlocks () (by simp [zyr, zwi, c_1, c_2]) (trivial) hw [] rfl (rfl) hS (Nat.le_of_ble_eq_true rfl) (Nat.le_of_ble_eq_true rfl) dX11_years_32
    · refine lv_iload_n hx hb dX11_years_11 rfl (lv_at hl 2 rfl) ?_
      refine lv_iconst (v := 1) hx hb dX11_years_12 (by decide) ?_
      refine lv_icmp_lt (tgt := 31) hx hb dX11_years_13 (by decide) (fun c_3 => ?_) (fun c_3 => ?_)
      · refine lv_iconst (v := (-1)) hx hb dX11_years_31 (by decide) ?_
        exact ziret hx hb hr (rfl) hlocks () (by simp [zyr, zwi, c_1, c_2, c_3]) (trivial) hw [] rfl (rfl) hS (Nat.le_of_ble_eq_true rfl) (Nat.le_of_ble_eq_true rfl) dX11_years_32
      · refine lv_iload_n hx hb dX11_years_16 rfl (lv_at hl 2 rfl) ?_
        refine lv_bipush (v := 99) hx hb dX11_years_17 (by decide) ?_
        refine lv_icmp_gt (tgt := 31) hx hb dX11_years_19 (by decide) (fun c_4 => ?_) (fun c_4 => ?_)
        · refine lv_iconst (v := (-1)) hx hb dX11_years_31 (by decide) ?_
          exact ziret hx hb hr (rfl) hlocks () (by simp [zyr, zwi, c_1, c_2, c_3, c_4]) (trivial) hw [] rfl (rfl) hS (Nat.le_of_ble_eq_true rfl) (Nat.le_of_ble_eq_true rfl) dX11_years_32
        · refine lv_iload_n hx hb dX11_years_22 rfl (lv_at hl 3 rfl) ?_
          refine lv_if_lt (tgt := 31) hx hb dX11_years_23 (by decide) (fun c_5 => ?_) (fun c_5 => ?_)
          · refine lv_iconst (v := (-1)) hx hb dX11_years_31 (by decide) ?_
            exact ziret hx hb hr (rfl) hlocks () (by simp [zyr, zwi, c_1, c_2, c_3, c_4, c_5]) (trivial) hw [] rfl (rfl) hS (Nat.le_of_ble_eq_true rfl) (Nat.le_of_ble_eq_true rfl) dX11_years_32
          · refine lv_iload_n hx hb dX11_years_26 rfl (lv_at hl 3 rfl) ?_
            refine lv_iconst (v := 2) hx hb dX11_years_27 (by decide) ?_
            refine lv_icmp_le (tgt := 33) hx hb dX11_years_28 (by decide) (fun c_6 => ?_) (fun c_6 => ?_)
            · refine lv_aload_n hx hb dX11_years_33 rfl (lv_at hl 0 rfl) ?_
              refine va_get (D := D) (ci := 10) (v := .ref (x 54)) hx hb hts hiX11 hown hK hw.1 0 rfl rfl 9 (by decide) (hts (.fieldLink RX11 68 "BeardPass" "trial" "LBeardPass$Standing;") (by decide +kernel)) (fun _ h9 => h9) rfl dX11_years_34 ?_
              refine lv_aload_n hx hb dX11_years_37 rfl (lv_at hl 0 rfl) ?_
              refine va_get (D := D) (ci := 10) (v := .ref (x 48)) hx hb hts hiX11 hown hK hw.1 0 rfl rfl 8 (by decide) (hts (.fieldLink RX11 64 "BeardPass" "now" "LBeardPass$Standing;") (by decide +kernel)) (fun _ h9 => h9) rfl dX11_years_38 ?_
              refine zcall2 (va_runV (As := [.ref (x 48)]) (rest := []) ⟨hx, hb, hml, hown, hts⟩ (c_X8_copy l D ct (x 54) (x 48) (x 55) (x 56) (x 57) (x 58) (x 59) (x 49) (x 50) (x 51) (x 52) (x 53) (fun _ => 0) (fun _ => 0) (fun _ => 0) (fun _ => 0) (fun _ => 0) (fun _ => 0) (fun _ => 0) (fun _ => 0) (fun _ => 0) (fun _ => 0) 0 0 H.size) (cwV 1 hts gX11_years_X8_copy rfl rfl rfl (by decide +kernel) ⟨Nat.le_of_ble_eq_true rfl, Nat.le_of_ble_eq_true rfl⟩) (zpreV hK hw hS hA zZ.nil hN [9, 10, 11, 12, 13, 14, 3, 4, 5, 6, 7, 8] rfl rfl 7 9 rfl rfl) rfl rfl hl.1 rfl (lv_room (Nat.le_of_ble_eq_true rfl)) dX11_years_41 ⟨Nat.le_of_ble_eq_true rfl, Nat.le_of_ble_eq_true rfl⟩) hw hS hA [9, 10, 11, 12, 13, 14, 3, 4, 5, 6, 7, 8] [0, 1, 2] rfl rfl rfl rfl (fun _ H locs hp7 hw hS => ?_)
              have hw : zPD D A [(h0, .inr (10, [.ref (x 1), .ref (x 3), .ref (x 15), .ref (x 27), .ref (x 28), .ref (x 32), .ref (x 36), .ref (x 37), .ref (x 48), .ref (x 54), .ref (x 60), .ref (x 61), .ref (x 68), .int 0, .int 0])), (x 3, .inr (2, [.ref (x 4), .ref (x 5), .ref (x 6), .ref (x 7), .ref (x 8), .ref (x 9), .ref (x 10), .ref (x 11), .ref (x 12), .int 0, .int 0, .int 1, .int 2])), (x 36, .inr (0, [.ref (x 3)])), (x 54, .inr (7, [.ref (x 55), .ref (x 56), .ref (x 57), .ref (x 58), .ref (x 59), .int 0])), (x 55, .inl (ct 0, 6, .inl (va_cpy (fun _ => 0) (fun _ => 0) 0 0 6))), (x 56, .inl (ct 0, 6, .inl (va_cpy (fun _ => 0) (fun _ => 0) 0 0 6))), (x 57, .inl (ct 0, 6, .inl (va_cpy (fun _ => 0) (fun _ => 0) 0 0 6))), (x 58, .inl (ct 0, 6, .inl (va_cpy (fun _ => 0) (fun _ => 0) 0 0 6))), (x 59, .inl (ct 0, 6, .inl (va_cpy (fun _ => 0) (fun _ => 0) 0 0 6))), (x 48, .inr (7, [.ref (x 49), .ref (x 50), .ref (x 51), .ref (x 52), .ref (x 53), .int 0])), (x 49, .inl (ct 0, 6, .inl (fun _ => 0))), (x 50, .inl (ct 0, 6, .inl (fun _ => 0))), (x 51, .inl (ct 0, 6, .inl (fun _ => 0))), (x 52, .inl (ct 0, 6, .inl (fun _ => 0))), (x 53, .inl (ct 0, 6, .inl (fun _ => 0)))] H := hw
              refine zfr 44 [] rfl rfl ?_
              refine lv_iload_n hx hb dX11_years_44 rfl (lv_at hl 1 rfl) ?_
              refine lv_i2l (v := p1.toInt64) hx hb dX11_years_45 rfl ?_
              refine lv_lstore (lv' := [(4, .long p1.toInt64), (0, .ref h0), (1, .int p1), (2, .int p2), (3, .int p3)]) hx hb dX11_years_46 hl (by decide) rfl (fun ls hl => ?_)
              refine lv_iconst (v := 0) hx hb dX11_years_48 (by decide) ?_
              refine lv_istore (lv' := [(6, .int 0), (4, .long p1.toInt64), (0, .ref h0), (1, .int p1), (2, .int p2), (3, .int p3)]) hx hb dX11_years_49 hl (by decide) rfl (fun ls hl => ?_)
              refine lv_iconst (v := 0) hx hb dX11_years_51 (by decide) ?_
              refine lv_istore (lv' := [(7, .int 0), (6, .int 0), (4, .long p1.toInt64), (0, .ref h0), (1, .int p1), (2, .int p2), (3, .int p3)]) hx hb dX11_years_52 hl (by decide) rfl (fun ls hl => ?_)
              refine lv_iconst (v := 0) hx hb dX11_years_54 (by decide) ?_
              refine lv_istore (lv' := [(8, .int 0), (7, .int 0), (6, .int 0), (4, .long p1.toInt64), (0, .ref h0), (1, .int p1), (2, .int p2), (3, .int p3)]) hx hb dX11_years_55 hl (by decide) rfl (fun ls hl => ?_)
              obtain ⟨n8, hn9, rfl⟩ := znat (M := 99) (n := 99) (by decide) c_3 c_4
              refine zloop (σ := Int32) (nL := 11) (st := []) (fun i xl => True) (fun i xl => [(h0, .inr (10, [.ref (x 1), .ref (x 3), .ref (x 15), .ref (x 27), .ref (x 28), .ref (x 32), .ref (x 36), .ref (x 37), .ref (x 48), .ref (x 54), .ref (x 60), .ref (x 61), .ref (x 68), .int 0, .int 0])), (x 3, .inr (2, [.ref (x 4), .ref (x 5), .ref (x 6), .ref (x 7), .ref (x 8), .ref (x 9), .ref (x 10), .ref (x 11), .ref (x 12), .int 0, .int 0, .int 1, .int 2])), (x 36, .inr (0, [.ref (x 3)])), (x 54, .inr (7, [.ref (x 55), .ref (x 56), .ref (x 57), .ref (x 58), .ref (x 59), .int xl])), (x 55, .inl (ct 0, 6, .inl (va_cpy (fun _ => 0) (fun _ => 0) 0 0 6))), (x 56, .inl (ct 0, 6, .inl (va_cpy (fun _ => 0) (fun _ => 0) 0 0 6))), (x 57, .inl (ct 0, 6, .inl (va_cpy (fun _ => 0) (fun _ => 0) 0 0 6))), (x 58, .inl (ct 0, 6, .inl (va_cpy (fun _ => 0) (fun _ => 0) 0 0 6))), (x 59, .inl (ct 0, 6, .inl (va_cpy (fun _ => 0) (fun _ => 0) 0 0 6))), (x 48, .inr (7, [.ref (x 49), .ref (x 50), .ref (x 51), .ref (x 52), .ref (x 53), .int 0])), (x 49, .inl (ct 0, 6, .inl (fun _ => 0))), (x 50, .inl (ct 0, 6, .inl (fun _ => 0))), (x 51, .inl (ct 0, 6, .inl (fun _ => 0))), (x 52, .inl (ct 0, 6, .inl (fun _ => 0))), (x 53, .inl (ct 0, 6, .inl (fun _ => 0)))]) (fun i xl => [(8, .int (nI i)), (0, .ref h0), (1, .int p1), (2, .int (nI n8)), (3, .int p3), (4, .long p1.toInt64), (6, .int 0), (7, .int 0)]) (fun _ => 0) (fun _ => 0) n8 ?_ ?_ 0 0 (Nat.zero_le _) (trivial) H locs ls (hw.sub [0, 1, 2, 3, 4, 5, 6, 7, 8, 9, 10, 11, 12, 13, 14] rfl rfl) hS (lv_sub hl [0, 4, 5, 6, 7, 3, 2, 1] rfl)
              · intro x11 hI12 H locs ls hw hS hl
                have hw : zPD D A [(h0, .inr (10, [.ref (x 1), .ref (x 3), .ref (x 15), .ref (x 27), .ref (x 28), .ref (x 32), .ref (x 36), .ref (x 37), .ref (x 48), .ref (x 54), .ref (x 60), .ref (x 61), .ref (x 68), .int 0, .int 0])), (x 3, .inr (2, [.ref (x 4), .ref (x 5), .ref (x 6), .ref (x 7), .ref (x 8), .ref (x 9), .ref (x 10), .ref (x 11), .ref (x 12), .int 0, .int 0, .int 1, .int 2])), (x 36, .inr (0, [.ref (x 3)])), (x 54, .inr (7, [.ref (x 55), .ref (x 56), .ref (x 57), .ref (x 58), .ref (x 59), .int x11])), (x 55, .inl (ct 0, 6, .inl (va_cpy (fun _ => 0) (fun _ => 0) 0 0 6))), (x 56, .inl (ct 0, 6, .inl (va_cpy (fun _ => 0) (fun _ => 0) 0 0 6))), (x 57, .inl (ct 0, 6, .inl (va_cpy (fun _ => 0) (fun _ => 0) 0 0 6))), (x 58, .inl (ct 0, 6, .inl (va_cpy (fun _ => 0) (fun _ => 0) 0 0 6))), (x 59, .inl (ct 0, 6, .inl (va_cpy (fun _ => 0) (fun _ => 0) 0 0 6))), (x 48, .inr (7, [.ref (x 49), .ref (x 50), .ref (x 51), .ref (x 52), .ref (x 53), .int 0])), (x 49, .inl (ct 0, 6, .inl (fun _ => 0))), (x 50, .inl (ct 0, 6, .inl (fun _ => 0))), (x 51, .inl (ct 0, 6, .inl (fun _ => 0))), (x 52, .inl (ct 0, 6, .inl (fun _ => 0))), (x 53, .inl (ct 0, 6, .inl (fun _ => 0)))] H := hw
                have hl : lv_has ls 11 [(8, .int (nI n8)), (0, .ref h0), (1, .int p1), (2, .int (nI n8)), (3, .int p3), (4, .long p1.toInt64), (6, .int 0), (7, .int 0)] := hl
                refine lv_iload hx hb dX11_years_57 (lv_at hl 0 rfl) ?_
                refine lv_iload_n hx hb dX11_years_59 rfl (lv_at hl 3 rfl) ?_
                refine lv_icmp_ge (tgt := 212) hx hb dX11_years_60 (by decide) (fun _ => ?_) (fun h => absurd (nI_le (Nat.le_refl _) (by omega)) h)
                refine lv_iload_n hx hb dX11_years_212 rfl (lv_at hl 4 rfl) ?_
                refine lv_iconst (v := 2) hx hb dX11_years_213 (by decide) ?_
                refine lv_icmp_ne (tgt := 232) hx hb dX11_years_214 (by decide) (fun c_14 => ?_) (fun c_14 => ?_)
                · refine lv_iload_n hx hb dX11_years_232 rfl (lv_at hl 4 rfl) ?_
                  refine lv_if_ne (tgt := 241) hx hb dX11_years_233 (by decide) (fun c_15 => ?_) (fun c_15 => ?_)
                  · refine lv_iload hx hb dX11_years_241 (lv_at hl 7 rfl) ?_
                    exact ziret hx hb hr (rfl) hlocks () (by simp [zyr, zwi, c_1, c_2, c_3, c_4, c_5, c_6, c_14, c_15]) (trivial) hw [] rfl (rfl) hS (Nat.le_of_ble_eq_true rfl) (Nat.le_of_ble_eq_true rfl) dX11_years_243
                  · refine lv_iload hx hb dX11_years_236 (lv_at hl 6 rfl) ?_
                    refine lv_goto (tgt := 243) hx hb dX11_years_238 (by decide) ?_
                    exact ziret hx hb hr (rfl) hlocks () (by simp [zyr, zwi, c_1, c_2, c_3, c_4, c_5, c_6, c_14, c_15]) (trivial) hw [] rfl (rfl) hS (Nat.le_of_ble_eq_true rfl) (Nat.le_of_ble_eq_true rfl) dX11_years_243
                · refine lv_aload_n hx hb dX11_years_217 rfl (lv_at hl 1 rfl) ?_
                  refine va_get (D := D) (ci := 10) (v := .ref (x 54)) hx hb hts hiX11 hown hK hw.1 0 rfl rfl 9 (by decide) (hts (.fieldLink RX11 68 "BeardPass" "trial" "LBeardPass$Standing;") (by decide +kernel)) (fun _ h9 => h9) rfl dX11_years_218 ?_
                  refine lv_aload_n hx hb dX11_years_221 rfl (lv_at hl 1 rfl) ?_
                  refine va_get (D := D) (ci := 10) (v := .ref (x 3)) hx hb hts hiX11 hown hK hw.1 0 rfl rfl 1 (by decide) (hts (.fieldLink RX11 19 "BeardPass" "told" "LBeardPass$Land;") (by decide +kernel)) (fun _ h9 => h9) rfl dX11_years_222 ?_
                  refine va_get (D := D) (ci := 2) (v := .int 0) hx hb hts hiX2 hown hK hw.1 1 rfl rfl 10 (by decide) (hts (.fieldLink RX11 172 "BeardPass$Land" "persons" "I") (by decide +kernel)) (fun _ h9 => h9) rfl dX11_years_225 ?_
                  refine zcall2 (va_runV (As := [.int 0]) (rest := []) ⟨hx, hb, hml, hown, hts⟩ (c_X8_peopled l D ct (x 54) (x 55) (x 56) (x 57) (x 58) (x 59) x11 H.size) (cwV 1 hts gX11_years_X8_peopled rfl rfl rfl (by decide +kernel) ⟨Nat.le_of_ble_eq_true rfl, Nat.le_of_ble_eq_true rfl⟩) (zpreV hK hw hS hA zZ.nil hN [3] rfl rfl 7 3 rfl rfl) rfl rfl hl.1 rfl (lv_room (Nat.le_of_ble_eq_true rfl)) dX11_years_228 ⟨Nat.le_of_ble_eq_true rfl, Nat.le_of_ble_eq_true rfl⟩) hw hS hA [3] [0, 1, 2, 4, 5, 6, 7, 8, 9, 10, 11, 12, 13, 14] rfl rfl rfl rfl (fun _ H locs hp16 hw hS => ?_)
                  have hw : zPD D A [(h0, .inr (10, [.ref (x 1), .ref (x 3), .ref (x 15), .ref (x 27), .ref (x 28), .ref (x 32), .ref (x 36), .ref (x 37), .ref (x 48), .ref (x 54), .ref (x 60), .ref (x 61), .ref (x 68), .int 0, .int 0])), (x 3, .inr (2, [.ref (x 4), .ref (x 5), .ref (x 6), .ref (x 7), .ref (x 8), .ref (x 9), .ref (x 10), .ref (x 11), .ref (x 12), .int 0, .int 0, .int 1, .int 2])), (x 36, .inr (0, [.ref (x 3)])), (x 55, .inl (ct 0, 6, .inl (va_cpy (fun _ => 0) (fun _ => 0) 0 0 6))), (x 56, .inl (ct 0, 6, .inl (va_cpy (fun _ => 0) (fun _ => 0) 0 0 6))), (x 57, .inl (ct 0, 6, .inl (va_cpy (fun _ => 0) (fun _ => 0) 0 0 6))), (x 58, .inl (ct 0, 6, .inl (va_cpy (fun _ => 0) (fun _ => 0) 0 0 6))), (x 59, .inl (ct 0, 6, .inl (va_cpy (fun _ => 0) (fun _ => 0) 0 0 6))), (x 48, .inr (7, [.ref (x 49), .ref (x 50), .ref (x 51), .ref (x 52), .ref (x 53), .int 0])), (x 49, .inl (ct 0, 6, .inl (fun _ => 0))), (x 50, .inl (ct 0, 6, .inl (fun _ => 0))), (x 51, .inl (ct 0, 6, .inl (fun _ => 0))), (x 52, .inl (ct 0, 6, .inl (fun _ => 0))), (x 53, .inl (ct 0, 6, .inl (fun _ => 0))), (x 54, .inr (7, [.ref (x 55), .ref (x 56), .ref (x 57), .ref (x 58), .ref (x 59), .int x11]))] H := hw
                  refine zfr 231 [.int 0] rfl rfl ?_
                  exact ziret hx hb hr (rfl) hlocks () (by simp [zyr, zwi, c_1, c_2, c_3, c_4, c_5, c_6, c_14]) (trivial) hw [] rfl (rfl) hS (Nat.le_of_ble_eq_true rfl) (Nat.le_of_ble_eq_true rfl) dX11_years_231
              · intro i10 x17 hlt20 hI18 ih19 H locs ls hw hS hl
                have hw : zPD D A [(h0, .inr (10, [.ref (x 1), .ref (x 3), .ref (x 15), .ref (x 27), .ref (x 28), .ref (x 32), .ref (x 36), .ref (x 37), .ref (x 48), .ref (x 54), .ref (x 60), .ref (x 61), .ref (x 68), .int 0, .int 0])), (x 3, .inr (2, [.ref (x 4), .ref (x 5), .ref (x 6), .ref (x 7), .ref (x 8), .ref (x 9), .ref (x 10), .ref (x 11), .ref (x 12), .int 0, .int 0, .int 1, .int 2])), (x 36, .inr (0, [.ref (x 3)])), (x 54, .inr (7, [.ref (x 55), .ref (x 56), .ref (x 57), .ref (x 58), .ref (x 59), .int x17])), (x 55, .inl (ct 0, 6, .inl (va_cpy (fun _ => 0) (fun _ => 0) 0 0 6))), (x 56, .inl (ct 0, 6, .inl (va_cpy (fun _ => 0) (fun _ => 0) 0 0 6))), (x 57, .inl (ct 0, 6, .inl (va_cpy (fun _ => 0) (fun _ => 0) 0 0 6))), (x 58, .inl (ct 0, 6, .inl (va_cpy (fun _ => 0) (fun _ => 0) 0 0 6))), (x 59, .inl (ct 0, 6, .inl (va_cpy (fun _ => 0) (fun _ => 0) 0 0 6))), (x 48, .inr (7, [.ref (x 49), .ref (x 50), .ref (x 51), .ref (x 52), .ref (x 53), .int 0])), (x 49, .inl (ct 0, 6, .inl (fun _ => 0))), (x 50, .inl (ct 0, 6, .inl (fun _ => 0))), (x 51, .inl (ct 0, 6, .inl (fun _ => 0))), (x 52, .inl (ct 0, 6, .inl (fun _ => 0))), (x 53, .inl (ct 0, 6, .inl (fun _ => 0)))] H := hw
                have hl : lv_has ls 11 [(8, .int (nI i10)), (0, .ref h0), (1, .int p1), (2, .int (nI n8)), (3, .int p3), (4, .long p1.toInt64), (6, .int 0), (7, .int 0)] := hl
                refine lv_iload hx hb dX11_years_57 (lv_at hl 0 rfl) ?_
                refine lv_iload_n hx hb dX11_years_59 rfl (lv_at hl 3 rfl) ?_
                refine lv_icmp_ge (tgt := 212) hx hb dX11_years_60 (by decide) (fun h => absurd h (nI_ge hlt20 (by omega))) (fun _ => ?_)
                refine lv_iconst (v := 0) hx hb dX11_years_63 (by decide) ?_
                refine lv_istore (lv' := [(9, .int 0), (8, .int (nI i10)), (0, .ref h0), (1, .int p1), (2, .int (nI n8)), (3, .int p3), (4, .long p1.toInt64), (6, .int 0), (7, .int 0)]) hx hb dX11_years_64 hl (by decide) rfl (fun ls hl => ?_)
                refine lv_iload hx hb dX11_years_66 (lv_at hl 0 rfl) ?_
                refine lv_aload_n hx hb dX11_years_68 rfl (lv_at hl 2 rfl) ?_
                refine va_get (D := D) (ci := 10) (v := .ref (x 3)) hx hb hts hiX11 hown hK hw.1 0 rfl rfl 1 (by decide) (hts (.fieldLink RX11 19 "BeardPass" "told" "LBeardPass$Land;") (by decide +kernel)) (fun _ h9 => h9) rfl dX11_years_69 ?_
                refine va_get (D := D) (ci := 2) (v := .int 0) hx hb hts hiX2 hown hK hw.1 1 rfl rfl 10 (by decide) (hts (.fieldLink RX11 172 "BeardPass$Land" "persons" "I") (by decide +kernel)) (fun _ h9 => h9) rfl dX11_years_72 ?_
                refine lv_icmp_ge (tgt := 195) hx hb dX11_years_75 (by decide) (fun _ => ?_) (fun h => absurd (by decide) h)
                refine lv_aload_n hx hb dX11_years_195 rfl (lv_at hl 2 rfl) ?_
                refine va_get (D := D) (ci := 10) (v := .ref (x 36)) hx hb hts hiX11 hown hK hw.1 0 rfl rfl 6 (by decide) (hts (.fieldLink RX11 48 "BeardPass" "frontier" "LBeardPass$Frontier;") (by decide +kernel)) (fun _ h9 => h9) rfl dX11_years_196 ?_
                refine lv_aload_n hx hb dX11_years_199 rfl (lv_at hl 2 rfl) ?_
                refine va_get (D := D) (ci := 10) (v := .ref (x 54)) hx hb hts hiX11 hown hK hw.1 0 rfl rfl 9 (by decide) (hts (.fieldLink RX11 68 "BeardPass" "trial" "LBeardPass$Standing;") (by decide +kernel)) (fun _ h9 => h9) rfl dX11_years_200 ?_
                refine zcall2 (va_runV (As := [.ref (x 54)]) (rest := []) ⟨hx, hb, hml, hown, hts⟩ (c_X0_pass l D ct (x 36) (x 54) (x 3) (x 55) (x 56) (x 57) (x 58) (x 59) x17 (x 4) (x 5) (x 6) (x 7) (x 8) (x 9) (x 10) (x 11) (x 12) 0 1 2 H.size) (cwV 1 hts gX11_years_X0_passWeek rfl rfl rfl (by decide +kernel) ⟨Nat.le_of_ble_eq_true rfl, Nat.le_of_ble_eq_true rfl⟩) (zpreV hK hw hS hA zZ.nil hN [2, 3, 1] rfl rfl 0 2 rfl rfl) rfl rfl hl.1 rfl (lv_room (Nat.le_of_ble_eq_true rfl)) dX11_years_203 ⟨Nat.le_of_ble_eq_true rfl, Nat.le_of_ble_eq_true rfl⟩) hw hS hA [2, 3, 1] [0, 4, 5, 6, 7, 8, 9, 10, 11, 12, 13, 14] rfl rfl rfl rfl (fun _ H locs hp23 hw hS => ?_)
                have hw : zPD D A [(h0, .inr (10, [.ref (x 1), .ref (x 3), .ref (x 15), .ref (x 27), .ref (x 28), .ref (x 32), .ref (x 36), .ref (x 37), .ref (x 48), .ref (x 54), .ref (x 60), .ref (x 61), .ref (x 68), .int 0, .int 0])), (x 55, .inl (ct 0, 6, .inl (va_cpy (fun _ => 0) (fun _ => 0) 0 0 6))), (x 56, .inl (ct 0, 6, .inl (va_cpy (fun _ => 0) (fun _ => 0) 0 0 6))), (x 57, .inl (ct 0, 6, .inl (va_cpy (fun _ => 0) (fun _ => 0) 0 0 6))), (x 58, .inl (ct 0, 6, .inl (va_cpy (fun _ => 0) (fun _ => 0) 0 0 6))), (x 59, .inl (ct 0, 6, .inl (va_cpy (fun _ => 0) (fun _ => 0) 0 0 6))), (x 48, .inr (7, [.ref (x 49), .ref (x 50), .ref (x 51), .ref (x 52), .ref (x 53), .int 0])), (x 49, .inl (ct 0, 6, .inl (fun _ => 0))), (x 50, .inl (ct 0, 6, .inl (fun _ => 0))), (x 51, .inl (ct 0, 6, .inl (fun _ => 0))), (x 52, .inl (ct 0, 6, .inl (fun _ => 0))), (x 53, .inl (ct 0, 6, .inl (fun _ => 0))), (x 36, .inr (0, [.ref (x 3)])), (x 54, .inr (7, [.ref (x 55), .ref (x 56), .ref (x 57), .ref (x 58), .ref (x 59), .int (x17 + 1)])), (x 3, .inr (2, [.ref (x 4), .ref (x 5), .ref (x 6), .ref (x 7), .ref (x 8), .ref (x 9), .ref (x 10), .ref (x 11), .ref (x 12), .int 0, .int 0, .int 1, .int 2]))] H := hw
                refine zfr 206 [] rfl rfl ?_
                refine lv_iinc (v := nI (i10 + 1)) (lv' := [(8, .int (nI (i10 + 1))), (9, .int 0), (0, .ref h0), (1, .int p1), (2, .int (nI n8)), (3, .int p3), (4, .long p1.toInt64), (6, .int 0), (7, .int 0)]) hx hb dX11_years_206 hl (k := 1) rfl (nI_add _ 1) (by decide) rfl (fun ls hl => ?_)
                refine lv_goto (tgt := 57) hx hb dX11_years_209 (by decide) ?_
                exact ih19 (x17 + 1) (trivial) H locs ls (hw.sub [0, 14, 12, 13, 1, 2, 3, 4, 5, 6, 7, 8, 9, 10, 11] rfl rfl) hS (lv_sub hl [0, 2, 3, 4, 5, 6, 7, 8] rfl)
            · refine lv_iconst (v := (-1)) hx hb dX11_years_31 (by decide) ?_
              exact ziret hx hb hr (rfl) hlocks () (by simp [zyr, zwi, c_1, c_2, c_3, c_4, c_5, c_6]) (trivial) hw [] rfl (rfl) hS (Nat.le_of_ble_eq_true rfl) (Nat.le_of_ble_eq_true rfl) dX11_years_32

set_option maxHeartbeats 4000000 in
set_option maxRecDepth 100000 in
/-- Mark.lay of a new object -/
theorem c_lay (l : Launch) (D : va_G) (ct : Nat → ClassId) (n0 : Nat) (n1 : Nat) (n2 : Nat) (n3 : Nat) (n4 : Nat) (n5 : Nat) (i0 : Nat) (i1 : Nat) (i2 : Nat) (i3 : Nat) (s0 : Nat) (m0 : Nat) (m1 : Nat) (m2 : Nat) (m3 : Nat) (m4 : Nat) (m5 : Nat) (m6 : Nat) (j0 : Nat) (j1 : Nat) (j2 : Nat) (j3 : Nat) (g0 : Nat)  : zC l yX5_lay wsX5_lay ({ frames := 3, cells := 0, slots := 0, locals := 160 }) D ct [] [.ref m0, .ref n0, .ref i0, .ref s0] [(m0, .inr (5, [.ref m1, .ref j0, .ref g0, .int 0])), (m1, .inr (7, [.ref m2, .ref m3, .ref m4, .ref m5, .ref m6, .int 0])), (m2, .inl (ct 0, 6, .inl (fun _ => 0))), (m3, .inl (ct 0, 6, .inl (fun _ => 0))), (m4, .inl (ct 0, 6, .inl (fun _ => 0))), (m5, .inl (ct 0, 6, .inl (fun _ => 0))), (m6, .inl (ct 0, 6, .inl (fun _ => 0))), (j0, .inr (1, [.ref j1, .ref j2, .ref j3, .int 0])), (j1, .inl (ct 0, 40, .inl (fun _ => 0))), (j2, .inl (ct 0, 40, .inl (fun _ => 0))), (j3, .inl (ct 0, 40, .inl (fun _ => 0))), (g0, .inr (6, [.int 2147483647, .int 0])), (n0, .inr (7, [.ref n1, .ref n2, .ref n3, .ref n4, .ref n5, .int 0])), (n1, .inl (ct 0, 6, .inl (fun _ => 0))), (n2, .inl (ct 0, 6, .inl (fun _ => 0))), (n3, .inl (ct 0, 6, .inl (fun _ => 0))), (n4, .inl (ct 0, 6, .inl (fun _ => 0))), (n5, .inl (ct 0, 6, .inl (fun _ => 0))), (i0, .inr (1, [.ref i1, .ref i2, .ref i3, .int 0])), (i1, .inl (ct 0, 40, .inl (fun _ => 0))), (i2, .inl (ct 0, 40, .inl (fun _ => 0))), (i3, .inl (ct 0, 40, .inl (fun _ => 0))), (s0, .inr (6, [.int 2147483647, .int 0]))] (S := Unit) (fun _ => none) (fun _ => True) (fun _ => []) 0 0 := by
  refine zofW cX5_lay 4 none (by decide) rfl (Nat.le_of_ble_eq_true rfl) ?_
  intro p e s m below meth c A hx hb hr hml hts hown hlocks hname hK hA hZ hN H locs hw hS ls hl
  have hown : s.vm.findClass RX5 = some m.cls := hown
  have hl : lv_has ls 4 [(0, .ref m0), (1, .ref n0), (2, .ref i0), (3, .ref s0)] := hl
  have hiX5 : ∀ w ∈ wsX50, w ∈ wsX5_lay := by decide +kernel
  refine lv_aload_n hx hb dX5_lay_0 rfl (lv_at hl 0 rfl) ?_
  refine va_get (D := D) (ci := 5) (v := .ref m1) hx hb hts hiX5 hown hK hw.1 0 rfl rfl 0 (by decide) (hts (.fieldLink RX5 10 "BeardPass$Mark" "standing" "LBeardPass$Standing;") (by decide +kernel)) (fun _ h9 => h9) rfl dX5_lay_1 ?_
  refine lv_aload_n hx hb dX5_lay_4 rfl (lv_at hl 1 rfl) ?_
  refine zcall2 (va_runV (As := [.ref n0]) (rest := []) ⟨hx, hb, hml, hown, hts⟩ (c_X8_copy l D ct m1 n0 m2 m3 m4 m5 m6 n1 n2 n3 n4 n5 (fun _ => 0) (fun _ => 0) (fun _ => 0) (fun _ => 0) (fun _ => 0) (fun _ => 0) (fun _ => 0) (fun _ => 0) (fun _ => 0) (fun _ => 0) 0 0 H.size) (cwV 1 hts gX5_lay_X8_copy rfl rfl rfl (by decide +kernel) ⟨Nat.le_of_ble_eq_true rfl, Nat.le_of_ble_eq_true rfl⟩) (zpreV hK hw hS hA zZ.nil hN [1, 2, 3, 4, 5, 6, 12, 13, 14, 15, 16, 17] rfl rfl 7 1 rfl rfl) rfl rfl hl.1 rfl (lv_room (Nat.le_of_ble_eq_true rfl)) dX5_lay_5 ⟨Nat.le_of_ble_eq_true rfl, Nat.le_of_ble_eq_true rfl⟩) hw hS hA [1, 2, 3, 4, 5, 6, 12, 13, 14, 15, 16, 17] [0, 7, 8, 9, 10, 11, 18, 19, 20, 21, 22] rfl rfl rfl rfl (fun _ H locs hp1 hw hS => ?_)
  have hw : zPD D A [(m0, .inr (5, [.ref m1, .ref j0, .ref g0, .int 0])), (j0, .inr (1, [.ref j1, .ref j2, .ref j3, .int 0])), (j1, .inl (ct 0, 40, .inl (fun _ => 0))), (j2, .inl (ct 0, 40, .inl (fun _ => 0))), (j3, .inl (ct 0, 40, .inl (fun _ => 0))), (g0, .inr (6, [.int 2147483647, .int 0])), (i0, .inr (1, [.ref i1, .ref i2, .ref i3, .int 0])), (i1, .inl (ct 0, 40, .inl (fun _ => 0))), (i2, .inl (ct 0, 40, .inl (fun _ => 0))), (i3, .inl (ct 0, 40, .inl (fun _ => 0))), (s0, .inr (6, [.int 2147483647, .int 0])), (m1, .inr (7, [.ref m2, .ref m3, .ref m4, .ref m5, .ref m6, .int 0])), (m2, .inl (ct 0, 6, .inl (va_cpy (fun _ => 0) (fun _ => 0) 0 0 6))), (m3, .inl (ct 0, 6, .inl (va_cpy (fun _ => 0) (fun _ => 0) 0 0 6))), (m4, .inl (ct 0, 6, .inl (va_cpy (fun _ => 0) (fun _ => 0) 0 0 6))), (m5, .inl (ct 0, 6, .inl (va_cpy (fun _ => 0) (fun _ => 0) 0 0 6))), (m6, .inl (ct 0, 6, .inl (va_cpy (fun _ => 0) (fun _ => 0) 0 0 6))), (n0, .inr (7, [.ref n1, .ref n2, .ref n3, .ref n4, .ref n5, .int 0])), (n1, .inl (ct 0, 6, .inl (fun _ => 0))), (n2, .inl (ct 0, 6, .inl (fun _ => 0))), (n3, .inl (ct 0, 6, .inl (fun _ => 0))), (n4, .inl (ct 0, 6, .inl (fun _ => 0))), (n5, .inl (ct 0, 6, .inl (fun _ => 0)))] H := hw
  refine zfr 8 [] rfl rfl ?_
  refine lv_aload_n hx hb dX5_lay_8 rfl (lv_at hl 0 rfl) ?_
  refine va_get (D := D) (ci := 5) (v := .ref j0) hx hb hts hiX5 hown hK hw.1 0 rfl rfl 1 (by decide) (hts (.fieldLink RX5 19 "BeardPass$Mark" "plan" "LBeardPass$Journey;") (by decide +kernel)) (fun _ h9 => h9) rfl dX5_lay_9 ?_
  refine lv_aload_n hx hb dX5_lay_12 rfl (lv_at hl 2 rfl) ?_
  refine zcall2 (va_runV (As := [.ref i0]) (rest := []) ⟨hx, hb, hml, hown, hts⟩ (c_X1_copy l D ct j0 i0 j1 j2 j3 i1 i2 i3 (fun _ => 0) (fun _ => 0) (fun _ => 0) (fun _ => 0) (fun _ => 0) (fun _ => 0) 0 0 (by decide) H.size) (cwV 1 hts gX5_lay_X1_copy rfl rfl rfl (by decide +kernel) ⟨Nat.le_of_ble_eq_true rfl, Nat.le_of_ble_eq_true rfl⟩) (zpreV hK hw hS hA zZ.nil hN [1, 2, 3, 4, 6, 7, 8, 9] rfl rfl 1 1 rfl rfl) rfl rfl hl.1 rfl (lv_room (Nat.le_of_ble_eq_true rfl)) dX5_lay_13 ⟨Nat.le_of_ble_eq_true rfl, Nat.le_of_ble_eq_true rfl⟩) hw hS hA [1, 2, 3, 4, 6, 7, 8, 9] [0, 5, 10, 11, 12, 13, 14, 15, 16, 17, 18, 19, 20, 21, 22] rfl rfl rfl rfl (fun _ H locs hp2 hw hS => ?_)
  have hw : zPD D A [(m0, .inr (5, [.ref m1, .ref j0, .ref g0, .int 0])), (g0, .inr (6, [.int 2147483647, .int 0])), (s0, .inr (6, [.int 2147483647, .int 0])), (m1, .inr (7, [.ref m2, .ref m3, .ref m4, .ref m5, .ref m6, .int 0])), (m2, .inl (ct 0, 6, .inl (va_cpy (fun _ => 0) (fun _ => 0) 0 0 6))), (m3, .inl (ct 0, 6, .inl (va_cpy (fun _ => 0) (fun _ => 0) 0 0 6))), (m4, .inl (ct 0, 6, .inl (va_cpy (fun _ => 0) (fun _ => 0) 0 0 6))), (m5, .inl (ct 0, 6, .inl (va_cpy (fun _ => 0) (fun _ => 0) 0 0 6))), (m6, .inl (ct 0, 6, .inl (va_cpy (fun _ => 0) (fun _ => 0) 0 0 6))), (n0, .inr (7, [.ref n1, .ref n2, .ref n3, .ref n4, .ref n5, .int 0])), (n1, .inl (ct 0, 6, .inl (fun _ => 0))), (n2, .inl (ct 0, 6, .inl (fun _ => 0))), (n3, .inl (ct 0, 6, .inl (fun _ => 0))), (n4, .inl (ct 0, 6, .inl (fun _ => 0))), (n5, .inl (ct 0, 6, .inl (fun _ => 0))), (j0, .inr (1, [.ref j1, .ref j2, .ref j3, .int (nI 0)])), (j1, .inl (ct 0, 40, .inl (va_cpy (fun _ => 0) (fun _ => 0) 0 0 0))), (j2, .inl (ct 0, 40, .inl (va_cpy (fun _ => 0) (fun _ => 0) 0 0 0))), (j3, .inl (ct 0, 40, .inl (va_cpy (fun _ => 0) (fun _ => 0) 0 0 0))), (i0, .inr (1, [.ref i1, .ref i2, .ref i3, .int (nI 0)])), (i1, .inl (ct 0, 40, .inl (fun _ => 0))), (i2, .inl (ct 0, 40, .inl (fun _ => 0))), (i3, .inl (ct 0, 40, .inl (fun _ => 0)))] H := hw
  refine zfr 16 [] rfl rfl ?_
  refine lv_aload_n hx hb dX5_lay_16 rfl (lv_at hl 0 rfl) ?_
  refine va_get (D := D) (ci := 5) (v := .ref g0) hx hb hts hiX5 hown hK hw.1 0 rfl rfl 2 (by decide) (hts (.fieldLink RX5 26 "BeardPass$Mark" "sightings" "LBeardPass$Sightings;") (by decide +kernel)) (fun _ h9 => h9) rfl dX5_lay_17 ?_
  refine lv_aload_n hx hb dX5_lay_20 rfl (lv_at hl 3 rfl) ?_
  refine zcall2 (va_runV (As := [.ref s0]) (rest := []) ⟨hx, hb, hml, hown, hts⟩ (c_X6_copy l D ct g0 s0 2147483647 0 2147483647 0 H.size) (cwV 1 hts gX5_lay_X6_copy rfl rfl rfl (by decide +kernel) ⟨Nat.le_of_ble_eq_true rfl, Nat.le_of_ble_eq_true rfl⟩) (zpreV hK hw hS hA zZ.nil hN [1, 2] rfl rfl 6 1 rfl rfl) rfl rfl hl.1 rfl (lv_room (Nat.le_of_ble_eq_true rfl)) dX5_lay_21 ⟨Nat.le_of_ble_eq_true rfl, Nat.le_of_ble_eq_true rfl⟩) hw hS hA [1, 2] [0, 3, 4, 5, 6, 7, 8, 9, 10, 11, 12, 13, 14, 15, 16, 17, 18, 19, 20, 21, 22] rfl rfl rfl rfl (fun _ H locs hp3 hw hS => ?_)
  have hw : zPD D A [(m0, .inr (5, [.ref m1, .ref j0, .ref g0, .int 0])), (m1, .inr (7, [.ref m2, .ref m3, .ref m4, .ref m5, .ref m6, .int 0])), (m2, .inl (ct 0, 6, .inl (va_cpy (fun _ => 0) (fun _ => 0) 0 0 6))), (m3, .inl (ct 0, 6, .inl (va_cpy (fun _ => 0) (fun _ => 0) 0 0 6))), (m4, .inl (ct 0, 6, .inl (va_cpy (fun _ => 0) (fun _ => 0) 0 0 6))), (m5, .inl (ct 0, 6, .inl (va_cpy (fun _ => 0) (fun _ => 0) 0 0 6))), (m6, .inl (ct 0, 6, .inl (va_cpy (fun _ => 0) (fun _ => 0) 0 0 6))), (n0, .inr (7, [.ref n1, .ref n2, .ref n3, .ref n4, .ref n5, .int 0])), (n1, .inl (ct 0, 6, .inl (fun _ => 0))), (n2, .inl (ct 0, 6, .inl (fun _ => 0))), (n3, .inl (ct 0, 6, .inl (fun _ => 0))), (n4, .inl (ct 0, 6, .inl (fun _ => 0))), (n5, .inl (ct 0, 6, .inl (fun _ => 0))), (j0, .inr (1, [.ref j1, .ref j2, .ref j3, .int (nI 0)])), (j1, .inl (ct 0, 40, .inl (va_cpy (fun _ => 0) (fun _ => 0) 0 0 0))), (j2, .inl (ct 0, 40, .inl (va_cpy (fun _ => 0) (fun _ => 0) 0 0 0))), (j3, .inl (ct 0, 40, .inl (va_cpy (fun _ => 0) (fun _ => 0) 0 0 0))), (i0, .inr (1, [.ref i1, .ref i2, .ref i3, .int (nI 0)])), (i1, .inl (ct 0, 40, .inl (fun _ => 0))), (i2, .inl (ct 0, 40, .inl (fun _ => 0))), (i3, .inl (ct 0, 40, .inl (fun _ => 0))), (g0, .inr (6, [.int 2147483647, .int 0])), (s0, .inr (6, [.int 2147483647, .int 0]))] H := hw
  refine zfr 24 [] rfl rfl ?_
  refine lv_aload_n hx hb dX5_lay_24 rfl (lv_at hl 0 rfl) ?_
  refine lv_iconst (v := 1) hx hb dX5_lay_25 (by decide) ?_
  refine zput (D := D) (ci := 5) (v := .int 1) (ty := .boolean) hx hb hts hiX5 tyX5 tyX5_ok nmX5 hown hK hw hS 0 rfl rfl 3 (by decide) (hts (.fieldLink RX5 30 "BeardPass$Mark" "laid" "Z") (by decide +kernel)) (fun _ h9 => h9) rfl (by decide +kernel) rfl rfl (Nat.le_of_ble_eq_true rfl) dX5_lay_26 [(m0, .inr (5, [.ref m1, .ref j0, .ref g0, .int 1])), (m1, .inr (7, [.ref m2, .ref m3, .ref m4, .ref m5, .ref m6, .int 0])), (m2, .inl (ct 0, 6, .inl (va_cpy (fun _ => 0) (fun _ => 0) 0 0 6))), (m3, .inl (ct 0, 6, .inl (va_cpy (fun _ => 0) (fun _ => 0) 0 0 6))), (m4, .inl (ct 0, 6, .inl (va_cpy (fun _ => 0) (fun _ => 0) 0 0 6))), (m5, .inl (ct 0, 6, .inl (va_cpy (fun _ => 0) (fun _ => 0) 0 0 6))), (m6, .inl (ct 0, 6, .inl (va_cpy (fun _ => 0) (fun _ => 0) 0 0 6))), (n0, .inr (7, [.ref n1, .ref n2, .ref n3, .ref n4, .ref n5, .int 0])), (n1, .inl (ct 0, 6, .inl (fun _ => 0))), (n2, .inl (ct 0, 6, .inl (fun _ => 0))), (n3, .inl (ct 0, 6, .inl (fun _ => 0))), (n4, .inl (ct 0, 6, .inl (fun _ => 0))), (n5, .inl (ct 0, 6, .inl (fun _ => 0))), (j0, .inr (1, [.ref j1, .ref j2, .ref j3, .int (nI 0)])), (j1, .inl (ct 0, 40, .inl (va_cpy (fun _ => 0) (fun _ => 0) 0 0 0))), (j2, .inl (ct 0, 40, .inl (va_cpy (fun _ => 0) (fun _ => 0) 0 0 0))), (j3, .inl (ct 0, 40, .inl (va_cpy (fun _ => 0) (fun _ => 0) 0 0 0))), (i0, .inr (1, [.ref i1, .ref i2, .ref i3, .int (nI 0)])), (i1, .inl (ct 0, 40, .inl (fun _ => 0))), (i2, .inl (ct 0, 40, .inl (fun _ => 0))), (i3, .inl (ct 0, 40, .inl (fun _ => 0))), (g0, .inr (6, [.int 2147483647, .int 0])), (s0, .inr (6, [.int 2147483647, .int 0]))] rfl (fun H locs hw hS => ?_)
  exact zvret hx hb hr hlocks () rfl (trivial) hw [] rfl (rfl) hS (Nat.le_of_ble_eq_true rfl) (Nat.le_of_ble_eq_true rfl) dX5_lay_29

set_option maxHeartbeats 4000000 in
set_option maxRecDepth 100000 in
/-- mark 0 to 3 on a new object -/
theorem k_markin (l : Launch) (D : va_G) (ct : Nat → ClassId) (h0 : Nat) (x : Nat → Nat) (k : Nat) (p2 : Int32) (fm : Nat → Option Nat) (m0 : Nat) (m1 : Nat) (m2 : Nat) (m3 : Nat) (m4 : Nat) (m5 : Nat) (m6 : Nat) (j0 : Nat) (j1 : Nat) (j2 : Nat) (j3 : Nat) (g0 : Nat) (hk : k < 4) (hfm : fm k = some m0) : zC l yX11_mark wsX11_mark ({ frames := 4, cells := 0, slots := 0, locals := 200 }) D ct [] [.ref h0, .int (nI k), .int p2] [(h0, .inr (10, [.ref (x 1), .ref (x 3), .ref (x 15), .ref (x 27), .ref (x 28), .ref (x 32), .ref (x 36), .ref (x 37), .ref (x 48), .ref (x 54), .ref (x 60), .ref (x 61), .ref (x 68), .int 0, .int 0])), (x 68, .inl (ct 5, 4, .inr (.inr (.inr (.inr fm))))), (x 60, .inr (6, [.int 2147483647, .int 0])), (x 48, .inr (7, [.ref (x 49), .ref (x 50), .ref (x 51), .ref (x 52), .ref (x 53), .int 0])), (x 49, .inl (ct 0, 6, .inl (fun _ => 0))), (x 50, .inl (ct 0, 6, .inl (fun _ => 0))), (x 51, .inl (ct 0, 6, .inl (fun _ => 0))), (x 52, .inl (ct 0, 6, .inl (fun _ => 0))), (x 53, .inl (ct 0, 6, .inl (fun _ => 0))), (x 28, .inr (1, [.ref (x 29), .ref (x 30), .ref (x 31), .int 0])), (x 29, .inl (ct 0, 40, .inl (fun _ => 0))), (x 30, .inl (ct 0, 40, .inl (fun _ => 0))), (x 31, .inl (ct 0, 40, .inl (fun _ => 0))), (m0, .inr (5, [.ref m1, .ref j0, .ref g0, .int 0])), (m1, .inr (7, [.ref m2, .ref m3, .ref m4, .ref m5, .ref m6, .int 0])), (m2, .inl (ct 0, 6, .inl (fun _ => 0))), (m3, .inl (ct 0, 6, .inl (fun _ => 0))), (m4, .inl (ct 0, 6, .inl (fun _ => 0))), (m5, .inl (ct 0, 6, .inl (fun _ => 0))), (m6, .inl (ct 0, 6, .inl (fun _ => 0))), (j0, .inr (1, [.ref j1, .ref j2, .ref j3, .int 0])), (j1, .inl (ct 0, 40, .inl (fun _ => 0))), (j2, .inl (ct 0, 40, .inl (fun _ => 0))), (j3, .inl (ct 0, 40, .inl (fun _ => 0))), (g0, .inr (6, [.int 2147483647, .int 0]))] (S := Unit) (fun _ => some (.int (if p2 = 0 then 1 else 0))) (fun _ => True) (fun _ => []) 0 0 := by
  refine zofW cX11_mark 4 (some .boolean) (by decide) rfl (Nat.le_of_ble_eq_true rfl) ?_
  intro p e s m below meth c A hx hb hr hml hts hown hlocks hname hK hA hZ hN H locs hw hS ls hl
  have hown : s.vm.findClass RX11 = some m.cls := hown
  have hl : lv_has ls 4 [(0, .ref h0), (1, .int (nI k)), (2, .int p2)] := hl
  have hiX11 : ∀ w ∈ wsX110, w ∈ wsX11_mark := by decide +kernel
  have hiX5 : ∀ w ∈ wsX50, w ∈ wsX11_mark := by decide +kernel
  refine lv_iload_n hx hb dX11_mark_0 rfl (lv_at hl 1 rfl) ?_
  refine lv_if_lt (tgt := 9) hx hb dX11_mark_1 (by decide) (fun h => absurd h (nI_pos (by omega))) (fun _ => ?_)
  refine lv_iload_n hx hb dX11_mark_4 rfl (lv_at hl 1 rfl) ?_
  refine lv_iconst (v := 4) hx hb dX11_mark_5 (by decide) ?_
  refine lv_icmp_lt (tgt := 11) hx hb dX11_mark_6 (by decide) (fun _ => ?_) (fun h => absurd (nI_lt hk (by decide)) h)
  refine lv_aload_n hx hb dX11_mark_11 rfl (lv_at hl 0 rfl) ?_
  refine va_get (D := D) (ci := 10) (v := .ref (x 68)) hx hb hts hiX11 hown hK hw.1 0 rfl rfl 12 (by decide) (hts (.fieldLink RX11 84 "BeardPass" "marks" "[LBeardPass$Mark;") (by decide +kernel)) (fun _ h9 => h9) rfl dX11_mark_12 ?_
  refine lv_iload_n hx hb dX11_mark_15 rfl (lv_at hl 1 rfl) ?_
  refine zaald hx hb hK hw 1 5 rfl rfl k (rfl) (by omega) (by decide) m0 (hfm) dX11_mark_16 ?_
  refine lv_astore_n (lv' := [(3, .ref m0), (0, .ref h0), (1, .int (nI k)), (2, .int p2)]) hx hb dX11_mark_17 rfl hl (by decide) rfl (fun ls hl => ?_)
  refine lv_iload_n hx hb dX11_mark_18 rfl (lv_at hl 3 rfl) ?_
  refine lv_if_ne (tgt := 40) hx hb dX11_mark_19 (by decide) (fun c_3 => ?_) (fun c_3 => ?_)
  · refine lv_aload_n hx hb dX11_mark_40 rfl (lv_at hl 0 rfl) ?_
    refine va_get (D := D) (ci := 5) (v := .int 0) hx hb hts hiX5 hown hK hw.1 13 rfl rfl 3 (by decide) (hts (.fieldLink RX11 125 "BeardPass$Mark" "laid" "Z") (by decide +kernel)) (fun _ h9 => h9) rfl dX11_mark_41 ?_
    refine lv_if_ne (tgt := 49) hx hb dX11_mark_44 (by decide) (fun h => absurd (by decide) h) (fun _ => ?_)
    refine lv_iconst (v := 0) hx hb dX11_mark_47 (by decide) ?_
    exact ziret hx hb hr (rfl) hlocks () (by rw [if_neg c_3]) (trivial) hw [] rfl (rfl) hS (Nat.le_of_ble_eq_true rfl) (Nat.le_of_ble_eq_true rfl) dX11_mark_48
  · refine lv_aload_n hx hb dX11_mark_22 rfl (lv_at hl 0 rfl) ?_
    refine lv_aload_n hx hb dX11_mark_23 rfl (lv_at hl 1 rfl) ?_
    refine va_get (D := D) (ci := 10) (v := .ref (x 48)) hx hb hts hiX11 hown hK hw.1 0 rfl rfl 8 (by decide) (hts (.fieldLink RX11 64 "BeardPass" "now" "LBeardPass$Standing;") (by decide +kernel)) (fun _ h9 => h9) rfl dX11_mark_24 ?_
    refine lv_aload_n hx hb dX11_mark_27 rfl (lv_at hl 1 rfl) ?_
    refine va_get (D := D) (ci := 10) (v := .ref (x 28)) hx hb hts hiX11 hown hK hw.1 0 rfl rfl 4 (by decide) (hts (.fieldLink RX11 36 "BeardPass" "plan" "LBeardPass$Journey;") (by decide +kernel)) (fun _ h9 => h9) rfl dX11_mark_28 ?_
    refine lv_aload_n hx hb dX11_mark_31 rfl (lv_at hl 1 rfl) ?_
    refine va_get (D := D) (ci := 10) (v := .ref (x 60)) hx hb hts hiX11 hown hK hw.1 0 rfl rfl 10 (by decide) (hts (.fieldLink RX11 74 "BeardPass" "sightings" "LBeardPass$Sightings;") (by decide +kernel)) (fun _ h9 => h9) rfl dX11_mark_32 ?_
    refine zcall2 (va_runV (As := [.ref (x 48), .ref (x 28), .ref (x 60)]) (rest := []) ⟨hx, hb, hml, hown, hts⟩ (c_lay l D ct (x 48) (x 49) (x 50) (x 51) (x 52) (x 53) (x 28) (x 29) (x 30) (x 31) (x 60) m0 m1 m2 m3 m4 m5 m6 j0 j1 j2 j3 g0 H.size) (cwV 3 hts gX11_mark_X5_lay rfl rfl rfl (by decide +kernel) ⟨Nat.le_of_ble_eq_true rfl, Nat.le_of_ble_eq_true rfl⟩) (zpreV hK hw hS hA zZ.nil hN [13, 14, 15, 16, 17, 18, 19, 20, 21, 22, 23, 24, 3, 4, 5, 6, 7, 8, 9, 10, 11, 12, 2] rfl rfl 5 13 rfl rfl) rfl rfl hl.1 rfl (lv_room (Nat.le_of_ble_eq_true rfl)) dX11_mark_35 ⟨Nat.le_of_ble_eq_true rfl, Nat.le_of_ble_eq_true rfl⟩) hw hS hA [13, 14, 15, 16, 17, 18, 19, 20, 21, 22, 23, 24, 3, 4, 5, 6, 7, 8, 9, 10, 11, 12, 2] [0, 1] rfl rfl rfl rfl (fun _ H locs hp5 hw hS => ?_)
    have hw : zPD D A [(h0, .inr (10, [.ref (x 1), .ref (x 3), .ref (x 15), .ref (x 27), .ref (x 28), .ref (x 32), .ref (x 36), .ref (x 37), .ref (x 48), .ref (x 54), .ref (x 60), .ref (x 61), .ref (x 68), .int 0, .int 0])), (x 68, .inl (ct 5, 4, .inr (.inr (.inr (.inr fm)))))] H := hw
    refine zfr 38 [] rfl rfl ?_
    refine lv_iconst (v := 1) hx hb dX11_mark_38 (by decide) ?_
    exact ziret hx hb hr (rfl) hlocks () (by rw [if_pos c_3]) (trivial) hw [] rfl (rfl) hS (Nat.le_of_ble_eq_true rfl) (Nat.le_of_ble_eq_true rfl) dX11_mark_39

set_option maxHeartbeats 4000000 in
set_option maxRecDepth 100000 in
/-- no such mark -/
theorem k_markout (l : Launch) (D : va_G) (ct : Nat → ClassId) (h0 : Nat) (x : Nat → Nat) (p1 : Int32) (p2 : Int32) (hm : p1.toInt < 0 ∨ 3 < p1.toInt) : zC l yX11_mark wsX11_mark ({ frames := 1, cells := 0, slots := 0, locals := 80 }) D ct [] [.ref h0, .int p1, .int p2] [(h0, .inr (10, [.ref (x 1), .ref (x 3), .ref (x 15), .ref (x 27), .ref (x 28), .ref (x 32), .ref (x 36), .ref (x 37), .ref (x 48), .ref (x 54), .ref (x 60), .ref (x 61), .ref (x 68), .int 0, .int 0]))] (S := Unit) (fun _ => some (.int 0)) (fun _ => True) (fun _ => []) 0 0 := by
  refine zofW cX11_mark 4 (some .boolean) (by decide) rfl (Nat.le_of_ble_eq_true rfl) ?_
  intro p e s m below meth c A hx hb hr hml hts hown hlocks hname hK hA hZ hN H locs hw hS ls hl
  have hown : s.vm.findClass RX11 = some m.cls := hown
  have hl : lv_has ls 4 [(0, .ref h0), (1, .int p1), (2, .int p2)] := hl
  refine lv_iload_n hx hb dX11_mark_0 rfl (lv_at hl 1 rfl) ?_
  refine lv_if_lt (tgt := 9) hx hb dX11_mark_1 (by decide) (fun c_1 => ?_) (fun c_1 => ?_)
  · refine lv_iconst (v := 0) hx hb dX11_mark_9 (by decide) ?_
    exact ziret hx hb hr (rfl) hlocks () (rfl) (trivial) hw [] rfl (rfl) hS (Nat.le_of_ble_eq_true rfl) (Nat.le_of_ble_eq_true rfl) dX11_mark_10
  · refine lv_iload_n hx hb dX11_mark_4 rfl (lv_at hl 1 rfl) ?_
    refine lv_iconst (v := 4) hx hb dX11_mark_5 (by decide) ?_
    refine lv_icmp_lt (tgt := 11) hx hb dX11_mark_6 (by decide) (fun h => absurd h (zm_out hm c_1)) (fun _ => ?_)
    refine lv_iconst (v := 0) hx hb dX11_mark_9 (by decide) ?_
    exact ziret hx hb hr (rfl) hlocks () (rfl) (trivial) hw [] rfl (rfl) hS (Nat.le_of_ble_eq_true rfl) (Nat.le_of_ble_eq_true rfl) dX11_mark_10
