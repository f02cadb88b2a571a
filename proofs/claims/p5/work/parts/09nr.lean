set_option maxHeartbeats 4000000 in
set_option maxRecDepth 100000 in
/-- within -/
theorem c_within (l : Launch) (D : va_G) (ct : Nat → ClassId) (v : Int32) (a : Int32) (b : Int32)  : zC l yX12_within wsX12_within ({ frames := 1, cells := 0, slots := 0, locals := 80 }) D ct [] [.int v, .int a, .int b] [] (S := Unit) (fun _ => some (.int (zwi v a b))) (fun _ => True) (fun _ => []) 0 0 := by
  refine zofW cX12_within 3 (some .boolean) (by decide) rfl (Nat.le_of_ble_eq_true rfl) ?_
  intro p e s m below meth c A hx hb hr hml hts hown hlocks hname hK hA hZ hN H locs hw hS ls hl
  have hown : s.vm.findClass RX12 = some m.cls := hown
  have hl : lv_has ls 3 [(0, .int v), (1, .int a), (2, .int b)] := hl
  refine lv_iload_n hx hb dX12_within_0 rfl (lv_at hl 0 rfl) ?_
  refine lv_iload_n hx hb dX12_within_1 rfl (lv_at hl 1 rfl) ?_
  refine lv_icmp_lt (tgt := 14) hx hb dX12_within_2 (by decide) (fun c_1 => ?_) (fun c_1 => ?_)
  · refine lv_iconst (v := 0) hx hb dX12_within_14 (by decide) ?_
    exact ziret hx hb hr (rfl) hlocks () (by simp [zwi, c_1]) (trivial) hw [] rfl (rfl) hS (Nat.le_of_ble_eq_true rfl) (Nat.le_of_ble_eq_true rfl) dX12_within_15
  · refine lv_iload_n hx hb dX12_within_5 rfl (lv_at hl 0 rfl) ?_
    refine lv_iload_n hx hb dX12_within_6 rfl (lv_at hl 2 rfl) ?_
    refine lv_icmp_gt (tgt := 14) hx hb dX12_within_7 (by decide) (fun c_2 => ?_) (fun c_2 => ?_)
    · refine lv_iconst (v := 0) hx hb dX12_within_14 (by decide) ?_
      exact ziret hx hb hr (rfl) hlocks () (by simp [zwi, c_1, c_2]) (trivial) hw [] rfl (rfl) hS (Nat.le_of_ble_eq_true rfl) (Nat.le_of_ble_eq_true rfl) dX12_within_15
    · refine lv_iconst (v := 1) hx hb dX12_within_10 (by decide) ?_
      refine lv_goto (tgt := 15) hx hb dX12_within_11 (by decide) ?_
      exact ziret hx hb hr (rfl) hlocks () (by simp [zwi, c_1, c_2]) (trivial) hw [] rfl (rfl) hS (Nat.le_of_ble_eq_true rfl) (Nat.le_of_ble_eq_true rfl) dX12_within_15


set_option maxHeartbeats 4000000 in
set_option maxRecDepth 100000 in
/-- isStake -/
theorem c_stake (l : Launch) (D : va_G) (ct : Nat → ClassId) (v : Int32)  : zC l yX11_isStake wsX11_isStake ({ frames := 1, cells := 0, slots := 0, locals := 80 }) D ct [] [.int v] [] (S := Unit) (fun _ => some (.int (zwi v 0 9))) (fun _ => True) (fun _ => []) 0 0 := by
  refine zofW cX11_isStake 1 (some .boolean) (by decide) rfl (Nat.le_of_ble_eq_true rfl) ?_
  intro p e s m below meth c A hx hb hr hml hts hown hlocks hname hK hA hZ hN H locs hw hS ls hl
  have hown : s.vm.findClass RX11 = some m.cls := hown
  have hl : lv_has ls 1 [(0, .int v)] := hl
  refine lv_iload_n hx hb dX11_isStake_0 rfl (lv_at hl 0 rfl) ?_
  refine lv_if_lt (tgt := 14) hx hb dX11_isStake_1 (by decide) (fun c_1 => ?_) (fun c_1 => ?_)
  · refine lv_iconst (v := 0) hx hb dX11_isStake_14 (by decide) ?_
    exact ziret hx hb hr (rfl) hlocks () (by simp [zwi, c_1]) (trivial) hw [] rfl (rfl) hS (Nat.le_of_ble_eq_true rfl) (Nat.le_of_ble_eq_true rfl) dX11_isStake_15
  · refine lv_iload_n hx hb dX11_isStake_4 rfl (lv_at hl 0 rfl) ?_
    refine lv_bipush (v := 9) hx hb dX11_isStake_5 (by decide) ?_
    refine lv_icmp_gt (tgt := 14) hx hb dX11_isStake_7 (by decide) (fun c_2 => ?_) (fun c_2 => ?_)
    · refine lv_iconst (v := 0) hx hb dX11_isStake_14 (by decide) ?_
      exact ziret hx hb hr (rfl) hlocks () (by simp [zwi, c_1, c_2]) (trivial) hw [] rfl (rfl) hS (Nat.le_of_ble_eq_true rfl) (Nat.le_of_ble_eq_true rfl) dX11_isStake_15
    · refine lv_iconst (v := 1) hx hb dX11_isStake_10 (by decide) ?_
      refine lv_goto (tgt := 15) hx hb dX11_isStake_11 (by decide) ?_
      exact ziret hx hb hr (rfl) hlocks () (by simp [zwi, c_1, c_2]) (trivial) hw [] rfl (rfl) hS (Nat.le_of_ble_eq_true rfl) (Nat.le_of_ble_eq_true rfl) dX11_isStake_15

set_option maxHeartbeats 4000000 in
set_option maxRecDepth 100000 in
theorem c_gg0 (l : Launch) (D : va_G) (ct : Nat → ClassId) (r : Int32) (w : Int32)  : zC l yX11_guardGets wsX11_guardGets ({ frames := 1, cells := 0, slots := 0, locals := 80 }) D ct [] [.int r, .int w, .int 0] [] (S := Unit) (fun _ => some (.int 0)) (fun _ => True) (fun _ => []) 0 0 := by
  refine zofW cX11_guardGets 3 (some .int) (by decide) rfl (Nat.le_of_ble_eq_true rfl) ?_
  intro p e s m below meth c A hx hb hr hml hts hown hlocks hname hK hA hZ hN H locs hw hS ls hl
  have hown : s.vm.findClass RX11 = some m.cls := hown
  have hl : lv_has ls 3 [(0, .int r), (1, .int w), (2, .int 0)] := hl
  refine lv_iload_n hx hb dX11_guardGets_0 rfl (lv_at hl 2 rfl) ?_
  refine lv_tableOut (tgt := 35) hx hb dX11_guardGets_1 (by decide) (by decide) ?_
  refine lv_iconst (v := 0) hx hb dX11_guardGets_35 (by decide) ?_
  exact ziret hx hb hr (rfl) hlocks () (rfl) (trivial) hw [] rfl (rfl) hS (Nat.le_of_ble_eq_true rfl) (Nat.le_of_ble_eq_true rfl) dX11_guardGets_36

set_option maxHeartbeats 4000000 in
set_option maxRecDepth 100000 in
theorem c_tg0 (l : Launch) (D : va_G) (ct : Nat → ClassId) (r : Int32) (w : Int32)  : zC l yX11_travellerGets wsX11_travellerGets ({ frames := 1, cells := 0, slots := 0, locals := 80 }) D ct [] [.int r, .int w, .int 0] [] (S := Unit) (fun _ => some (.int 0)) (fun _ => True) (fun _ => []) 0 0 := by
  refine zofW cX11_travellerGets 3 (some .int) (by decide) rfl (Nat.le_of_ble_eq_true rfl) ?_
  intro p e s m below meth c A hx hb hr hml hts hown hlocks hname hK hA hZ hN H locs hw hS ls hl
  have hown : s.vm.findClass RX11 = some m.cls := hown
  have hl : lv_has ls 3 [(0, .int r), (1, .int w), (2, .int 0)] := hl
  refine lv_iload_n hx hb dX11_travellerGets_0 rfl (lv_at hl 2 rfl) ?_
  refine lv_lookup (off := 32) (tgt := 33) hx hb dX11_travellerGets_1 (by decide) (by decide) (by decide) ?_
  refine lv_iconst (v := 0) hx hb dX11_travellerGets_33 (by decide) ?_
  exact ziret hx hb hr (rfl) hlocks () (rfl) (trivial) hw [] rfl (rfl) hS (Nat.le_of_ble_eq_true rfl) (Nat.le_of_ble_eq_true rfl) dX11_travellerGets_34

set_option maxHeartbeats 4000000 in
set_option maxRecDepth 100000 in
theorem c_gg1 (l : Launch) (D : va_G) (ct : Nat → ClassId) (r : Int32) (w : Int32)  : zC l yX11_guardGets wsX11_guardGets ({ frames := 1, cells := 0, slots := 0, locals := 80 }) D ct [] [.int r, .int w, .int 1] [] (S := Unit) (fun _ => some (.int (-w))) (fun _ => True) (fun _ => []) 0 0 := by
  refine zofW cX11_guardGets 3 (some .int) (by decide) rfl (Nat.le_of_ble_eq_true rfl) ?_
  intro p e s m below meth c A hx hb hr hml hts hown hlocks hname hK hA hZ hN H locs hw hS ls hl
  have hown : s.vm.findClass RX11 = some m.cls := hown
  have hl : lv_has ls 3 [(0, .int r), (1, .int w), (2, .int 1)] := hl
  refine lv_iload_n hx hb dX11_guardGets_0 rfl (lv_at hl 2 rfl) ?_
  refine lv_tableIn (off := 27) (tgt := 28) hx hb dX11_guardGets_1 (by decide) (by decide) (by decide) (by decide) ?_
  refine lv_iload_n hx hb dX11_guardGets_28 rfl (lv_at hl 1 rfl) ?_
  refine lv_ineg hx hb dX11_guardGets_29 ?_
  exact ziret hx hb hr (rfl) hlocks () (rfl) (trivial) hw [] rfl (rfl) hS (Nat.le_of_ble_eq_true rfl) (Nat.le_of_ble_eq_true rfl) dX11_guardGets_30

set_option maxHeartbeats 4000000 in
set_option maxRecDepth 100000 in
theorem c_tg1 (l : Launch) (D : va_G) (ct : Nat → ClassId) (r : Int32) (w : Int32)  : zC l yX11_travellerGets wsX11_travellerGets ({ frames := 1, cells := 0, slots := 0, locals := 80 }) D ct [] [.int r, .int w, .int 1] [] (S := Unit) (fun _ => some (.int w)) (fun _ => True) (fun _ => []) 0 0 := by
  refine zofW cX11_travellerGets 3 (some .int) (by decide) rfl (Nat.le_of_ble_eq_true rfl) ?_
  intro p e s m below meth c A hx hb hr hml hts hown hlocks hname hK hA hZ hN H locs hw hS ls hl
  have hown : s.vm.findClass RX11 = some m.cls := hown
  have hl : lv_has ls 3 [(0, .int r), (1, .int w), (2, .int 1)] := hl
  refine lv_iload_n hx hb dX11_travellerGets_0 rfl (lv_at hl 2 rfl) ?_
  refine lv_lookup (off := 27) (tgt := 28) hx hb dX11_travellerGets_1 (by decide) (by decide) (by decide) ?_
  refine lv_iload_n hx hb dX11_travellerGets_28 rfl (lv_at hl 1 rfl) ?_
  exact ziret hx hb hr (rfl) hlocks () (rfl) (trivial) hw [] rfl (rfl) hS (Nat.le_of_ble_eq_true rfl) (Nat.le_of_ble_eq_true rfl) dX11_travellerGets_29

set_option maxHeartbeats 4000000 in
set_option maxRecDepth 100000 in
theorem c_gg2 (l : Launch) (D : va_G) (ct : Nat → ClassId) (r : Int32) (w : Int32)  : zC l yX11_guardGets wsX11_guardGets ({ frames := 1, cells := 0, slots := 0, locals := 80 }) D ct [] [.int r, .int w, .int 2] [] (S := Unit) (fun _ => some (.int (-1))) (fun _ => True) (fun _ => []) 0 0 := by
  refine zofW cX11_guardGets 3 (some .int) (by decide) rfl (Nat.le_of_ble_eq_true rfl) ?_
  intro p e s m below meth c A hx hb hr hml hts hown hlocks hname hK hA hZ hN H locs hw hS ls hl
  have hown : s.vm.findClass RX11 = some m.cls := hown
  have hl : lv_has ls 3 [(0, .int r), (1, .int w), (2, .int 2)] := hl
  refine lv_iload_n hx hb dX11_guardGets_0 rfl (lv_at hl 2 rfl) ?_
  refine lv_tableIn (off := 30) (tgt := 31) hx hb dX11_guardGets_1 (by decide) (by decide) (by decide) (by decide) ?_
  refine lv_iconst (v := (-1)) hx hb dX11_guardGets_31 (by decide) ?_
  exact ziret hx hb hr (rfl) hlocks () (rfl) (trivial) hw [] rfl (rfl) hS (Nat.le_of_ble_eq_true rfl) (Nat.le_of_ble_eq_true rfl) dX11_guardGets_32

set_option maxHeartbeats 4000000 in
set_option maxRecDepth 100000 in
theorem c_tg2 (l : Launch) (D : va_G) (ct : Nat → ClassId) (r : Int32) (w : Int32)  : zC l yX11_travellerGets wsX11_travellerGets ({ frames := 1, cells := 0, slots := 0, locals := 80 }) D ct [] [.int r, .int w, .int 2] [] (S := Unit) (fun _ => some (.int 0)) (fun _ => True) (fun _ => []) 0 0 := by
  refine zofW cX11_travellerGets 3 (some .int) (by decide) rfl (Nat.le_of_ble_eq_true rfl) ?_
  intro p e s m below meth c A hx hb hr hml hts hown hlocks hname hK hA hZ hN H locs hw hS ls hl
  have hown : s.vm.findClass RX11 = some m.cls := hown
  have hl : lv_has ls 3 [(0, .int r), (1, .int w), (2, .int 2)] := hl
  refine lv_iload_n hx hb dX11_travellerGets_0 rfl (lv_at hl 2 rfl) ?_
  refine lv_lookup (off := 32) (tgt := 33) hx hb dX11_travellerGets_1 (by decide) (by decide) (by decide) ?_
  refine lv_iconst (v := 0) hx hb dX11_travellerGets_33 (by decide) ?_
  exact ziret hx hb hr (rfl) hlocks () (rfl) (trivial) hw [] rfl (rfl) hS (Nat.le_of_ble_eq_true rfl) (Nat.le_of_ble_eq_true rfl) dX11_travellerGets_34

set_option maxHeartbeats 4000000 in
set_option maxRecDepth 100000 in
theorem c_gg3 (l : Launch) (D : va_G) (ct : Nat → ClassId) (r : Int32) (w : Int32)  : zC l yX11_guardGets wsX11_guardGets ({ frames := 1, cells := 0, slots := 0, locals := 80 }) D ct [] [.int r, .int w, .int 3] [] (S := Unit) (fun _ => some (.int r)) (fun _ => True) (fun _ => []) 0 0 := by
  refine zofW cX11_guardGets 3 (some .int) (by decide) rfl (Nat.le_of_ble_eq_true rfl) ?_
  intro p e s m below meth c A hx hb hr hml hts hown hlocks hname hK hA hZ hN H locs hw hS ls hl
  have hown : s.vm.findClass RX11 = some m.cls := hown
  have hl : lv_has ls 3 [(0, .int r), (1, .int w), (2, .int 3)] := hl
  refine lv_iload_n hx hb dX11_guardGets_0 rfl (lv_at hl 2 rfl) ?_
  refine lv_tableIn (off := 32) (tgt := 33) hx hb dX11_guardGets_1 (by decide) (by decide) (by decide) (by decide) ?_
  refine lv_iload_n hx hb dX11_guardGets_33 rfl (lv_at hl 0 rfl) ?_
  exact ziret hx hb hr (rfl) hlocks () (rfl) (trivial) hw [] rfl (rfl) hS (Nat.le_of_ble_eq_true rfl) (Nat.le_of_ble_eq_true rfl) dX11_guardGets_34

set_option maxHeartbeats 4000000 in
set_option maxRecDepth 100000 in
theorem c_tg3 (l : Launch) (D : va_G) (ct : Nat → ClassId) (r : Int32) (w : Int32)  : zC l yX11_travellerGets wsX11_travellerGets ({ frames := 1, cells := 0, slots := 0, locals := 80 }) D ct [] [.int r, .int w, .int 3] [] (S := Unit) (fun _ => some (.int (-r))) (fun _ => True) (fun _ => []) 0 0 := by
  refine zofW cX11_travellerGets 3 (some .int) (by decide) rfl (Nat.le_of_ble_eq_true rfl) ?_
  intro p e s m below meth c A hx hb hr hml hts hown hlocks hname hK hA hZ hN H locs hw hS ls hl
  have hown : s.vm.findClass RX11 = some m.cls := hown
  have hl : lv_has ls 3 [(0, .int r), (1, .int w), (2, .int 3)] := hl
  refine lv_iload_n hx hb dX11_travellerGets_0 rfl (lv_at hl 2 rfl) ?_
  refine lv_lookup (off := 29) (tgt := 30) hx hb dX11_travellerGets_1 (by decide) (by decide) (by decide) ?_
  refine lv_iload_n hx hb dX11_travellerGets_30 rfl (lv_at hl 0 rfl) ?_
  refine lv_ineg hx hb dX11_travellerGets_31 ?_
  exact ziret hx hb hr (rfl) hlocks () (rfl) (trivial) hw [] rfl (rfl) hS (Nat.le_of_ble_eq_true rfl) (Nat.le_of_ble_eq_true rfl) dX11_travellerGets_32

set_option maxHeartbeats 4000000 in
set_option maxRecDepth 100000 in
theorem c_ar0 (l : Launch) (D : va_G) (ct : Nat → ClassId) (r : Int32) (w : Int32)  : zC l yX11_isAtRest wsX11_isAtRest ({ frames := 2, cells := 0, slots := 0, locals := 120 }) D ct [] [.int r, .int w, .int 0] [] (S := Unit) (fun _ => some (.int (zat0 w))) (fun _ => True) (fun _ => []) 0 0 := by
  refine zofW cX11_isAtRest 3 (some .boolean) (by decide) rfl (Nat.le_of_ble_eq_true rfl) ?_
  intro p e s m below meth c A hx hb hr hml hts hown hlocks hname hK hA hZ hN H locs hw hS ls hl
  have hown : s.vm.findClass RX11 = some m.cls := hown
  have hl : lv_has ls 3 [(0, .int r), (1, .int w), (2, .int 0)] := hl
  refine lv_iload_n hx hb dX11_isAtRest_0 rfl (lv_at hl 0 rfl) ?_
  refine lv_iload_n hx hb dX11_isAtRest_1 rfl (lv_at hl 1 rfl) ?_
  refine lv_iload_n hx hb dX11_isAtRest_2 rfl (lv_at hl 2 rfl) ?_
  refine lv_iconst (v := 2) hx hb dX11_isAtRest_3 (by decide) ?_
  refine lv_ixor hx hb dX11_isAtRest_4 ?_
  refine ztop (.int 2) (congrArg Value.int (by decide)) ?_
  refine zcall2 (va_runS (As := [.int r, .int w, .int 2]) (rest := []) ⟨hx, hb, hml, hown, hts⟩ (c_gg2 l D ct r w H.size) (va_cwS 3 hts gX11_isAtRest_X11_guardGets rfl rfl rfl (by decide +kernel) ⟨Nat.le_of_ble_eq_true rfl, Nat.le_of_ble_eq_true rfl⟩) (zpreS hK hw hS hA zZ.nil hN [] rfl rfl) rfl rfl hl.1 rfl (lv_room (Nat.le_of_ble_eq_true rfl)) dX11_isAtRest_5 ⟨Nat.le_of_ble_eq_true rfl, Nat.le_of_ble_eq_true rfl⟩) hw hS hA [] [] rfl rfl rfl rfl (fun _ H locs hp1 hw hS => ?_)
  have hw : zPD D A [] H := hw
  refine zfr 8 [.int (-1)] rfl rfl ?_
  refine lv_iload_n hx hb dX11_isAtRest_8 rfl (lv_at hl 0 rfl) ?_
  refine lv_iload_n hx hb dX11_isAtRest_9 rfl (lv_at hl 1 rfl) ?_
  refine lv_iload_n hx hb dX11_isAtRest_10 rfl (lv_at hl 2 rfl) ?_
  refine zcall2 (va_runS (As := [.int r, .int w, .int 0]) (rest := [.int (-1)]) ⟨hx, hb, hml, hown, hts⟩ (c_gg0 l D ct r w H.size) (va_cwS 3 hts gX11_isAtRest_X11_guardGets rfl rfl rfl (by decide +kernel) ⟨Nat.le_of_ble_eq_true rfl, Nat.le_of_ble_eq_true rfl⟩) (zpreS hK hw hS hA zZ.nil hN [] rfl rfl) rfl rfl hl.1 rfl (lv_room (Nat.le_of_ble_eq_true rfl)) dX11_isAtRest_11 ⟨Nat.le_of_ble_eq_true rfl, Nat.le_of_ble_eq_true rfl⟩) hw hS hA [] [] rfl rfl rfl rfl (fun _ H locs hp2 hw hS => ?_)
  have hw : zPD D A [] H := hw
  refine zfr 14 [.int 0, .int (-1)] rfl rfl ?_
  refine lv_icmp_gt (tgt := 38) hx hb dX11_isAtRest_14 (by decide) (fun h => absurd h (by decide)) (fun _ => ?_)
  refine lv_iload_n hx hb dX11_isAtRest_17 rfl (lv_at hl 0 rfl) ?_
  refine lv_iload_n hx hb dX11_isAtRest_18 rfl (lv_at hl 1 rfl) ?_
  refine lv_iload_n hx hb dX11_isAtRest_19 rfl (lv_at hl 2 rfl) ?_
  refine lv_iconst (v := 1) hx hb dX11_isAtRest_20 (by decide) ?_
  refine lv_ixor hx hb dX11_isAtRest_21 ?_
  refine ztop (.int 1) (congrArg Value.int (by decide)) ?_
  refine zcall2 (va_runS (As := [.int r, .int w, .int 1]) (rest := []) ⟨hx, hb, hml, hown, hts⟩ (c_tg1 l D ct r w H.size) (va_cwS 3 hts gX11_isAtRest_X11_travellerGets rfl rfl rfl (by decide +kernel) ⟨Nat.le_of_ble_eq_true rfl, Nat.le_of_ble_eq_true rfl⟩) (zpreS hK hw hS hA zZ.nil hN [] rfl rfl) rfl rfl hl.1 rfl (lv_room (Nat.le_of_ble_eq_true rfl)) dX11_isAtRest_22 ⟨Nat.le_of_ble_eq_true rfl, Nat.le_of_ble_eq_true rfl⟩) hw hS hA [] [] rfl rfl rfl rfl (fun _ H locs hp4 hw hS => ?_)
  have hw : zPD D A [] H := hw
  refine zfr 25 [.int w] rfl rfl ?_
  refine lv_iload_n hx hb dX11_isAtRest_25 rfl (lv_at hl 0 rfl) ?_
  refine lv_iload_n hx hb dX11_isAtRest_26 rfl (lv_at hl 1 rfl) ?_
  refine lv_iload_n hx hb dX11_isAtRest_27 rfl (lv_at hl 2 rfl) ?_
  refine zcall2 (va_runS (As := [.int r, .int w, .int 0]) (rest := [.int w]) ⟨hx, hb, hml, hown, hts⟩ (c_tg0 l D ct r w H.size) (va_cwS 3 hts gX11_isAtRest_X11_travellerGets rfl rfl rfl (by decide +kernel) ⟨Nat.le_of_ble_eq_true rfl, Nat.le_of_ble_eq_true rfl⟩) (zpreS hK hw hS hA zZ.nil hN [] rfl rfl) rfl rfl hl.1 rfl (lv_room (Nat.le_of_ble_eq_true rfl)) dX11_isAtRest_28 ⟨Nat.le_of_ble_eq_true rfl, Nat.le_of_ble_eq_true rfl⟩) hw hS hA [] [] rfl rfl rfl rfl (fun _ H locs hp5 hw hS => ?_)
  have hw : zPD D A [] H := hw
  refine zfr 31 [.int 0, .int w] rfl rfl ?_
  refine lv_icmp_gt (tgt := 38) hx hb dX11_isAtRest_31 (by decide) (fun c_6 => ?_) (fun c_6 => ?_)
  · refine lv_iconst (v := 0) hx hb dX11_isAtRest_38 (by decide) ?_
    exact ziret hx hb hr (rfl) hlocks () (by rw [zat0, if_neg (Int32.not_le.mpr c_6)]) (trivial) hw [] rfl (rfl) hS (Nat.le_of_ble_eq_true rfl) (Nat.le_of_ble_eq_true rfl) dX11_isAtRest_39
  · refine lv_iconst (v := 1) hx hb dX11_isAtRest_34 (by decide) ?_
    refine lv_goto (tgt := 39) hx hb dX11_isAtRest_35 (by decide) ?_
    exact ziret hx hb hr (rfl) hlocks () (by rw [zat0, if_pos (Int32.not_lt.mp c_6)]) (trivial) hw [] rfl (rfl) hS (Nat.le_of_ble_eq_true rfl) (Nat.le_of_ble_eq_true rfl) dX11_isAtRest_39

set_option maxHeartbeats 4000000 in
set_option maxRecDepth 100000 in
theorem c_ar1 (l : Launch) (D : va_G) (ct : Nat → ClassId) (r : Int32) (w : Int32)  : zC l yX11_isAtRest wsX11_isAtRest ({ frames := 2, cells := 0, slots := 0, locals := 120 }) D ct [] [.int r, .int w, .int 1] [] (S := Unit) (fun _ => some (.int (zat1 r w))) (fun _ => True) (fun _ => []) 0 0 := by
  refine zofW cX11_isAtRest 3 (some .boolean) (by decide) rfl (Nat.le_of_ble_eq_true rfl) ?_
  intro p e s m below meth c A hx hb hr hml hts hown hlocks hname hK hA hZ hN H locs hw hS ls hl
  have hown : s.vm.findClass RX11 = some m.cls := hown
  have hl : lv_has ls 3 [(0, .int r), (1, .int w), (2, .int 1)] := hl
  refine lv_iload_n hx hb dX11_isAtRest_0 rfl (lv_at hl 0 rfl) ?_
  refine lv_iload_n hx hb dX11_isAtRest_1 rfl (lv_at hl 1 rfl) ?_
  refine lv_iload_n hx hb dX11_isAtRest_2 rfl (lv_at hl 2 rfl) ?_
  refine lv_iconst (v := 2) hx hb dX11_isAtRest_3 (by decide) ?_
  refine lv_ixor hx hb dX11_isAtRest_4 ?_
  refine ztop (.int 3) (congrArg Value.int (by decide)) ?_
  refine zcall2 (va_runS (As := [.int r, .int w, .int 3]) (rest := []) ⟨hx, hb, hml, hown, hts⟩ (c_gg3 l D ct r w H.size) (va_cwS 3 hts gX11_isAtRest_X11_guardGets rfl rfl rfl (by decide +kernel) ⟨Nat.le_of_ble_eq_true rfl, Nat.le_of_ble_eq_true rfl⟩) (zpreS hK hw hS hA zZ.nil hN [] rfl rfl) rfl rfl hl.1 rfl (lv_room (Nat.le_of_ble_eq_true rfl)) dX11_isAtRest_5 ⟨Nat.le_of_ble_eq_true rfl, Nat.le_of_ble_eq_true rfl⟩) hw hS hA [] [] rfl rfl rfl rfl (fun _ H locs hp1 hw hS => ?_)
  have hw : zPD D A [] H := hw
  refine zfr 8 [.int r] rfl rfl ?_
  refine lv_iload_n hx hb dX11_isAtRest_8 rfl (lv_at hl 0 rfl) ?_
  refine lv_iload_n hx hb dX11_isAtRest_9 rfl (lv_at hl 1 rfl) ?_
  refine lv_iload_n hx hb dX11_isAtRest_10 rfl (lv_at hl 2 rfl) ?_
  refine zcall2 (va_runS (As := [.int r, .int w, .int 1]) (rest := [.int r]) ⟨hx, hb, hml, hown, hts⟩ (c_gg1 l D ct r w H.size) (va_cwS 3 hts gX11_isAtRest_X11_guardGets rfl rfl rfl (by decide +kernel) ⟨Nat.le_of_ble_eq_true rfl, Nat.le_of_ble_eq_true rfl⟩) (zpreS hK hw hS hA zZ.nil hN [] rfl rfl) rfl rfl hl.1 rfl (lv_room (Nat.le_of_ble_eq_true rfl)) dX11_isAtRest_11 ⟨Nat.le_of_ble_eq_true rfl, Nat.le_of_ble_eq_true rfl⟩) hw hS hA [] [] rfl rfl rfl rfl (fun _ H locs hp2 hw hS => ?_)
  have hw : zPD D A [] H := hw
  refine zfr 14 [.int (-w), .int r] rfl rfl ?_
  refine lv_icmp_gt (tgt := 38) hx hb dX11_isAtRest_14 (by decide) (fun c_3 => ?_) (fun c_3 => ?_)
  · refine lv_iconst (v := 0) hx hb dX11_isAtRest_38 (by decide) ?_
    exact ziret hx hb hr (rfl) hlocks () (by rw [zat1, if_pos c_3]) (trivial) hw [] rfl (rfl) hS (Nat.le_of_ble_eq_true rfl) (Nat.le_of_ble_eq_true rfl) dX11_isAtRest_39
  · refine lv_iload_n hx hb dX11_isAtRest_17 rfl (lv_at hl 0 rfl) ?_
    refine lv_iload_n hx hb dX11_isAtRest_18 rfl (lv_at hl 1 rfl) ?_
    refine lv_iload_n hx hb dX11_isAtRest_19 rfl (lv_at hl 2 rfl) ?_
    refine lv_iconst (v := 1) hx hb dX11_isAtRest_20 (by decide) ?_
    refine lv_ixor hx hb dX11_isAtRest_21 ?_
    refine ztop (.int 0) (congrArg Value.int (by decide)) ?_
    refine zcall2 (va_runS (As := [.int r, .int w, .int 0]) (rest := []) ⟨hx, hb, hml, hown, hts⟩ (c_tg0 l D ct r w H.size) (va_cwS 3 hts gX11_isAtRest_X11_travellerGets rfl rfl rfl (by decide +kernel) ⟨Nat.le_of_ble_eq_true rfl, Nat.le_of_ble_eq_true rfl⟩) (zpreS hK hw hS hA zZ.nil hN [] rfl rfl) rfl rfl hl.1 rfl (lv_room (Nat.le_of_ble_eq_true rfl)) dX11_isAtRest_22 ⟨Nat.le_of_ble_eq_true rfl, Nat.le_of_ble_eq_true rfl⟩) hw hS hA [] [] rfl rfl rfl rfl (fun _ H locs hp4 hw hS => ?_)
    have hw : zPD D A [] H := hw
    refine zfr 25 [.int 0] rfl rfl ?_
    refine lv_iload_n hx hb dX11_isAtRest_25 rfl (lv_at hl 0 rfl) ?_
    refine lv_iload_n hx hb dX11_isAtRest_26 rfl (lv_at hl 1 rfl) ?_
    refine lv_iload_n hx hb dX11_isAtRest_27 rfl (lv_at hl 2 rfl) ?_
    refine zcall2 (va_runS (As := [.int r, .int w, .int 1]) (rest := [.int 0]) ⟨hx, hb, hml, hown, hts⟩ (c_tg1 l D ct r w H.size) (va_cwS 3 hts gX11_isAtRest_X11_travellerGets rfl rfl rfl (by decide +kernel) ⟨Nat.le_of_ble_eq_true rfl, Nat.le_of_ble_eq_true rfl⟩) (zpreS hK hw hS hA zZ.nil hN [] rfl rfl) rfl rfl hl.1 rfl (lv_room (Nat.le_of_ble_eq_true rfl)) dX11_isAtRest_28 ⟨Nat.le_of_ble_eq_true rfl, Nat.le_of_ble_eq_true rfl⟩) hw hS hA [] [] rfl rfl rfl rfl (fun _ H locs hp5 hw hS => ?_)
    have hw : zPD D A [] H := hw
    refine zfr 31 [.int w, .int 0] rfl rfl ?_
    refine lv_icmp_gt (tgt := 38) hx hb dX11_isAtRest_31 (by decide) (fun c_6 => ?_) (fun c_6 => ?_)
    · refine lv_iconst (v := 0) hx hb dX11_isAtRest_38 (by decide) ?_
      exact ziret hx hb hr (rfl) hlocks () (by rw [zat1, if_neg c_3, if_neg (Int32.not_le.mpr c_6)]) (trivial) hw [] rfl (rfl) hS (Nat.le_of_ble_eq_true rfl) (Nat.le_of_ble_eq_true rfl) dX11_isAtRest_39
    · refine lv_iconst (v := 1) hx hb dX11_isAtRest_34 (by decide) ?_
      refine lv_goto (tgt := 39) hx hb dX11_isAtRest_35 (by decide) ?_
      exact ziret hx hb hr (rfl) hlocks () (by rw [zat1, if_neg c_3, if_pos (Int32.not_lt.mp c_6)]) (trivial) hw [] rfl (rfl) hS (Nat.le_of_ble_eq_true rfl) (Nat.le_of_ble_eq_true rfl) dX11_isAtRest_39

set_option maxHeartbeats 4000000 in
set_option maxRecDepth 100000 in
theorem c_ar2 (l : Launch) (D : va_G) (ct : Nat → ClassId) (r : Int32) (w : Int32)  : zC l yX11_isAtRest wsX11_isAtRest ({ frames := 2, cells := 0, slots := 0, locals := 120 }) D ct [] [.int r, .int w, .int 2] [] (S := Unit) (fun _ => some (.int 0)) (fun _ => True) (fun _ => []) 0 0 := by
  refine zofW cX11_isAtRest 3 (some .boolean) (by decide) rfl (Nat.le_of_ble_eq_true rfl) ?_
  intro p e s m below meth c A hx hb hr hml hts hown hlocks hname hK hA hZ hN H locs hw hS ls hl
  have hown : s.vm.findClass RX11 = some m.cls := hown
  have hl : lv_has ls 3 [(0, .int r), (1, .int w), (2, .int 2)] := hl
  refine lv_iload_n hx hb dX11_isAtRest_0 rfl (lv_at hl 0 rfl) ?_
  refine lv_iload_n hx hb dX11_isAtRest_1 rfl (lv_at hl 1 rfl) ?_
  refine lv_iload_n hx hb dX11_isAtRest_2 rfl (lv_at hl 2 rfl) ?_
  refine lv_iconst (v := 2) hx hb dX11_isAtRest_3 (by decide) ?_
  refine lv_ixor hx hb dX11_isAtRest_4 ?_
  refine ztop (.int 0) (congrArg Value.int (by decide)) ?_
  refine zcall2 (va_runS (As := [.int r, .int w, .int 0]) (rest := []) ⟨hx, hb, hml, hown, hts⟩ (c_gg0 l D ct r w H.size) (va_cwS 3 hts gX11_isAtRest_X11_guardGets rfl rfl rfl (by decide +kernel) ⟨Nat.le_of_ble_eq_true rfl, Nat.le_of_ble_eq_true rfl⟩) (zpreS hK hw hS hA zZ.nil hN [] rfl rfl) rfl rfl hl.1 rfl (lv_room (Nat.le_of_ble_eq_true rfl)) dX11_isAtRest_5 ⟨Nat.le_of_ble_eq_true rfl, Nat.le_of_ble_eq_true rfl⟩) hw hS hA [] [] rfl rfl rfl rfl (fun _ H locs hp1 hw hS => ?_)
  have hw : zPD D A [] H := hw
  refine zfr 8 [.int 0] rfl rfl ?_
  refine lv_iload_n hx hb dX11_isAtRest_8 rfl (lv_at hl 0 rfl) ?_
  refine lv_iload_n hx hb dX11_isAtRest_9 rfl (lv_at hl 1 rfl) ?_
  refine lv_iload_n hx hb dX11_isAtRest_10 rfl (lv_at hl 2 rfl) ?_
  refine zcall2 (va_runS (As := [.int r, .int w, .int 2]) (rest := [.int 0]) ⟨hx, hb, hml, hown, hts⟩ (c_gg2 l D ct r w H.size) (va_cwS 3 hts gX11_isAtRest_X11_guardGets rfl rfl rfl (by decide +kernel) ⟨Nat.le_of_ble_eq_true rfl, Nat.le_of_ble_eq_true rfl⟩) (zpreS hK hw hS hA zZ.nil hN [] rfl rfl) rfl rfl hl.1 rfl (lv_room (Nat.le_of_ble_eq_true rfl)) dX11_isAtRest_11 ⟨Nat.le_of_ble_eq_true rfl, Nat.le_of_ble_eq_true rfl⟩) hw hS hA [] [] rfl rfl rfl rfl (fun _ H locs hp2 hw hS => ?_)
  have hw : zPD D A [] H := hw
  refine zfr 14 [.int (-1), .int 0] rfl rfl ?_
  refine lv_icmp_gt (tgt := 38) hx hb dX11_isAtRest_14 (by decide) (fun _ => ?_) (fun h => absurd (by decide) h)
  refine lv_iconst (v := 0) hx hb dX11_isAtRest_38 (by decide) ?_
  exact ziret hx hb hr (rfl) hlocks () (rfl) (trivial) hw [] rfl (rfl) hS (Nat.le_of_ble_eq_true rfl) (Nat.le_of_ble_eq_true rfl) dX11_isAtRest_39

set_option maxHeartbeats 4000000 in
set_option maxRecDepth 100000 in
theorem c_ar3 (l : Launch) (D : va_G) (ct : Nat → ClassId) (r : Int32) (w : Int32)  : zC l yX11_isAtRest wsX11_isAtRest ({ frames := 2, cells := 0, slots := 0, locals := 120 }) D ct [] [.int r, .int w, .int 3] [] (S := Unit) (fun _ => some (.int (zat3 r w))) (fun _ => True) (fun _ => []) 0 0 := by
  refine zofW cX11_isAtRest 3 (some .boolean) (by decide) rfl (Nat.le_of_ble_eq_true rfl) ?_
  intro p e s m below meth c A hx hb hr hml hts hown hlocks hname hK hA hZ hN H locs hw hS ls hl
  have hown : s.vm.findClass RX11 = some m.cls := hown
  have hl : lv_has ls 3 [(0, .int r), (1, .int w), (2, .int 3)] := hl
  refine lv_iload_n hx hb dX11_isAtRest_0 rfl (lv_at hl 0 rfl) ?_
  refine lv_iload_n hx hb dX11_isAtRest_1 rfl (lv_at hl 1 rfl) ?_
  refine lv_iload_n hx hb dX11_isAtRest_2 rfl (lv_at hl 2 rfl) ?_
  refine lv_iconst (v := 2) hx hb dX11_isAtRest_3 (by decide) ?_
  refine lv_ixor hx hb dX11_isAtRest_4 ?_
  refine ztop (.int 1) (congrArg Value.int (by decide)) ?_
  refine zcall2 (va_runS (As := [.int r, .int w, .int 1]) (rest := []) ⟨hx, hb, hml, hown, hts⟩ (c_gg1 l D ct r w H.size) (va_cwS 3 hts gX11_isAtRest_X11_guardGets rfl rfl rfl (by decide +kernel) ⟨Nat.le_of_ble_eq_true rfl, Nat.le_of_ble_eq_true rfl⟩) (zpreS hK hw hS hA zZ.nil hN [] rfl rfl) rfl rfl hl.1 rfl (lv_room (Nat.le_of_ble_eq_true rfl)) dX11_isAtRest_5 ⟨Nat.le_of_ble_eq_true rfl, Nat.le_of_ble_eq_true rfl⟩) hw hS hA [] [] rfl rfl rfl rfl (fun _ H locs hp1 hw hS => ?_)
  have hw : zPD D A [] H := hw
  refine zfr 8 [.int (-w)] rfl rfl ?_
  refine lv_iload_n hx hb dX11_isAtRest_8 rfl (lv_at hl 0 rfl) ?_
  refine lv_iload_n hx hb dX11_isAtRest_9 rfl (lv_at hl 1 rfl) ?_
  refine lv_iload_n hx hb dX11_isAtRest_10 rfl (lv_at hl 2 rfl) ?_
  refine zcall2 (va_runS (As := [.int r, .int w, .int 3]) (rest := [.int (-w)]) ⟨hx, hb, hml, hown, hts⟩ (c_gg3 l D ct r w H.size) (va_cwS 3 hts gX11_isAtRest_X11_guardGets rfl rfl rfl (by decide +kernel) ⟨Nat.le_of_ble_eq_true rfl, Nat.le_of_ble_eq_true rfl⟩) (zpreS hK hw hS hA zZ.nil hN [] rfl rfl) rfl rfl hl.1 rfl (lv_room (Nat.le_of_ble_eq_true rfl)) dX11_isAtRest_11 ⟨Nat.le_of_ble_eq_true rfl, Nat.le_of_ble_eq_true rfl⟩) hw hS hA [] [] rfl rfl rfl rfl (fun _ H locs hp2 hw hS => ?_)
  have hw : zPD D A [] H := hw
  refine zfr 14 [.int r, .int (-w)] rfl rfl ?_
  refine lv_icmp_gt (tgt := 38) hx hb dX11_isAtRest_14 (by decide) (fun c_3 => ?_) (fun c_3 => ?_)
  · refine lv_iconst (v := 0) hx hb dX11_isAtRest_38 (by decide) ?_
    exact ziret hx hb hr (rfl) hlocks () (by rw [zat3, if_pos c_3]) (trivial) hw [] rfl (rfl) hS (Nat.le_of_ble_eq_true rfl) (Nat.le_of_ble_eq_true rfl) dX11_isAtRest_39
  · refine lv_iload_n hx hb dX11_isAtRest_17 rfl (lv_at hl 0 rfl) ?_
    refine lv_iload_n hx hb dX11_isAtRest_18 rfl (lv_at hl 1 rfl) ?_
    refine lv_iload_n hx hb dX11_isAtRest_19 rfl (lv_at hl 2 rfl) ?_
    refine lv_iconst (v := 1) hx hb dX11_isAtRest_20 (by decide) ?_
    refine lv_ixor hx hb dX11_isAtRest_21 ?_
    refine ztop (.int 2) (congrArg Value.int (by decide)) ?_
    refine zcall2 (va_runS (As := [.int r, .int w, .int 2]) (rest := []) ⟨hx, hb, hml, hown, hts⟩ (c_tg2 l D ct r w H.size) (va_cwS 3 hts gX11_isAtRest_X11_travellerGets rfl rfl rfl (by decide +kernel) ⟨Nat.le_of_ble_eq_true rfl, Nat.le_of_ble_eq_true rfl⟩) (zpreS hK hw hS hA zZ.nil hN [] rfl rfl) rfl rfl hl.1 rfl (lv_room (Nat.le_of_ble_eq_true rfl)) dX11_isAtRest_22 ⟨Nat.le_of_ble_eq_true rfl, Nat.le_of_ble_eq_true rfl⟩) hw hS hA [] [] rfl rfl rfl rfl (fun _ H locs hp4 hw hS => ?_)
    have hw : zPD D A [] H := hw
    refine zfr 25 [.int 0] rfl rfl ?_
    refine lv_iload_n hx hb dX11_isAtRest_25 rfl (lv_at hl 0 rfl) ?_
    refine lv_iload_n hx hb dX11_isAtRest_26 rfl (lv_at hl 1 rfl) ?_
    refine lv_iload_n hx hb dX11_isAtRest_27 rfl (lv_at hl 2 rfl) ?_
    refine zcall2 (va_runS (As := [.int r, .int w, .int 3]) (rest := [.int 0]) ⟨hx, hb, hml, hown, hts⟩ (c_tg3 l D ct r w H.size) (va_cwS 3 hts gX11_isAtRest_X11_travellerGets rfl rfl rfl (by decide +kernel) ⟨Nat.le_of_ble_eq_true rfl, Nat.le_of_ble_eq_true rfl⟩) (zpreS hK hw hS hA zZ.nil hN [] rfl rfl) rfl rfl hl.1 rfl (lv_room (Nat.le_of_ble_eq_true rfl)) dX11_isAtRest_28 ⟨Nat.le_of_ble_eq_true rfl, Nat.le_of_ble_eq_true rfl⟩) hw hS hA [] [] rfl rfl rfl rfl (fun _ H locs hp5 hw hS => ?_)
    have hw : zPD D A [] H := hw
    refine zfr 31 [.int (-r), .int 0] rfl rfl ?_
    refine lv_icmp_gt (tgt := 38) hx hb dX11_isAtRest_31 (by decide) (fun c_6 => ?_) (fun c_6 => ?_)
    · refine lv_iconst (v := 0) hx hb dX11_isAtRest_38 (by decide) ?_
      exact ziret hx hb hr (rfl) hlocks () (by rw [zat3, if_neg c_3, if_neg (Int32.not_le.mpr c_6)]) (trivial) hw [] rfl (rfl) hS (Nat.le_of_ble_eq_true rfl) (Nat.le_of_ble_eq_true rfl) dX11_isAtRest_39
    · refine lv_iconst (v := 1) hx hb dX11_isAtRest_34 (by decide) ?_
      refine lv_goto (tgt := 39) hx hb dX11_isAtRest_35 (by decide) ?_
      exact ziret hx hb hr (rfl) hlocks () (by rw [zat3, if_neg c_3, if_pos (Int32.not_lt.mp c_6)]) (trivial) hw [] rfl (rfl) hS (Nat.le_of_ble_eq_true rfl) (Nat.le_of_ble_eq_true rfl) dX11_isAtRest_39

set_option maxHeartbeats 4000000 in
set_option maxRecDepth 100000 in
theorem c_mg00 (l : Launch) (D : va_G) (ct : Nat → ClassId) (r : Int32) (w : Int32)  : zC l yX12_guardGets wsX12_guardGets ({ frames := 1, cells := 0, slots := 0, locals := 80 }) D ct [] [.int r, .int w, .int 0, .int 0] [] (S := Unit) (fun _ => some (.int 0)) (fun _ => True) (fun _ => []) 0 0 := by
  refine zofW cX12_guardGets 4 (some .int) (by decide) rfl (Nat.le_of_ble_eq_true rfl) ?_
  intro p e s m below meth c A hx hb hr hml hts hown hlocks hname hK hA hZ hN H locs hw hS ls hl
  have hown : s.vm.findClass RX12 = some m.cls := hown
  have hl : lv_has ls 4 [(0, .int r), (1, .int w), (2, .int 0), (3, .int 0)] := hl
  refine lv_iload_n hx hb dX12_guardGets_0 rfl (lv_at hl 3 rfl) ?_
  refine lv_iconst (v := 1) hx hb dX12_guardGets_1 (by decide) ?_
  refine lv_icmp_ne (tgt := 19) hx hb dX12_guardGets_2 (by decide) (fun _ => ?_) (fun h => absurd h (by decide))
  refine lv_iload_n hx hb dX12_guardGets_19 rfl (lv_at hl 2 rfl) ?_
  refine lv_iconst (v := 1) hx hb dX12_guardGets_20 (by decide) ?_
  refine lv_icmp_ne (tgt := 28) hx hb dX12_guardGets_21 (by decide) (fun _ => ?_) (fun h => absurd h (by decide))
  refine lv_iconst (v := 0) hx hb dX12_guardGets_28 (by decide) ?_
  exact ziret hx hb hr (rfl) hlocks () (rfl) (trivial) hw [] rfl (rfl) hS (Nat.le_of_ble_eq_true rfl) (Nat.le_of_ble_eq_true rfl) dX12_guardGets_29

set_option maxHeartbeats 4000000 in
set_option maxRecDepth 100000 in
theorem c_mt00 (l : Launch) (D : va_G) (ct : Nat → ClassId) (r : Int32) (w : Int32)  : zC l yX12_travellerGets wsX12_travellerGets ({ frames := 1, cells := 0, slots := 0, locals := 80 }) D ct [] [.int r, .int w, .int 0, .int 0] [] (S := Unit) (fun _ => some (.int 0)) (fun _ => True) (fun _ => []) 0 0 := by
  refine zofW cX12_travellerGets 4 (some .int) (by decide) rfl (Nat.le_of_ble_eq_true rfl) ?_
  intro p e s m below meth c A hx hb hr hml hts hown hlocks hname hK hA hZ hN H locs hw hS ls hl
  have hown : s.vm.findClass RX12 = some m.cls := hown
  have hl : lv_has ls 4 [(0, .int r), (1, .int w), (2, .int 0), (3, .int 0)] := hl
  refine lv_iload_n hx hb dX12_travellerGets_0 rfl (lv_at hl 3 rfl) ?_
  refine lv_if_ne (tgt := 8) hx hb dX12_travellerGets_1 (by decide) (fun h => absurd (by decide) h) (fun _ => ?_)
  refine lv_iconst (v := 0) hx hb dX12_travellerGets_4 (by decide) ?_
  refine lv_goto (tgt := 19) hx hb dX12_travellerGets_5 (by decide) ?_
  exact ziret hx hb hr (rfl) hlocks () (rfl) (trivial) hw [] rfl (rfl) hS (Nat.le_of_ble_eq_true rfl) (Nat.le_of_ble_eq_true rfl) dX12_travellerGets_19

set_option maxHeartbeats 4000000 in
set_option maxRecDepth 100000 in
theorem c_mg10 (l : Launch) (D : va_G) (ct : Nat → ClassId) (r : Int32) (w : Int32)  : zC l yX12_guardGets wsX12_guardGets ({ frames := 1, cells := 0, slots := 0, locals := 80 }) D ct [] [.int r, .int w, .int 1, .int 0] [] (S := Unit) (fun _ => some (.int (-1))) (fun _ => True) (fun _ => []) 0 0 := by
  refine zofW cX12_guardGets 4 (some .int) (by decide) rfl (Nat.le_of_ble_eq_true rfl) ?_
  intro p e s m below meth c A hx hb hr hml hts hown hlocks hname hK hA hZ hN H locs hw hS ls hl
  have hown : s.vm.findClass RX12 = some m.cls := hown
  have hl : lv_has ls 4 [(0, .int r), (1, .int w), (2, .int 1), (3, .int 0)] := hl
  refine lv_iload_n hx hb dX12_guardGets_0 rfl (lv_at hl 3 rfl) ?_
  refine lv_iconst (v := 1) hx hb dX12_guardGets_1 (by decide) ?_
  refine lv_icmp_ne (tgt := 19) hx hb dX12_guardGets_2 (by decide) (fun _ => ?_) (fun h => absurd h (by decide))
  refine lv_iload_n hx hb dX12_guardGets_19 rfl (lv_at hl 2 rfl) ?_
  refine lv_iconst (v := 1) hx hb dX12_guardGets_20 (by decide) ?_
  refine lv_icmp_ne (tgt := 28) hx hb dX12_guardGets_21 (by decide) (fun h => absurd (by decide) h) (fun _ => ?_)
  refine lv_iconst (v := (-1)) hx hb dX12_guardGets_24 (by decide) ?_
  refine lv_goto (tgt := 29) hx hb dX12_guardGets_25 (by decide) ?_
  exact ziret hx hb hr (rfl) hlocks () (rfl) (trivial) hw [] rfl (rfl) hS (Nat.le_of_ble_eq_true rfl) (Nat.le_of_ble_eq_true rfl) dX12_guardGets_29

set_option maxHeartbeats 4000000 in
set_option maxRecDepth 100000 in
theorem c_mt10 (l : Launch) (D : va_G) (ct : Nat → ClassId) (r : Int32) (w : Int32)  : zC l yX12_travellerGets wsX12_travellerGets ({ frames := 1, cells := 0, slots := 0, locals := 80 }) D ct [] [.int r, .int w, .int 1, .int 0] [] (S := Unit) (fun _ => some (.int 0)) (fun _ => True) (fun _ => []) 0 0 := by
  refine zofW cX12_travellerGets 4 (some .int) (by decide) rfl (Nat.le_of_ble_eq_true rfl) ?_
  intro p e s m below meth c A hx hb hr hml hts hown hlocks hname hK hA hZ hN H locs hw hS ls hl
  have hown : s.vm.findClass RX12 = some m.cls := hown
  have hl : lv_has ls 4 [(0, .int r), (1, .int w), (2, .int 1), (3, .int 0)] := hl
  refine lv_iload_n hx hb dX12_travellerGets_0 rfl (lv_at hl 3 rfl) ?_
  refine lv_if_ne (tgt := 8) hx hb dX12_travellerGets_1 (by decide) (fun h => absurd (by decide) h) (fun _ => ?_)
  refine lv_iconst (v := 0) hx hb dX12_travellerGets_4 (by decide) ?_
  refine lv_goto (tgt := 19) hx hb dX12_travellerGets_5 (by decide) ?_
  exact ziret hx hb hr (rfl) hlocks () (rfl) (trivial) hw [] rfl (rfl) hS (Nat.le_of_ble_eq_true rfl) (Nat.le_of_ble_eq_true rfl) dX12_travellerGets_19

set_option maxHeartbeats 4000000 in
set_option maxRecDepth 100000 in
theorem c_mg01 (l : Launch) (D : va_G) (ct : Nat → ClassId) (r : Int32) (w : Int32)  : zC l yX12_guardGets wsX12_guardGets ({ frames := 1, cells := 0, slots := 0, locals := 80 }) D ct [] [.int r, .int w, .int 0, .int 1] [] (S := Unit) (fun _ => some (.int (-w))) (fun _ => True) (fun _ => []) 0 0 := by
  refine zofW cX12_guardGets 4 (some .int) (by decide) rfl (Nat.le_of_ble_eq_true rfl) ?_
  intro p e s m below meth c A hx hb hr hml hts hown hlocks hname hK hA hZ hN H locs hw hS ls hl
  have hown : s.vm.findClass RX12 = some m.cls := hown
  have hl : lv_has ls 4 [(0, .int r), (1, .int w), (2, .int 0), (3, .int 1)] := hl
  refine lv_iload_n hx hb dX12_guardGets_0 rfl (lv_at hl 3 rfl) ?_
  refine lv_iconst (v := 1) hx hb dX12_guardGets_1 (by decide) ?_
  refine lv_icmp_ne (tgt := 19) hx hb dX12_guardGets_2 (by decide) (fun h => absurd (by decide) h) (fun _ => ?_)
  refine lv_iload_n hx hb dX12_guardGets_5 rfl (lv_at hl 2 rfl) ?_
  refine lv_iconst (v := 1) hx hb dX12_guardGets_6 (by decide) ?_
  refine lv_icmp_ne (tgt := 14) hx hb dX12_guardGets_7 (by decide) (fun _ => ?_) (fun h => absurd h (by decide))
  refine lv_iload_n hx hb dX12_guardGets_14 rfl (lv_at hl 1 rfl) ?_
  refine lv_ineg hx hb dX12_guardGets_15 ?_
  refine lv_goto (tgt := 29) hx hb dX12_guardGets_16 (by decide) ?_
  exact ziret hx hb hr (rfl) hlocks () (rfl) (trivial) hw [] rfl (rfl) hS (Nat.le_of_ble_eq_true rfl) (Nat.le_of_ble_eq_true rfl) dX12_guardGets_29

set_option maxHeartbeats 4000000 in
set_option maxRecDepth 100000 in
theorem c_mt01 (l : Launch) (D : va_G) (ct : Nat → ClassId) (r : Int32) (w : Int32)  : zC l yX12_travellerGets wsX12_travellerGets ({ frames := 1, cells := 0, slots := 0, locals := 80 }) D ct [] [.int r, .int w, .int 0, .int 1] [] (S := Unit) (fun _ => some (.int w)) (fun _ => True) (fun _ => []) 0 0 := by
  refine zofW cX12_travellerGets 4 (some .int) (by decide) rfl (Nat.le_of_ble_eq_true rfl) ?_
  intro p e s m below meth c A hx hb hr hml hts hown hlocks hname hK hA hZ hN H locs hw hS ls hl
  have hown : s.vm.findClass RX12 = some m.cls := hown
  have hl : lv_has ls 4 [(0, .int r), (1, .int w), (2, .int 0), (3, .int 1)] := hl
  refine lv_iload_n hx hb dX12_travellerGets_0 rfl (lv_at hl 3 rfl) ?_
  refine lv_if_ne (tgt := 8) hx hb dX12_travellerGets_1 (by decide) (fun _ => ?_) (fun h => absurd h (by decide))
  refine lv_iload_n hx hb dX12_travellerGets_8 rfl (lv_at hl 2 rfl) ?_
  refine lv_iconst (v := 1) hx hb dX12_travellerGets_9 (by decide) ?_
  refine lv_icmp_ne (tgt := 18) hx hb dX12_travellerGets_10 (by decide) (fun _ => ?_) (fun h => absurd h (by decide))
  refine lv_iload_n hx hb dX12_travellerGets_18 rfl (lv_at hl 1 rfl) ?_
  exact ziret hx hb hr (rfl) hlocks () (rfl) (trivial) hw [] rfl (rfl) hS (Nat.le_of_ble_eq_true rfl) (Nat.le_of_ble_eq_true rfl) dX12_travellerGets_19

set_option maxHeartbeats 4000000 in
set_option maxRecDepth 100000 in
theorem c_mg11 (l : Launch) (D : va_G) (ct : Nat → ClassId) (r : Int32) (w : Int32)  : zC l yX12_guardGets wsX12_guardGets ({ frames := 1, cells := 0, slots := 0, locals := 80 }) D ct [] [.int r, .int w, .int 1, .int 1] [] (S := Unit) (fun _ => some (.int r)) (fun _ => True) (fun _ => []) 0 0 := by
  refine zofW cX12_guardGets 4 (some .int) (by decide) rfl (Nat.le_of_ble_eq_true rfl) ?_
  intro p e s m below meth c A hx hb hr hml hts hown hlocks hname hK hA hZ hN H locs hw hS ls hl
  have hown : s.vm.findClass RX12 = some m.cls := hown
  have hl : lv_has ls 4 [(0, .int r), (1, .int w), (2, .int 1), (3, .int 1)] := hl
  refine lv_iload_n hx hb dX12_guardGets_0 rfl (lv_at hl 3 rfl) ?_
  refine lv_iconst (v := 1) hx hb dX12_guardGets_1 (by decide) ?_
  refine lv_icmp_ne (tgt := 19) hx hb dX12_guardGets_2 (by decide) (fun h => absurd (by decide) h) (fun _ => ?_)
  refine lv_iload_n hx hb dX12_guardGets_5 rfl (lv_at hl 2 rfl) ?_
  refine lv_iconst (v := 1) hx hb dX12_guardGets_6 (by decide) ?_
  refine lv_icmp_ne (tgt := 14) hx hb dX12_guardGets_7 (by decide) (fun h => absurd (by decide) h) (fun _ => ?_)
  refine lv_iload_n hx hb dX12_guardGets_10 rfl (lv_at hl 0 rfl) ?_
  refine lv_goto (tgt := 29) hx hb dX12_guardGets_11 (by decide) ?_
  exact ziret hx hb hr (rfl) hlocks () (rfl) (trivial) hw [] rfl (rfl) hS (Nat.le_of_ble_eq_true rfl) (Nat.le_of_ble_eq_true rfl) dX12_guardGets_29

set_option maxHeartbeats 4000000 in
set_option maxRecDepth 100000 in
theorem c_mt11 (l : Launch) (D : va_G) (ct : Nat → ClassId) (r : Int32) (w : Int32)  : zC l yX12_travellerGets wsX12_travellerGets ({ frames := 1, cells := 0, slots := 0, locals := 80 }) D ct [] [.int r, .int w, .int 1, .int 1] [] (S := Unit) (fun _ => some (.int (-r))) (fun _ => True) (fun _ => []) 0 0 := by
  refine zofW cX12_travellerGets 4 (some .int) (by decide) rfl (Nat.le_of_ble_eq_true rfl) ?_
  intro p e s m below meth c A hx hb hr hml hts hown hlocks hname hK hA hZ hN H locs hw hS ls hl
  have hown : s.vm.findClass RX12 = some m.cls := hown
  have hl : lv_has ls 4 [(0, .int r), (1, .int w), (2, .int 1), (3, .int 1)] := hl
  refine lv_iload_n hx hb dX12_travellerGets_0 rfl (lv_at hl 3 rfl) ?_
  refine lv_if_ne (tgt := 8) hx hb dX12_travellerGets_1 (by decide) (fun _ => ?_) (fun h => absurd h (by decide))
  refine lv_iload_n hx hb dX12_travellerGets_8 rfl (lv_at hl 2 rfl) ?_
  refine lv_iconst (v := 1) hx hb dX12_travellerGets_9 (by decide) ?_
  refine lv_icmp_ne (tgt := 18) hx hb dX12_travellerGets_10 (by decide) (fun h => absurd (by decide) h) (fun _ => ?_)
  refine lv_iload_n hx hb dX12_travellerGets_13 rfl (lv_at hl 0 rfl) ?_
  refine lv_ineg hx hb dX12_travellerGets_14 ?_
  refine lv_goto (tgt := 19) hx hb dX12_travellerGets_15 (by decide) ?_
  exact ziret hx hb hr (rfl) hlocks () (rfl) (trivial) hw [] rfl (rfl) hS (Nat.le_of_ble_eq_true rfl) (Nat.le_of_ble_eq_true rfl) dX12_travellerGets_19

set_option maxHeartbeats 4000000 in
set_option maxRecDepth 100000 in
/-- rests -/
theorem r_rests (l : Launch) (D : va_G) (ct : Nat → ClassId) (h0 : Nat) (y : Nat → Nat) (w_thrown : Int32) (w_taped : Int32) (w_size : Int32) (w_place : Int32) (w_begin : Int32) (w_token : Int32) (w_word : Int64) (w_told : Int32) (w_wrong : Int32) (w_code : Int32) (w_toldLines : Int32) (w_given : Int32) (w_fresh : Int64) (w_done : Int32) (w_moreAsked : Int32) (w_g : Int64) (w_gone : Int32) (w_stopped : Int32) (p1 : Int32) (p2 : Int32) (p3 : Int32)  : zC l yX12_rests wsX12_rests ({ frames := 2, cells := 0, slots := 0, locals := 120 }) D ct [] [.ref h0, .int p1, .int p2, .int p3] [(h0, .inr (11, [.int w_thrown, .int w_taped, .ref (y 0), .int w_size, .int w_place, .int w_begin, .int w_token, .long w_word, .int w_told, .int w_wrong, .ref (y 1), .ref (y 2), .ref (y 3), .ref (y 4), .ref (y 5), .ref (y 6), .ref (y 7), .ref (y 8), .ref (y 9), .ref (y 10), .ref (y 11), .ref (y 12), .int w_code, .int w_toldLines, .ref (y 13), .ref (y 14), .ref (y 15), .ref (y 16), .ref (y 17), .ref (y 18), .ref (y 19), .ref (y 20), .ref (y 21), .ref (y 22), .ref (y 23), .ref (y 24), .int w_given, .long w_fresh, .ref (y 25), .ref (y 26), .ref (y 27), .ref (y 28), .ref (y 29), .ref (y 30), .ref (y 31), .ref (y 32), .ref (y 33), .ref (y 34), .ref (y 35), .ref (y 36), .ref (y 37), .int w_done, .int w_moreAsked, .ref (y 38), .long w_g, .int w_gone, .int w_stopped]))] (S := Unit) (fun _ => some (.int (zrv p1 p2 p3))) (fun _ => True) (fun _ => [(h0, .inr (11, [.int (zth p1 p2 p3), .int w_taped, .ref (y 0), .int w_size, .int w_place, .int w_begin, .int w_token, .long w_word, .int w_told, .int w_wrong, .ref (y 1), .ref (y 2), .ref (y 3), .ref (y 4), .ref (y 5), .ref (y 6), .ref (y 7), .ref (y 8), .ref (y 9), .ref (y 10), .ref (y 11), .ref (y 12), .int w_code, .int w_toldLines, .ref (y 13), .ref (y 14), .ref (y 15), .ref (y 16), .ref (y 17), .ref (y 18), .ref (y 19), .ref (y 20), .ref (y 21), .ref (y 22), .ref (y 23), .ref (y 24), .int w_given, .long w_fresh, .ref (y 25), .ref (y 26), .ref (y 27), .ref (y 28), .ref (y 29), .ref (y 30), .ref (y 31), .ref (y 32), .ref (y 33), .ref (y 34), .ref (y 35), .ref (y 36), .ref (y 37), .int w_done, .int w_moreAsked, .ref (y 38), .long w_g, .int w_gone, .int w_stopped]))]) 0 0 := by
  refine zofW cX12_rests 8 (some .int) (by decide) rfl (Nat.le_of_ble_eq_true rfl) ?_
  intro p e s m below meth c A hx hb hr hml hts hown hlocks hname hK hA hZ hN H locs hw hS ls hl
  have hown : s.vm.findClass RX12 = some m.cls := hown
  have hl : lv_has ls 8 [(0, .ref h0), (1, .int p1), (2, .int p2), (3, .int p3)] := hl
  have hiX12 : ∀ w ∈ wsX120, w ∈ wsX12_rests := by decide +kernel
  refine lv_aload_n hx hb dX12_rests_0 rfl (lv_at hl 0 rfl) ?_
  refine lv_iload_n hx hb dX12_rests_1 rfl (lv_at hl 1 rfl) ?_
  refine lv_iconst (v := 0) hx hb dX12_rests_2 (by decide) ?_
  refine lv_bipush (v := 9) hx hb dX12_rests_3 (by decide) ?_
  refine zcall2 (va_runS (As := [.int p1, .int 0, .int 9]) (rest := [.ref h0]) ⟨hx, hb, hml, hown, hts⟩ (c_within l D ct p1 0 9 H.size) (va_cwS 3 hts gX12_rests_X12_within rfl rfl rfl (by decide +kernel) ⟨Nat.le_of_ble_eq_true rfl, Nat.le_of_ble_eq_true rfl⟩) (zpreS hK hw hS hA zZ.nil hN [] rfl rfl) rfl rfl hl.1 rfl (lv_room (Nat.le_of_ble_eq_true rfl)) dX12_rests_5 ⟨Nat.le_of_ble_eq_true rfl, Nat.le_of_ble_eq_true rfl⟩) hw hS hA [] [0] rfl rfl rfl rfl (fun _ H locs hp1 hw hS => ?_)
  have hw : zPD D A [(h0, .inr (11, [.int w_thrown, .int w_taped, .ref (y 0), .int w_size, .int w_place, .int w_begin, .int w_token, .long w_word, .int w_told, .int w_wrong, .ref (y 1), .ref (y 2), .ref (y 3), .ref (y 4), .ref (y 5), .ref (y 6), .ref (y 7), .ref (y 8), .ref (y 9), .ref (y 10), .ref (y 11), .ref (y 12), .int w_code, .int w_toldLines, .ref (y 13), .ref (y 14), .ref (y 15), .ref (y 16), .ref (y 17), .ref (y 18), .ref (y 19), .ref (y 20), .ref (y 21), .ref (y 22), .ref (y 23), .ref (y 24), .int w_given, .long w_fresh, .ref (y 25), .ref (y 26), .ref (y 27), .ref (y 28), .ref (y 29), .ref (y 30), .ref (y 31), .ref (y 32), .ref (y 33), .ref (y 34), .ref (y 35), .ref (y 36), .ref (y 37), .int w_done, .int w_moreAsked, .ref (y 38), .long w_g, .int w_gone, .int w_stopped]))] H := hw
  refine zfr 8 [.int (zwi p1 0 9), .ref h0] rfl rfl ?_
  refine lv_if_eq (tgt := 30) hx hb dX12_rests_8 (by decide) (fun c_2 => ?_) (fun c_2 => ?_)
  · refine lv_iconst (v := 1) hx hb dX12_rests_30 (by decide) ?_
    refine zput (D := D) (ci := 11) (v := .int 1) (ty := .int) hx hb hts hiX12 tyX12 tyX12_ok nmX12 hown hK hw hS 0 rfl rfl 0 (by decide) (hts (.fieldLink RX12 129 "BeardPassModel" "thrown" "I") (by decide +kernel)) (fun _ h9 => h9) rfl (by decide +kernel) rfl rfl (Nat.le_of_ble_eq_true rfl) dX12_rests_31 [(h0, .inr (11, [.int 1, .int w_taped, .ref (y 0), .int w_size, .int w_place, .int w_begin, .int w_token, .long w_word, .int w_told, .int w_wrong, .ref (y 1), .ref (y 2), .ref (y 3), .ref (y 4), .ref (y 5), .ref (y 6), .ref (y 7), .ref (y 8), .ref (y 9), .ref (y 10), .ref (y 11), .ref (y 12), .int w_code, .int w_toldLines, .ref (y 13), .ref (y 14), .ref (y 15), .ref (y 16), .ref (y 17), .ref (y 18), .ref (y 19), .ref (y 20), .ref (y 21), .ref (y 22), .ref (y 23), .ref (y 24), .int w_given, .long w_fresh, .ref (y 25), .ref (y 26), .ref (y 27), .ref (y 28), .ref (y 29), .ref (y 30), .ref (y 31), .ref (y 32), .ref (y 33), .ref (y 34), .ref (y 35), .ref (y 36), .ref (y 37), .int w_done, .int w_moreAsked, .ref (y 38), .long w_g, .int w_gone, .int w_stopped]))] rfl (fun H locs hw hS => ?_)
    refine lv_aload_n hx hb dX12_rests_34 rfl (lv_at hl 0 rfl) ?_
    refine va_get (D := D) (ci := 11) (v := .int 1) hx hb hts hiX12 hown hK hw.1 0 rfl rfl 0 (by decide) (hts (.fieldLink RX12 129 "BeardPassModel" "thrown" "I") (by decide +kernel)) (fun _ h9 => h9) rfl dX12_rests_35 ?_
    refine lv_iconst (v := 1) hx hb dX12_rests_38 (by decide) ?_
    refine lv_icmp_ne (tgt := 44) hx hb dX12_rests_39 (by decide) (fun h => absurd (by decide) h) (fun _ => ?_)
    refine lv_iconst (v := 0) hx hb dX12_rests_42 (by decide) ?_
    exact ziret hx hb hr (rfl) hlocks () (congrArg (fun z => some (Value.int z)) (zrv_none (by rw [zrs, if_pos c_2]))) (trivial) hw [0] rfl (by rw [show zth p1 p2 p3 = 1 from zth_none (by rw [zrs, if_pos c_2])]; rfl) hS (Nat.le_of_ble_eq_true rfl) (Nat.le_of_ble_eq_true rfl) dX12_rests_43
  · refine lv_iload_n hx hb dX12_rests_11 rfl (lv_at hl 2 rfl) ?_
    refine lv_iconst (v := 0) hx hb dX12_rests_12 (by decide) ?_
    refine lv_bipush (v := 9) hx hb dX12_rests_13 (by decide) ?_
    refine zcall2 (va_runS (As := [.int p2, .int 0, .int 9]) (rest := [.ref h0]) ⟨hx, hb, hml, hown, hts⟩ (c_within l D ct p2 0 9 H.size) (va_cwS 3 hts gX12_rests_X12_within rfl rfl rfl (by decide +kernel) ⟨Nat.le_of_ble_eq_true rfl, Nat.le_of_ble_eq_true rfl⟩) (zpreS hK hw hS hA zZ.nil hN [] rfl rfl) rfl rfl hl.1 rfl (lv_room (Nat.le_of_ble_eq_true rfl)) dX12_rests_15 ⟨Nat.le_of_ble_eq_true rfl, Nat.le_of_ble_eq_true rfl⟩) hw hS hA [] [0] rfl rfl rfl rfl (fun _ H locs hp4 hw hS => ?_)
    have hw : zPD D A [(h0, .inr (11, [.int w_thrown, .int w_taped, .ref (y 0), .int w_size, .int w_place, .int w_begin, .int w_token, .long w_word, .int w_told, .int w_wrong, .ref (y 1), .ref (y 2), .ref (y 3), .ref (y 4), .ref (y 5), .ref (y 6), .ref (y 7), .ref (y 8), .ref (y 9), .ref (y 10), .ref (y 11), .ref (y 12), .int w_code, .int w_toldLines, .ref (y 13), .ref (y 14), .ref (y 15), .ref (y 16), .ref (y 17), .ref (y 18), .ref (y 19), .ref (y 20), .ref (y 21), .ref (y 22), .ref (y 23), .ref (y 24), .int w_given, .long w_fresh, .ref (y 25), .ref (y 26), .ref (y 27), .ref (y 28), .ref (y 29), .ref (y 30), .ref (y 31), .ref (y 32), .ref (y 33), .ref (y 34), .ref (y 35), .ref (y 36), .ref (y 37), .int w_done, .int w_moreAsked, .ref (y 38), .long w_g, .int w_gone, .int w_stopped]))] H := hw
    refine zfr 18 [.int (zwi p2 0 9), .ref h0] rfl rfl ?_
    refine lv_if_eq (tgt := 30) hx hb dX12_rests_18 (by decide) (fun c_5 => ?_) (fun c_5 => ?_)
    · refine lv_iconst (v := 1) hx hb dX12_rests_30 (by decide) ?_
      refine zput (D := D) (ci := 11) (v := .int 1) (ty := .int) hx hb hts hiX12 tyX12 tyX12_ok nmX12 hown hK hw hS 0 rfl rfl 0 (by decide) (hts (.fieldLink RX12 129 "BeardPassModel" "thrown" "I") (by decide +kernel)) (fun _ h9 => h9) rfl (by decide +kernel) rfl rfl (Nat.le_of_ble_eq_true rfl) dX12_rests_31 [(h0, .inr (11, [.int 1, .int w_taped, .ref (y 0), .int w_size, .int w_place, .int w_begin, .int w_token, .long w_word, .int w_told, .int w_wrong, .ref (y 1), .ref (y 2), .ref (y 3), .ref (y 4), .ref (y 5), .ref (y 6), .ref (y 7), .ref (y 8), .ref (y 9), .ref (y 10), .ref (y 11), .ref (y 12), .int w_code, .int w_toldLines, .ref (y 13), .ref (y 14), .ref (y 15), .ref (y 16), .ref (y 17), .ref (y 18), .ref (y 19), .ref (y 20), .ref (y 21), .ref (y 22), .ref (y 23), .ref (y 24), .int w_given, .long w_fresh, .ref (y 25), .ref (y 26), .ref (y 27), .ref (y 28), .ref (y 29), .ref (y 30), .ref (y 31), .ref (y 32), .ref (y 33), .ref (y 34), .ref (y 35), .ref (y 36), .ref (y 37), .int w_done, .int w_moreAsked, .ref (y 38), .long w_g, .int w_gone, .int w_stopped]))] rfl (fun H locs hw hS => ?_)
      refine lv_aload_n hx hb dX12_rests_34 rfl (lv_at hl 0 rfl) ?_
      refine va_get (D := D) (ci := 11) (v := .int 1) hx hb hts hiX12 hown hK hw.1 0 rfl rfl 0 (by decide) (hts (.fieldLink RX12 129 "BeardPassModel" "thrown" "I") (by decide +kernel)) (fun _ h9 => h9) rfl dX12_rests_35 ?_
      refine lv_iconst (v := 1) hx hb dX12_rests_38 (by decide) ?_
      refine lv_icmp_ne (tgt := 44) hx hb dX12_rests_39 (by decide) (fun h => absurd (by decide) h) (fun _ => ?_)
      refine lv_iconst (v := 0) hx hb dX12_rests_42 (by decide) ?_
      exact ziret hx hb hr (rfl) hlocks () (congrArg (fun z => some (Value.int z)) (zrv_none (by rw [zrs, if_neg c_2, if_pos c_5]))) (trivial) hw [0] rfl (by rw [show zth p1 p2 p3 = 1 from zth_none (by rw [zrs, if_neg c_2, if_pos c_5])]; rfl) hS (Nat.le_of_ble_eq_true rfl) (Nat.le_of_ble_eq_true rfl) dX12_rests_43
    · refine lv_iload_n hx hb dX12_rests_21 rfl (lv_at hl 3 rfl) ?_
      refine lv_iconst (v := (-1)) hx hb dX12_rests_22 (by decide) ?_
      refine lv_icmp_lt (tgt := 30) hx hb dX12_rests_23 (by decide) (fun c_7 => ?_) (fun c_7 => ?_)
      · refine lv_iconst (v := 1) hx hb dX12_rests_30 (by decide) ?_
        refine zput (D := D) (ci := 11) (v := .int 1) (ty := .int) hx hb hts hiX12 tyX12 tyX12_ok nmX12 hown hK hw hS 0 rfl rfl 0 (by decide) (hts (.fieldLink RX12 129 "BeardPassModel" "thrown" "I") (by decide +kernel)) (fun _ h9 => h9) rfl (by decide +kernel) rfl rfl (Nat.le_of_ble_eq_true rfl) dX12_rests_31 [(h0, .inr (11, [.int 1, .int w_taped, .ref (y 0), .int w_size, .int w_place, .int w_begin, .int w_token, .long w_word, .int w_told, .int w_wrong, .ref (y 1), .ref (y 2), .ref (y 3), .ref (y 4), .ref (y 5), .ref (y 6), .ref (y 7), .ref (y 8), .ref (y 9), .ref (y 10), .ref (y 11), .ref (y 12), .int w_code, .int w_toldLines, .ref (y 13), .ref (y 14), .ref (y 15), .ref (y 16), .ref (y 17), .ref (y 18), .ref (y 19), .ref (y 20), .ref (y 21), .ref (y 22), .ref (y 23), .ref (y 24), .int w_given, .long w_fresh, .ref (y 25), .ref (y 26), .ref (y 27), .ref (y 28), .ref (y 29), .ref (y 30), .ref (y 31), .ref (y 32), .ref (y 33), .ref (y 34), .ref (y 35), .ref (y 36), .ref (y 37), .int w_done, .int w_moreAsked, .ref (y 38), .long w_g, .int w_gone, .int w_stopped]))] rfl (fun H locs hw hS => ?_)
        refine lv_aload_n hx hb dX12_rests_34 rfl (lv_at hl 0 rfl) ?_
        refine va_get (D := D) (ci := 11) (v := .int 1) hx hb hts hiX12 hown hK hw.1 0 rfl rfl 0 (by decide) (hts (.fieldLink RX12 129 "BeardPassModel" "thrown" "I") (by decide +kernel)) (fun _ h9 => h9) rfl dX12_rests_35 ?_
        refine lv_iconst (v := 1) hx hb dX12_rests_38 (by decide) ?_
        refine lv_icmp_ne (tgt := 44) hx hb dX12_rests_39 (by decide) (fun h => absurd (by decide) h) (fun _ => ?_)
        refine lv_iconst (v := 0) hx hb dX12_rests_42 (by decide) ?_
        exact ziret hx hb hr (rfl) hlocks () (congrArg (fun z => some (Value.int z)) (zrv_none (by rw [zrs, if_neg c_2, if_neg c_5, if_neg (zslt (r := p1) (w := p2) c_7)]))) (trivial) hw [0] rfl (by rw [show zth p1 p2 p3 = 1 from zth_none (by rw [zrs, if_neg c_2, if_neg c_5, if_neg (zslt (r := p1) (w := p2) c_7)])]; rfl) hS (Nat.le_of_ble_eq_true rfl) (Nat.le_of_ble_eq_true rfl) dX12_rests_43
      · refine lv_iconst (v := 0) hx hb dX12_rests_26 (by decide) ?_
        refine lv_goto (tgt := 31) hx hb dX12_rests_27 (by decide) ?_
        refine zput (D := D) (ci := 11) (v := .int 0) (ty := .int) hx hb hts hiX12 tyX12 tyX12_ok nmX12 hown hK hw hS 0 rfl rfl 0 (by decide) (hts (.fieldLink RX12 129 "BeardPassModel" "thrown" "I") (by decide +kernel)) (fun _ h9 => h9) rfl (by decide +kernel) rfl rfl (Nat.le_of_ble_eq_true rfl) dX12_rests_31 [(h0, .inr (11, [.int 0, .int w_taped, .ref (y 0), .int w_size, .int w_place, .int w_begin, .int w_token, .long w_word, .int w_told, .int w_wrong, .ref (y 1), .ref (y 2), .ref (y 3), .ref (y 4), .ref (y 5), .ref (y 6), .ref (y 7), .ref (y 8), .ref (y 9), .ref (y 10), .ref (y 11), .ref (y 12), .int w_code, .int w_toldLines, .ref (y 13), .ref (y 14), .ref (y 15), .ref (y 16), .ref (y 17), .ref (y 18), .ref (y 19), .ref (y 20), .ref (y 21), .ref (y 22), .ref (y 23), .ref (y 24), .int w_given, .long w_fresh, .ref (y 25), .ref (y 26), .ref (y 27), .ref (y 28), .ref (y 29), .ref (y 30), .ref (y 31), .ref (y 32), .ref (y 33), .ref (y 34), .ref (y 35), .ref (y 36), .ref (y 37), .int w_done, .int w_moreAsked, .ref (y 38), .long w_g, .int w_gone, .int w_stopped]))] rfl (fun H locs hw hS => ?_)
        refine lv_aload_n hx hb dX12_rests_34 rfl (lv_at hl 0 rfl) ?_
        refine va_get (D := D) (ci := 11) (v := .int 0) hx hb hts hiX12 hown hK hw.1 0 rfl rfl 0 (by decide) (hts (.fieldLink RX12 129 "BeardPassModel" "thrown" "I") (by decide +kernel)) (fun _ h9 => h9) rfl dX12_rests_35 ?_
        refine lv_iconst (v := 1) hx hb dX12_rests_38 (by decide) ?_
        refine lv_icmp_ne (tgt := 44) hx hb dX12_rests_39 (by decide) (fun _ => ?_) (fun h => absurd h (by decide))
        refine lv_iconst (v := 0) hx hb dX12_rests_44 (by decide) ?_
        refine lv_istore (lv' := [(4, .int 0), (0, .ref h0), (1, .int p1), (2, .int p2), (3, .int p3)]) hx hb dX12_rests_45 hl (by decide) rfl (fun ls hl => ?_)
        refine lv_iconst (v := 0) hx hb dX12_rests_47 (by decide) ?_
        refine lv_istore (lv' := [(5, .int 0), (4, .int 0), (0, .ref h0), (1, .int p1), (2, .int p2), (3, .int p3)]) hx hb dX12_rests_48 hl (by decide) rfl (fun ls hl => ?_)
        refine lv_iload hx hb dX12_rests_50 (lv_at hl 0 rfl) ?_
        refine lv_iconst (v := 4) hx hb dX12_rests_52 (by decide) ?_
        refine lv_icmp_ge (tgt := 135) hx hb dX12_rests_53 (by decide) (fun h => absurd h (by decide)) (fun _ => ?_)
        refine lv_iload hx hb dX12_rests_56 (lv_at hl 0 rfl) ?_
        refine lv_iconst (v := 2) hx hb dX12_rests_58 (by decide) ?_
        refine lv_idiv hx hb dX12_rests_59 (by decide) ?_
        refine ztop (.int 0) (congrArg Value.int (by decide)) ?_
        refine lv_istore (lv' := [(6, .int 0), (5, .int 0), (4, .int 0), (0, .ref h0), (1, .int p1), (2, .int p2), (3, .int p3)]) hx hb dX12_rests_60 hl (by decide) rfl (fun ls hl => ?_)
        refine lv_iload hx hb dX12_rests_62 (lv_at hl 1 rfl) ?_
        refine lv_iconst (v := 2) hx hb dX12_rests_64 (by decide) ?_
        refine lv_irem hx hb dX12_rests_65 (by decide) ?_
        refine ztop (.int 0) (congrArg Value.int (by decide)) ?_
        refine lv_istore (lv' := [(7, .int 0), (6, .int 0), (5, .int 0), (4, .int 0), (0, .ref h0), (1, .int p1), (2, .int p2), (3, .int p3)]) hx hb dX12_rests_66 hl (by decide) rfl (fun ls hl => ?_)
        refine lv_iload_n hx hb dX12_rests_68 rfl (lv_at hl 5 rfl) ?_
        refine lv_iload_n hx hb dX12_rests_69 rfl (lv_at hl 6 rfl) ?_
        refine lv_iconst (v := 1) hx hb dX12_rests_70 (by decide) ?_
        refine lv_iload hx hb dX12_rests_71 (lv_at hl 1 rfl) ?_
        refine lv_isub hx hb dX12_rests_73 ?_
        refine ztop (.int 1) (congrArg Value.int (by decide)) ?_
        refine lv_iload hx hb dX12_rests_74 (lv_at hl 0 rfl) ?_
        refine zcall2 (va_runS (As := [.int p1, .int p2, .int 1, .int 0]) (rest := []) ⟨hx, hb, hml, hown, hts⟩ (c_mg10 l D ct p1 p2 H.size) (va_cwS 4 hts gX12_rests_X12_guardGets rfl rfl rfl (by decide +kernel) ⟨Nat.le_of_ble_eq_true rfl, Nat.le_of_ble_eq_true rfl⟩) (zpreS hK hw hS hA zZ.nil hN [] rfl rfl) rfl rfl hl.1 rfl (lv_room (Nat.le_of_ble_eq_true rfl)) dX12_rests_76 ⟨Nat.le_of_ble_eq_true rfl, Nat.le_of_ble_eq_true rfl⟩) hw hS hA [] [0] rfl rfl rfl rfl (fun _ H locs hp11 hw hS => ?_)
        have hw : zPD D A [(h0, .inr (11, [.int 0, .int w_taped, .ref (y 0), .int w_size, .int w_place, .int w_begin, .int w_token, .long w_word, .int w_told, .int w_wrong, .ref (y 1), .ref (y 2), .ref (y 3), .ref (y 4), .ref (y 5), .ref (y 6), .ref (y 7), .ref (y 8), .ref (y 9), .ref (y 10), .ref (y 11), .ref (y 12), .int w_code, .int w_toldLines, .ref (y 13), .ref (y 14), .ref (y 15), .ref (y 16), .ref (y 17), .ref (y 18), .ref (y 19), .ref (y 20), .ref (y 21), .ref (y 22), .ref (y 23), .ref (y 24), .int w_given, .long w_fresh, .ref (y 25), .ref (y 26), .ref (y 27), .ref (y 28), .ref (y 29), .ref (y 30), .ref (y 31), .ref (y 32), .ref (y 33), .ref (y 34), .ref (y 35), .ref (y 36), .ref (y 37), .int w_done, .int w_moreAsked, .ref (y 38), .long w_g, .int w_gone, .int w_stopped]))] H := hw
        refine zfr 79 [.int (-1)] rfl rfl ?_
        refine lv_iload_n hx hb dX12_rests_79 rfl (lv_at hl 5 rfl) ?_
        refine lv_iload_n hx hb dX12_rests_80 rfl (lv_at hl 6 rfl) ?_
        refine lv_iload hx hb dX12_rests_81 (lv_at hl 1 rfl) ?_
        refine lv_iload hx hb dX12_rests_83 (lv_at hl 0 rfl) ?_
        refine zcall2 (va_runS (As := [.int p1, .int p2, .int 0, .int 0]) (rest := [.int (-1)]) ⟨hx, hb, hml, hown, hts⟩ (c_mg00 l D ct p1 p2 H.size) (va_cwS 4 hts gX12_rests_X12_guardGets rfl rfl rfl (by decide +kernel) ⟨Nat.le_of_ble_eq_true rfl, Nat.le_of_ble_eq_true rfl⟩) (zpreS hK hw hS hA zZ.nil hN [] rfl rfl) rfl rfl hl.1 rfl (lv_room (Nat.le_of_ble_eq_true rfl)) dX12_rests_85 ⟨Nat.le_of_ble_eq_true rfl, Nat.le_of_ble_eq_true rfl⟩) hw hS hA [] [0] rfl rfl rfl rfl (fun _ H locs hp12 hw hS => ?_)
        have hw : zPD D A [(h0, .inr (11, [.int 0, .int w_taped, .ref (y 0), .int w_size, .int w_place, .int w_begin, .int w_token, .long w_word, .int w_told, .int w_wrong, .ref (y 1), .ref (y 2), .ref (y 3), .ref (y 4), .ref (y 5), .ref (y 6), .ref (y 7), .ref (y 8), .ref (y 9), .ref (y 10), .ref (y 11), .ref (y 12), .int w_code, .int w_toldLines, .ref (y 13), .ref (y 14), .ref (y 15), .ref (y 16), .ref (y 17), .ref (y 18), .ref (y 19), .ref (y 20), .ref (y 21), .ref (y 22), .ref (y 23), .ref (y 24), .int w_given, .long w_fresh, .ref (y 25), .ref (y 26), .ref (y 27), .ref (y 28), .ref (y 29), .ref (y 30), .ref (y 31), .ref (y 32), .ref (y 33), .ref (y 34), .ref (y 35), .ref (y 36), .ref (y 37), .int w_done, .int w_moreAsked, .ref (y 38), .long w_g, .int w_gone, .int w_stopped]))] H := hw
        refine zfr 88 [.int 0, .int (-1)] rfl rfl ?_
        refine lv_icmp_gt (tgt := 129) hx hb dX12_rests_88 (by decide) (fun h => absurd h (by decide)) (fun _ => ?_)
        refine lv_iload_n hx hb dX12_rests_91 rfl (lv_at hl 5 rfl) ?_
        refine lv_iload_n hx hb dX12_rests_92 rfl (lv_at hl 6 rfl) ?_
        refine lv_iload hx hb dX12_rests_93 (lv_at hl 1 rfl) ?_
        refine lv_iconst (v := 1) hx hb dX12_rests_95 (by decide) ?_
        refine lv_iload hx hb dX12_rests_96 (lv_at hl 0 rfl) ?_
        refine lv_isub hx hb dX12_rests_98 ?_
        refine ztop (.int 1) (congrArg Value.int (by decide)) ?_
        refine zcall2 (va_runS (As := [.int p1, .int p2, .int 0, .int 1]) (rest := []) ⟨hx, hb, hml, hown, hts⟩ (c_mt01 l D ct p1 p2 H.size) (va_cwS 4 hts gX12_rests_X12_travellerGets rfl rfl rfl (by decide +kernel) ⟨Nat.le_of_ble_eq_true rfl, Nat.le_of_ble_eq_true rfl⟩) (zpreS hK hw hS hA zZ.nil hN [] rfl rfl) rfl rfl hl.1 rfl (lv_room (Nat.le_of_ble_eq_true rfl)) dX12_rests_99 ⟨Nat.le_of_ble_eq_true rfl, Nat.le_of_ble_eq_true rfl⟩) hw hS hA [] [0] rfl rfl rfl rfl (fun _ H locs hp14 hw hS => ?_)
        have hw : zPD D A [(h0, .inr (11, [.int 0, .int w_taped, .ref (y 0), .int w_size, .int w_place, .int w_begin, .int w_token, .long w_word, .int w_told, .int w_wrong, .ref (y 1), .ref (y 2), .ref (y 3), .ref (y 4), .ref (y 5), .ref (y 6), .ref (y 7), .ref (y 8), .ref (y 9), .ref (y 10), .ref (y 11), .ref (y 12), .int w_code, .int w_toldLines, .ref (y 13), .ref (y 14), .ref (y 15), .ref (y 16), .ref (y 17), .ref (y 18), .ref (y 19), .ref (y 20), .ref (y 21), .ref (y 22), .ref (y 23), .ref (y 24), .int w_given, .long w_fresh, .ref (y 25), .ref (y 26), .ref (y 27), .ref (y 28), .ref (y 29), .ref (y 30), .ref (y 31), .ref (y 32), .ref (y 33), .ref (y 34), .ref (y 35), .ref (y 36), .ref (y 37), .int w_done, .int w_moreAsked, .ref (y 38), .long w_g, .int w_gone, .int w_stopped]))] H := hw
        refine zfr 102 [.int p2] rfl rfl ?_
        refine lv_iload_n hx hb dX12_rests_102 rfl (lv_at hl 5 rfl) ?_
        refine lv_iload_n hx hb dX12_rests_103 rfl (lv_at hl 6 rfl) ?_
        refine lv_iload hx hb dX12_rests_104 (lv_at hl 1 rfl) ?_
        refine lv_iload hx hb dX12_rests_106 (lv_at hl 0 rfl) ?_
        refine zcall2 (va_runS (As := [.int p1, .int p2, .int 0, .int 0]) (rest := [.int p2]) ⟨hx, hb, hml, hown, hts⟩ (c_mt00 l D ct p1 p2 H.size) (va_cwS 4 hts gX12_rests_X12_travellerGets rfl rfl rfl (by decide +kernel) ⟨Nat.le_of_ble_eq_true rfl, Nat.le_of_ble_eq_true rfl⟩) (zpreS hK hw hS hA zZ.nil hN [] rfl rfl) rfl rfl hl.1 rfl (lv_room (Nat.le_of_ble_eq_true rfl)) dX12_rests_108 ⟨Nat.le_of_ble_eq_true rfl, Nat.le_of_ble_eq_true rfl⟩) hw hS hA [] [0] rfl rfl rfl rfl (fun _ H locs hp15 hw hS => ?_)
        have hw : zPD D A [(h0, .inr (11, [.int 0, .int w_taped, .ref (y 0), .int w_size, .int w_place, .int w_begin, .int w_token, .long w_word, .int w_told, .int w_wrong, .ref (y 1), .ref (y 2), .ref (y 3), .ref (y 4), .ref (y 5), .ref (y 6), .ref (y 7), .ref (y 8), .ref (y 9), .ref (y 10), .ref (y 11), .ref (y 12), .int w_code, .int w_toldLines, .ref (y 13), .ref (y 14), .ref (y 15), .ref (y 16), .ref (y 17), .ref (y 18), .ref (y 19), .ref (y 20), .ref (y 21), .ref (y 22), .ref (y 23), .ref (y 24), .int w_given, .long w_fresh, .ref (y 25), .ref (y 26), .ref (y 27), .ref (y 28), .ref (y 29), .ref (y 30), .ref (y 31), .ref (y 32), .ref (y 33), .ref (y 34), .ref (y 35), .ref (y 36), .ref (y 37), .int w_done, .int w_moreAsked, .ref (y 38), .long w_g, .int w_gone, .int w_stopped]))] H := hw
        refine zfr 111 [.int 0, .int p2] rfl rfl ?_
        refine lv_icmp_le (tgt := 117) hx hb dX12_rests_111 (by decide) (fun c_16 => ?_) (fun c_16 => ?_)
        · refine lv_iload hx hb dX12_rests_117 (lv_at hl 3 rfl) ?_
          refine lv_iload_n hx hb dX12_rests_119 rfl (lv_at hl 7 rfl) ?_
          refine lv_icmp_ne (tgt := 126) hx hb dX12_rests_120 (by decide) (fun c_17 => ?_) (fun c_17 => ?_)
          · refine lv_iinc (v := 1) (lv' := [(4, .int 1), (7, .int 0), (6, .int 0), (5, .int 0), (0, .ref h0), (1, .int p1), (2, .int p2), (3, .int p3)]) hx hb dX12_rests_126 hl (k := 3) rfl (by decide) (by decide) rfl (fun ls hl => ?_)
            refine lv_iinc (v := 1) (lv' := [(5, .int 1), (4, .int 1), (7, .int 0), (6, .int 0), (0, .ref h0), (1, .int p1), (2, .int p2), (3, .int p3)]) hx hb dX12_rests_129 hl (k := 3) rfl (by decide) (by decide) rfl (fun ls hl => ?_)
            refine lv_goto (tgt := 50) hx hb dX12_rests_132 (by decide) ?_
            refine lv_iload hx hb dX12_rests_50 (lv_at hl 0 rfl) ?_
            refine lv_iconst (v := 4) hx hb dX12_rests_52 (by decide) ?_
            refine lv_icmp_ge (tgt := 135) hx hb dX12_rests_53 (by decide) (fun h => absurd h (by decide)) (fun _ => ?_)
            refine lv_iload hx hb dX12_rests_56 (lv_at hl 0 rfl) ?_
            refine lv_iconst (v := 2) hx hb dX12_rests_58 (by decide) ?_
            refine lv_idiv hx hb dX12_rests_59 (by decide) ?_
            refine ztop (.int 0) (congrArg Value.int (by decide)) ?_
            refine lv_istore (lv' := [(6, .int 0), (5, .int 1), (4, .int 1), (7, .int 0), (0, .ref h0), (1, .int p1), (2, .int p2), (3, .int p3)]) hx hb dX12_rests_60 hl (by decide) rfl (fun ls hl => ?_)
            refine lv_iload hx hb dX12_rests_62 (lv_at hl 1 rfl) ?_
            refine lv_iconst (v := 2) hx hb dX12_rests_64 (by decide) ?_
            refine lv_irem hx hb dX12_rests_65 (by decide) ?_
            refine ztop (.int 1) (congrArg Value.int (by decide)) ?_
            refine lv_istore (lv' := [(7, .int 1), (6, .int 0), (5, .int 1), (4, .int 1), (0, .ref h0), (1, .int p1), (2, .int p2), (3, .int p3)]) hx hb dX12_rests_66 hl (by decide) rfl (fun ls hl => ?_)
            refine lv_iload_n hx hb dX12_rests_68 rfl (lv_at hl 5 rfl) ?_
            refine lv_iload_n hx hb dX12_rests_69 rfl (lv_at hl 6 rfl) ?_
            refine lv_iconst (v := 1) hx hb dX12_rests_70 (by decide) ?_
            refine lv_iload hx hb dX12_rests_71 (lv_at hl 1 rfl) ?_
            refine lv_isub hx hb dX12_rests_73 ?_
            refine ztop (.int 1) (congrArg Value.int (by decide)) ?_
            refine lv_iload hx hb dX12_rests_74 (lv_at hl 0 rfl) ?_
            refine zcall2 (va_runS (As := [.int p1, .int p2, .int 1, .int 1]) (rest := []) ⟨hx, hb, hml, hown, hts⟩ (c_mg11 l D ct p1 p2 H.size) (va_cwS 4 hts gX12_rests_X12_guardGets rfl rfl rfl (by decide +kernel) ⟨Nat.le_of_ble_eq_true rfl, Nat.le_of_ble_eq_true rfl⟩) (zpreS hK hw hS hA zZ.nil hN [] rfl rfl) rfl rfl hl.1 rfl (lv_room (Nat.le_of_ble_eq_true rfl)) dX12_rests_76 ⟨Nat.le_of_ble_eq_true rfl, Nat.le_of_ble_eq_true rfl⟩) hw hS hA [] [0] rfl rfl rfl rfl (fun _ H locs hp19 hw hS => ?_)
            have hw : zPD D A [(h0, .inr (11, [.int 0, .int w_taped, .ref (y 0), .int w_size, .int w_place, .int w_begin, .int w_token, .long w_word, .int w_told, .int w_wrong, .ref (y 1), .ref (y 2), .ref (y 3), .ref (y 4), .ref (y 5), .ref (y 6), .ref (y 7), .ref (y 8), .ref (y 9), .ref (y 10), .ref (y 11), .ref (y 12), .int w_code, .int w_toldLines, .ref (y 13), .ref (y 14), .ref (y 15), .ref (y 16), .ref (y 17), .ref (y 18), .ref (y 19), .ref (y 20), .ref (y 21), .ref (y 22), .ref (y 23), .ref (y 24), .int w_given, .long w_fresh, .ref (y 25), .ref (y 26), .ref (y 27), .ref (y 28), .ref (y 29), .ref (y 30), .ref (y 31), .ref (y 32), .ref (y 33), .ref (y 34), .ref (y 35), .ref (y 36), .ref (y 37), .int w_done, .int w_moreAsked, .ref (y 38), .long w_g, .int w_gone, .int w_stopped]))] H := hw
            refine zfr 79 [.int p1] rfl rfl ?_
            refine lv_iload_n hx hb dX12_rests_79 rfl (lv_at hl 5 rfl) ?_
            refine lv_iload_n hx hb dX12_rests_80 rfl (lv_at hl 6 rfl) ?_
            refine lv_iload hx hb dX12_rests_81 (lv_at hl 1 rfl) ?_
            refine lv_iload hx hb dX12_rests_83 (lv_at hl 0 rfl) ?_
            refine zcall2 (va_runS (As := [.int p1, .int p2, .int 0, .int 1]) (rest := [.int p1]) ⟨hx, hb, hml, hown, hts⟩ (c_mg01 l D ct p1 p2 H.size) (va_cwS 4 hts gX12_rests_X12_guardGets rfl rfl rfl (by decide +kernel) ⟨Nat.le_of_ble_eq_true rfl, Nat.le_of_ble_eq_true rfl⟩) (zpreS hK hw hS hA zZ.nil hN [] rfl rfl) rfl rfl hl.1 rfl (lv_room (Nat.le_of_ble_eq_true rfl)) dX12_rests_85 ⟨Nat.le_of_ble_eq_true rfl, Nat.le_of_ble_eq_true rfl⟩) hw hS hA [] [0] rfl rfl rfl rfl (fun _ H locs hp20 hw hS => ?_)
            have hw : zPD D A [(h0, .inr (11, [.int 0, .int w_taped, .ref (y 0), .int w_size, .int w_place, .int w_begin, .int w_token, .long w_word, .int w_told, .int w_wrong, .ref (y 1), .ref (y 2), .ref (y 3), .ref (y 4), .ref (y 5), .ref (y 6), .ref (y 7), .ref (y 8), .ref (y 9), .ref (y 10), .ref (y 11), .ref (y 12), .int w_code, .int w_toldLines, .ref (y 13), .ref (y 14), .ref (y 15), .ref (y 16), .ref (y 17), .ref (y 18), .ref (y 19), .ref (y 20), .ref (y 21), .ref (y 22), .ref (y 23), .ref (y 24), .int w_given, .long w_fresh, .ref (y 25), .ref (y 26), .ref (y 27), .ref (y 28), .ref (y 29), .ref (y 30), .ref (y 31), .ref (y 32), .ref (y 33), .ref (y 34), .ref (y 35), .ref (y 36), .ref (y 37), .int w_done, .int w_moreAsked, .ref (y 38), .long w_g, .int w_gone, .int w_stopped]))] H := hw
            refine zfr 88 [.int (-p2), .int p1] rfl rfl ?_
            refine lv_icmp_gt (tgt := 129) hx hb dX12_rests_88 (by decide) (fun c_21 => ?_) (fun c_21 => ?_)
            · refine lv_iinc (v := 2) (lv' := [(5, .int 2), (7, .int 1), (6, .int 0), (4, .int 1), (0, .ref h0), (1, .int p1), (2, .int p2), (3, .int p3)]) hx hb dX12_rests_129 hl (k := 2) rfl (by decide) (by decide) rfl (fun ls hl => ?_)
              refine lv_goto (tgt := 50) hx hb dX12_rests_132 (by decide) ?_
              refine lv_iload hx hb dX12_rests_50 (lv_at hl 0 rfl) ?_
              refine lv_iconst (v := 4) hx hb dX12_rests_52 (by decide) ?_
              refine lv_icmp_ge (tgt := 135) hx hb dX12_rests_53 (by decide) (fun h => absurd h (by decide)) (fun _ => ?_)
              refine lv_iload hx hb dX12_rests_56 (lv_at hl 0 rfl) ?_
              refine lv_iconst (v := 2) hx hb dX12_rests_58 (by decide) ?_
              refine lv_idiv hx hb dX12_rests_59 (by decide) ?_
              refine ztop (.int 1) (congrArg Value.int (by decide)) ?_
              refine lv_istore (lv' := [(6, .int 1), (5, .int 2), (7, .int 1), (4, .int 1), (0, .ref h0), (1, .int p1), (2, .int p2), (3, .int p3)]) hx hb dX12_rests_60 hl (by decide) rfl (fun ls hl => ?_)
              refine lv_iload hx hb dX12_rests_62 (lv_at hl 1 rfl) ?_
              refine lv_iconst (v := 2) hx hb dX12_rests_64 (by decide) ?_
              refine lv_irem hx hb dX12_rests_65 (by decide) ?_
              refine ztop (.int 0) (congrArg Value.int (by decide)) ?_
              refine lv_istore (lv' := [(7, .int 0), (6, .int 1), (5, .int 2), (4, .int 1), (0, .ref h0), (1, .int p1), (2, .int p2), (3, .int p3)]) hx hb dX12_rests_66 hl (by decide) rfl (fun ls hl => ?_)
              refine lv_iload_n hx hb dX12_rests_68 rfl (lv_at hl 5 rfl) ?_
              refine lv_iload_n hx hb dX12_rests_69 rfl (lv_at hl 6 rfl) ?_
              refine lv_iconst (v := 1) hx hb dX12_rests_70 (by decide) ?_
              refine lv_iload hx hb dX12_rests_71 (lv_at hl 1 rfl) ?_
              refine lv_isub hx hb dX12_rests_73 ?_
              refine ztop (.int 0) (congrArg Value.int (by decide)) ?_
              refine lv_iload hx hb dX12_rests_74 (lv_at hl 0 rfl) ?_
              refine zcall2 (va_runS (As := [.int p1, .int p2, .int 0, .int 0]) (rest := []) ⟨hx, hb, hml, hown, hts⟩ (c_mg00 l D ct p1 p2 H.size) (va_cwS 4 hts gX12_rests_X12_guardGets rfl rfl rfl (by decide +kernel) ⟨Nat.le_of_ble_eq_true rfl, Nat.le_of_ble_eq_true rfl⟩) (zpreS hK hw hS hA zZ.nil hN [] rfl rfl) rfl rfl hl.1 rfl (lv_room (Nat.le_of_ble_eq_true rfl)) dX12_rests_76 ⟨Nat.le_of_ble_eq_true rfl, Nat.le_of_ble_eq_true rfl⟩) hw hS hA [] [0] rfl rfl rfl rfl (fun _ H locs hp23 hw hS => ?_)
              have hw : zPD D A [(h0, .inr (11, [.int 0, .int w_taped, .ref (y 0), .int w_size, .int w_place, .int w_begin, .int w_token, .long w_word, .int w_told, .int w_wrong, .ref (y 1), .ref (y 2), .ref (y 3), .ref (y 4), .ref (y 5), .ref (y 6), .ref (y 7), .ref (y 8), .ref (y 9), .ref (y 10), .ref (y 11), .ref (y 12), .int w_code, .int w_toldLines, .ref (y 13), .ref (y 14), .ref (y 15), .ref (y 16), .ref (y 17), .ref (y 18), .ref (y 19), .ref (y 20), .ref (y 21), .ref (y 22), .ref (y 23), .ref (y 24), .int w_given, .long w_fresh, .ref (y 25), .ref (y 26), .ref (y 27), .ref (y 28), .ref (y 29), .ref (y 30), .ref (y 31), .ref (y 32), .ref (y 33), .ref (y 34), .ref (y 35), .ref (y 36), .ref (y 37), .int w_done, .int w_moreAsked, .ref (y 38), .long w_g, .int w_gone, .int w_stopped]))] H := hw
              refine zfr 79 [.int 0] rfl rfl ?_
              refine lv_iload_n hx hb dX12_rests_79 rfl (lv_at hl 5 rfl) ?_
              refine lv_iload_n hx hb dX12_rests_80 rfl (lv_at hl 6 rfl) ?_
              refine lv_iload hx hb dX12_rests_81 (lv_at hl 1 rfl) ?_
              refine lv_iload hx hb dX12_rests_83 (lv_at hl 0 rfl) ?_
              refine zcall2 (va_runS (As := [.int p1, .int p2, .int 1, .int 0]) (rest := [.int 0]) ⟨hx, hb, hml, hown, hts⟩ (c_mg10 l D ct p1 p2 H.size) (va_cwS 4 hts gX12_rests_X12_guardGets rfl rfl rfl (by decide +kernel) ⟨Nat.le_of_ble_eq_true rfl, Nat.le_of_ble_eq_true rfl⟩) (zpreS hK hw hS hA zZ.nil hN [] rfl rfl) rfl rfl hl.1 rfl (lv_room (Nat.le_of_ble_eq_true rfl)) dX12_rests_85 ⟨Nat.le_of_ble_eq_true rfl, Nat.le_of_ble_eq_true rfl⟩) hw hS hA [] [0] rfl rfl rfl rfl (fun _ H locs hp24 hw hS => ?_)
              have hw : zPD D A [(h0, .inr (11, [.int 0, .int w_taped, .ref (y 0), .int w_size, .int w_place, .int w_begin, .int w_token, .long w_word, .int w_told, .int w_wrong, .ref (y 1), .ref (y 2), .ref (y 3), .ref (y 4), .ref (y 5), .ref (y 6), .ref (y 7), .ref (y 8), .ref (y 9), .ref (y 10), .ref (y 11), .ref (y 12), .int w_code, .int w_toldLines, .ref (y 13), .ref (y 14), .ref (y 15), .ref (y 16), .ref (y 17), .ref (y 18), .ref (y 19), .ref (y 20), .ref (y 21), .ref (y 22), .ref (y 23), .ref (y 24), .int w_given, .long w_fresh, .ref (y 25), .ref (y 26), .ref (y 27), .ref (y 28), .ref (y 29), .ref (y 30), .ref (y 31), .ref (y 32), .ref (y 33), .ref (y 34), .ref (y 35), .ref (y 36), .ref (y 37), .int w_done, .int w_moreAsked, .ref (y 38), .long w_g, .int w_gone, .int w_stopped]))] H := hw
              refine zfr 88 [.int (-1), .int 0] rfl rfl ?_
              refine lv_icmp_gt (tgt := 129) hx hb dX12_rests_88 (by decide) (fun _ => ?_) (fun h => absurd (by decide) h)
              refine lv_iinc (v := 3) (lv' := [(5, .int 3), (7, .int 0), (6, .int 1), (4, .int 1), (0, .ref h0), (1, .int p1), (2, .int p2), (3, .int p3)]) hx hb dX12_rests_129 hl (k := 2) rfl (by decide) (by decide) rfl (fun ls hl => ?_)
              refine lv_goto (tgt := 50) hx hb dX12_rests_132 (by decide) ?_
              refine lv_iload hx hb dX12_rests_50 (lv_at hl 0 rfl) ?_
              refine lv_iconst (v := 4) hx hb dX12_rests_52 (by decide) ?_
              refine lv_icmp_ge (tgt := 135) hx hb dX12_rests_53 (by decide) (fun h => absurd h (by decide)) (fun _ => ?_)
              refine lv_iload hx hb dX12_rests_56 (lv_at hl 0 rfl) ?_
              refine lv_iconst (v := 2) hx hb dX12_rests_58 (by decide) ?_
              refine lv_idiv hx hb dX12_rests_59 (by decide) ?_
              refine ztop (.int 1) (congrArg Value.int (by decide)) ?_
              refine lv_istore (lv' := [(6, .int 1), (5, .int 3), (7, .int 0), (4, .int 1), (0, .ref h0), (1, .int p1), (2, .int p2), (3, .int p3)]) hx hb dX12_rests_60 hl (by decide) rfl (fun ls hl => ?_)
              refine lv_iload hx hb dX12_rests_62 (lv_at hl 1 rfl) ?_
              refine lv_iconst (v := 2) hx hb dX12_rests_64 (by decide) ?_
              refine lv_irem hx hb dX12_rests_65 (by decide) ?_
              refine ztop (.int 1) (congrArg Value.int (by decide)) ?_
              refine lv_istore (lv' := [(7, .int 1), (6, .int 1), (5, .int 3), (4, .int 1), (0, .ref h0), (1, .int p1), (2, .int p2), (3, .int p3)]) hx hb dX12_rests_66 hl (by decide) rfl (fun ls hl => ?_)
              refine lv_iload_n hx hb dX12_rests_68 rfl (lv_at hl 5 rfl) ?_
              refine lv_iload_n hx hb dX12_rests_69 rfl (lv_at hl 6 rfl) ?_
              refine lv_iconst (v := 1) hx hb dX12_rests_70 (by decide) ?_
              refine lv_iload hx hb dX12_rests_71 (lv_at hl 1 rfl) ?_
              refine lv_isub hx hb dX12_rests_73 ?_
              refine ztop (.int 0) (congrArg Value.int (by decide)) ?_
              refine lv_iload hx hb dX12_rests_74 (lv_at hl 0 rfl) ?_
              refine zcall2 (va_runS (As := [.int p1, .int p2, .int 0, .int 1]) (rest := []) ⟨hx, hb, hml, hown, hts⟩ (c_mg01 l D ct p1 p2 H.size) (va_cwS 4 hts gX12_rests_X12_guardGets rfl rfl rfl (by decide +kernel) ⟨Nat.le_of_ble_eq_true rfl, Nat.le_of_ble_eq_true rfl⟩) (zpreS hK hw hS hA zZ.nil hN [] rfl rfl) rfl rfl hl.1 rfl (lv_room (Nat.le_of_ble_eq_true rfl)) dX12_rests_76 ⟨Nat.le_of_ble_eq_true rfl, Nat.le_of_ble_eq_true rfl⟩) hw hS hA [] [0] rfl rfl rfl rfl (fun _ H locs hp27 hw hS => ?_)
              have hw : zPD D A [(h0, .inr (11, [.int 0, .int w_taped, .ref (y 0), .int w_size, .int w_place, .int w_begin, .int w_token, .long w_word, .int w_told, .int w_wrong, .ref (y 1), .ref (y 2), .ref (y 3), .ref (y 4), .ref (y 5), .ref (y 6), .ref (y 7), .ref (y 8), .ref (y 9), .ref (y 10), .ref (y 11), .ref (y 12), .int w_code, .int w_toldLines, .ref (y 13), .ref (y 14), .ref (y 15), .ref (y 16), .ref (y 17), .ref (y 18), .ref (y 19), .ref (y 20), .ref (y 21), .ref (y 22), .ref (y 23), .ref (y 24), .int w_given, .long w_fresh, .ref (y 25), .ref (y 26), .ref (y 27), .ref (y 28), .ref (y 29), .ref (y 30), .ref (y 31), .ref (y 32), .ref (y 33), .ref (y 34), .ref (y 35), .ref (y 36), .ref (y 37), .int w_done, .int w_moreAsked, .ref (y 38), .long w_g, .int w_gone, .int w_stopped]))] H := hw
              refine zfr 79 [.int (-p2)] rfl rfl ?_
              refine lv_iload_n hx hb dX12_rests_79 rfl (lv_at hl 5 rfl) ?_
              refine lv_iload_n hx hb dX12_rests_80 rfl (lv_at hl 6 rfl) ?_
              refine lv_iload hx hb dX12_rests_81 (lv_at hl 1 rfl) ?_
              refine lv_iload hx hb dX12_rests_83 (lv_at hl 0 rfl) ?_
              refine zcall2 (va_runS (As := [.int p1, .int p2, .int 1, .int 1]) (rest := [.int (-p2)]) ⟨hx, hb, hml, hown, hts⟩ (c_mg11 l D ct p1 p2 H.size) (va_cwS 4 hts gX12_rests_X12_guardGets rfl rfl rfl (by decide +kernel) ⟨Nat.le_of_ble_eq_true rfl, Nat.le_of_ble_eq_true rfl⟩) (zpreS hK hw hS hA zZ.nil hN [] rfl rfl) rfl rfl hl.1 rfl (lv_room (Nat.le_of_ble_eq_true rfl)) dX12_rests_85 ⟨Nat.le_of_ble_eq_true rfl, Nat.le_of_ble_eq_true rfl⟩) hw hS hA [] [0] rfl rfl rfl rfl (fun _ H locs hp28 hw hS => ?_)
              have hw : zPD D A [(h0, .inr (11, [.int 0, .int w_taped, .ref (y 0), .int w_size, .int w_place, .int w_begin, .int w_token, .long w_word, .int w_told, .int w_wrong, .ref (y 1), .ref (y 2), .ref (y 3), .ref (y 4), .ref (y 5), .ref (y 6), .ref (y 7), .ref (y 8), .ref (y 9), .ref (y 10), .ref (y 11), .ref (y 12), .int w_code, .int w_toldLines, .ref (y 13), .ref (y 14), .ref (y 15), .ref (y 16), .ref (y 17), .ref (y 18), .ref (y 19), .ref (y 20), .ref (y 21), .ref (y 22), .ref (y 23), .ref (y 24), .int w_given, .long w_fresh, .ref (y 25), .ref (y 26), .ref (y 27), .ref (y 28), .ref (y 29), .ref (y 30), .ref (y 31), .ref (y 32), .ref (y 33), .ref (y 34), .ref (y 35), .ref (y 36), .ref (y 37), .int w_done, .int w_moreAsked, .ref (y 38), .long w_g, .int w_gone, .int w_stopped]))] H := hw
              refine zfr 88 [.int p1, .int (-p2)] rfl rfl ?_
              refine lv_icmp_gt (tgt := 129) hx hb dX12_rests_88 (by decide) (fun c_29 => ?_) (fun c_29 => ?_)
              · refine lv_iinc (v := 4) (lv' := [(5, .int 4), (7, .int 1), (6, .int 1), (4, .int 1), (0, .ref h0), (1, .int p1), (2, .int p2), (3, .int p3)]) hx hb dX12_rests_129 hl (k := 2) rfl (by decide) (by decide) rfl (fun ls hl => ?_)
                refine lv_goto (tgt := 50) hx hb dX12_rests_132 (by decide) ?_
                refine lv_iload hx hb dX12_rests_50 (lv_at hl 0 rfl) ?_
                refine lv_iconst (v := 4) hx hb dX12_rests_52 (by decide) ?_
                refine lv_icmp_ge (tgt := 135) hx hb dX12_rests_53 (by decide) (fun _ => ?_) (fun h => absurd (by decide) h)
                refine lv_aload_n hx hb dX12_rests_135 rfl (lv_at hl 4 rfl) ?_
                refine lv_iload_n hx hb dX12_rests_136 rfl (lv_at hl 7 rfl) ?_
                refine lv_iconst (v := (-1)) hx hb dX12_rests_137 (by decide) ?_
                refine lv_icmp_ne (tgt := 145) hx hb dX12_rests_138 (by decide) (fun c_31 => ?_) (fun c_31 => ?_)
                · refine lv_iconst (v := 1) hx hb dX12_rests_145 (by decide) ?_
                  refine zput (D := D) (ci := 11) (v := .int 1) (ty := .int) hx hb hts hiX12 tyX12 tyX12_ok nmX12 hown hK hw hS 0 rfl rfl 0 (by decide) (hts (.fieldLink RX12 129 "BeardPassModel" "thrown" "I") (by decide +kernel)) (fun _ h9 => h9) rfl (by decide +kernel) rfl rfl (Nat.le_of_ble_eq_true rfl) dX12_rests_146 [(h0, .inr (11, [.int 1, .int w_taped, .ref (y 0), .int w_size, .int w_place, .int w_begin, .int w_token, .long w_word, .int w_told, .int w_wrong, .ref (y 1), .ref (y 2), .ref (y 3), .ref (y 4), .ref (y 5), .ref (y 6), .ref (y 7), .ref (y 8), .ref (y 9), .ref (y 10), .ref (y 11), .ref (y 12), .int w_code, .int w_toldLines, .ref (y 13), .ref (y 14), .ref (y 15), .ref (y 16), .ref (y 17), .ref (y 18), .ref (y 19), .ref (y 20), .ref (y 21), .ref (y 22), .ref (y 23), .ref (y 24), .int w_given, .long w_fresh, .ref (y 25), .ref (y 26), .ref (y 27), .ref (y 28), .ref (y 29), .ref (y 30), .ref (y 31), .ref (y 32), .ref (y 33), .ref (y 34), .ref (y 35), .ref (y 36), .ref (y 37), .int w_done, .int w_moreAsked, .ref (y 38), .long w_g, .int w_gone, .int w_stopped]))] rfl (fun H locs hw hS => ?_)
                  refine lv_iload_n hx hb dX12_rests_149 rfl (lv_at hl 7 rfl) ?_
                  refine lv_iconst (v := (-1)) hx hb dX12_rests_150 (by decide) ?_
                  refine lv_icmp_ne (tgt := 159) hx hb dX12_rests_151 (by decide) (fun _ => ?_) (fun h => absurd h (c_31))
                  refine lv_iconst (v := 0) hx hb dX12_rests_159 (by decide) ?_
                  exact ziret hx hb hr (rfl) hlocks () (congrArg (fun z => some (Value.int z)) (zrv_none (by rw [zrs, if_neg c_2, if_neg c_5, if_pos (zsge (r := p1) (w := p2) c_7), zrq0, if_neg (show ¬ zat0 p2 = 0 by rw [zat0, if_pos c_16]; decide), if_neg c_17, zrq1, if_pos (show zat1 p1 p2 = 0 from if_pos c_21), zrq3, if_pos (show zat3 p1 p2 = 0 from if_pos c_29), zrq4, if_neg c_31]))) (trivial) hw [0] rfl (by rw [show zth p1 p2 p3 = 1 from zth_none (by rw [zrs, if_neg c_2, if_neg c_5, if_pos (zsge (r := p1) (w := p2) c_7), zrq0, if_neg (show ¬ zat0 p2 = 0 by rw [zat0, if_pos c_16]; decide), if_neg c_17, zrq1, if_pos (show zat1 p1 p2 = 0 from if_pos c_21), zrq3, if_pos (show zat3 p1 p2 = 0 from if_pos c_29), zrq4, if_neg c_31])]; rfl) hS (Nat.le_of_ble_eq_true rfl) (Nat.le_of_ble_eq_true rfl) dX12_rests_160
                · refine lv_iconst (v := 0) hx hb dX12_rests_141 (by decide) ?_
                  refine lv_goto (tgt := 146) hx hb dX12_rests_142 (by decide) ?_
                  refine zput (D := D) (ci := 11) (v := .int 0) (ty := .int) hx hb hts hiX12 tyX12 tyX12_ok nmX12 hown hK hw hS 0 rfl rfl 0 (by decide) (hts (.fieldLink RX12 129 "BeardPassModel" "thrown" "I") (by decide +kernel)) (fun _ h9 => h9) rfl (by decide +kernel) rfl rfl (Nat.le_of_ble_eq_true rfl) dX12_rests_146 [(h0, .inr (11, [.int 0, .int w_taped, .ref (y 0), .int w_size, .int w_place, .int w_begin, .int w_token, .long w_word, .int w_told, .int w_wrong, .ref (y 1), .ref (y 2), .ref (y 3), .ref (y 4), .ref (y 5), .ref (y 6), .ref (y 7), .ref (y 8), .ref (y 9), .ref (y 10), .ref (y 11), .ref (y 12), .int w_code, .int w_toldLines, .ref (y 13), .ref (y 14), .ref (y 15), .ref (y 16), .ref (y 17), .ref (y 18), .ref (y 19), .ref (y 20), .ref (y 21), .ref (y 22), .ref (y 23), .ref (y 24), .int w_given, .long w_fresh, .ref (y 25), .ref (y 26), .ref (y 27), .ref (y 28), .ref (y 29), .ref (y 30), .ref (y 31), .ref (y 32), .ref (y 33), .ref (y 34), .ref (y 35), .ref (y 36), .ref (y 37), .int w_done, .int w_moreAsked, .ref (y 38), .long w_g, .int w_gone, .int w_stopped]))] rfl (fun H locs hw hS => ?_)
                  refine lv_iload_n hx hb dX12_rests_149 rfl (lv_at hl 7 rfl) ?_
                  refine lv_iconst (v := (-1)) hx hb dX12_rests_150 (by decide) ?_
                  refine lv_icmp_ne (tgt := 159) hx hb dX12_rests_151 (by decide) (fun h => absurd (c_31) h) (fun _ => ?_)
                  refine lv_iload hx hb dX12_rests_154 (lv_at hl 3 rfl) ?_
                  refine lv_goto (tgt := 160) hx hb dX12_rests_156 (by decide) ?_
                  exact ziret hx hb hr (rfl) hlocks () (congrArg (fun z => some (Value.int z)) (zrv_some (by rw [zrs, if_neg c_2, if_neg c_5, if_pos (zsge (r := p1) (w := p2) c_7), zrq0, if_neg (show ¬ zat0 p2 = 0 by rw [zat0, if_pos c_16]; decide), if_neg c_17, zrq1, if_pos (show zat1 p1 p2 = 0 from if_pos c_21), zrq3, if_pos (show zat3 p1 p2 = 0 from if_pos c_29), zrq4, if_pos c_31]))) (trivial) hw [0] rfl (by rw [show zth p1 p2 p3 = 0 from zth_some (v := 1) (by rw [zrs, if_neg c_2, if_neg c_5, if_pos (zsge (r := p1) (w := p2) c_7), zrq0, if_neg (show ¬ zat0 p2 = 0 by rw [zat0, if_pos c_16]; decide), if_neg c_17, zrq1, if_pos (show zat1 p1 p2 = 0 from if_pos c_21), zrq3, if_pos (show zat3 p1 p2 = 0 from if_pos c_29), zrq4, if_pos c_31])]; rfl) hS (Nat.le_of_ble_eq_true rfl) (Nat.le_of_ble_eq_true rfl) dX12_rests_160
              · refine lv_iload_n hx hb dX12_rests_91 rfl (lv_at hl 5 rfl) ?_
                refine lv_iload_n hx hb dX12_rests_92 rfl (lv_at hl 6 rfl) ?_
                refine lv_iload hx hb dX12_rests_93 (lv_at hl 1 rfl) ?_
                refine lv_iconst (v := 1) hx hb dX12_rests_95 (by decide) ?_
                refine lv_iload hx hb dX12_rests_96 (lv_at hl 0 rfl) ?_
                refine lv_isub hx hb dX12_rests_98 ?_
                refine ztop (.int 0) (congrArg Value.int (by decide)) ?_
                refine zcall2 (va_runS (As := [.int p1, .int p2, .int 1, .int 0]) (rest := []) ⟨hx, hb, hml, hown, hts⟩ (c_mt10 l D ct p1 p2 H.size) (va_cwS 4 hts gX12_rests_X12_travellerGets rfl rfl rfl (by decide +kernel) ⟨Nat.le_of_ble_eq_true rfl, Nat.le_of_ble_eq_true rfl⟩) (zpreS hK hw hS hA zZ.nil hN [] rfl rfl) rfl rfl hl.1 rfl (lv_room (Nat.le_of_ble_eq_true rfl)) dX12_rests_99 ⟨Nat.le_of_ble_eq_true rfl, Nat.le_of_ble_eq_true rfl⟩) hw hS hA [] [0] rfl rfl rfl rfl (fun _ H locs hp34 hw hS => ?_)
                have hw : zPD D A [(h0, .inr (11, [.int 0, .int w_taped, .ref (y 0), .int w_size, .int w_place, .int w_begin, .int w_token, .long w_word, .int w_told, .int w_wrong, .ref (y 1), .ref (y 2), .ref (y 3), .ref (y 4), .ref (y 5), .ref (y 6), .ref (y 7), .ref (y 8), .ref (y 9), .ref (y 10), .ref (y 11), .ref (y 12), .int w_code, .int w_toldLines, .ref (y 13), .ref (y 14), .ref (y 15), .ref (y 16), .ref (y 17), .ref (y 18), .ref (y 19), .ref (y 20), .ref (y 21), .ref (y 22), .ref (y 23), .ref (y 24), .int w_given, .long w_fresh, .ref (y 25), .ref (y 26), .ref (y 27), .ref (y 28), .ref (y 29), .ref (y 30), .ref (y 31), .ref (y 32), .ref (y 33), .ref (y 34), .ref (y 35), .ref (y 36), .ref (y 37), .int w_done, .int w_moreAsked, .ref (y 38), .long w_g, .int w_gone, .int w_stopped]))] H := hw
                refine zfr 102 [.int 0] rfl rfl ?_
                refine lv_iload_n hx hb dX12_rests_102 rfl (lv_at hl 5 rfl) ?_
                refine lv_iload_n hx hb dX12_rests_103 rfl (lv_at hl 6 rfl) ?_
                refine lv_iload hx hb dX12_rests_104 (lv_at hl 1 rfl) ?_
                refine lv_iload hx hb dX12_rests_106 (lv_at hl 0 rfl) ?_
                refine zcall2 (va_runS (As := [.int p1, .int p2, .int 1, .int 1]) (rest := [.int 0]) ⟨hx, hb, hml, hown, hts⟩ (c_mt11 l D ct p1 p2 H.size) (va_cwS 4 hts gX12_rests_X12_travellerGets rfl rfl rfl (by decide +kernel) ⟨Nat.le_of_ble_eq_true rfl, Nat.le_of_ble_eq_true rfl⟩) (zpreS hK hw hS hA zZ.nil hN [] rfl rfl) rfl rfl hl.1 rfl (lv_room (Nat.le_of_ble_eq_true rfl)) dX12_rests_108 ⟨Nat.le_of_ble_eq_true rfl, Nat.le_of_ble_eq_true rfl⟩) hw hS hA [] [0] rfl rfl rfl rfl (fun _ H locs hp35 hw hS => ?_)
                have hw : zPD D A [(h0, .inr (11, [.int 0, .int w_taped, .ref (y 0), .int w_size, .int w_place, .int w_begin, .int w_token, .long w_word, .int w_told, .int w_wrong, .ref (y 1), .ref (y 2), .ref (y 3), .ref (y 4), .ref (y 5), .ref (y 6), .ref (y 7), .ref (y 8), .ref (y 9), .ref (y 10), .ref (y 11), .ref (y 12), .int w_code, .int w_toldLines, .ref (y 13), .ref (y 14), .ref (y 15), .ref (y 16), .ref (y 17), .ref (y 18), .ref (y 19), .ref (y 20), .ref (y 21), .ref (y 22), .ref (y 23), .ref (y 24), .int w_given, .long w_fresh, .ref (y 25), .ref (y 26), .ref (y 27), .ref (y 28), .ref (y 29), .ref (y 30), .ref (y 31), .ref (y 32), .ref (y 33), .ref (y 34), .ref (y 35), .ref (y 36), .ref (y 37), .int w_done, .int w_moreAsked, .ref (y 38), .long w_g, .int w_gone, .int w_stopped]))] H := hw
                refine zfr 111 [.int (-p1), .int 0] rfl rfl ?_
                refine lv_icmp_le (tgt := 117) hx hb dX12_rests_111 (by decide) (fun c_36 => ?_) (fun c_36 => ?_)
                · refine lv_iload hx hb dX12_rests_117 (lv_at hl 3 rfl) ?_
                  refine lv_iload_n hx hb dX12_rests_119 rfl (lv_at hl 7 rfl) ?_
                  refine lv_icmp_ne (tgt := 126) hx hb dX12_rests_120 (by decide) (fun c_37 => ?_) (fun c_37 => ?_)
                  · refine lv_iinc (v := 2) (lv' := [(4, .int 2), (7, .int 1), (6, .int 1), (5, .int 3), (0, .ref h0), (1, .int p1), (2, .int p2), (3, .int p3)]) hx hb dX12_rests_126 hl (k := 3) rfl (by decide) (by decide) rfl (fun ls hl => ?_)
                    refine lv_iinc (v := 4) (lv' := [(5, .int 4), (4, .int 2), (7, .int 1), (6, .int 1), (0, .ref h0), (1, .int p1), (2, .int p2), (3, .int p3)]) hx hb dX12_rests_129 hl (k := 3) rfl (by decide) (by decide) rfl (fun ls hl => ?_)
                    refine lv_goto (tgt := 50) hx hb dX12_rests_132 (by decide) ?_
                    refine lv_iload hx hb dX12_rests_50 (lv_at hl 0 rfl) ?_
                    refine lv_iconst (v := 4) hx hb dX12_rests_52 (by decide) ?_
                    refine lv_icmp_ge (tgt := 135) hx hb dX12_rests_53 (by decide) (fun _ => ?_) (fun h => absurd (by decide) h)
                    refine lv_aload_n hx hb dX12_rests_135 rfl (lv_at hl 4 rfl) ?_
                    refine lv_iload_n hx hb dX12_rests_136 rfl (lv_at hl 7 rfl) ?_
                    refine lv_iconst (v := (-1)) hx hb dX12_rests_137 (by decide) ?_
                    refine lv_icmp_ne (tgt := 145) hx hb dX12_rests_138 (by decide) (fun c_39 => ?_) (fun c_39 => ?_)
                    · refine lv_iconst (v := 1) hx hb dX12_rests_145 (by decide) ?_
                      refine zput (D := D) (ci := 11) (v := .int 1) (ty := .int) hx hb hts hiX12 tyX12 tyX12_ok nmX12 hown hK hw hS 0 rfl rfl 0 (by decide) (hts (.fieldLink RX12 129 "BeardPassModel" "thrown" "I") (by decide +kernel)) (fun _ h9 => h9) rfl (by decide +kernel) rfl rfl (Nat.le_of_ble_eq_true rfl) dX12_rests_146 [(h0, .inr (11, [.int 1, .int w_taped, .ref (y 0), .int w_size, .int w_place, .int w_begin, .int w_token, .long w_word, .int w_told, .int w_wrong, .ref (y 1), .ref (y 2), .ref (y 3), .ref (y 4), .ref (y 5), .ref (y 6), .ref (y 7), .ref (y 8), .ref (y 9), .ref (y 10), .ref (y 11), .ref (y 12), .int w_code, .int w_toldLines, .ref (y 13), .ref (y 14), .ref (y 15), .ref (y 16), .ref (y 17), .ref (y 18), .ref (y 19), .ref (y 20), .ref (y 21), .ref (y 22), .ref (y 23), .ref (y 24), .int w_given, .long w_fresh, .ref (y 25), .ref (y 26), .ref (y 27), .ref (y 28), .ref (y 29), .ref (y 30), .ref (y 31), .ref (y 32), .ref (y 33), .ref (y 34), .ref (y 35), .ref (y 36), .ref (y 37), .int w_done, .int w_moreAsked, .ref (y 38), .long w_g, .int w_gone, .int w_stopped]))] rfl (fun H locs hw hS => ?_)
                      refine lv_iload_n hx hb dX12_rests_149 rfl (lv_at hl 7 rfl) ?_
                      refine lv_iconst (v := (-1)) hx hb dX12_rests_150 (by decide) ?_
                      refine lv_icmp_ne (tgt := 159) hx hb dX12_rests_151 (by decide) (fun _ => ?_) (fun h => absurd h (c_39))
                      refine lv_iconst (v := 0) hx hb dX12_rests_159 (by decide) ?_
                      exact ziret hx hb hr (rfl) hlocks () (congrArg (fun z => some (Value.int z)) (zrv_none (by rw [zrs, if_neg c_2, if_neg c_5, if_pos (zsge (r := p1) (w := p2) c_7), zrq0, if_neg (show ¬ zat0 p2 = 0 by rw [zat0, if_pos c_16]; decide), if_neg c_17, zrq1, if_pos (show zat1 p1 p2 = 0 from if_pos c_21), zrq3, if_neg (show ¬ zat3 p1 p2 = 0 by rw [zat3, if_neg c_29, if_pos c_36]; decide), if_neg c_37, zrq4, if_neg c_39]))) (trivial) hw [0] rfl (by rw [show zth p1 p2 p3 = 1 from zth_none (by rw [zrs, if_neg c_2, if_neg c_5, if_pos (zsge (r := p1) (w := p2) c_7), zrq0, if_neg (show ¬ zat0 p2 = 0 by rw [zat0, if_pos c_16]; decide), if_neg c_17, zrq1, if_pos (show zat1 p1 p2 = 0 from if_pos c_21), zrq3, if_neg (show ¬ zat3 p1 p2 = 0 by rw [zat3, if_neg c_29, if_pos c_36]; decide), if_neg c_37, zrq4, if_neg c_39])]; rfl) hS (Nat.le_of_ble_eq_true rfl) (Nat.le_of_ble_eq_true rfl) dX12_rests_160
                    · refine lv_iconst (v := 0) hx hb dX12_rests_141 (by decide) ?_
                      refine lv_goto (tgt := 146) hx hb dX12_rests_142 (by decide) ?_
                      refine zput (D := D) (ci := 11) (v := .int 0) (ty := .int) hx hb hts hiX12 tyX12 tyX12_ok nmX12 hown hK hw hS 0 rfl rfl 0 (by decide) (hts (.fieldLink RX12 129 "BeardPassModel" "thrown" "I") (by decide +kernel)) (fun _ h9 => h9) rfl (by decide +kernel) rfl rfl (Nat.le_of_ble_eq_true rfl) dX12_rests_146 [(h0, .inr (11, [.int 0, .int w_taped, .ref (y 0), .int w_size, .int w_place, .int w_begin, .int w_token, .long w_word, .int w_told, .int w_wrong, .ref (y 1), .ref (y 2), .ref (y 3), .ref (y 4), .ref (y 5), .ref (y 6), .ref (y 7), .ref (y 8), .ref (y 9), .ref (y 10), .ref (y 11), .ref (y 12), .int w_code, .int w_toldLines, .ref (y 13), .ref (y 14), .ref (y 15), .ref (y 16), .ref (y 17), .ref (y 18), .ref (y 19), .ref (y 20), .ref (y 21), .ref (y 22), .ref (y 23), .ref (y 24), .int w_given, .long w_fresh, .ref (y 25), .ref (y 26), .ref (y 27), .ref (y 28), .ref (y 29), .ref (y 30), .ref (y 31), .ref (y 32), .ref (y 33), .ref (y 34), .ref (y 35), .ref (y 36), .ref (y 37), .int w_done, .int w_moreAsked, .ref (y 38), .long w_g, .int w_gone, .int w_stopped]))] rfl (fun H locs hw hS => ?_)
                      refine lv_iload_n hx hb dX12_rests_149 rfl (lv_at hl 7 rfl) ?_
                      refine lv_iconst (v := (-1)) hx hb dX12_rests_150 (by decide) ?_
                      refine lv_icmp_ne (tgt := 159) hx hb dX12_rests_151 (by decide) (fun h => absurd (c_39) h) (fun _ => ?_)
                      refine lv_iload hx hb dX12_rests_154 (lv_at hl 1 rfl) ?_
                      refine lv_goto (tgt := 160) hx hb dX12_rests_156 (by decide) ?_
                      exact ziret hx hb hr (rfl) hlocks () (congrArg (fun z => some (Value.int z)) (zrv_some (by rw [zrs, if_neg c_2, if_neg c_5, if_pos (zsge (r := p1) (w := p2) c_7), zrq0, if_neg (show ¬ zat0 p2 = 0 by rw [zat0, if_pos c_16]; decide), if_neg c_17, zrq1, if_pos (show zat1 p1 p2 = 0 from if_pos c_21), zrq3, if_neg (show ¬ zat3 p1 p2 = 0 by rw [zat3, if_neg c_29, if_pos c_36]; decide), if_neg c_37, zrq4, if_pos c_39]))) (trivial) hw [0] rfl (by rw [show zth p1 p2 p3 = 0 from zth_some (v := 2) (by rw [zrs, if_neg c_2, if_neg c_5, if_pos (zsge (r := p1) (w := p2) c_7), zrq0, if_neg (show ¬ zat0 p2 = 0 by rw [zat0, if_pos c_16]; decide), if_neg c_17, zrq1, if_pos (show zat1 p1 p2 = 0 from if_pos c_21), zrq3, if_neg (show ¬ zat3 p1 p2 = 0 by rw [zat3, if_neg c_29, if_pos c_36]; decide), if_neg c_37, zrq4, if_pos c_39])]; rfl) hS (Nat.le_of_ble_eq_true rfl) (Nat.le_of_ble_eq_true rfl) dX12_rests_160
                  · refine lv_iload hx hb dX12_rests_123 (lv_at hl 2 rfl) ?_
                    exact ziret hx hb hr (rfl) hlocks () (congrArg (fun z => some (Value.int z)) (zrv_some (by rw [zrs, if_neg c_2, if_neg c_5, if_pos (zsge (r := p1) (w := p2) c_7), zrq0, if_neg (show ¬ zat0 p2 = 0 by rw [zat0, if_pos c_16]; decide), if_neg c_17, zrq1, if_pos (show zat1 p1 p2 = 0 from if_pos c_21), zrq3, if_neg (show ¬ zat3 p1 p2 = 0 by rw [zat3, if_neg c_29, if_pos c_36]; decide), if_pos c_37]))) (trivial) hw [0] rfl (by rw [show zth p1 p2 p3 = 0 from zth_some (v := 3) (by rw [zrs, if_neg c_2, if_neg c_5, if_pos (zsge (r := p1) (w := p2) c_7), zrq0, if_neg (show ¬ zat0 p2 = 0 by rw [zat0, if_pos c_16]; decide), if_neg c_17, zrq1, if_pos (show zat1 p1 p2 = 0 from if_pos c_21), zrq3, if_neg (show ¬ zat3 p1 p2 = 0 by rw [zat3, if_neg c_29, if_pos c_36]; decide), if_pos c_37])]; rfl) hS (Nat.le_of_ble_eq_true rfl) (Nat.le_of_ble_eq_true rfl) dX12_rests_125
                · refine lv_goto (tgt := 129) hx hb dX12_rests_114 (by decide) ?_
                  refine lv_iinc (v := 4) (lv' := [(5, .int 4), (7, .int 1), (6, .int 1), (4, .int 1), (0, .ref h0), (1, .int p1), (2, .int p2), (3, .int p3)]) hx hb dX12_rests_129 hl (k := 2) rfl (by decide) (by decide) rfl (fun ls hl => ?_)
                  refine lv_goto (tgt := 50) hx hb dX12_rests_132 (by decide) ?_
                  refine lv_iload hx hb dX12_rests_50 (lv_at hl 0 rfl) ?_
                  refine lv_iconst (v := 4) hx hb dX12_rests_52 (by decide) ?_
                  refine lv_icmp_ge (tgt := 135) hx hb dX12_rests_53 (by decide) (fun _ => ?_) (fun h => absurd (by decide) h)
                  refine lv_aload_n hx hb dX12_rests_135 rfl (lv_at hl 4 rfl) ?_
                  refine lv_iload_n hx hb dX12_rests_136 rfl (lv_at hl 7 rfl) ?_
                  refine lv_iconst (v := (-1)) hx hb dX12_rests_137 (by decide) ?_
                  refine lv_icmp_ne (tgt := 145) hx hb dX12_rests_138 (by decide) (fun c_43 => ?_) (fun c_43 => ?_)
                  · refine lv_iconst (v := 1) hx hb dX12_rests_145 (by decide) ?_
                    refine zput (D := D) (ci := 11) (v := .int 1) (ty := .int) hx hb hts hiX12 tyX12 tyX12_ok nmX12 hown hK hw hS 0 rfl rfl 0 (by decide) (hts (.fieldLink RX12 129 "BeardPassModel" "thrown" "I") (by decide +kernel)) (fun _ h9 => h9) rfl (by decide +kernel) rfl rfl (Nat.le_of_ble_eq_true rfl) dX12_rests_146 [(h0, .inr (11, [.int 1, .int w_taped, .ref (y 0), .int w_size, .int w_place, .int w_begin, .int w_token, .long w_word, .int w_told, .int w_wrong, .ref (y 1), .ref (y 2), .ref (y 3), .ref (y 4), .ref (y 5), .ref (y 6), .ref (y 7), .ref (y 8), .ref (y 9), .ref (y 10), .ref (y 11), .ref (y 12), .int w_code, .int w_toldLines, .ref (y 13), .ref (y 14), .ref (y 15), .ref (y 16), .ref (y 17), .ref (y 18), .ref (y 19), .ref (y 20), .ref (y 21), .ref (y 22), .ref (y 23), .ref (y 24), .int w_given, .long w_fresh, .ref (y 25), .ref (y 26), .ref (y 27), .ref (y 28), .ref (y 29), .ref (y 30), .ref (y 31), .ref (y 32), .ref (y 33), .ref (y 34), .ref (y 35), .ref (y 36), .ref (y 37), .int w_done, .int w_moreAsked, .ref (y 38), .long w_g, .int w_gone, .int w_stopped]))] rfl (fun H locs hw hS => ?_)
                    refine lv_iload_n hx hb dX12_rests_149 rfl (lv_at hl 7 rfl) ?_
                    refine lv_iconst (v := (-1)) hx hb dX12_rests_150 (by decide) ?_
                    refine lv_icmp_ne (tgt := 159) hx hb dX12_rests_151 (by decide) (fun _ => ?_) (fun h => absurd h (c_43))
                    refine lv_iconst (v := 0) hx hb dX12_rests_159 (by decide) ?_
                    exact ziret hx hb hr (rfl) hlocks () (congrArg (fun z => some (Value.int z)) (zrv_none (by rw [zrs, if_neg c_2, if_neg c_5, if_pos (zsge (r := p1) (w := p2) c_7), zrq0, if_neg (show ¬ zat0 p2 = 0 by rw [zat0, if_pos c_16]; decide), if_neg c_17, zrq1, if_pos (show zat1 p1 p2 = 0 from if_pos c_21), zrq3, if_pos (show zat3 p1 p2 = 0 from (if_neg c_29).trans (if_neg c_36)), zrq4, if_neg c_43]))) (trivial) hw [0] rfl (by rw [show zth p1 p2 p3 = 1 from zth_none (by rw [zrs, if_neg c_2, if_neg c_5, if_pos (zsge (r := p1) (w := p2) c_7), zrq0, if_neg (show ¬ zat0 p2 = 0 by rw [zat0, if_pos c_16]; decide), if_neg c_17, zrq1, if_pos (show zat1 p1 p2 = 0 from if_pos c_21), zrq3, if_pos (show zat3 p1 p2 = 0 from (if_neg c_29).trans (if_neg c_36)), zrq4, if_neg c_43])]; rfl) hS (Nat.le_of_ble_eq_true rfl) (Nat.le_of_ble_eq_true rfl) dX12_rests_160
                  · refine lv_iconst (v := 0) hx hb dX12_rests_141 (by decide) ?_
                    refine lv_goto (tgt := 146) hx hb dX12_rests_142 (by decide) ?_
                    refine zput (D := D) (ci := 11) (v := .int 0) (ty := .int) hx hb hts hiX12 tyX12 tyX12_ok nmX12 hown hK hw hS 0 rfl rfl 0 (by decide) (hts (.fieldLink RX12 129 "BeardPassModel" "thrown" "I") (by decide +kernel)) (fun _ h9 => h9) rfl (by decide +kernel) rfl rfl (Nat.le_of_ble_eq_true rfl) dX12_rests_146 [(h0, .inr (11, [.int 0, .int w_taped, .ref (y 0), .int w_size, .int w_place, .int w_begin, .int w_token, .long w_word, .int w_told, .int w_wrong, .ref (y 1), .ref (y 2), .ref (y 3), .ref (y 4), .ref (y 5), .ref (y 6), .ref (y 7), .ref (y 8), .ref (y 9), .ref (y 10), .ref (y 11), .ref (y 12), .int w_code, .int w_toldLines, .ref (y 13), .ref (y 14), .ref (y 15), .ref (y 16), .ref (y 17), .ref (y 18), .ref (y 19), .ref (y 20), .ref (y 21), .ref (y 22), .ref (y 23), .ref (y 24), .int w_given, .long w_fresh, .ref (y 25), .ref (y 26), .ref (y 27), .ref (y 28), .ref (y 29), .ref (y 30), .ref (y 31), .ref (y 32), .ref (y 33), .ref (y 34), .ref (y 35), .ref (y 36), .ref (y 37), .int w_done, .int w_moreAsked, .ref (y 38), .long w_g, .int w_gone, .int w_stopped]))] rfl (fun H locs hw hS => ?_)
                    refine lv_iload_n hx hb dX12_rests_149 rfl (lv_at hl 7 rfl) ?_
                    refine lv_iconst (v := (-1)) hx hb dX12_rests_150 (by decide) ?_
                    refine lv_icmp_ne (tgt := 159) hx hb dX12_rests_151 (by decide) (fun h => absurd (c_43) h) (fun _ => ?_)
                    refine lv_iload hx hb dX12_rests_154 (lv_at hl 3 rfl) ?_
                    refine lv_goto (tgt := 160) hx hb dX12_rests_156 (by decide) ?_
                    exact ziret hx hb hr (rfl) hlocks () (congrArg (fun z => some (Value.int z)) (zrv_some (by rw [zrs, if_neg c_2, if_neg c_5, if_pos (zsge (r := p1) (w := p2) c_7), zrq0, if_neg (show ¬ zat0 p2 = 0 by rw [zat0, if_pos c_16]; decide), if_neg c_17, zrq1, if_pos (show zat1 p1 p2 = 0 from if_pos c_21), zrq3, if_pos (show zat3 p1 p2 = 0 from (if_neg c_29).trans (if_neg c_36)), zrq4, if_pos c_43]))) (trivial) hw [0] rfl (by rw [show zth p1 p2 p3 = 0 from zth_some (v := 1) (by rw [zrs, if_neg c_2, if_neg c_5, if_pos (zsge (r := p1) (w := p2) c_7), zrq0, if_neg (show ¬ zat0 p2 = 0 by rw [zat0, if_pos c_16]; decide), if_neg c_17, zrq1, if_pos (show zat1 p1 p2 = 0 from if_pos c_21), zrq3, if_pos (show zat3 p1 p2 = 0 from (if_neg c_29).trans (if_neg c_36)), zrq4, if_pos c_43])]; rfl) hS (Nat.le_of_ble_eq_true rfl) (Nat.le_of_ble_eq_true rfl) dX12_rests_160
            · refine lv_iload_n hx hb dX12_rests_91 rfl (lv_at hl 5 rfl) ?_
              refine lv_iload_n hx hb dX12_rests_92 rfl (lv_at hl 6 rfl) ?_
              refine lv_iload hx hb dX12_rests_93 (lv_at hl 1 rfl) ?_
              refine lv_iconst (v := 1) hx hb dX12_rests_95 (by decide) ?_
              refine lv_iload hx hb dX12_rests_96 (lv_at hl 0 rfl) ?_
              refine lv_isub hx hb dX12_rests_98 ?_
              refine ztop (.int 0) (congrArg Value.int (by decide)) ?_
              refine zcall2 (va_runS (As := [.int p1, .int p2, .int 0, .int 0]) (rest := []) ⟨hx, hb, hml, hown, hts⟩ (c_mt00 l D ct p1 p2 H.size) (va_cwS 4 hts gX12_rests_X12_travellerGets rfl rfl rfl (by decide +kernel) ⟨Nat.le_of_ble_eq_true rfl, Nat.le_of_ble_eq_true rfl⟩) (zpreS hK hw hS hA zZ.nil hN [] rfl rfl) rfl rfl hl.1 rfl (lv_room (Nat.le_of_ble_eq_true rfl)) dX12_rests_99 ⟨Nat.le_of_ble_eq_true rfl, Nat.le_of_ble_eq_true rfl⟩) hw hS hA [] [0] rfl rfl rfl rfl (fun _ H locs hp46 hw hS => ?_)
              have hw : zPD D A [(h0, .inr (11, [.int 0, .int w_taped, .ref (y 0), .int w_size, .int w_place, .int w_begin, .int w_token, .long w_word, .int w_told, .int w_wrong, .ref (y 1), .ref (y 2), .ref (y 3), .ref (y 4), .ref (y 5), .ref (y 6), .ref (y 7), .ref (y 8), .ref (y 9), .ref (y 10), .ref (y 11), .ref (y 12), .int w_code, .int w_toldLines, .ref (y 13), .ref (y 14), .ref (y 15), .ref (y 16), .ref (y 17), .ref (y 18), .ref (y 19), .ref (y 20), .ref (y 21), .ref (y 22), .ref (y 23), .ref (y 24), .int w_given, .long w_fresh, .ref (y 25), .ref (y 26), .ref (y 27), .ref (y 28), .ref (y 29), .ref (y 30), .ref (y 31), .ref (y 32), .ref (y 33), .ref (y 34), .ref (y 35), .ref (y 36), .ref (y 37), .int w_done, .int w_moreAsked, .ref (y 38), .long w_g, .int w_gone, .int w_stopped]))] H := hw
              refine zfr 102 [.int 0] rfl rfl ?_
              refine lv_iload_n hx hb dX12_rests_102 rfl (lv_at hl 5 rfl) ?_
              refine lv_iload_n hx hb dX12_rests_103 rfl (lv_at hl 6 rfl) ?_
              refine lv_iload hx hb dX12_rests_104 (lv_at hl 1 rfl) ?_
              refine lv_iload hx hb dX12_rests_106 (lv_at hl 0 rfl) ?_
              refine zcall2 (va_runS (As := [.int p1, .int p2, .int 0, .int 1]) (rest := [.int 0]) ⟨hx, hb, hml, hown, hts⟩ (c_mt01 l D ct p1 p2 H.size) (va_cwS 4 hts gX12_rests_X12_travellerGets rfl rfl rfl (by decide +kernel) ⟨Nat.le_of_ble_eq_true rfl, Nat.le_of_ble_eq_true rfl⟩) (zpreS hK hw hS hA zZ.nil hN [] rfl rfl) rfl rfl hl.1 rfl (lv_room (Nat.le_of_ble_eq_true rfl)) dX12_rests_108 ⟨Nat.le_of_ble_eq_true rfl, Nat.le_of_ble_eq_true rfl⟩) hw hS hA [] [0] rfl rfl rfl rfl (fun _ H locs hp47 hw hS => ?_)
              have hw : zPD D A [(h0, .inr (11, [.int 0, .int w_taped, .ref (y 0), .int w_size, .int w_place, .int w_begin, .int w_token, .long w_word, .int w_told, .int w_wrong, .ref (y 1), .ref (y 2), .ref (y 3), .ref (y 4), .ref (y 5), .ref (y 6), .ref (y 7), .ref (y 8), .ref (y 9), .ref (y 10), .ref (y 11), .ref (y 12), .int w_code, .int w_toldLines, .ref (y 13), .ref (y 14), .ref (y 15), .ref (y 16), .ref (y 17), .ref (y 18), .ref (y 19), .ref (y 20), .ref (y 21), .ref (y 22), .ref (y 23), .ref (y 24), .int w_given, .long w_fresh, .ref (y 25), .ref (y 26), .ref (y 27), .ref (y 28), .ref (y 29), .ref (y 30), .ref (y 31), .ref (y 32), .ref (y 33), .ref (y 34), .ref (y 35), .ref (y 36), .ref (y 37), .int w_done, .int w_moreAsked, .ref (y 38), .long w_g, .int w_gone, .int w_stopped]))] H := hw
              refine zfr 111 [.int p2, .int 0] rfl rfl ?_
              refine lv_icmp_le (tgt := 117) hx hb dX12_rests_111 (by decide) (fun c_48 => ?_) (fun c_48 => ?_)
              · refine lv_iload hx hb dX12_rests_117 (lv_at hl 3 rfl) ?_
                refine lv_iload_n hx hb dX12_rests_119 rfl (lv_at hl 7 rfl) ?_
                refine lv_icmp_ne (tgt := 126) hx hb dX12_rests_120 (by decide) (fun c_49 => ?_) (fun c_49 => ?_)
                · refine lv_iinc (v := 2) (lv' := [(4, .int 2), (7, .int 1), (6, .int 0), (5, .int 1), (0, .ref h0), (1, .int p1), (2, .int p2), (3, .int p3)]) hx hb dX12_rests_126 hl (k := 3) rfl (by decide) (by decide) rfl (fun ls hl => ?_)
                  refine lv_iinc (v := 2) (lv' := [(5, .int 2), (4, .int 2), (7, .int 1), (6, .int 0), (0, .ref h0), (1, .int p1), (2, .int p2), (3, .int p3)]) hx hb dX12_rests_129 hl (k := 3) rfl (by decide) (by decide) rfl (fun ls hl => ?_)
                  refine lv_goto (tgt := 50) hx hb dX12_rests_132 (by decide) ?_
                  refine lv_iload hx hb dX12_rests_50 (lv_at hl 0 rfl) ?_
                  refine lv_iconst (v := 4) hx hb dX12_rests_52 (by decide) ?_
                  refine lv_icmp_ge (tgt := 135) hx hb dX12_rests_53 (by decide) (fun h => absurd h (by decide)) (fun _ => ?_)
                  refine lv_iload hx hb dX12_rests_56 (lv_at hl 0 rfl) ?_
                  refine lv_iconst (v := 2) hx hb dX12_rests_58 (by decide) ?_
                  refine lv_idiv hx hb dX12_rests_59 (by decide) ?_
                  refine ztop (.int 1) (congrArg Value.int (by decide)) ?_
                  refine lv_istore (lv' := [(6, .int 1), (5, .int 2), (4, .int 2), (7, .int 1), (0, .ref h0), (1, .int p1), (2, .int p2), (3, .int p3)]) hx hb dX12_rests_60 hl (by decide) rfl (fun ls hl => ?_)
                  refine lv_iload hx hb dX12_rests_62 (lv_at hl 1 rfl) ?_
                  refine lv_iconst (v := 2) hx hb dX12_rests_64 (by decide) ?_
                  refine lv_irem hx hb dX12_rests_65 (by decide) ?_
                  refine ztop (.int 0) (congrArg Value.int (by decide)) ?_
                  refine lv_istore (lv' := [(7, .int 0), (6, .int 1), (5, .int 2), (4, .int 2), (0, .ref h0), (1, .int p1), (2, .int p2), (3, .int p3)]) hx hb dX12_rests_66 hl (by decide) rfl (fun ls hl => ?_)
                  refine lv_iload_n hx hb dX12_rests_68 rfl (lv_at hl 5 rfl) ?_
                  refine lv_iload_n hx hb dX12_rests_69 rfl (lv_at hl 6 rfl) ?_
                  refine lv_iconst (v := 1) hx hb dX12_rests_70 (by decide) ?_
                  refine lv_iload hx hb dX12_rests_71 (lv_at hl 1 rfl) ?_
                  refine lv_isub hx hb dX12_rests_73 ?_
                  refine ztop (.int 0) (congrArg Value.int (by decide)) ?_
                  refine lv_iload hx hb dX12_rests_74 (lv_at hl 0 rfl) ?_
                  refine zcall2 (va_runS (As := [.int p1, .int p2, .int 0, .int 0]) (rest := []) ⟨hx, hb, hml, hown, hts⟩ (c_mg00 l D ct p1 p2 H.size) (va_cwS 4 hts gX12_rests_X12_guardGets rfl rfl rfl (by decide +kernel) ⟨Nat.le_of_ble_eq_true rfl, Nat.le_of_ble_eq_true rfl⟩) (zpreS hK hw hS hA zZ.nil hN [] rfl rfl) rfl rfl hl.1 rfl (lv_room (Nat.le_of_ble_eq_true rfl)) dX12_rests_76 ⟨Nat.le_of_ble_eq_true rfl, Nat.le_of_ble_eq_true rfl⟩) hw hS hA [] [0] rfl rfl rfl rfl (fun _ H locs hp51 hw hS => ?_)
                  have hw : zPD D A [(h0, .inr (11, [.int 0, .int w_taped, .ref (y 0), .int w_size, .int w_place, .int w_begin, .int w_token, .long w_word, .int w_told, .int w_wrong, .ref (y 1), .ref (y 2), .ref (y 3), .ref (y 4), .ref (y 5), .ref (y 6), .ref (y 7), .ref (y 8), .ref (y 9), .ref (y 10), .ref (y 11), .ref (y 12), .int w_code, .int w_toldLines, .ref (y 13), .ref (y 14), .ref (y 15), .ref (y 16), .ref (y 17), .ref (y 18), .ref (y 19), .ref (y 20), .ref (y 21), .ref (y 22), .ref (y 23), .ref (y 24), .int w_given, .long w_fresh, .ref (y 25), .ref (y 26), .ref (y 27), .ref (y 28), .ref (y 29), .ref (y 30), .ref (y 31), .ref (y 32), .ref (y 33), .ref (y 34), .ref (y 35), .ref (y 36), .ref (y 37), .int w_done, .int w_moreAsked, .ref (y 38), .long w_g, .int w_gone, .int w_stopped]))] H := hw
                  refine zfr 79 [.int 0] rfl rfl ?_
                  refine lv_iload_n hx hb dX12_rests_79 rfl (lv_at hl 5 rfl) ?_
                  refine lv_iload_n hx hb dX12_rests_80 rfl (lv_at hl 6 rfl) ?_
                  refine lv_iload hx hb dX12_rests_81 (lv_at hl 1 rfl) ?_
                  refine lv_iload hx hb dX12_rests_83 (lv_at hl 0 rfl) ?_
                  refine zcall2 (va_runS (As := [.int p1, .int p2, .int 1, .int 0]) (rest := [.int 0]) ⟨hx, hb, hml, hown, hts⟩ (c_mg10 l D ct p1 p2 H.size) (va_cwS 4 hts gX12_rests_X12_guardGets rfl rfl rfl (by decide +kernel) ⟨Nat.le_of_ble_eq_true rfl, Nat.le_of_ble_eq_true rfl⟩) (zpreS hK hw hS hA zZ.nil hN [] rfl rfl) rfl rfl hl.1 rfl (lv_room (Nat.le_of_ble_eq_true rfl)) dX12_rests_85 ⟨Nat.le_of_ble_eq_true rfl, Nat.le_of_ble_eq_true rfl⟩) hw hS hA [] [0] rfl rfl rfl rfl (fun _ H locs hp52 hw hS => ?_)
                  have hw : zPD D A [(h0, .inr (11, [.int 0, .int w_taped, .ref (y 0), .int w_size, .int w_place, .int w_begin, .int w_token, .long w_word, .int w_told, .int w_wrong, .ref (y 1), .ref (y 2), .ref (y 3), .ref (y 4), .ref (y 5), .ref (y 6), .ref (y 7), .ref (y 8), .ref (y 9), .ref (y 10), .ref (y 11), .ref (y 12), .int w_code, .int w_toldLines, .ref (y 13), .ref (y 14), .ref (y 15), .ref (y 16), .ref (y 17), .ref (y 18), .ref (y 19), .ref (y 20), .ref (y 21), .ref (y 22), .ref (y 23), .ref (y 24), .int w_given, .long w_fresh, .ref (y 25), .ref (y 26), .ref (y 27), .ref (y 28), .ref (y 29), .ref (y 30), .ref (y 31), .ref (y 32), .ref (y 33), .ref (y 34), .ref (y 35), .ref (y 36), .ref (y 37), .int w_done, .int w_moreAsked, .ref (y 38), .long w_g, .int w_gone, .int w_stopped]))] H := hw
                  refine zfr 88 [.int (-1), .int 0] rfl rfl ?_
                  refine lv_icmp_gt (tgt := 129) hx hb dX12_rests_88 (by decide) (fun _ => ?_) (fun h => absurd (by decide) h)
                  refine lv_iinc (v := 3) (lv' := [(5, .int 3), (7, .int 0), (6, .int 1), (4, .int 2), (0, .ref h0), (1, .int p1), (2, .int p2), (3, .int p3)]) hx hb dX12_rests_129 hl (k := 2) rfl (by decide) (by decide) rfl (fun ls hl => ?_)
                  refine lv_goto (tgt := 50) hx hb dX12_rests_132 (by decide) ?_
                  refine lv_iload hx hb dX12_rests_50 (lv_at hl 0 rfl) ?_
                  refine lv_iconst (v := 4) hx hb dX12_rests_52 (by decide) ?_
                  refine lv_icmp_ge (tgt := 135) hx hb dX12_rests_53 (by decide) (fun h => absurd h (by decide)) (fun _ => ?_)
                  refine lv_iload hx hb dX12_rests_56 (lv_at hl 0 rfl) ?_
                  refine lv_iconst (v := 2) hx hb dX12_rests_58 (by decide) ?_
                  refine lv_idiv hx hb dX12_rests_59 (by decide) ?_
                  refine ztop (.int 1) (congrArg Value.int (by decide)) ?_
                  refine lv_istore (lv' := [(6, .int 1), (5, .int 3), (7, .int 0), (4, .int 2), (0, .ref h0), (1, .int p1), (2, .int p2), (3, .int p3)]) hx hb dX12_rests_60 hl (by decide) rfl (fun ls hl => ?_)
                  refine lv_iload hx hb dX12_rests_62 (lv_at hl 1 rfl) ?_
                  refine lv_iconst (v := 2) hx hb dX12_rests_64 (by decide) ?_
                  refine lv_irem hx hb dX12_rests_65 (by decide) ?_
                  refine ztop (.int 1) (congrArg Value.int (by decide)) ?_
                  refine lv_istore (lv' := [(7, .int 1), (6, .int 1), (5, .int 3), (4, .int 2), (0, .ref h0), (1, .int p1), (2, .int p2), (3, .int p3)]) hx hb dX12_rests_66 hl (by decide) rfl (fun ls hl => ?_)
                  refine lv_iload_n hx hb dX12_rests_68 rfl (lv_at hl 5 rfl) ?_
                  refine lv_iload_n hx hb dX12_rests_69 rfl (lv_at hl 6 rfl) ?_
                  refine lv_iconst (v := 1) hx hb dX12_rests_70 (by decide) ?_
                  refine lv_iload hx hb dX12_rests_71 (lv_at hl 1 rfl) ?_
                  refine lv_isub hx hb dX12_rests_73 ?_
                  refine ztop (.int 0) (congrArg Value.int (by decide)) ?_
                  refine lv_iload hx hb dX12_rests_74 (lv_at hl 0 rfl) ?_
                  refine zcall2 (va_runS (As := [.int p1, .int p2, .int 0, .int 1]) (rest := []) ⟨hx, hb, hml, hown, hts⟩ (c_mg01 l D ct p1 p2 H.size) (va_cwS 4 hts gX12_rests_X12_guardGets rfl rfl rfl (by decide +kernel) ⟨Nat.le_of_ble_eq_true rfl, Nat.le_of_ble_eq_true rfl⟩) (zpreS hK hw hS hA zZ.nil hN [] rfl rfl) rfl rfl hl.1 rfl (lv_room (Nat.le_of_ble_eq_true rfl)) dX12_rests_76 ⟨Nat.le_of_ble_eq_true rfl, Nat.le_of_ble_eq_true rfl⟩) hw hS hA [] [0] rfl rfl rfl rfl (fun _ H locs hp55 hw hS => ?_)
                  have hw : zPD D A [(h0, .inr (11, [.int 0, .int w_taped, .ref (y 0), .int w_size, .int w_place, .int w_begin, .int w_token, .long w_word, .int w_told, .int w_wrong, .ref (y 1), .ref (y 2), .ref (y 3), .ref (y 4), .ref (y 5), .ref (y 6), .ref (y 7), .ref (y 8), .ref (y 9), .ref (y 10), .ref (y 11), .ref (y 12), .int w_code, .int w_toldLines, .ref (y 13), .ref (y 14), .ref (y 15), .ref (y 16), .ref (y 17), .ref (y 18), .ref (y 19), .ref (y 20), .ref (y 21), .ref (y 22), .ref (y 23), .ref (y 24), .int w_given, .long w_fresh, .ref (y 25), .ref (y 26), .ref (y 27), .ref (y 28), .ref (y 29), .ref (y 30), .ref (y 31), .ref (y 32), .ref (y 33), .ref (y 34), .ref (y 35), .ref (y 36), .ref (y 37), .int w_done, .int w_moreAsked, .ref (y 38), .long w_g, .int w_gone, .int w_stopped]))] H := hw
                  refine zfr 79 [.int (-p2)] rfl rfl ?_
                  refine lv_iload_n hx hb dX12_rests_79 rfl (lv_at hl 5 rfl) ?_
                  refine lv_iload_n hx hb dX12_rests_80 rfl (lv_at hl 6 rfl) ?_
                  refine lv_iload hx hb dX12_rests_81 (lv_at hl 1 rfl) ?_
                  refine lv_iload hx hb dX12_rests_83 (lv_at hl 0 rfl) ?_
                  refine zcall2 (va_runS (As := [.int p1, .int p2, .int 1, .int 1]) (rest := [.int (-p2)]) ⟨hx, hb, hml, hown, hts⟩ (c_mg11 l D ct p1 p2 H.size) (va_cwS 4 hts gX12_rests_X12_guardGets rfl rfl rfl (by decide +kernel) ⟨Nat.le_of_ble_eq_true rfl, Nat.le_of_ble_eq_true rfl⟩) (zpreS hK hw hS hA zZ.nil hN [] rfl rfl) rfl rfl hl.1 rfl (lv_room (Nat.le_of_ble_eq_true rfl)) dX12_rests_85 ⟨Nat.le_of_ble_eq_true rfl, Nat.le_of_ble_eq_true rfl⟩) hw hS hA [] [0] rfl rfl rfl rfl (fun _ H locs hp56 hw hS => ?_)
                  have hw : zPD D A [(h0, .inr (11, [.int 0, .int w_taped, .ref (y 0), .int w_size, .int w_place, .int w_begin, .int w_token, .long w_word, .int w_told, .int w_wrong, .ref (y 1), .ref (y 2), .ref (y 3), .ref (y 4), .ref (y 5), .ref (y 6), .ref (y 7), .ref (y 8), .ref (y 9), .ref (y 10), .ref (y 11), .ref (y 12), .int w_code, .int w_toldLines, .ref (y 13), .ref (y 14), .ref (y 15), .ref (y 16), .ref (y 17), .ref (y 18), .ref (y 19), .ref (y 20), .ref (y 21), .ref (y 22), .ref (y 23), .ref (y 24), .int w_given, .long w_fresh, .ref (y 25), .ref (y 26), .ref (y 27), .ref (y 28), .ref (y 29), .ref (y 30), .ref (y 31), .ref (y 32), .ref (y 33), .ref (y 34), .ref (y 35), .ref (y 36), .ref (y 37), .int w_done, .int w_moreAsked, .ref (y 38), .long w_g, .int w_gone, .int w_stopped]))] H := hw
                  refine zfr 88 [.int p1, .int (-p2)] rfl rfl ?_
                  refine lv_icmp_gt (tgt := 129) hx hb dX12_rests_88 (by decide) (fun c_57 => ?_) (fun c_57 => ?_)
                  · refine lv_iinc (v := 4) (lv' := [(5, .int 4), (7, .int 1), (6, .int 1), (4, .int 2), (0, .ref h0), (1, .int p1), (2, .int p2), (3, .int p3)]) hx hb dX12_rests_129 hl (k := 2) rfl (by decide) (by decide) rfl (fun ls hl => ?_)
                    refine lv_goto (tgt := 50) hx hb dX12_rests_132 (by decide) ?_
                    refine lv_iload hx hb dX12_rests_50 (lv_at hl 0 rfl) ?_
                    refine lv_iconst (v := 4) hx hb dX12_rests_52 (by decide) ?_
                    refine lv_icmp_ge (tgt := 135) hx hb dX12_rests_53 (by decide) (fun _ => ?_) (fun h => absurd (by decide) h)
                    refine lv_aload_n hx hb dX12_rests_135 rfl (lv_at hl 4 rfl) ?_
                    refine lv_iload_n hx hb dX12_rests_136 rfl (lv_at hl 7 rfl) ?_
                    refine lv_iconst (v := (-1)) hx hb dX12_rests_137 (by decide) ?_
                    refine lv_icmp_ne (tgt := 145) hx hb dX12_rests_138 (by decide) (fun c_59 => ?_) (fun c_59 => ?_)
                    · refine lv_iconst (v := 1) hx hb dX12_rests_145 (by decide) ?_
                      refine zput (D := D) (ci := 11) (v := .int 1) (ty := .int) hx hb hts hiX12 tyX12 tyX12_ok nmX12 hown hK hw hS 0 rfl rfl 0 (by decide) (hts (.fieldLink RX12 129 "BeardPassModel" "thrown" "I") (by decide +kernel)) (fun _ h9 => h9) rfl (by decide +kernel) rfl rfl (Nat.le_of_ble_eq_true rfl) dX12_rests_146 [(h0, .inr (11, [.int 1, .int w_taped, .ref (y 0), .int w_size, .int w_place, .int w_begin, .int w_token, .long w_word, .int w_told, .int w_wrong, .ref (y 1), .ref (y 2), .ref (y 3), .ref (y 4), .ref (y 5), .ref (y 6), .ref (y 7), .ref (y 8), .ref (y 9), .ref (y 10), .ref (y 11), .ref (y 12), .int w_code, .int w_toldLines, .ref (y 13), .ref (y 14), .ref (y 15), .ref (y 16), .ref (y 17), .ref (y 18), .ref (y 19), .ref (y 20), .ref (y 21), .ref (y 22), .ref (y 23), .ref (y 24), .int w_given, .long w_fresh, .ref (y 25), .ref (y 26), .ref (y 27), .ref (y 28), .ref (y 29), .ref (y 30), .ref (y 31), .ref (y 32), .ref (y 33), .ref (y 34), .ref (y 35), .ref (y 36), .ref (y 37), .int w_done, .int w_moreAsked, .ref (y 38), .long w_g, .int w_gone, .int w_stopped]))] rfl (fun H locs hw hS => ?_)
                      refine lv_iload_n hx hb dX12_rests_149 rfl (lv_at hl 7 rfl) ?_
                      refine lv_iconst (v := (-1)) hx hb dX12_rests_150 (by decide) ?_
                      refine lv_icmp_ne (tgt := 159) hx hb dX12_rests_151 (by decide) (fun _ => ?_) (fun h => absurd h (c_59))
                      refine lv_iconst (v := 0) hx hb dX12_rests_159 (by decide) ?_
                      exact ziret hx hb hr (rfl) hlocks () (congrArg (fun z => some (Value.int z)) (zrv_none (by rw [zrs, if_neg c_2, if_neg c_5, if_pos (zsge (r := p1) (w := p2) c_7), zrq0, if_neg (show ¬ zat0 p2 = 0 by rw [zat0, if_pos c_16]; decide), if_neg c_17, zrq1, if_neg (show ¬ zat1 p1 p2 = 0 by rw [zat1, if_neg c_21, if_pos c_48]; decide), if_neg c_49, zrq3, if_pos (show zat3 p1 p2 = 0 from if_pos c_57), zrq4, if_neg c_59]))) (trivial) hw [0] rfl (by rw [show zth p1 p2 p3 = 1 from zth_none (by rw [zrs, if_neg c_2, if_neg c_5, if_pos (zsge (r := p1) (w := p2) c_7), zrq0, if_neg (show ¬ zat0 p2 = 0 by rw [zat0, if_pos c_16]; decide), if_neg c_17, zrq1, if_neg (show ¬ zat1 p1 p2 = 0 by rw [zat1, if_neg c_21, if_pos c_48]; decide), if_neg c_49, zrq3, if_pos (show zat3 p1 p2 = 0 from if_pos c_57), zrq4, if_neg c_59])]; rfl) hS (Nat.le_of_ble_eq_true rfl) (Nat.le_of_ble_eq_true rfl) dX12_rests_160
                    · refine lv_iconst (v := 0) hx hb dX12_rests_141 (by decide) ?_
                      refine lv_goto (tgt := 146) hx hb dX12_rests_142 (by decide) ?_
                      refine zput (D := D) (ci := 11) (v := .int 0) (ty := .int) hx hb hts hiX12 tyX12 tyX12_ok nmX12 hown hK hw hS 0 rfl rfl 0 (by decide) (hts (.fieldLink RX12 129 "BeardPassModel" "thrown" "I") (by decide +kernel)) (fun _ h9 => h9) rfl (by decide +kernel) rfl rfl (Nat.le_of_ble_eq_true rfl) dX12_rests_146 [(h0, .inr (11, [.int 0, .int w_taped, .ref (y 0), .int w_size, .int w_place, .int w_begin, .int w_token, .long w_word, .int w_told, .int w_wrong, .ref (y 1), .ref (y 2), .ref (y 3), .ref (y 4), .ref (y 5), .ref (y 6), .ref (y 7), .ref (y 8), .ref (y 9), .ref (y 10), .ref (y 11), .ref (y 12), .int w_code, .int w_toldLines, .ref (y 13), .ref (y 14), .ref (y 15), .ref (y 16), .ref (y 17), .ref (y 18), .ref (y 19), .ref (y 20), .ref (y 21), .ref (y 22), .ref (y 23), .ref (y 24), .int w_given, .long w_fresh, .ref (y 25), .ref (y 26), .ref (y 27), .ref (y 28), .ref (y 29), .ref (y 30), .ref (y 31), .ref (y 32), .ref (y 33), .ref (y 34), .ref (y 35), .ref (y 36), .ref (y 37), .int w_done, .int w_moreAsked, .ref (y 38), .long w_g, .int w_gone, .int w_stopped]))] rfl (fun H locs hw hS => ?_)
                      refine lv_iload_n hx hb dX12_rests_149 rfl (lv_at hl 7 rfl) ?_
                      refine lv_iconst (v := (-1)) hx hb dX12_rests_150 (by decide) ?_
                      refine lv_icmp_ne (tgt := 159) hx hb dX12_rests_151 (by decide) (fun h => absurd (c_59) h) (fun _ => ?_)
                      refine lv_iload hx hb dX12_rests_154 (lv_at hl 3 rfl) ?_
                      refine lv_goto (tgt := 160) hx hb dX12_rests_156 (by decide) ?_
                      exact ziret hx hb hr (rfl) hlocks () (congrArg (fun z => some (Value.int z)) (zrv_some (by rw [zrs, if_neg c_2, if_neg c_5, if_pos (zsge (r := p1) (w := p2) c_7), zrq0, if_neg (show ¬ zat0 p2 = 0 by rw [zat0, if_pos c_16]; decide), if_neg c_17, zrq1, if_neg (show ¬ zat1 p1 p2 = 0 by rw [zat1, if_neg c_21, if_pos c_48]; decide), if_neg c_49, zrq3, if_pos (show zat3 p1 p2 = 0 from if_pos c_57), zrq4, if_pos c_59]))) (trivial) hw [0] rfl (by rw [show zth p1 p2 p3 = 0 from zth_some (v := 2) (by rw [zrs, if_neg c_2, if_neg c_5, if_pos (zsge (r := p1) (w := p2) c_7), zrq0, if_neg (show ¬ zat0 p2 = 0 by rw [zat0, if_pos c_16]; decide), if_neg c_17, zrq1, if_neg (show ¬ zat1 p1 p2 = 0 by rw [zat1, if_neg c_21, if_pos c_48]; decide), if_neg c_49, zrq3, if_pos (show zat3 p1 p2 = 0 from if_pos c_57), zrq4, if_pos c_59])]; rfl) hS (Nat.le_of_ble_eq_true rfl) (Nat.le_of_ble_eq_true rfl) dX12_rests_160
                  · refine lv_iload_n hx hb dX12_rests_91 rfl (lv_at hl 5 rfl) ?_
                    refine lv_iload_n hx hb dX12_rests_92 rfl (lv_at hl 6 rfl) ?_
                    refine lv_iload hx hb dX12_rests_93 (lv_at hl 1 rfl) ?_
                    refine lv_iconst (v := 1) hx hb dX12_rests_95 (by decide) ?_
                    refine lv_iload hx hb dX12_rests_96 (lv_at hl 0 rfl) ?_
                    refine lv_isub hx hb dX12_rests_98 ?_
                    refine ztop (.int 0) (congrArg Value.int (by decide)) ?_
                    refine zcall2 (va_runS (As := [.int p1, .int p2, .int 1, .int 0]) (rest := []) ⟨hx, hb, hml, hown, hts⟩ (c_mt10 l D ct p1 p2 H.size) (va_cwS 4 hts gX12_rests_X12_travellerGets rfl rfl rfl (by decide +kernel) ⟨Nat.le_of_ble_eq_true rfl, Nat.le_of_ble_eq_true rfl⟩) (zpreS hK hw hS hA zZ.nil hN [] rfl rfl) rfl rfl hl.1 rfl (lv_room (Nat.le_of_ble_eq_true rfl)) dX12_rests_99 ⟨Nat.le_of_ble_eq_true rfl, Nat.le_of_ble_eq_true rfl⟩) hw hS hA [] [0] rfl rfl rfl rfl (fun _ H locs hp62 hw hS => ?_)
                    have hw : zPD D A [(h0, .inr (11, [.int 0, .int w_taped, .ref (y 0), .int w_size, .int w_place, .int w_begin, .int w_token, .long w_word, .int w_told, .int w_wrong, .ref (y 1), .ref (y 2), .ref (y 3), .ref (y 4), .ref (y 5), .ref (y 6), .ref (y 7), .ref (y 8), .ref (y 9), .ref (y 10), .ref (y 11), .ref (y 12), .int w_code, .int w_toldLines, .ref (y 13), .ref (y 14), .ref (y 15), .ref (y 16), .ref (y 17), .ref (y 18), .ref (y 19), .ref (y 20), .ref (y 21), .ref (y 22), .ref (y 23), .ref (y 24), .int w_given, .long w_fresh, .ref (y 25), .ref (y 26), .ref (y 27), .ref (y 28), .ref (y 29), .ref (y 30), .ref (y 31), .ref (y 32), .ref (y 33), .ref (y 34), .ref (y 35), .ref (y 36), .ref (y 37), .int w_done, .int w_moreAsked, .ref (y 38), .long w_g, .int w_gone, .int w_stopped]))] H := hw
                    refine zfr 102 [.int 0] rfl rfl ?_
                    refine lv_iload_n hx hb dX12_rests_102 rfl (lv_at hl 5 rfl) ?_
                    refine lv_iload_n hx hb dX12_rests_103 rfl (lv_at hl 6 rfl) ?_
                    refine lv_iload hx hb dX12_rests_104 (lv_at hl 1 rfl) ?_
                    refine lv_iload hx hb dX12_rests_106 (lv_at hl 0 rfl) ?_
                    refine zcall2 (va_runS (As := [.int p1, .int p2, .int 1, .int 1]) (rest := [.int 0]) ⟨hx, hb, hml, hown, hts⟩ (c_mt11 l D ct p1 p2 H.size) (va_cwS 4 hts gX12_rests_X12_travellerGets rfl rfl rfl (by decide +kernel) ⟨Nat.le_of_ble_eq_true rfl, Nat.le_of_ble_eq_true rfl⟩) (zpreS hK hw hS hA zZ.nil hN [] rfl rfl) rfl rfl hl.1 rfl (lv_room (Nat.le_of_ble_eq_true rfl)) dX12_rests_108 ⟨Nat.le_of_ble_eq_true rfl, Nat.le_of_ble_eq_true rfl⟩) hw hS hA [] [0] rfl rfl rfl rfl (fun _ H locs hp63 hw hS => ?_)
                    have hw : zPD D A [(h0, .inr (11, [.int 0, .int w_taped, .ref (y 0), .int w_size, .int w_place, .int w_begin, .int w_token, .long w_word, .int w_told, .int w_wrong, .ref (y 1), .ref (y 2), .ref (y 3), .ref (y 4), .ref (y 5), .ref (y 6), .ref (y 7), .ref (y 8), .ref (y 9), .ref (y 10), .ref (y 11), .ref (y 12), .int w_code, .int w_toldLines, .ref (y 13), .ref (y 14), .ref (y 15), .ref (y 16), .ref (y 17), .ref (y 18), .ref (y 19), .ref (y 20), .ref (y 21), .ref (y 22), .ref (y 23), .ref (y 24), .int w_given, .long w_fresh, .ref (y 25), .ref (y 26), .ref (y 27), .ref (y 28), .ref (y 29), .ref (y 30), .ref (y 31), .ref (y 32), .ref (y 33), .ref (y 34), .ref (y 35), .ref (y 36), .ref (y 37), .int w_done, .int w_moreAsked, .ref (y 38), .long w_g, .int w_gone, .int w_stopped]))] H := hw
                    refine zfr 111 [.int (-p1), .int 0] rfl rfl ?_
                    refine lv_icmp_le (tgt := 117) hx hb dX12_rests_111 (by decide) (fun c_64 => ?_) (fun c_64 => ?_)
                    · refine lv_iload hx hb dX12_rests_117 (lv_at hl 3 rfl) ?_
                      refine lv_iload_n hx hb dX12_rests_119 rfl (lv_at hl 7 rfl) ?_
                      refine lv_icmp_ne (tgt := 126) hx hb dX12_rests_120 (by decide) (fun c_65 => ?_) (fun c_65 => ?_)
                      · refine lv_iinc (v := 3) (lv' := [(4, .int 3), (7, .int 1), (6, .int 1), (5, .int 3), (0, .ref h0), (1, .int p1), (2, .int p2), (3, .int p3)]) hx hb dX12_rests_126 hl (k := 3) rfl (by decide) (by decide) rfl (fun ls hl => ?_)
                        refine lv_iinc (v := 4) (lv' := [(5, .int 4), (4, .int 3), (7, .int 1), (6, .int 1), (0, .ref h0), (1, .int p1), (2, .int p2), (3, .int p3)]) hx hb dX12_rests_129 hl (k := 3) rfl (by decide) (by decide) rfl (fun ls hl => ?_)
                        refine lv_goto (tgt := 50) hx hb dX12_rests_132 (by decide) ?_
                        refine lv_iload hx hb dX12_rests_50 (lv_at hl 0 rfl) ?_
                        refine lv_iconst (v := 4) hx hb dX12_rests_52 (by decide) ?_
                        refine lv_icmp_ge (tgt := 135) hx hb dX12_rests_53 (by decide) (fun _ => ?_) (fun h => absurd (by decide) h)
                        refine lv_aload_n hx hb dX12_rests_135 rfl (lv_at hl 4 rfl) ?_
                        refine lv_iload_n hx hb dX12_rests_136 rfl (lv_at hl 7 rfl) ?_
                        refine lv_iconst (v := (-1)) hx hb dX12_rests_137 (by decide) ?_
                        refine lv_icmp_ne (tgt := 145) hx hb dX12_rests_138 (by decide) (fun c_67 => ?_) (fun c_67 => ?_)
                        · refine lv_iconst (v := 1) hx hb dX12_rests_145 (by decide) ?_
                          refine zput (D := D) (ci := 11) (v := .int 1) (ty := .int) hx hb hts hiX12 tyX12 tyX12_ok nmX12 hown hK hw hS 0 rfl rfl 0 (by decide) (hts (.fieldLink RX12 129 "BeardPassModel" "thrown" "I") (by decide +kernel)) (fun _ h9 => h9) rfl (by decide +kernel) rfl rfl (Nat.le_of_ble_eq_true rfl) dX12_rests_146 [(h0, .inr (11, [.int 1, .int w_taped, .ref (y 0), .int w_size, .int w_place, .int w_begin, .int w_token, .long w_word, .int w_told, .int w_wrong, .ref (y 1), .ref (y 2), .ref (y 3), .ref (y 4), .ref (y 5), .ref (y 6), .ref (y 7), .ref (y 8), .ref (y 9), .ref (y 10), .ref (y 11), .ref (y 12), .int w_code, .int w_toldLines, .ref (y 13), .ref (y 14), .ref (y 15), .ref (y 16), .ref (y 17), .ref (y 18), .ref (y 19), .ref (y 20), .ref (y 21), .ref (y 22), .ref (y 23), .ref (y 24), .int w_given, .long w_fresh, .ref (y 25), .ref (y 26), .ref (y 27), .ref (y 28), .ref (y 29), .ref (y 30), .ref (y 31), .ref (y 32), .ref (y 33), .ref (y 34), .ref (y 35), .ref (y 36), .ref (y 37), .int w_done, .int w_moreAsked, .ref (y 38), .long w_g, .int w_gone, .int w_stopped]))] rfl (fun H locs hw hS => ?_)
                          refine lv_iload_n hx hb dX12_rests_149 rfl (lv_at hl 7 rfl) ?_
                          refine lv_iconst (v := (-1)) hx hb dX12_rests_150 (by decide) ?_
                          refine lv_icmp_ne (tgt := 159) hx hb dX12_rests_151 (by decide) (fun _ => ?_) (fun h => absurd h (c_67))
                          refine lv_iconst (v := 0) hx hb dX12_rests_159 (by decide) ?_
                          exact ziret hx hb hr (rfl) hlocks () (congrArg (fun z => some (Value.int z)) (zrv_none (by rw [zrs, if_neg c_2, if_neg c_5, if_pos (zsge (r := p1) (w := p2) c_7), zrq0, if_neg (show ¬ zat0 p2 = 0 by rw [zat0, if_pos c_16]; decide), if_neg c_17, zrq1, if_neg (show ¬ zat1 p1 p2 = 0 by rw [zat1, if_neg c_21, if_pos c_48]; decide), if_neg c_49, zrq3, if_neg (show ¬ zat3 p1 p2 = 0 by rw [zat3, if_neg c_57, if_pos c_64]; decide), if_neg c_65, zrq4, if_neg c_67]))) (trivial) hw [0] rfl (by rw [show zth p1 p2 p3 = 1 from zth_none (by rw [zrs, if_neg c_2, if_neg c_5, if_pos (zsge (r := p1) (w := p2) c_7), zrq0, if_neg (show ¬ zat0 p2 = 0 by rw [zat0, if_pos c_16]; decide), if_neg c_17, zrq1, if_neg (show ¬ zat1 p1 p2 = 0 by rw [zat1, if_neg c_21, if_pos c_48]; decide), if_neg c_49, zrq3, if_neg (show ¬ zat3 p1 p2 = 0 by rw [zat3, if_neg c_57, if_pos c_64]; decide), if_neg c_65, zrq4, if_neg c_67])]; rfl) hS (Nat.le_of_ble_eq_true rfl) (Nat.le_of_ble_eq_true rfl) dX12_rests_160
                        · refine lv_iconst (v := 0) hx hb dX12_rests_141 (by decide) ?_
                          refine lv_goto (tgt := 146) hx hb dX12_rests_142 (by decide) ?_
                          refine zput (D := D) (ci := 11) (v := .int 0) (ty := .int) hx hb hts hiX12 tyX12 tyX12_ok nmX12 hown hK hw hS 0 rfl rfl 0 (by decide) (hts (.fieldLink RX12 129 "BeardPassModel" "thrown" "I") (by decide +kernel)) (fun _ h9 => h9) rfl (by decide +kernel) rfl rfl (Nat.le_of_ble_eq_true rfl) dX12_rests_146 [(h0, .inr (11, [.int 0, .int w_taped, .ref (y 0), .int w_size, .int w_place, .int w_begin, .int w_token, .long w_word, .int w_told, .int w_wrong, .ref (y 1), .ref (y 2), .ref (y 3), .ref (y 4), .ref (y 5), .ref (y 6), .ref (y 7), .ref (y 8), .ref (y 9), .ref (y 10), .ref (y 11), .ref (y 12), .int w_code, .int w_toldLines, .ref (y 13), .ref (y 14), .ref (y 15), .ref (y 16), .ref (y 17), .ref (y 18), .ref (y 19), .ref (y 20), .ref (y 21), .ref (y 22), .ref (y 23), .ref (y 24), .int w_given, .long w_fresh, .ref (y 25), .ref (y 26), .ref (y 27), .ref (y 28), .ref (y 29), .ref (y 30), .ref (y 31), .ref (y 32), .ref (y 33), .ref (y 34), .ref (y 35), .ref (y 36), .ref (y 37), .int w_done, .int w_moreAsked, .ref (y 38), .long w_g, .int w_gone, .int w_stopped]))] rfl (fun H locs hw hS => ?_)
                          refine lv_iload_n hx hb dX12_rests_149 rfl (lv_at hl 7 rfl) ?_
                          refine lv_iconst (v := (-1)) hx hb dX12_rests_150 (by decide) ?_
                          refine lv_icmp_ne (tgt := 159) hx hb dX12_rests_151 (by decide) (fun h => absurd (c_67) h) (fun _ => ?_)
                          refine lv_iload hx hb dX12_rests_154 (lv_at hl 1 rfl) ?_
                          refine lv_goto (tgt := 160) hx hb dX12_rests_156 (by decide) ?_
                          exact ziret hx hb hr (rfl) hlocks () (congrArg (fun z => some (Value.int z)) (zrv_some (by rw [zrs, if_neg c_2, if_neg c_5, if_pos (zsge (r := p1) (w := p2) c_7), zrq0, if_neg (show ¬ zat0 p2 = 0 by rw [zat0, if_pos c_16]; decide), if_neg c_17, zrq1, if_neg (show ¬ zat1 p1 p2 = 0 by rw [zat1, if_neg c_21, if_pos c_48]; decide), if_neg c_49, zrq3, if_neg (show ¬ zat3 p1 p2 = 0 by rw [zat3, if_neg c_57, if_pos c_64]; decide), if_neg c_65, zrq4, if_pos c_67]))) (trivial) hw [0] rfl (by rw [show zth p1 p2 p3 = 0 from zth_some (v := 3) (by rw [zrs, if_neg c_2, if_neg c_5, if_pos (zsge (r := p1) (w := p2) c_7), zrq0, if_neg (show ¬ zat0 p2 = 0 by rw [zat0, if_pos c_16]; decide), if_neg c_17, zrq1, if_neg (show ¬ zat1 p1 p2 = 0 by rw [zat1, if_neg c_21, if_pos c_48]; decide), if_neg c_49, zrq3, if_neg (show ¬ zat3 p1 p2 = 0 by rw [zat3, if_neg c_57, if_pos c_64]; decide), if_neg c_65, zrq4, if_pos c_67])]; rfl) hS (Nat.le_of_ble_eq_true rfl) (Nat.le_of_ble_eq_true rfl) dX12_rests_160
                      · refine lv_iload hx hb dX12_rests_123 (lv_at hl 2 rfl) ?_
                        exact ziret hx hb hr (rfl) hlocks () (congrArg (fun z => some (Value.int z)) (zrv_some (by rw [zrs, if_neg c_2, if_neg c_5, if_pos (zsge (r := p1) (w := p2) c_7), zrq0, if_neg (show ¬ zat0 p2 = 0 by rw [zat0, if_pos c_16]; decide), if_neg c_17, zrq1, if_neg (show ¬ zat1 p1 p2 = 0 by rw [zat1, if_neg c_21, if_pos c_48]; decide), if_neg c_49, zrq3, if_neg (show ¬ zat3 p1 p2 = 0 by rw [zat3, if_neg c_57, if_pos c_64]; decide), if_pos c_65]))) (trivial) hw [0] rfl (by rw [show zth p1 p2 p3 = 0 from zth_some (v := 3) (by rw [zrs, if_neg c_2, if_neg c_5, if_pos (zsge (r := p1) (w := p2) c_7), zrq0, if_neg (show ¬ zat0 p2 = 0 by rw [zat0, if_pos c_16]; decide), if_neg c_17, zrq1, if_neg (show ¬ zat1 p1 p2 = 0 by rw [zat1, if_neg c_21, if_pos c_48]; decide), if_neg c_49, zrq3, if_neg (show ¬ zat3 p1 p2 = 0 by rw [zat3, if_neg c_57, if_pos c_64]; decide), if_pos c_65])]; rfl) hS (Nat.le_of_ble_eq_true rfl) (Nat.le_of_ble_eq_true rfl) dX12_rests_125
                    · refine lv_goto (tgt := 129) hx hb dX12_rests_114 (by decide) ?_
                      refine lv_iinc (v := 4) (lv' := [(5, .int 4), (7, .int 1), (6, .int 1), (4, .int 2), (0, .ref h0), (1, .int p1), (2, .int p2), (3, .int p3)]) hx hb dX12_rests_129 hl (k := 2) rfl (by decide) (by decide) rfl (fun ls hl => ?_)
                      refine lv_goto (tgt := 50) hx hb dX12_rests_132 (by decide) ?_
                      refine lv_iload hx hb dX12_rests_50 (lv_at hl 0 rfl) ?_
                      refine lv_iconst (v := 4) hx hb dX12_rests_52 (by decide) ?_
                      refine lv_icmp_ge (tgt := 135) hx hb dX12_rests_53 (by decide) (fun _ => ?_) (fun h => absurd (by decide) h)
                      refine lv_aload_n hx hb dX12_rests_135 rfl (lv_at hl 4 rfl) ?_
                      refine lv_iload_n hx hb dX12_rests_136 rfl (lv_at hl 7 rfl) ?_
                      refine lv_iconst (v := (-1)) hx hb dX12_rests_137 (by decide) ?_
                      refine lv_icmp_ne (tgt := 145) hx hb dX12_rests_138 (by decide) (fun c_71 => ?_) (fun c_71 => ?_)
                      · refine lv_iconst (v := 1) hx hb dX12_rests_145 (by decide) ?_
                        refine zput (D := D) (ci := 11) (v := .int 1) (ty := .int) hx hb hts hiX12 tyX12 tyX12_ok nmX12 hown hK hw hS 0 rfl rfl 0 (by decide) (hts (.fieldLink RX12 129 "BeardPassModel" "thrown" "I") (by decide +kernel)) (fun _ h9 => h9) rfl (by decide +kernel) rfl rfl (Nat.le_of_ble_eq_true rfl) dX12_rests_146 [(h0, .inr (11, [.int 1, .int w_taped, .ref (y 0), .int w_size, .int w_place, .int w_begin, .int w_token, .long w_word, .int w_told, .int w_wrong, .ref (y 1), .ref (y 2), .ref (y 3), .ref (y 4), .ref (y 5), .ref (y 6), .ref (y 7), .ref (y 8), .ref (y 9), .ref (y 10), .ref (y 11), .ref (y 12), .int w_code, .int w_toldLines, .ref (y 13), .ref (y 14), .ref (y 15), .ref (y 16), .ref (y 17), .ref (y 18), .ref (y 19), .ref (y 20), .ref (y 21), .ref (y 22), .ref (y 23), .ref (y 24), .int w_given, .long w_fresh, .ref (y 25), .ref (y 26), .ref (y 27), .ref (y 28), .ref (y 29), .ref (y 30), .ref (y 31), .ref (y 32), .ref (y 33), .ref (y 34), .ref (y 35), .ref (y 36), .ref (y 37), .int w_done, .int w_moreAsked, .ref (y 38), .long w_g, .int w_gone, .int w_stopped]))] rfl (fun H locs hw hS => ?_)
                        refine lv_iload_n hx hb dX12_rests_149 rfl (lv_at hl 7 rfl) ?_
                        refine lv_iconst (v := (-1)) hx hb dX12_rests_150 (by decide) ?_
                        refine lv_icmp_ne (tgt := 159) hx hb dX12_rests_151 (by decide) (fun _ => ?_) (fun h => absurd h (c_71))
                        refine lv_iconst (v := 0) hx hb dX12_rests_159 (by decide) ?_
                        exact ziret hx hb hr (rfl) hlocks () (congrArg (fun z => some (Value.int z)) (zrv_none (by rw [zrs, if_neg c_2, if_neg c_5, if_pos (zsge (r := p1) (w := p2) c_7), zrq0, if_neg (show ¬ zat0 p2 = 0 by rw [zat0, if_pos c_16]; decide), if_neg c_17, zrq1, if_neg (show ¬ zat1 p1 p2 = 0 by rw [zat1, if_neg c_21, if_pos c_48]; decide), if_neg c_49, zrq3, if_pos (show zat3 p1 p2 = 0 from (if_neg c_57).trans (if_neg c_64)), zrq4, if_neg c_71]))) (trivial) hw [0] rfl (by rw [show zth p1 p2 p3 = 1 from zth_none (by rw [zrs, if_neg c_2, if_neg c_5, if_pos (zsge (r := p1) (w := p2) c_7), zrq0, if_neg (show ¬ zat0 p2 = 0 by rw [zat0, if_pos c_16]; decide), if_neg c_17, zrq1, if_neg (show ¬ zat1 p1 p2 = 0 by rw [zat1, if_neg c_21, if_pos c_48]; decide), if_neg c_49, zrq3, if_pos (show zat3 p1 p2 = 0 from (if_neg c_57).trans (if_neg c_64)), zrq4, if_neg c_71])]; rfl) hS (Nat.le_of_ble_eq_true rfl) (Nat.le_of_ble_eq_true rfl) dX12_rests_160
                      · refine lv_iconst (v := 0) hx hb dX12_rests_141 (by decide) ?_
                        refine lv_goto (tgt := 146) hx hb dX12_rests_142 (by decide) ?_
                        refine zput (D := D) (ci := 11) (v := .int 0) (ty := .int) hx hb hts hiX12 tyX12 tyX12_ok nmX12 hown hK hw hS 0 rfl rfl 0 (by decide) (hts (.fieldLink RX12 129 "BeardPassModel" "thrown" "I") (by decide +kernel)) (fun _ h9 => h9) rfl (by decide +kernel) rfl rfl (Nat.le_of_ble_eq_true rfl) dX12_rests_146 [(h0, .inr (11, [.int 0, .int w_taped, .ref (y 0), .int w_size, .int w_place, .int w_begin, .int w_token, .long w_word, .int w_told, .int w_wrong, .ref (y 1), .ref (y 2), .ref (y 3), .ref (y 4), .ref (y 5), .ref (y 6), .ref (y 7), .ref (y 8), .ref (y 9), .ref (y 10), .ref (y 11), .ref (y 12), .int w_code, .int w_toldLines, .ref (y 13), .ref (y 14), .ref (y 15), .ref (y 16), .ref (y 17), .ref (y 18), .ref (y 19), .ref (y 20), .ref (y 21), .ref (y 22), .ref (y 23), .ref (y 24), .int w_given, .long w_fresh, .ref (y 25), .ref (y 26), .ref (y 27), .ref (y 28), .ref (y 29), .ref (y 30), .ref (y 31), .ref (y 32), .ref (y 33), .ref (y 34), .ref (y 35), .ref (y 36), .ref (y 37), .int w_done, .int w_moreAsked, .ref (y 38), .long w_g, .int w_gone, .int w_stopped]))] rfl (fun H locs hw hS => ?_)
                        refine lv_iload_n hx hb dX12_rests_149 rfl (lv_at hl 7 rfl) ?_
                        refine lv_iconst (v := (-1)) hx hb dX12_rests_150 (by decide) ?_
                        refine lv_icmp_ne (tgt := 159) hx hb dX12_rests_151 (by decide) (fun h => absurd (c_71) h) (fun _ => ?_)
                        refine lv_iload hx hb dX12_rests_154 (lv_at hl 3 rfl) ?_
                        refine lv_goto (tgt := 160) hx hb dX12_rests_156 (by decide) ?_
                        exact ziret hx hb hr (rfl) hlocks () (congrArg (fun z => some (Value.int z)) (zrv_some (by rw [zrs, if_neg c_2, if_neg c_5, if_pos (zsge (r := p1) (w := p2) c_7), zrq0, if_neg (show ¬ zat0 p2 = 0 by rw [zat0, if_pos c_16]; decide), if_neg c_17, zrq1, if_neg (show ¬ zat1 p1 p2 = 0 by rw [zat1, if_neg c_21, if_pos c_48]; decide), if_neg c_49, zrq3, if_pos (show zat3 p1 p2 = 0 from (if_neg c_57).trans (if_neg c_64)), zrq4, if_pos c_71]))) (trivial) hw [0] rfl (by rw [show zth p1 p2 p3 = 0 from zth_some (v := 2) (by rw [zrs, if_neg c_2, if_neg c_5, if_pos (zsge (r := p1) (w := p2) c_7), zrq0, if_neg (show ¬ zat0 p2 = 0 by rw [zat0, if_pos c_16]; decide), if_neg c_17, zrq1, if_neg (show ¬ zat1 p1 p2 = 0 by rw [zat1, if_neg c_21, if_pos c_48]; decide), if_neg c_49, zrq3, if_pos (show zat3 p1 p2 = 0 from (if_neg c_57).trans (if_neg c_64)), zrq4, if_pos c_71])]; rfl) hS (Nat.le_of_ble_eq_true rfl) (Nat.le_of_ble_eq_true rfl) dX12_rests_160
                · refine lv_iload hx hb dX12_rests_123 (lv_at hl 2 rfl) ?_
                  exact ziret hx hb hr (rfl) hlocks () (congrArg (fun z => some (Value.int z)) (zrv_some (by rw [zrs, if_neg c_2, if_neg c_5, if_pos (zsge (r := p1) (w := p2) c_7), zrq0, if_neg (show ¬ zat0 p2 = 0 by rw [zat0, if_pos c_16]; decide), if_neg c_17, zrq1, if_neg (show ¬ zat1 p1 p2 = 0 by rw [zat1, if_neg c_21, if_pos c_48]; decide), if_pos c_49]))) (trivial) hw [0] rfl (by rw [show zth p1 p2 p3 = 0 from zth_some (v := 1) (by rw [zrs, if_neg c_2, if_neg c_5, if_pos (zsge (r := p1) (w := p2) c_7), zrq0, if_neg (show ¬ zat0 p2 = 0 by rw [zat0, if_pos c_16]; decide), if_neg c_17, zrq1, if_neg (show ¬ zat1 p1 p2 = 0 by rw [zat1, if_neg c_21, if_pos c_48]; decide), if_pos c_49])]; rfl) hS (Nat.le_of_ble_eq_true rfl) (Nat.le_of_ble_eq_true rfl) dX12_rests_125
              · refine lv_goto (tgt := 129) hx hb dX12_rests_114 (by decide) ?_
                refine lv_iinc (v := 2) (lv' := [(5, .int 2), (7, .int 1), (6, .int 0), (4, .int 1), (0, .ref h0), (1, .int p1), (2, .int p2), (3, .int p3)]) hx hb dX12_rests_129 hl (k := 2) rfl (by decide) (by decide) rfl (fun ls hl => ?_)
                refine lv_goto (tgt := 50) hx hb dX12_rests_132 (by decide) ?_
                refine lv_iload hx hb dX12_rests_50 (lv_at hl 0 rfl) ?_
                refine lv_iconst (v := 4) hx hb dX12_rests_52 (by decide) ?_
                refine lv_icmp_ge (tgt := 135) hx hb dX12_rests_53 (by decide) (fun h => absurd h (by decide)) (fun _ => ?_)
                refine lv_iload hx hb dX12_rests_56 (lv_at hl 0 rfl) ?_
                refine lv_iconst (v := 2) hx hb dX12_rests_58 (by decide) ?_
                refine lv_idiv hx hb dX12_rests_59 (by decide) ?_
                refine ztop (.int 1) (congrArg Value.int (by decide)) ?_
                refine lv_istore (lv' := [(6, .int 1), (5, .int 2), (7, .int 1), (4, .int 1), (0, .ref h0), (1, .int p1), (2, .int p2), (3, .int p3)]) hx hb dX12_rests_60 hl (by decide) rfl (fun ls hl => ?_)
                refine lv_iload hx hb dX12_rests_62 (lv_at hl 1 rfl) ?_
                refine lv_iconst (v := 2) hx hb dX12_rests_64 (by decide) ?_
                refine lv_irem hx hb dX12_rests_65 (by decide) ?_
                refine ztop (.int 0) (congrArg Value.int (by decide)) ?_
                refine lv_istore (lv' := [(7, .int 0), (6, .int 1), (5, .int 2), (4, .int 1), (0, .ref h0), (1, .int p1), (2, .int p2), (3, .int p3)]) hx hb dX12_rests_66 hl (by decide) rfl (fun ls hl => ?_)
                refine lv_iload_n hx hb dX12_rests_68 rfl (lv_at hl 5 rfl) ?_
                refine lv_iload_n hx hb dX12_rests_69 rfl (lv_at hl 6 rfl) ?_
                refine lv_iconst (v := 1) hx hb dX12_rests_70 (by decide) ?_
                refine lv_iload hx hb dX12_rests_71 (lv_at hl 1 rfl) ?_
                refine lv_isub hx hb dX12_rests_73 ?_
                refine ztop (.int 0) (congrArg Value.int (by decide)) ?_
                refine lv_iload hx hb dX12_rests_74 (lv_at hl 0 rfl) ?_
                refine zcall2 (va_runS (As := [.int p1, .int p2, .int 0, .int 0]) (rest := []) ⟨hx, hb, hml, hown, hts⟩ (c_mg00 l D ct p1 p2 H.size) (va_cwS 4 hts gX12_rests_X12_guardGets rfl rfl rfl (by decide +kernel) ⟨Nat.le_of_ble_eq_true rfl, Nat.le_of_ble_eq_true rfl⟩) (zpreS hK hw hS hA zZ.nil hN [] rfl rfl) rfl rfl hl.1 rfl (lv_room (Nat.le_of_ble_eq_true rfl)) dX12_rests_76 ⟨Nat.le_of_ble_eq_true rfl, Nat.le_of_ble_eq_true rfl⟩) hw hS hA [] [0] rfl rfl rfl rfl (fun _ H locs hp75 hw hS => ?_)
                have hw : zPD D A [(h0, .inr (11, [.int 0, .int w_taped, .ref (y 0), .int w_size, .int w_place, .int w_begin, .int w_token, .long w_word, .int w_told, .int w_wrong, .ref (y 1), .ref (y 2), .ref (y 3), .ref (y 4), .ref (y 5), .ref (y 6), .ref (y 7), .ref (y 8), .ref (y 9), .ref (y 10), .ref (y 11), .ref (y 12), .int w_code, .int w_toldLines, .ref (y 13), .ref (y 14), .ref (y 15), .ref (y 16), .ref (y 17), .ref (y 18), .ref (y 19), .ref (y 20), .ref (y 21), .ref (y 22), .ref (y 23), .ref (y 24), .int w_given, .long w_fresh, .ref (y 25), .ref (y 26), .ref (y 27), .ref (y 28), .ref (y 29), .ref (y 30), .ref (y 31), .ref (y 32), .ref (y 33), .ref (y 34), .ref (y 35), .ref (y 36), .ref (y 37), .int w_done, .int w_moreAsked, .ref (y 38), .long w_g, .int w_gone, .int w_stopped]))] H := hw
                refine zfr 79 [.int 0] rfl rfl ?_
                refine lv_iload_n hx hb dX12_rests_79 rfl (lv_at hl 5 rfl) ?_
                refine lv_iload_n hx hb dX12_rests_80 rfl (lv_at hl 6 rfl) ?_
                refine lv_iload hx hb dX12_rests_81 (lv_at hl 1 rfl) ?_
                refine lv_iload hx hb dX12_rests_83 (lv_at hl 0 rfl) ?_
                refine zcall2 (va_runS (As := [.int p1, .int p2, .int 1, .int 0]) (rest := [.int 0]) ⟨hx, hb, hml, hown, hts⟩ (c_mg10 l D ct p1 p2 H.size) (va_cwS 4 hts gX12_rests_X12_guardGets rfl rfl rfl (by decide +kernel) ⟨Nat.le_of_ble_eq_true rfl, Nat.le_of_ble_eq_true rfl⟩) (zpreS hK hw hS hA zZ.nil hN [] rfl rfl) rfl rfl hl.1 rfl (lv_room (Nat.le_of_ble_eq_true rfl)) dX12_rests_85 ⟨Nat.le_of_ble_eq_true rfl, Nat.le_of_ble_eq_true rfl⟩) hw hS hA [] [0] rfl rfl rfl rfl (fun _ H locs hp76 hw hS => ?_)
                have hw : zPD D A [(h0, .inr (11, [.int 0, .int w_taped, .ref (y 0), .int w_size, .int w_place, .int w_begin, .int w_token, .long w_word, .int w_told, .int w_wrong, .ref (y 1), .ref (y 2), .ref (y 3), .ref (y 4), .ref (y 5), .ref (y 6), .ref (y 7), .ref (y 8), .ref (y 9), .ref (y 10), .ref (y 11), .ref (y 12), .int w_code, .int w_toldLines, .ref (y 13), .ref (y 14), .ref (y 15), .ref (y 16), .ref (y 17), .ref (y 18), .ref (y 19), .ref (y 20), .ref (y 21), .ref (y 22), .ref (y 23), .ref (y 24), .int w_given, .long w_fresh, .ref (y 25), .ref (y 26), .ref (y 27), .ref (y 28), .ref (y 29), .ref (y 30), .ref (y 31), .ref (y 32), .ref (y 33), .ref (y 34), .ref (y 35), .ref (y 36), .ref (y 37), .int w_done, .int w_moreAsked, .ref (y 38), .long w_g, .int w_gone, .int w_stopped]))] H := hw
                refine zfr 88 [.int (-1), .int 0] rfl rfl ?_
                refine lv_icmp_gt (tgt := 129) hx hb dX12_rests_88 (by decide) (fun _ => ?_) (fun h => absurd (by decide) h)
                refine lv_iinc (v := 3) (lv' := [(5, .int 3), (7, .int 0), (6, .int 1), (4, .int 1), (0, .ref h0), (1, .int p1), (2, .int p2), (3, .int p3)]) hx hb dX12_rests_129 hl (k := 2) rfl (by decide) (by decide) rfl (fun ls hl => ?_)
                refine lv_goto (tgt := 50) hx hb dX12_rests_132 (by decide) ?_
                refine lv_iload hx hb dX12_rests_50 (lv_at hl 0 rfl) ?_
                refine lv_iconst (v := 4) hx hb dX12_rests_52 (by decide) ?_
                refine lv_icmp_ge (tgt := 135) hx hb dX12_rests_53 (by decide) (fun h => absurd h (by decide)) (fun _ => ?_)
                refine lv_iload hx hb dX12_rests_56 (lv_at hl 0 rfl) ?_
                refine lv_iconst (v := 2) hx hb dX12_rests_58 (by decide) ?_
                refine lv_idiv hx hb dX12_rests_59 (by decide) ?_
                refine ztop (.int 1) (congrArg Value.int (by decide)) ?_
                refine lv_istore (lv' := [(6, .int 1), (5, .int 3), (7, .int 0), (4, .int 1), (0, .ref h0), (1, .int p1), (2, .int p2), (3, .int p3)]) hx hb dX12_rests_60 hl (by decide) rfl (fun ls hl => ?_)
                refine lv_iload hx hb dX12_rests_62 (lv_at hl 1 rfl) ?_
                refine lv_iconst (v := 2) hx hb dX12_rests_64 (by decide) ?_
                refine lv_irem hx hb dX12_rests_65 (by decide) ?_
                refine ztop (.int 1) (congrArg Value.int (by decide)) ?_
                refine lv_istore (lv' := [(7, .int 1), (6, .int 1), (5, .int 3), (4, .int 1), (0, .ref h0), (1, .int p1), (2, .int p2), (3, .int p3)]) hx hb dX12_rests_66 hl (by decide) rfl (fun ls hl => ?_)
                refine lv_iload_n hx hb dX12_rests_68 rfl (lv_at hl 5 rfl) ?_
                refine lv_iload_n hx hb dX12_rests_69 rfl (lv_at hl 6 rfl) ?_
                refine lv_iconst (v := 1) hx hb dX12_rests_70 (by decide) ?_
                refine lv_iload hx hb dX12_rests_71 (lv_at hl 1 rfl) ?_
                refine lv_isub hx hb dX12_rests_73 ?_
                refine ztop (.int 0) (congrArg Value.int (by decide)) ?_
                refine lv_iload hx hb dX12_rests_74 (lv_at hl 0 rfl) ?_
                refine zcall2 (va_runS (As := [.int p1, .int p2, .int 0, .int 1]) (rest := []) ⟨hx, hb, hml, hown, hts⟩ (c_mg01 l D ct p1 p2 H.size) (va_cwS 4 hts gX12_rests_X12_guardGets rfl rfl rfl (by decide +kernel) ⟨Nat.le_of_ble_eq_true rfl, Nat.le_of_ble_eq_true rfl⟩) (zpreS hK hw hS hA zZ.nil hN [] rfl rfl) rfl rfl hl.1 rfl (lv_room (Nat.le_of_ble_eq_true rfl)) dX12_rests_76 ⟨Nat.le_of_ble_eq_true rfl, Nat.le_of_ble_eq_true rfl⟩) hw hS hA [] [0] rfl rfl rfl rfl (fun _ H locs hp79 hw hS => ?_)
                have hw : zPD D A [(h0, .inr (11, [.int 0, .int w_taped, .ref (y 0), .int w_size, .int w_place, .int w_begin, .int w_token, .long w_word, .int w_told, .int w_wrong, .ref (y 1), .ref (y 2), .ref (y 3), .ref (y 4), .ref (y 5), .ref (y 6), .ref (y 7), .ref (y 8), .ref (y 9), .ref (y 10), .ref (y 11), .ref (y 12), .int w_code, .int w_toldLines, .ref (y 13), .ref (y 14), .ref (y 15), .ref (y 16), .ref (y 17), .ref (y 18), .ref (y 19), .ref (y 20), .ref (y 21), .ref (y 22), .ref (y 23), .ref (y 24), .int w_given, .long w_fresh, .ref (y 25), .ref (y 26), .ref (y 27), .ref (y 28), .ref (y 29), .ref (y 30), .ref (y 31), .ref (y 32), .ref (y 33), .ref (y 34), .ref (y 35), .ref (y 36), .ref (y 37), .int w_done, .int w_moreAsked, .ref (y 38), .long w_g, .int w_gone, .int w_stopped]))] H := hw
                refine zfr 79 [.int (-p2)] rfl rfl ?_
                refine lv_iload_n hx hb dX12_rests_79 rfl (lv_at hl 5 rfl) ?_
                refine lv_iload_n hx hb dX12_rests_80 rfl (lv_at hl 6 rfl) ?_
                refine lv_iload hx hb dX12_rests_81 (lv_at hl 1 rfl) ?_
                refine lv_iload hx hb dX12_rests_83 (lv_at hl 0 rfl) ?_
                refine zcall2 (va_runS (As := [.int p1, .int p2, .int 1, .int 1]) (rest := [.int (-p2)]) ⟨hx, hb, hml, hown, hts⟩ (c_mg11 l D ct p1 p2 H.size) (va_cwS 4 hts gX12_rests_X12_guardGets rfl rfl rfl (by decide +kernel) ⟨Nat.le_of_ble_eq_true rfl, Nat.le_of_ble_eq_true rfl⟩) (zpreS hK hw hS hA zZ.nil hN [] rfl rfl) rfl rfl hl.1 rfl (lv_room (Nat.le_of_ble_eq_true rfl)) dX12_rests_85 ⟨Nat.le_of_ble_eq_true rfl, Nat.le_of_ble_eq_true rfl⟩) hw hS hA [] [0] rfl rfl rfl rfl (fun _ H locs hp80 hw hS => ?_)
                have hw : zPD D A [(h0, .inr (11, [.int 0, .int w_taped, .ref (y 0), .int w_size, .int w_place, .int w_begin, .int w_token, .long w_word, .int w_told, .int w_wrong, .ref (y 1), .ref (y 2), .ref (y 3), .ref (y 4), .ref (y 5), .ref (y 6), .ref (y 7), .ref (y 8), .ref (y 9), .ref (y 10), .ref (y 11), .ref (y 12), .int w_code, .int w_toldLines, .ref (y 13), .ref (y 14), .ref (y 15), .ref (y 16), .ref (y 17), .ref (y 18), .ref (y 19), .ref (y 20), .ref (y 21), .ref (y 22), .ref (y 23), .ref (y 24), .int w_given, .long w_fresh, .ref (y 25), .ref (y 26), .ref (y 27), .ref (y 28), .ref (y 29), .ref (y 30), .ref (y 31), .ref (y 32), .ref (y 33), .ref (y 34), .ref (y 35), .ref (y 36), .ref (y 37), .int w_done, .int w_moreAsked, .ref (y 38), .long w_g, .int w_gone, .int w_stopped]))] H := hw
                refine zfr 88 [.int p1, .int (-p2)] rfl rfl ?_
                refine lv_icmp_gt (tgt := 129) hx hb dX12_rests_88 (by decide) (fun c_81 => ?_) (fun c_81 => ?_)
                · refine lv_iinc (v := 4) (lv' := [(5, .int 4), (7, .int 1), (6, .int 1), (4, .int 1), (0, .ref h0), (1, .int p1), (2, .int p2), (3, .int p3)]) hx hb dX12_rests_129 hl (k := 2) rfl (by decide) (by decide) rfl (fun ls hl => ?_)
                  refine lv_goto (tgt := 50) hx hb dX12_rests_132 (by decide) ?_
                  refine lv_iload hx hb dX12_rests_50 (lv_at hl 0 rfl) ?_
                  refine lv_iconst (v := 4) hx hb dX12_rests_52 (by decide) ?_
                  refine lv_icmp_ge (tgt := 135) hx hb dX12_rests_53 (by decide) (fun _ => ?_) (fun h => absurd (by decide) h)
                  refine lv_aload_n hx hb dX12_rests_135 rfl (lv_at hl 4 rfl) ?_
                  refine lv_iload_n hx hb dX12_rests_136 rfl (lv_at hl 7 rfl) ?_
                  refine lv_iconst (v := (-1)) hx hb dX12_rests_137 (by decide) ?_
                  refine lv_icmp_ne (tgt := 145) hx hb dX12_rests_138 (by decide) (fun c_83 => ?_) (fun c_83 => ?_)
                  · refine lv_iconst (v := 1) hx hb dX12_rests_145 (by decide) ?_
                    refine zput (D := D) (ci := 11) (v := .int 1) (ty := .int) hx hb hts hiX12 tyX12 tyX12_ok nmX12 hown hK hw hS 0 rfl rfl 0 (by decide) (hts (.fieldLink RX12 129 "BeardPassModel" "thrown" "I") (by decide +kernel)) (fun _ h9 => h9) rfl (by decide +kernel) rfl rfl (Nat.le_of_ble_eq_true rfl) dX12_rests_146 [(h0, .inr (11, [.int 1, .int w_taped, .ref (y 0), .int w_size, .int w_place, .int w_begin, .int w_token, .long w_word, .int w_told, .int w_wrong, .ref (y 1), .ref (y 2), .ref (y 3), .ref (y 4), .ref (y 5), .ref (y 6), .ref (y 7), .ref (y 8), .ref (y 9), .ref (y 10), .ref (y 11), .ref (y 12), .int w_code, .int w_toldLines, .ref (y 13), .ref (y 14), .ref (y 15), .ref (y 16), .ref (y 17), .ref (y 18), .ref (y 19), .ref (y 20), .ref (y 21), .ref (y 22), .ref (y 23), .ref (y 24), .int w_given, .long w_fresh, .ref (y 25), .ref (y 26), .ref (y 27), .ref (y 28), .ref (y 29), .ref (y 30), .ref (y 31), .ref (y 32), .ref (y 33), .ref (y 34), .ref (y 35), .ref (y 36), .ref (y 37), .int w_done, .int w_moreAsked, .ref (y 38), .long w_g, .int w_gone, .int w_stopped]))] rfl (fun H locs hw hS => ?_)
                    refine lv_iload_n hx hb dX12_rests_149 rfl (lv_at hl 7 rfl) ?_
                    refine lv_iconst (v := (-1)) hx hb dX12_rests_150 (by decide) ?_
                    refine lv_icmp_ne (tgt := 159) hx hb dX12_rests_151 (by decide) (fun _ => ?_) (fun h => absurd h (c_83))
                    refine lv_iconst (v := 0) hx hb dX12_rests_159 (by decide) ?_
                    exact ziret hx hb hr (rfl) hlocks () (congrArg (fun z => some (Value.int z)) (zrv_none (by rw [zrs, if_neg c_2, if_neg c_5, if_pos (zsge (r := p1) (w := p2) c_7), zrq0, if_neg (show ¬ zat0 p2 = 0 by rw [zat0, if_pos c_16]; decide), if_neg c_17, zrq1, if_pos (show zat1 p1 p2 = 0 from (if_neg c_21).trans (if_neg c_48)), zrq3, if_pos (show zat3 p1 p2 = 0 from if_pos c_81), zrq4, if_neg c_83]))) (trivial) hw [0] rfl (by rw [show zth p1 p2 p3 = 1 from zth_none (by rw [zrs, if_neg c_2, if_neg c_5, if_pos (zsge (r := p1) (w := p2) c_7), zrq0, if_neg (show ¬ zat0 p2 = 0 by rw [zat0, if_pos c_16]; decide), if_neg c_17, zrq1, if_pos (show zat1 p1 p2 = 0 from (if_neg c_21).trans (if_neg c_48)), zrq3, if_pos (show zat3 p1 p2 = 0 from if_pos c_81), zrq4, if_neg c_83])]; rfl) hS (Nat.le_of_ble_eq_true rfl) (Nat.le_of_ble_eq_true rfl) dX12_rests_160
                  · refine lv_iconst (v := 0) hx hb dX12_rests_141 (by decide) ?_
                    refine lv_goto (tgt := 146) hx hb dX12_rests_142 (by decide) ?_
                    refine zput (D := D) (ci := 11) (v := .int 0) (ty := .int) hx hb hts hiX12 tyX12 tyX12_ok nmX12 hown hK hw hS 0 rfl rfl 0 (by decide) (hts (.fieldLink RX12 129 "BeardPassModel" "thrown" "I") (by decide +kernel)) (fun _ h9 => h9) rfl (by decide +kernel) rfl rfl (Nat.le_of_ble_eq_true rfl) dX12_rests_146 [(h0, .inr (11, [.int 0, .int w_taped, .ref (y 0), .int w_size, .int w_place, .int w_begin, .int w_token, .long w_word, .int w_told, .int w_wrong, .ref (y 1), .ref (y 2), .ref (y 3), .ref (y 4), .ref (y 5), .ref (y 6), .ref (y 7), .ref (y 8), .ref (y 9), .ref (y 10), .ref (y 11), .ref (y 12), .int w_code, .int w_toldLines, .ref (y 13), .ref (y 14), .ref (y 15), .ref (y 16), .ref (y 17), .ref (y 18), .ref (y 19), .ref (y 20), .ref (y 21), .ref (y 22), .ref (y 23), .ref (y 24), .int w_given, .long w_fresh, .ref (y 25), .ref (y 26), .ref (y 27), .ref (y 28), .ref (y 29), .ref (y 30), .ref (y 31), .ref (y 32), .ref (y 33), .ref (y 34), .ref (y 35), .ref (y 36), .ref (y 37), .int w_done, .int w_moreAsked, .ref (y 38), .long w_g, .int w_gone, .int w_stopped]))] rfl (fun H locs hw hS => ?_)
                    refine lv_iload_n hx hb dX12_rests_149 rfl (lv_at hl 7 rfl) ?_
                    refine lv_iconst (v := (-1)) hx hb dX12_rests_150 (by decide) ?_
                    refine lv_icmp_ne (tgt := 159) hx hb dX12_rests_151 (by decide) (fun h => absurd (c_83) h) (fun _ => ?_)
                    refine lv_iload hx hb dX12_rests_154 (lv_at hl 3 rfl) ?_
                    refine lv_goto (tgt := 160) hx hb dX12_rests_156 (by decide) ?_
                    exact ziret hx hb hr (rfl) hlocks () (congrArg (fun z => some (Value.int z)) (zrv_some (by rw [zrs, if_neg c_2, if_neg c_5, if_pos (zsge (r := p1) (w := p2) c_7), zrq0, if_neg (show ¬ zat0 p2 = 0 by rw [zat0, if_pos c_16]; decide), if_neg c_17, zrq1, if_pos (show zat1 p1 p2 = 0 from (if_neg c_21).trans (if_neg c_48)), zrq3, if_pos (show zat3 p1 p2 = 0 from if_pos c_81), zrq4, if_pos c_83]))) (trivial) hw [0] rfl (by rw [show zth p1 p2 p3 = 0 from zth_some (v := 1) (by rw [zrs, if_neg c_2, if_neg c_5, if_pos (zsge (r := p1) (w := p2) c_7), zrq0, if_neg (show ¬ zat0 p2 = 0 by rw [zat0, if_pos c_16]; decide), if_neg c_17, zrq1, if_pos (show zat1 p1 p2 = 0 from (if_neg c_21).trans (if_neg c_48)), zrq3, if_pos (show zat3 p1 p2 = 0 from if_pos c_81), zrq4, if_pos c_83])]; rfl) hS (Nat.le_of_ble_eq_true rfl) (Nat.le_of_ble_eq_true rfl) dX12_rests_160
                · refine lv_iload_n hx hb dX12_rests_91 rfl (lv_at hl 5 rfl) ?_
                  refine lv_iload_n hx hb dX12_rests_92 rfl (lv_at hl 6 rfl) ?_
                  refine lv_iload hx hb dX12_rests_93 (lv_at hl 1 rfl) ?_
                  refine lv_iconst (v := 1) hx hb dX12_rests_95 (by decide) ?_
                  refine lv_iload hx hb dX12_rests_96 (lv_at hl 0 rfl) ?_
                  refine lv_isub hx hb dX12_rests_98 ?_
                  refine ztop (.int 0) (congrArg Value.int (by decide)) ?_
                  refine zcall2 (va_runS (As := [.int p1, .int p2, .int 1, .int 0]) (rest := []) ⟨hx, hb, hml, hown, hts⟩ (c_mt10 l D ct p1 p2 H.size) (va_cwS 4 hts gX12_rests_X12_travellerGets rfl rfl rfl (by decide +kernel) ⟨Nat.le_of_ble_eq_true rfl, Nat.le_of_ble_eq_true rfl⟩) (zpreS hK hw hS hA zZ.nil hN [] rfl rfl) rfl rfl hl.1 rfl (lv_room (Nat.le_of_ble_eq_true rfl)) dX12_rests_99 ⟨Nat.le_of_ble_eq_true rfl, Nat.le_of_ble_eq_true rfl⟩) hw hS hA [] [0] rfl rfl rfl rfl (fun _ H locs hp86 hw hS => ?_)
                  have hw : zPD D A [(h0, .inr (11, [.int 0, .int w_taped, .ref (y 0), .int w_size, .int w_place, .int w_begin, .int w_token, .long w_word, .int w_told, .int w_wrong, .ref (y 1), .ref (y 2), .ref (y 3), .ref (y 4), .ref (y 5), .ref (y 6), .ref (y 7), .ref (y 8), .ref (y 9), .ref (y 10), .ref (y 11), .ref (y 12), .int w_code, .int w_toldLines, .ref (y 13), .ref (y 14), .ref (y 15), .ref (y 16), .ref (y 17), .ref (y 18), .ref (y 19), .ref (y 20), .ref (y 21), .ref (y 22), .ref (y 23), .ref (y 24), .int w_given, .long w_fresh, .ref (y 25), .ref (y 26), .ref (y 27), .ref (y 28), .ref (y 29), .ref (y 30), .ref (y 31), .ref (y 32), .ref (y 33), .ref (y 34), .ref (y 35), .ref (y 36), .ref (y 37), .int w_done, .int w_moreAsked, .ref (y 38), .long w_g, .int w_gone, .int w_stopped]))] H := hw
                  refine zfr 102 [.int 0] rfl rfl ?_
                  refine lv_iload_n hx hb dX12_rests_102 rfl (lv_at hl 5 rfl) ?_
                  refine lv_iload_n hx hb dX12_rests_103 rfl (lv_at hl 6 rfl) ?_
                  refine lv_iload hx hb dX12_rests_104 (lv_at hl 1 rfl) ?_
                  refine lv_iload hx hb dX12_rests_106 (lv_at hl 0 rfl) ?_
                  refine zcall2 (va_runS (As := [.int p1, .int p2, .int 1, .int 1]) (rest := [.int 0]) ⟨hx, hb, hml, hown, hts⟩ (c_mt11 l D ct p1 p2 H.size) (va_cwS 4 hts gX12_rests_X12_travellerGets rfl rfl rfl (by decide +kernel) ⟨Nat.le_of_ble_eq_true rfl, Nat.le_of_ble_eq_true rfl⟩) (zpreS hK hw hS hA zZ.nil hN [] rfl rfl) rfl rfl hl.1 rfl (lv_room (Nat.le_of_ble_eq_true rfl)) dX12_rests_108 ⟨Nat.le_of_ble_eq_true rfl, Nat.le_of_ble_eq_true rfl⟩) hw hS hA [] [0] rfl rfl rfl rfl (fun _ H locs hp87 hw hS => ?_)
                  have hw : zPD D A [(h0, .inr (11, [.int 0, .int w_taped, .ref (y 0), .int w_size, .int w_place, .int w_begin, .int w_token, .long w_word, .int w_told, .int w_wrong, .ref (y 1), .ref (y 2), .ref (y 3), .ref (y 4), .ref (y 5), .ref (y 6), .ref (y 7), .ref (y 8), .ref (y 9), .ref (y 10), .ref (y 11), .ref (y 12), .int w_code, .int w_toldLines, .ref (y 13), .ref (y 14), .ref (y 15), .ref (y 16), .ref (y 17), .ref (y 18), .ref (y 19), .ref (y 20), .ref (y 21), .ref (y 22), .ref (y 23), .ref (y 24), .int w_given, .long w_fresh, .ref (y 25), .ref (y 26), .ref (y 27), .ref (y 28), .ref (y 29), .ref (y 30), .ref (y 31), .ref (y 32), .ref (y 33), .ref (y 34), .ref (y 35), .ref (y 36), .ref (y 37), .int w_done, .int w_moreAsked, .ref (y 38), .long w_g, .int w_gone, .int w_stopped]))] H := hw
                  refine zfr 111 [.int (-p1), .int 0] rfl rfl ?_
                  refine lv_icmp_le (tgt := 117) hx hb dX12_rests_111 (by decide) (fun c_88 => ?_) (fun c_88 => ?_)
                  · refine lv_iload hx hb dX12_rests_117 (lv_at hl 3 rfl) ?_
                    refine lv_iload_n hx hb dX12_rests_119 rfl (lv_at hl 7 rfl) ?_
                    refine lv_icmp_ne (tgt := 126) hx hb dX12_rests_120 (by decide) (fun c_89 => ?_) (fun c_89 => ?_)
                    · refine lv_iinc (v := 2) (lv' := [(4, .int 2), (7, .int 1), (6, .int 1), (5, .int 3), (0, .ref h0), (1, .int p1), (2, .int p2), (3, .int p3)]) hx hb dX12_rests_126 hl (k := 3) rfl (by decide) (by decide) rfl (fun ls hl => ?_)
                      refine lv_iinc (v := 4) (lv' := [(5, .int 4), (4, .int 2), (7, .int 1), (6, .int 1), (0, .ref h0), (1, .int p1), (2, .int p2), (3, .int p3)]) hx hb dX12_rests_129 hl (k := 3) rfl (by decide) (by decide) rfl (fun ls hl => ?_)
                      refine lv_goto (tgt := 50) hx hb dX12_rests_132 (by decide) ?_
                      refine lv_iload hx hb dX12_rests_50 (lv_at hl 0 rfl) ?_
                      refine lv_iconst (v := 4) hx hb dX12_rests_52 (by decide) ?_
                      refine lv_icmp_ge (tgt := 135) hx hb dX12_rests_53 (by decide) (fun _ => ?_) (fun h => absurd (by decide) h)
                      refine lv_aload_n hx hb dX12_rests_135 rfl (lv_at hl 4 rfl) ?_
                      refine lv_iload_n hx hb dX12_rests_136 rfl (lv_at hl 7 rfl) ?_
                      refine lv_iconst (v := (-1)) hx hb dX12_rests_137 (by decide) ?_
                      refine lv_icmp_ne (tgt := 145) hx hb dX12_rests_138 (by decide) (fun c_91 => ?_) (fun c_91 => ?_)
                      · refine lv_iconst (v := 1) hx hb dX12_rests_145 (by decide) ?_
                        refine zput (D := D) (ci := 11) (v := .int 1) (ty := .int) hx hb hts hiX12 tyX12 tyX12_ok nmX12 hown hK hw hS 0 rfl rfl 0 (by decide) (hts (.fieldLink RX12 129 "BeardPassModel" "thrown" "I") (by decide +kernel)) (fun _ h9 => h9) rfl (by decide +kernel) rfl rfl (Nat.le_of_ble_eq_true rfl) dX12_rests_146 [(h0, .inr (11, [.int 1, .int w_taped, .ref (y 0), .int w_size, .int w_place, .int w_begin, .int w_token, .long w_word, .int w_told, .int w_wrong, .ref (y 1), .ref (y 2), .ref (y 3), .ref (y 4), .ref (y 5), .ref (y 6), .ref (y 7), .ref (y 8), .ref (y 9), .ref (y 10), .ref (y 11), .ref (y 12), .int w_code, .int w_toldLines, .ref (y 13), .ref (y 14), .ref (y 15), .ref (y 16), .ref (y 17), .ref (y 18), .ref (y 19), .ref (y 20), .ref (y 21), .ref (y 22), .ref (y 23), .ref (y 24), .int w_given, .long w_fresh, .ref (y 25), .ref (y 26), .ref (y 27), .ref (y 28), .ref (y 29), .ref (y 30), .ref (y 31), .ref (y 32), .ref (y 33), .ref (y 34), .ref (y 35), .ref (y 36), .ref (y 37), .int w_done, .int w_moreAsked, .ref (y 38), .long w_g, .int w_gone, .int w_stopped]))] rfl (fun H locs hw hS => ?_)
                        refine lv_iload_n hx hb dX12_rests_149 rfl (lv_at hl 7 rfl) ?_
                        refine lv_iconst (v := (-1)) hx hb dX12_rests_150 (by decide) ?_
                        refine lv_icmp_ne (tgt := 159) hx hb dX12_rests_151 (by decide) (fun _ => ?_) (fun h => absurd h (c_91))
                        refine lv_iconst (v := 0) hx hb dX12_rests_159 (by decide) ?_
                        exact ziret hx hb hr (rfl) hlocks () (congrArg (fun z => some (Value.int z)) (zrv_none (by rw [zrs, if_neg c_2, if_neg c_5, if_pos (zsge (r := p1) (w := p2) c_7), zrq0, if_neg (show ¬ zat0 p2 = 0 by rw [zat0, if_pos c_16]; decide), if_neg c_17, zrq1, if_pos (show zat1 p1 p2 = 0 from (if_neg c_21).trans (if_neg c_48)), zrq3, if_neg (show ¬ zat3 p1 p2 = 0 by rw [zat3, if_neg c_81, if_pos c_88]; decide), if_neg c_89, zrq4, if_neg c_91]))) (trivial) hw [0] rfl (by rw [show zth p1 p2 p3 = 1 from zth_none (by rw [zrs, if_neg c_2, if_neg c_5, if_pos (zsge (r := p1) (w := p2) c_7), zrq0, if_neg (show ¬ zat0 p2 = 0 by rw [zat0, if_pos c_16]; decide), if_neg c_17, zrq1, if_pos (show zat1 p1 p2 = 0 from (if_neg c_21).trans (if_neg c_48)), zrq3, if_neg (show ¬ zat3 p1 p2 = 0 by rw [zat3, if_neg c_81, if_pos c_88]; decide), if_neg c_89, zrq4, if_neg c_91])]; rfl) hS (Nat.le_of_ble_eq_true rfl) (Nat.le_of_ble_eq_true rfl) dX12_rests_160
                      · refine lv_iconst (v := 0) hx hb dX12_rests_141 (by decide) ?_
                        refine lv_goto (tgt := 146) hx hb dX12_rests_142 (by decide) ?_
                        refine zput (D := D) (ci := 11) (v := .int 0) (ty := .int) hx hb hts hiX12 tyX12 tyX12_ok nmX12 hown hK hw hS 0 rfl rfl 0 (by decide) (hts (.fieldLink RX12 129 "BeardPassModel" "thrown" "I") (by decide +kernel)) (fun _ h9 => h9) rfl (by decide +kernel) rfl rfl (Nat.le_of_ble_eq_true rfl) dX12_rests_146 [(h0, .inr (11, [.int 0, .int w_taped, .ref (y 0), .int w_size, .int w_place, .int w_begin, .int w_token, .long w_word, .int w_told, .int w_wrong, .ref (y 1), .ref (y 2), .ref (y 3), .ref (y 4), .ref (y 5), .ref (y 6), .ref (y 7), .ref (y 8), .ref (y 9), .ref (y 10), .ref (y 11), .ref (y 12), .int w_code, .int w_toldLines, .ref (y 13), .ref (y 14), .ref (y 15), .ref (y 16), .ref (y 17), .ref (y 18), .ref (y 19), .ref (y 20), .ref (y 21), .ref (y 22), .ref (y 23), .ref (y 24), .int w_given, .long w_fresh, .ref (y 25), .ref (y 26), .ref (y 27), .ref (y 28), .ref (y 29), .ref (y 30), .ref (y 31), .ref (y 32), .ref (y 33), .ref (y 34), .ref (y 35), .ref (y 36), .ref (y 37), .int w_done, .int w_moreAsked, .ref (y 38), .long w_g, .int w_gone, .int w_stopped]))] rfl (fun H locs hw hS => ?_)
                        refine lv_iload_n hx hb dX12_rests_149 rfl (lv_at hl 7 rfl) ?_
                        refine lv_iconst (v := (-1)) hx hb dX12_rests_150 (by decide) ?_
                        refine lv_icmp_ne (tgt := 159) hx hb dX12_rests_151 (by decide) (fun h => absurd (c_91) h) (fun _ => ?_)
                        refine lv_iload hx hb dX12_rests_154 (lv_at hl 1 rfl) ?_
                        refine lv_goto (tgt := 160) hx hb dX12_rests_156 (by decide) ?_
                        exact ziret hx hb hr (rfl) hlocks () (congrArg (fun z => some (Value.int z)) (zrv_some (by rw [zrs, if_neg c_2, if_neg c_5, if_pos (zsge (r := p1) (w := p2) c_7), zrq0, if_neg (show ¬ zat0 p2 = 0 by rw [zat0, if_pos c_16]; decide), if_neg c_17, zrq1, if_pos (show zat1 p1 p2 = 0 from (if_neg c_21).trans (if_neg c_48)), zrq3, if_neg (show ¬ zat3 p1 p2 = 0 by rw [zat3, if_neg c_81, if_pos c_88]; decide), if_neg c_89, zrq4, if_pos c_91]))) (trivial) hw [0] rfl (by rw [show zth p1 p2 p3 = 0 from zth_some (v := 2) (by rw [zrs, if_neg c_2, if_neg c_5, if_pos (zsge (r := p1) (w := p2) c_7), zrq0, if_neg (show ¬ zat0 p2 = 0 by rw [zat0, if_pos c_16]; decide), if_neg c_17, zrq1, if_pos (show zat1 p1 p2 = 0 from (if_neg c_21).trans (if_neg c_48)), zrq3, if_neg (show ¬ zat3 p1 p2 = 0 by rw [zat3, if_neg c_81, if_pos c_88]; decide), if_neg c_89, zrq4, if_pos c_91])]; rfl) hS (Nat.le_of_ble_eq_true rfl) (Nat.le_of_ble_eq_true rfl) dX12_rests_160
                    · refine lv_iload hx hb dX12_rests_123 (lv_at hl 2 rfl) ?_
                      exact ziret hx hb hr (rfl) hlocks () (congrArg (fun z => some (Value.int z)) (zrv_some (by rw [zrs, if_neg c_2, if_neg c_5, if_pos (zsge (r := p1) (w := p2) c_7), zrq0, if_neg (show ¬ zat0 p2 = 0 by rw [zat0, if_pos c_16]; decide), if_neg c_17, zrq1, if_pos (show zat1 p1 p2 = 0 from (if_neg c_21).trans (if_neg c_48)), zrq3, if_neg (show ¬ zat3 p1 p2 = 0 by rw [zat3, if_neg c_81, if_pos c_88]; decide), if_pos c_89]))) (trivial) hw [0] rfl (by rw [show zth p1 p2 p3 = 0 from zth_some (v := 3) (by rw [zrs, if_neg c_2, if_neg c_5, if_pos (zsge (r := p1) (w := p2) c_7), zrq0, if_neg (show ¬ zat0 p2 = 0 by rw [zat0, if_pos c_16]; decide), if_neg c_17, zrq1, if_pos (show zat1 p1 p2 = 0 from (if_neg c_21).trans (if_neg c_48)), zrq3, if_neg (show ¬ zat3 p1 p2 = 0 by rw [zat3, if_neg c_81, if_pos c_88]; decide), if_pos c_89])]; rfl) hS (Nat.le_of_ble_eq_true rfl) (Nat.le_of_ble_eq_true rfl) dX12_rests_125
                  · refine lv_goto (tgt := 129) hx hb dX12_rests_114 (by decide) ?_
                    refine lv_iinc (v := 4) (lv' := [(5, .int 4), (7, .int 1), (6, .int 1), (4, .int 1), (0, .ref h0), (1, .int p1), (2, .int p2), (3, .int p3)]) hx hb dX12_rests_129 hl (k := 2) rfl (by decide) (by decide) rfl (fun ls hl => ?_)
                    refine lv_goto (tgt := 50) hx hb dX12_rests_132 (by decide) ?_
                    refine lv_iload hx hb dX12_rests_50 (lv_at hl 0 rfl) ?_
                    refine lv_iconst (v := 4) hx hb dX12_rests_52 (by decide) ?_
                    refine lv_icmp_ge (tgt := 135) hx hb dX12_rests_53 (by decide) (fun _ => ?_) (fun h => absurd (by decide) h)
                    refine lv_aload_n hx hb dX12_rests_135 rfl (lv_at hl 4 rfl) ?_
                    refine lv_iload_n hx hb dX12_rests_136 rfl (lv_at hl 7 rfl) ?_
                    refine lv_iconst (v := (-1)) hx hb dX12_rests_137 (by decide) ?_
                    refine lv_icmp_ne (tgt := 145) hx hb dX12_rests_138 (by decide) (fun c_95 => ?_) (fun c_95 => ?_)
                    · refine lv_iconst (v := 1) hx hb dX12_rests_145 (by decide) ?_
                      refine zput (D := D) (ci := 11) (v := .int 1) (ty := .int) hx hb hts hiX12 tyX12 tyX12_ok nmX12 hown hK hw hS 0 rfl rfl 0 (by decide) (hts (.fieldLink RX12 129 "BeardPassModel" "thrown" "I") (by decide +kernel)) (fun _ h9 => h9) rfl (by decide +kernel) rfl rfl (Nat.le_of_ble_eq_true rfl) dX12_rests_146 [(h0, .inr (11, [.int 1, .int w_taped, .ref (y 0), .int w_size, .int w_place, .int w_begin, .int w_token, .long w_word, .int w_told, .int w_wrong, .ref (y 1), .ref (y 2), .ref (y 3), .ref (y 4), .ref (y 5), .ref (y 6), .ref (y 7), .ref (y 8), .ref (y 9), .ref (y 10), .ref (y 11), .ref (y 12), .int w_code, .int w_toldLines, .ref (y 13), .ref (y 14), .ref (y 15), .ref (y 16), .ref (y 17), .ref (y 18), .ref (y 19), .ref (y 20), .ref (y 21), .ref (y 22), .ref (y 23), .ref (y 24), .int w_given, .long w_fresh, .ref (y 25), .ref (y 26), .ref (y 27), .ref (y 28), .ref (y 29), .ref (y 30), .ref (y 31), .ref (y 32), .ref (y 33), .ref (y 34), .ref (y 35), .ref (y 36), .ref (y 37), .int w_done, .int w_moreAsked, .ref (y 38), .long w_g, .int w_gone, .int w_stopped]))] rfl (fun H locs hw hS => ?_)
                      refine lv_iload_n hx hb dX12_rests_149 rfl (lv_at hl 7 rfl) ?_
                      refine lv_iconst (v := (-1)) hx hb dX12_rests_150 (by decide) ?_
                      refine lv_icmp_ne (tgt := 159) hx hb dX12_rests_151 (by decide) (fun _ => ?_) (fun h => absurd h (c_95))
                      refine lv_iconst (v := 0) hx hb dX12_rests_159 (by decide) ?_
                      exact ziret hx hb hr (rfl) hlocks () (congrArg (fun z => some (Value.int z)) (zrv_none (by rw [zrs, if_neg c_2, if_neg c_5, if_pos (zsge (r := p1) (w := p2) c_7), zrq0, if_neg (show ¬ zat0 p2 = 0 by rw [zat0, if_pos c_16]; decide), if_neg c_17, zrq1, if_pos (show zat1 p1 p2 = 0 from (if_neg c_21).trans (if_neg c_48)), zrq3, if_pos (show zat3 p1 p2 = 0 from (if_neg c_81).trans (if_neg c_88)), zrq4, if_neg c_95]))) (trivial) hw [0] rfl (by rw [show zth p1 p2 p3 = 1 from zth_none (by rw [zrs, if_neg c_2, if_neg c_5, if_pos (zsge (r := p1) (w := p2) c_7), zrq0, if_neg (show ¬ zat0 p2 = 0 by rw [zat0, if_pos c_16]; decide), if_neg c_17, zrq1, if_pos (show zat1 p1 p2 = 0 from (if_neg c_21).trans (if_neg c_48)), zrq3, if_pos (show zat3 p1 p2 = 0 from (if_neg c_81).trans (if_neg c_88)), zrq4, if_neg c_95])]; rfl) hS (Nat.le_of_ble_eq_true rfl) (Nat.le_of_ble_eq_true rfl) dX12_rests_160
                    · refine lv_iconst (v := 0) hx hb dX12_rests_141 (by decide) ?_
                      refine lv_goto (tgt := 146) hx hb dX12_rests_142 (by decide) ?_
                      refine zput (D := D) (ci := 11) (v := .int 0) (ty := .int) hx hb hts hiX12 tyX12 tyX12_ok nmX12 hown hK hw hS 0 rfl rfl 0 (by decide) (hts (.fieldLink RX12 129 "BeardPassModel" "thrown" "I") (by decide +kernel)) (fun _ h9 => h9) rfl (by decide +kernel) rfl rfl (Nat.le_of_ble_eq_true rfl) dX12_rests_146 [(h0, .inr (11, [.int 0, .int w_taped, .ref (y 0), .int w_size, .int w_place, .int w_begin, .int w_token, .long w_word, .int w_told, .int w_wrong, .ref (y 1), .ref (y 2), .ref (y 3), .ref (y 4), .ref (y 5), .ref (y 6), .ref (y 7), .ref (y 8), .ref (y 9), .ref (y 10), .ref (y 11), .ref (y 12), .int w_code, .int w_toldLines, .ref (y 13), .ref (y 14), .ref (y 15), .ref (y 16), .ref (y 17), .ref (y 18), .ref (y 19), .ref (y 20), .ref (y 21), .ref (y 22), .ref (y 23), .ref (y 24), .int w_given, .long w_fresh, .ref (y 25), .ref (y 26), .ref (y 27), .ref (y 28), .ref (y 29), .ref (y 30), .ref (y 31), .ref (y 32), .ref (y 33), .ref (y 34), .ref (y 35), .ref (y 36), .ref (y 37), .int w_done, .int w_moreAsked, .ref (y 38), .long w_g, .int w_gone, .int w_stopped]))] rfl (fun H locs hw hS => ?_)
                      refine lv_iload_n hx hb dX12_rests_149 rfl (lv_at hl 7 rfl) ?_
                      refine lv_iconst (v := (-1)) hx hb dX12_rests_150 (by decide) ?_
                      refine lv_icmp_ne (tgt := 159) hx hb dX12_rests_151 (by decide) (fun h => absurd (c_95) h) (fun _ => ?_)
                      refine lv_iload hx hb dX12_rests_154 (lv_at hl 3 rfl) ?_
                      refine lv_goto (tgt := 160) hx hb dX12_rests_156 (by decide) ?_
                      exact ziret hx hb hr (rfl) hlocks () (congrArg (fun z => some (Value.int z)) (zrv_some (by rw [zrs, if_neg c_2, if_neg c_5, if_pos (zsge (r := p1) (w := p2) c_7), zrq0, if_neg (show ¬ zat0 p2 = 0 by rw [zat0, if_pos c_16]; decide), if_neg c_17, zrq1, if_pos (show zat1 p1 p2 = 0 from (if_neg c_21).trans (if_neg c_48)), zrq3, if_pos (show zat3 p1 p2 = 0 from (if_neg c_81).trans (if_neg c_88)), zrq4, if_pos c_95]))) (trivial) hw [0] rfl (by rw [show zth p1 p2 p3 = 0 from zth_some (v := 1) (by rw [zrs, if_neg c_2, if_neg c_5, if_pos (zsge (r := p1) (w := p2) c_7), zrq0, if_neg (show ¬ zat0 p2 = 0 by rw [zat0, if_pos c_16]; decide), if_neg c_17, zrq1, if_pos (show zat1 p1 p2 = 0 from (if_neg c_21).trans (if_neg c_48)), zrq3, if_pos (show zat3 p1 p2 = 0 from (if_neg c_81).trans (if_neg c_88)), zrq4, if_pos c_95])]; rfl) hS (Nat.le_of_ble_eq_true rfl) (Nat.le_of_ble_eq_true rfl) dX12_rests_160
          · refine lv_iload hx hb dX12_rests_123 (lv_at hl 2 rfl) ?_
            exact ziret hx hb hr (rfl) hlocks () (congrArg (fun z => some (Value.int z)) (zrv_some (by rw [zrs, if_neg c_2, if_neg c_5, if_pos (zsge (r := p1) (w := p2) c_7), zrq0, if_neg (show ¬ zat0 p2 = 0 by rw [zat0, if_pos c_16]; decide), if_pos c_17]))) (trivial) hw [0] rfl (by rw [show zth p1 p2 p3 = 0 from zth_some (v := 0) (by rw [zrs, if_neg c_2, if_neg c_5, if_pos (zsge (r := p1) (w := p2) c_7), zrq0, if_neg (show ¬ zat0 p2 = 0 by rw [zat0, if_pos c_16]; decide), if_pos c_17])]; rfl) hS (Nat.le_of_ble_eq_true rfl) (Nat.le_of_ble_eq_true rfl) dX12_rests_125
        · refine lv_goto (tgt := 129) hx hb dX12_rests_114 (by decide) ?_
          refine lv_iinc (v := 1) (lv' := [(5, .int 1), (7, .int 0), (6, .int 0), (4, .int 0), (0, .ref h0), (1, .int p1), (2, .int p2), (3, .int p3)]) hx hb dX12_rests_129 hl (k := 2) rfl (by decide) (by decide) rfl (fun ls hl => ?_)
          refine lv_goto (tgt := 50) hx hb dX12_rests_132 (by decide) ?_
          refine lv_iload hx hb dX12_rests_50 (lv_at hl 0 rfl) ?_
          refine lv_iconst (v := 4) hx hb dX12_rests_52 (by decide) ?_
          refine lv_icmp_ge (tgt := 135) hx hb dX12_rests_53 (by decide) (fun h => absurd h (by decide)) (fun _ => ?_)
          refine lv_iload hx hb dX12_rests_56 (lv_at hl 0 rfl) ?_
          refine lv_iconst (v := 2) hx hb dX12_rests_58 (by decide) ?_
          refine lv_idiv hx hb dX12_rests_59 (by decide) ?_
          refine ztop (.int 0) (congrArg Value.int (by decide)) ?_
          refine lv_istore (lv' := [(6, .int 0), (5, .int 1), (7, .int 0), (4, .int 0), (0, .ref h0), (1, .int p1), (2, .int p2), (3, .int p3)]) hx hb dX12_rests_60 hl (by decide) rfl (fun ls hl => ?_)
          refine lv_iload hx hb dX12_rests_62 (lv_at hl 1 rfl) ?_
          refine lv_iconst (v := 2) hx hb dX12_rests_64 (by decide) ?_
          refine lv_irem hx hb dX12_rests_65 (by decide) ?_
          refine ztop (.int 1) (congrArg Value.int (by decide)) ?_
          refine lv_istore (lv' := [(7, .int 1), (6, .int 0), (5, .int 1), (4, .int 0), (0, .ref h0), (1, .int p1), (2, .int p2), (3, .int p3)]) hx hb dX12_rests_66 hl (by decide) rfl (fun ls hl => ?_)
          refine lv_iload_n hx hb dX12_rests_68 rfl (lv_at hl 5 rfl) ?_
          refine lv_iload_n hx hb dX12_rests_69 rfl (lv_at hl 6 rfl) ?_
          refine lv_iconst (v := 1) hx hb dX12_rests_70 (by decide) ?_
          refine lv_iload hx hb dX12_rests_71 (lv_at hl 1 rfl) ?_
          refine lv_isub hx hb dX12_rests_73 ?_
          refine ztop (.int 1) (congrArg Value.int (by decide)) ?_
          refine lv_iload hx hb dX12_rests_74 (lv_at hl 0 rfl) ?_
          refine zcall2 (va_runS (As := [.int p1, .int p2, .int 1, .int 1]) (rest := []) ⟨hx, hb, hml, hown, hts⟩ (c_mg11 l D ct p1 p2 H.size) (va_cwS 4 hts gX12_rests_X12_guardGets rfl rfl rfl (by decide +kernel) ⟨Nat.le_of_ble_eq_true rfl, Nat.le_of_ble_eq_true rfl⟩) (zpreS hK hw hS hA zZ.nil hN [] rfl rfl) rfl rfl hl.1 rfl (lv_room (Nat.le_of_ble_eq_true rfl)) dX12_rests_76 ⟨Nat.le_of_ble_eq_true rfl, Nat.le_of_ble_eq_true rfl⟩) hw hS hA [] [0] rfl rfl rfl rfl (fun _ H locs hp99 hw hS => ?_)
          have hw : zPD D A [(h0, .inr (11, [.int 0, .int w_taped, .ref (y 0), .int w_size, .int w_place, .int w_begin, .int w_token, .long w_word, .int w_told, .int w_wrong, .ref (y 1), .ref (y 2), .ref (y 3), .ref (y 4), .ref (y 5), .ref (y 6), .ref (y 7), .ref (y 8), .ref (y 9), .ref (y 10), .ref (y 11), .ref (y 12), .int w_code, .int w_toldLines, .ref (y 13), .ref (y 14), .ref (y 15), .ref (y 16), .ref (y 17), .ref (y 18), .ref (y 19), .ref (y 20), .ref (y 21), .ref (y 22), .ref (y 23), .ref (y 24), .int w_given, .long w_fresh, .ref (y 25), .ref (y 26), .ref (y 27), .ref (y 28), .ref (y 29), .ref (y 30), .ref (y 31), .ref (y 32), .ref (y 33), .ref (y 34), .ref (y 35), .ref (y 36), .ref (y 37), .int w_done, .int w_moreAsked, .ref (y 38), .long w_g, .int w_gone, .int w_stopped]))] H := hw
          refine zfr 79 [.int p1] rfl rfl ?_
          refine lv_iload_n hx hb dX12_rests_79 rfl (lv_at hl 5 rfl) ?_
          refine lv_iload_n hx hb dX12_rests_80 rfl (lv_at hl 6 rfl) ?_
          refine lv_iload hx hb dX12_rests_81 (lv_at hl 1 rfl) ?_
          refine lv_iload hx hb dX12_rests_83 (lv_at hl 0 rfl) ?_
          refine zcall2 (va_runS (As := [.int p1, .int p2, .int 0, .int 1]) (rest := [.int p1]) ⟨hx, hb, hml, hown, hts⟩ (c_mg01 l D ct p1 p2 H.size) (va_cwS 4 hts gX12_rests_X12_guardGets rfl rfl rfl (by decide +kernel) ⟨Nat.le_of_ble_eq_true rfl, Nat.le_of_ble_eq_true rfl⟩) (zpreS hK hw hS hA zZ.nil hN [] rfl rfl) rfl rfl hl.1 rfl (lv_room (Nat.le_of_ble_eq_true rfl)) dX12_rests_85 ⟨Nat.le_of_ble_eq_true rfl, Nat.le_of_ble_eq_true rfl⟩) hw hS hA [] [0] rfl rfl rfl rfl (fun _ H locs hp100 hw hS => ?_)
          have hw : zPD D A [(h0, .inr (11, [.int 0, .int w_taped, .ref (y 0), .int w_size, .int w_place, .int w_begin, .int w_token, .long w_word, .int w_told, .int w_wrong, .ref (y 1), .ref (y 2), .ref (y 3), .ref (y 4), .ref (y 5), .ref (y 6), .ref (y 7), .ref (y 8), .ref (y 9), .ref (y 10), .ref (y 11), .ref (y 12), .int w_code, .int w_toldLines, .ref (y 13), .ref (y 14), .ref (y 15), .ref (y 16), .ref (y 17), .ref (y 18), .ref (y 19), .ref (y 20), .ref (y 21), .ref (y 22), .ref (y 23), .ref (y 24), .int w_given, .long w_fresh, .ref (y 25), .ref (y 26), .ref (y 27), .ref (y 28), .ref (y 29), .ref (y 30), .ref (y 31), .ref (y 32), .ref (y 33), .ref (y 34), .ref (y 35), .ref (y 36), .ref (y 37), .int w_done, .int w_moreAsked, .ref (y 38), .long w_g, .int w_gone, .int w_stopped]))] H := hw
          refine zfr 88 [.int (-p2), .int p1] rfl rfl ?_
          refine lv_icmp_gt (tgt := 129) hx hb dX12_rests_88 (by decide) (fun c_101 => ?_) (fun c_101 => ?_)
          · refine lv_iinc (v := 2) (lv' := [(5, .int 2), (7, .int 1), (6, .int 0), (4, .int 0), (0, .ref h0), (1, .int p1), (2, .int p2), (3, .int p3)]) hx hb dX12_rests_129 hl (k := 2) rfl (by decide) (by decide) rfl (fun ls hl => ?_)
            refine lv_goto (tgt := 50) hx hb dX12_rests_132 (by decide) ?_
            refine lv_iload hx hb dX12_rests_50 (lv_at hl 0 rfl) ?_
            refine lv_iconst (v := 4) hx hb dX12_rests_52 (by decide) ?_
            refine lv_icmp_ge (tgt := 135) hx hb dX12_rests_53 (by decide) (fun h => absurd h (by decide)) (fun _ => ?_)
            refine lv_iload hx hb dX12_rests_56 (lv_at hl 0 rfl) ?_
            refine lv_iconst (v := 2) hx hb dX12_rests_58 (by decide) ?_
            refine lv_idiv hx hb dX12_rests_59 (by decide) ?_
            refine ztop (.int 1) (congrArg Value.int (by decide)) ?_
            refine lv_istore (lv' := [(6, .int 1), (5, .int 2), (7, .int 1), (4, .int 0), (0, .ref h0), (1, .int p1), (2, .int p2), (3, .int p3)]) hx hb dX12_rests_60 hl (by decide) rfl (fun ls hl => ?_)
            refine lv_iload hx hb dX12_rests_62 (lv_at hl 1 rfl) ?_
            refine lv_iconst (v := 2) hx hb dX12_rests_64 (by decide) ?_
            refine lv_irem hx hb dX12_rests_65 (by decide) ?_
            refine ztop (.int 0) (congrArg Value.int (by decide)) ?_
            refine lv_istore (lv' := [(7, .int 0), (6, .int 1), (5, .int 2), (4, .int 0), (0, .ref h0), (1, .int p1), (2, .int p2), (3, .int p3)]) hx hb dX12_rests_66 hl (by decide) rfl (fun ls hl => ?_)
            refine lv_iload_n hx hb dX12_rests_68 rfl (lv_at hl 5 rfl) ?_
            refine lv_iload_n hx hb dX12_rests_69 rfl (lv_at hl 6 rfl) ?_
            refine lv_iconst (v := 1) hx hb dX12_rests_70 (by decide) ?_
            refine lv_iload hx hb dX12_rests_71 (lv_at hl 1 rfl) ?_
            refine lv_isub hx hb dX12_rests_73 ?_
            refine ztop (.int 0) (congrArg Value.int (by decide)) ?_
            refine lv_iload hx hb dX12_rests_74 (lv_at hl 0 rfl) ?_
            refine zcall2 (va_runS (As := [.int p1, .int p2, .int 0, .int 0]) (rest := []) ⟨hx, hb, hml, hown, hts⟩ (c_mg00 l D ct p1 p2 H.size) (va_cwS 4 hts gX12_rests_X12_guardGets rfl rfl rfl (by decide +kernel) ⟨Nat.le_of_ble_eq_true rfl, Nat.le_of_ble_eq_true rfl⟩) (zpreS hK hw hS hA zZ.nil hN [] rfl rfl) rfl rfl hl.1 rfl (lv_room (Nat.le_of_ble_eq_true rfl)) dX12_rests_76 ⟨Nat.le_of_ble_eq_true rfl, Nat.le_of_ble_eq_true rfl⟩) hw hS hA [] [0] rfl rfl rfl rfl (fun _ H locs hp103 hw hS => ?_)
            have hw : zPD D A [(h0, .inr (11, [.int 0, .int w_taped, .ref (y 0), .int w_size, .int w_place, .int w_begin, .int w_token, .long w_word, .int w_told, .int w_wrong, .ref (y 1), .ref (y 2), .ref (y 3), .ref (y 4), .ref (y 5), .ref (y 6), .ref (y 7), .ref (y 8), .ref (y 9), .ref (y 10), .ref (y 11), .ref (y 12), .int w_code, .int w_toldLines, .ref (y 13), .ref (y 14), .ref (y 15), .ref (y 16), .ref (y 17), .ref (y 18), .ref (y 19), .ref (y 20), .ref (y 21), .ref (y 22), .ref (y 23), .ref (y 24), .int w_given, .long w_fresh, .ref (y 25), .ref (y 26), .ref (y 27), .ref (y 28), .ref (y 29), .ref (y 30), .ref (y 31), .ref (y 32), .ref (y 33), .ref (y 34), .ref (y 35), .ref (y 36), .ref (y 37), .int w_done, .int w_moreAsked, .ref (y 38), .long w_g, .int w_gone, .int w_stopped]))] H := hw
            refine zfr 79 [.int 0] rfl rfl ?_
            refine lv_iload_n hx hb dX12_rests_79 rfl (lv_at hl 5 rfl) ?_
            refine lv_iload_n hx hb dX12_rests_80 rfl (lv_at hl 6 rfl) ?_
            refine lv_iload hx hb dX12_rests_81 (lv_at hl 1 rfl) ?_
            refine lv_iload hx hb dX12_rests_83 (lv_at hl 0 rfl) ?_
            refine zcall2 (va_runS (As := [.int p1, .int p2, .int 1, .int 0]) (rest := [.int 0]) ⟨hx, hb, hml, hown, hts⟩ (c_mg10 l D ct p1 p2 H.size) (va_cwS 4 hts gX12_rests_X12_guardGets rfl rfl rfl (by decide +kernel) ⟨Nat.le_of_ble_eq_true rfl, Nat.le_of_ble_eq_true rfl⟩) (zpreS hK hw hS hA zZ.nil hN [] rfl rfl) rfl rfl hl.1 rfl (lv_room (Nat.le_of_ble_eq_true rfl)) dX12_rests_85 ⟨Nat.le_of_ble_eq_true rfl, Nat.le_of_ble_eq_true rfl⟩) hw hS hA [] [0] rfl rfl rfl rfl (fun _ H locs hp104 hw hS => ?_)
            have hw : zPD D A [(h0, .inr (11, [.int 0, .int w_taped, .ref (y 0), .int w_size, .int w_place, .int w_begin, .int w_token, .long w_word, .int w_told, .int w_wrong, .ref (y 1), .ref (y 2), .ref (y 3), .ref (y 4), .ref (y 5), .ref (y 6), .ref (y 7), .ref (y 8), .ref (y 9), .ref (y 10), .ref (y 11), .ref (y 12), .int w_code, .int w_toldLines, .ref (y 13), .ref (y 14), .ref (y 15), .ref (y 16), .ref (y 17), .ref (y 18), .ref (y 19), .ref (y 20), .ref (y 21), .ref (y 22), .ref (y 23), .ref (y 24), .int w_given, .long w_fresh, .ref (y 25), .ref (y 26), .ref (y 27), .ref (y 28), .ref (y 29), .ref (y 30), .ref (y 31), .ref (y 32), .ref (y 33), .ref (y 34), .ref (y 35), .ref (y 36), .ref (y 37), .int w_done, .int w_moreAsked, .ref (y 38), .long w_g, .int w_gone, .int w_stopped]))] H := hw
            refine zfr 88 [.int (-1), .int 0] rfl rfl ?_
            refine lv_icmp_gt (tgt := 129) hx hb dX12_rests_88 (by decide) (fun _ => ?_) (fun h => absurd (by decide) h)
            refine lv_iinc (v := 3) (lv' := [(5, .int 3), (7, .int 0), (6, .int 1), (4, .int 0), (0, .ref h0), (1, .int p1), (2, .int p2), (3, .int p3)]) hx hb dX12_rests_129 hl (k := 2) rfl (by decide) (by decide) rfl (fun ls hl => ?_)
            refine lv_goto (tgt := 50) hx hb dX12_rests_132 (by decide) ?_
            refine lv_iload hx hb dX12_rests_50 (lv_at hl 0 rfl) ?_
            refine lv_iconst (v := 4) hx hb dX12_rests_52 (by decide) ?_
            refine lv_icmp_ge (tgt := 135) hx hb dX12_rests_53 (by decide) (fun h => absurd h (by decide)) (fun _ => ?_)
            refine lv_iload hx hb dX12_rests_56 (lv_at hl 0 rfl) ?_
            refine lv_iconst (v := 2) hx hb dX12_rests_58 (by decide) ?_
            refine lv_idiv hx hb dX12_rests_59 (by decide) ?_
            refine ztop (.int 1) (congrArg Value.int (by decide)) ?_
            refine lv_istore (lv' := [(6, .int 1), (5, .int 3), (7, .int 0), (4, .int 0), (0, .ref h0), (1, .int p1), (2, .int p2), (3, .int p3)]) hx hb dX12_rests_60 hl (by decide) rfl (fun ls hl => ?_)
            refine lv_iload hx hb dX12_rests_62 (lv_at hl 1 rfl) ?_
            refine lv_iconst (v := 2) hx hb dX12_rests_64 (by decide) ?_
            refine lv_irem hx hb dX12_rests_65 (by decide) ?_
            refine ztop (.int 1) (congrArg Value.int (by decide)) ?_
            refine lv_istore (lv' := [(7, .int 1), (6, .int 1), (5, .int 3), (4, .int 0), (0, .ref h0), (1, .int p1), (2, .int p2), (3, .int p3)]) hx hb dX12_rests_66 hl (by decide) rfl (fun ls hl => ?_)
            refine lv_iload_n hx hb dX12_rests_68 rfl (lv_at hl 5 rfl) ?_
            refine lv_iload_n hx hb dX12_rests_69 rfl (lv_at hl 6 rfl) ?_
            refine lv_iconst (v := 1) hx hb dX12_rests_70 (by decide) ?_
            refine lv_iload hx hb dX12_rests_71 (lv_at hl 1 rfl) ?_
            refine lv_isub hx hb dX12_rests_73 ?_
            refine ztop (.int 0) (congrArg Value.int (by decide)) ?_
            refine lv_iload hx hb dX12_rests_74 (lv_at hl 0 rfl) ?_
            refine zcall2 (va_runS (As := [.int p1, .int p2, .int 0, .int 1]) (rest := []) ⟨hx, hb, hml, hown, hts⟩ (c_mg01 l D ct p1 p2 H.size) (va_cwS 4 hts gX12_rests_X12_guardGets rfl rfl rfl (by decide +kernel) ⟨Nat.le_of_ble_eq_true rfl, Nat.le_of_ble_eq_true rfl⟩) (zpreS hK hw hS hA zZ.nil hN [] rfl rfl) rfl rfl hl.1 rfl (lv_room (Nat.le_of_ble_eq_true rfl)) dX12_rests_76 ⟨Nat.le_of_ble_eq_true rfl, Nat.le_of_ble_eq_true rfl⟩) hw hS hA [] [0] rfl rfl rfl rfl (fun _ H locs hp107 hw hS => ?_)
            have hw : zPD D A [(h0, .inr (11, [.int 0, .int w_taped, .ref (y 0), .int w_size, .int w_place, .int w_begin, .int w_token, .long w_word, .int w_told, .int w_wrong, .ref (y 1), .ref (y 2), .ref (y 3), .ref (y 4), .ref (y 5), .ref (y 6), .ref (y 7), .ref (y 8), .ref (y 9), .ref (y 10), .ref (y 11), .ref (y 12), .int w_code, .int w_toldLines, .ref (y 13), .ref (y 14), .ref (y 15), .ref (y 16), .ref (y 17), .ref (y 18), .ref (y 19), .ref (y 20), .ref (y 21), .ref (y 22), .ref (y 23), .ref (y 24), .int w_given, .long w_fresh, .ref (y 25), .ref (y 26), .ref (y 27), .ref (y 28), .ref (y 29), .ref (y 30), .ref (y 31), .ref (y 32), .ref (y 33), .ref (y 34), .ref (y 35), .ref (y 36), .ref (y 37), .int w_done, .int w_moreAsked, .ref (y 38), .long w_g, .int w_gone, .int w_stopped]))] H := hw
            refine zfr 79 [.int (-p2)] rfl rfl ?_
            refine lv_iload_n hx hb dX12_rests_79 rfl (lv_at hl 5 rfl) ?_
            refine lv_iload_n hx hb dX12_rests_80 rfl (lv_at hl 6 rfl) ?_
            refine lv_iload hx hb dX12_rests_81 (lv_at hl 1 rfl) ?_
            refine lv_iload hx hb dX12_rests_83 (lv_at hl 0 rfl) ?_
            refine zcall2 (va_runS (As := [.int p1, .int p2, .int 1, .int 1]) (rest := [.int (-p2)]) ⟨hx, hb, hml, hown, hts⟩ (c_mg11 l D ct p1 p2 H.size) (va_cwS 4 hts gX12_rests_X12_guardGets rfl rfl rfl (by decide +kernel) ⟨Nat.le_of_ble_eq_true rfl, Nat.le_of_ble_eq_true rfl⟩) (zpreS hK hw hS hA zZ.nil hN [] rfl rfl) rfl rfl hl.1 rfl (lv_room (Nat.le_of_ble_eq_true rfl)) dX12_rests_85 ⟨Nat.le_of_ble_eq_true rfl, Nat.le_of_ble_eq_true rfl⟩) hw hS hA [] [0] rfl rfl rfl rfl (fun _ H locs hp108 hw hS => ?_)
            have hw : zPD D A [(h0, .inr (11, [.int 0, .int w_taped, .ref (y 0), .int w_size, .int w_place, .int w_begin, .int w_token, .long w_word, .int w_told, .int w_wrong, .ref (y 1), .ref (y 2), .ref (y 3), .ref (y 4), .ref (y 5), .ref (y 6), .ref (y 7), .ref (y 8), .ref (y 9), .ref (y 10), .ref (y 11), .ref (y 12), .int w_code, .int w_toldLines, .ref (y 13), .ref (y 14), .ref (y 15), .ref (y 16), .ref (y 17), .ref (y 18), .ref (y 19), .ref (y 20), .ref (y 21), .ref (y 22), .ref (y 23), .ref (y 24), .int w_given, .long w_fresh, .ref (y 25), .ref (y 26), .ref (y 27), .ref (y 28), .ref (y 29), .ref (y 30), .ref (y 31), .ref (y 32), .ref (y 33), .ref (y 34), .ref (y 35), .ref (y 36), .ref (y 37), .int w_done, .int w_moreAsked, .ref (y 38), .long w_g, .int w_gone, .int w_stopped]))] H := hw
            refine zfr 88 [.int p1, .int (-p2)] rfl rfl ?_
            refine lv_icmp_gt (tgt := 129) hx hb dX12_rests_88 (by decide) (fun c_109 => ?_) (fun c_109 => ?_)
            · refine lv_iinc (v := 4) (lv' := [(5, .int 4), (7, .int 1), (6, .int 1), (4, .int 0), (0, .ref h0), (1, .int p1), (2, .int p2), (3, .int p3)]) hx hb dX12_rests_129 hl (k := 2) rfl (by decide) (by decide) rfl (fun ls hl => ?_)
              refine lv_goto (tgt := 50) hx hb dX12_rests_132 (by decide) ?_
              refine lv_iload hx hb dX12_rests_50 (lv_at hl 0 rfl) ?_
              refine lv_iconst (v := 4) hx hb dX12_rests_52 (by decide) ?_
              refine lv_icmp_ge (tgt := 135) hx hb dX12_rests_53 (by decide) (fun _ => ?_) (fun h => absurd (by decide) h)
              refine lv_aload_n hx hb dX12_rests_135 rfl (lv_at hl 4 rfl) ?_
              refine lv_iload_n hx hb dX12_rests_136 rfl (lv_at hl 7 rfl) ?_
              refine lv_iconst (v := (-1)) hx hb dX12_rests_137 (by decide) ?_
              refine lv_icmp_ne (tgt := 145) hx hb dX12_rests_138 (by decide) (fun c_111 => ?_) (fun c_111 => ?_)
              · refine lv_iconst (v := 1) hx hb dX12_rests_145 (by decide) ?_
                refine zput (D := D) (ci := 11) (v := .int 1) (ty := .int) hx hb hts hiX12 tyX12 tyX12_ok nmX12 hown hK hw hS 0 rfl rfl 0 (by decide) (hts (.fieldLink RX12 129 "BeardPassModel" "thrown" "I") (by decide +kernel)) (fun _ h9 => h9) rfl (by decide +kernel) rfl rfl (Nat.le_of_ble_eq_true rfl) dX12_rests_146 [(h0, .inr (11, [.int 1, .int w_taped, .ref (y 0), .int w_size, .int w_place, .int w_begin, .int w_token, .long w_word, .int w_told, .int w_wrong, .ref (y 1), .ref (y 2), .ref (y 3), .ref (y 4), .ref (y 5), .ref (y 6), .ref (y 7), .ref (y 8), .ref (y 9), .ref (y 10), .ref (y 11), .ref (y 12), .int w_code, .int w_toldLines, .ref (y 13), .ref (y 14), .ref (y 15), .ref (y 16), .ref (y 17), .ref (y 18), .ref (y 19), .ref (y 20), .ref (y 21), .ref (y 22), .ref (y 23), .ref (y 24), .int w_given, .long w_fresh, .ref (y 25), .ref (y 26), .ref (y 27), .ref (y 28), .ref (y 29), .ref (y 30), .ref (y 31), .ref (y 32), .ref (y 33), .ref (y 34), .ref (y 35), .ref (y 36), .ref (y 37), .int w_done, .int w_moreAsked, .ref (y 38), .long w_g, .int w_gone, .int w_stopped]))] rfl (fun H locs hw hS => ?_)
                refine lv_iload_n hx hb dX12_rests_149 rfl (lv_at hl 7 rfl) ?_
                refine lv_iconst (v := (-1)) hx hb dX12_rests_150 (by decide) ?_
                refine lv_icmp_ne (tgt := 159) hx hb dX12_rests_151 (by decide) (fun _ => ?_) (fun h => absurd h (c_111))
                refine lv_iconst (v := 0) hx hb dX12_rests_159 (by decide) ?_
                exact ziret hx hb hr (rfl) hlocks () (congrArg (fun z => some (Value.int z)) (zrv_none (by rw [zrs, if_neg c_2, if_neg c_5, if_pos (zsge (r := p1) (w := p2) c_7), zrq0, if_pos (show zat0 p2 = 0 from if_neg c_16), zrq1, if_pos (show zat1 p1 p2 = 0 from if_pos c_101), zrq3, if_pos (show zat3 p1 p2 = 0 from if_pos c_109), zrq4, if_neg c_111]))) (trivial) hw [0] rfl (by rw [show zth p1 p2 p3 = 1 from zth_none (by rw [zrs, if_neg c_2, if_neg c_5, if_pos (zsge (r := p1) (w := p2) c_7), zrq0, if_pos (show zat0 p2 = 0 from if_neg c_16), zrq1, if_pos (show zat1 p1 p2 = 0 from if_pos c_101), zrq3, if_pos (show zat3 p1 p2 = 0 from if_pos c_109), zrq4, if_neg c_111])]; rfl) hS (Nat.le_of_ble_eq_true rfl) (Nat.le_of_ble_eq_true rfl) dX12_rests_160
              · refine lv_iconst (v := 0) hx hb dX12_rests_141 (by decide) ?_
                refine lv_goto (tgt := 146) hx hb dX12_rests_142 (by decide) ?_
                refine zput (D := D) (ci := 11) (v := .int 0) (ty := .int) hx hb hts hiX12 tyX12 tyX12_ok nmX12 hown hK hw hS 0 rfl rfl 0 (by decide) (hts (.fieldLink RX12 129 "BeardPassModel" "thrown" "I") (by decide +kernel)) (fun _ h9 => h9) rfl (by decide +kernel) rfl rfl (Nat.le_of_ble_eq_true rfl) dX12_rests_146 [(h0, .inr (11, [.int 0, .int w_taped, .ref (y 0), .int w_size, .int w_place, .int w_begin, .int w_token, .long w_word, .int w_told, .int w_wrong, .ref (y 1), .ref (y 2), .ref (y 3), .ref (y 4), .ref (y 5), .ref (y 6), .ref (y 7), .ref (y 8), .ref (y 9), .ref (y 10), .ref (y 11), .ref (y 12), .int w_code, .int w_toldLines, .ref (y 13), .ref (y 14), .ref (y 15), .ref (y 16), .ref (y 17), .ref (y 18), .ref (y 19), .ref (y 20), .ref (y 21), .ref (y 22), .ref (y 23), .ref (y 24), .int w_given, .long w_fresh, .ref (y 25), .ref (y 26), .ref (y 27), .ref (y 28), .ref (y 29), .ref (y 30), .ref (y 31), .ref (y 32), .ref (y 33), .ref (y 34), .ref (y 35), .ref (y 36), .ref (y 37), .int w_done, .int w_moreAsked, .ref (y 38), .long w_g, .int w_gone, .int w_stopped]))] rfl (fun H locs hw hS => ?_)
                refine lv_iload_n hx hb dX12_rests_149 rfl (lv_at hl 7 rfl) ?_
                refine lv_iconst (v := (-1)) hx hb dX12_rests_150 (by decide) ?_
                refine lv_icmp_ne (tgt := 159) hx hb dX12_rests_151 (by decide) (fun h => absurd (c_111) h) (fun _ => ?_)
                refine lv_iload hx hb dX12_rests_154 (lv_at hl 3 rfl) ?_
                refine lv_goto (tgt := 160) hx hb dX12_rests_156 (by decide) ?_
                exact ziret hx hb hr (rfl) hlocks () (congrArg (fun z => some (Value.int z)) (zrv_some (by rw [zrs, if_neg c_2, if_neg c_5, if_pos (zsge (r := p1) (w := p2) c_7), zrq0, if_pos (show zat0 p2 = 0 from if_neg c_16), zrq1, if_pos (show zat1 p1 p2 = 0 from if_pos c_101), zrq3, if_pos (show zat3 p1 p2 = 0 from if_pos c_109), zrq4, if_pos c_111]))) (trivial) hw [0] rfl (by rw [show zth p1 p2 p3 = 0 from zth_some (v := 0) (by rw [zrs, if_neg c_2, if_neg c_5, if_pos (zsge (r := p1) (w := p2) c_7), zrq0, if_pos (show zat0 p2 = 0 from if_neg c_16), zrq1, if_pos (show zat1 p1 p2 = 0 from if_pos c_101), zrq3, if_pos (show zat3 p1 p2 = 0 from if_pos c_109), zrq4, if_pos c_111])]; rfl) hS (Nat.le_of_ble_eq_true rfl) (Nat.le_of_ble_eq_true rfl) dX12_rests_160
            · refine lv_iload_n hx hb dX12_rests_91 rfl (lv_at hl 5 rfl) ?_
              refine lv_iload_n hx hb dX12_rests_92 rfl (lv_at hl 6 rfl) ?_
              refine lv_iload hx hb dX12_rests_93 (lv_at hl 1 rfl) ?_
              refine lv_iconst (v := 1) hx hb dX12_rests_95 (by decide) ?_
              refine lv_iload hx hb dX12_rests_96 (lv_at hl 0 rfl) ?_
              refine lv_isub hx hb dX12_rests_98 ?_
              refine ztop (.int 0) (congrArg Value.int (by decide)) ?_
              refine zcall2 (va_runS (As := [.int p1, .int p2, .int 1, .int 0]) (rest := []) ⟨hx, hb, hml, hown, hts⟩ (c_mt10 l D ct p1 p2 H.size) (va_cwS 4 hts gX12_rests_X12_travellerGets rfl rfl rfl (by decide +kernel) ⟨Nat.le_of_ble_eq_true rfl, Nat.le_of_ble_eq_true rfl⟩) (zpreS hK hw hS hA zZ.nil hN [] rfl rfl) rfl rfl hl.1 rfl (lv_room (Nat.le_of_ble_eq_true rfl)) dX12_rests_99 ⟨Nat.le_of_ble_eq_true rfl, Nat.le_of_ble_eq_true rfl⟩) hw hS hA [] [0] rfl rfl rfl rfl (fun _ H locs hp114 hw hS => ?_)
              have hw : zPD D A [(h0, .inr (11, [.int 0, .int w_taped, .ref (y 0), .int w_size, .int w_place, .int w_begin, .int w_token, .long w_word, .int w_told, .int w_wrong, .ref (y 1), .ref (y 2), .ref (y 3), .ref (y 4), .ref (y 5), .ref (y 6), .ref (y 7), .ref (y 8), .ref (y 9), .ref (y 10), .ref (y 11), .ref (y 12), .int w_code, .int w_toldLines, .ref (y 13), .ref (y 14), .ref (y 15), .ref (y 16), .ref (y 17), .ref (y 18), .ref (y 19), .ref (y 20), .ref (y 21), .ref (y 22), .ref (y 23), .ref (y 24), .int w_given, .long w_fresh, .ref (y 25), .ref (y 26), .ref (y 27), .ref (y 28), .ref (y 29), .ref (y 30), .ref (y 31), .ref (y 32), .ref (y 33), .ref (y 34), .ref (y 35), .ref (y 36), .ref (y 37), .int w_done, .int w_moreAsked, .ref (y 38), .long w_g, .int w_gone, .int w_stopped]))] H := hw
              refine zfr 102 [.int 0] rfl rfl ?_
              refine lv_iload_n hx hb dX12_rests_102 rfl (lv_at hl 5 rfl) ?_
              refine lv_iload_n hx hb dX12_rests_103 rfl (lv_at hl 6 rfl) ?_
              refine lv_iload hx hb dX12_rests_104 (lv_at hl 1 rfl) ?_
              refine lv_iload hx hb dX12_rests_106 (lv_at hl 0 rfl) ?_
              refine zcall2 (va_runS (As := [.int p1, .int p2, .int 1, .int 1]) (rest := [.int 0]) ⟨hx, hb, hml, hown, hts⟩ (c_mt11 l D ct p1 p2 H.size) (va_cwS 4 hts gX12_rests_X12_travellerGets rfl rfl rfl (by decide +kernel) ⟨Nat.le_of_ble_eq_true rfl, Nat.le_of_ble_eq_true rfl⟩) (zpreS hK hw hS hA zZ.nil hN [] rfl rfl) rfl rfl hl.1 rfl (lv_room (Nat.le_of_ble_eq_true rfl)) dX12_rests_108 ⟨Nat.le_of_ble_eq_true rfl, Nat.le_of_ble_eq_true rfl⟩) hw hS hA [] [0] rfl rfl rfl rfl (fun _ H locs hp115 hw hS => ?_)
              have hw : zPD D A [(h0, .inr (11, [.int 0, .int w_taped, .ref (y 0), .int w_size, .int w_place, .int w_begin, .int w_token, .long w_word, .int w_told, .int w_wrong, .ref (y 1), .ref (y 2), .ref (y 3), .ref (y 4), .ref (y 5), .ref (y 6), .ref (y 7), .ref (y 8), .ref (y 9), .ref (y 10), .ref (y 11), .ref (y 12), .int w_code, .int w_toldLines, .ref (y 13), .ref (y 14), .ref (y 15), .ref (y 16), .ref (y 17), .ref (y 18), .ref (y 19), .ref (y 20), .ref (y 21), .ref (y 22), .ref (y 23), .ref (y 24), .int w_given, .long w_fresh, .ref (y 25), .ref (y 26), .ref (y 27), .ref (y 28), .ref (y 29), .ref (y 30), .ref (y 31), .ref (y 32), .ref (y 33), .ref (y 34), .ref (y 35), .ref (y 36), .ref (y 37), .int w_done, .int w_moreAsked, .ref (y 38), .long w_g, .int w_gone, .int w_stopped]))] H := hw
              refine zfr 111 [.int (-p1), .int 0] rfl rfl ?_
              refine lv_icmp_le (tgt := 117) hx hb dX12_rests_111 (by decide) (fun c_116 => ?_) (fun c_116 => ?_)
              · refine lv_iload hx hb dX12_rests_117 (lv_at hl 3 rfl) ?_
                refine lv_iload_n hx hb dX12_rests_119 rfl (lv_at hl 7 rfl) ?_
                refine lv_icmp_ne (tgt := 126) hx hb dX12_rests_120 (by decide) (fun c_117 => ?_) (fun c_117 => ?_)
                · refine lv_iinc (v := 1) (lv' := [(4, .int 1), (7, .int 1), (6, .int 1), (5, .int 3), (0, .ref h0), (1, .int p1), (2, .int p2), (3, .int p3)]) hx hb dX12_rests_126 hl (k := 3) rfl (by decide) (by decide) rfl (fun ls hl => ?_)
                  refine lv_iinc (v := 4) (lv' := [(5, .int 4), (4, .int 1), (7, .int 1), (6, .int 1), (0, .ref h0), (1, .int p1), (2, .int p2), (3, .int p3)]) hx hb dX12_rests_129 hl (k := 3) rfl (by decide) (by decide) rfl (fun ls hl => ?_)
                  refine lv_goto (tgt := 50) hx hb dX12_rests_132 (by decide) ?_
                  refine lv_iload hx hb dX12_rests_50 (lv_at hl 0 rfl) ?_
                  refine lv_iconst (v := 4) hx hb dX12_rests_52 (by decide) ?_
                  refine lv_icmp_ge (tgt := 135) hx hb dX12_rests_53 (by decide) (fun _ => ?_) (fun h => absurd (by decide) h)
                  refine lv_aload_n hx hb dX12_rests_135 rfl (lv_at hl 4 rfl) ?_
                  refine lv_iload_n hx hb dX12_rests_136 rfl (lv_at hl 7 rfl) ?_
                  refine lv_iconst (v := (-1)) hx hb dX12_rests_137 (by decide) ?_
                  refine lv_icmp_ne (tgt := 145) hx hb dX12_rests_138 (by decide) (fun c_119 => ?_) (fun c_119 => ?_)
                  · refine lv_iconst (v := 1) hx hb dX12_rests_145 (by decide) ?_
                    refine zput (D := D) (ci := 11) (v := .int 1) (ty := .int) hx hb hts hiX12 tyX12 tyX12_ok nmX12 hown hK hw hS 0 rfl rfl 0 (by decide) (hts (.fieldLink RX12 129 "BeardPassModel" "thrown" "I") (by decide +kernel)) (fun _ h9 => h9) rfl (by decide +kernel) rfl rfl (Nat.le_of_ble_eq_true rfl) dX12_rests_146 [(h0, .inr (11, [.int 1, .int w_taped, .ref (y 0), .int w_size, .int w_place, .int w_begin, .int w_token, .long w_word, .int w_told, .int w_wrong, .ref (y 1), .ref (y 2), .ref (y 3), .ref (y 4), .ref (y 5), .ref (y 6), .ref (y 7), .ref (y 8), .ref (y 9), .ref (y 10), .ref (y 11), .ref (y 12), .int w_code, .int w_toldLines, .ref (y 13), .ref (y 14), .ref (y 15), .ref (y 16), .ref (y 17), .ref (y 18), .ref (y 19), .ref (y 20), .ref (y 21), .ref (y 22), .ref (y 23), .ref (y 24), .int w_given, .long w_fresh, .ref (y 25), .ref (y 26), .ref (y 27), .ref (y 28), .ref (y 29), .ref (y 30), .ref (y 31), .ref (y 32), .ref (y 33), .ref (y 34), .ref (y 35), .ref (y 36), .ref (y 37), .int w_done, .int w_moreAsked, .ref (y 38), .long w_g, .int w_gone, .int w_stopped]))] rfl (fun H locs hw hS => ?_)
                    refine lv_iload_n hx hb dX12_rests_149 rfl (lv_at hl 7 rfl) ?_
                    refine lv_iconst (v := (-1)) hx hb dX12_rests_150 (by decide) ?_
                    refine lv_icmp_ne (tgt := 159) hx hb dX12_rests_151 (by decide) (fun _ => ?_) (fun h => absurd h (c_119))
                    refine lv_iconst (v := 0) hx hb dX12_rests_159 (by decide) ?_
                    exact ziret hx hb hr (rfl) hlocks () (congrArg (fun z => some (Value.int z)) (zrv_none (by rw [zrs, if_neg c_2, if_neg c_5, if_pos (zsge (r := p1) (w := p2) c_7), zrq0, if_pos (show zat0 p2 = 0 from if_neg c_16), zrq1, if_pos (show zat1 p1 p2 = 0 from if_pos c_101), zrq3, if_neg (show ¬ zat3 p1 p2 = 0 by rw [zat3, if_neg c_109, if_pos c_116]; decide), if_neg c_117, zrq4, if_neg c_119]))) (trivial) hw [0] rfl (by rw [show zth p1 p2 p3 = 1 from zth_none (by rw [zrs, if_neg c_2, if_neg c_5, if_pos (zsge (r := p1) (w := p2) c_7), zrq0, if_pos (show zat0 p2 = 0 from if_neg c_16), zrq1, if_pos (show zat1 p1 p2 = 0 from if_pos c_101), zrq3, if_neg (show ¬ zat3 p1 p2 = 0 by rw [zat3, if_neg c_109, if_pos c_116]; decide), if_neg c_117, zrq4, if_neg c_119])]; rfl) hS (Nat.le_of_ble_eq_true rfl) (Nat.le_of_ble_eq_true rfl) dX12_rests_160
                  · refine lv_iconst (v := 0) hx hb dX12_rests_141 (by decide) ?_
                    refine lv_goto (tgt := 146) hx hb dX12_rests_142 (by decide) ?_
                    refine zput (D := D) (ci := 11) (v := .int 0) (ty := .int) hx hb hts hiX12 tyX12 tyX12_ok nmX12 hown hK hw hS 0 rfl rfl 0 (by decide) (hts (.fieldLink RX12 129 "BeardPassModel" "thrown" "I") (by decide +kernel)) (fun _ h9 => h9) rfl (by decide +kernel) rfl rfl (Nat.le_of_ble_eq_true rfl) dX12_rests_146 [(h0, .inr (11, [.int 0, .int w_taped, .ref (y 0), .int w_size, .int w_place, .int w_begin, .int w_token, .long w_word, .int w_told, .int w_wrong, .ref (y 1), .ref (y 2), .ref (y 3), .ref (y 4), .ref (y 5), .ref (y 6), .ref (y 7), .ref (y 8), .ref (y 9), .ref (y 10), .ref (y 11), .ref (y 12), .int w_code, .int w_toldLines, .ref (y 13), .ref (y 14), .ref (y 15), .ref (y 16), .ref (y 17), .ref (y 18), .ref (y 19), .ref (y 20), .ref (y 21), .ref (y 22), .ref (y 23), .ref (y 24), .int w_given, .long w_fresh, .ref (y 25), .ref (y 26), .ref (y 27), .ref (y 28), .ref (y 29), .ref (y 30), .ref (y 31), .ref (y 32), .ref (y 33), .ref (y 34), .ref (y 35), .ref (y 36), .ref (y 37), .int w_done, .int w_moreAsked, .ref (y 38), .long w_g, .int w_gone, .int w_stopped]))] rfl (fun H locs hw hS => ?_)
                    refine lv_iload_n hx hb dX12_rests_149 rfl (lv_at hl 7 rfl) ?_
                    refine lv_iconst (v := (-1)) hx hb dX12_rests_150 (by decide) ?_
                    refine lv_icmp_ne (tgt := 159) hx hb dX12_rests_151 (by decide) (fun h => absurd (c_119) h) (fun _ => ?_)
                    refine lv_iload hx hb dX12_rests_154 (lv_at hl 1 rfl) ?_
                    refine lv_goto (tgt := 160) hx hb dX12_rests_156 (by decide) ?_
                    exact ziret hx hb hr (rfl) hlocks () (congrArg (fun z => some (Value.int z)) (zrv_some (by rw [zrs, if_neg c_2, if_neg c_5, if_pos (zsge (r := p1) (w := p2) c_7), zrq0, if_pos (show zat0 p2 = 0 from if_neg c_16), zrq1, if_pos (show zat1 p1 p2 = 0 from if_pos c_101), zrq3, if_neg (show ¬ zat3 p1 p2 = 0 by rw [zat3, if_neg c_109, if_pos c_116]; decide), if_neg c_117, zrq4, if_pos c_119]))) (trivial) hw [0] rfl (by rw [show zth p1 p2 p3 = 0 from zth_some (v := 1) (by rw [zrs, if_neg c_2, if_neg c_5, if_pos (zsge (r := p1) (w := p2) c_7), zrq0, if_pos (show zat0 p2 = 0 from if_neg c_16), zrq1, if_pos (show zat1 p1 p2 = 0 from if_pos c_101), zrq3, if_neg (show ¬ zat3 p1 p2 = 0 by rw [zat3, if_neg c_109, if_pos c_116]; decide), if_neg c_117, zrq4, if_pos c_119])]; rfl) hS (Nat.le_of_ble_eq_true rfl) (Nat.le_of_ble_eq_true rfl) dX12_rests_160
                · refine lv_iload hx hb dX12_rests_123 (lv_at hl 2 rfl) ?_
                  exact ziret hx hb hr (rfl) hlocks () (congrArg (fun z => some (Value.int z)) (zrv_some (by rw [zrs, if_neg c_2, if_neg c_5, if_pos (zsge (r := p1) (w := p2) c_7), zrq0, if_pos (show zat0 p2 = 0 from if_neg c_16), zrq1, if_pos (show zat1 p1 p2 = 0 from if_pos c_101), zrq3, if_neg (show ¬ zat3 p1 p2 = 0 by rw [zat3, if_neg c_109, if_pos c_116]; decide), if_pos c_117]))) (trivial) hw [0] rfl (by rw [show zth p1 p2 p3 = 0 from zth_some (v := 3) (by rw [zrs, if_neg c_2, if_neg c_5, if_pos (zsge (r := p1) (w := p2) c_7), zrq0, if_pos (show zat0 p2 = 0 from if_neg c_16), zrq1, if_pos (show zat1 p1 p2 = 0 from if_pos c_101), zrq3, if_neg (show ¬ zat3 p1 p2 = 0 by rw [zat3, if_neg c_109, if_pos c_116]; decide), if_pos c_117])]; rfl) hS (Nat.le_of_ble_eq_true rfl) (Nat.le_of_ble_eq_true rfl) dX12_rests_125
              · refine lv_goto (tgt := 129) hx hb dX12_rests_114 (by decide) ?_
                refine lv_iinc (v := 4) (lv' := [(5, .int 4), (7, .int 1), (6, .int 1), (4, .int 0), (0, .ref h0), (1, .int p1), (2, .int p2), (3, .int p3)]) hx hb dX12_rests_129 hl (k := 2) rfl (by decide) (by decide) rfl (fun ls hl => ?_)
                refine lv_goto (tgt := 50) hx hb dX12_rests_132 (by decide) ?_
                refine lv_iload hx hb dX12_rests_50 (lv_at hl 0 rfl) ?_
                refine lv_iconst (v := 4) hx hb dX12_rests_52 (by decide) ?_
                refine lv_icmp_ge (tgt := 135) hx hb dX12_rests_53 (by decide) (fun _ => ?_) (fun h => absurd (by decide) h)
                refine lv_aload_n hx hb dX12_rests_135 rfl (lv_at hl 4 rfl) ?_
                refine lv_iload_n hx hb dX12_rests_136 rfl (lv_at hl 7 rfl) ?_
                refine lv_iconst (v := (-1)) hx hb dX12_rests_137 (by decide) ?_
                refine lv_icmp_ne (tgt := 145) hx hb dX12_rests_138 (by decide) (fun c_123 => ?_) (fun c_123 => ?_)
                · refine lv_iconst (v := 1) hx hb dX12_rests_145 (by decide) ?_
                  refine zput (D := D) (ci := 11) (v := .int 1) (ty := .int) hx hb hts hiX12 tyX12 tyX12_ok nmX12 hown hK hw hS 0 rfl rfl 0 (by decide) (hts (.fieldLink RX12 129 "BeardPassModel" "thrown" "I") (by decide +kernel)) (fun _ h9 => h9) rfl (by decide +kernel) rfl rfl (Nat.le_of_ble_eq_true rfl) dX12_rests_146 [(h0, .inr (11, [.int 1, .int w_taped, .ref (y 0), .int w_size, .int w_place, .int w_begin, .int w_token, .long w_word, .int w_told, .int w_wrong, .ref (y 1), .ref (y 2), .ref (y 3), .ref (y 4), .ref (y 5), .ref (y 6), .ref (y 7), .ref (y 8), .ref (y 9), .ref (y 10), .ref (y 11), .ref (y 12), .int w_code, .int w_toldLines, .ref (y 13), .ref (y 14), .ref (y 15), .ref (y 16), .ref (y 17), .ref (y 18), .ref (y 19), .ref (y 20), .ref (y 21), .ref (y 22), .ref (y 23), .ref (y 24), .int w_given, .long w_fresh, .ref (y 25), .ref (y 26), .ref (y 27), .ref (y 28), .ref (y 29), .ref (y 30), .ref (y 31), .ref (y 32), .ref (y 33), .ref (y 34), .ref (y 35), .ref (y 36), .ref (y 37), .int w_done, .int w_moreAsked, .ref (y 38), .long w_g, .int w_gone, .int w_stopped]))] rfl (fun H locs hw hS => ?_)
                  refine lv_iload_n hx hb dX12_rests_149 rfl (lv_at hl 7 rfl) ?_
                  refine lv_iconst (v := (-1)) hx hb dX12_rests_150 (by decide) ?_
                  refine lv_icmp_ne (tgt := 159) hx hb dX12_rests_151 (by decide) (fun _ => ?_) (fun h => absurd h (c_123))
                  refine lv_iconst (v := 0) hx hb dX12_rests_159 (by decide) ?_
                  exact ziret hx hb hr (rfl) hlocks () (congrArg (fun z => some (Value.int z)) (zrv_none (by rw [zrs, if_neg c_2, if_neg c_5, if_pos (zsge (r := p1) (w := p2) c_7), zrq0, if_pos (show zat0 p2 = 0 from if_neg c_16), zrq1, if_pos (show zat1 p1 p2 = 0 from if_pos c_101), zrq3, if_pos (show zat3 p1 p2 = 0 from (if_neg c_109).trans (if_neg c_116)), zrq4, if_neg c_123]))) (trivial) hw [0] rfl (by rw [show zth p1 p2 p3 = 1 from zth_none (by rw [zrs, if_neg c_2, if_neg c_5, if_pos (zsge (r := p1) (w := p2) c_7), zrq0, if_pos (show zat0 p2 = 0 from if_neg c_16), zrq1, if_pos (show zat1 p1 p2 = 0 from if_pos c_101), zrq3, if_pos (show zat3 p1 p2 = 0 from (if_neg c_109).trans (if_neg c_116)), zrq4, if_neg c_123])]; rfl) hS (Nat.le_of_ble_eq_true rfl) (Nat.le_of_ble_eq_true rfl) dX12_rests_160
                · refine lv_iconst (v := 0) hx hb dX12_rests_141 (by decide) ?_
                  refine lv_goto (tgt := 146) hx hb dX12_rests_142 (by decide) ?_
                  refine zput (D := D) (ci := 11) (v := .int 0) (ty := .int) hx hb hts hiX12 tyX12 tyX12_ok nmX12 hown hK hw hS 0 rfl rfl 0 (by decide) (hts (.fieldLink RX12 129 "BeardPassModel" "thrown" "I") (by decide +kernel)) (fun _ h9 => h9) rfl (by decide +kernel) rfl rfl (Nat.le_of_ble_eq_true rfl) dX12_rests_146 [(h0, .inr (11, [.int 0, .int w_taped, .ref (y 0), .int w_size, .int w_place, .int w_begin, .int w_token, .long w_word, .int w_told, .int w_wrong, .ref (y 1), .ref (y 2), .ref (y 3), .ref (y 4), .ref (y 5), .ref (y 6), .ref (y 7), .ref (y 8), .ref (y 9), .ref (y 10), .ref (y 11), .ref (y 12), .int w_code, .int w_toldLines, .ref (y 13), .ref (y 14), .ref (y 15), .ref (y 16), .ref (y 17), .ref (y 18), .ref (y 19), .ref (y 20), .ref (y 21), .ref (y 22), .ref (y 23), .ref (y 24), .int w_given, .long w_fresh, .ref (y 25), .ref (y 26), .ref (y 27), .ref (y 28), .ref (y 29), .ref (y 30), .ref (y 31), .ref (y 32), .ref (y 33), .ref (y 34), .ref (y 35), .ref (y 36), .ref (y 37), .int w_done, .int w_moreAsked, .ref (y 38), .long w_g, .int w_gone, .int w_stopped]))] rfl (fun H locs hw hS => ?_)
                  refine lv_iload_n hx hb dX12_rests_149 rfl (lv_at hl 7 rfl) ?_
                  refine lv_iconst (v := (-1)) hx hb dX12_rests_150 (by decide) ?_
                  refine lv_icmp_ne (tgt := 159) hx hb dX12_rests_151 (by decide) (fun h => absurd (c_123) h) (fun _ => ?_)
                  refine lv_iload hx hb dX12_rests_154 (lv_at hl 3 rfl) ?_
                  refine lv_goto (tgt := 160) hx hb dX12_rests_156 (by decide) ?_
                  exact ziret hx hb hr (rfl) hlocks () (congrArg (fun z => some (Value.int z)) (zrv_some (by rw [zrs, if_neg c_2, if_neg c_5, if_pos (zsge (r := p1) (w := p2) c_7), zrq0, if_pos (show zat0 p2 = 0 from if_neg c_16), zrq1, if_pos (show zat1 p1 p2 = 0 from if_pos c_101), zrq3, if_pos (show zat3 p1 p2 = 0 from (if_neg c_109).trans (if_neg c_116)), zrq4, if_pos c_123]))) (trivial) hw [0] rfl (by rw [show zth p1 p2 p3 = 0 from zth_some (v := 0) (by rw [zrs, if_neg c_2, if_neg c_5, if_pos (zsge (r := p1) (w := p2) c_7), zrq0, if_pos (show zat0 p2 = 0 from if_neg c_16), zrq1, if_pos (show zat1 p1 p2 = 0 from if_pos c_101), zrq3, if_pos (show zat3 p1 p2 = 0 from (if_neg c_109).trans (if_neg c_116)), zrq4, if_pos c_123])]; rfl) hS (Nat.le_of_ble_eq_true rfl) (Nat.le_of_ble_eq_true rfl) dX12_rests_160
          · refine lv_iload_n hx hb dX12_rests_91 rfl (lv_at hl 5 rfl) ?_
            refine lv_iload_n hx hb dX12_rests_92 rfl (lv_at hl 6 rfl) ?_
            refine lv_iload hx hb dX12_rests_93 (lv_at hl 1 rfl) ?_
            refine lv_iconst (v := 1) hx hb dX12_rests_95 (by decide) ?_
            refine lv_iload hx hb dX12_rests_96 (lv_at hl 0 rfl) ?_
            refine lv_isub hx hb dX12_rests_98 ?_
            refine ztop (.int 0) (congrArg Value.int (by decide)) ?_
            refine zcall2 (va_runS (As := [.int p1, .int p2, .int 0, .int 0]) (rest := []) ⟨hx, hb, hml, hown, hts⟩ (c_mt00 l D ct p1 p2 H.size) (va_cwS 4 hts gX12_rests_X12_travellerGets rfl rfl rfl (by decide +kernel) ⟨Nat.le_of_ble_eq_true rfl, Nat.le_of_ble_eq_true rfl⟩) (zpreS hK hw hS hA zZ.nil hN [] rfl rfl) rfl rfl hl.1 rfl (lv_room (Nat.le_of_ble_eq_true rfl)) dX12_rests_99 ⟨Nat.le_of_ble_eq_true rfl, Nat.le_of_ble_eq_true rfl⟩) hw hS hA [] [0] rfl rfl rfl rfl (fun _ H locs hp126 hw hS => ?_)
            have hw : zPD D A [(h0, .inr (11, [.int 0, .int w_taped, .ref (y 0), .int w_size, .int w_place, .int w_begin, .int w_token, .long w_word, .int w_told, .int w_wrong, .ref (y 1), .ref (y 2), .ref (y 3), .ref (y 4), .ref (y 5), .ref (y 6), .ref (y 7), .ref (y 8), .ref (y 9), .ref (y 10), .ref (y 11), .ref (y 12), .int w_code, .int w_toldLines, .ref (y 13), .ref (y 14), .ref (y 15), .ref (y 16), .ref (y 17), .ref (y 18), .ref (y 19), .ref (y 20), .ref (y 21), .ref (y 22), .ref (y 23), .ref (y 24), .int w_given, .long w_fresh, .ref (y 25), .ref (y 26), .ref (y 27), .ref (y 28), .ref (y 29), .ref (y 30), .ref (y 31), .ref (y 32), .ref (y 33), .ref (y 34), .ref (y 35), .ref (y 36), .ref (y 37), .int w_done, .int w_moreAsked, .ref (y 38), .long w_g, .int w_gone, .int w_stopped]))] H := hw
            refine zfr 102 [.int 0] rfl rfl ?_
            refine lv_iload_n hx hb dX12_rests_102 rfl (lv_at hl 5 rfl) ?_
            refine lv_iload_n hx hb dX12_rests_103 rfl (lv_at hl 6 rfl) ?_
            refine lv_iload hx hb dX12_rests_104 (lv_at hl 1 rfl) ?_
            refine lv_iload hx hb dX12_rests_106 (lv_at hl 0 rfl) ?_
            refine zcall2 (va_runS (As := [.int p1, .int p2, .int 0, .int 1]) (rest := [.int 0]) ⟨hx, hb, hml, hown, hts⟩ (c_mt01 l D ct p1 p2 H.size) (va_cwS 4 hts gX12_rests_X12_travellerGets rfl rfl rfl (by decide +kernel) ⟨Nat.le_of_ble_eq_true rfl, Nat.le_of_ble_eq_true rfl⟩) (zpreS hK hw hS hA zZ.nil hN [] rfl rfl) rfl rfl hl.1 rfl (lv_room (Nat.le_of_ble_eq_true rfl)) dX12_rests_108 ⟨Nat.le_of_ble_eq_true rfl, Nat.le_of_ble_eq_true rfl⟩) hw hS hA [] [0] rfl rfl rfl rfl (fun _ H locs hp127 hw hS => ?_)
            have hw : zPD D A [(h0, .inr (11, [.int 0, .int w_taped, .ref (y 0), .int w_size, .int w_place, .int w_begin, .int w_token, .long w_word, .int w_told, .int w_wrong, .ref (y 1), .ref (y 2), .ref (y 3), .ref (y 4), .ref (y 5), .ref (y 6), .ref (y 7), .ref (y 8), .ref (y 9), .ref (y 10), .ref (y 11), .ref (y 12), .int w_code, .int w_toldLines, .ref (y 13), .ref (y 14), .ref (y 15), .ref (y 16), .ref (y 17), .ref (y 18), .ref (y 19), .ref (y 20), .ref (y 21), .ref (y 22), .ref (y 23), .ref (y 24), .int w_given, .long w_fresh, .ref (y 25), .ref (y 26), .ref (y 27), .ref (y 28), .ref (y 29), .ref (y 30), .ref (y 31), .ref (y 32), .ref (y 33), .ref (y 34), .ref (y 35), .ref (y 36), .ref (y 37), .int w_done, .int w_moreAsked, .ref (y 38), .long w_g, .int w_gone, .int w_stopped]))] H := hw
            refine zfr 111 [.int p2, .int 0] rfl rfl ?_
            refine lv_icmp_le (tgt := 117) hx hb dX12_rests_111 (by decide) (fun c_128 => ?_) (fun c_128 => ?_)
            · refine lv_iload hx hb dX12_rests_117 (lv_at hl 3 rfl) ?_
              refine lv_iload_n hx hb dX12_rests_119 rfl (lv_at hl 7 rfl) ?_
              refine lv_icmp_ne (tgt := 126) hx hb dX12_rests_120 (by decide) (fun c_129 => ?_) (fun c_129 => ?_)
              · refine lv_iinc (v := 1) (lv' := [(4, .int 1), (7, .int 1), (6, .int 0), (5, .int 1), (0, .ref h0), (1, .int p1), (2, .int p2), (3, .int p3)]) hx hb dX12_rests_126 hl (k := 3) rfl (by decide) (by decide) rfl (fun ls hl => ?_)
                refine lv_iinc (v := 2) (lv' := [(5, .int 2), (4, .int 1), (7, .int 1), (6, .int 0), (0, .ref h0), (1, .int p1), (2, .int p2), (3, .int p3)]) hx hb dX12_rests_129 hl (k := 3) rfl (by decide) (by decide) rfl (fun ls hl => ?_)
                refine lv_goto (tgt := 50) hx hb dX12_rests_132 (by decide) ?_
                refine lv_iload hx hb dX12_rests_50 (lv_at hl 0 rfl) ?_
                refine lv_iconst (v := 4) hx hb dX12_rests_52 (by decide) ?_
                refine lv_icmp_ge (tgt := 135) hx hb dX12_rests_53 (by decide) (fun h => absurd h (by decide)) (fun _ => ?_)
                refine lv_iload hx hb dX12_rests_56 (lv_at hl 0 rfl) ?_
                refine lv_iconst (v := 2) hx hb dX12_rests_58 (by decide) ?_
                refine lv_idiv hx hb dX12_rests_59 (by decide) ?_
                refine ztop (.int 1) (congrArg Value.int (by decide)) ?_
                refine lv_istore (lv' := [(6, .int 1), (5, .int 2), (4, .int 1), (7, .int 1), (0, .ref h0), (1, .int p1), (2, .int p2), (3, .int p3)]) hx hb dX12_rests_60 hl (by decide) rfl (fun ls hl => ?_)
                refine lv_iload hx hb dX12_rests_62 (lv_at hl 1 rfl) ?_
                refine lv_iconst (v := 2) hx hb dX12_rests_64 (by decide) ?_
                refine lv_irem hx hb dX12_rests_65 (by decide) ?_
                refine ztop (.int 0) (congrArg Value.int (by decide)) ?_
                refine lv_istore (lv' := [(7, .int 0), (6, .int 1), (5, .int 2), (4, .int 1), (0, .ref h0), (1, .int p1), (2, .int p2), (3, .int p3)]) hx hb dX12_rests_66 hl (by decide) rfl (fun ls hl => ?_)
                refine lv_iload_n hx hb dX12_rests_68 rfl (lv_at hl 5 rfl) ?_
                refine lv_iload_n hx hb dX12_rests_69 rfl (lv_at hl 6 rfl) ?_
                refine lv_iconst (v := 1) hx hb dX12_rests_70 (by decide) ?_
                refine lv_iload hx hb dX12_rests_71 (lv_at hl 1 rfl) ?_
                refine lv_isub hx hb dX12_rests_73 ?_
                refine ztop (.int 0) (congrArg Value.int (by decide)) ?_
                refine lv_iload hx hb dX12_rests_74 (lv_at hl 0 rfl) ?_
                refine zcall2 (va_runS (As := [.int p1, .int p2, .int 0, .int 0]) (rest := []) ⟨hx, hb, hml, hown, hts⟩ (c_mg00 l D ct p1 p2 H.size) (va_cwS 4 hts gX12_rests_X12_guardGets rfl rfl rfl (by decide +kernel) ⟨Nat.le_of_ble_eq_true rfl, Nat.le_of_ble_eq_true rfl⟩) (zpreS hK hw hS hA zZ.nil hN [] rfl rfl) rfl rfl hl.1 rfl (lv_room (Nat.le_of_ble_eq_true rfl)) dX12_rests_76 ⟨Nat.le_of_ble_eq_true rfl, Nat.le_of_ble_eq_true rfl⟩) hw hS hA [] [0] rfl rfl rfl rfl (fun _ H locs hp131 hw hS => ?_)
                have hw : zPD D A [(h0, .inr (11, [.int 0, .int w_taped, .ref (y 0), .int w_size, .int w_place, .int w_begin, .int w_token, .long w_word, .int w_told, .int w_wrong, .ref (y 1), .ref (y 2), .ref (y 3), .ref (y 4), .ref (y 5), .ref (y 6), .ref (y 7), .ref (y 8), .ref (y 9), .ref (y 10), .ref (y 11), .ref (y 12), .int w_code, .int w_toldLines, .ref (y 13), .ref (y 14), .ref (y 15), .ref (y 16), .ref (y 17), .ref (y 18), .ref (y 19), .ref (y 20), .ref (y 21), .ref (y 22), .ref (y 23), .ref (y 24), .int w_given, .long w_fresh, .ref (y 25), .ref (y 26), .ref (y 27), .ref (y 28), .ref (y 29), .ref (y 30), .ref (y 31), .ref (y 32), .ref (y 33), .ref (y 34), .ref (y 35), .ref (y 36), .ref (y 37), .int w_done, .int w_moreAsked, .ref (y 38), .long w_g, .int w_gone, .int w_stopped]))] H := hw
                refine zfr 79 [.int 0] rfl rfl ?_
                refine lv_iload_n hx hb dX12_rests_79 rfl (lv_at hl 5 rfl) ?_
                refine lv_iload_n hx hb dX12_rests_80 rfl (lv_at hl 6 rfl) ?_
                refine lv_iload hx hb dX12_rests_81 (lv_at hl 1 rfl) ?_
                refine lv_iload hx hb dX12_rests_83 (lv_at hl 0 rfl) ?_
                refine zcall2 (va_runS (As := [.int p1, .int p2, .int 1, .int 0]) (rest := [.int 0]) ⟨hx, hb, hml, hown, hts⟩ (c_mg10 l D ct p1 p2 H.size) (va_cwS 4 hts gX12_rests_X12_guardGets rfl rfl rfl (by decide +kernel) ⟨Nat.le_of_ble_eq_true rfl, Nat.le_of_ble_eq_true rfl⟩) (zpreS hK hw hS hA zZ.nil hN [] rfl rfl) rfl rfl hl.1 rfl (lv_room (Nat.le_of_ble_eq_true rfl)) dX12_rests_85 ⟨Nat.le_of_ble_eq_true rfl, Nat.le_of_ble_eq_true rfl⟩) hw hS hA [] [0] rfl rfl rfl rfl (fun _ H locs hp132 hw hS => ?_)
                have hw : zPD D A [(h0, .inr (11, [.int 0, .int w_taped, .ref (y 0), .int w_size, .int w_place, .int w_begin, .int w_token, .long w_word, .int w_told, .int w_wrong, .ref (y 1), .ref (y 2), .ref (y 3), .ref (y 4), .ref (y 5), .ref (y 6), .ref (y 7), .ref (y 8), .ref (y 9), .ref (y 10), .ref (y 11), .ref (y 12), .int w_code, .int w_toldLines, .ref (y 13), .ref (y 14), .ref (y 15), .ref (y 16), .ref (y 17), .ref (y 18), .ref (y 19), .ref (y 20), .ref (y 21), .ref (y 22), .ref (y 23), .ref (y 24), .int w_given, .long w_fresh, .ref (y 25), .ref (y 26), .ref (y 27), .ref (y 28), .ref (y 29), .ref (y 30), .ref (y 31), .ref (y 32), .ref (y 33), .ref (y 34), .ref (y 35), .ref (y 36), .ref (y 37), .int w_done, .int w_moreAsked, .ref (y 38), .long w_g, .int w_gone, .int w_stopped]))] H := hw
                refine zfr 88 [.int (-1), .int 0] rfl rfl ?_
                refine lv_icmp_gt (tgt := 129) hx hb dX12_rests_88 (by decide) (fun _ => ?_) (fun h => absurd (by decide) h)
                refine lv_iinc (v := 3) (lv' := [(5, .int 3), (7, .int 0), (6, .int 1), (4, .int 1), (0, .ref h0), (1, .int p1), (2, .int p2), (3, .int p3)]) hx hb dX12_rests_129 hl (k := 2) rfl (by decide) (by decide) rfl (fun ls hl => ?_)
                refine lv_goto (tgt := 50) hx hb dX12_rests_132 (by decide) ?_
                refine lv_iload hx hb dX12_rests_50 (lv_at hl 0 rfl) ?_
                refine lv_iconst (v := 4) hx hb dX12_rests_52 (by decide) ?_
                refine lv_icmp_ge (tgt := 135) hx hb dX12_rests_53 (by decide) (fun h => absurd h (by decide)) (fun _ => ?_)
                refine lv_iload hx hb dX12_rests_56 (lv_at hl 0 rfl) ?_
                refine lv_iconst (v := 2) hx hb dX12_rests_58 (by decide) ?_
                refine lv_idiv hx hb dX12_rests_59 (by decide) ?_
                refine ztop (.int 1) (congrArg Value.int (by decide)) ?_
                refine lv_istore (lv' := [(6, .int 1), (5, .int 3), (7, .int 0), (4, .int 1), (0, .ref h0), (1, .int p1), (2, .int p2), (3, .int p3)]) hx hb dX12_rests_60 hl (by decide) rfl (fun ls hl => ?_)
                refine lv_iload hx hb dX12_rests_62 (lv_at hl 1 rfl) ?_
                refine lv_iconst (v := 2) hx hb dX12_rests_64 (by decide) ?_
                refine lv_irem hx hb dX12_rests_65 (by decide) ?_
                refine ztop (.int 1) (congrArg Value.int (by decide)) ?_
                refine lv_istore (lv' := [(7, .int 1), (6, .int 1), (5, .int 3), (4, .int 1), (0, .ref h0), (1, .int p1), (2, .int p2), (3, .int p3)]) hx hb dX12_rests_66 hl (by decide) rfl (fun ls hl => ?_)
                refine lv_iload_n hx hb dX12_rests_68 rfl (lv_at hl 5 rfl) ?_
                refine lv_iload_n hx hb dX12_rests_69 rfl (lv_at hl 6 rfl) ?_
                refine lv_iconst (v := 1) hx hb dX12_rests_70 (by decide) ?_
                refine lv_iload hx hb dX12_rests_71 (lv_at hl 1 rfl) ?_
                refine lv_isub hx hb dX12_rests_73 ?_
                refine ztop (.int 0) (congrArg Value.int (by decide)) ?_
                refine lv_iload hx hb dX12_rests_74 (lv_at hl 0 rfl) ?_
                refine zcall2 (va_runS (As := [.int p1, .int p2, .int 0, .int 1]) (rest := []) ⟨hx, hb, hml, hown, hts⟩ (c_mg01 l D ct p1 p2 H.size) (va_cwS 4 hts gX12_rests_X12_guardGets rfl rfl rfl (by decide +kernel) ⟨Nat.le_of_ble_eq_true rfl, Nat.le_of_ble_eq_true rfl⟩) (zpreS hK hw hS hA zZ.nil hN [] rfl rfl) rfl rfl hl.1 rfl (lv_room (Nat.le_of_ble_eq_true rfl)) dX12_rests_76 ⟨Nat.le_of_ble_eq_true rfl, Nat.le_of_ble_eq_true rfl⟩) hw hS hA [] [0] rfl rfl rfl rfl (fun _ H locs hp135 hw hS => ?_)
                have hw : zPD D A [(h0, .inr (11, [.int 0, .int w_taped, .ref (y 0), .int w_size, .int w_place, .int w_begin, .int w_token, .long w_word, .int w_told, .int w_wrong, .ref (y 1), .ref (y 2), .ref (y 3), .ref (y 4), .ref (y 5), .ref (y 6), .ref (y 7), .ref (y 8), .ref (y 9), .ref (y 10), .ref (y 11), .ref (y 12), .int w_code, .int w_toldLines, .ref (y 13), .ref (y 14), .ref (y 15), .ref (y 16), .ref (y 17), .ref (y 18), .ref (y 19), .ref (y 20), .ref (y 21), .ref (y 22), .ref (y 23), .ref (y 24), .int w_given, .long w_fresh, .ref (y 25), .ref (y 26), .ref (y 27), .ref (y 28), .ref (y 29), .ref (y 30), .ref (y 31), .ref (y 32), .ref (y 33), .ref (y 34), .ref (y 35), .ref (y 36), .ref (y 37), .int w_done, .int w_moreAsked, .ref (y 38), .long w_g, .int w_gone, .int w_stopped]))] H := hw
                refine zfr 79 [.int (-p2)] rfl rfl ?_
                refine lv_iload_n hx hb dX12_rests_79 rfl (lv_at hl 5 rfl) ?_
                refine lv_iload_n hx hb dX12_rests_80 rfl (lv_at hl 6 rfl) ?_
                refine lv_iload hx hb dX12_rests_81 (lv_at hl 1 rfl) ?_
                refine lv_iload hx hb dX12_rests_83 (lv_at hl 0 rfl) ?_
                refine zcall2 (va_runS (As := [.int p1, .int p2, .int 1, .int 1]) (rest := [.int (-p2)]) ⟨hx, hb, hml, hown, hts⟩ (c_mg11 l D ct p1 p2 H.size) (va_cwS 4 hts gX12_rests_X12_guardGets rfl rfl rfl (by decide +kernel) ⟨Nat.le_of_ble_eq_true rfl, Nat.le_of_ble_eq_true rfl⟩) (zpreS hK hw hS hA zZ.nil hN [] rfl rfl) rfl rfl hl.1 rfl (lv_room (Nat.le_of_ble_eq_true rfl)) dX12_rests_85 ⟨Nat.le_of_ble_eq_true rfl, Nat.le_of_ble_eq_true rfl⟩) hw hS hA [] [0] rfl rfl rfl rfl (fun _ H locs hp136 hw hS => ?_)
                have hw : zPD D A [(h0, .inr (11, [.int 0, .int w_taped, .ref (y 0), .int w_size, .int w_place, .int w_begin, .int w_token, .long w_word, .int w_told, .int w_wrong, .ref (y 1), .ref (y 2), .ref (y 3), .ref (y 4), .ref (y 5), .ref (y 6), .ref (y 7), .ref (y 8), .ref (y 9), .ref (y 10), .ref (y 11), .ref (y 12), .int w_code, .int w_toldLines, .ref (y 13), .ref (y 14), .ref (y 15), .ref (y 16), .ref (y 17), .ref (y 18), .ref (y 19), .ref (y 20), .ref (y 21), .ref (y 22), .ref (y 23), .ref (y 24), .int w_given, .long w_fresh, .ref (y 25), .ref (y 26), .ref (y 27), .ref (y 28), .ref (y 29), .ref (y 30), .ref (y 31), .ref (y 32), .ref (y 33), .ref (y 34), .ref (y 35), .ref (y 36), .ref (y 37), .int w_done, .int w_moreAsked, .ref (y 38), .long w_g, .int w_gone, .int w_stopped]))] H := hw
                refine zfr 88 [.int p1, .int (-p2)] rfl rfl ?_
                refine lv_icmp_gt (tgt := 129) hx hb dX12_rests_88 (by decide) (fun c_137 => ?_) (fun c_137 => ?_)
                · refine lv_iinc (v := 4) (lv' := [(5, .int 4), (7, .int 1), (6, .int 1), (4, .int 1), (0, .ref h0), (1, .int p1), (2, .int p2), (3, .int p3)]) hx hb dX12_rests_129 hl (k := 2) rfl (by decide) (by decide) rfl (fun ls hl => ?_)
                  refine lv_goto (tgt := 50) hx hb dX12_rests_132 (by decide) ?_
                  refine lv_iload hx hb dX12_rests_50 (lv_at hl 0 rfl) ?_
                  refine lv_iconst (v := 4) hx hb dX12_rests_52 (by decide) ?_
                  refine lv_icmp_ge (tgt := 135) hx hb dX12_rests_53 (by decide) (fun _ => ?_) (fun h => absurd (by decide) h)
                  refine lv_aload_n hx hb dX12_rests_135 rfl (lv_at hl 4 rfl) ?_
                  refine lv_iload_n hx hb dX12_rests_136 rfl (lv_at hl 7 rfl) ?_
                  refine lv_iconst (v := (-1)) hx hb dX12_rests_137 (by decide) ?_
                  refine lv_icmp_ne (tgt := 145) hx hb dX12_rests_138 (by decide) (fun c_139 => ?_) (fun c_139 => ?_)
                  · refine lv_iconst (v := 1) hx hb dX12_rests_145 (by decide) ?_
                    refine zput (D := D) (ci := 11) (v := .int 1) (ty := .int) hx hb hts hiX12 tyX12 tyX12_ok nmX12 hown hK hw hS 0 rfl rfl 0 (by decide) (hts (.fieldLink RX12 129 "BeardPassModel" "thrown" "I") (by decide +kernel)) (fun _ h9 => h9) rfl (by decide +kernel) rfl rfl (Nat.le_of_ble_eq_true rfl) dX12_rests_146 [(h0, .inr (11, [.int 1, .int w_taped, .ref (y 0), .int w_size, .int w_place, .int w_begin, .int w_token, .long w_word, .int w_told, .int w_wrong, .ref (y 1), .ref (y 2), .ref (y 3), .ref (y 4), .ref (y 5), .ref (y 6), .ref (y 7), .ref (y 8), .ref (y 9), .ref (y 10), .ref (y 11), .ref (y 12), .int w_code, .int w_toldLines, .ref (y 13), .ref (y 14), .ref (y 15), .ref (y 16), .ref (y 17), .ref (y 18), .ref (y 19), .ref (y 20), .ref (y 21), .ref (y 22), .ref (y 23), .ref (y 24), .int w_given, .long w_fresh, .ref (y 25), .ref (y 26), .ref (y 27), .ref (y 28), .ref (y 29), .ref (y 30), .ref (y 31), .ref (y 32), .ref (y 33), .ref (y 34), .ref (y 35), .ref (y 36), .ref (y 37), .int w_done, .int w_moreAsked, .ref (y 38), .long w_g, .int w_gone, .int w_stopped]))] rfl (fun H locs hw hS => ?_)
                    refine lv_iload_n hx hb dX12_rests_149 rfl (lv_at hl 7 rfl) ?_
                    refine lv_iconst (v := (-1)) hx hb dX12_rests_150 (by decide) ?_
                    refine lv_icmp_ne (tgt := 159) hx hb dX12_rests_151 (by decide) (fun _ => ?_) (fun h => absurd h (c_139))
                    refine lv_iconst (v := 0) hx hb dX12_rests_159 (by decide) ?_
                    exact ziret hx hb hr (rfl) hlocks () (congrArg (fun z => some (Value.int z)) (zrv_none (by rw [zrs, if_neg c_2, if_neg c_5, if_pos (zsge (r := p1) (w := p2) c_7), zrq0, if_pos (show zat0 p2 = 0 from if_neg c_16), zrq1, if_neg (show ¬ zat1 p1 p2 = 0 by rw [zat1, if_neg c_101, if_pos c_128]; decide), if_neg c_129, zrq3, if_pos (show zat3 p1 p2 = 0 from if_pos c_137), zrq4, if_neg c_139]))) (trivial) hw [0] rfl (by rw [show zth p1 p2 p3 = 1 from zth_none (by rw [zrs, if_neg c_2, if_neg c_5, if_pos (zsge (r := p1) (w := p2) c_7), zrq0, if_pos (show zat0 p2 = 0 from if_neg c_16), zrq1, if_neg (show ¬ zat1 p1 p2 = 0 by rw [zat1, if_neg c_101, if_pos c_128]; decide), if_neg c_129, zrq3, if_pos (show zat3 p1 p2 = 0 from if_pos c_137), zrq4, if_neg c_139])]; rfl) hS (Nat.le_of_ble_eq_true rfl) (Nat.le_of_ble_eq_true rfl) dX12_rests_160
                  · refine lv_iconst (v := 0) hx hb dX12_rests_141 (by decide) ?_
                    refine lv_goto (tgt := 146) hx hb dX12_rests_142 (by decide) ?_
                    refine zput (D := D) (ci := 11) (v := .int 0) (ty := .int) hx hb hts hiX12 tyX12 tyX12_ok nmX12 hown hK hw hS 0 rfl rfl 0 (by decide) (hts (.fieldLink RX12 129 "BeardPassModel" "thrown" "I") (by decide +kernel)) (fun _ h9 => h9) rfl (by decide +kernel) rfl rfl (Nat.le_of_ble_eq_true rfl) dX12_rests_146 [(h0, .inr (11, [.int 0, .int w_taped, .ref (y 0), .int w_size, .int w_place, .int w_begin, .int w_token, .long w_word, .int w_told, .int w_wrong, .ref (y 1), .ref (y 2), .ref (y 3), .ref (y 4), .ref (y 5), .ref (y 6), .ref (y 7), .ref (y 8), .ref (y 9), .ref (y 10), .ref (y 11), .ref (y 12), .int w_code, .int w_toldLines, .ref (y 13), .ref (y 14), .ref (y 15), .ref (y 16), .ref (y 17), .ref (y 18), .ref (y 19), .ref (y 20), .ref (y 21), .ref (y 22), .ref (y 23), .ref (y 24), .int w_given, .long w_fresh, .ref (y 25), .ref (y 26), .ref (y 27), .ref (y 28), .ref (y 29), .ref (y 30), .ref (y 31), .ref (y 32), .ref (y 33), .ref (y 34), .ref (y 35), .ref (y 36), .ref (y 37), .int w_done, .int w_moreAsked, .ref (y 38), .long w_g, .int w_gone, .int w_stopped]))] rfl (fun H locs hw hS => ?_)
                    refine lv_iload_n hx hb dX12_rests_149 rfl (lv_at hl 7 rfl) ?_
                    refine lv_iconst (v := (-1)) hx hb dX12_rests_150 (by decide) ?_
                    refine lv_icmp_ne (tgt := 159) hx hb dX12_rests_151 (by decide) (fun h => absurd (c_139) h) (fun _ => ?_)
                    refine lv_iload hx hb dX12_rests_154 (lv_at hl 3 rfl) ?_
                    refine lv_goto (tgt := 160) hx hb dX12_rests_156 (by decide) ?_
                    exact ziret hx hb hr (rfl) hlocks () (congrArg (fun z => some (Value.int z)) (zrv_some (by rw [zrs, if_neg c_2, if_neg c_5, if_pos (zsge (r := p1) (w := p2) c_7), zrq0, if_pos (show zat0 p2 = 0 from if_neg c_16), zrq1, if_neg (show ¬ zat1 p1 p2 = 0 by rw [zat1, if_neg c_101, if_pos c_128]; decide), if_neg c_129, zrq3, if_pos (show zat3 p1 p2 = 0 from if_pos c_137), zrq4, if_pos c_139]))) (trivial) hw [0] rfl (by rw [show zth p1 p2 p3 = 0 from zth_some (v := 1) (by rw [zrs, if_neg c_2, if_neg c_5, if_pos (zsge (r := p1) (w := p2) c_7), zrq0, if_pos (show zat0 p2 = 0 from if_neg c_16), zrq1, if_neg (show ¬ zat1 p1 p2 = 0 by rw [zat1, if_neg c_101, if_pos c_128]; decide), if_neg c_129, zrq3, if_pos (show zat3 p1 p2 = 0 from if_pos c_137), zrq4, if_pos c_139])]; rfl) hS (Nat.le_of_ble_eq_true rfl) (Nat.le_of_ble_eq_true rfl) dX12_rests_160
                · refine lv_iload_n hx hb dX12_rests_91 rfl (lv_at hl 5 rfl) ?_
                  refine lv_iload_n hx hb dX12_rests_92 rfl (lv_at hl 6 rfl) ?_
                  refine lv_iload hx hb dX12_rests_93 (lv_at hl 1 rfl) ?_
                  refine lv_iconst (v := 1) hx hb dX12_rests_95 (by decide) ?_
                  refine lv_iload hx hb dX12_rests_96 (lv_at hl 0 rfl) ?_
                  refine lv_isub hx hb dX12_rests_98 ?_
                  refine ztop (.int 0) (congrArg Value.int (by decide)) ?_
                  refine zcall2 (va_runS (As := [.int p1, .int p2, .int 1, .int 0]) (rest := []) ⟨hx, hb, hml, hown, hts⟩ (c_mt10 l D ct p1 p2 H.size) (va_cwS 4 hts gX12_rests_X12_travellerGets rfl rfl rfl (by decide +kernel) ⟨Nat.le_of_ble_eq_true rfl, Nat.le_of_ble_eq_true rfl⟩) (zpreS hK hw hS hA zZ.nil hN [] rfl rfl) rfl rfl hl.1 rfl (lv_room (Nat.le_of_ble_eq_true rfl)) dX12_rests_99 ⟨Nat.le_of_ble_eq_true rfl, Nat.le_of_ble_eq_true rfl⟩) hw hS hA [] [0] rfl rfl rfl rfl (fun _ H locs hp142 hw hS => ?_)
                  have hw : zPD D A [(h0, .inr (11, [.int 0, .int w_taped, .ref (y 0), .int w_size, .int w_place, .int w_begin, .int w_token, .long w_word, .int w_told, .int w_wrong, .ref (y 1), .ref (y 2), .ref (y 3), .ref (y 4), .ref (y 5), .ref (y 6), .ref (y 7), .ref (y 8), .ref (y 9), .ref (y 10), .ref (y 11), .ref (y 12), .int w_code, .int w_toldLines, .ref (y 13), .ref (y 14), .ref (y 15), .ref (y 16), .ref (y 17), .ref (y 18), .ref (y 19), .ref (y 20), .ref (y 21), .ref (y 22), .ref (y 23), .ref (y 24), .int w_given, .long w_fresh, .ref (y 25), .ref (y 26), .ref (y 27), .ref (y 28), .ref (y 29), .ref (y 30), .ref (y 31), .ref (y 32), .ref (y 33), .ref (y 34), .ref (y 35), .ref (y 36), .ref (y 37), .int w_done, .int w_moreAsked, .ref (y 38), .long w_g, .int w_gone, .int w_stopped]))] H := hw
                  refine zfr 102 [.int 0] rfl rfl ?_
                  refine lv_iload_n hx hb dX12_rests_102 rfl (lv_at hl 5 rfl) ?_
                  refine lv_iload_n hx hb dX12_rests_103 rfl (lv_at hl 6 rfl) ?_
                  refine lv_iload hx hb dX12_rests_104 (lv_at hl 1 rfl) ?_
                  refine lv_iload hx hb dX12_rests_106 (lv_at hl 0 rfl) ?_
                  refine zcall2 (va_runS (As := [.int p1, .int p2, .int 1, .int 1]) (rest := [.int 0]) ⟨hx, hb, hml, hown, hts⟩ (c_mt11 l D ct p1 p2 H.size) (va_cwS 4 hts gX12_rests_X12_travellerGets rfl rfl rfl (by decide +kernel) ⟨Nat.le_of_ble_eq_true rfl, Nat.le_of_ble_eq_true rfl⟩) (zpreS hK hw hS hA zZ.nil hN [] rfl rfl) rfl rfl hl.1 rfl (lv_room (Nat.le_of_ble_eq_true rfl)) dX12_rests_108 ⟨Nat.le_of_ble_eq_true rfl, Nat.le_of_ble_eq_true rfl⟩) hw hS hA [] [0] rfl rfl rfl rfl (fun _ H locs hp143 hw hS => ?_)
                  have hw : zPD D A [(h0, .inr (11, [.int 0, .int w_taped, .ref (y 0), .int w_size, .int w_place, .int w_begin, .int w_token, .long w_word, .int w_told, .int w_wrong, .ref (y 1), .ref (y 2), .ref (y 3), .ref (y 4), .ref (y 5), .ref (y 6), .ref (y 7), .ref (y 8), .ref (y 9), .ref (y 10), .ref (y 11), .ref (y 12), .int w_code, .int w_toldLines, .ref (y 13), .ref (y 14), .ref (y 15), .ref (y 16), .ref (y 17), .ref (y 18), .ref (y 19), .ref (y 20), .ref (y 21), .ref (y 22), .ref (y 23), .ref (y 24), .int w_given, .long w_fresh, .ref (y 25), .ref (y 26), .ref (y 27), .ref (y 28), .ref (y 29), .ref (y 30), .ref (y 31), .ref (y 32), .ref (y 33), .ref (y 34), .ref (y 35), .ref (y 36), .ref (y 37), .int w_done, .int w_moreAsked, .ref (y 38), .long w_g, .int w_gone, .int w_stopped]))] H := hw
                  refine zfr 111 [.int (-p1), .int 0] rfl rfl ?_
                  refine lv_icmp_le (tgt := 117) hx hb dX12_rests_111 (by decide) (fun c_144 => ?_) (fun c_144 => ?_)
                  · refine lv_iload hx hb dX12_rests_117 (lv_at hl 3 rfl) ?_
                    refine lv_iload_n hx hb dX12_rests_119 rfl (lv_at hl 7 rfl) ?_
                    refine lv_icmp_ne (tgt := 126) hx hb dX12_rests_120 (by decide) (fun c_145 => ?_) (fun c_145 => ?_)
                    · refine lv_iinc (v := 2) (lv' := [(4, .int 2), (7, .int 1), (6, .int 1), (5, .int 3), (0, .ref h0), (1, .int p1), (2, .int p2), (3, .int p3)]) hx hb dX12_rests_126 hl (k := 3) rfl (by decide) (by decide) rfl (fun ls hl => ?_)
                      refine lv_iinc (v := 4) (lv' := [(5, .int 4), (4, .int 2), (7, .int 1), (6, .int 1), (0, .ref h0), (1, .int p1), (2, .int p2), (3, .int p3)]) hx hb dX12_rests_129 hl (k := 3) rfl (by decide) (by decide) rfl (fun ls hl => ?_)
                      refine lv_goto (tgt := 50) hx hb dX12_rests_132 (by decide) ?_
                      refine lv_iload hx hb dX12_rests_50 (lv_at hl 0 rfl) ?_
                      refine lv_iconst (v := 4) hx hb dX12_rests_52 (by decide) ?_
                      refine lv_icmp_ge (tgt := 135) hx hb dX12_rests_53 (by decide) (fun _ => ?_) (fun h => absurd (by decide) h)
                      refine lv_aload_n hx hb dX12_rests_135 rfl (lv_at hl 4 rfl) ?_
                      refine lv_iload_n hx hb dX12_rests_136 rfl (lv_at hl 7 rfl) ?_
                      refine lv_iconst (v := (-1)) hx hb dX12_rests_137 (by decide) ?_
                      refine lv_icmp_ne (tgt := 145) hx hb dX12_rests_138 (by decide) (fun c_147 => ?_) (fun c_147 => ?_)
                      · refine lv_iconst (v := 1) hx hb dX12_rests_145 (by decide) ?_
                        refine zput (D := D) (ci := 11) (v := .int 1) (ty := .int) hx hb hts hiX12 tyX12 tyX12_ok nmX12 hown hK hw hS 0 rfl rfl 0 (by decide) (hts (.fieldLink RX12 129 "BeardPassModel" "thrown" "I") (by decide +kernel)) (fun _ h9 => h9) rfl (by decide +kernel) rfl rfl (Nat.le_of_ble_eq_true rfl) dX12_rests_146 [(h0, .inr (11, [.int 1, .int w_taped, .ref (y 0), .int w_size, .int w_place, .int w_begin, .int w_token, .long w_word, .int w_told, .int w_wrong, .ref (y 1), .ref (y 2), .ref (y 3), .ref (y 4), .ref (y 5), .ref (y 6), .ref (y 7), .ref (y 8), .ref (y 9), .ref (y 10), .ref (y 11), .ref (y 12), .int w_code, .int w_toldLines, .ref (y 13), .ref (y 14), .ref (y 15), .ref (y 16), .ref (y 17), .ref (y 18), .ref (y 19), .ref (y 20), .ref (y 21), .ref (y 22), .ref (y 23), .ref (y 24), .int w_given, .long w_fresh, .ref (y 25), .ref (y 26), .ref (y 27), .ref (y 28), .ref (y 29), .ref (y 30), .ref (y 31), .ref (y 32), .ref (y 33), .ref (y 34), .ref (y 35), .ref (y 36), .ref (y 37), .int w_done, .int w_moreAsked, .ref (y 38), .long w_g, .int w_gone, .int w_stopped]))] rfl (fun H locs hw hS => ?_)
                        refine lv_iload_n hx hb dX12_rests_149 rfl (lv_at hl 7 rfl) ?_
                        refine lv_iconst (v := (-1)) hx hb dX12_rests_150 (by decide) ?_
                        refine lv_icmp_ne (tgt := 159) hx hb dX12_rests_151 (by decide) (fun _ => ?_) (fun h => absurd h (c_147))
                        refine lv_iconst (v := 0) hx hb dX12_rests_159 (by decide) ?_
                        exact ziret hx hb hr (rfl) hlocks () (congrArg (fun z => some (Value.int z)) (zrv_none (by rw [zrs, if_neg c_2, if_neg c_5, if_pos (zsge (r := p1) (w := p2) c_7), zrq0, if_pos (show zat0 p2 = 0 from if_neg c_16), zrq1, if_neg (show ¬ zat1 p1 p2 = 0 by rw [zat1, if_neg c_101, if_pos c_128]; decide), if_neg c_129, zrq3, if_neg (show ¬ zat3 p1 p2 = 0 by rw [zat3, if_neg c_137, if_pos c_144]; decide), if_neg c_145, zrq4, if_neg c_147]))) (trivial) hw [0] rfl (by rw [show zth p1 p2 p3 = 1 from zth_none (by rw [zrs, if_neg c_2, if_neg c_5, if_pos (zsge (r := p1) (w := p2) c_7), zrq0, if_pos (show zat0 p2 = 0 from if_neg c_16), zrq1, if_neg (show ¬ zat1 p1 p2 = 0 by rw [zat1, if_neg c_101, if_pos c_128]; decide), if_neg c_129, zrq3, if_neg (show ¬ zat3 p1 p2 = 0 by rw [zat3, if_neg c_137, if_pos c_144]; decide), if_neg c_145, zrq4, if_neg c_147])]; rfl) hS (Nat.le_of_ble_eq_true rfl) (Nat.le_of_ble_eq_true rfl) dX12_rests_160
                      · refine lv_iconst (v := 0) hx hb dX12_rests_141 (by decide) ?_
                        refine lv_goto (tgt := 146) hx hb dX12_rests_142 (by decide) ?_
                        refine zput (D := D) (ci := 11) (v := .int 0) (ty := .int) hx hb hts hiX12 tyX12 tyX12_ok nmX12 hown hK hw hS 0 rfl rfl 0 (by decide) (hts (.fieldLink RX12 129 "BeardPassModel" "thrown" "I") (by decide +kernel)) (fun _ h9 => h9) rfl (by decide +kernel) rfl rfl (Nat.le_of_ble_eq_true rfl) dX12_rests_146 [(h0, .inr (11, [.int 0, .int w_taped, .ref (y 0), .int w_size, .int w_place, .int w_begin, .int w_token, .long w_word, .int w_told, .int w_wrong, .ref (y 1), .ref (y 2), .ref (y 3), .ref (y 4), .ref (y 5), .ref (y 6), .ref (y 7), .ref (y 8), .ref (y 9), .ref (y 10), .ref (y 11), .ref (y 12), .int w_code, .int w_toldLines, .ref (y 13), .ref (y 14), .ref (y 15), .ref (y 16), .ref (y 17), .ref (y 18), .ref (y 19), .ref (y 20), .ref (y 21), .ref (y 22), .ref (y 23), .ref (y 24), .int w_given, .long w_fresh, .ref (y 25), .ref (y 26), .ref (y 27), .ref (y 28), .ref (y 29), .ref (y 30), .ref (y 31), .ref (y 32), .ref (y 33), .ref (y 34), .ref (y 35), .ref (y 36), .ref (y 37), .int w_done, .int w_moreAsked, .ref (y 38), .long w_g, .int w_gone, .int w_stopped]))] rfl (fun H locs hw hS => ?_)
                        refine lv_iload_n hx hb dX12_rests_149 rfl (lv_at hl 7 rfl) ?_
                        refine lv_iconst (v := (-1)) hx hb dX12_rests_150 (by decide) ?_
                        refine lv_icmp_ne (tgt := 159) hx hb dX12_rests_151 (by decide) (fun h => absurd (c_147) h) (fun _ => ?_)
                        refine lv_iload hx hb dX12_rests_154 (lv_at hl 1 rfl) ?_
                        refine lv_goto (tgt := 160) hx hb dX12_rests_156 (by decide) ?_
                        exact ziret hx hb hr (rfl) hlocks () (congrArg (fun z => some (Value.int z)) (zrv_some (by rw [zrs, if_neg c_2, if_neg c_5, if_pos (zsge (r := p1) (w := p2) c_7), zrq0, if_pos (show zat0 p2 = 0 from if_neg c_16), zrq1, if_neg (show ¬ zat1 p1 p2 = 0 by rw [zat1, if_neg c_101, if_pos c_128]; decide), if_neg c_129, zrq3, if_neg (show ¬ zat3 p1 p2 = 0 by rw [zat3, if_neg c_137, if_pos c_144]; decide), if_neg c_145, zrq4, if_pos c_147]))) (trivial) hw [0] rfl (by rw [show zth p1 p2 p3 = 0 from zth_some (v := 2) (by rw [zrs, if_neg c_2, if_neg c_5, if_pos (zsge (r := p1) (w := p2) c_7), zrq0, if_pos (show zat0 p2 = 0 from if_neg c_16), zrq1, if_neg (show ¬ zat1 p1 p2 = 0 by rw [zat1, if_neg c_101, if_pos c_128]; decide), if_neg c_129, zrq3, if_neg (show ¬ zat3 p1 p2 = 0 by rw [zat3, if_neg c_137, if_pos c_144]; decide), if_neg c_145, zrq4, if_pos c_147])]; rfl) hS (Nat.le_of_ble_eq_true rfl) (Nat.le_of_ble_eq_true rfl) dX12_rests_160
                    · refine lv_iload hx hb dX12_rests_123 (lv_at hl 2 rfl) ?_
                      exact ziret hx hb hr (rfl) hlocks () (congrArg (fun z => some (Value.int z)) (zrv_some (by rw [zrs, if_neg c_2, if_neg c_5, if_pos (zsge (r := p1) (w := p2) c_7), zrq0, if_pos (show zat0 p2 = 0 from if_neg c_16), zrq1, if_neg (show ¬ zat1 p1 p2 = 0 by rw [zat1, if_neg c_101, if_pos c_128]; decide), if_neg c_129, zrq3, if_neg (show ¬ zat3 p1 p2 = 0 by rw [zat3, if_neg c_137, if_pos c_144]; decide), if_pos c_145]))) (trivial) hw [0] rfl (by rw [show zth p1 p2 p3 = 0 from zth_some (v := 3) (by rw [zrs, if_neg c_2, if_neg c_5, if_pos (zsge (r := p1) (w := p2) c_7), zrq0, if_pos (show zat0 p2 = 0 from if_neg c_16), zrq1, if_neg (show ¬ zat1 p1 p2 = 0 by rw [zat1, if_neg c_101, if_pos c_128]; decide), if_neg c_129, zrq3, if_neg (show ¬ zat3 p1 p2 = 0 by rw [zat3, if_neg c_137, if_pos c_144]; decide), if_pos c_145])]; rfl) hS (Nat.le_of_ble_eq_true rfl) (Nat.le_of_ble_eq_true rfl) dX12_rests_125
                  · refine lv_goto (tgt := 129) hx hb dX12_rests_114 (by decide) ?_
                    refine lv_iinc (v := 4) (lv' := [(5, .int 4), (7, .int 1), (6, .int 1), (4, .int 1), (0, .ref h0), (1, .int p1), (2, .int p2), (3, .int p3)]) hx hb dX12_rests_129 hl (k := 2) rfl (by decide) (by decide) rfl (fun ls hl => ?_)
                    refine lv_goto (tgt := 50) hx hb dX12_rests_132 (by decide) ?_
                    refine lv_iload hx hb dX12_rests_50 (lv_at hl 0 rfl) ?_
                    refine lv_iconst (v := 4) hx hb dX12_rests_52 (by decide) ?_
                    refine lv_icmp_ge (tgt := 135) hx hb dX12_rests_53 (by decide) (fun _ => ?_) (fun h => absurd (by decide) h)
                    refine lv_aload_n hx hb dX12_rests_135 rfl (lv_at hl 4 rfl) ?_
                    refine lv_iload_n hx hb dX12_rests_136 rfl (lv_at hl 7 rfl) ?_
                    refine lv_iconst (v := (-1)) hx hb dX12_rests_137 (by decide) ?_
                    refine lv_icmp_ne (tgt := 145) hx hb dX12_rests_138 (by decide) (fun c_151 => ?_) (fun c_151 => ?_)
                    · refine lv_iconst (v := 1) hx hb dX12_rests_145 (by decide) ?_
                      refine zput (D := D) (ci := 11) (v := .int 1) (ty := .int) hx hb hts hiX12 tyX12 tyX12_ok nmX12 hown hK hw hS 0 rfl rfl 0 (by decide) (hts (.fieldLink RX12 129 "BeardPassModel" "thrown" "I") (by decide +kernel)) (fun _ h9 => h9) rfl (by decide +kernel) rfl rfl (Nat.le_of_ble_eq_true rfl) dX12_rests_146 [(h0, .inr (11, [.int 1, .int w_taped, .ref (y 0), .int w_size, .int w_place, .int w_begin, .int w_token, .long w_word, .int w_told, .int w_wrong, .ref (y 1), .ref (y 2), .ref (y 3), .ref (y 4), .ref (y 5), .ref (y 6), .ref (y 7), .ref (y 8), .ref (y 9), .ref (y 10), .ref (y 11), .ref (y 12), .int w_code, .int w_toldLines, .ref (y 13), .ref (y 14), .ref (y 15), .ref (y 16), .ref (y 17), .ref (y 18), .ref (y 19), .ref (y 20), .ref (y 21), .ref (y 22), .ref (y 23), .ref (y 24), .int w_given, .long w_fresh, .ref (y 25), .ref (y 26), .ref (y 27), .ref (y 28), .ref (y 29), .ref (y 30), .ref (y 31), .ref (y 32), .ref (y 33), .ref (y 34), .ref (y 35), .ref (y 36), .ref (y 37), .int w_done, .int w_moreAsked, .ref (y 38), .long w_g, .int w_gone, .int w_stopped]))] rfl (fun H locs hw hS => ?_)
                      refine lv_iload_n hx hb dX12_rests_149 rfl (lv_at hl 7 rfl) ?_
                      refine lv_iconst (v := (-1)) hx hb dX12_rests_150 (by decide) ?_
                      refine lv_icmp_ne (tgt := 159) hx hb dX12_rests_151 (by decide) (fun _ => ?_) (fun h => absurd h (c_151))
                      refine lv_iconst (v := 0) hx hb dX12_rests_159 (by decide) ?_
                      exact ziret hx hb hr (rfl) hlocks () (congrArg (fun z => some (Value.int z)) (zrv_none (by rw [zrs, if_neg c_2, if_neg c_5, if_pos (zsge (r := p1) (w := p2) c_7), zrq0, if_pos (show zat0 p2 = 0 from if_neg c_16), zrq1, if_neg (show ¬ zat1 p1 p2 = 0 by rw [zat1, if_neg c_101, if_pos c_128]; decide), if_neg c_129, zrq3, if_pos (show zat3 p1 p2 = 0 from (if_neg c_137).trans (if_neg c_144)), zrq4, if_neg c_151]))) (trivial) hw [0] rfl (by rw [show zth p1 p2 p3 = 1 from zth_none (by rw [zrs, if_neg c_2, if_neg c_5, if_pos (zsge (r := p1) (w := p2) c_7), zrq0, if_pos (show zat0 p2 = 0 from if_neg c_16), zrq1, if_neg (show ¬ zat1 p1 p2 = 0 by rw [zat1, if_neg c_101, if_pos c_128]; decide), if_neg c_129, zrq3, if_pos (show zat3 p1 p2 = 0 from (if_neg c_137).trans (if_neg c_144)), zrq4, if_neg c_151])]; rfl) hS (Nat.le_of_ble_eq_true rfl) (Nat.le_of_ble_eq_true rfl) dX12_rests_160
                    · refine lv_iconst (v := 0) hx hb dX12_rests_141 (by decide) ?_
                      refine lv_goto (tgt := 146) hx hb dX12_rests_142 (by decide) ?_
                      refine zput (D := D) (ci := 11) (v := .int 0) (ty := .int) hx hb hts hiX12 tyX12 tyX12_ok nmX12 hown hK hw hS 0 rfl rfl 0 (by decide) (hts (.fieldLink RX12 129 "BeardPassModel" "thrown" "I") (by decide +kernel)) (fun _ h9 => h9) rfl (by decide +kernel) rfl rfl (Nat.le_of_ble_eq_true rfl) dX12_rests_146 [(h0, .inr (11, [.int 0, .int w_taped, .ref (y 0), .int w_size, .int w_place, .int w_begin, .int w_token, .long w_word, .int w_told, .int w_wrong, .ref (y 1), .ref (y 2), .ref (y 3), .ref (y 4), .ref (y 5), .ref (y 6), .ref (y 7), .ref (y 8), .ref (y 9), .ref (y 10), .ref (y 11), .ref (y 12), .int w_code, .int w_toldLines, .ref (y 13), .ref (y 14), .ref (y 15), .ref (y 16), .ref (y 17), .ref (y 18), .ref (y 19), .ref (y 20), .ref (y 21), .ref (y 22), .ref (y 23), .ref (y 24), .int w_given, .long w_fresh, .ref (y 25), .ref (y 26), .ref (y 27), .ref (y 28), .ref (y 29), .ref (y 30), .ref (y 31), .ref (y 32), .ref (y 33), .ref (y 34), .ref (y 35), .ref (y 36), .ref (y 37), .int w_done, .int w_moreAsked, .ref (y 38), .long w_g, .int w_gone, .int w_stopped]))] rfl (fun H locs hw hS => ?_)
                      refine lv_iload_n hx hb dX12_rests_149 rfl (lv_at hl 7 rfl) ?_
                      refine lv_iconst (v := (-1)) hx hb dX12_rests_150 (by decide) ?_
                      refine lv_icmp_ne (tgt := 159) hx hb dX12_rests_151 (by decide) (fun h => absurd (c_151) h) (fun _ => ?_)
                      refine lv_iload hx hb dX12_rests_154 (lv_at hl 3 rfl) ?_
                      refine lv_goto (tgt := 160) hx hb dX12_rests_156 (by decide) ?_
                      exact ziret hx hb hr (rfl) hlocks () (congrArg (fun z => some (Value.int z)) (zrv_some (by rw [zrs, if_neg c_2, if_neg c_5, if_pos (zsge (r := p1) (w := p2) c_7), zrq0, if_pos (show zat0 p2 = 0 from if_neg c_16), zrq1, if_neg (show ¬ zat1 p1 p2 = 0 by rw [zat1, if_neg c_101, if_pos c_128]; decide), if_neg c_129, zrq3, if_pos (show zat3 p1 p2 = 0 from (if_neg c_137).trans (if_neg c_144)), zrq4, if_pos c_151]))) (trivial) hw [0] rfl (by rw [show zth p1 p2 p3 = 0 from zth_some (v := 1) (by rw [zrs, if_neg c_2, if_neg c_5, if_pos (zsge (r := p1) (w := p2) c_7), zrq0, if_pos (show zat0 p2 = 0 from if_neg c_16), zrq1, if_neg (show ¬ zat1 p1 p2 = 0 by rw [zat1, if_neg c_101, if_pos c_128]; decide), if_neg c_129, zrq3, if_pos (show zat3 p1 p2 = 0 from (if_neg c_137).trans (if_neg c_144)), zrq4, if_pos c_151])]; rfl) hS (Nat.le_of_ble_eq_true rfl) (Nat.le_of_ble_eq_true rfl) dX12_rests_160
              · refine lv_iload hx hb dX12_rests_123 (lv_at hl 2 rfl) ?_
                exact ziret hx hb hr (rfl) hlocks () (congrArg (fun z => some (Value.int z)) (zrv_some (by rw [zrs, if_neg c_2, if_neg c_5, if_pos (zsge (r := p1) (w := p2) c_7), zrq0, if_pos (show zat0 p2 = 0 from if_neg c_16), zrq1, if_neg (show ¬ zat1 p1 p2 = 0 by rw [zat1, if_neg c_101, if_pos c_128]; decide), if_pos c_129]))) (trivial) hw [0] rfl (by rw [show zth p1 p2 p3 = 0 from zth_some (v := 1) (by rw [zrs, if_neg c_2, if_neg c_5, if_pos (zsge (r := p1) (w := p2) c_7), zrq0, if_pos (show zat0 p2 = 0 from if_neg c_16), zrq1, if_neg (show ¬ zat1 p1 p2 = 0 by rw [zat1, if_neg c_101, if_pos c_128]; decide), if_pos c_129])]; rfl) hS (Nat.le_of_ble_eq_true rfl) (Nat.le_of_ble_eq_true rfl) dX12_rests_125
            · refine lv_goto (tgt := 129) hx hb dX12_rests_114 (by decide) ?_
              refine lv_iinc (v := 2) (lv' := [(5, .int 2), (7, .int 1), (6, .int 0), (4, .int 0), (0, .ref h0), (1, .int p1), (2, .int p2), (3, .int p3)]) hx hb dX12_rests_129 hl (k := 2) rfl (by decide) (by decide) rfl (fun ls hl => ?_)
              refine lv_goto (tgt := 50) hx hb dX12_rests_132 (by decide) ?_
              refine lv_iload hx hb dX12_rests_50 (lv_at hl 0 rfl) ?_
              refine lv_iconst (v := 4) hx hb dX12_rests_52 (by decide) ?_
              refine lv_icmp_ge (tgt := 135) hx hb dX12_rests_53 (by decide) (fun h => absurd h (by decide)) (fun _ => ?_)
              refine lv_iload hx hb dX12_rests_56 (lv_at hl 0 rfl) ?_
              refine lv_iconst (v := 2) hx hb dX12_rests_58 (by decide) ?_
              refine lv_idiv hx hb dX12_rests_59 (by decide) ?_
              refine ztop (.int 1) (congrArg Value.int (by decide)) ?_
              refine lv_istore (lv' := [(6, .int 1), (5, .int 2), (7, .int 1), (4, .int 0), (0, .ref h0), (1, .int p1), (2, .int p2), (3, .int p3)]) hx hb dX12_rests_60 hl (by decide) rfl (fun ls hl => ?_)
              refine lv_iload hx hb dX12_rests_62 (lv_at hl 1 rfl) ?_
              refine lv_iconst (v := 2) hx hb dX12_rests_64 (by decide) ?_
              refine lv_irem hx hb dX12_rests_65 (by decide) ?_
              refine ztop (.int 0) (congrArg Value.int (by decide)) ?_
              refine lv_istore (lv' := [(7, .int 0), (6, .int 1), (5, .int 2), (4, .int 0), (0, .ref h0), (1, .int p1), (2, .int p2), (3, .int p3)]) hx hb dX12_rests_66 hl (by decide) rfl (fun ls hl => ?_)
              refine lv_iload_n hx hb dX12_rests_68 rfl (lv_at hl 5 rfl) ?_
              refine lv_iload_n hx hb dX12_rests_69 rfl (lv_at hl 6 rfl) ?_
              refine lv_iconst (v := 1) hx hb dX12_rests_70 (by decide) ?_
              refine lv_iload hx hb dX12_rests_71 (lv_at hl 1 rfl) ?_
              refine lv_isub hx hb dX12_rests_73 ?_
              refine ztop (.int 0) (congrArg Value.int (by decide)) ?_
              refine lv_iload hx hb dX12_rests_74 (lv_at hl 0 rfl) ?_
              refine zcall2 (va_runS (As := [.int p1, .int p2, .int 0, .int 0]) (rest := []) ⟨hx, hb, hml, hown, hts⟩ (c_mg00 l D ct p1 p2 H.size) (va_cwS 4 hts gX12_rests_X12_guardGets rfl rfl rfl (by decide +kernel) ⟨Nat.le_of_ble_eq_true rfl, Nat.le_of_ble_eq_true rfl⟩) (zpreS hK hw hS hA zZ.nil hN [] rfl rfl) rfl rfl hl.1 rfl (lv_room (Nat.le_of_ble_eq_true rfl)) dX12_rests_76 ⟨Nat.le_of_ble_eq_true rfl, Nat.le_of_ble_eq_true rfl⟩) hw hS hA [] [0] rfl rfl rfl rfl (fun _ H locs hp155 hw hS => ?_)
              have hw : zPD D A [(h0, .inr (11, [.int 0, .int w_taped, .ref (y 0), .int w_size, .int w_place, .int w_begin, .int w_token, .long w_word, .int w_told, .int w_wrong, .ref (y 1), .ref (y 2), .ref (y 3), .ref (y 4), .ref (y 5), .ref (y 6), .ref (y 7), .ref (y 8), .ref (y 9), .ref (y 10), .ref (y 11), .ref (y 12), .int w_code, .int w_toldLines, .ref (y 13), .ref (y 14), .ref (y 15), .ref (y 16), .ref (y 17), .ref (y 18), .ref (y 19), .ref (y 20), .ref (y 21), .ref (y 22), .ref (y 23), .ref (y 24), .int w_given, .long w_fresh, .ref (y 25), .ref (y 26), .ref (y 27), .ref (y 28), .ref (y 29), .ref (y 30), .ref (y 31), .ref (y 32), .ref (y 33), .ref (y 34), .ref (y 35), .ref (y 36), .ref (y 37), .int w_done, .int w_moreAsked, .ref (y 38), .long w_g, .int w_gone, .int w_stopped]))] H := hw
              refine zfr 79 [.int 0] rfl rfl ?_
              refine lv_iload_n hx hb dX12_rests_79 rfl (lv_at hl 5 rfl) ?_
              refine lv_iload_n hx hb dX12_rests_80 rfl (lv_at hl 6 rfl) ?_
              refine lv_iload hx hb dX12_rests_81 (lv_at hl 1 rfl) ?_
              refine lv_iload hx hb dX12_rests_83 (lv_at hl 0 rfl) ?_
              refine zcall2 (va_runS (As := [.int p1, .int p2, .int 1, .int 0]) (rest := [.int 0]) ⟨hx, hb, hml, hown, hts⟩ (c_mg10 l D ct p1 p2 H.size) (va_cwS 4 hts gX12_rests_X12_guardGets rfl rfl rfl (by decide +kernel) ⟨Nat.le_of_ble_eq_true rfl, Nat.le_of_ble_eq_true rfl⟩) (zpreS hK hw hS hA zZ.nil hN [] rfl rfl) rfl rfl hl.1 rfl (lv_room (Nat.le_of_ble_eq_true rfl)) dX12_rests_85 ⟨Nat.le_of_ble_eq_true rfl, Nat.le_of_ble_eq_true rfl⟩) hw hS hA [] [0] rfl rfl rfl rfl (fun _ H locs hp156 hw hS => ?_)
              have hw : zPD D A [(h0, .inr (11, [.int 0, .int w_taped, .ref (y 0), .int w_size, .int w_place, .int w_begin, .int w_token, .long w_word, .int w_told, .int w_wrong, .ref (y 1), .ref (y 2), .ref (y 3), .ref (y 4), .ref (y 5), .ref (y 6), .ref (y 7), .ref (y 8), .ref (y 9), .ref (y 10), .ref (y 11), .ref (y 12), .int w_code, .int w_toldLines, .ref (y 13), .ref (y 14), .ref (y 15), .ref (y 16), .ref (y 17), .ref (y 18), .ref (y 19), .ref (y 20), .ref (y 21), .ref (y 22), .ref (y 23), .ref (y 24), .int w_given, .long w_fresh, .ref (y 25), .ref (y 26), .ref (y 27), .ref (y 28), .ref (y 29), .ref (y 30), .ref (y 31), .ref (y 32), .ref (y 33), .ref (y 34), .ref (y 35), .ref (y 36), .ref (y 37), .int w_done, .int w_moreAsked, .ref (y 38), .long w_g, .int w_gone, .int w_stopped]))] H := hw
              refine zfr 88 [.int (-1), .int 0] rfl rfl ?_
              refine lv_icmp_gt (tgt := 129) hx hb dX12_rests_88 (by decide) (fun _ => ?_) (fun h => absurd (by decide) h)
              refine lv_iinc (v := 3) (lv' := [(5, .int 3), (7, .int 0), (6, .int 1), (4, .int 0), (0, .ref h0), (1, .int p1), (2, .int p2), (3, .int p3)]) hx hb dX12_rests_129 hl (k := 2) rfl (by decide) (by decide) rfl (fun ls hl => ?_)
              refine lv_goto (tgt := 50) hx hb dX12_rests_132 (by decide) ?_
              refine lv_iload hx hb dX12_rests_50 (lv_at hl 0 rfl) ?_
              refine lv_iconst (v := 4) hx hb dX12_rests_52 (by decide) ?_
              refine lv_icmp_ge (tgt := 135) hx hb dX12_rests_53 (by decide) (fun h => absurd h (by decide)) (fun _ => ?_)
              refine lv_iload hx hb dX12_rests_56 (lv_at hl 0 rfl) ?_
              refine lv_iconst (v := 2) hx hb dX12_rests_58 (by decide) ?_
              refine lv_idiv hx hb dX12_rests_59 (by decide) ?_
              refine ztop (.int 1) (congrArg Value.int (by decide)) ?_
              refine lv_istore (lv' := [(6, .int 1), (5, .int 3), (7, .int 0), (4, .int 0), (0, .ref h0), (1, .int p1), (2, .int p2), (3, .int p3)]) hx hb dX12_rests_60 hl (by decide) rfl (fun ls hl => ?_)
              refine lv_iload hx hb dX12_rests_62 (lv_at hl 1 rfl) ?_
              refine lv_iconst (v := 2) hx hb dX12_rests_64 (by decide) ?_
              refine lv_irem hx hb dX12_rests_65 (by decide) ?_
              refine ztop (.int 1) (congrArg Value.int (by decide)) ?_
              refine lv_istore (lv' := [(7, .int 1), (6, .int 1), (5, .int 3), (4, .int 0), (0, .ref h0), (1, .int p1), (2, .int p2), (3, .int p3)]) hx hb dX12_rests_66 hl (by decide) rfl (fun ls hl => ?_)
              refine lv_iload_n hx hb dX12_rests_68 rfl (lv_at hl 5 rfl) ?_
              refine lv_iload_n hx hb dX12_rests_69 rfl (lv_at hl 6 rfl) ?_
              refine lv_iconst (v := 1) hx hb dX12_rests_70 (by decide) ?_
              refine lv_iload hx hb dX12_rests_71 (lv_at hl 1 rfl) ?_
              refine lv_isub hx hb dX12_rests_73 ?_
              refine ztop (.int 0) (congrArg Value.int (by decide)) ?_
              refine lv_iload hx hb dX12_rests_74 (lv_at hl 0 rfl) ?_
              refine zcall2 (va_runS (As := [.int p1, .int p2, .int 0, .int 1]) (rest := []) ⟨hx, hb, hml, hown, hts⟩ (c_mg01 l D ct p1 p2 H.size) (va_cwS 4 hts gX12_rests_X12_guardGets rfl rfl rfl (by decide +kernel) ⟨Nat.le_of_ble_eq_true rfl, Nat.le_of_ble_eq_true rfl⟩) (zpreS hK hw hS hA zZ.nil hN [] rfl rfl) rfl rfl hl.1 rfl (lv_room (Nat.le_of_ble_eq_true rfl)) dX12_rests_76 ⟨Nat.le_of_ble_eq_true rfl, Nat.le_of_ble_eq_true rfl⟩) hw hS hA [] [0] rfl rfl rfl rfl (fun _ H locs hp159 hw hS => ?_)
              have hw : zPD D A [(h0, .inr (11, [.int 0, .int w_taped, .ref (y 0), .int w_size, .int w_place, .int w_begin, .int w_token, .long w_word, .int w_told, .int w_wrong, .ref (y 1), .ref (y 2), .ref (y 3), .ref (y 4), .ref (y 5), .ref (y 6), .ref (y 7), .ref (y 8), .ref (y 9), .ref (y 10), .ref (y 11), .ref (y 12), .int w_code, .int w_toldLines, .ref (y 13), .ref (y 14), .ref (y 15), .ref (y 16), .ref (y 17), .ref (y 18), .ref (y 19), .ref (y 20), .ref (y 21), .ref (y 22), .ref (y 23), .ref (y 24), .int w_given, .long w_fresh, .ref (y 25), .ref (y 26), .ref (y 27), .ref (y 28), .ref (y 29), .ref (y 30), .ref (y 31), .ref (y 32), .ref (y 33), .ref (y 34), .ref (y 35), .ref (y 36), .ref (y 37), .int w_done, .int w_moreAsked, .ref (y 38), .long w_g, .int w_gone, .int w_stopped]))] H := hw
              refine zfr 79 [.int (-p2)] rfl rfl ?_
              refine lv_iload_n hx hb dX12_rests_79 rfl (lv_at hl 5 rfl) ?_
              refine lv_iload_n hx hb dX12_rests_80 rfl (lv_at hl 6 rfl) ?_
              refine lv_iload hx hb dX12_rests_81 (lv_at hl 1 rfl) ?_
              refine lv_iload hx hb dX12_rests_83 (lv_at hl 0 rfl) ?_
              refine zcall2 (va_runS (As := [.int p1, .int p2, .int 1, .int 1]) (rest := [.int (-p2)]) ⟨hx, hb, hml, hown, hts⟩ (c_mg11 l D ct p1 p2 H.size) (va_cwS 4 hts gX12_rests_X12_guardGets rfl rfl rfl (by decide +kernel) ⟨Nat.le_of_ble_eq_true rfl, Nat.le_of_ble_eq_true rfl⟩) (zpreS hK hw hS hA zZ.nil hN [] rfl rfl) rfl rfl hl.1 rfl (lv_room (Nat.le_of_ble_eq_true rfl)) dX12_rests_85 ⟨Nat.le_of_ble_eq_true rfl, Nat.le_of_ble_eq_true rfl⟩) hw hS hA [] [0] rfl rfl rfl rfl (fun _ H locs hp160 hw hS => ?_)
              have hw : zPD D A [(h0, .inr (11, [.int 0, .int w_taped, .ref (y 0), .int w_size, .int w_place, .int w_begin, .int w_token, .long w_word, .int w_told, .int w_wrong, .ref (y 1), .ref (y 2), .ref (y 3), .ref (y 4), .ref (y 5), .ref (y 6), .ref (y 7), .ref (y 8), .ref (y 9), .ref (y 10), .ref (y 11), .ref (y 12), .int w_code, .int w_toldLines, .ref (y 13), .ref (y 14), .ref (y 15), .ref (y 16), .ref (y 17), .ref (y 18), .ref (y 19), .ref (y 20), .ref (y 21), .ref (y 22), .ref (y 23), .ref (y 24), .int w_given, .long w_fresh, .ref (y 25), .ref (y 26), .ref (y 27), .ref (y 28), .ref (y 29), .ref (y 30), .ref (y 31), .ref (y 32), .ref (y 33), .ref (y 34), .ref (y 35), .ref (y 36), .ref (y 37), .int w_done, .int w_moreAsked, .ref (y 38), .long w_g, .int w_gone, .int w_stopped]))] H := hw
              refine zfr 88 [.int p1, .int (-p2)] rfl rfl ?_
              refine lv_icmp_gt (tgt := 129) hx hb dX12_rests_88 (by decide) (fun c_161 => ?_) (fun c_161 => ?_)
              · refine lv_iinc (v := 4) (lv' := [(5, .int 4), (7, .int 1), (6, .int 1), (4, .int 0), (0, .ref h0), (1, .int p1), (2, .int p2), (3, .int p3)]) hx hb dX12_rests_129 hl (k := 2) rfl (by decide) (by decide) rfl (fun ls hl => ?_)
                refine lv_goto (tgt := 50) hx hb dX12_rests_132 (by decide) ?_
                refine lv_iload hx hb dX12_rests_50 (lv_at hl 0 rfl) ?_
                refine lv_iconst (v := 4) hx hb dX12_rests_52 (by decide) ?_
                refine lv_icmp_ge (tgt := 135) hx hb dX12_rests_53 (by decide) (fun _ => ?_) (fun h => absurd (by decide) h)
                refine lv_aload_n hx hb dX12_rests_135 rfl (lv_at hl 4 rfl) ?_
                refine lv_iload_n hx hb dX12_rests_136 rfl (lv_at hl 7 rfl) ?_
                refine lv_iconst (v := (-1)) hx hb dX12_rests_137 (by decide) ?_
                refine lv_icmp_ne (tgt := 145) hx hb dX12_rests_138 (by decide) (fun c_163 => ?_) (fun c_163 => ?_)
                · refine lv_iconst (v := 1) hx hb dX12_rests_145 (by decide) ?_
                  refine zput (D := D) (ci := 11) (v := .int 1) (ty := .int) hx hb hts hiX12 tyX12 tyX12_ok nmX12 hown hK hw hS 0 rfl rfl 0 (by decide) (hts (.fieldLink RX12 129 "BeardPassModel" "thrown" "I") (by decide +kernel)) (fun _ h9 => h9) rfl (by decide +kernel) rfl rfl (Nat.le_of_ble_eq_true rfl) dX12_rests_146 [(h0, .inr (11, [.int 1, .int w_taped, .ref (y 0), .int w_size, .int w_place, .int w_begin, .int w_token, .long w_word, .int w_told, .int w_wrong, .ref (y 1), .ref (y 2), .ref (y 3), .ref (y 4), .ref (y 5), .ref (y 6), .ref (y 7), .ref (y 8), .ref (y 9), .ref (y 10), .ref (y 11), .ref (y 12), .int w_code, .int w_toldLines, .ref (y 13), .ref (y 14), .ref (y 15), .ref (y 16), .ref (y 17), .ref (y 18), .ref (y 19), .ref (y 20), .ref (y 21), .ref (y 22), .ref (y 23), .ref (y 24), .int w_given, .long w_fresh, .ref (y 25), .ref (y 26), .ref (y 27), .ref (y 28), .ref (y 29), .ref (y 30), .ref (y 31), .ref (y 32), .ref (y 33), .ref (y 34), .ref (y 35), .ref (y 36), .ref (y 37), .int w_done, .int w_moreAsked, .ref (y 38), .long w_g, .int w_gone, .int w_stopped]))] rfl (fun H locs hw hS => ?_)
                  refine lv_iload_n hx hb dX12_rests_149 rfl (lv_at hl 7 rfl) ?_
                  refine lv_iconst (v := (-1)) hx hb dX12_rests_150 (by decide) ?_
                  refine lv_icmp_ne (tgt := 159) hx hb dX12_rests_151 (by decide) (fun _ => ?_) (fun h => absurd h (c_163))
                  refine lv_iconst (v := 0) hx hb dX12_rests_159 (by decide) ?_
                  exact ziret hx hb hr (rfl) hlocks () (congrArg (fun z => some (Value.int z)) (zrv_none (by rw [zrs, if_neg c_2, if_neg c_5, if_pos (zsge (r := p1) (w := p2) c_7), zrq0, if_pos (show zat0 p2 = 0 from if_neg c_16), zrq1, if_pos (show zat1 p1 p2 = 0 from (if_neg c_101).trans (if_neg c_128)), zrq3, if_pos (show zat3 p1 p2 = 0 from if_pos c_161), zrq4, if_neg c_163]))) (trivial) hw [0] rfl (by rw [show zth p1 p2 p3 = 1 from zth_none (by rw [zrs, if_neg c_2, if_neg c_5, if_pos (zsge (r := p1) (w := p2) c_7), zrq0, if_pos (show zat0 p2 = 0 from if_neg c_16), zrq1, if_pos (show zat1 p1 p2 = 0 from (if_neg c_101).trans (if_neg c_128)), zrq3, if_pos (show zat3 p1 p2 = 0 from if_pos c_161), zrq4, if_neg c_163])]; rfl) hS (Nat.le_of_ble_eq_true rfl) (Nat.le_of_ble_eq_true rfl) dX12_rests_160
                · refine lv_iconst (v := 0) hx hb dX12_rests_141 (by decide) ?_
                  refine lv_goto (tgt := 146) hx hb dX12_rests_142 (by decide) ?_
                  refine zput (D := D) (ci := 11) (v := .int 0) (ty := .int) hx hb hts hiX12 tyX12 tyX12_ok nmX12 hown hK hw hS 0 rfl rfl 0 (by decide) (hts (.fieldLink RX12 129 "BeardPassModel" "thrown" "I") (by decide +kernel)) (fun _ h9 => h9) rfl (by decide +kernel) rfl rfl (Nat.le_of_ble_eq_true rfl) dX12_rests_146 [(h0, .inr (11, [.int 0, .int w_taped, .ref (y 0), .int w_size, .int w_place, .int w_begin, .int w_token, .long w_word, .int w_told, .int w_wrong, .ref (y 1), .ref (y 2), .ref (y 3), .ref (y 4), .ref (y 5), .ref (y 6), .ref (y 7), .ref (y 8), .ref (y 9), .ref (y 10), .ref (y 11), .ref (y 12), .int w_code, .int w_toldLines, .ref (y 13), .ref (y 14), .ref (y 15), .ref (y 16), .ref (y 17), .ref (y 18), .ref (y 19), .ref (y 20), .ref (y 21), .ref (y 22), .ref (y 23), .ref (y 24), .int w_given, .long w_fresh, .ref (y 25), .ref (y 26), .ref (y 27), .ref (y 28), .ref (y 29), .ref (y 30), .ref (y 31), .ref (y 32), .ref (y 33), .ref (y 34), .ref (y 35), .ref (y 36), .ref (y 37), .int w_done, .int w_moreAsked, .ref (y 38), .long w_g, .int w_gone, .int w_stopped]))] rfl (fun H locs hw hS => ?_)
                  refine lv_iload_n hx hb dX12_rests_149 rfl (lv_at hl 7 rfl) ?_
                  refine lv_iconst (v := (-1)) hx hb dX12_rests_150 (by decide) ?_
                  refine lv_icmp_ne (tgt := 159) hx hb dX12_rests_151 (by decide) (fun h => absurd (c_163) h) (fun _ => ?_)
                  refine lv_iload hx hb dX12_rests_154 (lv_at hl 3 rfl) ?_
                  refine lv_goto (tgt := 160) hx hb dX12_rests_156 (by decide) ?_
                  exact ziret hx hb hr (rfl) hlocks () (congrArg (fun z => some (Value.int z)) (zrv_some (by rw [zrs, if_neg c_2, if_neg c_5, if_pos (zsge (r := p1) (w := p2) c_7), zrq0, if_pos (show zat0 p2 = 0 from if_neg c_16), zrq1, if_pos (show zat1 p1 p2 = 0 from (if_neg c_101).trans (if_neg c_128)), zrq3, if_pos (show zat3 p1 p2 = 0 from if_pos c_161), zrq4, if_pos c_163]))) (trivial) hw [0] rfl (by rw [show zth p1 p2 p3 = 0 from zth_some (v := 0) (by rw [zrs, if_neg c_2, if_neg c_5, if_pos (zsge (r := p1) (w := p2) c_7), zrq0, if_pos (show zat0 p2 = 0 from if_neg c_16), zrq1, if_pos (show zat1 p1 p2 = 0 from (if_neg c_101).trans (if_neg c_128)), zrq3, if_pos (show zat3 p1 p2 = 0 from if_pos c_161), zrq4, if_pos c_163])]; rfl) hS (Nat.le_of_ble_eq_true rfl) (Nat.le_of_ble_eq_true rfl) dX12_rests_160
              · refine lv_iload_n hx hb dX12_rests_91 rfl (lv_at hl 5 rfl) ?_
                refine lv_iload_n hx hb dX12_rests_92 rfl (lv_at hl 6 rfl) ?_
                refine lv_iload hx hb dX12_rests_93 (lv_at hl 1 rfl) ?_
                refine lv_iconst (v := 1) hx hb dX12_rests_95 (by decide) ?_
                refine lv_iload hx hb dX12_rests_96 (lv_at hl 0 rfl) ?_
                refine lv_isub hx hb dX12_rests_98 ?_
                refine ztop (.int 0) (congrArg Value.int (by decide)) ?_
                refine zcall2 (va_runS (As := [.int p1, .int p2, .int 1, .int 0]) (rest := []) ⟨hx, hb, hml, hown, hts⟩ (c_mt10 l D ct p1 p2 H.size) (va_cwS 4 hts gX12_rests_X12_travellerGets rfl rfl rfl (by decide +kernel) ⟨Nat.le_of_ble_eq_true rfl, Nat.le_of_ble_eq_true rfl⟩) (zpreS hK hw hS hA zZ.nil hN [] rfl rfl) rfl rfl hl.1 rfl (lv_room (Nat.le_of_ble_eq_true rfl)) dX12_rests_99 ⟨Nat.le_of_ble_eq_true rfl, Nat.le_of_ble_eq_true rfl⟩) hw hS hA [] [0] rfl rfl rfl rfl (fun _ H locs hp166 hw hS => ?_)
                have hw : zPD D A [(h0, .inr (11, [.int 0, .int w_taped, .ref (y 0), .int w_size, .int w_place, .int w_begin, .int w_token, .long w_word, .int w_told, .int w_wrong, .ref (y 1), .ref (y 2), .ref (y 3), .ref (y 4), .ref (y 5), .ref (y 6), .ref (y 7), .ref (y 8), .ref (y 9), .ref (y 10), .ref (y 11), .ref (y 12), .int w_code, .int w_toldLines, .ref (y 13), .ref (y 14), .ref (y 15), .ref (y 16), .ref (y 17), .ref (y 18), .ref (y 19), .ref (y 20), .ref (y 21), .ref (y 22), .ref (y 23), .ref (y 24), .int w_given, .long w_fresh, .ref (y 25), .ref (y 26), .ref (y 27), .ref (y 28), .ref (y 29), .ref (y 30), .ref (y 31), .ref (y 32), .ref (y 33), .ref (y 34), .ref (y 35), .ref (y 36), .ref (y 37), .int w_done, .int w_moreAsked, .ref (y 38), .long w_g, .int w_gone, .int w_stopped]))] H := hw
                refine zfr 102 [.int 0] rfl rfl ?_
                refine lv_iload_n hx hb dX12_rests_102 rfl (lv_at hl 5 rfl) ?_
                refine lv_iload_n hx hb dX12_rests_103 rfl (lv_at hl 6 rfl) ?_
                refine lv_iload hx hb dX12_rests_104 (lv_at hl 1 rfl) ?_
                refine lv_iload hx hb dX12_rests_106 (lv_at hl 0 rfl) ?_
                refine zcall2 (va_runS (As := [.int p1, .int p2, .int 1, .int 1]) (rest := [.int 0]) ⟨hx, hb, hml, hown, hts⟩ (c_mt11 l D ct p1 p2 H.size) (va_cwS 4 hts gX12_rests_X12_travellerGets rfl rfl rfl (by decide +kernel) ⟨Nat.le_of_ble_eq_true rfl, Nat.le_of_ble_eq_true rfl⟩) (zpreS hK hw hS hA zZ.nil hN [] rfl rfl) rfl rfl hl.1 rfl (lv_room (Nat.le_of_ble_eq_true rfl)) dX12_rests_108 ⟨Nat.le_of_ble_eq_true rfl, Nat.le_of_ble_eq_true rfl⟩) hw hS hA [] [0] rfl rfl rfl rfl (fun _ H locs hp167 hw hS => ?_)
                have hw : zPD D A [(h0, .inr (11, [.int 0, .int w_taped, .ref (y 0), .int w_size, .int w_place, .int w_begin, .int w_token, .long w_word, .int w_told, .int w_wrong, .ref (y 1), .ref (y 2), .ref (y 3), .ref (y 4), .ref (y 5), .ref (y 6), .ref (y 7), .ref (y 8), .ref (y 9), .ref (y 10), .ref (y 11), .ref (y 12), .int w_code, .int w_toldLines, .ref (y 13), .ref (y 14), .ref (y 15), .ref (y 16), .ref (y 17), .ref (y 18), .ref (y 19), .ref (y 20), .ref (y 21), .ref (y 22), .ref (y 23), .ref (y 24), .int w_given, .long w_fresh, .ref (y 25), .ref (y 26), .ref (y 27), .ref (y 28), .ref (y 29), .ref (y 30), .ref (y 31), .ref (y 32), .ref (y 33), .ref (y 34), .ref (y 35), .ref (y 36), .ref (y 37), .int w_done, .int w_moreAsked, .ref (y 38), .long w_g, .int w_gone, .int w_stopped]))] H := hw
                refine zfr 111 [.int (-p1), .int 0] rfl rfl ?_
                refine lv_icmp_le (tgt := 117) hx hb dX12_rests_111 (by decide) (fun c_168 => ?_) (fun c_168 => ?_)
                · refine lv_iload hx hb dX12_rests_117 (lv_at hl 3 rfl) ?_
                  refine lv_iload_n hx hb dX12_rests_119 rfl (lv_at hl 7 rfl) ?_
                  refine lv_icmp_ne (tgt := 126) hx hb dX12_rests_120 (by decide) (fun c_169 => ?_) (fun c_169 => ?_)
                  · refine lv_iinc (v := 1) (lv' := [(4, .int 1), (7, .int 1), (6, .int 1), (5, .int 3), (0, .ref h0), (1, .int p1), (2, .int p2), (3, .int p3)]) hx hb dX12_rests_126 hl (k := 3) rfl (by decide) (by decide) rfl (fun ls hl => ?_)
                    refine lv_iinc (v := 4) (lv' := [(5, .int 4), (4, .int 1), (7, .int 1), (6, .int 1), (0, .ref h0), (1, .int p1), (2, .int p2), (3, .int p3)]) hx hb dX12_rests_129 hl (k := 3) rfl (by decide) (by decide) rfl (fun ls hl => ?_)
                    refine lv_goto (tgt := 50) hx hb dX12_rests_132 (by decide) ?_
                    refine lv_iload hx hb dX12_rests_50 (lv_at hl 0 rfl) ?_
                    refine lv_iconst (v := 4) hx hb dX12_rests_52 (by decide) ?_
                    refine lv_icmp_ge (tgt := 135) hx hb dX12_rests_53 (by decide) (fun _ => ?_) (fun h => absurd (by decide) h)
                    refine lv_aload_n hx hb dX12_rests_135 rfl (lv_at hl 4 rfl) ?_
                    refine lv_iload_n hx hb dX12_rests_136 rfl (lv_at hl 7 rfl) ?_
                    refine lv_iconst (v := (-1)) hx hb dX12_rests_137 (by decide) ?_
                    refine lv_icmp_ne (tgt := 145) hx hb dX12_rests_138 (by decide) (fun c_171 => ?_) (fun c_171 => ?_)
                    · refine lv_iconst (v := 1) hx hb dX12_rests_145 (by decide) ?_
                      refine zput (D := D) (ci := 11) (v := .int 1) (ty := .int) hx hb hts hiX12 tyX12 tyX12_ok nmX12 hown hK hw hS 0 rfl rfl 0 (by decide) (hts (.fieldLink RX12 129 "BeardPassModel" "thrown" "I") (by decide +kernel)) (fun _ h9 => h9) rfl (by decide +kernel) rfl rfl (Nat.le_of_ble_eq_true rfl) dX12_rests_146 [(h0, .inr (11, [.int 1, .int w_taped, .ref (y 0), .int w_size, .int w_place, .int w_begin, .int w_token, .long w_word, .int w_told, .int w_wrong, .ref (y 1), .ref (y 2), .ref (y 3), .ref (y 4), .ref (y 5), .ref (y 6), .ref (y 7), .ref (y 8), .ref (y 9), .ref (y 10), .ref (y 11), .ref (y 12), .int w_code, .int w_toldLines, .ref (y 13), .ref (y 14), .ref (y 15), .ref (y 16), .ref (y 17), .ref (y 18), .ref (y 19), .ref (y 20), .ref (y 21), .ref (y 22), .ref (y 23), .ref (y 24), .int w_given, .long w_fresh, .ref (y 25), .ref (y 26), .ref (y 27), .ref (y 28), .ref (y 29), .ref (y 30), .ref (y 31), .ref (y 32), .ref (y 33), .ref (y 34), .ref (y 35), .ref (y 36), .ref (y 37), .int w_done, .int w_moreAsked, .ref (y 38), .long w_g, .int w_gone, .int w_stopped]))] rfl (fun H locs hw hS => ?_)
                      refine lv_iload_n hx hb dX12_rests_149 rfl (lv_at hl 7 rfl) ?_
                      refine lv_iconst (v := (-1)) hx hb dX12_rests_150 (by decide) ?_
                      refine lv_icmp_ne (tgt := 159) hx hb dX12_rests_151 (by decide) (fun _ => ?_) (fun h => absurd h (c_171))
                      refine lv_iconst (v := 0) hx hb dX12_rests_159 (by decide) ?_
                      exact ziret hx hb hr (rfl) hlocks () (congrArg (fun z => some (Value.int z)) (zrv_none (by rw [zrs, if_neg c_2, if_neg c_5, if_pos (zsge (r := p1) (w := p2) c_7), zrq0, if_pos (show zat0 p2 = 0 from if_neg c_16), zrq1, if_pos (show zat1 p1 p2 = 0 from (if_neg c_101).trans (if_neg c_128)), zrq3, if_neg (show ¬ zat3 p1 p2 = 0 by rw [zat3, if_neg c_161, if_pos c_168]; decide), if_neg c_169, zrq4, if_neg c_171]))) (trivial) hw [0] rfl (by rw [show zth p1 p2 p3 = 1 from zth_none (by rw [zrs, if_neg c_2, if_neg c_5, if_pos (zsge (r := p1) (w := p2) c_7), zrq0, if_pos (show zat0 p2 = 0 from if_neg c_16), zrq1, if_pos (show zat1 p1 p2 = 0 from (if_neg c_101).trans (if_neg c_128)), zrq3, if_neg (show ¬ zat3 p1 p2 = 0 by rw [zat3, if_neg c_161, if_pos c_168]; decide), if_neg c_169, zrq4, if_neg c_171])]; rfl) hS (Nat.le_of_ble_eq_true rfl) (Nat.le_of_ble_eq_true rfl) dX12_rests_160
                    · refine lv_iconst (v := 0) hx hb dX12_rests_141 (by decide) ?_
                      refine lv_goto (tgt := 146) hx hb dX12_rests_142 (by decide) ?_
                      refine zput (D := D) (ci := 11) (v := .int 0) (ty := .int) hx hb hts hiX12 tyX12 tyX12_ok nmX12 hown hK hw hS 0 rfl rfl 0 (by decide) (hts (.fieldLink RX12 129 "BeardPassModel" "thrown" "I") (by decide +kernel)) (fun _ h9 => h9) rfl (by decide +kernel) rfl rfl (Nat.le_of_ble_eq_true rfl) dX12_rests_146 [(h0, .inr (11, [.int 0, .int w_taped, .ref (y 0), .int w_size, .int w_place, .int w_begin, .int w_token, .long w_word, .int w_told, .int w_wrong, .ref (y 1), .ref (y 2), .ref (y 3), .ref (y 4), .ref (y 5), .ref (y 6), .ref (y 7), .ref (y 8), .ref (y 9), .ref (y 10), .ref (y 11), .ref (y 12), .int w_code, .int w_toldLines, .ref (y 13), .ref (y 14), .ref (y 15), .ref (y 16), .ref (y 17), .ref (y 18), .ref (y 19), .ref (y 20), .ref (y 21), .ref (y 22), .ref (y 23), .ref (y 24), .int w_given, .long w_fresh, .ref (y 25), .ref (y 26), .ref (y 27), .ref (y 28), .ref (y 29), .ref (y 30), .ref (y 31), .ref (y 32), .ref (y 33), .ref (y 34), .ref (y 35), .ref (y 36), .ref (y 37), .int w_done, .int w_moreAsked, .ref (y 38), .long w_g, .int w_gone, .int w_stopped]))] rfl (fun H locs hw hS => ?_)
                      refine lv_iload_n hx hb dX12_rests_149 rfl (lv_at hl 7 rfl) ?_
                      refine lv_iconst (v := (-1)) hx hb dX12_rests_150 (by decide) ?_
                      refine lv_icmp_ne (tgt := 159) hx hb dX12_rests_151 (by decide) (fun h => absurd (c_171) h) (fun _ => ?_)
                      refine lv_iload hx hb dX12_rests_154 (lv_at hl 1 rfl) ?_
                      refine lv_goto (tgt := 160) hx hb dX12_rests_156 (by decide) ?_
                      exact ziret hx hb hr (rfl) hlocks () (congrArg (fun z => some (Value.int z)) (zrv_some (by rw [zrs, if_neg c_2, if_neg c_5, if_pos (zsge (r := p1) (w := p2) c_7), zrq0, if_pos (show zat0 p2 = 0 from if_neg c_16), zrq1, if_pos (show zat1 p1 p2 = 0 from (if_neg c_101).trans (if_neg c_128)), zrq3, if_neg (show ¬ zat3 p1 p2 = 0 by rw [zat3, if_neg c_161, if_pos c_168]; decide), if_neg c_169, zrq4, if_pos c_171]))) (trivial) hw [0] rfl (by rw [show zth p1 p2 p3 = 0 from zth_some (v := 1) (by rw [zrs, if_neg c_2, if_neg c_5, if_pos (zsge (r := p1) (w := p2) c_7), zrq0, if_pos (show zat0 p2 = 0 from if_neg c_16), zrq1, if_pos (show zat1 p1 p2 = 0 from (if_neg c_101).trans (if_neg c_128)), zrq3, if_neg (show ¬ zat3 p1 p2 = 0 by rw [zat3, if_neg c_161, if_pos c_168]; decide), if_neg c_169, zrq4, if_pos c_171])]; rfl) hS (Nat.le_of_ble_eq_true rfl) (Nat.le_of_ble_eq_true rfl) dX12_rests_160
                  · refine lv_iload hx hb dX12_rests_123 (lv_at hl 2 rfl) ?_
                    exact ziret hx hb hr (rfl) hlocks () (congrArg (fun z => some (Value.int z)) (zrv_some (by rw [zrs, if_neg c_2, if_neg c_5, if_pos (zsge (r := p1) (w := p2) c_7), zrq0, if_pos (show zat0 p2 = 0 from if_neg c_16), zrq1, if_pos (show zat1 p1 p2 = 0 from (if_neg c_101).trans (if_neg c_128)), zrq3, if_neg (show ¬ zat3 p1 p2 = 0 by rw [zat3, if_neg c_161, if_pos c_168]; decide), if_pos c_169]))) (trivial) hw [0] rfl (by rw [show zth p1 p2 p3 = 0 from zth_some (v := 3) (by rw [zrs, if_neg c_2, if_neg c_5, if_pos (zsge (r := p1) (w := p2) c_7), zrq0, if_pos (show zat0 p2 = 0 from if_neg c_16), zrq1, if_pos (show zat1 p1 p2 = 0 from (if_neg c_101).trans (if_neg c_128)), zrq3, if_neg (show ¬ zat3 p1 p2 = 0 by rw [zat3, if_neg c_161, if_pos c_168]; decide), if_pos c_169])]; rfl) hS (Nat.le_of_ble_eq_true rfl) (Nat.le_of_ble_eq_true rfl) dX12_rests_125
                · refine lv_goto (tgt := 129) hx hb dX12_rests_114 (by decide) ?_
                  refine lv_iinc (v := 4) (lv' := [(5, .int 4), (7, .int 1), (6, .int 1), (4, .int 0), (0, .ref h0), (1, .int p1), (2, .int p2), (3, .int p3)]) hx hb dX12_rests_129 hl (k := 2) rfl (by decide) (by decide) rfl (fun ls hl => ?_)
                  refine lv_goto (tgt := 50) hx hb dX12_rests_132 (by decide) ?_
                  refine lv_iload hx hb dX12_rests_50 (lv_at hl 0 rfl) ?_
                  refine lv_iconst (v := 4) hx hb dX12_rests_52 (by decide) ?_
                  refine lv_icmp_ge (tgt := 135) hx hb dX12_rests_53 (by decide) (fun _ => ?_) (fun h => absurd (by decide) h)
                  refine lv_aload_n hx hb dX12_rests_135 rfl (lv_at hl 4 rfl) ?_
                  refine lv_iload_n hx hb dX12_rests_136 rfl (lv_at hl 7 rfl) ?_
                  refine lv_iconst (v := (-1)) hx hb dX12_rests_137 (by decide) ?_
                  refine lv_icmp_ne (tgt := 145) hx hb dX12_rests_138 (by decide) (fun c_175 => ?_) (fun c_175 => ?_)
                  · refine lv_iconst (v := 1) hx hb dX12_rests_145 (by decide) ?_
                    refine zput (D := D) (ci := 11) (v := .int 1) (ty := .int) hx hb hts hiX12 tyX12 tyX12_ok nmX12 hown hK hw hS 0 rfl rfl 0 (by decide) (hts (.fieldLink RX12 129 "BeardPassModel" "thrown" "I") (by decide +kernel)) (fun _ h9 => h9) rfl (by decide +kernel) rfl rfl (Nat.le_of_ble_eq_true rfl) dX12_rests_146 [(h0, .inr (11, [.int 1, .int w_taped, .ref (y 0), .int w_size, .int w_place, .int w_begin, .int w_token, .long w_word, .int w_told, .int w_wrong, .ref (y 1), .ref (y 2), .ref (y 3), .ref (y 4), .ref (y 5), .ref (y 6), .ref (y 7), .ref (y 8), .ref (y 9), .ref (y 10), .ref (y 11), .ref (y 12), .int w_code, .int w_toldLines, .ref (y 13), .ref (y 14), .ref (y 15), .ref (y 16), .ref (y 17), .ref (y 18), .ref (y 19), .ref (y 20), .ref (y 21), .ref (y 22), .ref (y 23), .ref (y 24), .int w_given, .long w_fresh, .ref (y 25), .ref (y 26), .ref (y 27), .ref (y 28), .ref (y 29), .ref (y 30), .ref (y 31), .ref (y 32), .ref (y 33), .ref (y 34), .ref (y 35), .ref (y 36), .ref (y 37), .int w_done, .int w_moreAsked, .ref (y 38), .long w_g, .int w_gone, .int w_stopped]))] rfl (fun H locs hw hS => ?_)
                    refine lv_iload_n hx hb dX12_rests_149 rfl (lv_at hl 7 rfl) ?_
                    refine lv_iconst (v := (-1)) hx hb dX12_rests_150 (by decide) ?_
                    refine lv_icmp_ne (tgt := 159) hx hb dX12_rests_151 (by decide) (fun _ => ?_) (fun h => absurd h (c_175))
                    refine lv_iconst (v := 0) hx hb dX12_rests_159 (by decide) ?_
                    exact ziret hx hb hr (rfl) hlocks () (congrArg (fun z => some (Value.int z)) (zrv_none (by rw [zrs, if_neg c_2, if_neg c_5, if_pos (zsge (r := p1) (w := p2) c_7), zrq0, if_pos (show zat0 p2 = 0 from if_neg c_16), zrq1, if_pos (show zat1 p1 p2 = 0 from (if_neg c_101).trans (if_neg c_128)), zrq3, if_pos (show zat3 p1 p2 = 0 from (if_neg c_161).trans (if_neg c_168)), zrq4, if_neg c_175]))) (trivial) hw [0] rfl (by rw [show zth p1 p2 p3 = 1 from zth_none (by rw [zrs, if_neg c_2, if_neg c_5, if_pos (zsge (r := p1) (w := p2) c_7), zrq0, if_pos (show zat0 p2 = 0 from if_neg c_16), zrq1, if_pos (show zat1 p1 p2 = 0 from (if_neg c_101).trans (if_neg c_128)), zrq3, if_pos (show zat3 p1 p2 = 0 from (if_neg c_161).trans (if_neg c_168)), zrq4, if_neg c_175])]; rfl) hS (Nat.le_of_ble_eq_true rfl) (Nat.le_of_ble_eq_true rfl) dX12_rests_160
                  · refine lv_iconst (v := 0) hx hb dX12_rests_141 (by decide) ?_
                    refine lv_goto (tgt := 146) hx hb dX12_rests_142 (by decide) ?_
                    refine zput (D := D) (ci := 11) (v := .int 0) (ty := .int) hx hb hts hiX12 tyX12 tyX12_ok nmX12 hown hK hw hS 0 rfl rfl 0 (by decide) (hts (.fieldLink RX12 129 "BeardPassModel" "thrown" "I") (by decide +kernel)) (fun _ h9 => h9) rfl (by decide +kernel) rfl rfl (Nat.le_of_ble_eq_true rfl) dX12_rests_146 [(h0, .inr (11, [.int 0, .int w_taped, .ref (y 0), .int w_size, .int w_place, .int w_begin, .int w_token, .long w_word, .int w_told, .int w_wrong, .ref (y 1), .ref (y 2), .ref (y 3), .ref (y 4), .ref (y 5), .ref (y 6), .ref (y 7), .ref (y 8), .ref (y 9), .ref (y 10), .ref (y 11), .ref (y 12), .int w_code, .int w_toldLines, .ref (y 13), .ref (y 14), .ref (y 15), .ref (y 16), .ref (y 17), .ref (y 18), .ref (y 19), .ref (y 20), .ref (y 21), .ref (y 22), .ref (y 23), .ref (y 24), .int w_given, .long w_fresh, .ref (y 25), .ref (y 26), .ref (y 27), .ref (y 28), .ref (y 29), .ref (y 30), .ref (y 31), .ref (y 32), .ref (y 33), .ref (y 34), .ref (y 35), .ref (y 36), .ref (y 37), .int w_done, .int w_moreAsked, .ref (y 38), .long w_g, .int w_gone, .int w_stopped]))] rfl (fun H locs hw hS => ?_)
                    refine lv_iload_n hx hb dX12_rests_149 rfl (lv_at hl 7 rfl) ?_
                    refine lv_iconst (v := (-1)) hx hb dX12_rests_150 (by decide) ?_
                    refine lv_icmp_ne (tgt := 159) hx hb dX12_rests_151 (by decide) (fun h => absurd (c_175) h) (fun _ => ?_)
                    refine lv_iload hx hb dX12_rests_154 (lv_at hl 3 rfl) ?_
                    refine lv_goto (tgt := 160) hx hb dX12_rests_156 (by decide) ?_
                    exact ziret hx hb hr (rfl) hlocks () (congrArg (fun z => some (Value.int z)) (zrv_some (by rw [zrs, if_neg c_2, if_neg c_5, if_pos (zsge (r := p1) (w := p2) c_7), zrq0, if_pos (show zat0 p2 = 0 from if_neg c_16), zrq1, if_pos (show zat1 p1 p2 = 0 from (if_neg c_101).trans (if_neg c_128)), zrq3, if_pos (show zat3 p1 p2 = 0 from (if_neg c_161).trans (if_neg c_168)), zrq4, if_pos c_175]))) (trivial) hw [0] rfl (by rw [show zth p1 p2 p3 = 0 from zth_some (v := 0) (by rw [zrs, if_neg c_2, if_neg c_5, if_pos (zsge (r := p1) (w := p2) c_7), zrq0, if_pos (show zat0 p2 = 0 from if_neg c_16), zrq1, if_pos (show zat1 p1 p2 = 0 from (if_neg c_101).trans (if_neg c_128)), zrq3, if_pos (show zat3 p1 p2 = 0 from (if_neg c_161).trans (if_neg c_168)), zrq4, if_pos c_175])]; rfl) hS (Nat.le_of_ble_eq_true rfl) (Nat.le_of_ble_eq_true rfl) dX12_rests_160
