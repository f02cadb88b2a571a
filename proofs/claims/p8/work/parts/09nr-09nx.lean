set_option maxHeartbeats 4000000 in
set_option maxRecDepth 100000 in
/-- within -/
theorem c_within (l : Launch) (D : va_G) (ct : Nat → ClassId) (v : Int32) (a : Int32) (b : Int32)  : zC l yX12_within wsX12_within ({ frames := 1, cells := 0, slots := 0, locals := 80 }) D ct [] [.int v, .int a, .int b] [] (S := Unit) (fun _ => some (.int (zwi v a b))) (fun _ => True) (fun _ => []) 0 0 := by
  refine zofW cX12_within 3 (some .boolean) (by decide) rfl (Nat.le_of_ble_eq_true rfl) ?_
  intro p e s m below meth c A hx hb hr hml hts hown hlocks hname hK hA hZ hN H locs hw hS ls hl
  have hown : s.vm.findClass RX12 = some m.cls := hown
  have hl : lv_has ls 3 [(0, .int v), (1, .int a), (2, .int b)] := hl
  refine lv_iload_n hx hb dX12_within_0 rfl (lv_at hl 0 rfl) ?_
  refine lv_iload_n hx hb dX12_within_1 rfl (lv_at hl 1 rfl) ?_
  refine lv_icmp_lt (tgt := 14) hx hb dX12_within_2 (by decide) (fun c_1 => ?_) (fun c_1 => ?_)
  · refine lv_iconst (v := 0) hx hb dX12_within_14 (by decide) ?_
    exact ziret hx hb hr (rfl) hlocks () (by simp [zwi, c_1]) (trivial) hw [] rfl (rfl) hS (Nat.le_of_ble_eq_true rfl) (Nat.le_of_ble_eq_true rfl) dX12_within_15
  · refine lv_iload_n hx hb dX12_within_5 rfl (lv_at hl 0 rfl) ?_
    refine lv_iload_n hx hb dX12_within_6 rfl (lv_at hl 2 rfl) ?_
    refine lv_icmp_gt (tgt := 14) hx hb dX12_within_7 (by decide) (fun c_2 => ?_) (fun c_2 => ?_)
    · refine lv_iconst (v := 0) hx hb dX12_within_14 (by decide) ?_
      exact ziret hx hb hr (rfl) hlocks () (by simp [zwi, c_1, c_2]) (trivial) hw [] rfl (rfl) hS (Nat.le_of_ble_eq_true rfl) (Nat.le_of_ble_eq_true rfl) dX12_within_15
    · refine lv_iconst (v := 1) hx hb dX12_within_10 (by decide) ?_
      refine lv_goto (tgt := 15) hx hb dX12_within_11 (by decide) ?_
      exact ziret hx hb hr (rfl) hlocks () (by simp [zwi, c_1, c_2]) (trivial) hw [] rfl (rfl) hS (Nat.le_of_ble_eq_true rfl) (Nat.le_of_ble_eq_true rfl) dX12_within_15


set_option maxHeartbeats 4000000 in
set_option maxRecDepth 100000 in
/-- isStake -/
theorem c_stake (l : Launch) (D : va_G) (ct : Nat → ClassId) (v : Int32)  : zC l yX11_isStake wsX11_isStake ({ frames := 1, cells := 0, slots := 0, locals := 80 }) D ct [] [.int v] [] (S := Unit) (fun _ => some (.int (zwi v 0 9))) (fun _ => True) (fun _ => []) 0 0 := by
  refine zofW cX11_isStake 1 (some .boolean) (by decide) rfl (Nat.le_of_ble_eq_true rfl) ?_
  intro p e s m below meth c A hx hb hr hml hts hown hlocks hname hK hA hZ hN H locs hw hS ls hl
  have hown : s.vm.findClass RX11 = some m.cls := hown
  have hl : lv_has ls 1 [(0, .int v)] := hl
  refine lv_iload_n hx hb dX11_isStake_0 rfl (lv_at hl 0 rfl) ?_
  refine lv_if_lt (tgt := 14) hx hb dX11_isStake_1 (by decide) (fun c_1 => ?_) (fun c_1 => ?_)
  · refine lv_iconst (v := 0) hx hb dX11_isStake_14 (by decide) ?_
    exact ziret hx hb hr (rfl) hlocks () (by simp [zwi, c_1]) (trivial) hw [] rfl (rfl) hS (Nat.le_of_ble_eq_true rfl) (Nat.le_of_ble_eq_true rfl) dX11_isStake_15
  · refine lv_iload_n hx hb dX11_isStake_4 rfl (lv_at hl 0 rfl) ?_
    refine lv_bipush (v := 9) hx hb dX11_isStake_5 (by decide) ?_
    refine lv_icmp_gt (tgt := 14) hx hb dX11_isStake_7 (by decide) (fun c_2 => ?_) (fun c_2 => ?_)
    · refine lv_iconst (v := 0) hx hb dX11_isStake_14 (by decide) ?_
      exact ziret hx hb hr (rfl) hlocks () (by simp [zwi, c_1, c_2]) (trivial) hw [] rfl (rfl) hS (Nat.le_of_ble_eq_true rfl) (Nat.le_of_ble_eq_true rfl) dX11_isStake_15
    · refine lv_iconst (v := 1) hx hb dX11_isStake_10 (by decide) ?_
      refine lv_goto (tgt := 15) hx hb dX11_isStake_11 (by decide) ?_
      exact ziret hx hb hr (rfl) hlocks () (by simp [zwi, c_1, c_2]) (trivial) hw [] rfl (rfl) hS (Nat.le_of_ble_eq_true rfl) (Nat.le_of_ble_eq_true rfl) dX11_isStake_15

set_option maxHeartbeats 4000000 in
set_option maxRecDepth 100000 in
theorem c_gg0 (l : Launch) (D : va_G) (ct : Nat → ClassId) (r : Int32) (w : Int32)  : zC l yX11_guardGets wsX11_guardGets ({ frames := 1, cells := 0, slots := 0, locals := 80 }) D ct [] [.int r, .int w, .int 0] [] (S := Unit) (fun _ => some (.int 0)) (fun _ => True) (fun _ => []) 0 0 := by
  refine zofW cX11_guardGets 3 (some .int) (by decide) rfl (Nat.le_of_ble_eq_true rfl) ?_
  intro p e s m below meth c A hx hb hr hml hts hown hlocks hname hK hA hZ hN H locs hw hS ls hl
  have hown : s.vm.findClass RX11 = some m.cls := hown
  have hl : lv_has ls 3 [(0, .int r), (1, .int w), (2, .int 0)] := hl
  refine lv_iload_n hx hb dX11_guardGets_0 rfl (lv_at hl 2 rfl) ?_
  refine lv_tableOut (tgt := 35) hx hb dX11_guardGets_1 (by decide) (by decide) ?_
  refine lv_iconst (v := 0) hx hb dX11_guardGets_35 (by decide) ?_
  exact ziret hx hb hr (rfl) hlocks () (rfl) (trivial) hw [] rfl (rfl) hS (Nat.le_of_ble_eq_true rfl) (Nat.le_of_ble_eq_true rfl) dX11_guardGets_36

set_option maxHeartbeats 4000000 in
set_option maxRecDepth 100000 in
theorem c_tg0 (l : Launch) (D : va_G) (ct : Nat → ClassId) (r : Int32) (w : Int32)  : zC l yX11_travellerGets wsX11_travellerGets ({ frames := 1, cells := 0, slots := 0, locals := 80 }) D ct [] [.int r, .int w, .int 0] [] (S := Unit) (fun _ => some (.int 0)) (fun _ => True) (fun _ => []) 0 0 := by
  refine zofW cX11_travellerGets 3 (some .int) (by decide) rfl (Nat.le_of_ble_eq_true rfl) ?_
  intro p e s m below meth c A hx hb hr hml hts hown hlocks hname hK hA hZ hN H locs hw hS ls hl
  have hown : s.vm.findClass RX11 = some m.cls := hown
  have hl : lv_has ls 3 [(0, .int r), (1, .int w), (2, .int 0)] := hl
  refine lv_iload_n hx hb dX11_travellerGets_0 rfl (lv_at hl 2 rfl) ?_
  refine lv_lookup (off := 32) (tgt := 33) hx hb dX11_travellerGets_1 (by decide) (by decide) (by decide) ?_
  refine lv_iconst (v := 0) hx hb dX11_travellerGets_33 (by decide) ?_
  exact ziret hx hb hr (rfl) hlocks () (rfl) (trivial) hw [] rfl (rfl) hS (Nat.le_of_ble_eq_true rfl) (Nat.le_of_ble_eq_true rfl) dX11_travellerGets_34

set_option maxHeartbeats 4000000 in
set_option maxRecDepth 100000 in
theorem c_gg1 (l : Launch) (D : va_G) (ct : Nat → ClassId) (r : Int32) (w : Int32)  : zC l yX11_guardGets wsX11_guardGets ({ frames := 1, cells := 0, slots := 0, locals := 80 }) D ct [] [.int r, .int w, .int 1] [] (S := Unit) (fun _ => some (.int (-w))) (fun _ => True) (fun _ => []) 0 0 := by
  refine zofW cX11_guardGets 3 (some .int) (by decide) rfl (Nat.le_of_ble_eq_true rfl) ?_
  intro p e s m below meth c A hx hb hr hml hts hown hlocks hname hK hA hZ hN H locs hw hS ls hl
  have hown : s.vm.findClass RX11 = some m.cls := hown
  have hl : lv_has ls 3 [(0, .int r), (1, .int w), (2, .int 1)] := hl
  refine lv_iload_n hx hb dX11_guardGets_0 rfl (lv_at hl 2 rfl) ?_
  refine lv_tableIn (off := 27) (tgt := 28) hx hb dX11_guardGets_1 (by decide) (by decide) (by decide) (by decide) ?_
  refine lv_iload_n hx hb dX11_guardGets_28 rfl (lv_at hl 1 rfl) ?_
  refine lv_ineg hx hb dX11_guardGets_29 ?_
  exact ziret hx hb hr (rfl) hlocks () (rfl) (trivial) hw [] rfl (rfl) hS (Nat.le_of_ble_eq_true rfl) (Nat.le_of_ble_eq_true rfl) dX11_guardGets_30

set_option maxHeartbeats 4000000 in
set_option maxRecDepth 100000 in
theorem c_tg1 (l : Launch) (D : va_G) (ct : Nat → ClassId) (r : Int32) (w : Int32)  : zC l yX11_travellerGets wsX11_travellerGets ({ frames := 1, cells := 0, slots := 0, locals := 80 }) D ct [] [.int r, .int w, .int 1] [] (S := Unit) (fun _ => some (.int w)) (fun _ => True) (fun _ => []) 0 0 := by
  refine zofW cX11_travellerGets 3 (some .int) (by decide) rfl (Nat.le_of_ble_eq_true rfl) ?_
  intro p e s m below meth c A hx hb hr hml hts hown hlocks hname hK hA hZ hN H locs hw hS ls hl
  have hown : s.vm.findClass RX11 = some m.cls := hown
  have hl : lv_has ls 3 [(0, .int r), (1, .int w), (2, .int 1)] := hl
  refine lv_iload_n hx hb dX11_travellerGets_0 rfl (lv_at hl 2 rfl) ?_
  refine lv_lookup (off := 27) (tgt := 28) hx hb dX11_travellerGets_1 (by decide) (by decide) (by decide) ?_
  refine lv_iload_n hx hb dX11_travellerGets_28 rfl (lv_at hl 1 rfl) ?_
  exact ziret hx hb hr (rfl) hlocks () (rfl) (trivial) hw [] rfl (rfl) hS (Nat.le_of_ble_eq_true rfl) (Nat.le_of_ble_eq_true rfl) dX11_travellerGets_29

set_option maxHeartbeats 4000000 in
set_option maxRecDepth 100000 in
theorem c_gg2 (l : Launch) (D : va_G) (ct : Nat → ClassId) (r : Int32) (w : Int32)  : zC l yX11_guardGets wsX11_guardGets ({ frames := 1, cells := 0, slots := 0, locals := 80 }) D ct [] [.int r, .int w, .int 2] [] (S := Unit) (fun _ => some (.int (-1))) (fun _ => True) (fun _ => []) 0 0 := by
  refine zofW cX11_guardGets 3 (some .int) (by decide) rfl (Nat.le_of_ble_eq_true rfl) ?_
  intro p e s m below meth c A hx hb hr hml hts hown hlocks hname hK hA hZ hN H locs hw hS ls hl
  have hown : s.vm.findClass RX11 = some m.cls := hown
  have hl : lv_has ls 3 [(0, .int r), (1, .int w), (2, .int 2)] := hl
  refine lv_iload_n hx hb dX11_guardGets_0 rfl (lv_at hl 2 rfl) ?_
  refine lv_tableIn (off := 30) (tgt := 31) hx hb dX11_guardGets_1 (by decide) (by decide) (by decide) (by decide) ?_
  refine lv_iconst (v := (-1)) hx hb dX11_guardGets_31 (by decide) ?_
  exact ziret hx hb hr (rfl) hlocks () (rfl) (trivial) hw [] rfl (rfl) hS (Nat.le_of_ble_eq_true rfl) (Nat.le_of_ble_eq_true rfl) dX11_guardGets_32

set_option maxHeartbeats 4000000 in
set_option maxRecDepth 100000 in
theorem c_tg2 (l : Launch) (D : va_G) (ct : Nat → ClassId) (r : Int32) (w : Int32)  : zC l yX11_travellerGets wsX11_travellerGets ({ frames := 1, cells := 0, slots := 0, locals := 80 }) D ct [] [.int r, .int w, .int 2] [] (S := Unit) (fun _ => some (.int 0)) (fun _ => True) (fun _ => []) 0 0 := by
  refine zofW cX11_travellerGets 3 (some .int) (by decide) rfl (Nat.le_of_ble_eq_true rfl) ?_
  intro p e s m below meth c A hx hb hr hml hts hown hlocks hname hK hA hZ hN H locs hw hS ls hl
  have hown : s.vm.findClass RX11 = some m.cls := hown
  have hl : lv_has ls 3 [(0, .int r), (1, .int w), (2, .int 2)] := hl
  refine lv_iload_n hx hb dX11_travellerGets_0 rfl (lv_at hl 2 rfl) ?_
  refine lv_lookup (off := 32) (tgt := 33) hx hb dX11_travellerGets_1 (by decide) (by decide) (by decide) ?_
  refine lv_iconst (v := 0) hx hb dX11_travellerGets_33 (by decide) ?_
  exact ziret hx hb hr (rfl) hlocks () (rfl) (trivial) hw [] rfl (rfl) hS (Nat.le_of_ble_eq_true rfl) (Nat.le_of_ble_eq_true rfl) dX11_travellerGets_34

set_option maxHeartbeats 4000000 in
set_option maxRecDepth 100000 in
theorem c_gg3 (l : Launch) (D : va_G) (ct : Nat → ClassId) (r : Int32) (w : Int32)  : zC l yX11_guardGets wsX11_guardGets ({ frames := 1, cells := 0, slots := 0, locals := 80 }) D ct [] [.int r, .int w, .int 3] [] (S := Unit) (fun _ => some (.int r)) (fun _ => True) (fun _ => []) 0 0 := by
  refine zofW cX11_guardGets 3 (some .int) (by decide) rfl (Nat.le_of_ble_eq_true rfl) ?_
  intro p e s m below meth c A hx hb hr hml hts hown hlocks hname hK hA hZ hN H locs hw hS ls hl
  have hown : s.vm.findClass RX11 = some m.cls := hown
  have hl : lv_has ls 3 [(0, .int r), (1, .int w), (2, .int 3)] := hl
  refine lv_iload_n hx hb dX11_guardGets_0 rfl (lv_at hl 2 rfl) ?_
  refine lv_tableIn (off := 32) (tgt := 33) hx hb dX11_guardGets_1 (by decide) (by decide) (by decide) (by decide) ?_
  refine lv_iload_n hx hb dX11_guardGets_33 rfl (lv_at hl 0 rfl) ?_
  exact ziret hx hb hr (rfl) hlocks () (rfl) (trivial) hw [] rfl (rfl) hS (Nat.le_of_ble_eq_true rfl) (Nat.le_of_ble_eq_true rfl) dX11_guardGets_34

set_option maxHeartbeats 4000000 in
set_option maxRecDepth 100000 in
theorem c_tg3 (l : Launch) (D : va_G) (ct : Nat → ClassId) (r : Int32) (w : Int32)  : zC l yX11_travellerGets wsX11_travellerGets ({ frames := 1, cells := 0, slots := 0, locals := 80 }) D ct [] [.int r, .int w, .int 3] [] (S := Unit) (fun _ => some (.int (-r))) (fun _ => True) (fun _ => []) 0 0 := by
  refine zofW cX11_travellerGets 3 (some .int) (by decide) rfl (Nat.le_of_ble_eq_true rfl) ?_
  intro p e s m below meth c A hx hb hr hml hts hown hlocks hname hK hA hZ hN H locs hw hS ls hl
  have hown : s.vm.findClass RX11 = some m.cls := hown
  have hl : lv_has ls 3 [(0, .int r), (1, .int w), (2, .int 3)] := hl
  refine lv_iload_n hx hb dX11_travellerGets_0 rfl (lv_at hl 2 rfl) ?_
  refine lv_lookup (off := 29) (tgt := 30) hx hb dX11_travellerGets_1 (by decide) (by decide) (by decide) ?_
  refine lv_iload_n hx hb dX11_travellerGets_30 rfl (lv_at hl 0 rfl) ?_
  refine lv_ineg hx hb dX11_travellerGets_31 ?_
  exact ziret hx hb hr (rfl) hlocks () (rfl) (trivial) hw [] rfl (rfl) hS (Nat.le_of_ble_eq_true rfl) (Nat.le_of_ble_eq_true rfl) dX11_travellerGets_32

set_option maxHeartbeats 4000000 in
set_option maxRecDepth 100000 in
theorem c_ar0 (l : Launch) (D : va_G) (ct : Nat → ClassId) (r : Int32) (w : Int32)  : zC l yX11_isAtRest wsX11_isAtRest ({ frames := 2, cells := 0, slots := 0, locals := 120 }) D ct [] [.int r, .int w, .int 0] [] (S := Unit) (fun _ => some (.int (zat0 w))) (fun _ => True) (fun _ => []) 0 0 := by
  refine zofW cX11_isAtRest 3 (some .boolean) (by decide) rfl (Nat.le_of_ble_eq_true rfl) ?_
  intro p e s m below meth c A hx hb hr hml hts hown hlocks hname hK hA hZ hN H locs hw hS ls hl
  have hown : s.vm.findClass RX11 = some m.cls := hown
  have hl : lv_has ls 3 [(0, .int r), (1, .int w), (2, .int 0)] := hl
  refine lv_iload_n hx hb dX11_isAtRest_0 rfl (lv_at hl 0 rfl) ?_
  refine lv_iload_n hx hb dX11_isAtRest_1 rfl (lv_at hl 1 rfl) ?_
  refine lv_iload_n hx hb dX11_isAtRest_2 rfl (lv_at hl 2 rfl) ?_
  refine lv_iconst (v := 2) hx hb dX11_isAtRest_3 (by decide) ?_
  refine lv_ixor hx hb dX11_isAtRest_4 ?_
  refine ztop (.int 2) (congrArg Value.int (by decide)) ?_
  refine scall0 (As := [.int r, .int w, .int 2]) (rest := []) ⟨hx, hb, hml, hown, hts⟩ (c_gg2 l D ct r w) (va_cwS 3 hts gX11_isAtRest_X11_guardGets rfl rfl rfl (by decide +kernel) ⟨Nat.le_of_ble_eq_true rfl, Nat.le_of_ble_eq_true rfl⟩) hw hS hA hK hN rfl rfl hl.1 rfl (Nat.le_of_ble_eq_true rfl) dX11_isAtRest_5 (fun _ H locs hp1 hw hS => ?_)
  have hw : zPD D A [] H := hw
  refine zfr 8 [.int (-1)] rfl rfl ?_
  refine lv_iload_n hx hb dX11_isAtRest_8 rfl (lv_at hl 0 rfl) ?_
  refine lv_iload_n hx hb dX11_isAtRest_9 rfl (lv_at hl 1 rfl) ?_
  refine lv_iload_n hx hb dX11_isAtRest_10 rfl (lv_at hl 2 rfl) ?_
  refine scall0 (As := [.int r, .int w, .int 0]) (rest := [.int (-1)]) ⟨hx, hb, hml, hown, hts⟩ (c_gg0 l D ct r w) (va_cwS 3 hts gX11_isAtRest_X11_guardGets rfl rfl rfl (by decide +kernel) ⟨Nat.le_of_ble_eq_true rfl, Nat.le_of_ble_eq_true rfl⟩) hw hS hA hK hN rfl rfl hl.1 rfl (Nat.le_of_ble_eq_true rfl) dX11_isAtRest_11 (fun _ H locs hp2 hw hS => ?_)
  have hw : zPD D A [] H := hw
  refine zfr 14 [.int 0, .int (-1)] rfl rfl ?_
  refine lv_icmp_gt (tgt := 38) hx hb dX11_isAtRest_14 (by decide) (fun h => absurd h (by decide)) (fun _ => ?_)
  refine lv_iload_n hx hb dX11_isAtRest_17 rfl (lv_at hl 0 rfl) ?_
  refine lv_iload_n hx hb dX11_isAtRest_18 rfl (lv_at hl 1 rfl) ?_
  refine lv_iload_n hx hb dX11_isAtRest_19 rfl (lv_at hl 2 rfl) ?_
  refine lv_iconst (v := 1) hx hb dX11_isAtRest_20 (by decide) ?_
  refine lv_ixor hx hb dX11_isAtRest_21 ?_
  refine ztop (.int 1) (congrArg Value.int (by decide)) ?_
  refine scall0 (As := [.int r, .int w, .int 1]) (rest := []) ⟨hx, hb, hml, hown, hts⟩ (c_tg1 l D ct r w) (va_cwS 3 hts gX11_isAtRest_X11_travellerGets rfl rfl rfl (by decide +kernel) ⟨Nat.le_of_ble_eq_true rfl, Nat.le_of_ble_eq_true rfl⟩) hw hS hA hK hN rfl rfl hl.1 rfl (Nat.le_of_ble_eq_true rfl) dX11_isAtRest_22 (fun _ H locs hp4 hw hS => ?_)
  have hw : zPD D A [] H := hw
  refine zfr 25 [.int w] rfl rfl ?_
  refine lv_iload_n hx hb dX11_isAtRest_25 rfl (lv_at hl 0 rfl) ?_
  refine lv_iload_n hx hb dX11_isAtRest_26 rfl (lv_at hl 1 rfl) ?_
  refine lv_iload_n hx hb dX11_isAtRest_27 rfl (lv_at hl 2 rfl) ?_
  refine scall0 (As := [.int r, .int w, .int 0]) (rest := [.int w]) ⟨hx, hb, hml, hown, hts⟩ (c_tg0 l D ct r w) (va_cwS 3 hts gX11_isAtRest_X11_travellerGets rfl rfl rfl (by decide +kernel) ⟨Nat.le_of_ble_eq_true rfl, Nat.le_of_ble_eq_true rfl⟩) hw hS hA hK hN rfl rfl hl.1 rfl (Nat.le_of_ble_eq_true rfl) dX11_isAtRest_28 (fun _ H locs hp5 hw hS => ?_)
  have hw : zPD D A [] H := hw
  refine zfr 31 [.int 0, .int w] rfl rfl ?_
  refine lv_icmp_gt (tgt := 38) hx hb dX11_isAtRest_31 (by decide) (fun c_6 => ?_) (fun c_6 => ?_)
  · refine lv_iconst (v := 0) hx hb dX11_isAtRest_38 (by decide) ?_
    exact ziret hx hb hr (rfl) hlocks () (by rw [zat0, if_neg (Int32.not_le.mpr c_6)]) (trivial) hw [] rfl (rfl) hS (Nat.le_of_ble_eq_true rfl) (Nat.le_of_ble_eq_true rfl) dX11_isAtRest_39
  · refine lv_iconst (v := 1) hx hb dX11_isAtRest_34 (by decide) ?_
    refine lv_goto (tgt := 39) hx hb dX11_isAtRest_35 (by decide) ?_
    exact ziret hx hb hr (rfl) hlocks () (by rw [zat0, if_pos (Int32.not_lt.mp c_6)]) (trivial) hw [] rfl (rfl) hS (Nat.le_of_ble_eq_true rfl) (Nat.le_of_ble_eq_true rfl) dX11_isAtRest_39

set_option maxHeartbeats 4000000 in
set_option maxRecDepth 100000 in
theorem c_ar1 (l : Launch) (D : va_G) (ct : Nat → ClassId) (r : Int32) (w : Int32)  : zC l yX11_isAtRest wsX11_isAtRest ({ frames := 2, cells := 0, slots := 0, locals := 120 }) D ct [] [.int r, .int w, .int 1] [] (S := Unit) (fun _ => some (.int (zat1 r w))) (fun _ => True) (fun _ => []) 0 0 := by
  refine zofW cX11_isAtRest 3 (some .boolean) (by decide) rfl (Nat.le_of_ble_eq_true rfl) ?_
  intro p e s m below meth c A hx hb hr hml hts hown hlocks hname hK hA hZ hN H locs hw hS ls hl
  have hown : s.vm.findClass RX11 = some m.cls := hown
  have hl : lv_has ls 3 [(0, .int r), (1, .int w), (2, .int 1)] := hl
  refine lv_iload_n hx hb dX11_isAtRest_0 rfl (lv_at hl 0 rfl) ?_
  refine lv_iload_n hx hb dX11_isAtRest_1 rfl (lv_at hl 1 rfl) ?_
  refine lv_iload_n hx hb dX11_isAtRest_2 rfl (lv_at hl 2 rfl) ?_
  refine lv_iconst (v := 2) hx hb dX11_isAtRest_3 (by decide) ?_
  refine lv_ixor hx hb dX11_isAtRest_4 ?_
  refine ztop (.int 3) (congrArg Value.int (by decide)) ?_
  refine scall0 (As := [.int r, .int w, .int 3]) (rest := []) ⟨hx, hb, hml, hown, hts⟩ (c_gg3 l D ct r w) (va_cwS 3 hts gX11_isAtRest_X11_guardGets rfl rfl rfl (by decide +kernel) ⟨Nat.le_of_ble_eq_true rfl, Nat.le_of_ble_eq_true rfl⟩) hw hS hA hK hN rfl rfl hl.1 rfl (Nat.le_of_ble_eq_true rfl) dX11_isAtRest_5 (fun _ H locs hp1 hw hS => ?_)
  have hw : zPD D A [] H := hw
  refine zfr 8 [.int r] rfl rfl ?_
  refine lv_iload_n hx hb dX11_isAtRest_8 rfl (lv_at hl 0 rfl) ?_
  refine lv_iload_n hx hb dX11_isAtRest_9 rfl (lv_at hl 1 rfl) ?_
  refine lv_iload_n hx hb dX11_isAtRest_10 rfl (lv_at hl 2 rfl) ?_
  refine scall0 (As := [.int r, .int w, .int 1]) (rest := [.int r]) ⟨hx, hb, hml, hown, hts⟩ (c_gg1 l D ct r w) (va_cwS 3 hts gX11_isAtRest_X11_guardGets rfl rfl rfl (by decide +kernel) ⟨Nat.le_of_ble_eq_true rfl, Nat.le_of_ble_eq_true rfl⟩) hw hS hA hK hN rfl rfl hl.1 rfl (Nat.le_of_ble_eq_true rfl) dX11_isAtRest_11 (fun _ H locs hp2 hw hS => ?_)
  have hw : zPD D A [] H := hw
  refine zfr 14 [.int (-w), .int r] rfl rfl ?_
  refine lv_icmp_gt (tgt := 38) hx hb dX11_isAtRest_14 (by decide) (fun c_3 => ?_) (fun c_3 => ?_)
  · refine lv_iconst (v := 0) hx hb dX11_isAtRest_38 (by decide) ?_
    exact ziret hx hb hr (rfl) hlocks () (by rw [zat1, if_pos c_3]) (trivial) hw [] rfl (rfl) hS (Nat.le_of_ble_eq_true rfl) (Nat.le_of_ble_eq_true rfl) dX11_isAtRest_39
  · refine lv_iload_n hx hb dX11_isAtRest_17 rfl (lv_at hl 0 rfl) ?_
    refine lv_iload_n hx hb dX11_isAtRest_18 rfl (lv_at hl 1 rfl) ?_
    refine lv_iload_n hx hb dX11_isAtRest_19 rfl (lv_at hl 2 rfl) ?_
    refine lv_iconst (v := 1) hx hb dX11_isAtRest_20 (by decide) ?_
    refine lv_ixor hx hb dX11_isAtRest_21 ?_
    refine ztop (.int 0) (congrArg Value.int (by decide)) ?_
    refine scall0 (As := [.int r, .int w, .int 0]) (rest := []) ⟨hx, hb, hml, hown, hts⟩ (c_tg0 l D ct r w) (va_cwS 3 hts gX11_isAtRest_X11_travellerGets rfl rfl rfl (by decide +kernel) ⟨Nat.le_of_ble_eq_true rfl, Nat.le_of_ble_eq_true rfl⟩) hw hS hA hK hN rfl rfl hl.1 rfl (Nat.le_of_ble_eq_true rfl) dX11_isAtRest_22 (fun _ H locs hp4 hw hS => ?_)
    have hw : zPD D A [] H := hw
    refine zfr 25 [.int 0] rfl rfl ?_
    refine lv_iload_n hx hb dX11_isAtRest_25 rfl (lv_at hl 0 rfl) ?_
    refine lv_iload_n hx hb dX11_isAtRest_26 rfl (lv_at hl 1 rfl) ?_
    refine lv_iload_n hx hb dX11_isAtRest_27 rfl (lv_at hl 2 rfl) ?_
    refine scall0 (As := [.int r, .int w, .int 1]) (rest := [.int 0]) ⟨hx, hb, hml, hown, hts⟩ (c_tg1 l D ct r w) (va_cwS 3 hts gX11_isAtRest_X11_travellerGets rfl rfl rfl (by decide +kernel) ⟨Nat.le_of_ble_eq_true rfl, Nat.le_of_ble_eq_true rfl⟩) hw hS hA hK hN rfl rfl hl.1 rfl (Nat.le_of_ble_eq_true rfl) dX11_isAtRest_28 (fun _ H locs hp5 hw hS => ?_)
    have hw : zPD D A [] H := hw
    refine zfr 31 [.int w, .int 0] rfl rfl ?_
    refine lv_icmp_gt (tgt := 38) hx hb dX11_isAtRest_31 (by decide) (fun c_6 => ?_) (fun c_6 => ?_)
    · refine lv_iconst (v := 0) hx hb dX11_isAtRest_38 (by decide) ?_
      exact ziret hx hb hr (rfl) hlocks () (by rw [zat1, if_neg c_3, if_neg (Int32.not_le.mpr c_6)]) (trivial) hw [] rfl (rfl) hS (Nat.le_of_ble_eq_true rfl) (Nat.le_of_ble_eq_true rfl) dX11_isAtRest_39
    · refine lv_iconst (v := 1) hx hb dX11_isAtRest_34 (by decide) ?_
      refine lv_goto (tgt := 39) hx hb dX11_isAtRest_35 (by decide) ?_
      exact ziret hx hb hr (rfl) hlocks () (by rw [zat1, if_neg c_3, if_pos (Int32.not_lt.mp c_6)]) (trivial) hw [] rfl (rfl) hS (Nat.le_of_ble_eq_true rfl) (Nat.le_of_ble_eq_true rfl) dX11_isAtRest_39

set_option maxHeartbeats 4000000 in
set_option maxRecDepth 100000 in
theorem c_ar2 (l : Launch) (D : va_G) (ct : Nat → ClassId) (r : Int32) (w : Int32)  : zC l yX11_isAtRest wsX11_isAtRest ({ frames := 2, cells := 0, slots := 0, locals := 120 }) D ct [] [.int r, .int w, .int 2] [] (S := Unit) (fun _ => some (.int 0)) (fun _ => True) (fun _ => []) 0 0 := by
  refine zofW cX11_isAtRest 3 (some .boolean) (by decide) rfl (Nat.le_of_ble_eq_true rfl) ?_
  intro p e s m below meth c A hx hb hr hml hts hown hlocks hname hK hA hZ hN H locs hw hS ls hl
  have hown : s.vm.findClass RX11 = some m.cls := hown
  have hl : lv_has ls 3 [(0, .int r), (1, .int w), (2, .int 2)] := hl
  refine lv_iload_n hx hb dX11_isAtRest_0 rfl (lv_at hl 0 rfl) ?_
  refine lv_iload_n hx hb dX11_isAtRest_1 rfl (lv_at hl 1 rfl) ?_
  refine lv_iload_n hx hb dX11_isAtRest_2 rfl (lv_at hl 2 rfl) ?_
  refine lv_iconst (v := 2) hx hb dX11_isAtRest_3 (by decide) ?_
  refine lv_ixor hx hb dX11_isAtRest_4 ?_
  refine ztop (.int 0) (congrArg Value.int (by decide)) ?_
  refine scall0 (As := [.int r, .int w, .int 0]) (rest := []) ⟨hx, hb, hml, hown, hts⟩ (c_gg0 l D ct r w) (va_cwS 3 hts gX11_isAtRest_X11_guardGets rfl rfl rfl (by decide +kernel) ⟨Nat.le_of_ble_eq_true rfl, Nat.le_of_ble_eq_true rfl⟩) hw hS hA hK hN rfl rfl hl.1 rfl (Nat.le_of_ble_eq_true rfl) dX11_isAtRest_5 (fun _ H locs hp1 hw hS => ?_)
  have hw : zPD D A [] H := hw
  refine zfr 8 [.int 0] rfl rfl ?_
  refine lv_iload_n hx hb dX11_isAtRest_8 rfl (lv_at hl 0 rfl) ?_
  refine lv_iload_n hx hb dX11_isAtRest_9 rfl (lv_at hl 1 rfl) ?_
  refine lv_iload_n hx hb dX11_isAtRest_10 rfl (lv_at hl 2 rfl) ?_
  refine scall0 (As := [.int r, .int w, .int 2]) (rest := [.int 0]) ⟨hx, hb, hml, hown, hts⟩ (c_gg2 l D ct r w) (va_cwS 3 hts gX11_isAtRest_X11_guardGets rfl rfl rfl (by decide +kernel) ⟨Nat.le_of_ble_eq_true rfl, Nat.le_of_ble_eq_true rfl⟩) hw hS hA hK hN rfl rfl hl.1 rfl (Nat.le_of_ble_eq_true rfl) dX11_isAtRest_11 (fun _ H locs hp2 hw hS => ?_)
  have hw : zPD D A [] H := hw
  refine zfr 14 [.int (-1), .int 0] rfl rfl ?_
  refine lv_icmp_gt (tgt := 38) hx hb dX11_isAtRest_14 (by decide) (fun _ => ?_) (fun h => absurd (by decide) h)
  refine lv_iconst (v := 0) hx hb dX11_isAtRest_38 (by decide) ?_
  exact ziret hx hb hr (rfl) hlocks () (rfl) (trivial) hw [] rfl (rfl) hS (Nat.le_of_ble_eq_true rfl) (Nat.le_of_ble_eq_true rfl) dX11_isAtRest_39

set_option maxHeartbeats 4000000 in
set_option maxRecDepth 100000 in
theorem c_ar3 (l : Launch) (D : va_G) (ct : Nat → ClassId) (r : Int32) (w : Int32)  : zC l yX11_isAtRest wsX11_isAtRest ({ frames := 2, cells := 0, slots := 0, locals := 120 }) D ct [] [.int r, .int w, .int 3] [] (S := Unit) (fun _ => some (.int (zat3 r w))) (fun _ => True) (fun _ => []) 0 0 := by
  refine zofW cX11_isAtRest 3 (some .boolean) (by decide) rfl (Nat.le_of_ble_eq_true rfl) ?_
  intro p e s m below meth c A hx hb hr hml hts hown hlocks hname hK hA hZ hN H locs hw hS ls hl
  have hown : s.vm.findClass RX11 = some m.cls := hown
  have hl : lv_has ls 3 [(0, .int r), (1, .int w), (2, .int 3)] := hl
  refine lv_iload_n hx hb dX11_isAtRest_0 rfl (lv_at hl 0 rfl) ?_
  refine lv_iload_n hx hb dX11_isAtRest_1 rfl (lv_at hl 1 rfl) ?_
  refine lv_iload_n hx hb dX11_isAtRest_2 rfl (lv_at hl 2 rfl) ?_
  refine lv_iconst (v := 2) hx hb dX11_isAtRest_3 (by decide) ?_
  refine lv_ixor hx hb dX11_isAtRest_4 ?_
  refine ztop (.int 1) (congrArg Value.int (by decide)) ?_
  refine scall0 (As := [.int r, .int w, .int 1]) (rest := []) ⟨hx, hb, hml, hown, hts⟩ (c_gg1 l D ct r w) (va_cwS 3 hts gX11_isAtRest_X11_guardGets rfl rfl rfl (by decide +kernel) ⟨Nat.le_of_ble_eq_true rfl, Nat.le_of_ble_eq_true rfl⟩) hw hS hA hK hN rfl rfl hl.1 rfl (Nat.le_of_ble_eq_true rfl) dX11_isAtRest_5 (fun _ H locs hp1 hw hS => ?_)
  have hw : zPD D A [] H := hw
  refine zfr 8 [.int (-w)] rfl rfl ?_
  refine lv_iload_n hx hb dX11_isAtRest_8 rfl (lv_at hl 0 rfl) ?_
  refine lv_iload_n hx hb dX11_isAtRest_9 rfl (lv_at hl 1 rfl) ?_
  refine lv_iload_n hx hb dX11_isAtRest_10 rfl (lv_at hl 2 rfl) ?_
  refine scall0 (As := [.int r, .int w, .int 3]) (rest := [.int (-w)]) ⟨hx, hb, hml, hown, hts⟩ (c_gg3 l D ct r w) (va_cwS 3 hts gX11_isAtRest_X11_guardGets rfl rfl rfl (by decide +kernel) ⟨Nat.le_of_ble_eq_true rfl, Nat.le_of_ble_eq_true rfl⟩) hw hS hA hK hN rfl rfl hl.1 rfl (Nat.le_of_ble_eq_true rfl) dX11_isAtRest_11 (fun _ H locs hp2 hw hS => ?_)
  have hw : zPD D A [] H := hw
  refine zfr 14 [.int r, .int (-w)] rfl rfl ?_
  refine lv_icmp_gt (tgt := 38) hx hb dX11_isAtRest_14 (by decide) (fun c_3 => ?_) (fun c_3 => ?_)
  · refine lv_iconst (v := 0) hx hb dX11_isAtRest_38 (by decide) ?_
    exact ziret hx hb hr (rfl) hlocks () (by rw [zat3, if_pos c_3]) (trivial) hw [] rfl (rfl) hS (Nat.le_of_ble_eq_true rfl) (Nat.le_of_ble_eq_true rfl) dX11_isAtRest_39
  · refine lv_iload_n hx hb dX11_isAtRest_17 rfl (lv_at hl 0 rfl) ?_
    refine lv_iload_n hx hb dX11_isAtRest_18 rfl (lv_at hl 1 rfl) ?_
    refine lv_iload_n hx hb dX11_isAtRest_19 rfl (lv_at hl 2 rfl) ?_
    refine lv_iconst (v := 1) hx hb dX11_isAtRest_20 (by decide) ?_
    refine lv_ixor hx hb dX11_isAtRest_21 ?_
    refine ztop (.int 2) (congrArg Value.int (by decide)) ?_
    refine scall0 (As := [.int r, .int w, .int 2]) (rest := []) ⟨hx, hb, hml, hown, hts⟩ (c_tg2 l D ct r w) (va_cwS 3 hts gX11_isAtRest_X11_travellerGets rfl rfl rfl (by decide +kernel) ⟨Nat.le_of_ble_eq_true rfl, Nat.le_of_ble_eq_true rfl⟩) hw hS hA hK hN rfl rfl hl.1 rfl (Nat.le_of_ble_eq_true rfl) dX11_isAtRest_22 (fun _ H locs hp4 hw hS => ?_)
    have hw : zPD D A [] H := hw
    refine zfr 25 [.int 0] rfl rfl ?_
    refine lv_iload_n hx hb dX11_isAtRest_25 rfl (lv_at hl 0 rfl) ?_
    refine lv_iload_n hx hb dX11_isAtRest_26 rfl (lv_at hl 1 rfl) ?_
    refine lv_iload_n hx hb dX11_isAtRest_27 rfl (lv_at hl 2 rfl) ?_
    refine scall0 (As := [.int r, .int w, .int 3]) (rest := [.int 0]) ⟨hx, hb, hml, hown, hts⟩ (c_tg3 l D ct r w) (va_cwS 3 hts gX11_isAtRest_X11_travellerGets rfl rfl rfl (by decide +kernel) ⟨Nat.le_of_ble_eq_true rfl, Nat.le_of_ble_eq_true rfl⟩) hw hS hA hK hN rfl rfl hl.1 rfl (Nat.le_of_ble_eq_true rfl) dX11_isAtRest_28 (fun _ H locs hp5 hw hS => ?_)
    have hw : zPD D A [] H := hw
    refine zfr 31 [.int (-r), .int 0] rfl rfl ?_
    refine lv_icmp_gt (tgt := 38) hx hb dX11_isAtRest_31 (by decide) (fun c_6 => ?_) (fun c_6 => ?_)
    · refine lv_iconst (v := 0) hx hb dX11_isAtRest_38 (by decide) ?_
      exact ziret hx hb hr (rfl) hlocks () (by rw [zat3, if_neg c_3, if_neg (Int32.not_le.mpr c_6)]) (trivial) hw [] rfl (rfl) hS (Nat.le_of_ble_eq_true rfl) (Nat.le_of_ble_eq_true rfl) dX11_isAtRest_39
    · refine lv_iconst (v := 1) hx hb dX11_isAtRest_34 (by decide) ?_
      refine lv_goto (tgt := 39) hx hb dX11_isAtRest_35 (by decide) ?_
      exact ziret hx hb hr (rfl) hlocks () (by rw [zat3, if_neg c_3, if_pos (Int32.not_lt.mp c_6)]) (trivial) hw [] rfl (rfl) hS (Nat.le_of_ble_eq_true rfl) (Nat.le_of_ble_eq_true rfl) dX11_isAtRest_39

set_option maxHeartbeats 4000000 in
set_option maxRecDepth 100000 in
theorem c_mg00 (l : Launch) (D : va_G) (ct : Nat → ClassId) (r : Int32) (w : Int32)  : zC l yX12_guardGets wsX12_guardGets ({ frames := 1, cells := 0, slots := 0, locals := 80 }) D ct [] [.int r, .int w, .int 0, .int 0] [] (S := Unit) (fun _ => some (.int 0)) (fun _ => True) (fun _ => []) 0 0 := by
  refine zofW cX12_guardGets 4 (some .int) (by decide) rfl (Nat.le_of_ble_eq_true rfl) ?_
  intro p e s m below meth c A hx hb hr hml hts hown hlocks hname hK hA hZ hN H locs hw hS ls hl
  have hown : s.vm.findClass RX12 = some m.cls := hown
  have hl : lv_has ls 4 [(0, .int r), (1, .int w), (2, .int 0), (3, .int 0)] := hl
  refine lv_iload_n hx hb dX12_guardGets_0 rfl (lv_at hl 3 rfl) ?_
  refine lv_iconst (v := 1) hx hb dX12_guardGets_1 (by decide) ?_
  refine lv_icmp_ne (tgt := 19) hx hb dX12_guardGets_2 (by decide) (fun _ => ?_) (fun h => absurd h (by decide))
  refine lv_iload_n hx hb dX12_guardGets_19 rfl (lv_at hl 2 rfl) ?_
  refine lv_iconst (v := 1) hx hb dX12_guardGets_20 (by decide) ?_
  refine lv_icmp_ne (tgt := 28) hx hb dX12_guardGets_21 (by decide) (fun _ => ?_) (fun h => absurd h (by decide))
  refine lv_iconst (v := 0) hx hb dX12_guardGets_28 (by decide) ?_
  exact ziret hx hb hr (rfl) hlocks () (rfl) (trivial) hw [] rfl (rfl) hS (Nat.le_of_ble_eq_true rfl) (Nat.le_of_ble_eq_true rfl) dX12_guardGets_29

set_option maxHeartbeats 4000000 in
set_option maxRecDepth 100000 in
theorem c_mt00 (l : Launch) (D : va_G) (ct : Nat → ClassId) (r : Int32) (w : Int32)  : zC l yX12_travellerGets wsX12_travellerGets ({ frames := 1, cells := 0, slots := 0, locals := 80 }) D ct [] [.int r, .int w, .int 0, .int 0] [] (S := Unit) (fun _ => some (.int 0)) (fun _ => True) (fun _ => []) 0 0 := by
  refine zofW cX12_travellerGets 4 (some .int) (by decide) rfl (Nat.le_of_ble_eq_true rfl) ?_
  intro p e s m below meth c A hx hb hr hml hts hown hlocks hname hK hA hZ hN H locs hw hS ls hl
  have hown : s.vm.findClass RX12 = some m.cls := hown
  have hl : lv_has ls 4 [(0, .int r), (1, .int w), (2, .int 0), (3, .int 0)] := hl
  refine lv_iload_n hx hb dX12_travellerGets_0 rfl (lv_at hl 3 rfl) ?_
  refine lv_if_ne (tgt := 8) hx hb dX12_travellerGets_1 (by decide) (fun h => absurd (by decide) h) (fun _ => ?_)
  refine lv_iconst (v := 0) hx hb dX12_travellerGets_4 (by decide) ?_
  refine lv_goto (tgt := 19) hx hb dX12_travellerGets_5 (by decide) ?_
  exact ziret hx hb hr (rfl) hlocks () (rfl) (trivial) hw [] rfl (rfl) hS (Nat.le_of_ble_eq_true rfl) (Nat.le_of_ble_eq_true rfl) dX12_travellerGets_19

set_option maxHeartbeats 4000000 in
set_option maxRecDepth 100000 in
theorem c_mg10 (l : Launch) (D : va_G) (ct : Nat → ClassId) (r : Int32) (w : Int32)  : zC l yX12_guardGets wsX12_guardGets ({ frames := 1, cells := 0, slots := 0, locals := 80 }) D ct [] [.int r, .int w, .int 1, .int 0] [] (S := Unit) (fun _ => some (.int (-1))) (fun _ => True) (fun _ => []) 0 0 := by
  refine zofW cX12_guardGets 4 (some .int) (by decide) rfl (Nat.le_of_ble_eq_true rfl) ?_
  intro p e s m below meth c A hx hb hr hml hts hown hlocks hname hK hA hZ hN H locs hw hS ls hl
  have hown : s.vm.findClass RX12 = some m.cls := hown
  have hl : lv_has ls 4 [(0, .int r), (1, .int w), (2, .int 1), (3, .int 0)] := hl
  refine lv_iload_n hx hb dX12_guardGets_0 rfl (lv_at hl 3 rfl) ?_
  refine lv_iconst (v := 1) hx hb dX12_guardGets_1 (by decide) ?_
  refine lv_icmp_ne (tgt := 19) hx hb dX12_guardGets_2 (by decide) (fun _ => ?_) (fun h => absurd h (by decide))
  refine lv_iload_n hx hb dX12_guardGets_19 rfl (lv_at hl 2 rfl) ?_
  refine lv_iconst (v := 1) hx hb dX12_guardGets_20 (by decide) ?_
  refine lv_icmp_ne (tgt := 28) hx hb dX12_guardGets_21 (by decide) (fun h => absurd (by decide) h) (fun _ => ?_)
  refine lv_iconst (v := (-1)) hx hb dX12_guardGets_24 (by decide) ?_
  refine lv_goto (tgt := 29) hx hb dX12_guardGets_25 (by decide) ?_
  exact ziret hx hb hr (rfl) hlocks () (rfl) (trivial) hw [] rfl (rfl) hS (Nat.le_of_ble_eq_true rfl) (Nat.le_of_ble_eq_true rfl) dX12_guardGets_29

set_option maxHeartbeats 4000000 in
set_option maxRecDepth 100000 in
theorem c_mt10 (l : Launch) (D : va_G) (ct : Nat → ClassId) (r : Int32) (w : Int32)  : zC l yX12_travellerGets wsX12_travellerGets ({ frames := 1, cells := 0, slots := 0, locals := 80 }) D ct [] [.int r, .int w, .int 1, .int 0] [] (S := Unit) (fun _ => some (.int 0)) (fun _ => True) (fun _ => []) 0 0 := by
  refine zofW cX12_travellerGets 4 (some .int) (by decide) rfl (Nat.le_of_ble_eq_true rfl) ?_
  intro p e s m below meth c A hx hb hr hml hts hown hlocks hname hK hA hZ hN H locs hw hS ls hl
  have hown : s.vm.findClass RX12 = some m.cls := hown
  have hl : lv_has ls 4 [(0, .int r), (1, .int w), (2, .int 1), (3, .int 0)] := hl
  refine lv_iload_n hx hb dX12_travellerGets_0 rfl (lv_at hl 3 rfl) ?_
  refine lv_if_ne (tgt := 8) hx hb dX12_travellerGets_1 (by decide) (fun h => absurd (by decide) h) (fun _ => ?_)
  refine lv_iconst (v := 0) hx hb dX12_travellerGets_4 (by decide) ?_
  refine lv_goto (tgt := 19) hx hb dX12_travellerGets_5 (by decide) ?_
  exact ziret hx hb hr (rfl) hlocks () (rfl) (trivial) hw [] rfl (rfl) hS (Nat.le_of_ble_eq_true rfl) (Nat.le_of_ble_eq_true rfl) dX12_travellerGets_19

set_option maxHeartbeats 4000000 in
set_option maxRecDepth 100000 in
theorem c_mg01 (l : Launch) (D : va_G) (ct : Nat → ClassId) (r : Int32) (w : Int32)  : zC l yX12_guardGets wsX12_guardGets ({ frames := 1, cells := 0, slots := 0, locals := 80 }) D ct [] [.int r, .int w, .int 0, .int 1] [] (S := Unit) (fun _ => some (.int (-w))) (fun _ => True) (fun _ => []) 0 0 := by
  refine zofW cX12_guardGets 4 (some .int) (by decide) rfl (Nat.le_of_ble_eq_true rfl) ?_
  intro p e s m below meth c A hx hb hr hml hts hown hlocks hname hK hA hZ hN H locs hw hS ls hl
  have hown : s.vm.findClass RX12 = some m.cls := hown
  have hl : lv_has ls 4 [(0, .int r), (1, .int w), (2, .int 0), (3, .int 1)] := hl
  refine lv_iload_n hx hb dX12_guardGets_0 rfl (lv_at hl 3 rfl) ?_
  refine lv_iconst (v := 1) hx hb dX12_guardGets_1 (by decide) ?_
  refine lv_icmp_ne (tgt := 19) hx hb dX12_guardGets_2 (by decide) (fun h => absurd (by decide) h) (fun _ => ?_)
  refine lv_iload_n hx hb dX12_guardGets_5 rfl (lv_at hl 2 rfl) ?_
  refine lv_iconst (v := 1) hx hb dX12_guardGets_6 (by decide) ?_
  refine lv_icmp_ne (tgt := 14) hx hb dX12_guardGets_7 (by decide) (fun _ => ?_) (fun h => absurd h (by decide))
  refine lv_iload_n hx hb dX12_guardGets_14 rfl (lv_at hl 1 rfl) ?_
  refine lv_ineg hx hb dX12_guardGets_15 ?_
  refine lv_goto (tgt := 29) hx hb dX12_guardGets_16 (by decide) ?_
  exact ziret hx hb hr (rfl) hlocks () (rfl) (trivial) hw [] rfl (rfl) hS (Nat.le_of_ble_eq_true rfl) (Nat.le_of_ble_eq_true rfl) dX12_guardGets_29

set_option maxHeartbeats 4000000 in
set_option maxRecDepth 100000 in
theorem c_mt01 (l : Launch) (D : va_G) (ct : Nat → ClassId) (r : Int32) (w : Int32)  : zC l yX12_travellerGets wsX12_travellerGets ({ frames := 1, cells := 0, slots := 0, locals := 80 }) D ct [] [.int r, .int w, .int 0, .int 1] [] (S := Unit) (fun _ => some (.int w)) (fun _ => True) (fun _ => []) 0 0 := by
  refine zofW cX12_travellerGets 4 (some .int) (by decide) rfl (Nat.le_of_ble_eq_true rfl) ?_
  intro p e s m below meth c A hx hb hr hml hts hown hlocks hname hK hA hZ hN H locs hw hS ls hl
  have hown : s.vm.findClass RX12 = some m.cls := hown
  have hl : lv_has ls 4 [(0, .int r), (1, .int w), (2, .int 0), (3, .int 1)] := hl
  refine lv_iload_n hx hb dX12_travellerGets_0 rfl (lv_at hl 3 rfl) ?_
  refine lv_if_ne (tgt := 8) hx hb dX12_travellerGets_1 (by decide) (fun _ => ?_) (fun h => absurd h (by decide))
  refine lv_iload_n hx hb dX12_travellerGets_8 rfl (lv_at hl 2 rfl) ?_
  refine lv_iconst (v := 1) hx hb dX12_travellerGets_9 (by decide) ?_
  refine lv_icmp_ne (tgt := 18) hx hb dX12_travellerGets_10 (by decide) (fun _ => ?_) (fun h => absurd h (by decide))
  refine lv_iload_n hx hb dX12_travellerGets_18 rfl (lv_at hl 1 rfl) ?_
  exact ziret hx hb hr (rfl) hlocks () (rfl) (trivial) hw [] rfl (rfl) hS (Nat.le_of_ble_eq_true rfl) (Nat.le_of_ble_eq_true rfl) dX12_travellerGets_19

set_option maxHeartbeats 4000000 in
set_option maxRecDepth 100000 in
theorem c_mg11 (l : Launch) (D : va_G) (ct : Nat → ClassId) (r : Int32) (w : Int32)  : zC l yX12_guardGets wsX12_guardGets ({ frames := 1, cells := 0, slots := 0, locals := 80 }) D ct [] [.int r, .int w, .int 1, .int 1] [] (S := Unit) (fun _ => some (.int r)) (fun _ => True) (fun _ => []) 0 0 := by
  refine zofW cX12_guardGets 4 (some .int) (by decide) rfl (Nat.le_of_ble_eq_true rfl) ?_
  intro p e s m below meth c A hx hb hr hml hts hown hlocks hname hK hA hZ hN H locs hw hS ls hl
  have hown : s.vm.findClass RX12 = some m.cls := hown
  have hl : lv_has ls 4 [(0, .int r), (1, .int w), (2, .int 1), (3, .int 1)] := hl
  refine lv_iload_n hx hb dX12_guardGets_0 rfl (lv_at hl 3 rfl) ?_
  refine lv_iconst (v := 1) hx hb dX12_guardGets_1 (by decide) ?_
  refine lv_icmp_ne (tgt := 19) hx hb dX12_guardGets_2 (by decide) (fun h => absurd (by decide) h) (fun _ => ?_)
  refine lv_iload_n hx hb dX12_guardGets_5 rfl (lv_at hl 2 rfl) ?_
  refine lv_iconst (v := 1) hx hb dX12_guardGets_6 (by decide) ?_
  refine lv_icmp_ne (tgt := 14) hx hb dX12_guardGets_7 (by decide) (fun h => absurd (by decide) h) (fun _ => ?_)
  refine lv_iload_n hx hb dX12_guardGets_10 rfl (lv_at hl 0 rfl) ?_
  refine lv_goto (tgt := 29) hx hb dX12_guardGets_11 (by decide) ?_
  exact ziret hx hb hr (rfl) hlocks () (rfl) (trivial) hw [] rfl (rfl) hS (Nat.le_of_ble_eq_true rfl) (Nat.le_of_ble_eq_true rfl) dX12_guardGets_29

set_option maxHeartbeats 4000000 in
set_option maxRecDepth 100000 in
theorem c_mt11 (l : Launch) (D : va_G) (ct : Nat → ClassId) (r : Int32) (w : Int32)  : zC l yX12_travellerGets wsX12_travellerGets ({ frames := 1, cells := 0, slots := 0, locals := 80 }) D ct [] [.int r, .int w, .int 1, .int 1] [] (S := Unit) (fun _ => some (.int (-r))) (fun _ => True) (fun _ => []) 0 0 := by
  refine zofW cX12_travellerGets 4 (some .int) (by decide) rfl (Nat.le_of_ble_eq_true rfl) ?_
  intro p e s m below meth c A hx hb hr hml hts hown hlocks hname hK hA hZ hN H locs hw hS ls hl
  have hown : s.vm.findClass RX12 = some m.cls := hown
  have hl : lv_has ls 4 [(0, .int r), (1, .int w), (2, .int 1), (3, .int 1)] := hl
  refine lv_iload_n hx hb dX12_travellerGets_0 rfl (lv_at hl 3 rfl) ?_
  refine lv_if_ne (tgt := 8) hx hb dX12_travellerGets_1 (by decide) (fun _ => ?_) (fun h => absurd h (by decide))
  refine lv_iload_n hx hb dX12_travellerGets_8 rfl (lv_at hl 2 rfl) ?_
  refine lv_iconst (v := 1) hx hb dX12_travellerGets_9 (by decide) ?_
  refine lv_icmp_ne (tgt := 18) hx hb dX12_travellerGets_10 (by decide) (fun h => absurd (by decide) h) (fun _ => ?_)
  refine lv_iload_n hx hb dX12_travellerGets_13 rfl (lv_at hl 0 rfl) ?_
  refine lv_ineg hx hb dX12_travellerGets_14 ?_
  refine lv_goto (tgt := 19) hx hb dX12_travellerGets_15 (by decide) ?_
  exact ziret hx hb hr (rfl) hlocks () (rfl) (trivial) hw [] rfl (rfl) hS (Nat.le_of_ble_eq_true rfl) (Nat.le_of_ble_eq_true rfl) dX12_travellerGets_19

set_option maxHeartbeats 4000000 in
set_option maxRecDepth 100000 in
/-- rests -/
theorem r_rests (l : Launch) (D : va_G) (ct : Nat → ClassId) (h0 : Nat) (y : Nat → Nat) (w_thrown : Int32) (w_taped : Int32) (w_size : Int32) (w_place : Int32) (w_begin : Int32) (w_token : Int32) (w_word : Int64) (w_told : Int32) (w_wrong : Int32) (w_code : Int32) (w_toldLines : Int32) (w_given : Int32) (w_fresh : Int64) (w_done : Int32) (w_moreAsked : Int32) (w_g : Int64) (w_gone : Int32) (w_stopped : Int32) (p1 : Int32) (p2 : Int32) (p3 : Int32)  : zC l yX12_rests wsX12_rests ({ frames := 2, cells := 0, slots := 0, locals := 120 }) D ct [] [.ref h0, .int p1, .int p2, .int p3] [(h0, .inr (11, [.int w_thrown, .int w_taped, .ref (y 0), .int w_size, .int w_place, .int w_begin, .int w_token, .long w_word, .int w_told, .int w_wrong, .ref (y 1), .ref (y 2), .ref (y 3), .ref (y 4), .ref (y 5), .ref (y 6), .ref (y 7), .ref (y 8), .ref (y 9), .ref (y 10), .ref (y 11), .ref (y 12), .int w_code, .int w_toldLines, .ref (y 13), .ref (y 14), .ref (y 15), .ref (y 16), .ref (y 17), .ref (y 18), .ref (y 19), .ref (y 20), .ref (y 21), .ref (y 22), .ref (y 23), .ref (y 24), .int w_given, .long w_fresh, .ref (y 25), .ref (y 26), .ref (y 27), .ref (y 28), .ref (y 29), .ref (y 30), .ref (y 31), .ref (y 32), .ref (y 33), .ref (y 34), .ref (y 35), .ref (y 36), .ref (y 37), .int w_done, .int w_moreAsked, .ref (y 38), .long w_g, .int w_gone, .int w_stopped]))] (S := Unit) (fun _ => some (.int (zrv p1 p2 p3))) (fun _ => True) (fun _ => [(h0, .inr (11, [.int (zth p1 p2 p3), .int w_taped, .ref (y 0), .int w_size, .int w_place, .int w_begin, .int w_token, .long w_word, .int w_told, .int w_wrong, .ref (y 1), .ref (y 2), .ref (y 3), .ref (y 4), .ref (y 5), .ref (y 6), .ref (y 7), .ref (y 8), .ref (y 9), .ref (y 10), .ref (y 11), .ref (y 12), .int w_code, .int w_toldLines, .ref (y 13), .ref (y 14), .ref (y 15), .ref (y 16), .ref (y 17), .ref (y 18), .ref (y 19), .ref (y 20), .ref (y 21), .ref (y 22), .ref (y 23), .ref (y 24), .int w_given, .long w_fresh, .ref (y 25), .ref (y 26), .ref (y 27), .ref (y 28), .ref (y 29), .ref (y 30), .ref (y 31), .ref (y 32), .ref (y 33), .ref (y 34), .ref (y 35), .ref (y 36), .ref (y 37), .int w_done, .int w_moreAsked, .ref (y 38), .long w_g, .int w_gone, .int w_stopped]))]) 0 0 := by
  refine zofW cX12_rests 8 (some .int) (by decide) rfl (Nat.le_of_ble_eq_true rfl) ?_
  intro p e s m below meth c A hx hb hr hml hts hown hlocks hname hK hA hZ hN H locs hw hS ls hl
  have hown : s.vm.findClass RX12 = some m.cls := hown
  have hl : lv_has ls 8 [(0, .ref h0), (1, .int p1), (2, .int p2), (3, .int p3)] := hl
  have hiX12 : ∀ w ∈ wsX120, w ∈ wsX12_rests := by decide +kernel
  refine lv_aload_n hx hb dX12_rests_0 rfl (lv_at hl 0 rfl) ?_
  refine lv_iload_n hx hb dX12_rests_1 rfl (lv_at hl 1 rfl) ?_
  refine lv_iconst (v := 0) hx hb dX12_rests_2 (by decide) ?_
  refine lv_bipush (v := 9) hx hb dX12_rests_3 (by decide) ?_
  refine scall0 (As := [.int p1, .int 0, .int 9]) (rest := [.ref h0]) ⟨hx, hb, hml, hown, hts⟩ (c_within l D ct p1 0 9) (va_cwS 3 hts gX12_rests_X12_within rfl rfl rfl (by decide +kernel) ⟨Nat.le_of_ble_eq_true rfl, Nat.le_of_ble_eq_true rfl⟩) hw hS hA hK hN rfl rfl hl.1 rfl (Nat.le_of_ble_eq_true rfl) dX12_rests_5 (fun _ H locs hp1 hw hS => ?_)
  have hw : zPD D A [(h0, .inr (11, [.int w_thrown, .int w_taped, .ref (y 0), .int w_size, .int w_place, .int w_begin, .int w_token, .long w_word, .int w_told, .int w_wrong, .ref (y 1), .ref (y 2), .ref (y 3), .ref (y 4), .ref (y 5), .ref (y 6), .ref (y 7), .ref (y 8), .ref (y 9), .ref (y 10), .ref (y 11), .ref (y 12), .int w_code, .int w_toldLines, .ref (y 13), .ref (y 14), .ref (y 15), .ref (y 16), .ref (y 17), .ref (y 18), .ref (y 19), .ref (y 20), .ref (y 21), .ref (y 22), .ref (y 23), .ref (y 24), .int w_given, .long w_fresh, .ref (y 25), .ref (y 26), .ref (y 27), .ref (y 28), .ref (y 29), .ref (y 30), .ref (y 31), .ref (y 32), .ref (y 33), .ref (y 34), .ref (y 35), .ref (y 36), .ref (y 37), .int w_done, .int w_moreAsked, .ref (y 38), .long w_g, .int w_gone, .int w_stopped]))] H := hw
  refine zfr 8 [.int (zwi p1 0 9), .ref h0] rfl rfl ?_
  refine lv_if_eq (tgt := 30) hx hb dX12_rests_8 (by decide) (fun c_2 => ?_) (fun c_2 => ?_)
  · refine lv_iconst (v := 1) hx hb dX12_rests_30 (by decide) ?_
    refine zput (D := D) (ci := 11) (v := .int 1) (ty := .int) hx hb hts hiX12 tyX12 tyX12_ok nmX12 hown hK hw hS 0 rfl rfl 0 (by decide) (hts (.fieldLink RX12 129 "BeardPassModel" "thrown" "I") (by decide +kernel)) (fun _ h9 => h9) rfl (by decide +kernel) rfl rfl (Nat.le_of_ble_eq_true rfl) dX12_rests_31 [(h0, .inr (11, [.int 1, .int w_taped, .ref (y 0), .int w_size, .int w_place, .int w_begin, .int w_token, .long w_word, .int w_told, .int w_wrong, .ref (y 1), .ref (y 2), .ref (y 3), .ref (y 4), .ref (y 5), .ref (y 6), .ref (y 7), .ref (y 8), .ref (y 9), .ref (y 10), .ref (y 11), .ref (y 12), .int w_code, .int w_toldLines, .ref (y 13), .ref (y 14), .ref (y 15), .ref (y 16), .ref (y 17), .ref (y 18), .ref (y 19), .ref (y 20), .ref (y 21), .ref (y 22), .ref (y 23), .ref (y 24), .int w_given, .long w_fresh, .ref (y 25), .ref (y 26), .ref (y 27), .ref (y 28), .ref (y 29), .ref (y 30), .ref (y 31), .ref (y 32), .ref (y 33), .ref (y 34), .ref (y 35), .ref (y 36), .ref (y 37), .int w_done, .int w_moreAsked, .ref (y 38), .long w_g, .int w_gone, .int w_stopped]))] rfl (fun H locs hw hS => ?_)
    refine lv_aload_n hx hb dX12_rests_34 rfl (lv_at hl 0 rfl) ?_
    refine va_get (D := D) (ci := 11) (v := .int 1) hx hb hts hiX12 hown hK hw.1 0 rfl rfl 0 (by decide) (hts (.fieldLink RX12 129 "BeardPassModel" "thrown" "I") (by decide +kernel)) (fun _ h9 => h9) rfl dX12_rests_35 ?_
    refine lv_iconst (v := 1) hx hb dX12_rests_38 (by decide) ?_
    refine lv_icmp_ne (tgt := 44) hx hb dX12_rests_39 (by decide) (fun h => absurd (by decide) h) (fun _ => ?_)
    refine lv_iconst (v := 0) hx hb dX12_rests_42 (by decide) ?_
    exact ziret hx hb hr (rfl) hlocks () (congrArg (fun z => some (Value.int z)) (zrv_none (by rw [zrs, if_pos c_2]))) (trivial) hw [0] rfl (by rw [show zth p1 p2 p3 = 1 from zth_none (by rw [zrs, if_pos c_2])]; rfl) hS (Nat.le_of_ble_eq_true rfl) (Nat.le_of_ble_eq_true rfl) dX12_rests_43
  · refine lv_iload_n hx hb dX12_rests_11 rfl (lv_at hl 2 rfl) ?_
    refine lv_iconst (v := 0) hx hb dX12_rests_12 (by decide) ?_
    refine lv_bipush (v := 9) hx hb dX12_rests_13 (by decide) ?_
    refine scall0 (As := [.int p2, .int 0, .int 9]) (rest := [.ref h0]) ⟨hx, hb, hml, hown, hts⟩ (c_within l D ct p2 0 9) (va_cwS 3 hts gX12_rests_X12_within rfl rfl rfl (by decide +kernel) ⟨Nat.le_of_ble_eq_true rfl, Nat.le_of_ble_eq_true rfl⟩) hw hS hA hK hN rfl rfl hl.1 rfl (Nat.le_of_ble_eq_true rfl) dX12_rests_15 (fun _ H locs hp4 hw hS => ?_)
    have hw : zPD D A [(h0, .inr (11, [.int w_thrown, .int w_taped, .ref (y 0), .int w_size, .int w_place, .int w_begin, .int w_token, .long w_word, .int w_told, .int w_wrong, .ref (y 1), .ref (y 2), .ref (y 3), .ref (y 4), .ref (y 5), .ref (y 6), .ref (y 7), .ref (y 8), .ref (y 9), .ref (y 10), .ref (y 11), .ref (y 12), .int w_code, .int w_toldLines, .ref (y 13), .ref (y 14), .ref (y 15), .ref (y 16), .ref (y 17), .ref (y 18), .ref (y 19), .ref (y 20), .ref (y 21), .ref (y 22), .ref (y 23), .ref (y 24), .int w_given, .long w_fresh, .ref (y 25), .ref (y 26), .ref (y 27), .ref (y 28), .ref (y 29), .ref (y 30), .ref (y 31), .ref (y 32), .ref (y 33), .ref (y 34), .ref (y 35), .ref (y 36), .ref (y 37), .int w_done, .int w_moreAsked, .ref (y 38), .long w_g, .int w_gone, .int w_stopped]))] H := hw
    refine zfr 18 [.int (zwi p2 0 9), .ref h0] rfl rfl ?_
    refine lv_if_eq (tgt := 30) hx hb dX12_rests_18 (by decide) (fun c_5 => ?_) (fun c_5 => ?_)
    · refine lv_iconst (v := 1) hx hb dX12_rests_30 (by decide) ?_
      refine zput (D := D) (ci := 11) (v := .int 1) (ty := .int) hx hb hts hiX12 tyX12 tyX12_ok nmX12 hown hK hw hS 0 rfl rfl 0 (by decide) (hts (.fieldLink RX12 129 "BeardPassModel" "thrown" "I") (by decide +kernel)) (fun _ h9 => h9) rfl (by decide +kernel) rfl rfl (Nat.le_of_ble_eq_true rfl) dX12_rests_31 [(h0, .inr (11, [.int 1, .int w_taped, .ref (y 0), .int w_size, .int w_place, .int w_begin, .int w_token, .long w_word, .int w_told, .int w_wrong, .ref (y 1), .ref (y 2), .ref (y 3), .ref (y 4), .ref (y 5), .ref (y 6), .ref (y 7), .ref (y 8), .ref (y 9), .ref (y 10), .ref (y 11), .ref (y 12), .int w_code, .int w_toldLines, .ref (y 13), .ref (y 14), .ref (y 15), .ref (y 16), .ref (y 17), .ref (y 18), .ref (y 19), .ref (y 20), .ref (y 21), .ref (y 22), .ref (y 23), .ref (y 24), .int w_given, .long w_fresh, .ref (y 25), .ref (y 26), .ref (y 27), .ref (y 28), .ref (y 29), .ref (y 30), .ref (y 31), .ref (y 32), .ref (y 33), .ref (y 34), .ref (y 35), .ref (y 36), .ref (y 37), .int w_done, .int w_moreAsked, .ref (y 38), .long w_g, .int w_gone, .int w_stopped]))] rfl (fun H locs hw hS => ?_)
      refine lv_aload_n hx hb dX12_rests_34 rfl (lv_at hl 0 rfl) ?_
      refine va_get (D := D) (ci := 11) (v := .int 1) hx hb hts hiX12 hown hK hw.1 0 rfl rfl 0 (by decide) (hts (.fieldLink RX12 129 "BeardPassModel" "thrown" "I") (by decide +kernel)) (fun _ h9 => h9) rfl dX12_rests_35 ?_
      refine lv_iconst (v := 1) hx hb dX12_rests_38 (by decide) ?_
      refine lv_icmp_ne (tgt := 44) hx hb dX12_rests_39 (by decide) (fun h => absurd (by decide) h) (fun _ => ?_)
      refine lv_iconst (v := 0) hx hb dX12_rests_42 (by decide) ?_
      exact ziret hx hb hr (rfl) hlocks () (congrArg (fun z => some (Value.int z)) (zrv_none (by rw [zrs, if_neg c_2, if_pos c_5]))) (trivial) hw [0] rfl (by rw [show zth p1 p2 p3 = 1 from zth_none (by rw [zrs, if_neg c_2, if_pos c_5])]; rfl) hS (Nat.le_of_ble_eq_true rfl) (Nat.le_of_ble_eq_true rfl) dX12_rests_43
    · refine lv_iload_n hx hb dX12_rests_21 rfl (lv_at hl 3 rfl) ?_
      refine lv_iconst (v := (-1)) hx hb dX12_rests_22 (by decide) ?_
      refine lv_icmp_lt (tgt := 30) hx hb dX12_rests_23 (by decide) (fun c_7 => ?_) (fun c_7 => ?_)
      · refine lv_iconst (v := 1) hx hb dX12_rests_30 (by decide) ?_
        refine zput (D := D) (ci := 11) (v := .int 1) (ty := .int) hx hb hts hiX12 tyX12 tyX12_ok nmX12 hown hK hw hS 0 rfl rfl 0 (by decide) (hts (.fieldLink RX12 129 "BeardPassModel" "thrown" "I") (by decide +kernel)) (fun _ h9 => h9) rfl (by decide +kernel) rfl rfl (Nat.le_of_ble_eq_true rfl) dX12_rests_31 [(h0, .inr (11, [.int 1, .int w_taped, .ref (y 0), .int w_size, .int w_place, .int w_begin, .int w_token, .long w_word, .int w_told, .int w_wrong, .ref (y 1), .ref (y 2), .ref (y 3), .ref (y 4), .ref (y 5), .ref (y 6), .ref (y 7), .ref (y 8), .ref (y 9), .ref (y 10), .ref (y 11), .ref (y 12), .int w_code, .int w_toldLines, .ref (y 13), .ref (y 14), .ref (y 15), .ref (y 16), .ref (y 17), .ref (y 18), .ref (y 19), .ref (y 20), .ref (y 21), .ref (y 22), .ref (y 23), .ref (y 24), .int w_given, .long w_fresh, .ref (y 25), .ref (y 26), .ref (y 27), .ref (y 28), .ref (y 29), .ref (y 30), .ref (y 31), .ref (y 32), .ref (y 33), .ref (y 34), .ref (y 35), .ref (y 36), .ref (y 37), .int w_done, .int w_moreAsked, .ref (y 38), .long w_g, .int w_gone, .int w_stopped]))] rfl (fun H locs hw hS => ?_)
        refine lv_aload_n hx hb dX12_rests_34 rfl (lv_at hl 0 rfl) ?_
        refine va_get (D := D) (ci := 11) (v := .int 1) hx hb hts hiX12 hown hK hw.1 0 rfl rfl 0 (by decide) (hts (.fieldLink RX12 129 "BeardPassModel" "thrown" "I") (by decide +kernel)) (fun _ h9 => h9) rfl dX12_rests_35 ?_
        refine lv_iconst (v := 1) hx hb dX12_rests_38 (by decide) ?_
        refine lv_icmp_ne (tgt := 44) hx hb dX12_rests_39 (by decide) (fun h => absurd (by decide) h) (fun _ => ?_)
        refine lv_iconst (v := 0) hx hb dX12_rests_42 (by decide) ?_
        exact ziret hx hb hr (rfl) hlocks () (congrArg (fun z => some (Value.int z)) (zrv_none (by rw [zrs, if_neg c_2, if_neg c_5, if_neg (zslt (r := p1) (w := p2) c_7)]))) (trivial) hw [0] rfl (by rw [show zth p1 p2 p3 = 1 from zth_none (by rw [zrs, if_neg c_2, if_neg c_5, if_neg (zslt (r := p1) (w := p2) c_7)])]; rfl) hS (Nat.le_of_ble_eq_true rfl) (Nat.le_of_ble_eq_true rfl) dX12_rests_43
      · refine lv_iconst (v := 0) hx hb dX12_rests_26 (by decide) ?_
        refine lv_goto (tgt := 31) hx hb dX12_rests_27 (by decide) ?_
        refine zput (D := D) (ci := 11) (v := .int 0) (ty := .int) hx hb hts hiX12 tyX12 tyX12_ok nmX12 hown hK hw hS 0 rfl rfl 0 (by decide) (hts (.fieldLink RX12 129 "BeardPassModel" "thrown" "I") (by decide +kernel)) (fun _ h9 => h9) rfl (by decide +kernel) rfl rfl (Nat.le_of_ble_eq_true rfl) dX12_rests_31 [(h0, .inr (11, [.int 0, .int w_taped, .ref (y 0), .int w_size, .int w_place, .int w_begin, .int w_token, .long w_word, .int w_told, .int w_wrong, .ref (y 1), .ref (y 2), .ref (y 3), .ref (y 4), .ref (y 5), .ref (y 6), .ref (y 7), .ref (y 8), .ref (y 9), .ref (y 10), .ref (y 11), .ref (y 12), .int w_code, .int w_toldLines, .ref (y 13), .ref (y 14), .ref (y 15), .ref (y 16), .ref (y 17), .ref (y 18), .ref (y 19), .ref (y 20), .ref (y 21), .ref (y 22), .ref (y 23), .ref (y 24), .int w_given, .long w_fresh, .ref (y 25), .ref (y 26), .ref (y 27), .ref (y 28), .ref (y 29), .ref (y 30), .ref (y 31), .ref (y 32), .ref (y 33), .ref (y 34), .ref (y 35), .ref (y 36), .ref (y 37), .int w_done, .int w_moreAsked, .ref (y 38), .long w_g, .int w_gone, .int w_stopped]))] rfl (fun H locs hw hS => ?_)
        refine lv_aload_n hx hb dX12_rests_34 rfl (lv_at hl 0 rfl) ?_
        refine va_get (D := D) (ci := 11) (v := .int 0) hx hb hts hiX12 hown hK hw.1 0 rfl rfl 0 (by decide) (hts (.fieldLink RX12 129 "BeardPassModel" "thrown" "I") (by decide +kernel)) (fun _ h9 => h9) rfl dX12_rests_35 ?_
        refine lv_iconst (v := 1) hx hb dX12_rests_38 (by decide) ?_
        refine lv_icmp_ne (tgt := 44) hx hb dX12_rests_39 (by decide) (fun _ => ?_) (fun h => absurd h (by decide))
        refine lv_iconst (v := 0) hx hb dX12_rests_44 (by decide) ?_
        refine lv_istore (lv' := [(4, .int 0), (0, .ref h0), (1, .int p1), (2, .int p2), (3, .int p3)]) hx hb dX12_rests_45 hl (by decide) rfl (fun ls hl => ?_)
        refine lv_iconst (v := 0) hx hb dX12_rests_47 (by decide) ?_
        refine lv_istore (lv' := [(5, .int 0), (4, .int 0), (0, .ref h0), (1, .int p1), (2, .int p2), (3, .int p3)]) hx hb dX12_rests_48 hl (by decide) rfl (fun ls hl => ?_)
        refine lv_iload hx hb dX12_rests_50 (lv_at hl 0 rfl) ?_
        refine lv_iconst (v := 4) hx hb dX12_rests_52 (by decide) ?_
        refine lv_icmp_ge (tgt := 135) hx hb dX12_rests_53 (by decide) (fun h => absurd h (by decide)) (fun _ => ?_)
        refine lv_iload hx hb dX12_rests_56 (lv_at hl 0 rfl) ?_
        refine lv_iconst (v := 2) hx hb dX12_rests_58 (by decide) ?_
        refine lv_idiv hx hb dX12_rests_59 (by decide) ?_
        refine ztop (.int 0) (congrArg Value.int (by decide)) ?_
        refine lv_istore (lv' := [(6, .int 0), (5, .int 0), (4, .int 0), (0, .ref h0), (1, .int p1), (2, .int p2), (3, .int p3)]) hx hb dX12_rests_60 hl (by decide) rfl (fun ls hl => ?_)
        refine lv_iload hx hb dX12_rests_62 (lv_at hl 1 rfl) ?_
        refine lv_iconst (v := 2) hx hb dX12_rests_64 (by decide) ?_
        refine lv_irem hx hb dX12_rests_65 (by decide) ?_
        refine ztop (.int 0) (congrArg Value.int (by decide)) ?_
        refine lv_istore (lv' := [(7, .int 0), (6, .int 0), (5, .int 0), (4, .int 0), (0, .ref h0), (1, .int p1), (2, .int p2), (3, .int p3)]) hx hb dX12_rests_66 hl (by decide) rfl (fun ls hl => ?_)
        refine lv_iload_n hx hb dX12_rests_68 rfl (lv_at hl 5 rfl) ?_
        refine lv_iload_n hx hb dX12_rests_69 rfl (lv_at hl 6 rfl) ?_
        refine lv_iconst (v := 1) hx hb dX12_rests_70 (by decide) ?_
        refine lv_iload hx hb dX12_rests_71 (lv_at hl 1 rfl) ?_
        refine lv_isub hx hb dX12_rests_73 ?_
        refine ztop (.int 1) (congrArg Value.int (by decide)) ?_
        refine lv_iload hx hb dX12_rests_74 (lv_at hl 0 rfl) ?_
        refine scall0 (As := [.int p1, .int p2, .int 1, .int 0]) (rest := []) ⟨hx, hb, hml, hown, hts⟩ (c_mg10 l D ct p1 p2) (va_cwS 4 hts gX12_rests_X12_guardGets rfl rfl rfl (by decide +kernel) ⟨Nat.le_of_ble_eq_true rfl, Nat.le_of_ble_eq_true rfl⟩) hw hS hA hK hN rfl rfl hl.1 rfl (Nat.le_of_ble_eq_true rfl) dX12_rests_76 (fun _ H locs hp11 hw hS => ?_)
        have hw : zPD D A [(h0, .inr (11, [.int 0, .int w_taped, .ref (y 0), .int w_size, .int w_place, .int w_begin, .int w_token, .long w_word, .int w_told, .int w_wrong, .ref (y 1), .ref (y 2), .ref (y 3), .ref (y 4), .ref (y 5), .ref (y 6), .ref (y 7), .ref (y 8), .ref (y 9), .ref (y 10), .ref (y 11), .ref (y 12), .int w_code, .int w_toldLines, .ref (y 13), .ref (y 14), .ref (y 15), .ref (y 16), .ref (y 17), .ref (y 18), .ref (y 19), .ref (y 20), .ref (y 21), .ref (y 22), .ref (y 23), .ref (y 24), .int w_given, .long w_fresh, .ref (y 25), .ref (y 26), .ref (y 27), .ref (y 28), .ref (y 29), .ref (y 30), .ref (y 31), .ref (y 32), .ref (y 33), .ref (y 34), .ref (y 35), .ref (y 36), .ref (y 37), .int w_done, .int w_moreAsked, .ref (y 38), .long w_g, .int w_gone, .int w_stopped]))] H := hw
        refine zfr 79 [.int (-1)] rfl rfl ?_
        refine lv_iload_n hx hb dX12_rests_79 rfl (lv_at hl 5 rfl) ?_
        refine lv_iload_n hx hb dX12_rests_80 rfl (lv_at hl 6 rfl) ?_
        refine lv_iload hx hb dX12_rests_81 (lv_at hl 1 rfl) ?_
        refine lv_iload hx hb dX12_rests_83 (lv_at hl 0 rfl) ?_
        refine scall0 (As := [.int p1, .int p2, .int 0, .int 0]) (rest := [.int (-1)]) ⟨hx, hb, hml, hown, hts⟩ (c_mg00 l D ct p1 p2) (va_cwS 4 hts gX12_rests_X12_guardGets rfl rfl rfl (by decide +kernel) ⟨Nat.le_of_ble_eq_true rfl, Nat.le_of_ble_eq_true rfl⟩) hw hS hA hK hN rfl rfl hl.1 rfl (Nat.le_of_ble_eq_true rfl) dX12_rests_85 (fun _ H locs hp12 hw hS => ?_)
        have hw : zPD D A [(h0, .inr (11, [.int 0, .int w_taped, .ref (y 0), .int w_size, .int w_place, .int w_begin, .int w_token, .long w_word, .int w_told, .int w_wrong, .ref (y 1), .ref (y 2), .ref (y 3), .ref (y 4), .ref (y 5), .ref (y 6), .ref (y 7), .ref (y 8), .ref (y 9), .ref (y 10), .ref (y 11), .ref (y 12), .int w_code, .int w_toldLines, .ref (y 13), .ref (y 14), .ref (y 15), .ref (y 16), .ref (y 17), .ref (y 18), .ref (y 19), .ref (y 20), .ref (y 21), .ref (y 22), .ref (y 23), .ref (y 24), .int w_given, .long w_fresh, .ref (y 25), .ref (y 26), .ref (y 27), .ref (y 28), .ref (y 29), .ref (y 30), .ref (y 31), .ref (y 32), .ref (y 33), .ref (y 34), .ref (y 35), .ref (y 36), .ref (y 37), .int w_done, .int w_moreAsked, .ref (y 38), .long w_g, .int w_gone, .int w_stopped]))] H := hw
        refine zfr 88 [.int 0, .int (-1)] rfl rfl ?_
        refine lv_icmp_gt (tgt := 129) hx hb dX12_rests_88 (by decide) (fun h => absurd h (by decide)) (fun _ => ?_)
        refine lv_iload_n hx hb dX12_rests_91 rfl (lv_at hl 5 rfl) ?_
        refine lv_iload_n hx hb dX12_rests_92 rfl (lv_at hl 6 rfl) ?_
        refine lv_iload hx hb dX12_rests_93 (lv_at hl 1 rfl) ?_
        refine lv_iconst (v := 1) hx hb dX12_rests_95 (by decide) ?_
        refine lv_iload hx hb dX12_rests_96 (lv_at hl 0 rfl) ?_
        refine lv_isub hx hb dX12_rests_98 ?_
        refine ztop (.int 1) (congrArg Value.int (by decide)) ?_
        refine scall0 (As := [.int p1, .int p2, .int 0, .int 1]) (rest := []) ⟨hx, hb, hml, hown, hts⟩ (c_mt01 l D ct p1 p2) (va_cwS 4 hts gX12_rests_X12_travellerGets rfl rfl rfl (by decide +kernel) ⟨Nat.le_of_ble_eq_true rfl, Nat.le_of_ble_eq_true rfl⟩) hw hS hA hK hN rfl rfl hl.1 rfl (Nat.le_of_ble_eq_true rfl) dX12_rests_99 (fun _ H locs hp14 hw hS => ?_)
        have hw : zPD D A [(h0, .inr (11, [.int 0, .int w_taped, .ref (y 0), .int w_size, .int w_place, .int w_begin, .int w_token, .long w_word, .int w_told, .int w_wrong, .ref (y 1), .ref (y 2), .ref (y 3), .ref (y 4), .ref (y 5), .ref (y 6), .ref (y 7), .ref (y 8), .ref (y 9), .ref (y 10), .ref (y 11), .ref (y 12), .int w_code, .int w_toldLines, .ref (y 13), .ref (y 14), .ref (y 15), .ref (y 16), .ref (y 17), .ref (y 18), .ref (y 19), .ref (y 20), .ref (y 21), .ref (y 22), .ref (y 23), .ref (y 24), .int w_given, .long w_fresh, .ref (y 25), .ref (y 26), .ref (y 27), .ref (y 28), .ref (y 29), .ref (y 30), .ref (y 31), .ref (y 32), .ref (y 33), .ref (y 34), .ref (y 35), .ref (y 36), .ref (y 37), .int w_done, .int w_moreAsked, .ref (y 38), .long w_g, .int w_gone, .int w_stopped]))] H := hw
        refine zfr 102 [.int p2] rfl rfl ?_
        refine lv_iload_n hx hb dX12_rests_102 rfl (lv_at hl 5 rfl) ?_
        refine lv_iload_n hx hb dX12_rests_103 rfl (lv_at hl 6 rfl) ?_
        refine lv_iload hx hb dX12_rests_104 (lv_at hl 1 rfl) ?_
        refine lv_iload hx hb dX12_rests_106 (lv_at hl 0 rfl) ?_
        refine scall0 (As := [.int p1, .int p2, .int 0, .int 0]) (rest := [.int p2]) ⟨hx, hb, hml, hown, hts⟩ (c_mt00 l D ct p1 p2) (va_cwS 4 hts gX12_rests_X12_travellerGets rfl rfl rfl (by decide +kernel) ⟨Nat.le_of_ble_eq_true rfl, Nat.le_of_ble_eq_true rfl⟩) hw hS hA hK hN rfl rfl hl.1 rfl (Nat.le_of_ble_eq_true rfl) dX12_rests_108 (fun _ H locs hp15 hw hS => ?_)
        have hw : zPD D A [(h0, .inr (11, [.int 0, .int w_taped, .ref (y 0), .int w_size, .int w_place, .int w_begin, .int w_token, .long w_word, .int w_told, .int w_wrong, .ref (y 1), .ref (y 2), .ref (y 3), .ref (y 4), .ref (y 5), .ref (y 6), .ref (y 7), .ref (y 8), .ref (y 9), .ref (y 10), .ref (y 11), .ref (y 12), .int w_code, .int w_toldLines, .ref (y 13), .ref (y 14), .ref (y 15), .ref (y 16), .ref (y 17), .ref (y 18), .ref (y 19), .ref (y 20), .ref (y 21), .ref (y 22), .ref (y 23), .ref (y 24), .int w_given, .long w_fresh, .ref (y 25), .ref (y 26), .ref (y 27), .ref (y 28), .ref (y 29), .ref (y 30), .ref (y 31), .ref (y 32), .ref (y 33), .ref (y 34), .ref (y 35), .ref (y 36), .ref (y 37), .int w_done, .int w_moreAsked, .ref (y 38), .long w_g, .int w_gone, .int w_stopped]))] H := hw
        refine zfr 111 [.int 0, .int p2] rfl rfl ?_
        refine lv_icmp_le (tgt := 117) hx hb dX12_rests_111 (by decide) (fun c_16 => ?_) (fun c_16 => ?_)
        · refine lv_iload hx hb dX12_rests_117 (lv_at hl 3 rfl) ?_
          refine lv_iload_n hx hb dX12_rests_119 rfl (lv_at hl 7 rfl) ?_
          refine lv_icmp_ne (tgt := 126) hx hb dX12_rests_120 (by decide) (fun c_17 => ?_) (fun c_17 => ?_)
          · refine lv_iinc (v := 1) (lv' := [(4, .int 1), (7, .int 0), (6, .int 0), (5, .int 0), (0, .ref h0), (1, .int p1), (2, .int p2), (3, .int p3)]) hx hb dX12_rests_126 hl (k := 3) rfl (by decide) (by decide) rfl (fun ls hl => ?_)
            refine lv_iinc (v := 1) (lv' := [(5, .int 1), (4, .int 1), (7, .int 0), (6, .int 0), (0, .ref h0), (1, .int p1), (2, .int p2), (3, .int p3)]) hx hb dX12_rests_129 hl (k := 3) rfl (by decide) (by decide) rfl (fun ls hl => ?_)
            refine lv_goto (tgt := 50) hx hb dX12_rests_132 (by decide) ?_
            refine lv_iload hx hb dX12_rests_50 (lv_at hl 0 rfl) ?_
            refine lv_iconst (v := 4) hx hb dX12_rests_52 (by decide) ?_
            refine lv_icmp_ge (tgt := 135) hx hb dX12_rests_53 (by decide) (fun h => absurd h (by decide)) (fun _ => ?_)
            refine lv_iload hx hb dX12_rests_56 (lv_at hl 0 rfl) ?_
            refine lv_iconst (v := 2) hx hb dX12_rests_58 (by decide) ?_
            refine lv_idiv hx hb dX12_rests_59 (by decide) ?_
            refine ztop (.int 0) (congrArg Value.int (by decide)) ?_
            refine lv_istore (lv' := [(6, .int 0), (5, .int 1), (4, .int 1), (7, .int 0), (0, .ref h0), (1, .int p1), (2, .int p2), (3, .int p3)]) hx hb dX12_rests_60 hl (by decide) rfl (fun ls hl => ?_)
            refine lv_iload hx hb dX12_rests_62 (lv_at hl 1 rfl) ?_
            refine lv_iconst (v := 2) hx hb dX12_rests_64 (by decide) ?_
            refine lv_irem hx hb dX12_rests_65 (by decide) ?_
            refine ztop (.int 1) (congrArg Value.int (by decide)) ?_
            refine lv_istore (lv' := [(7, .int 1), (6, .int 0), (5, .int 1), (4, .int 1), (0, .ref h0), (1, .int p1), (2, .int p2), (3, .int p3)]) hx hb dX12_rests_66 hl (by decide) rfl (fun ls hl => ?_)
            refine lv_iload_n hx hb dX12_rests_68 rfl (lv_at hl 5 rfl) ?_
            refine lv_iload_n hx hb dX12_rests_69 rfl (lv_at hl 6 rfl) ?_
            refine lv_iconst (v := 1) hx hb dX12_rests_70 (by decide) ?_
            refine lv_iload hx hb dX12_rests_71 (lv_at hl 1 rfl) ?_
            refine lv_isub hx hb dX12_rests_73 ?_
            refine ztop (.int 1) (congrArg Value.int (by decide)) ?_
            refine lv_iload hx hb dX12_rests_74 (lv_at hl 0 rfl) ?_
            refine scall0 (As := [.int p1, .int p2, .int 1, .int 1]) (rest := []) ⟨hx, hb, hml, hown, hts⟩ (c_mg11 l D ct p1 p2) (va_cwS 4 hts gX12_rests_X12_guardGets rfl rfl rfl (by decide +kernel) ⟨Nat.le_of_ble_eq_true rfl, Nat.le_of_ble_eq_true rfl⟩) hw hS hA hK hN rfl rfl hl.1 rfl (Nat.le_of_ble_eq_true rfl) dX12_rests_76 (fun _ H locs hp19 hw hS => ?_)
            have hw : zPD D A [(h0, .inr (11, [.int 0, .int w_taped, .ref (y 0), .int w_size, .int w_place, .int w_begin, .int w_token, .long w_word, .int w_told, .int w_wrong, .ref (y 1), .ref (y 2), .ref (y 3), .ref (y 4), .ref (y 5), .ref (y 6), .ref (y 7), .ref (y 8), .ref (y 9), .ref (y 10), .ref (y 11), .ref (y 12), .int w_code, .int w_toldLines, .ref (y 13), .ref (y 14), .ref (y 15), .ref (y 16), .ref (y 17), .ref (y 18), .ref (y 19), .ref (y 20), .ref (y 21), .ref (y 22), .ref (y 23), .ref (y 24), .int w_given, .long w_fresh, .ref (y 25), .ref (y 26), .ref (y 27), .ref (y 28), .ref (y 29), .ref (y 30), .ref (y 31), .ref (y 32), .ref (y 33), .ref (y 34), .ref (y 35), .ref (y 36), .ref (y 37), .int w_done, .int w_moreAsked, .ref (y 38), .long w_g, .int w_gone, .int w_stopped]))] H := hw
            refine zfr 79 [.int p1] rfl rfl ?_
            refine lv_iload_n hx hb dX12_rests_79 rfl (lv_at hl 5 rfl) ?_
            refine lv_iload_n hx hb dX12_rests_80 rfl (lv_at hl 6 rfl) ?_
            refine lv_iload hx hb dX12_rests_81 (lv_at hl 1 rfl) ?_
            refine lv_iload hx hb dX12_rests_83 (lv_at hl 0 rfl) ?_
            refine scall0 (As := [.int p1, .int p2, .int 0, .int 1]) (rest := [.int p1]) ⟨hx, hb, hml, hown, hts⟩ (c_mg01 l D ct p1 p2) (va_cwS 4 hts gX12_rests_X12_guardGets rfl rfl rfl (by decide +kernel) ⟨Nat.le_of_ble_eq_true rfl, Nat.le_of_ble_eq_true rfl⟩) hw hS hA hK hN rfl rfl hl.1 rfl (Nat.le_of_ble_eq_true rfl) dX12_rests_85 (fun _ H locs hp20 hw hS => ?_)
            have hw : zPD D A [(h0, .inr (11, [.int 0, .int w_taped, .ref (y 0), .int w_size, .int w_place, .int w_begin, .int w_token, .long w_word, .int w_told, .int w_wrong, .ref (y 1), .ref (y 2), .ref (y 3), .ref (y 4), .ref (y 5), .ref (y 6), .ref (y 7), .ref (y 8), .ref (y 9), .ref (y 10), .ref (y 11), .ref (y 12), .int w_code, .int w_toldLines, .ref (y 13), .ref (y 14), .ref (y 15), .ref (y 16), .ref (y 17), .ref (y 18), .ref (y 19), .ref (y 20), .ref (y 21), .ref (y 22), .ref (y 23), .ref (y 24), .int w_given, .long w_fresh, .ref (y 25), .ref (y 26), .ref (y 27), .ref (y 28), .ref (y 29), .ref (y 30), .ref (y 31), .ref (y 32), .ref (y 33), .ref (y 34), .ref (y 35), .ref (y 36), .ref (y 37), .int w_done, .int w_moreAsked, .ref (y 38), .long w_g, .int w_gone, .int w_stopped]))] H := hw
            refine zfr 88 [.int (-p2), .int p1] rfl rfl ?_
            refine lv_icmp_gt (tgt := 129) hx hb dX12_rests_88 (by decide) (fun c_21 => ?_) (fun c_21 => ?_)
            · refine lv_iinc (v := 2) (lv' := [(5, .int 2), (7, .int 1), (6, .int 0), (4, .int 1), (0, .ref h0), (1, .int p1), (2, .int p2), (3, .int p3)]) hx hb dX12_rests_129 hl (k := 2) rfl (by decide) (by decide) rfl (fun ls hl => ?_)
              refine lv_goto (tgt := 50) hx hb dX12_rests_132 (by decide) ?_
              refine lv_iload hx hb dX12_rests_50 (lv_at hl 0 rfl) ?_
              refine lv_iconst (v := 4) hx hb dX12_rests_52 (by decide) ?_
              refine lv_icmp_ge (tgt := 135) hx hb dX12_rests_53 (by decide) (fun h => absurd h (by decide)) (fun _ => ?_)
              refine lv_iload hx hb dX12_rests_56 (lv_at hl 0 rfl) ?_
              refine lv_iconst (v := 2) hx hb dX12_rests_58 (by decide) ?_
              refine lv_idiv hx hb dX12_rests_59 (by decide) ?_
              refine ztop (.int 1) (congrArg Value.int (by decide)) ?_
              refine lv_istore (lv' := [(6, .int 1), (5, .int 2), (7, .int 1), (4, .int 1), (0, .ref h0), (1, .int p1), (2, .int p2), (3, .int p3)]) hx hb dX12_rests_60 hl (by decide) rfl (fun ls hl => ?_)
              refine lv_iload hx hb dX12_rests_62 (lv_at hl 1 rfl) ?_
              refine lv_iconst (v := 2) hx hb dX12_rests_64 (by decide) ?_
              refine lv_irem hx hb dX12_rests_65 (by decide) ?_
              refine ztop (.int 0) (congrArg Value.int (by decide)) ?_
              refine lv_istore (lv' := [(7, .int 0), (6, .int 1), (5, .int 2), (4, .int 1), (0, .ref h0), (1, .int p1), (2, .int p2), (3, .int p3)]) hx hb dX12_rests_66 hl (by decide) rfl (fun ls hl => ?_)
              refine lv_iload_n hx hb dX12_rests_68 rfl (lv_at hl 5 rfl) ?_
              refine lv_iload_n hx hb dX12_rests_69 rfl (lv_at hl 6 rfl) ?_
              refine lv_iconst (v := 1) hx hb dX12_rests_70 (by decide) ?_
              refine lv_iload hx hb dX12_rests_71 (lv_at hl 1 rfl) ?_
              refine lv_isub hx hb dX12_rests_73 ?_
              refine ztop (.int 0) (congrArg Value.int (by decide)) ?_
              refine lv_iload hx hb dX12_rests_74 (lv_at hl 0 rfl) ?_
              refine scall0 (As := [.int p1, .int p2, .int 0, .int 0]) (rest := []) ⟨hx, hb, hml, hown, hts⟩ (c_mg00 l D ct p1 p2) (va_cwS 4 hts gX12_rests_X12_guardGets rfl rfl rfl (by decide +kernel) ⟨Nat.le_of_ble_eq_true rfl, Nat.le_of_ble_eq_true rfl⟩) hw hS hA hK hN rfl rfl hl.1 rfl (Nat.le_of_ble_eq_true rfl) dX12_rests_76 (fun _ H locs hp23 hw hS => ?_)
              have hw : zPD D A [(h0, .inr (11, [.int 0, .int w_taped, .ref (y 0), .int w_size, .int w_place, .int w_begin, .int w_token, .long w_word, .int w_told, .int w_wrong, .ref (y 1), .ref (y 2), .ref (y 3), .ref (y 4), .ref (y 5), .ref (y 6), .ref (y 7), .ref (y 8), .ref (y 9), .ref (y 10), .ref (y 11), .ref (y 12), .int w_code, .int w_toldLines, .ref (y 13), .ref (y 14), .ref (y 15), .ref (y 16), .ref (y 17), .ref (y 18), .ref (y 19), .ref (y 20), .ref (y 21), .ref (y 22), .ref (y 23), .ref (y 24), .int w_given, .long w_fresh, .ref (y 25), .ref (y 26), .ref (y 27), .ref (y 28), .ref (y 29), .ref (y 30), .ref (y 31), .ref (y 32), .ref (y 33), .ref (y 34), .ref (y 35), .ref (y 36), .ref (y 37), .int w_done, .int w_moreAsked, .ref (y 38), .long w_g, .int w_gone, .int w_stopped]))] H := hw
              refine zfr 79 [.int 0] rfl rfl ?_
              refine lv_iload_n hx hb dX12_rests_79 rfl (lv_at hl 5 rfl) ?_
              refine lv_iload_n hx hb dX12_rests_80 rfl (lv_at hl 6 rfl) ?_
              refine lv_iload hx hb dX12_rests_81 (lv_at hl 1 rfl) ?_
              refine lv_iload hx hb dX12_rests_83 (lv_at hl 0 rfl) ?_
              refine scall0 (As := [.int p1, .int p2, .int 1, .int 0]) (rest := [.int 0]) ⟨hx, hb, hml, hown, hts⟩ (c_mg10 l D ct p1 p2) (va_cwS 4 hts gX12_rests_X12_guardGets rfl rfl rfl (by decide +kernel) ⟨Nat.le_of_ble_eq_true rfl, Nat.le_of_ble_eq_true rfl⟩) hw hS hA hK hN rfl rfl hl.1 rfl (Nat.le_of_ble_eq_true rfl) dX12_rests_85 (fun _ H locs hp24 hw hS => ?_)
              have hw : zPD D A [(h0, .inr (11, [.int 0, .int w_taped, .ref (y 0), .int w_size, .int w_place, .int w_begin, .int w_token, .long w_word, .int w_told, .int w_wrong, .ref (y 1), .ref (y 2), .ref (y 3), .ref (y 4), .ref (y 5), .ref (y 6), .ref (y 7), .ref (y 8), .ref (y 9), .ref (y 10), .ref (y 11), .ref (y 12), .int w_code, .int w_toldLines, .ref (y 13), .ref (y 14), .ref (y 15), .ref (y 16), .ref (y 17), .ref (y 18), .ref (y 19), .ref (y 20), .ref (y 21), .ref (y 22), .ref (y 23), .ref (y 24), .int w_given, .long w_fresh, .ref (y 25), .ref (y 26), .ref (y 27), .ref (y 28), .ref (y 29), .ref (y 30), .ref (y 31), .ref (y 32), .ref (y 33), .ref (y 34), .ref (y 35), .ref (y 36), .ref (y 37), .int w_done, .int w_moreAsked, .ref (y 38), .long w_g, .int w_gone, .int w_stopped]))] H := hw
              refine zfr 88 [.int (-1), .int 0] rfl rfl ?_
              refine lv_icmp_gt (tgt := 129) hx hb dX12_rests_88 (by decide) (fun _ => ?_) (fun h => absurd (by decide) h)
              refine lv_iinc (v := 3) (lv' := [(5, .int 3), (7, .int 0), (6, .int 1), (4, .int 1), (0, .ref h0), (1, .int p1), (2, .int p2), (3, .int p3)]) hx hb dX12_rests_129 hl (k := 2) rfl (by decide) (by decide) rfl (fun ls hl => ?_)
              refine lv_goto (tgt := 50) hx hb dX12_rests_132 (by decide) ?_
              refine lv_iload hx hb dX12_rests_50 (lv_at hl 0 rfl) ?_
              refine lv_iconst (v := 4) hx hb dX12_rests_52 (by decide) ?_
              refine lv_icmp_ge (tgt := 135) hx hb dX12_rests_53 (by decide) (fun h => absurd h (by decide)) (fun _ => ?_)
              refine lv_iload hx hb dX12_rests_56 (lv_at hl 0 rfl) ?_
              refine lv_iconst (v := 2) hx hb dX12_rests_58 (by decide) ?_
              refine lv_idiv hx hb dX12_rests_59 (by decide) ?_
              refine ztop (.int 1) (congrArg Value.int (by decide)) ?_
              refine lv_istore (lv' := [(6, .int 1), (5, .int 3), (7, .int 0), (4, .int 1), (0, .ref h0), (1, .int p1), (2, .int p2), (3, .int p3)]) hx hb dX12_rests_60 hl (by decide) rfl (fun ls hl => ?_)
              refine lv_iload hx hb dX12_rests_62 (lv_at hl 1 rfl) ?_
              refine lv_iconst (v := 2) hx hb dX12_rests_64 (by decide) ?_
              refine lv_irem hx hb dX12_rests_65 (by decide) ?_
              refine ztop (.int 1) (congrArg Value.int (by decide)) ?_
              refine lv_istore (lv' := [(7, .int 1), (6, .int 1), (5, .int 3), (4, .int 1), (0, .ref h0), (1, .int p1), (2, .int p2), (3, .int p3)]) hx hb dX12_rests_66 hl (by decide) rfl (fun ls hl => ?_)
              refine lv_iload_n hx hb dX12_rests_68 rfl (lv_at hl 5 rfl) ?_
              refine lv_iload_n hx hb dX12_rests_69 rfl (lv_at hl 6 rfl) ?_
              refine lv_iconst (v := 1) hx hb dX12_rests_70 (by decide) ?_
              refine lv_iload hx hb dX12_rests_71 (lv_at hl 1 rfl) ?_
              refine lv_isub hx hb dX12_rests_73 ?_
              refine ztop (.int 0) (congrArg Value.int (by decide)) ?_
              refine lv_iload hx hb dX12_rests_74 (lv_at hl 0 rfl) ?_
              refine scall0 (As := [.int p1, .int p2, .int 0, .int 1]) (rest := []) ⟨hx, hb, hml, hown, hts⟩ (c_mg01 l D ct p1 p2) (va_cwS 4 hts gX12_rests_X12_guardGets rfl rfl rfl (by decide +kernel) ⟨Nat.le_of_ble_eq_true rfl, Nat.le_of_ble_eq_true rfl⟩) hw hS hA hK hN rfl rfl hl.1 rfl (Nat.le_of_ble_eq_true rfl) dX12_rests_76 (fun _ H locs hp27 hw hS => ?_)
              have hw : zPD D A [(h0, .inr (11, [.int 0, .int w_taped, .ref (y 0), .int w_size, .int w_place, .int w_begin, .int w_token, .long w_word, .int w_told, .int w_wrong, .ref (y 1), .ref (y 2), .ref (y 3), .ref (y 4), .ref (y 5), .ref (y 6), .ref (y 7), .ref (y 8), .ref (y 9), .ref (y 10), .ref (y 11), .ref (y 12), .int w_code, .int w_toldLines, .ref (y 13), .ref (y 14), .ref (y 15), .ref (y 16), .ref (y 17), .ref (y 18), .ref (y 19), .ref (y 20), .ref (y 21), .ref (y 22), .ref (y 23), .ref (y 24), .int w_given, .long w_fresh, .ref (y 25), .ref (y 26), .ref (y 27), .ref (y 28), .ref (y 29), .ref (y 30), .ref (y 31), .ref (y 32), .ref (y 33), .ref (y 34), .ref (y 35), .ref (y 36), .ref (y 37), .int w_done, .int w_moreAsked, .ref (y 38), .long w_g, .int w_gone, .int w_stopped]))] H := hw
              refine zfr 79 [.int (-p2)] rfl rfl ?_
              refine lv_iload_n hx hb dX12_rests_79 rfl (lv_at hl 5 rfl) ?_
              refine lv_iload_n hx hb dX12_rests_80 rfl (lv_at hl 6 rfl) ?_
              refine lv_iload hx hb dX12_rests_81 (lv_at hl 1 rfl) ?_
              refine lv_iload hx hb dX12_rests_83 (lv_at hl 0 rfl) ?_
              refine scall0 (As := [.int p1, .int p2, .int 1, .int 1]) (rest := [.int (-p2)]) ⟨hx, hb, hml, hown, hts⟩ (c_mg11 l D ct p1 p2) (va_cwS 4 hts gX12_rests_X12_guardGets rfl rfl rfl (by decide +kernel) ⟨Nat.le_of_ble_eq_true rfl, Nat.le_of_ble_eq_true rfl⟩) hw hS hA hK hN rfl rfl hl.1 rfl (Nat.le_of_ble_eq_true rfl) dX12_rests_85 (fun _ H locs hp28 hw hS => ?_)
              have hw : zPD D A [(h0, .inr (11, [.int 0, .int w_taped, .ref (y 0), .int w_size, .int w_place, .int w_begin, .int w_token, .long w_word, .int w_told, .int w_wrong, .ref (y 1), .ref (y 2), .ref (y 3), .ref (y 4), .ref (y 5), .ref (y 6), .ref (y 7), .ref (y 8), .ref (y 9), .ref (y 10), .ref (y 11), .ref (y 12), .int w_code, .int w_toldLines, .ref (y 13), .ref (y 14), .ref (y 15), .ref (y 16), .ref (y 17), .ref (y 18), .ref (y 19), .ref (y 20), .ref (y 21), .ref (y 22), .ref (y 23), .ref (y 24), .int w_given, .long w_fresh, .ref (y 25), .ref (y 26), .ref (y 27), .ref (y 28), .ref (y 29), .ref (y 30), .ref (y 31), .ref (y 32), .ref (y 33), .ref (y 34), .ref (y 35), .ref (y 36), .ref (y 37), .int w_done, .int w_moreAsked, .ref (y 38), .long w_g, .int w_gone, .int w_stopped]))] H := hw
              refine zfr 88 [.int p1, .int (-p2)] rfl rfl ?_
              refine lv_icmp_gt (tgt := 129) hx hb dX12_rests_88 (by decide) (fun c_29 => ?_) (fun c_29 => ?_)
              · refine lv_iinc (v := 4) (lv' := [(5, .int 4), (7, .int 1), (6, .int 1), (4, .int 1), (0, .ref h0), (1, .int p1), (2, .int p2), (3, .int p3)]) hx hb dX12_rests_129 hl (k := 2) rfl (by decide) (by decide) rfl (fun ls hl => ?_)
                refine lv_goto (tgt := 50) hx hb dX12_rests_132 (by decide) ?_
                refine lv_iload hx hb dX12_rests_50 (lv_at hl 0 rfl) ?_
                refine lv_iconst (v := 4) hx hb dX12_rests_52 (by decide) ?_
                refine lv_icmp_ge (tgt := 135) hx hb dX12_rests_53 (by decide) (fun _ => ?_) (fun h => absurd (by decide) h)
                refine lv_aload_n hx hb dX12_rests_135 rfl (lv_at hl 4 rfl) ?_
                refine lv_iload_n hx hb dX12_rests_136 rfl (lv_at hl 7 rfl) ?_
                refine lv_iconst (v := (-1)) hx hb dX12_rests_137 (by decide) ?_
                refine lv_icmp_ne (tgt := 145) hx hb dX12_rests_138 (by decide) (fun c_31 => ?_) (fun c_31 => ?_)
                · refine lv_iconst (v := 1) hx hb dX12_rests_145 (by decide) ?_
                  refine zput (D := D) (ci := 11) (v := .int 1) (ty := .int) hx hb hts hiX12 tyX12 tyX12_ok nmX12 hown hK hw hS 0 rfl rfl 0 (by decide) (hts (.fieldLink RX12 129 "BeardPassModel" "thrown" "I") (by decide +kernel)) (fun _ h9 => h9) rfl (by decide +kernel) rfl rfl (Nat.le_of_ble_eq_true rfl) dX12_rests_146 [(h0, .inr (11, [.int 1, .int w_taped, .ref (y 0), .int w_size, .int w_place, .int w_begin, .int w_token, .long w_word, .int w_told, .int w_wrong, .ref (y 1), .ref (y 2), .ref (y 3), .ref (y 4), .ref (y 5), .ref (y 6), .ref (y 7), .ref (y 8), .ref (y 9), .ref (y 10), .ref (y 11), .ref (y 12), .int w_code, .int w_toldLines, .ref (y 13), .ref (y 14), .ref (y 15), .ref (y 16), .ref (y 17), .ref (y 18), .ref (y 19), .ref (y 20), .ref (y 21), .ref (y 22), .ref (y 23), .ref (y 24), .int w_given, .long w_fresh, .ref (y 25), .ref (y 26), .ref (y 27), .ref (y 28), .ref (y 29), .ref (y 30), .ref (y 31), .ref (y 32), .ref (y 33), .ref (y 34), .ref (y 35), .ref (y 36), .ref (y 37), .int w_done, .int w_moreAsked, .ref (y 38), .long w_g, .int w_gone, .int w_stopped]))] rfl (fun H locs hw hS => ?_)
                  refine lv_iload_n hx hb dX12_rests_149 rfl (lv_at hl 7 rfl) ?_
                  refine lv_iconst (v := (-1)) hx hb dX12_rests_150 (by decide) ?_
                  refine lv_icmp_ne (tgt := 159) hx hb dX12_rests_151 (by decide) (fun _ => ?_) (fun h => absurd h (c_31))
                  refine lv_iconst (v := 0) hx hb dX12_rests_159 (by decide) ?_
                  exact ziret hx hb hr (rfl) hlocks () (congrArg (fun z => some (Value.int z)) (zrv_none (by rw [zrs, if_neg c_2, if_neg c_5, if_pos (zsge (r := p1) (w := p2) c_7), zrq0, if_neg (show ¬ zat0 p2 = 0 by rw [zat0, if_pos c_16]; decide), if_neg c_17, zrq1, if_pos (show zat1 p1 p2 = 0 from if_pos c_21), zrq3, if_pos (show zat3 p1 p2 = 0 from if_pos c_29), zrq4, if_neg c_31]))) (trivial) hw [0] rfl (by rw [show zth p1 p2 p3 = 1 from zth_none (by rw [zrs, if_neg c_2, if_neg c_5, if_pos (zsge (r := p1) (w := p2) c_7), zrq0, if_neg (show ¬ zat0 p2 = 0 by rw [zat0, if_pos c_16]; decide), if_neg c_17, zrq1, if_pos (show zat1 p1 p2 = 0 from if_pos c_21), zrq3, if_pos (show zat3 p1 p2 = 0 from if_pos c_29), zrq4, if_neg c_31])]; rfl) hS (Nat.le_of_ble_eq_true rfl) (Nat.le_of_ble_eq_true rfl) dX12_rests_160
                · refine lv_iconst (v := 0) hx hb dX12_rests_141 (by decide) ?_
                  refine lv_goto (tgt := 146) hx hb dX12_rests_142 (by decide) ?_
                  refine zput (D := D) (ci := 11) (v := .int 0) (ty := .int) hx hb hts hiX12 tyX12 tyX12_ok nmX12 hown hK hw hS 0 rfl rfl 0 (by decide) (hts (.fieldLink RX12 129 "BeardPassModel" "thrown" "I") (by decide +kernel)) (fun _ h9 => h9) rfl (by decide +kernel) rfl rfl (Nat.le_of_ble_eq_true rfl) dX12_rests_146 [(h0, .inr (11, [.int 0, .int w_taped, .ref (y 0), .int w_size, .int w_place, .int w_begin, .int w_token, .long w_word, .int w_told, .int w_wrong, .ref (y 1), .ref (y 2), .ref (y 3), .ref (y 4), .ref (y 5), .ref (y 6), .ref (y 7), .ref (y 8), .ref (y 9), .ref (y 10), .ref (y 11), .ref (y 12), .int w_code, .int w_toldLines, .ref (y 13), .ref (y 14), .ref (y 15), .ref (y 16), .ref (y 17), .ref (y 18), .ref (y 19), .ref (y 20), .ref (y 21), .ref (y 22), .ref (y 23), .ref (y 24), .int w_given, .long w_fresh, .ref (y 25), .ref (y 26), .ref (y 27), .ref (y 28), .ref (y 29), .ref (y 30), .ref (y 31), .ref (y 32), .ref (y 33), .ref (y 34), .ref (y 35), .ref (y 36), .ref (y 37), .int w_done, .int w_moreAsked, .ref (y 38), .long w_g, .int w_gone, .int w_stopped]))] rfl (fun H locs hw hS => ?_)
                  refine lv_iload_n hx hb dX12_rests_149 rfl (lv_at hl 7 rfl) ?_
                  refine lv_iconst (v := (-1)) hx hb dX12_rests_150 (by decide) ?_
                  refine lv_icmp_ne (tgt := 159) hx hb dX12_rests_151 (by decide) (fun h => absurd (c_31) h) (fun _ => ?_)
                  refine lv_iload hx hb dX12_rests_154 (lv_at hl 3 rfl) ?_
                  refine lv_goto (tgt := 160) hx hb dX12_rests_156 (by decide) ?_
                  exact ziret hx hb hr (rfl) hlocks () (congrArg (fun z => some (Value.int z)) (zrv_some (by rw [zrs, if_neg c_2, if_neg c_5, if_pos (zsge (r := p1) (w := p2) c_7), zrq0, if_neg (show ¬ zat0 p2 = 0 by rw [zat0, if_pos c_16]; decide), if_neg c_17, zrq1, if_pos (show zat1 p1 p2 = 0 from if_pos c_21), zrq3, if_pos (show zat3 p1 p2 = 0 from if_pos c_29), zrq4, if_pos c_31]))) (trivial) hw [0] rfl (by rw [show zth p1 p2 p3 = 0 from zth_some (v := 1) (by rw [zrs, if_neg c_2, if_neg c_5, if_pos (zsge (r := p1) (w := p2) c_7), zrq0, if_neg (show ¬ zat0 p2 = 0 by rw [zat0, if_pos c_16]; decide), if_neg c_17, zrq1, if_pos (show zat1 p1 p2 = 0 from if_pos c_21), zrq3, if_pos (show zat3 p1 p2 = 0 from if_pos c_29), zrq4, if_pos c_31])]; rfl) hS (Nat.le_of_ble_eq_true rfl) (Nat.le_of_ble_eq_true rfl) dX12_rests_160
              · refine lv_iload_n hx hb dX12_rests_91 rfl (lv_at hl 5 rfl) ?_
                refine lv_iload_n hx hb dX12_rests_92 rfl (lv_at hl 6 rfl) ?_
                refine lv_iload hx hb dX12_rests_93 (lv_at hl 1 rfl) ?_
                refine lv_iconst (v := 1) hx hb dX12_rests_95 (by decide) ?_
                refine lv_iload hx hb dX12_rests_96 (lv_at hl 0 rfl) ?_
                refine lv_isub hx hb dX12_rests_98 ?_
                refine ztop (.int 0) (congrArg Value.int (by decide)) ?_
                refine scall0 (As := [.int p1, .int p2, .int 1, .int 0]) (rest := []) ⟨hx, hb, hml, hown, hts⟩ (c_mt10 l D ct p1 p2) (va_cwS 4 hts gX12_rests_X12_travellerGets rfl rfl rfl (by decide +kernel) ⟨Nat.le_of_ble_eq_true rfl, Nat.le_of_ble_eq_true rfl⟩) hw hS hA hK hN rfl rfl hl.1 rfl (Nat.le_of_ble_eq_true rfl) dX12_rests_99 (fun _ H locs hp34 hw hS => ?_)
                have hw : zPD D A [(h0, .inr (11, [.int 0, .int w_taped, .ref (y 0), .int w_size, .int w_place, .int w_begin, .int w_token, .long w_word, .int w_told, .int w_wrong, .ref (y 1), .ref (y 2), .ref (y 3), .ref (y 4), .ref (y 5), .ref (y 6), .ref (y 7), .ref (y 8), .ref (y 9), .ref (y 10), .ref (y 11), .ref (y 12), .int w_code, .int w_toldLines, .ref (y 13), .ref (y 14), .ref (y 15), .ref (y 16), .ref (y 17), .ref (y 18), .ref (y 19), .ref (y 20), .ref (y 21), .ref (y 22), .ref (y 23), .ref (y 24), .int w_given, .long w_fresh, .ref (y 25), .ref (y 26), .ref (y 27), .ref (y 28), .ref (y 29), .ref (y 30), .ref (y 31), .ref (y 32), .ref (y 33), .ref (y 34), .ref (y 35), .ref (y 36), .ref (y 37), .int w_done, .int w_moreAsked, .ref (y 38), .long w_g, .int w_gone, .int w_stopped]))] H := hw
                refine zfr 102 [.int 0] rfl rfl ?_
                refine lv_iload_n hx hb dX12_rests_102 rfl (lv_at hl 5 rfl) ?_
                refine lv_iload_n hx hb dX12_rests_103 rfl (lv_at hl 6 rfl) ?_
                refine lv_iload hx hb dX12_rests_104 (lv_at hl 1 rfl) ?_
                refine lv_iload hx hb dX12_rests_106 (lv_at hl 0 rfl) ?_
                refine scall0 (As := [.int p1, .int p2, .int 1, .int 1]) (rest := [.int 0]) ⟨hx, hb, hml, hown, hts⟩ (c_mt11 l D ct p1 p2) (va_cwS 4 hts gX12_rests_X12_travellerGets rfl rfl rfl (by decide +kernel) ⟨Nat.le_of_ble_eq_true rfl, Nat.le_of_ble_eq_true rfl⟩) hw hS hA hK hN rfl rfl hl.1 rfl (Nat.le_of_ble_eq_true rfl) dX12_rests_108 (fun _ H locs hp35 hw hS => ?_)
                have hw : zPD D A [(h0, .inr (11, [.int 0, .int w_taped, .ref (y 0), .int w_size, .int w_place, .int w_begin, .int w_token, .long w_word, .int w_told, .int w_wrong, .ref (y 1), .ref (y 2), .ref (y 3), .ref (y 4), .ref (y 5), .ref (y 6), .ref (y 7), .ref (y 8), .ref (y 9), .ref (y 10), .ref (y 11), .ref (y 12), .int w_code, .int w_toldLines, .ref (y 13), .ref (y 14), .ref (y 15), .ref (y 16), .ref (y 17), .ref (y 18), .ref (y 19), .ref (y 20), .ref (y 21), .ref (y 22), .ref (y 23), .ref (y 24), .int w_given, .long w_fresh, .ref (y 25), .ref (y 26), .ref (y 27), .ref (y 28), .ref (y 29), .ref (y 30), .ref (y 31), .ref (y 32), .ref (y 33), .ref (y 34), .ref (y 35), .ref (y 36), .ref (y 37), .int w_done, .int w_moreAsked, .ref (y 38), .long w_g, .int w_gone, .int w_stopped]))] H := hw
                refine zfr 111 [.int (-p1), .int 0] rfl rfl ?_
                refine lv_icmp_le (tgt := 117) hx hb dX12_rests_111 (by decide) (fun c_36 => ?_) (fun c_36 => ?_)
                · refine lv_iload hx hb dX12_rests_117 (lv_at hl 3 rfl) ?_
                  refine lv_iload_n hx hb dX12_rests_119 rfl (lv_at hl 7 rfl) ?_
                  refine lv_icmp_ne (tgt := 126) hx hb dX12_rests_120 (by decide) (fun c_37 => ?_) (fun c_37 => ?_)
                  · refine lv_iinc (v := 2) (lv' := [(4, .int 2), (7, .int 1), (6, .int 1), (5, .int 3), (0, .ref h0), (1, .int p1), (2, .int p2), (3, .int p3)]) hx hb dX12_rests_126 hl (k := 3) rfl (by decide) (by decide) rfl (fun ls hl => ?_)
                    refine lv_iinc (v := 4) (lv' := [(5, .int 4), (4, .int 2), (7, .int 1), (6, .int 1), (0, .ref h0), (1, .int p1), (2, .int p2), (3, .int p3)]) hx hb dX12_rests_129 hl (k := 3) rfl (by decide) (by decide) rfl (fun ls hl => ?_)
                    refine lv_goto (tgt := 50) hx hb dX12_rests_132 (by decide) ?_
                    refine lv_iload hx hb dX12_rests_50 (lv_at hl 0 rfl) ?_
                    refine lv_iconst (v := 4) hx hb dX12_rests_52 (by decide) ?_
                    refine lv_icmp_ge (tgt := 135) hx hb dX12_rests_53 (by decide) (fun _ => ?_) (fun h => absurd (by decide) h)
                    refine lv_aload_n hx hb dX12_rests_135 rfl (lv_at hl 4 rfl) ?_
                    refine lv_iload_n hx hb dX12_rests_136 rfl (lv_at hl 7 rfl) ?_
                    refine lv_iconst (v := (-1)) hx hb dX12_rests_137 (by decide) ?_
                    refine lv_icmp_ne (tgt := 145) hx hb dX12_rests_138 (by decide) (fun c_39 => ?_) (fun c_39 => ?_)
                    · refine lv_iconst (v := 1) hx hb dX12_rests_145 (by decide) ?_
                      refine zput (D := D) (ci := 11) (v := .int 1) (ty := .int) hx hb hts hiX12 tyX12 tyX12_ok nmX12 hown hK hw hS 0 rfl rfl 0 (by decide) (hts (.fieldLink RX12 129 "BeardPassModel" "thrown" "I") (by decide +kernel)) (fun _ h9 => h9) rfl (by decide +kernel) rfl rfl (Nat.le_of_ble_eq_true rfl) dX12_rests_146 [(h0, .inr (11, [.int 1, .int w_taped, .ref (y 0), .int w_size, .int w_place, .int w_begin, .int w_token, .long w_word, .int w_told, .int w_wrong, .ref (y 1), .ref (y 2), .ref (y 3), .ref (y 4), .ref (y 5), .ref (y 6), .ref (y 7), .ref (y 8), .ref (y 9), .ref (y 10), .ref (y 11), .ref (y 12), .int w_code, .int w_toldLines, .ref (y 13), .ref (y 14), .ref (y 15), .ref (y 16), .ref (y 17), .ref (y 18), .ref (y 19), .ref (y 20), .ref (y 21), .ref (y 22), .ref (y 23), .ref (y 24), .int w_given, .long w_fresh, .ref (y 25), .ref (y 26), .ref (y 27), .ref (y 28), .ref (y 29), .ref (y 30), .ref (y 31), .ref (y 32), .ref (y 33), .ref (y 34), .ref (y 35), .ref (y 36), .ref (y 37), .int w_done, .int w_moreAsked, .ref (y 38), .long w_g, .int w_gone, .int w_stopped]))] rfl (fun H locs hw hS => ?_)
                      refine lv_iload_n hx hb dX12_rests_149 rfl (lv_at hl 7 rfl) ?_
                      refine lv_iconst (v := (-1)) hx hb dX12_rests_150 (by decide) ?_
                      refine lv_icmp_ne (tgt := 159) hx hb dX12_rests_151 (by decide) (fun _ => ?_) (fun h => absurd h (c_39))
                      refine lv_iconst (v := 0) hx hb dX12_rests_159 (by decide) ?_
                      exact ziret hx hb hr (rfl) hlocks () (congrArg (fun z => some (Value.int z)) (zrv_none (by rw [zrs, if_neg c_2, if_neg c_5, if_pos (zsge (r := p1) (w := p2) c_7), zrq0, if_neg (show ¬ zat0 p2 = 0 by rw [zat0, if_pos c_16]; decide), if_neg c_17, zrq1, if_pos (show zat1 p1 p2 = 0 from if_pos c_21), zrq3, if_neg (show ¬ zat3 p1 p2 = 0 by rw [zat3, if_neg c_29, if_pos c_36]; decide), if_neg c_37, zrq4, if_neg c_39]))) (trivial) hw [0] rfl (by rw [show zth p1 p2 p3 = 1 from zth_none (by rw [zrs, if_neg c_2, if_neg c_5, if_pos (zsge (r := p1) (w := p2) c_7), zrq0, if_neg (show ¬ zat0 p2 = 0 by rw [zat0, if_pos c_16]; decide), if_neg c_17, zrq1, if_pos (show zat1 p1 p2 = 0 from if_pos c_21), zrq3, if_neg (show ¬ zat3 p1 p2 = 0 by rw [zat3, if_neg c_29, if_pos c_36]; decide), if_neg c_37, zrq4, if_neg c_39])]; rfl) hS (Nat.le_of_ble_eq_true rfl) (Nat.le_of_ble_eq_true rfl) dX12_rests_160
                    · refine lv_iconst (v := 0) hx hb dX12_rests_141 (by decide) ?_
                      refine lv_goto (tgt := 146) hx hb dX12_rests_142 (by decide) ?_
                      refine zput (D := D) (ci := 11) (v := .int 0) (ty := .int) hx hb hts hiX12 tyX12 tyX12_ok nmX12 hown hK hw hS 0 rfl rfl 0 (by decide) (hts (.fieldLink RX12 129 "BeardPassModel" "thrown" "I") (by decide +kernel)) (fun _ h9 => h9) rfl (by decide +kernel) rfl rfl (Nat.le_of_ble_eq_true rfl) dX12_rests_146 [(h0, .inr (11, [.int 0, .int w_taped, .ref (y 0), .int w_size, .int w_place, .int w_begin, .int w_token, .long w_word, .int w_told, .int w_wrong, .ref (y 1), .ref (y 2), .ref (y 3), .ref (y 4), .ref (y 5), .ref (y 6), .ref (y 7), .ref (y 8), .ref (y 9), .ref (y 10), .ref (y 11), .ref (y 12), .int w_code, .int w_toldLines, .ref (y 13), .ref (y 14), .ref (y 15), .ref (y 16), .ref (y 17), .ref (y 18), .ref (y 19), .ref (y 20), .ref (y 21), .ref (y 22), .ref (y 23), .ref (y 24), .int w_given, .long w_fresh, .ref (y 25), .ref (y 26), .ref (y 27), .ref (y 28), .ref (y 29), .ref (y 30), .ref (y 31), .ref (y 32), .ref (y 33), .ref (y 34), .ref (y 35), .ref (y 36), .ref (y 37), .int w_done, .int w_moreAsked, .ref (y 38), .long w_g, .int w_gone, .int w_stopped]))] rfl (fun H locs hw hS => ?_)
                      refine lv_iload_n hx hb dX12_rests_149 rfl (lv_at hl 7 rfl) ?_
                      refine lv_iconst (v := (-1)) hx hb dX12_rests_150 (by decide) ?_
                      refine lv_icmp_ne (tgt := 159) hx hb dX12_rests_151 (by decide) (fun h => absurd (c_39) h) (fun _ => ?_)
                      refine lv_iload hx hb dX12_rests_154 (lv_at hl 1 rfl) ?_
                      refine lv_goto (tgt := 160) hx hb dX12_rests_156 (by decide) ?_
                      exact ziret hx hb hr (rfl) hlocks () (congrArg (fun z => some (Value.int z)) (zrv_some (by rw [zrs, if_neg c_2, if_neg c_5, if_pos (zsge (r := p1) (w := p2) c_7), zrq0, if_neg (show ¬ zat0 p2 = 0 by rw [zat0, if_pos c_16]; decide), if_neg c_17, zrq1, if_pos (show zat1 p1 p2 = 0 from if_pos c_21), zrq3, if_neg (show ¬ zat3 p1 p2 = 0 by rw [zat3, if_neg c_29, if_pos c_36]; decide), if_neg c_37, zrq4, if_pos c_39]))) (trivial) hw [0] rfl (by rw [show zth p1 p2 p3 = 0 from zth_some (v := 2) (by rw [zrs, if_neg c_2, if_neg c_5, if_pos (zsge (r := p1) (w := p2) c_7), zrq0, if_neg (show ¬ zat0 p2 = 0 by rw [zat0, if_pos c_16]; decide), if_neg c_17, zrq1, if_pos (show zat1 p1 p2 = 0 from if_pos c_21), zrq3, if_neg (show ¬ zat3 p1 p2 = 0 by rw [zat3, if_neg c_29, if_pos c_36]; decide), if_neg c_37, zrq4, if_pos c_39])]; rfl) hS (Nat.le_of_ble_eq_true rfl) (Nat.le_of_ble_eq_true rfl) dX12_rests_160
                  · refine lv_iload hx hb dX12_rests_123 (lv_at hl 2 rfl) ?_
                    exact ziret hx hb hr (rfl) hlocks () (congrArg (fun z => some (Value.int z)) (zrv_some (by rw [zrs, if_neg c_2, if_neg c_5, if_pos (zsge (r := p1) (w := p2) c_7), zrq0, if_neg (show ¬ zat0 p2 = 0 by rw [zat0, if_pos c_16]; decide), if_neg c_17, zrq1, if_pos (show zat1 p1 p2 = 0 from if_pos c_21), zrq3, if_neg (show ¬ zat3 p1 p2 = 0 by rw [zat3, if_neg c_29, if_pos c_36]; decide), if_pos c_37]))) (trivial) hw [0] rfl (by rw [show zth p1 p2 p3 = 0 from zth_some (v := 3) (by rw [zrs, if_neg c_2, if_neg c_5, if_pos (zsge (r := p1) (w := p2) c_7), zrq0, if_neg (show ¬ zat0 p2 = 0 by rw [zat0, if_pos c_16]; decide), if_neg c_17, zrq1, if_pos (show zat1 p1 p2 = 0 from if_pos c_21), zrq3, if_neg (show ¬ zat3 p1 p2 = 0 by rw [zat3, if_neg c_29, if_pos c_36]; decide), if_pos c_37])]; rfl) hS (Nat.le_of_ble_eq_true rfl) (Nat.le_of_ble_eq_true rfl) dX12_rests_125
                · refine lv_goto (tgt := 129) hx hb dX12_rests_114 (by decide) ?_
                  refine lv_iinc (v := 4) (lv' := [(5, .int 4), (7, .int 1), (6, .int 1), (4, .int 1), (0, .ref h0), (1, .int p1), (2, .int p2), (3, .int p3)]) hx hb dX12_rests_129 hl (k := 2) rfl (by decide) (by decide) rfl (fun ls hl => ?_)
                  refine lv_goto (tgt := 50) hx hb dX12_rests_132 (by decide) ?_
                  refine lv_iload hx hb dX12_rests_50 (lv_at hl 0 rfl) ?_
                  refine lv_iconst (v := 4) hx hb dX12_rests_52 (by decide) ?_
                  refine lv_icmp_ge (tgt := 135) hx hb dX12_rests_53 (by decide) (fun _ => ?_) (fun h => absurd (by decide) h)
                  refine lv_aload_n hx hb dX12_rests_135 rfl (lv_at hl 4 rfl) ?_
                  refine lv_iload_n hx hb dX12_rests_136 rfl (lv_at hl 7 rfl) ?_
                  refine lv_iconst (v := (-1)) hx hb dX12_rests_137 (by decide) ?_
                  refine lv_icmp_ne (tgt := 145) hx hb dX12_rests_138 (by decide) (fun c_43 => ?_) (fun c_43 => ?_)
                  · refine lv_iconst (v := 1) hx hb dX12_rests_145 (by decide) ?_
                    refine zput (D := D) (ci := 11) (v := .int 1) (ty := .int) hx hb hts hiX12 tyX12 tyX12_ok nmX12 hown hK hw hS 0 rfl rfl 0 (by decide) (hts (.fieldLink RX12 129 "BeardPassModel" "thrown" "I") (by decide +kernel)) (fun _ h9 => h9) rfl (by decide +kernel) rfl rfl (Nat.le_of_ble_eq_true rfl) dX12_rests_146 [(h0, .inr (11, [.int 1, .int w_taped, .ref (y 0), .int w_size, .int w_place, .int w_begin, .int w_token, .long w_word, .int w_told, .int w_wrong, .ref (y 1), .ref (y 2), .ref (y 3), .ref (y 4), .ref (y 5), .ref (y 6), .ref (y 7), .ref (y 8), .ref (y 9), .ref (y 10), .ref (y 11), .ref (y 12), .int w_code, .int w_toldLines, .ref (y 13), .ref (y 14), .ref (y 15), .ref (y 16), .ref (y 17), .ref (y 18), .ref (y 19), .ref (y 20), .ref (y 21), .ref (y 22), .ref (y 23), .ref (y 24), .int w_given, .long w_fresh, .ref (y 25), .ref (y 26), .ref (y 27), .ref (y 28), .ref (y 29), .ref (y 30), .ref (y 31), .ref (y 32), .ref (y 33), .ref (y 34), .ref (y 35), .ref (y 36), .ref (y 37), .int w_done, .int w_moreAsked, .ref (y 38), .long w_g, .int w_gone, .int w_stopped]))] rfl (fun H locs hw hS => ?_)
                    refine lv_iload_n hx hb dX12_rests_149 rfl (lv_at hl 7 rfl) ?_
                    refine lv_iconst (v := (-1)) hx hb dX12_rests_150 (by decide) ?_
                    refine lv_icmp_ne (tgt := 159) hx hb dX12_rests_151 (by decide) (fun _ => ?_) (fun h => absurd h (c_43))
                    refine lv_iconst (v := 0) hx hb dX12_rests_159 (by decide) ?_
                    exact ziret hx hb hr (rfl) hlocks () (congrArg (fun z => some (Value.int z)) (zrv_none (by rw [zrs, if_neg c_2, if_neg c_5, if_pos (zsge (r := p1) (w := p2) c_7), zrq0, if_neg (show ¬ zat0 p2 = 0 by rw [zat0, if_pos c_16]; decide), if_neg c_17, zrq1, if_pos (show zat1 p1 p2 = 0 from if_pos c_21), zrq3, if_pos (show zat3 p1 p2 = 0 from (if_neg c_29).trans (if_neg c_36)), zrq4, if_neg c_43]))) (trivial) hw [0] rfl (by rw [show zth p1 p2 p3 = 1 from zth_none (by rw [zrs, if_neg c_2, if_neg c_5, if_pos (zsge (r := p1) (w := p2) c_7), zrq0, if_neg (show ¬ zat0 p2 = 0 by rw [zat0, if_pos c_16]; decide), if_neg c_17, zrq1, if_pos (show zat1 p1 p2 = 0 from if_pos c_21), zrq3, if_pos (show zat3 p1 p2 = 0 from (if_neg c_29).trans (if_neg c_36)), zrq4, if_neg c_43])]; rfl) hS (Nat.le_of_ble_eq_true rfl) (Nat.le_of_ble_eq_true rfl) dX12_rests_160
                  · refine lv_iconst (v := 0) hx hb dX12_rests_141 (by decide) ?_
                    refine lv_goto (tgt := 146) hx hb dX12_rests_142 (by decide) ?_
                    refine zput (D := D) (ci := 11) (v := .int 0) (ty := .int) hx hb hts hiX12 tyX12 tyX12_ok nmX12 hown hK hw hS 0 rfl rfl 0 (by decide) (hts (.fieldLink RX12 129 "BeardPassModel" "thrown" "I") (by decide +kernel)) (fun _ h9 => h9) rfl (by decide +kernel) rfl rfl (Nat.le_of_ble_eq_true rfl) dX12_rests_146 [(h0, .inr (11, [.int 0, .int w_taped, .ref (y 0), .int w_size, .int w_place, .int w_begin, .int w_token, .long w_word, .int w_told, .int w_wrong, .ref (y 1), .ref (y 2), .ref (y 3), .ref (y 4), .ref (y 5), .ref (y 6), .ref (y 7), .ref (y 8), .ref (y 9), .ref (y 10), .ref (y 11), .ref (y 12), .int w_code, .int w_toldLines, .ref (y 13), .ref (y 14), .ref (y 15), .ref (y 16), .ref (y 17), .ref (y 18), .ref (y 19), .ref (y 20), .ref (y 21), .ref (y 22), .ref (y 23), .ref (y 24), .int w_given, .long w_fresh, .ref (y 25), .ref (y 26), .ref (y 27), .ref (y 28), .ref (y 29), .ref (y 30), .ref (y 31), .ref (y 32), .ref (y 33), .ref (y 34), .ref (y 35), .ref (y 36), .ref (y 37), .int w_done, .int w_moreAsked, .ref (y 38), .long w_g, .int w_gone, .int w_stopped]))] rfl (fun H locs hw hS => ?_)
                    refine lv_iload_n hx hb dX12_rests_149 rfl (lv_at hl 7 rfl) ?_
                    refine lv_iconst (v := (-1)) hx hb dX12_rests_150 (by decide) ?_
                    refine lv_icmp_ne (tgt := 159) hx hb dX12_rests_151 (by decide) (fun h => absurd (c_43) h) (fun _ => ?_)
                    refine lv_iload hx hb dX12_rests_154 (lv_at hl 3 rfl) ?_
                    refine lv_goto (tgt := 160) hx hb dX12_rests_156 (by decide) ?_
                    exact ziret hx hb hr (rfl) hlocks () (congrArg (fun z => some (Value.int z)) (zrv_some (by rw [zrs, if_neg c_2, if_neg c_5, if_pos (zsge (r := p1) (w := p2) c_7), zrq0, if_neg (show ¬ zat0 p2 = 0 by rw [zat0, if_pos c_16]; decide), if_neg c_17, zrq1, if_pos (show zat1 p1 p2 = 0 from if_pos c_21), zrq3, if_pos (show zat3 p1 p2 = 0 from (if_neg c_29).trans (if_neg c_36)), zrq4, if_pos c_43]))) (trivial) hw [0] rfl (by rw [show zth p1 p2 p3 = 0 from zth_some (v := 1) (by rw [zrs, if_neg c_2, if_neg c_5, if_pos (zsge (r := p1) (w := p2) c_7), zrq0, if_neg (show ¬ zat0 p2 = 0 by rw [zat0, if_pos c_16]; decide), if_neg c_17, zrq1, if_pos (show zat1 p1 p2 = 0 from if_pos c_21), zrq3, if_pos (show zat3 p1 p2 = 0 from (if_neg c_29).trans (if_neg c_36)), zrq4, if_pos c_43])]; rfl) hS (Nat.le_of_ble_eq_true rfl) (Nat.le_of_ble_eq_true rfl) dX12_rests_160
            · refine lv_iload_n hx hb dX12_rests_91 rfl (lv_at hl 5 rfl) ?_
              refine lv_iload_n hx hb dX12_rests_92 rfl (lv_at hl 6 rfl) ?_
              refine lv_iload hx hb dX12_rests_93 (lv_at hl 1 rfl) ?_
              refine lv_iconst (v := 1) hx hb dX12_rests_95 (by decide) ?_
              refine lv_iload hx hb dX12_rests_96 (lv_at hl 0 rfl) ?_
              refine lv_isub hx hb dX12_rests_98 ?_
              refine ztop (.int 0) (congrArg Value.int (by decide)) ?_
              refine scall0 (As := [.int p1, .int p2, .int 0, .int 0]) (rest := []) ⟨hx, hb, hml, hown, hts⟩ (c_mt00 l D ct p1 p2) (va_cwS 4 hts gX12_rests_X12_travellerGets rfl rfl rfl (by decide +kernel) ⟨Nat.le_of_ble_eq_true rfl, Nat.le_of_ble_eq_true rfl⟩) hw hS hA hK hN rfl rfl hl.1 rfl (Nat.le_of_ble_eq_true rfl) dX12_rests_99 (fun _ H locs hp46 hw hS => ?_)
              have hw : zPD D A [(h0, .inr (11, [.int 0, .int w_taped, .ref (y 0), .int w_size, .int w_place, .int w_begin, .int w_token, .long w_word, .int w_told, .int w_wrong, .ref (y 1), .ref (y 2), .ref (y 3), .ref (y 4), .ref (y 5), .ref (y 6), .ref (y 7), .ref (y 8), .ref (y 9), .ref (y 10), .ref (y 11), .ref (y 12), .int w_code, .int w_toldLines, .ref (y 13), .ref (y 14), .ref (y 15), .ref (y 16), .ref (y 17), .ref (y 18), .ref (y 19), .ref (y 20), .ref (y 21), .ref (y 22), .ref (y 23), .ref (y 24), .int w_given, .long w_fresh, .ref (y 25), .ref (y 26), .ref (y 27), .ref (y 28), .ref (y 29), .ref (y 30), .ref (y 31), .ref (y 32), .ref (y 33), .ref (y 34), .ref (y 35), .ref (y 36), .ref (y 37), .int w_done, .int w_moreAsked, .ref (y 38), .long w_g, .int w_gone, .int w_stopped]))] H := hw
              refine zfr 102 [.int 0] rfl rfl ?_
              refine lv_iload_n hx hb dX12_rests_102 rfl (lv_at hl 5 rfl) ?_
              refine lv_iload_n hx hb dX12_rests_103 rfl (lv_at hl 6 rfl) ?_
              refine lv_iload hx hb dX12_rests_104 (lv_at hl 1 rfl) ?_
              refine lv_iload hx hb dX12_rests_106 (lv_at hl 0 rfl) ?_
              refine scall0 (As := [.int p1, .int p2, .int 0, .int 1]) (rest := [.int 0]) ⟨hx, hb, hml, hown, hts⟩ (c_mt01 l D ct p1 p2) (va_cwS 4 hts gX12_rests_X12_travellerGets rfl rfl rfl (by decide +kernel) ⟨Nat.le_of_ble_eq_true rfl, Nat.le_of_ble_eq_true rfl⟩) hw hS hA hK hN rfl rfl hl.1 rfl (Nat.le_of_ble_eq_true rfl) dX12_rests_108 (fun _ H locs hp47 hw hS => ?_)
              have hw : zPD D A [(h0, .inr (11, [.int 0, .int w_taped, .ref (y 0), .int w_size, .int w_place, .int w_begin, .int w_token, .long w_word, .int w_told, .int w_wrong, .ref (y 1), .ref (y 2), .ref (y 3), .ref (y 4), .ref (y 5), .ref (y 6), .ref (y 7), .ref (y 8), .ref (y 9), .ref (y 10), .ref (y 11), .ref (y 12), .int w_code, .int w_toldLines, .ref (y 13), .ref (y 14), .ref (y 15), .ref (y 16), .ref (y 17), .ref (y 18), .ref (y 19), .ref (y 20), .ref (y 21), .ref (y 22), .ref (y 23), .ref (y 24), .int w_given, .long w_fresh, .ref (y 25), .ref (y 26), .ref (y 27), .ref (y 28), .ref (y 29), .ref (y 30), .ref (y 31), .ref (y 32), .ref (y 33), .ref (y 34), .ref (y 35), .ref (y 36), .ref (y 37), .int w_done, .int w_moreAsked, .ref (y 38), .long w_g, .int w_gone, .int w_stopped]))] H := hw
              refine zfr 111 [.int p2, .int 0] rfl rfl ?_
              refine lv_icmp_le (tgt := 117) hx hb dX12_rests_111 (by decide) (fun c_48 => ?_) (fun c_48 => ?_)
              · refine lv_iload hx hb dX12_rests_117 (lv_at hl 3 rfl) ?_
                refine lv_iload_n hx hb dX12_rests_119 rfl (lv_at hl 7 rfl) ?_
                refine lv_icmp_ne (tgt := 126) hx hb dX12_rests_120 (by decide) (fun c_49 => ?_) (fun c_49 => ?_)
                · refine lv_iinc (v := 2) (lv' := [(4, .int 2), (7, .int 1), (6, .int 0), (5, .int 1), (0, .ref h0), (1, .int p1), (2, .int p2), (3, .int p3)]) hx hb dX12_rests_126 hl (k := 3) rfl (by decide) (by decide) rfl (fun ls hl => ?_)
                  refine lv_iinc (v := 2) (lv' := [(5, .int 2), (4, .int 2), (7, .int 1), (6, .int 0), (0, .ref h0), (1, .int p1), (2, .int p2), (3, .int p3)]) hx hb dX12_rests_129 hl (k := 3) rfl (by decide) (by decide) rfl (fun ls hl => ?_)
                  refine lv_goto (tgt := 50) hx hb dX12_rests_132 (by decide) ?_
                  refine lv_iload hx hb dX12_rests_50 (lv_at hl 0 rfl) ?_
                  refine lv_iconst (v := 4) hx hb dX12_rests_52 (by decide) ?_
                  refine lv_icmp_ge (tgt := 135) hx hb dX12_rests_53 (by decide) (fun h => absurd h (by decide)) (fun _ => ?_)
                  refine lv_iload hx hb dX12_rests_56 (lv_at hl 0 rfl) ?_
                  refine lv_iconst (v := 2) hx hb dX12_rests_58 (by decide) ?_
                  refine lv_idiv hx hb dX12_rests_59 (by decide) ?_
                  refine ztop (.int 1) (congrArg Value.int (by decide)) ?_
                  refine lv_istore (lv' := [(6, .int 1), (5, .int 2), (4, .int 2), (7, .int 1), (0, .ref h0), (1, .int p1), (2, .int p2), (3, .int p3)]) hx hb dX12_rests_60 hl (by decide) rfl (fun ls hl => ?_)
                  refine lv_iload hx hb dX12_rests_62 (lv_at hl 1 rfl) ?_
                  refine lv_iconst (v := 2) hx hb dX12_rests_64 (by decide) ?_
                  refine lv_irem hx hb dX12_rests_65 (by decide) ?_
                  refine ztop (.int 0) (congrArg Value.int (by decide)) ?_
                  refine lv_istore (lv' := [(7, .int 0), (6, .int 1), (5, .int 2), (4, .int 2), (0, .ref h0), (1, .int p1), (2, .int p2), (3, .int p3)]) hx hb dX12_rests_66 hl (by decide) rfl (fun ls hl => ?_)
                  refine lv_iload_n hx hb dX12_rests_68 rfl (lv_at hl 5 rfl) ?_
                  refine lv_iload_n hx hb dX12_rests_69 rfl (lv_at hl 6 rfl) ?_
                  refine lv_iconst (v := 1) hx hb dX12_rests_70 (by decide) ?_
                  refine lv_iload hx hb dX12_rests_71 (lv_at hl 1 rfl) ?_
                  refine lv_isub hx hb dX12_rests_73 ?_
                  refine ztop (.int 0) (congrArg Value.int (by decide)) ?_
                  refine lv_iload hx hb dX12_rests_74 (lv_at hl 0 rfl) ?_
                  refine scall0 (As := [.int p1, .int p2, .int 0, .int 0]) (rest := []) ⟨hx, hb, hml, hown, hts⟩ (c_mg00 l D ct p1 p2) (va_cwS 4 hts gX12_rests_X12_guardGets rfl rfl rfl (by decide +kernel) ⟨Nat.le_of_ble_eq_true rfl, Nat.le_of_ble_eq_true rfl⟩) hw hS hA hK hN rfl rfl hl.1 rfl (Nat.le_of_ble_eq_true rfl) dX12_rests_76 (fun _ H locs hp51 hw hS => ?_)
                  have hw : zPD D A [(h0, .inr (11, [.int 0, .int w_taped, .ref (y 0), .int w_size, .int w_place, .int w_begin, .int w_token, .long w_word, .int w_told, .int w_wrong, .ref (y 1), .ref (y 2), .ref (y 3), .ref (y 4), .ref (y 5), .ref (y 6), .ref (y 7), .ref (y 8), .ref (y 9), .ref (y 10), .ref (y 11), .ref (y 12), .int w_code, .int w_toldLines, .ref (y 13), .ref (y 14), .ref (y 15), .ref (y 16), .ref (y 17), .ref (y 18), .ref (y 19), .ref (y 20), .ref (y 21), .ref (y 22), .ref (y 23), .ref (y 24), .int w_given, .long w_fresh, .ref (y 25), .ref (y 26), .ref (y 27), .ref (y 28), .ref (y 29), .ref (y 30), .ref (y 31), .ref (y 32), .ref (y 33), .ref (y 34), .ref (y 35), .ref (y 36), .ref (y 37), .int w_done, .int w_moreAsked, .ref (y 38), .long w_g, .int w_gone, .int w_stopped]))] H := hw
                  refine zfr 79 [.int 0] rfl rfl ?_
                  refine lv_iload_n hx hb dX12_rests_79 rfl (lv_at hl 5 rfl) ?_
                  refine lv_iload_n hx hb dX12_rests_80 rfl (lv_at hl 6 rfl) ?_
                  refine lv_iload hx hb dX12_rests_81 (lv_at hl 1 rfl) ?_
                  refine lv_iload hx hb dX12_rests_83 (lv_at hl 0 rfl) ?_
                  refine scall0 (As := [.int p1, .int p2, .int 1, .int 0]) (rest := [.int 0]) ⟨hx, hb, hml, hown, hts⟩ (c_mg10 l D ct p1 p2) (va_cwS 4 hts gX12_rests_X12_guardGets rfl rfl rfl (by decide +kernel) ⟨Nat.le_of_ble_eq_true rfl, Nat.le_of_ble_eq_true rfl⟩) hw hS hA hK hN rfl rfl hl.1 rfl (Nat.le_of_ble_eq_true rfl) dX12_rests_85 (fun _ H locs hp52 hw hS => ?_)
                  have hw : zPD D A [(h0, .inr (11, [.int 0, .int w_taped, .ref (y 0), .int w_size, .int w_place, .int w_begin, .int w_token, .long w_word, .int w_told, .int w_wrong, .ref (y 1), .ref (y 2), .ref (y 3), .ref (y 4), .ref (y 5), .ref (y 6), .ref (y 7), .ref (y 8), .ref (y 9), .ref (y 10), .ref (y 11), .ref (y 12), .int w_code, .int w_toldLines, .ref (y 13), .ref (y 14), .ref (y 15), .ref (y 16), .ref (y 17), .ref (y 18), .ref (y 19), .ref (y 20), .ref (y 21), .ref (y 22), .ref (y 23), .ref (y 24), .int w_given, .long w_fresh, .ref (y 25), .ref (y 26), .ref (y 27), .ref (y 28), .ref (y 29), .ref (y 30), .ref (y 31), .ref (y 32), .ref (y 33), .ref (y 34), .ref (y 35), .ref (y 36), .ref (y 37), .int w_done, .int w_moreAsked, .ref (y 38), .long w_g, .int w_gone, .int w_stopped]))] H := hw
                  refine zfr 88 [.int (-1), .int 0] rfl rfl ?_
                  refine lv_icmp_gt (tgt := 129) hx hb dX12_rests_88 (by decide) (fun _ => ?_) (fun h => absurd (by decide) h)
                  refine lv_iinc (v := 3) (lv' := [(5, .int 3), (7, .int 0), (6, .int 1), (4, .int 2), (0, .ref h0), (1, .int p1), (2, .int p2), (3, .int p3)]) hx hb dX12_rests_129 hl (k := 2) rfl (by decide) (by decide) rfl (fun ls hl => ?_)
                  refine lv_goto (tgt := 50) hx hb dX12_rests_132 (by decide) ?_
                  refine lv_iload hx hb dX12_rests_50 (lv_at hl 0 rfl) ?_
                  refine lv_iconst (v := 4) hx hb dX12_rests_52 (by decide) ?_
                  refine lv_icmp_ge (tgt := 135) hx hb dX12_rests_53 (by decide) (fun h => absurd h (by decide)) (fun _ => ?_)
                  refine lv_iload hx hb dX12_rests_56 (lv_at hl 0 rfl) ?_
                  refine lv_iconst (v := 2) hx hb dX12_rests_58 (by decide) ?_
                  refine lv_idiv hx hb dX12_rests_59 (by decide) ?_
                  refine ztop (.int 1) (congrArg Value.int (by decide)) ?_
                  refine lv_istore (lv' := [(6, .int 1), (5, .int 3), (7, .int 0), (4, .int 2), (0, .ref h0), (1, .int p1), (2, .int p2), (3, .int p3)]) hx hb dX12_rests_60 hl (by decide) rfl (fun ls hl => ?_)
                  refine lv_iload hx hb dX12_rests_62 (lv_at hl 1 rfl) ?_
                  refine lv_iconst (v := 2) hx hb dX12_rests_64 (by decide) ?_
                  refine lv_irem hx hb dX12_rests_65 (by decide) ?_
                  refine ztop (.int 1) (congrArg Value.int (by decide)) ?_
                  refine lv_istore (lv' := [(7, .int 1), (6, .int 1), (5, .int 3), (4, .int 2), (0, .ref h0), (1, .int p1), (2, .int p2), (3, .int p3)]) hx hb dX12_rests_66 hl (by decide) rfl (fun ls hl => ?_)
                  refine lv_iload_n hx hb dX12_rests_68 rfl (lv_at hl 5 rfl) ?_
                  refine lv_iload_n hx hb dX12_rests_69 rfl (lv_at hl 6 rfl) ?_
                  refine lv_iconst (v := 1) hx hb dX12_rests_70 (by decide) ?_
                  refine lv_iload hx hb dX12_rests_71 (lv_at hl 1 rfl) ?_
                  refine lv_isub hx hb dX12_rests_73 ?_
                  refine ztop (.int 0) (congrArg Value.int (by decide)) ?_
                  refine lv_iload hx hb dX12_rests_74 (lv_at hl 0 rfl) ?_
                  refine scall0 (As := [.int p1, .int p2, .int 0, .int 1]) (rest := []) ⟨hx, hb, hml, hown, hts⟩ (c_mg01 l D ct p1 p2) (va_cwS 4 hts gX12_rests_X12_guardGets rfl rfl rfl (by decide +kernel) ⟨Nat.le_of_ble_eq_true rfl, Nat.le_of_ble_eq_true rfl⟩) hw hS hA hK hN rfl rfl hl.1 rfl (Nat.le_of_ble_eq_true rfl) dX12_rests_76 (fun _ H locs hp55 hw hS => ?_)
                  have hw : zPD D A [(h0, .inr (11, [.int 0, .int w_taped, .ref (y 0), .int w_size, .int w_place, .int w_begin, .int w_token, .long w_word, .int w_told, .int w_wrong, .ref (y 1), .ref (y 2), .ref (y 3), .ref (y 4), .ref (y 5), .ref (y 6), .ref (y 7), .ref (y 8), .ref (y 9), .ref (y 10), .ref (y 11), .ref (y 12), .int w_code, .int w_toldLines, .ref (y 13), .ref (y 14), .ref (y 15), .ref (y 16), .ref (y 17), .ref (y 18), .ref (y 19), .ref (y 20), .ref (y 21), .ref (y 22), .ref (y 23), .ref (y 24), .int w_given, .long w_fresh, .ref (y 25), .ref (y 26), .ref (y 27), .ref (y 28), .ref (y 29), .ref (y 30), .ref (y 31), .ref (y 32), .ref (y 33), .ref (y 34), .ref (y 35), .ref (y 36), .ref (y 37), .int w_done, .int w_moreAsked, .ref (y 38), .long w_g, .int w_gone, .int w_stopped]))] H := hw
                  refine zfr 79 [.int (-p2)] rfl rfl ?_
                  refine lv_iload_n hx hb dX12_rests_79 rfl (lv_at hl 5 rfl) ?_
                  refine lv_iload_n hx hb dX12_rests_80 rfl (lv_at hl 6 rfl) ?_
                  refine lv_iload hx hb dX12_rests_81 (lv_at hl 1 rfl) ?_
                  refine lv_iload hx hb dX12_rests_83 (lv_at hl 0 rfl) ?_
                  refine scall0 (As := [.int p1, .int p2, .int 1, .int 1]) (rest := [.int (-p2)]) ⟨hx, hb, hml, hown, hts⟩ (c_mg11 l D ct p1 p2) (va_cwS 4 hts gX12_rests_X12_guardGets rfl rfl rfl (by decide +kernel) ⟨Nat.le_of_ble_eq_true rfl, Nat.le_of_ble_eq_true rfl⟩) hw hS hA hK hN rfl rfl hl.1 rfl (Nat.le_of_ble_eq_true rfl) dX12_rests_85 (fun _ H locs hp56 hw hS => ?_)
                  have hw : zPD D A [(h0, .inr (11, [.int 0, .int w_taped, .ref (y 0), .int w_size, .int w_place, .int w_begin, .int w_token, .long w_word, .int w_told, .int w_wrong, .ref (y 1), .ref (y 2), .ref (y 3), .ref (y 4), .ref (y 5), .ref (y 6), .ref (y 7), .ref (y 8), .ref (y 9), .ref (y 10), .ref (y 11), .ref (y 12), .int w_code, .int w_toldLines, .ref (y 13), .ref (y 14), .ref (y 15), .ref (y 16), .ref (y 17), .ref (y 18), .ref (y 19), .ref (y 20), .ref (y 21), .ref (y 22), .ref (y 23), .ref (y 24), .int w_given, .long w_fresh, .ref (y 25), .ref (y 26), .ref (y 27), .ref (y 28), .ref (y 29), .ref (y 30), .ref (y 31), .ref (y 32), .ref (y 33), .ref (y 34), .ref (y 35), .ref (y 36), .ref (y 37), .int w_done, .int w_moreAsked, .ref (y 38), .long w_g, .int w_gone, .int w_stopped]))] H := hw
                  refine zfr 88 [.int p1, .int (-p2)] rfl rfl ?_
                  refine lv_icmp_gt (tgt := 129) hx hb dX12_rests_88 (by decide) (fun c_57 => ?_) (fun c_57 => ?_)
                  · refine lv_iinc (v := 4) (lv' := [(5, .int 4), (7, .int 1), (6, .int 1), (4, .int 2), (0, .ref h0), (1, .int p1), (2, .int p2), (3, .int p3)]) hx hb dX12_rests_129 hl (k := 2) rfl (by decide) (by decide) rfl (fun ls hl => ?_)
                    refine lv_goto (tgt := 50) hx hb dX12_rests_132 (by decide) ?_
                    refine lv_iload hx hb dX12_rests_50 (lv_at hl 0 rfl) ?_
                    refine lv_iconst (v := 4) hx hb dX12_rests_52 (by decide) ?_
                    refine lv_icmp_ge (tgt := 135) hx hb dX12_rests_53 (by decide) (fun _ => ?_) (fun h => absurd (by decide) h)
                    refine lv_aload_n hx hb dX12_rests_135 rfl (lv_at hl 4 rfl) ?_
                    refine lv_iload_n hx hb dX12_rests_136 rfl (lv_at hl 7 rfl) ?_
                    refine lv_iconst (v := (-1)) hx hb dX12_rests_137 (by decide) ?_
                    refine lv_icmp_ne (tgt := 145) hx hb dX12_rests_138 (by decide) (fun c_59 => ?_) (fun c_59 => ?_)
                    · refine lv_iconst (v := 1) hx hb dX12_rests_145 (by decide) ?_
                      refine zput (D := D) (ci := 11) (v := .int 1) (ty := .int) hx hb hts hiX12 tyX12 tyX12_ok nmX12 hown hK hw hS 0 rfl rfl 0 (by decide) (hts (.fieldLink RX12 129 "BeardPassModel" "thrown" "I") (by decide +kernel)) (fun _ h9 => h9) rfl (by decide +kernel) rfl rfl (Nat.le_of_ble_eq_true rfl) dX12_rests_146 [(h0, .inr (11, [.int 1, .int w_taped, .ref (y 0), .int w_size, .int w_place, .int w_begin, .int w_token, .long w_word, .int w_told, .int w_wrong, .ref (y 1), .ref (y 2), .ref (y 3), .ref (y 4), .ref (y 5), .ref (y 6), .ref (y 7), .ref (y 8), .ref (y 9), .ref (y 10), .ref (y 11), .ref (y 12), .int w_code, .int w_toldLines, .ref (y 13), .ref (y 14), .ref (y 15), .ref (y 16), .ref (y 17), .ref (y 18), .ref (y 19), .ref (y 20), .ref (y 21), .ref (y 22), .ref (y 23), .ref (y 24), .int w_given, .long w_fresh, .ref (y 25), .ref (y 26), .ref (y 27), .ref (y 28), .ref (y 29), .ref (y 30), .ref (y 31), .ref (y 32), .ref (y 33), .ref (y 34), .ref (y 35), .ref (y 36), .ref (y 37), .int w_done, .int w_moreAsked, .ref (y 38), .long w_g, .int w_gone, .int w_stopped]))] rfl (fun H locs hw hS => ?_)
                      refine lv_iload_n hx hb dX12_rests_149 rfl (lv_at hl 7 rfl) ?_
                      refine lv_iconst (v := (-1)) hx hb dX12_rests_150 (by decide) ?_
                      refine lv_icmp_ne (tgt := 159) hx hb dX12_rests_151 (by decide) (fun _ => ?_) (fun h => absurd h (c_59))
                      refine lv_iconst (v := 0) hx hb dX12_rests_159 (by decide) ?_
                      exact ziret hx hb hr (rfl) hlocks () (congrArg (fun z => some (Value.int z)) (zrv_none (by rw [zrs, if_neg c_2, if_neg c_5, if_pos (zsge (r := p1) (w := p2) c_7), zrq0, if_neg (show ¬ zat0 p2 = 0 by rw [zat0, if_pos c_16]; decide), if_neg c_17, zrq1, if_neg (show ¬ zat1 p1 p2 = 0 by rw [zat1, if_neg c_21, if_pos c_48]; decide), if_neg c_49, zrq3, if_pos (show zat3 p1 p2 = 0 from if_pos c_57), zrq4, if_neg c_59]))) (trivial) hw [0] rfl (by rw [show zth p1 p2 p3 = 1 from zth_none (by rw [zrs, if_neg c_2, if_neg c_5, if_pos (zsge (r := p1) (w := p2) c_7), zrq0, if_neg (show ¬ zat0 p2 = 0 by rw [zat0, if_pos c_16]; decide), if_neg c_17, zrq1, if_neg (show ¬ zat1 p1 p2 = 0 by rw [zat1, if_neg c_21, if_pos c_48]; decide), if_neg c_49, zrq3, if_pos (show zat3 p1 p2 = 0 from if_pos c_57), zrq4, if_neg c_59])]; rfl) hS (Nat.le_of_ble_eq_true rfl) (Nat.le_of_ble_eq_true rfl) dX12_rests_160
                    · refine lv_iconst (v := 0) hx hb dX12_rests_141 (by decide) ?_
                      refine lv_goto (tgt := 146) hx hb dX12_rests_142 (by decide) ?_
                      refine zput (D := D) (ci := 11) (v := .int 0) (ty := .int) hx hb hts hiX12 tyX12 tyX12_ok nmX12 hown hK hw hS 0 rfl rfl 0 (by decide) (hts (.fieldLink RX12 129 "BeardPassModel" "thrown" "I") (by decide +kernel)) (fun _ h9 => h9) rfl (by decide +kernel) rfl rfl (Nat.le_of_ble_eq_true rfl) dX12_rests_146 [(h0, .inr (11, [.int 0, .int w_taped, .ref (y 0), .int w_size, .int w_place, .int w_begin, .int w_token, .long w_word, .int w_told, .int w_wrong, .ref (y 1), .ref (y 2), .ref (y 3), .ref (y 4), .ref (y 5), .ref (y 6), .ref (y 7), .ref (y 8), .ref (y 9), .ref (y 10), .ref (y 11), .ref (y 12), .int w_code, .int w_toldLines, .ref (y 13), .ref (y 14), .ref (y 15), .ref (y 16), .ref (y 17), .ref (y 18), .ref (y 19), .ref (y 20), .ref (y 21), .ref (y 22), .ref (y 23), .ref (y 24), .int w_given, .long w_fresh, .ref (y 25), .ref (y 26), .ref (y 27), .ref (y 28), .ref (y 29), .ref (y 30), .ref (y 31), .ref (y 32), .ref (y 33), .ref (y 34), .ref (y 35), .ref (y 36), .ref (y 37), .int w_done, .int w_moreAsked, .ref (y 38), .long w_g, .int w_gone, .int w_stopped]))] rfl (fun H locs hw hS => ?_)
                      refine lv_iload_n hx hb dX12_rests_149 rfl (lv_at hl 7 rfl) ?_
                      refine lv_iconst (v := (-1)) hx hb dX12_rests_150 (by decide) ?_
                      refine lv_icmp_ne (tgt := 159) hx hb dX12_rests_151 (by decide) (fun h => absurd (c_59) h) (fun _ => ?_)
                      refine lv_iload hx hb dX12_rests_154 (lv_at hl 3 rfl) ?_
                      refine lv_goto (tgt := 160) hx hb dX12_rests_156 (by decide) ?_
                      exact ziret hx hb hr (rfl) hlocks () (congrArg (fun z => some (Value.int z)) (zrv_some (by rw [zrs, if_neg c_2, if_neg c_5, if_pos (zsge (r := p1) (w := p2) c_7), zrq0, if_neg (show ¬ zat0 p2 = 0 by rw [zat0, if_pos c_16]; decide), if_neg c_17, zrq1, if_neg (show ¬ zat1 p1 p2 = 0 by rw [zat1, if_neg c_21, if_pos c_48]; decide), if_neg c_49, zrq3, if_pos (show zat3 p1 p2 = 0 from if_pos c_57), zrq4, if_pos c_59]))) (trivial) hw [0] rfl (by rw [show zth p1 p2 p3 = 0 from zth_some (v := 2) (by rw [zrs, if_neg c_2, if_neg c_5, if_pos (zsge (r := p1) (w := p2) c_7), zrq0, if_neg (show ¬ zat0 p2 = 0 by rw [zat0, if_pos c_16]; decide), if_neg c_17, zrq1, if_neg (show ¬ zat1 p1 p2 = 0 by rw [zat1, if_neg c_21, if_pos c_48]; decide), if_neg c_49, zrq3, if_pos (show zat3 p1 p2 = 0 from if_pos c_57), zrq4, if_pos c_59])]; rfl) hS (Nat.le_of_ble_eq_true rfl) (Nat.le_of_ble_eq_true rfl) dX12_rests_160
                  · refine lv_iload_n hx hb dX12_rests_91 rfl (lv_at hl 5 rfl) ?_
                    refine lv_iload_n hx hb dX12_rests_92 rfl (lv_at hl 6 rfl) ?_
                    refine lv_iload hx hb dX12_rests_93 (lv_at hl 1 rfl) ?_
                    refine lv_iconst (v := 1) hx hb dX12_rests_95 (by decide) ?_
                    refine lv_iload hx hb dX12_rests_96 (lv_at hl 0 rfl) ?_
                    refine lv_isub hx hb dX12_rests_98 ?_
                    refine ztop (.int 0) (congrArg Value.int (by decide)) ?_
                    refine scall0 (As := [.int p1, .int p2, .int 1, .int 0]) (rest := []) ⟨hx, hb, hml, hown, hts⟩ (c_mt10 l D ct p1 p2) (va_cwS 4 hts gX12_rests_X12_travellerGets rfl rfl rfl (by decide +kernel) ⟨Nat.le_of_ble_eq_true rfl, Nat.le_of_ble_eq_true rfl⟩) hw hS hA hK hN rfl rfl hl.1 rfl (Nat.le_of_ble_eq_true rfl) dX12_rests_99 (fun _ H locs hp62 hw hS => ?_)
                    have hw : zPD D A [(h0, .inr (11, [.int 0, .int w_taped, .ref (y 0), .int w_size, .int w_place, .int w_begin, .int w_token, .long w_word, .int w_told, .int w_wrong, .ref (y 1), .ref (y 2), .ref (y 3), .ref (y 4), .ref (y 5), .ref (y 6), .ref (y 7), .ref (y 8), .ref (y 9), .ref (y 10), .ref (y 11), .ref (y 12), .int w_code, .int w_toldLines, .ref (y 13), .ref (y 14), .ref (y 15), .ref (y 16), .ref (y 17), .ref (y 18), .ref (y 19), .ref (y 20), .ref (y 21), .ref (y 22), .ref (y 23), .ref (y 24), .int w_given, .long w_fresh, .ref (y 25), .ref (y 26), .ref (y 27), .ref (y 28), .ref (y 29), .ref (y 30), .ref (y 31), .ref (y 32), .ref (y 33), .ref (y 34), .ref (y 35), .ref (y 36), .ref (y 37), .int w_done, .int w_moreAsked, .ref (y 38), .long w_g, .int w_gone, .int w_stopped]))] H := hw
                    refine zfr 102 [.int 0] rfl rfl ?_
                    refine lv_iload_n hx hb dX12_rests_102 rfl (lv_at hl 5 rfl) ?_
                    refine lv_iload_n hx hb dX12_rests_103 rfl (lv_at hl 6 rfl) ?_
                    refine lv_iload hx hb dX12_rests_104 (lv_at hl 1 rfl) ?_
                    refine lv_iload hx hb dX12_rests_106 (lv_at hl 0 rfl) ?_
                    refine scall0 (As := [.int p1, .int p2, .int 1, .int 1]) (rest := [.int 0]) ⟨hx, hb, hml, hown, hts⟩ (c_mt11 l D ct p1 p2) (va_cwS 4 hts gX12_rests_X12_travellerGets rfl rfl rfl (by decide +kernel) ⟨Nat.le_of_ble_eq_true rfl, Nat.le_of_ble_eq_true rfl⟩) hw hS hA hK hN rfl rfl hl.1 rfl (Nat.le_of_ble_eq_true rfl) dX12_rests_108 (fun _ H locs hp63 hw hS => ?_)
                    have hw : zPD D A [(h0, .inr (11, [.int 0, .int w_taped, .ref (y 0), .int w_size, .int w_place, .int w_begin, .int w_token, .long w_word, .int w_told, .int w_wrong, .ref (y 1), .ref (y 2), .ref (y 3), .ref (y 4), .ref (y 5), .ref (y 6), .ref (y 7), .ref (y 8), .ref (y 9), .ref (y 10), .ref (y 11), .ref (y 12), .int w_code, .int w_toldLines, .ref (y 13), .ref (y 14), .ref (y 15), .ref (y 16), .ref (y 17), .ref (y 18), .ref (y 19), .ref (y 20), .ref (y 21), .ref (y 22), .ref (y 23), .ref (y 24), .int w_given, .long w_fresh, .ref (y 25), .ref (y 26), .ref (y 27), .ref (y 28), .ref (y 29), .ref (y 30), .ref (y 31), .ref (y 32), .ref (y 33), .ref (y 34), .ref (y 35), .ref (y 36), .ref (y 37), .int w_done, .int w_moreAsked, .ref (y 38), .long w_g, .int w_gone, .int w_stopped]))] H := hw
                    refine zfr 111 [.int (-p1), .int 0] rfl rfl ?_
                    refine lv_icmp_le (tgt := 117) hx hb dX12_rests_111 (by decide) (fun c_64 => ?_) (fun c_64 => ?_)
                    · refine lv_iload hx hb dX12_rests_117 (lv_at hl 3 rfl) ?_
                      refine lv_iload_n hx hb dX12_rests_119 rfl (lv_at hl 7 rfl) ?_
                      refine lv_icmp_ne (tgt := 126) hx hb dX12_rests_120 (by decide) (fun c_65 => ?_) (fun c_65 => ?_)
                      · refine lv_iinc (v := 3) (lv' := [(4, .int 3), (7, .int 1), (6, .int 1), (5, .int 3), (0, .ref h0), (1, .int p1), (2, .int p2), (3, .int p3)]) hx hb dX12_rests_126 hl (k := 3) rfl (by decide) (by decide) rfl (fun ls hl => ?_)
                        refine lv_iinc (v := 4) (lv' := [(5, .int 4), (4, .int 3), (7, .int 1), (6, .int 1), (0, .ref h0), (1, .int p1), (2, .int p2), (3, .int p3)]) hx hb dX12_rests_129 hl (k := 3) rfl (by decide) (by decide) rfl (fun ls hl => ?_)
                        refine lv_goto (tgt := 50) hx hb dX12_rests_132 (by decide) ?_
                        refine lv_iload hx hb dX12_rests_50 (lv_at hl 0 rfl) ?_
                        refine lv_iconst (v := 4) hx hb dX12_rests_52 (by decide) ?_
                        refine lv_icmp_ge (tgt := 135) hx hb dX12_rests_53 (by decide) (fun _ => ?_) (fun h => absurd (by decide) h)
                        refine lv_aload_n hx hb dX12_rests_135 rfl (lv_at hl 4 rfl) ?_
                        refine lv_iload_n hx hb dX12_rests_136 rfl (lv_at hl 7 rfl) ?_
                        refine lv_iconst (v := (-1)) hx hb dX12_rests_137 (by decide) ?_
                        refine lv_icmp_ne (tgt := 145) hx hb dX12_rests_138 (by decide) (fun c_67 => ?_) (fun c_67 => ?_)
                        · refine lv_iconst (v := 1) hx hb dX12_rests_145 (by decide) ?_
                          refine zput (D := D) (ci := 11) (v := .int 1) (ty := .int) hx hb hts hiX12 tyX12 tyX12_ok nmX12 hown hK hw hS 0 rfl rfl 0 (by decide) (hts (.fieldLink RX12 129 "BeardPassModel" "thrown" "I") (by decide +kernel)) (fun _ h9 => h9) rfl (by decide +kernel) rfl rfl (Nat.le_of_ble_eq_true rfl) dX12_rests_146 [(h0, .inr (11, [.int 1, .int w_taped, .ref (y 0), .int w_size, .int w_place, .int w_begin, .int w_token, .long w_word, .int w_told, .int w_wrong, .ref (y 1), .ref (y 2), .ref (y 3), .ref (y 4), .ref (y 5), .ref (y 6), .ref (y 7), .ref (y 8), .ref (y 9), .ref (y 10), .ref (y 11), .ref (y 12), .int w_code, .int w_toldLines, .ref (y 13), .ref (y 14), .ref (y 15), .ref (y 16), .ref (y 17), .ref (y 18), .ref (y 19), .ref (y 20), .ref (y 21), .ref (y 22), .ref (y 23), .ref (y 24), .int w_given, .long w_fresh, .ref (y 25), .ref (y 26), .ref (y 27), .ref (y 28), .ref (y 29), .ref (y 30), .ref (y 31), .ref (y 32), .ref (y 33), .ref (y 34), .ref (y 35), .ref (y 36), .ref (y 37), .int w_done, .int w_moreAsked, .ref (y 38), .long w_g, .int w_gone, .int w_stopped]))] rfl (fun H locs hw hS => ?_)
                          refine lv_iload_n hx hb dX12_rests_149 rfl (lv_at hl 7 rfl) ?_
                          refine lv_iconst (v := (-1)) hx hb dX12_rests_150 (by decide) ?_
                          refine lv_icmp_ne (tgt := 159) hx hb dX12_rests_151 (by decide) (fun _ => ?_) (fun h => absurd h (c_67))
                          refine lv_iconst (v := 0) hx hb dX12_rests_159 (by decide) ?_
                          exact ziret hx hb hr (rfl) hlocks () (congrArg (fun z => some (Value.int z)) (zrv_none (by rw [zrs, if_neg c_2, if_neg c_5, if_pos (zsge (r := p1) (w := p2) c_7), zrq0, if_neg (show ¬ zat0 p2 = 0 by rw [zat0, if_pos c_16]; decide), if_neg c_17, zrq1, if_neg (show ¬ zat1 p1 p2 = 0 by rw [zat1, if_neg c_21, if_pos c_48]; decide), if_neg c_49, zrq3, if_neg (show ¬ zat3 p1 p2 = 0 by rw [zat3, if_neg c_57, if_pos c_64]; decide), if_neg c_65, zrq4, if_neg c_67]))) (trivial) hw [0] rfl (by rw [show zth p1 p2 p3 = 1 from zth_none (by rw [zrs, if_neg c_2, if_neg c_5, if_pos (zsge (r := p1) (w := p2) c_7), zrq0, if_neg (show ¬ zat0 p2 = 0 by rw [zat0, if_pos c_16]; decide), if_neg c_17, zrq1, if_neg (show ¬ zat1 p1 p2 = 0 by rw [zat1, if_neg c_21, if_pos c_48]; decide), if_neg c_49, zrq3, if_neg (show ¬ zat3 p1 p2 = 0 by rw [zat3, if_neg c_57, if_pos c_64]; decide), if_neg c_65, zrq4, if_neg c_67])]; rfl) hS (Nat.le_of_ble_eq_true rfl) (Nat.le_of_ble_eq_true rfl) dX12_rests_160
                        · refine lv_iconst (v := 0) hx hb dX12_rests_141 (by decide) ?_
                          refine lv_goto (tgt := 146) hx hb dX12_rests_142 (by decide) ?_
                          refine zput (D := D) (ci := 11) (v := .int 0) (ty := .int) hx hb hts hiX12 tyX12 tyX12_ok nmX12 hown hK hw hS 0 rfl rfl 0 (by decide) (hts (.fieldLink RX12 129 "BeardPassModel" "thrown" "I") (by decide +kernel)) (fun _ h9 => h9) rfl (by decide +kernel) rfl rfl (Nat.le_of_ble_eq_true rfl) dX12_rests_146 [(h0, .inr (11, [.int 0, .int w_taped, .ref (y 0), .int w_size, .int w_place, .int w_begin, .int w_token, .long w_word, .int w_told, .int w_wrong, .ref (y 1), .ref (y 2), .ref (y 3), .ref (y 4), .ref (y 5), .ref (y 6), .ref (y 7), .ref (y 8), .ref (y 9), .ref (y 10), .ref (y 11), .ref (y 12), .int w_code, .int w_toldLines, .ref (y 13), .ref (y 14), .ref (y 15), .ref (y 16), .ref (y 17), .ref (y 18), .ref (y 19), .ref (y 20), .ref (y 21), .ref (y 22), .ref (y 23), .ref (y 24), .int w_given, .long w_fresh, .ref (y 25), .ref (y 26), .ref (y 27), .ref (y 28), .ref (y 29), .ref (y 30), .ref (y 31), .ref (y 32), .ref (y 33), .ref (y 34), .ref (y 35), .ref (y 36), .ref (y 37), .int w_done, .int w_moreAsked, .ref (y 38), .long w_g, .int w_gone, .int w_stopped]))] rfl (fun H locs hw hS => ?_)
                          refine lv_iload_n hx hb dX12_rests_149 rfl (lv_at hl 7 rfl) ?_
                          refine lv_iconst (v := (-1)) hx hb dX12_rests_150 (by decide) ?_
                          refine lv_icmp_ne (tgt := 159) hx hb dX12_rests_151 (by decide) (fun h => absurd (c_67) h) (fun _ => ?_)
                          refine lv_iload hx hb dX12_rests_154 (lv_at hl 1 rfl) ?_
                          refine lv_goto (tgt := 160) hx hb dX12_rests_156 (by decide) ?_
                          exact ziret hx hb hr (rfl) hlocks () (congrArg (fun z => some (Value.int z)) (zrv_some (by rw [zrs, if_neg c_2, if_neg c_5, if_pos (zsge (r := p1) (w := p2) c_7), zrq0, if_neg (show ¬ zat0 p2 = 0 by rw [zat0, if_pos c_16]; decide), if_neg c_17, zrq1, if_neg (show ¬ zat1 p1 p2 = 0 by rw [zat1, if_neg c_21, if_pos c_48]; decide), if_neg c_49, zrq3, if_neg (show ¬ zat3 p1 p2 = 0 by rw [zat3, if_neg c_57, if_pos c_64]; decide), if_neg c_65, zrq4, if_pos c_67]))) (trivial) hw [0] rfl (by rw [show zth p1 p2 p3 = 0 from zth_some (v := 3) (by rw [zrs, if_neg c_2, if_neg c_5, if_pos (zsge (r := p1) (w := p2) c_7), zrq0, if_neg (show ¬ zat0 p2 = 0 by rw [zat0, if_pos c_16]; decide), if_neg c_17, zrq1, if_neg (show ¬ zat1 p1 p2 = 0 by rw [zat1, if_neg c_21, if_pos c_48]; decide), if_neg c_49, zrq3, if_neg (show ¬ zat3 p1 p2 = 0 by rw [zat3, if_neg c_57, if_pos c_64]; decide), if_neg c_65, zrq4, if_pos c_67])]; rfl) hS (Nat.le_of_ble_eq_true rfl) (Nat.le_of_ble_eq_true rfl) dX12_rests_160
                      · refine lv_iload hx hb dX12_rests_123 (lv_at hl 2 rfl) ?_
                        exact ziret hx hb hr (rfl) hlocks () (congrArg (fun z => some (Value.int z)) (zrv_some (by rw [zrs, if_neg c_2, if_neg c_5, if_pos (zsge (r := p1) (w := p2) c_7), zrq0, if_neg (show ¬ zat0 p2 = 0 by rw [zat0, if_pos c_16]; decide), if_neg c_17, zrq1, if_neg (show ¬ zat1 p1 p2 = 0 by rw [zat1, if_neg c_21, if_pos c_48]; decide), if_neg c_49, zrq3, if_neg (show ¬ zat3 p1 p2 = 0 by rw [zat3, if_neg c_57, if_pos c_64]; decide), if_pos c_65]))) (trivial) hw [0] rfl (by rw [show zth p1 p2 p3 = 0 from zth_some (v := 3) (by rw [zrs, if_neg c_2, if_neg c_5, if_pos (zsge (r := p1) (w := p2) c_7), zrq0, if_neg (show ¬ zat0 p2 = 0 by rw [zat0, if_pos c_16]; decide), if_neg c_17, zrq1, if_neg (show ¬ zat1 p1 p2 = 0 by rw [zat1, if_neg c_21, if_pos c_48]; decide), if_neg c_49, zrq3, if_neg (show ¬ zat3 p1 p2 = 0 by rw [zat3, if_neg c_57, if_pos c_64]; decide), if_pos c_65])]; rfl) hS (Nat.le_of_ble_eq_true rfl) (Nat.le_of_ble_eq_true rfl) dX12_rests_125
                    · refine lv_goto (tgt := 129) hx hb dX12_rests_114 (by decide) ?_
                      refine lv_iinc (v := 4) (lv' := [(5, .int 4), (7, .int 1), (6, .int 1), (4, .int 2), (0, .ref h0), (1, .int p1), (2, .int p2), (3, .int p3)]) hx hb dX12_rests_129 hl (k := 2) rfl (by decide) (by decide) rfl (fun ls hl => ?_)
                      refine lv_goto (tgt := 50) hx hb dX12_rests_132 (by decide) ?_
                      refine lv_iload hx hb dX12_rests_50 (lv_at hl 0 rfl) ?_
                      refine lv_iconst (v := 4) hx hb dX12_rests_52 (by decide) ?_
                      refine lv_icmp_ge (tgt := 135) hx hb dX12_rests_53 (by decide) (fun _ => ?_) (fun h => absurd (by decide) h)
                      refine lv_aload_n hx hb dX12_rests_135 rfl (lv_at hl 4 rfl) ?_
                      refine lv_iload_n hx hb dX12_rests_136 rfl (lv_at hl 7 rfl) ?_
                      refine lv_iconst (v := (-1)) hx hb dX12_rests_137 (by decide) ?_
                      refine lv_icmp_ne (tgt := 145) hx hb dX12_rests_138 (by decide) (fun c_71 => ?_) (fun c_71 => ?_)
                      · refine lv_iconst (v := 1) hx hb dX12_rests_145 (by decide) ?_
                        refine zput (D := D) (ci := 11) (v := .int 1) (ty := .int) hx hb hts hiX12 tyX12 tyX12_ok nmX12 hown hK hw hS 0 rfl rfl 0 (by decide) (hts (.fieldLink RX12 129 "BeardPassModel" "thrown" "I") (by decide +kernel)) (fun _ h9 => h9) rfl (by decide +kernel) rfl rfl (Nat.le_of_ble_eq_true rfl) dX12_rests_146 [(h0, .inr (11, [.int 1, .int w_taped, .ref (y 0), .int w_size, .int w_place, .int w_begin, .int w_token, .long w_word, .int w_told, .int w_wrong, .ref (y 1), .ref (y 2), .ref (y 3), .ref (y 4), .ref (y 5), .ref (y 6), .ref (y 7), .ref (y 8), .ref (y 9), .ref (y 10), .ref (y 11), .ref (y 12), .int w_code, .int w_toldLines, .ref (y 13), .ref (y 14), .ref (y 15), .ref (y 16), .ref (y 17), .ref (y 18), .ref (y 19), .ref (y 20), .ref (y 21), .ref (y 22), .ref (y 23), .ref (y 24), .int w_given, .long w_fresh, .ref (y 25), .ref (y 26), .ref (y 27), .ref (y 28), .ref (y 29), .ref (y 30), .ref (y 31), .ref (y 32), .ref (y 33), .ref (y 34), .ref (y 35), .ref (y 36), .ref (y 37), .int w_done, .int w_moreAsked, .ref (y 38), .long w_g, .int w_gone, .int w_stopped]))] rfl (fun H locs hw hS => ?_)
                        refine lv_iload_n hx hb dX12_rests_149 rfl (lv_at hl 7 rfl) ?_
                        refine lv_iconst (v := (-1)) hx hb dX12_rests_150 (by decide) ?_
                        refine lv_icmp_ne (tgt := 159) hx hb dX12_rests_151 (by decide) (fun _ => ?_) (fun h => absurd h (c_71))
                        refine lv_iconst (v := 0) hx hb dX12_rests_159 (by decide) ?_
                        exact ziret hx hb hr (rfl) hlocks () (congrArg (fun z => some (Value.int z)) (zrv_none (by rw [zrs, if_neg c_2, if_neg c_5, if_pos (zsge (r := p1) (w := p2) c_7), zrq0, if_neg (show ¬ zat0 p2 = 0 by rw [zat0, if_pos c_16]; decide), if_neg c_17, zrq1, if_neg (show ¬ zat1 p1 p2 = 0 by rw [zat1, if_neg c_21, if_pos c_48]; decide), if_neg c_49, zrq3, if_pos (show zat3 p1 p2 = 0 from (if_neg c_57).trans (if_neg c_64)), zrq4, if_neg c_71]))) (trivial) hw [0] rfl (by rw [show zth p1 p2 p3 = 1 from zth_none (by rw [zrs, if_neg c_2, if_neg c_5, if_pos (zsge (r := p1) (w := p2) c_7), zrq0, if_neg (show ¬ zat0 p2 = 0 by rw [zat0, if_pos c_16]; decide), if_neg c_17, zrq1, if_neg (show ¬ zat1 p1 p2 = 0 by rw [zat1, if_neg c_21, if_pos c_48]; decide), if_neg c_49, zrq3, if_pos (show zat3 p1 p2 = 0 from (if_neg c_57).trans (if_neg c_64)), zrq4, if_neg c_71])]; rfl) hS (Nat.le_of_ble_eq_true rfl) (Nat.le_of_ble_eq_true rfl) dX12_rests_160
                      · refine lv_iconst (v := 0) hx hb dX12_rests_141 (by decide) ?_
                        refine lv_goto (tgt := 146) hx hb dX12_rests_142 (by decide) ?_
                        refine zput (D := D) (ci := 11) (v := .int 0) (ty := .int) hx hb hts hiX12 tyX12 tyX12_ok nmX12 hown hK hw hS 0 rfl rfl 0 (by decide) (hts (.fieldLink RX12 129 "BeardPassModel" "thrown" "I") (by decide +kernel)) (fun _ h9 => h9) rfl (by decide +kernel) rfl rfl (Nat.le_of_ble_eq_true rfl) dX12_rests_146 [(h0, .inr (11, [.int 0, .int w_taped, .ref (y 0), .int w_size, .int w_place, .int w_begin, .int w_token, .long w_word, .int w_told, .int w_wrong, .ref (y 1), .ref (y 2), .ref (y 3), .ref (y 4), .ref (y 5), .ref (y 6), .ref (y 7), .ref (y 8), .ref (y 9), .ref (y 10), .ref (y 11), .ref (y 12), .int w_code, .int w_toldLines, .ref (y 13), .ref (y 14), .ref (y 15), .ref (y 16), .ref (y 17), .ref (y 18), .ref (y 19), .ref (y 20), .ref (y 21), .ref (y 22), .ref (y 23), .ref (y 24), .int w_given, .long w_fresh, .ref (y 25), .ref (y 26), .ref (y 27), .ref (y 28), .ref (y 29), .ref (y 30), .ref (y 31), .ref (y 32), .ref (y 33), .ref (y 34), .ref (y 35), .ref (y 36), .ref (y 37), .int w_done, .int w_moreAsked, .ref (y 38), .long w_g, .int w_gone, .int w_stopped]))] rfl (fun H locs hw hS => ?_)
                        refine lv_iload_n hx hb dX12_rests_149 rfl (lv_at hl 7 rfl) ?_
                        refine lv_iconst (v := (-1)) hx hb dX12_rests_150 (by decide) ?_
                        refine lv_icmp_ne (tgt := 159) hx hb dX12_rests_151 (by decide) (fun h => absurd (c_71) h) (fun _ => ?_)
                        refine lv_iload hx hb dX12_rests_154 (lv_at hl 3 rfl) ?_
                        refine lv_goto (tgt := 160) hx hb dX12_rests_156 (by decide) ?_
                        exact ziret hx hb hr (rfl) hlocks () (congrArg (fun z => some (Value.int z)) (zrv_some (by rw [zrs, if_neg c_2, if_neg c_5, if_pos (zsge (r := p1) (w := p2) c_7), zrq0, if_neg (show ¬ zat0 p2 = 0 by rw [zat0, if_pos c_16]; decide), if_neg c_17, zrq1, if_neg (show ¬ zat1 p1 p2 = 0 by rw [zat1, if_neg c_21, if_pos c_48]; decide), if_neg c_49, zrq3, if_pos (show zat3 p1 p2 = 0 from (if_neg c_57).trans (if_neg c_64)), zrq4, if_pos c_71]))) (trivial) hw [0] rfl (by rw [show zth p1 p2 p3 = 0 from zth_some (v := 2) (by rw [zrs, if_neg c_2, if_neg c_5, if_pos (zsge (r := p1) (w := p2) c_7), zrq0, if_neg (show ¬ zat0 p2 = 0 by rw [zat0, if_pos c_16]; decide), if_neg c_17, zrq1, if_neg (show ¬ zat1 p1 p2 = 0 by rw [zat1, if_neg c_21, if_pos c_48]; decide), if_neg c_49, zrq3, if_pos (show zat3 p1 p2 = 0 from (if_neg c_57).trans (if_neg c_64)), zrq4, if_pos c_71])]; rfl) hS (Nat.le_of_ble_eq_true rfl) (Nat.le_of_ble_eq_true rfl) dX12_rests_160
                · refine lv_iload hx hb dX12_rests_123 (lv_at hl 2 rfl) ?_
                  exact ziret hx hb hr (rfl) hlocks () (congrArg (fun z => some (Value.int z)) (zrv_some (by rw [zrs, if_neg c_2, if_neg c_5, if_pos (zsge (r := p1) (w := p2) c_7), zrq0, if_neg (show ¬ zat0 p2 = 0 by rw [zat0, if_pos c_16]; decide), if_neg c_17, zrq1, if_neg (show ¬ zat1 p1 p2 = 0 by rw [zat1, if_neg c_21, if_pos c_48]; decide), if_pos c_49]))) (trivial) hw [0] rfl (by rw [show zth p1 p2 p3 = 0 from zth_some (v := 1) (by rw [zrs, if_neg c_2, if_neg c_5, if_pos (zsge (r := p1) (w := p2) c_7), zrq0, if_neg (show ¬ zat0 p2 = 0 by rw [zat0, if_pos c_16]; decide), if_neg c_17, zrq1, if_neg (show ¬ zat1 p1 p2 = 0 by rw [zat1, if_neg c_21, if_pos c_48]; decide), if_pos c_49])]; rfl) hS (Nat.le_of_ble_eq_true rfl) (Nat.le_of_ble_eq_true rfl) dX12_rests_125
              · refine lv_goto (tgt := 129) hx hb dX12_rests_114 (by decide) ?_
                refine lv_iinc (v := 2) (lv' := [(5, .int 2), (7, .int 1), (6, .int 0), (4, .int 1), (0, .ref h0), (1, .int p1), (2, .int p2), (3, .int p3)]) hx hb dX12_rests_129 hl (k := 2) rfl (by decide) (by decide) rfl (fun ls hl => ?_)
                refine lv_goto (tgt := 50) hx hb dX12_rests_132 (by decide) ?_
                refine lv_iload hx hb dX12_rests_50 (lv_at hl 0 rfl) ?_
                refine lv_iconst (v := 4) hx hb dX12_rests_52 (by decide) ?_
                refine lv_icmp_ge (tgt := 135) hx hb dX12_rests_53 (by decide) (fun h => absurd h (by decide)) (fun _ => ?_)
                refine lv_iload hx hb dX12_rests_56 (lv_at hl 0 rfl) ?_
                refine lv_iconst (v := 2) hx hb dX12_rests_58 (by decide) ?_
                refine lv_idiv hx hb dX12_rests_59 (by decide) ?_
                refine ztop (.int 1) (congrArg Value.int (by decide)) ?_
                refine lv_istore (lv' := [(6, .int 1), (5, .int 2), (7, .int 1), (4, .int 1), (0, .ref h0), (1, .int p1), (2, .int p2), (3, .int p3)]) hx hb dX12_rests_60 hl (by decide) rfl (fun ls hl => ?_)
                refine lv_iload hx hb dX12_rests_62 (lv_at hl 1 rfl) ?_
                refine lv_iconst (v := 2) hx hb dX12_rests_64 (by decide) ?_
                refine lv_irem hx hb dX12_rests_65 (by decide) ?_
                refine ztop (.int 0) (congrArg Value.int (by decide)) ?_
                refine lv_istore (lv' := [(7, .int 0), (6, .int 1), (5, .int 2), (4, .int 1), (0, .ref h0), (1, .int p1), (2, .int p2), (3, .int p3)]) hx hb dX12_rests_66 hl (by decide) rfl (fun ls hl => ?_)
                refine lv_iload_n hx hb dX12_rests_68 rfl (lv_at hl 5 rfl) ?_
                refine lv_iload_n hx hb dX12_rests_69 rfl (lv_at hl 6 rfl) ?_
                refine lv_iconst (v := 1) hx hb dX12_rests_70 (by decide) ?_
                refine lv_iload hx hb dX12_rests_71 (lv_at hl 1 rfl) ?_
                refine lv_isub hx hb dX12_rests_73 ?_
                refine ztop (.int 0) (congrArg Value.int (by decide)) ?_
                refine lv_iload hx hb dX12_rests_74 (lv_at hl 0 rfl) ?_
                refine scall0 (As := [.int p1, .int p2, .int 0, .int 0]) (rest := []) ⟨hx, hb, hml, hown, hts⟩ (c_mg00 l D ct p1 p2) (va_cwS 4 hts gX12_rests_X12_guardGets rfl rfl rfl (by decide +kernel) ⟨Nat.le_of_ble_eq_true rfl, Nat.le_of_ble_eq_true rfl⟩) hw hS hA hK hN rfl rfl hl.1 rfl (Nat.le_of_ble_eq_true rfl) dX12_rests_76 (fun _ H locs hp75 hw hS => ?_)
                have hw : zPD D A [(h0, .inr (11, [.int 0, .int w_taped, .ref (y 0), .int w_size, .int w_place, .int w_begin, .int w_token, .long w_word, .int w_told, .int w_wrong, .ref (y 1), .ref (y 2), .ref (y 3), .ref (y 4), .ref (y 5), .ref (y 6), .ref (y 7), .ref (y 8), .ref (y 9), .ref (y 10), .ref (y 11), .ref (y 12), .int w_code, .int w_toldLines, .ref (y 13), .ref (y 14), .ref (y 15), .ref (y 16), .ref (y 17), .ref (y 18), .ref (y 19), .ref (y 20), .ref (y 21), .ref (y 22), .ref (y 23), .ref (y 24), .int w_given, .long w_fresh, .ref (y 25), .ref (y 26), .ref (y 27), .ref (y 28), .ref (y 29), .ref (y 30), .ref (y 31), .ref (y 32), .ref (y 33), .ref (y 34), .ref (y 35), .ref (y 36), .ref (y 37), .int w_done, .int w_moreAsked, .ref (y 38), .long w_g, .int w_gone, .int w_stopped]))] H := hw
                refine zfr 79 [.int 0] rfl rfl ?_
                refine lv_iload_n hx hb dX12_rests_79 rfl (lv_at hl 5 rfl) ?_
                refine lv_iload_n hx hb dX12_rests_80 rfl (lv_at hl 6 rfl) ?_
                refine lv_iload hx hb dX12_rests_81 (lv_at hl 1 rfl) ?_
                refine lv_iload hx hb dX12_rests_83 (lv_at hl 0 rfl) ?_
                refine scall0 (As := [.int p1, .int p2, .int 1, .int 0]) (rest := [.int 0]) ⟨hx, hb, hml, hown, hts⟩ (c_mg10 l D ct p1 p2) (va_cwS 4 hts gX12_rests_X12_guardGets rfl rfl rfl (by decide +kernel) ⟨Nat.le_of_ble_eq_true rfl, Nat.le_of_ble_eq_true rfl⟩) hw hS hA hK hN rfl rfl hl.1 rfl (Nat.le_of_ble_eq_true rfl) dX12_rests_85 (fun _ H locs hp76 hw hS => ?_)
                have hw : zPD D A [(h0, .inr (11, [.int 0, .int w_taped, .ref (y 0), .int w_size, .int w_place, .int w_begin, .int w_token, .long w_word, .int w_told, .int w_wrong, .ref (y 1), .ref (y 2), .ref (y 3), .ref (y 4), .ref (y 5), .ref (y 6), .ref (y 7), .ref (y 8), .ref (y 9), .ref (y 10), .ref (y 11), .ref (y 12), .int w_code, .int w_toldLines, .ref (y 13), .ref (y 14), .ref (y 15), .ref (y 16), .ref (y 17), .ref (y 18), .ref (y 19), .ref (y 20), .ref (y 21), .ref (y 22), .ref (y 23), .ref (y 24), .int w_given, .long w_fresh, .ref (y 25), .ref (y 26), .ref (y 27), .ref (y 28), .ref (y 29), .ref (y 30), .ref (y 31), .ref (y 32), .ref (y 33), .ref (y 34), .ref (y 35), .ref (y 36), .ref (y 37), .int w_done, .int w_moreAsked, .ref (y 38), .long w_g, .int w_gone, .int w_stopped]))] H := hw
                refine zfr 88 [.int (-1), .int 0] rfl rfl ?_
                refine lv_icmp_gt (tgt := 129) hx hb dX12_rests_88 (by decide) (fun _ => ?_) (fun h => absurd (by decide) h)
                refine lv_iinc (v := 3) (lv' := [(5, .int 3), (7, .int 0), (6, .int 1), (4, .int 1), (0, .ref h0), (1, .int p1), (2, .int p2), (3, .int p3)]) hx hb dX12_rests_129 hl (k := 2) rfl (by decide) (by decide) rfl (fun ls hl => ?_)
                refine lv_goto (tgt := 50) hx hb dX12_rests_132 (by decide) ?_
                refine lv_iload hx hb dX12_rests_50 (lv_at hl 0 rfl) ?_
                refine lv_iconst (v := 4) hx hb dX12_rests_52 (by decide) ?_
                refine lv_icmp_ge (tgt := 135) hx hb dX12_rests_53 (by decide) (fun h => absurd h (by decide)) (fun _ => ?_)
                refine lv_iload hx hb dX12_rests_56 (lv_at hl 0 rfl) ?_
                refine lv_iconst (v := 2) hx hb dX12_rests_58 (by decide) ?_
                refine lv_idiv hx hb dX12_rests_59 (by decide) ?_
                refine ztop (.int 1) (congrArg Value.int (by decide)) ?_
                refine lv_istore (lv' := [(6, .int 1), (5, .int 3), (7, .int 0), (4, .int 1), (0, .ref h0), (1, .int p1), (2, .int p2), (3, .int p3)]) hx hb dX12_rests_60 hl (by decide) rfl (fun ls hl => ?_)
                refine lv_iload hx hb dX12_rests_62 (lv_at hl 1 rfl) ?_
                refine lv_iconst (v := 2) hx hb dX12_rests_64 (by decide) ?_
                refine lv_irem hx hb dX12_rests_65 (by decide) ?_
                refine ztop (.int 1) (congrArg Value.int (by decide)) ?_
                refine lv_istore (lv' := [(7, .int 1), (6, .int 1), (5, .int 3), (4, .int 1), (0, .ref h0), (1, .int p1), (2, .int p2), (3, .int p3)]) hx hb dX12_rests_66 hl (by decide) rfl (fun ls hl => ?_)
                refine lv_iload_n hx hb dX12_rests_68 rfl (lv_at hl 5 rfl) ?_
                refine lv_iload_n hx hb dX12_rests_69 rfl (lv_at hl 6 rfl) ?_
                refine lv_iconst (v := 1) hx hb dX12_rests_70 (by decide) ?_
                refine lv_iload hx hb dX12_rests_71 (lv_at hl 1 rfl) ?_
                refine lv_isub hx hb dX12_rests_73 ?_
                refine ztop (.int 0) (congrArg Value.int (by decide)) ?_
                refine lv_iload hx hb dX12_rests_74 (lv_at hl 0 rfl) ?_
                refine scall0 (As := [.int p1, .int p2, .int 0, .int 1]) (rest := []) ⟨hx, hb, hml, hown, hts⟩ (c_mg01 l D ct p1 p2) (va_cwS 4 hts gX12_rests_X12_guardGets rfl rfl rfl (by decide +kernel) ⟨Nat.le_of_ble_eq_true rfl, Nat.le_of_ble_eq_true rfl⟩) hw hS hA hK hN rfl rfl hl.1 rfl (Nat.le_of_ble_eq_true rfl) dX12_rests_76 (fun _ H locs hp79 hw hS => ?_)
                have hw : zPD D A [(h0, .inr (11, [.int 0, .int w_taped, .ref (y 0), .int w_size, .int w_place, .int w_begin, .int w_token, .long w_word, .int w_told, .int w_wrong, .ref (y 1), .ref (y 2), .ref (y 3), .ref (y 4), .ref (y 5), .ref (y 6), .ref (y 7), .ref (y 8), .ref (y 9), .ref (y 10), .ref (y 11), .ref (y 12), .int w_code, .int w_toldLines, .ref (y 13), .ref (y 14), .ref (y 15), .ref (y 16), .ref (y 17), .ref (y 18), .ref (y 19), .ref (y 20), .ref (y 21), .ref (y 22), .ref (y 23), .ref (y 24), .int w_given, .long w_fresh, .ref (y 25), .ref (y 26), .ref (y 27), .ref (y 28), .ref (y 29), .ref (y 30), .ref (y 31), .ref (y 32), .ref (y 33), .ref (y 34), .ref (y 35), .ref (y 36), .ref (y 37), .int w_done, .int w_moreAsked, .ref (y 38), .long w_g, .int w_gone, .int w_stopped]))] H := hw
                refine zfr 79 [.int (-p2)] rfl rfl ?_
                refine lv_iload_n hx hb dX12_rests_79 rfl (lv_at hl 5 rfl) ?_
                refine lv_iload_n hx hb dX12_rests_80 rfl (lv_at hl 6 rfl) ?_
                refine lv_iload hx hb dX12_rests_81 (lv_at hl 1 rfl) ?_
                refine lv_iload hx hb dX12_rests_83 (lv_at hl 0 rfl) ?_
                refine scall0 (As := [.int p1, .int p2, .int 1, .int 1]) (rest := [.int (-p2)]) ⟨hx, hb, hml, hown, hts⟩ (c_mg11 l D ct p1 p2) (va_cwS 4 hts gX12_rests_X12_guardGets rfl rfl rfl (by decide +kernel) ⟨Nat.le_of_ble_eq_true rfl, Nat.le_of_ble_eq_true rfl⟩) hw hS hA hK hN rfl rfl hl.1 rfl (Nat.le_of_ble_eq_true rfl) dX12_rests_85 (fun _ H locs hp80 hw hS => ?_)
                have hw : zPD D A [(h0, .inr (11, [.int 0, .int w_taped, .ref (y 0), .int w_size, .int w_place, .int w_begin, .int w_token, .long w_word, .int w_told, .int w_wrong, .ref (y 1), .ref (y 2), .ref (y 3), .ref (y 4), .ref (y 5), .ref (y 6), .ref (y 7), .ref (y 8), .ref (y 9), .ref (y 10), .ref (y 11), .ref (y 12), .int w_code, .int w_toldLines, .ref (y 13), .ref (y 14), .ref (y 15), .ref (y 16), .ref (y 17), .ref (y 18), .ref (y 19), .ref (y 20), .ref (y 21), .ref (y 22), .ref (y 23), .ref (y 24), .int w_given, .long w_fresh, .ref (y 25), .ref (y 26), .ref (y 27), .ref (y 28), .ref (y 29), .ref (y 30), .ref (y 31), .ref (y 32), .ref (y 33), .ref (y 34), .ref (y 35), .ref (y 36), .ref (y 37), .int w_done, .int w_moreAsked, .ref (y 38), .long w_g, .int w_gone, .int w_stopped]))] H := hw
                refine zfr 88 [.int p1, .int (-p2)] rfl rfl ?_
                refine lv_icmp_gt (tgt := 129) hx hb dX12_rests_88 (by decide) (fun c_81 => ?_) (fun c_81 => ?_)
                · refine lv_iinc (v := 4) (lv' := [(5, .int 4), (7, .int 1), (6, .int 1), (4, .int 1), (0, .ref h0), (1, .int p1), (2, .int p2), (3, .int p3)]) hx hb dX12_rests_129 hl (k := 2) rfl (by decide) (by decide) rfl (fun ls hl => ?_)
                  refine lv_goto (tgt := 50) hx hb dX12_rests_132 (by decide) ?_
                  refine lv_iload hx hb dX12_rests_50 (lv_at hl 0 rfl) ?_
                  refine lv_iconst (v := 4) hx hb dX12_rests_52 (by decide) ?_
                  refine lv_icmp_ge (tgt := 135) hx hb dX12_rests_53 (by decide) (fun _ => ?_) (fun h => absurd (by decide) h)
                  refine lv_aload_n hx hb dX12_rests_135 rfl (lv_at hl 4 rfl) ?_
                  refine lv_iload_n hx hb dX12_rests_136 rfl (lv_at hl 7 rfl) ?_
                  refine lv_iconst (v := (-1)) hx hb dX12_rests_137 (by decide) ?_
                  refine lv_icmp_ne (tgt := 145) hx hb dX12_rests_138 (by decide) (fun c_83 => ?_) (fun c_83 => ?_)
                  · refine lv_iconst (v := 1) hx hb dX12_rests_145 (by decide) ?_
                    refine zput (D := D) (ci := 11) (v := .int 1) (ty := .int) hx hb hts hiX12 tyX12 tyX12_ok nmX12 hown hK hw hS 0 rfl rfl 0 (by decide) (hts (.fieldLink RX12 129 "BeardPassModel" "thrown" "I") (by decide +kernel)) (fun _ h9 => h9) rfl (by decide +kernel) rfl rfl (Nat.le_of_ble_eq_true rfl) dX12_rests_146 [(h0, .inr (11, [.int 1, .int w_taped, .ref (y 0), .int w_size, .int w_place, .int w_begin, .int w_token, .long w_word, .int w_told, .int w_wrong, .ref (y 1), .ref (y 2), .ref (y 3), .ref (y 4), .ref (y 5), .ref (y 6), .ref (y 7), .ref (y 8), .ref (y 9), .ref (y 10), .ref (y 11), .ref (y 12), .int w_code, .int w_toldLines, .ref (y 13), .ref (y 14), .ref (y 15), .ref (y 16), .ref (y 17), .ref (y 18), .ref (y 19), .ref (y 20), .ref (y 21), .ref (y 22), .ref (y 23), .ref (y 24), .int w_given, .long w_fresh, .ref (y 25), .ref (y 26), .ref (y 27), .ref (y 28), .ref (y 29), .ref (y 30), .ref (y 31), .ref (y 32), .ref (y 33), .ref (y 34), .ref (y 35), .ref (y 36), .ref (y 37), .int w_done, .int w_moreAsked, .ref (y 38), .long w_g, .int w_gone, .int w_stopped]))] rfl (fun H locs hw hS => ?_)
                    refine lv_iload_n hx hb dX12_rests_149 rfl (lv_at hl 7 rfl) ?_
                    refine lv_iconst (v := (-1)) hx hb dX12_rests_150 (by decide) ?_
                    refine lv_icmp_ne (tgt := 159) hx hb dX12_rests_151 (by decide) (fun _ => ?_) (fun h => absurd h (c_83))
                    refine lv_iconst (v := 0) hx hb dX12_rests_159 (by decide) ?_
                    exact ziret hx hb hr (rfl) hlocks () (congrArg (fun z => some (Value.int z)) (zrv_none (by rw [zrs, if_neg c_2, if_neg c_5, if_pos (zsge (r := p1) (w := p2) c_7), zrq0, if_neg (show ¬ zat0 p2 = 0 by rw [zat0, if_pos c_16]; decide), if_neg c_17, zrq1, if_pos (show zat1 p1 p2 = 0 from (if_neg c_21).trans (if_neg c_48)), zrq3, if_pos (show zat3 p1 p2 = 0 from if_pos c_81), zrq4, if_neg c_83]))) (trivial) hw [0] rfl (by rw [show zth p1 p2 p3 = 1 from zth_none (by rw [zrs, if_neg c_2, if_neg c_5, if_pos (zsge (r := p1) (w := p2) c_7), zrq0, if_neg (show ¬ zat0 p2 = 0 by rw [zat0, if_pos c_16]; decide), if_neg c_17, zrq1, if_pos (show zat1 p1 p2 = 0 from (if_neg c_21).trans (if_neg c_48)), zrq3, if_pos (show zat3 p1 p2 = 0 from if_pos c_81), zrq4, if_neg c_83])]; rfl) hS (Nat.le_of_ble_eq_true rfl) (Nat.le_of_ble_eq_true rfl) dX12_rests_160
                  · refine lv_iconst (v := 0) hx hb dX12_rests_141 (by decide) ?_
                    refine lv_goto (tgt := 146) hx hb dX12_rests_142 (by decide) ?_
                    refine zput (D := D) (ci := 11) (v := .int 0) (ty := .int) hx hb hts hiX12 tyX12 tyX12_ok nmX12 hown hK hw hS 0 rfl rfl 0 (by decide) (hts (.fieldLink RX12 129 "BeardPassModel" "thrown" "I") (by decide +kernel)) (fun _ h9 => h9) rfl (by decide +kernel) rfl rfl (Nat.le_of_ble_eq_true rfl) dX12_rests_146 [(h0, .inr (11, [.int 0, .int w_taped, .ref (y 0), .int w_size, .int w_place, .int w_begin, .int w_token, .long w_word, .int w_told, .int w_wrong, .ref (y 1), .ref (y 2), .ref (y 3), .ref (y 4), .ref (y 5), .ref (y 6), .ref (y 7), .ref (y 8), .ref (y 9), .ref (y 10), .ref (y 11), .ref (y 12), .int w_code, .int w_toldLines, .ref (y 13), .ref (y 14), .ref (y 15), .ref (y 16), .ref (y 17), .ref (y 18), .ref (y 19), .ref (y 20), .ref (y 21), .ref (y 22), .ref (y 23), .ref (y 24), .int w_given, .long w_fresh, .ref (y 25), .ref (y 26), .ref (y 27), .ref (y 28), .ref (y 29), .ref (y 30), .ref (y 31), .ref (y 32), .ref (y 33), .ref (y 34), .ref (y 35), .ref (y 36), .ref (y 37), .int w_done, .int w_moreAsked, .ref (y 38), .long w_g, .int w_gone, .int w_stopped]))] rfl (fun H locs hw hS => ?_)
                    refine lv_iload_n hx hb dX12_rests_149 rfl (lv_at hl 7 rfl) ?_
                    refine lv_iconst (v := (-1)) hx hb dX12_rests_150 (by decide) ?_
                    refine lv_icmp_ne (tgt := 159) hx hb dX12_rests_151 (by decide) (fun h => absurd (c_83) h) (fun _ => ?_)
                    refine lv_iload hx hb dX12_rests_154 (lv_at hl 3 rfl) ?_
                    refine lv_goto (tgt := 160) hx hb dX12_rests_156 (by decide) ?_
                    exact ziret hx hb hr (rfl) hlocks () (congrArg (fun z => some (Value.int z)) (zrv_some (by rw [zrs, if_neg c_2, if_neg c_5, if_pos (zsge (r := p1) (w := p2) c_7), zrq0, if_neg (show ¬ zat0 p2 = 0 by rw [zat0, if_pos c_16]; decide), if_neg c_17, zrq1, if_pos (show zat1 p1 p2 = 0 from (if_neg c_21).trans (if_neg c_48)), zrq3, if_pos (show zat3 p1 p2 = 0 from if_pos c_81), zrq4, if_pos c_83]))) (trivial) hw [0] rfl (by rw [show zth p1 p2 p3 = 0 from zth_some (v := 1) (by rw [zrs, if_neg c_2, if_neg c_5, if_pos (zsge (r := p1) (w := p2) c_7), zrq0, if_neg (show ¬ zat0 p2 = 0 by rw [zat0, if_pos c_16]; decide), if_neg c_17, zrq1, if_pos (show zat1 p1 p2 = 0 from (if_neg c_21).trans (if_neg c_48)), zrq3, if_pos (show zat3 p1 p2 = 0 from if_pos c_81), zrq4, if_pos c_83])]; rfl) hS (Nat.le_of_ble_eq_true rfl) (Nat.le_of_ble_eq_true rfl) dX12_rests_160
                · refine lv_iload_n hx hb dX12_rests_91 rfl (lv_at hl 5 rfl) ?_
                  refine lv_iload_n hx hb dX12_rests_92 rfl (lv_at hl 6 rfl) ?_
                  refine lv_iload hx hb dX12_rests_93 (lv_at hl 1 rfl) ?_
                  refine lv_iconst (v := 1) hx hb dX12_rests_95 (by decide) ?_
                  refine lv_iload hx hb dX12_rests_96 (lv_at hl 0 rfl) ?_
                  refine lv_isub hx hb dX12_rests_98 ?_
                  refine ztop (.int 0) (congrArg Value.int (by decide)) ?_
                  refine scall0 (As := [.int p1, .int p2, .int 1, .int 0]) (rest := []) ⟨hx, hb, hml, hown, hts⟩ (c_mt10 l D ct p1 p2) (va_cwS 4 hts gX12_rests_X12_travellerGets rfl rfl rfl (by decide +kernel) ⟨Nat.le_of_ble_eq_true rfl, Nat.le_of_ble_eq_true rfl⟩) hw hS hA hK hN rfl rfl hl.1 rfl (Nat.le_of_ble_eq_true rfl) dX12_rests_99 (fun _ H locs hp86 hw hS => ?_)
                  have hw : zPD D A [(h0, .inr (11, [.int 0, .int w_taped, .ref (y 0), .int w_size, .int w_place, .int w_begin, .int w_token, .long w_word, .int w_told, .int w_wrong, .ref (y 1), .ref (y 2), .ref (y 3), .ref (y 4), .ref (y 5), .ref (y 6), .ref (y 7), .ref (y 8), .ref (y 9), .ref (y 10), .ref (y 11), .ref (y 12), .int w_code, .int w_toldLines, .ref (y 13), .ref (y 14), .ref (y 15), .ref (y 16), .ref (y 17), .ref (y 18), .ref (y 19), .ref (y 20), .ref (y 21), .ref (y 22), .ref (y 23), .ref (y 24), .int w_given, .long w_fresh, .ref (y 25), .ref (y 26), .ref (y 27), .ref (y 28), .ref (y 29), .ref (y 30), .ref (y 31), .ref (y 32), .ref (y 33), .ref (y 34), .ref (y 35), .ref (y 36), .ref (y 37), .int w_done, .int w_moreAsked, .ref (y 38), .long w_g, .int w_gone, .int w_stopped]))] H := hw
                  refine zfr 102 [.int 0] rfl rfl ?_
                  refine lv_iload_n hx hb dX12_rests_102 rfl (lv_at hl 5 rfl) ?_
                  refine lv_iload_n hx hb dX12_rests_103 rfl (lv_at hl 6 rfl) ?_
                  refine lv_iload hx hb dX12_rests_104 (lv_at hl 1 rfl) ?_
                  refine lv_iload hx hb dX12_rests_106 (lv_at hl 0 rfl) ?_
                  refine scall0 (As := [.int p1, .int p2, .int 1, .int 1]) (rest := [.int 0]) ⟨hx, hb, hml, hown, hts⟩ (c_mt11 l D ct p1 p2) (va_cwS 4 hts gX12_rests_X12_travellerGets rfl rfl rfl (by decide +kernel) ⟨Nat.le_of_ble_eq_true rfl, Nat.le_of_ble_eq_true rfl⟩) hw hS hA hK hN rfl rfl hl.1 rfl (Nat.le_of_ble_eq_true rfl) dX12_rests_108 (fun _ H locs hp87 hw hS => ?_)
                  have hw : zPD D A [(h0, .inr (11, [.int 0, .int w_taped, .ref (y 0), .int w_size, .int w_place, .int w_begin, .int w_token, .long w_word, .int w_told, .int w_wrong, .ref (y 1), .ref (y 2), .ref (y 3), .ref (y 4), .ref (y 5), .ref (y 6), .ref (y 7), .ref (y 8), .ref (y 9), .ref (y 10), .ref (y 11), .ref (y 12), .int w_code, .int w_toldLines, .ref (y 13), .ref (y 14), .ref (y 15), .ref (y 16), .ref (y 17), .ref (y 18), .ref (y 19), .ref (y 20), .ref (y 21), .ref (y 22), .ref (y 23), .ref (y 24), .int w_given, .long w_fresh, .ref (y 25), .ref (y 26), .ref (y 27), .ref (y 28), .ref (y 29), .ref (y 30), .ref (y 31), .ref (y 32), .ref (y 33), .ref (y 34), .ref (y 35), .ref (y 36), .ref (y 37), .int w_done, .int w_moreAsked, .ref (y 38), .long w_g, .int w_gone, .int w_stopped]))] H := hw
                  refine zfr 111 [.int (-p1), .int 0] rfl rfl ?_
                  refine lv_icmp_le (tgt := 117) hx hb dX12_rests_111 (by decide) (fun c_88 => ?_) (fun c_88 => ?_)
                  · refine lv_iload hx hb dX12_rests_117 (lv_at hl 3 rfl) ?_
                    refine lv_iload_n hx hb dX12_rests_119 rfl (lv_at hl 7 rfl) ?_
                    refine lv_icmp_ne (tgt := 126) hx hb dX12_rests_120 (by decide) (fun c_89 => ?_) (fun c_89 => ?_)
                    · refine lv_iinc (v := 2) (lv' := [(4, .int 2), (7, .int 1), (6, .int 1), (5, .int 3), (0, .ref h0), (1, .int p1), (2, .int p2), (3, .int p3)]) hx hb dX12_rests_126 hl (k := 3) rfl (by decide) (by decide) rfl (fun ls hl => ?_)
                      refine lv_iinc (v := 4) (lv' := [(5, .int 4), (4, .int 2), (7, .int 1), (6, .int 1), (0, .ref h0), (1, .int p1), (2, .int p2), (3, .int p3)]) hx hb dX12_rests_129 hl (k := 3) rfl (by decide) (by decide) rfl (fun ls hl => ?_)
                      refine lv_goto (tgt := 50) hx hb dX12_rests_132 (by decide) ?_
                      refine lv_iload hx hb dX12_rests_50 (lv_at hl 0 rfl) ?_
                      refine lv_iconst (v := 4) hx hb dX12_rests_52 (by decide) ?_
                      refine lv_icmp_ge (tgt := 135) hx hb dX12_rests_53 (by decide) (fun _ => ?_) (fun h => absurd (by decide) h)
                      refine lv_aload_n hx hb dX12_rests_135 rfl (lv_at hl 4 rfl) ?_
                      refine lv_iload_n hx hb dX12_rests_136 rfl (lv_at hl 7 rfl) ?_
                      refine lv_iconst (v := (-1)) hx hb dX12_rests_137 (by decide) ?_
                      refine lv_icmp_ne (tgt := 145) hx hb dX12_rests_138 (by decide) (fun c_91 => ?_) (fun c_91 => ?_)
                      · refine lv_iconst (v := 1) hx hb dX12_rests_145 (by decide) ?_
                        refine zput (D := D) (ci := 11) (v := .int 1) (ty := .int) hx hb hts hiX12 tyX12 tyX12_ok nmX12 hown hK hw hS 0 rfl rfl 0 (by decide) (hts (.fieldLink RX12 129 "BeardPassModel" "thrown" "I") (by decide +kernel)) (fun _ h9 => h9) rfl (by decide +kernel) rfl rfl (Nat.le_of_ble_eq_true rfl) dX12_rests_146 [(h0, .inr (11, [.int 1, .int w_taped, .ref (y 0), .int w_size, .int w_place, .int w_begin, .int w_token, .long w_word, .int w_told, .int w_wrong, .ref (y 1), .ref (y 2), .ref (y 3), .ref (y 4), .ref (y 5), .ref (y 6), .ref (y 7), .ref (y 8), .ref (y 9), .ref (y 10), .ref (y 11), .ref (y 12), .int w_code, .int w_toldLines, .ref (y 13), .ref (y 14), .ref (y 15), .ref (y 16), .ref (y 17), .ref (y 18), .ref (y 19), .ref (y 20), .ref (y 21), .ref (y 22), .ref (y 23), .ref (y 24), .int w_given, .long w_fresh, .ref (y 25), .ref (y 26), .ref (y 27), .ref (y 28), .ref (y 29), .ref (y 30), .ref (y 31), .ref (y 32), .ref (y 33), .ref (y 34), .ref (y 35), .ref (y 36), .ref (y 37), .int w_done, .int w_moreAsked, .ref (y 38), .long w_g, .int w_gone, .int w_stopped]))] rfl (fun H locs hw hS => ?_)
                        refine lv_iload_n hx hb dX12_rests_149 rfl (lv_at hl 7 rfl) ?_
                        refine lv_iconst (v := (-1)) hx hb dX12_rests_150 (by decide) ?_
                        refine lv_icmp_ne (tgt := 159) hx hb dX12_rests_151 (by decide) (fun _ => ?_) (fun h => absurd h (c_91))
                        refine lv_iconst (v := 0) hx hb dX12_rests_159 (by decide) ?_
                        exact ziret hx hb hr (rfl) hlocks () (congrArg (fun z => some (Value.int z)) (zrv_none (by rw [zrs, if_neg c_2, if_neg c_5, if_pos (zsge (r := p1) (w := p2) c_7), zrq0, if_neg (show ¬ zat0 p2 = 0 by rw [zat0, if_pos c_16]; decide), if_neg c_17, zrq1, if_pos (show zat1 p1 p2 = 0 from (if_neg c_21).trans (if_neg c_48)), zrq3, if_neg (show ¬ zat3 p1 p2 = 0 by rw [zat3, if_neg c_81, if_pos c_88]; decide), if_neg c_89, zrq4, if_neg c_91]))) (trivial) hw [0] rfl (by rw [show zth p1 p2 p3 = 1 from zth_none (by rw [zrs, if_neg c_2, if_neg c_5, if_pos (zsge (r := p1) (w := p2) c_7), zrq0, if_neg (show ¬ zat0 p2 = 0 by rw [zat0, if_pos c_16]; decide), if_neg c_17, zrq1, if_pos (show zat1 p1 p2 = 0 from (if_neg c_21).trans (if_neg c_48)), zrq3, if_neg (show ¬ zat3 p1 p2 = 0 by rw [zat3, if_neg c_81, if_pos c_88]; decide), if_neg c_89, zrq4, if_neg c_91])]; rfl) hS (Nat.le_of_ble_eq_true rfl) (Nat.le_of_ble_eq_true rfl) dX12_rests_160
                      · refine lv_iconst (v := 0) hx hb dX12_rests_141 (by decide) ?_
                        refine lv_goto (tgt := 146) hx hb dX12_rests_142 (by decide) ?_
                        refine zput (D := D) (ci := 11) (v := .int 0) (ty := .int) hx hb hts hiX12 tyX12 tyX12_ok nmX12 hown hK hw hS 0 rfl rfl 0 (by decide) (hts (.fieldLink RX12 129 "BeardPassModel" "thrown" "I") (by decide +kernel)) (fun _ h9 => h9) rfl (by decide +kernel) rfl rfl (Nat.le_of_ble_eq_true rfl) dX12_rests_146 [(h0, .inr (11, [.int 0, .int w_taped, .ref (y 0), .int w_size, .int w_place, .int w_begin, .int w_token, .long w_word, .int w_told, .int w_wrong, .ref (y 1), .ref (y 2), .ref (y 3), .ref (y 4), .ref (y 5), .ref (y 6), .ref (y 7), .ref (y 8), .ref (y 9), .ref (y 10), .ref (y 11), .ref (y 12), .int w_code, .int w_toldLines, .ref (y 13), .ref (y 14), .ref (y 15), .ref (y 16), .ref (y 17), .ref (y 18), .ref (y 19), .ref (y 20), .ref (y 21), .ref (y 22), .ref (y 23), .ref (y 24), .int w_given, .long w_fresh, .ref (y 25), .ref (y 26), .ref (y 27), .ref (y 28), .ref (y 29), .ref (y 30), .ref (y 31), .ref (y 32), .ref (y 33), .ref (y 34), .ref (y 35), .ref (y 36), .ref (y 37), .int w_done, .int w_moreAsked, .ref (y 38), .long w_g, .int w_gone, .int w_stopped]))] rfl (fun H locs hw hS => ?_)
                        refine lv_iload_n hx hb dX12_rests_149 rfl (lv_at hl 7 rfl) ?_
                        refine lv_iconst (v := (-1)) hx hb dX12_rests_150 (by decide) ?_
                        refine lv_icmp_ne (tgt := 159) hx hb dX12_rests_151 (by decide) (fun h => absurd (c_91) h) (fun _ => ?_)
                        refine lv_iload hx hb dX12_rests_154 (lv_at hl 1 rfl) ?_
                        refine lv_goto (tgt := 160) hx hb dX12_rests_156 (by decide) ?_
                        exact ziret hx hb hr (rfl) hlocks () (congrArg (fun z => some (Value.int z)) (zrv_some (by rw [zrs, if_neg c_2, if_neg c_5, if_pos (zsge (r := p1) (w := p2) c_7), zrq0, if_neg (show ¬ zat0 p2 = 0 by rw [zat0, if_pos c_16]; decide), if_neg c_17, zrq1, if_pos (show zat1 p1 p2 = 0 from (if_neg c_21).trans (if_neg c_48)), zrq3, if_neg (show ¬ zat3 p1 p2 = 0 by rw [zat3, if_neg c_81, if_pos c_88]; decide), if_neg c_89, zrq4, if_pos c_91]))) (trivial) hw [0] rfl (by rw [show zth p1 p2 p3 = 0 from zth_some (v := 2) (by rw [zrs, if_neg c_2, if_neg c_5, if_pos (zsge (r := p1) (w := p2) c_7), zrq0, if_neg (show ¬ zat0 p2 = 0 by rw [zat0, if_pos c_16]; decide), if_neg c_17, zrq1, if_pos (show zat1 p1 p2 = 0 from (if_neg c_21).trans (if_neg c_48)), zrq3, if_neg (show ¬ zat3 p1 p2 = 0 by rw [zat3, if_neg c_81, if_pos c_88]; decide), if_neg c_89, zrq4, if_pos c_91])]; rfl) hS (Nat.le_of_ble_eq_true rfl) (Nat.le_of_ble_eq_true rfl) dX12_rests_160
                    · refine lv_iload hx hb dX12_rests_123 (lv_at hl 2 rfl) ?_
                      exact ziret hx hb hr (rfl) hlocks () (congrArg (fun z => some (Value.int z)) (zrv_some (by rw [zrs, if_neg c_2, if_neg c_5, if_pos (zsge (r := p1) (w := p2) c_7), zrq0, if_neg (show ¬ zat0 p2 = 0 by rw [zat0, if_pos c_16]; decide), if_neg c_17, zrq1, if_pos (show zat1 p1 p2 = 0 from (if_neg c_21).trans (if_neg c_48)), zrq3, if_neg (show ¬ zat3 p1 p2 = 0 by rw [zat3, if_neg c_81, if_pos c_88]; decide), if_pos c_89]))) (trivial) hw [0] rfl (by rw [show zth p1 p2 p3 = 0 from zth_some (v := 3) (by rw [zrs, if_neg c_2, if_neg c_5, if_pos (zsge (r := p1) (w := p2) c_7), zrq0, if_neg (show ¬ zat0 p2 = 0 by rw [zat0, if_pos c_16]; decide), if_neg c_17, zrq1, if_pos (show zat1 p1 p2 = 0 from (if_neg c_21).trans (if_neg c_48)), zrq3, if_neg (show ¬ zat3 p1 p2 = 0 by rw [zat3, if_neg c_81, if_pos c_88]; decide), if_pos c_89])]; rfl) hS (Nat.le_of_ble_eq_true rfl) (Nat.le_of_ble_eq_true rfl) dX12_rests_125
                  · refine lv_goto (tgt := 129) hx hb dX12_rests_114 (by decide) ?_
                    refine lv_iinc (v := 4) (lv' := [(5, .int 4), (7, .int 1), (6, .int 1), (4, .int 1), (0, .ref h0), (1, .int p1), (2, .int p2), (3, .int p3)]) hx hb dX12_rests_129 hl (k := 2) rfl (by decide) (by decide) rfl (fun ls hl => ?_)
                    refine lv_goto (tgt := 50) hx hb dX12_rests_132 (by decide) ?_
                    refine lv_iload hx hb dX12_rests_50 (lv_at hl 0 rfl) ?_
                    refine lv_iconst (v := 4) hx hb dX12_rests_52 (by decide) ?_
                    refine lv_icmp_ge (tgt := 135) hx hb dX12_rests_53 (by decide) (fun _ => ?_) (fun h => absurd (by decide) h)
                    refine lv_aload_n hx hb dX12_rests_135 rfl (lv_at hl 4 rfl) ?_
                    refine lv_iload_n hx hb dX12_rests_136 rfl (lv_at hl 7 rfl) ?_
                    refine lv_iconst (v := (-1)) hx hb dX12_rests_137 (by decide) ?_
                    refine lv_icmp_ne (tgt := 145) hx hb dX12_rests_138 (by decide) (fun c_95 => ?_) (fun c_95 => ?_)
                    · refine lv_iconst (v := 1) hx hb dX12_rests_145 (by decide) ?_
                      refine zput (D := D) (ci := 11) (v := .int 1) (ty := .int) hx hb hts hiX12 tyX12 tyX12_ok nmX12 hown hK hw hS 0 rfl rfl 0 (by decide) (hts (.fieldLink RX12 129 "BeardPassModel" "thrown" "I") (by decide +kernel)) (fun _ h9 => h9) rfl (by decide +kernel) rfl rfl (Nat.le_of_ble_eq_true rfl) dX12_rests_146 [(h0, .inr (11, [.int 1, .int w_taped, .ref (y 0), .int w_size, .int w_place, .int w_begin, .int w_token, .long w_word, .int w_told, .int w_wrong, .ref (y 1), .ref (y 2), .ref (y 3), .ref (y 4), .ref (y 5), .ref (y 6), .ref (y 7), .ref (y 8), .ref (y 9), .ref (y 10), .ref (y 11), .ref (y 12), .int w_code, .int w_toldLines, .ref (y 13), .ref (y 14), .ref (y 15), .ref (y 16), .ref (y 17), .ref (y 18), .ref (y 19), .ref (y 20), .ref (y 21), .ref (y 22), .ref (y 23), .ref (y 24), .int w_given, .long w_fresh, .ref (y 25), .ref (y 26), .ref (y 27), .ref (y 28), .ref (y 29), .ref (y 30), .ref (y 31), .ref (y 32), .ref (y 33), .ref (y 34), .ref (y 35), .ref (y 36), .ref (y 37), .int w_done, .int w_moreAsked, .ref (y 38), .long w_g, .int w_gone, .int w_stopped]))] rfl (fun H locs hw hS => ?_)
                      refine lv_iload_n hx hb dX12_rests_149 rfl (lv_at hl 7 rfl) ?_
                      refine lv_iconst (v := (-1)) hx hb dX12_rests_150 (by decide) ?_
                      refine lv_icmp_ne (tgt := 159) hx hb dX12_rests_151 (by decide) (fun _ => ?_) (fun h => absurd h (c_95))
                      refine lv_iconst (v := 0) hx hb dX12_rests_159 (by decide) ?_
                      exact ziret hx hb hr (rfl) hlocks () (congrArg (fun z => some (Value.int z)) (zrv_none (by rw [zrs, if_neg c_2, if_neg c_5, if_pos (zsge (r := p1) (w := p2) c_7), zrq0, if_neg (show ¬ zat0 p2 = 0 by rw [zat0, if_pos c_16]; decide), if_neg c_17, zrq1, if_pos (show zat1 p1 p2 = 0 from (if_neg c_21).trans (if_neg c_48)), zrq3, if_pos (show zat3 p1 p2 = 0 from (if_neg c_81).trans (if_neg c_88)), zrq4, if_neg c_95]))) (trivial) hw [0] rfl (by rw [show zth p1 p2 p3 = 1 from zth_none (by rw [zrs, if_neg c_2, if_neg c_5, if_pos (zsge (r := p1) (w := p2) c_7), zrq0, if_neg (show ¬ zat0 p2 = 0 by rw [zat0, if_pos c_16]; decide), if_neg c_17, zrq1, if_pos (show zat1 p1 p2 = 0 from (if_neg c_21).trans (if_neg c_48)), zrq3, if_pos (show zat3 p1 p2 = 0 from (if_neg c_81).trans (if_neg c_88)), zrq4, if_neg c_95])]; rfl) hS (Nat.le_of_ble_eq_true rfl) (Nat.le_of_ble_eq_true rfl) dX12_rests_160
                    · refine lv_iconst (v := 0) hx hb dX12_rests_141 (by decide) ?_
                      refine lv_goto (tgt := 146) hx hb dX12_rests_142 (by decide) ?_
                      refine zput (D := D) (ci := 11) (v := .int 0) (ty := .int) hx hb hts hiX12 tyX12 tyX12_ok nmX12 hown hK hw hS 0 rfl rfl 0 (by decide) (hts (.fieldLink RX12 129 "BeardPassModel" "thrown" "I") (by decide +kernel)) (fun _ h9 => h9) rfl (by decide +kernel) rfl rfl (Nat.le_of_ble_eq_true rfl) dX12_rests_146 [(h0, .inr (11, [.int 0, .int w_taped, .ref (y 0), .int w_size, .int w_place, .int w_begin, .int w_token, .long w_word, .int w_told, .int w_wrong, .ref (y 1), .ref (y 2), .ref (y 3), .ref (y 4), .ref (y 5), .ref (y 6), .ref (y 7), .ref (y 8), .ref (y 9), .ref (y 10), .ref (y 11), .ref (y 12), .int w_code, .int w_toldLines, .ref (y 13), .ref (y 14), .ref (y 15), .ref (y 16), .ref (y 17), .ref (y 18), .ref (y 19), .ref (y 20), .ref (y 21), .ref (y 22), .ref (y 23), .ref (y 24), .int w_given, .long w_fresh, .ref (y 25), .ref (y 26), .ref (y 27), .ref (y 28), .ref (y 29), .ref (y 30), .ref (y 31), .ref (y 32), .ref (y 33), .ref (y 34), .ref (y 35), .ref (y 36), .ref (y 37), .int w_done, .int w_moreAsked, .ref (y 38), .long w_g, .int w_gone, .int w_stopped]))] rfl (fun H locs hw hS => ?_)
                      refine lv_iload_n hx hb dX12_rests_149 rfl (lv_at hl 7 rfl) ?_
                      refine lv_iconst (v := (-1)) hx hb dX12_rests_150 (by decide) ?_
                      refine lv_icmp_ne (tgt := 159) hx hb dX12_rests_151 (by decide) (fun h => absurd (c_95) h) (fun _ => ?_)
                      refine lv_iload hx hb dX12_rests_154 (lv_at hl 3 rfl) ?_
                      refine lv_goto (tgt := 160) hx hb dX12_rests_156 (by decide) ?_
                      exact ziret hx hb hr (rfl) hlocks () (congrArg (fun z => some (Value.int z)) (zrv_some (by rw [zrs, if_neg c_2, if_neg c_5, if_pos (zsge (r := p1) (w := p2) c_7), zrq0, if_neg (show ¬ zat0 p2 = 0 by rw [zat0, if_pos c_16]; decide), if_neg c_17, zrq1, if_pos (show zat1 p1 p2 = 0 from (if_neg c_21).trans (if_neg c_48)), zrq3, if_pos (show zat3 p1 p2 = 0 from (if_neg c_81).trans (if_neg c_88)), zrq4, if_pos c_95]))) (trivial) hw [0] rfl (by rw [show zth p1 p2 p3 = 0 from zth_some (v := 1) (by rw [zrs, if_neg c_2, if_neg c_5, if_pos (zsge (r := p1) (w := p2) c_7), zrq0, if_neg (show ¬ zat0 p2 = 0 by rw [zat0, if_pos c_16]; decide), if_neg c_17, zrq1, if_pos (show zat1 p1 p2 = 0 from (if_neg c_21).trans (if_neg c_48)), zrq3, if_pos (show zat3 p1 p2 = 0 from (if_neg c_81).trans (if_neg c_88)), zrq4, if_pos c_95])]; rfl) hS (Nat.le_of_ble_eq_true rfl) (Nat.le_of_ble_eq_true rfl) dX12_rests_160
          · refine lv_iload hx hb dX12_rests_123 (lv_at hl 2 rfl) ?_
            exact ziret hx hb hr (rfl) hlocks () (congrArg (fun z => some (Value.int z)) (zrv_some (by rw [zrs, if_neg c_2, if_neg c_5, if_pos (zsge (r := p1) (w := p2) c_7), zrq0, if_neg (show ¬ zat0 p2 = 0 by rw [zat0, if_pos c_16]; decide), if_pos c_17]))) (trivial) hw [0] rfl (by rw [show zth p1 p2 p3 = 0 from zth_some (v := 0) (by rw [zrs, if_neg c_2, if_neg c_5, if_pos (zsge (r := p1) (w := p2) c_7), zrq0, if_neg (show ¬ zat0 p2 = 0 by rw [zat0, if_pos c_16]; decide), if_pos c_17])]; rfl) hS (Nat.le_of_ble_eq_true rfl) (Nat.le_of_ble_eq_true rfl) dX12_rests_125
        · refine lv_goto (tgt := 129) hx hb dX12_rests_114 (by decide) ?_
          refine lv_iinc (v := 1) (lv' := [(5, .int 1), (7, .int 0), (6, .int 0), (4, .int 0), (0, .ref h0), (1, .int p1), (2, .int p2), (3, .int p3)]) hx hb dX12_rests_129 hl (k := 2) rfl (by decide) (by decide) rfl (fun ls hl => ?_)
          refine lv_goto (tgt := 50) hx hb dX12_rests_132 (by decide) ?_
          refine lv_iload hx hb dX12_rests_50 (lv_at hl 0 rfl) ?_
          refine lv_iconst (v := 4) hx hb dX12_rests_52 (by decide) ?_
          refine lv_icmp_ge (tgt := 135) hx hb dX12_rests_53 (by decide) (fun h => absurd h (by decide)) (fun _ => ?_)
          refine lv_iload hx hb dX12_rests_56 (lv_at hl 0 rfl) ?_
          refine lv_iconst (v := 2) hx hb dX12_rests_58 (by decide) ?_
          refine lv_idiv hx hb dX12_rests_59 (by decide) ?_
          refine ztop (.int 0) (congrArg Value.int (by decide)) ?_
          refine lv_istore (lv' := [(6, .int 0), (5, .int 1), (7, .int 0), (4, .int 0), (0, .ref h0), (1, .int p1), (2, .int p2), (3, .int p3)]) hx hb dX12_rests_60 hl (by decide) rfl (fun ls hl => ?_)
          refine lv_iload hx hb dX12_rests_62 (lv_at hl 1 rfl) ?_
          refine lv_iconst (v := 2) hx hb dX12_rests_64 (by decide) ?_
          refine lv_irem hx hb dX12_rests_65 (by decide) ?_
          refine ztop (.int 1) (congrArg Value.int (by decide)) ?_
          refine lv_istore (lv' := [(7, .int 1), (6, .int 0), (5, .int 1), (4, .int 0), (0, .ref h0), (1, .int p1), (2, .int p2), (3, .int p3)]) hx hb dX12_rests_66 hl (by decide) rfl (fun ls hl => ?_)
          refine lv_iload_n hx hb dX12_rests_68 rfl (lv_at hl 5 rfl) ?_
          refine lv_iload_n hx hb dX12_rests_69 rfl (lv_at hl 6 rfl) ?_
          refine lv_iconst (v := 1) hx hb dX12_rests_70 (by decide) ?_
          refine lv_iload hx hb dX12_rests_71 (lv_at hl 1 rfl) ?_
          refine lv_isub hx hb dX12_rests_73 ?_
          refine ztop (.int 1) (congrArg Value.int (by decide)) ?_
          refine lv_iload hx hb dX12_rests_74 (lv_at hl 0 rfl) ?_
          refine scall0 (As := [.int p1, .int p2, .int 1, .int 1]) (rest := []) ⟨hx, hb, hml, hown, hts⟩ (c_mg11 l D ct p1 p2) (va_cwS 4 hts gX12_rests_X12_guardGets rfl rfl rfl (by decide +kernel) ⟨Nat.le_of_ble_eq_true rfl, Nat.le_of_ble_eq_true rfl⟩) hw hS hA hK hN rfl rfl hl.1 rfl (Nat.le_of_ble_eq_true rfl) dX12_rests_76 (fun _ H locs hp99 hw hS => ?_)
          have hw : zPD D A [(h0, .inr (11, [.int 0, .int w_taped, .ref (y 0), .int w_size, .int w_place, .int w_begin, .int w_token, .long w_word, .int w_told, .int w_wrong, .ref (y 1), .ref (y 2), .ref (y 3), .ref (y 4), .ref (y 5), .ref (y 6), .ref (y 7), .ref (y 8), .ref (y 9), .ref (y 10), .ref (y 11), .ref (y 12), .int w_code, .int w_toldLines, .ref (y 13), .ref (y 14), .ref (y 15), .ref (y 16), .ref (y 17), .ref (y 18), .ref (y 19), .ref (y 20), .ref (y 21), .ref (y 22), .ref (y 23), .ref (y 24), .int w_given, .long w_fresh, .ref (y 25), .ref (y 26), .ref (y 27), .ref (y 28), .ref (y 29), .ref (y 30), .ref (y 31), .ref (y 32), .ref (y 33), .ref (y 34), .ref (y 35), .ref (y 36), .ref (y 37), .int w_done, .int w_moreAsked, .ref (y 38), .long w_g, .int w_gone, .int w_stopped]))] H := hw
          refine zfr 79 [.int p1] rfl rfl ?_
          refine lv_iload_n hx hb dX12_rests_79 rfl (lv_at hl 5 rfl) ?_
          refine lv_iload_n hx hb dX12_rests_80 rfl (lv_at hl 6 rfl) ?_
          refine lv_iload hx hb dX12_rests_81 (lv_at hl 1 rfl) ?_
          refine lv_iload hx hb dX12_rests_83 (lv_at hl 0 rfl) ?_
          refine scall0 (As := [.int p1, .int p2, .int 0, .int 1]) (rest := [.int p1]) ⟨hx, hb, hml, hown, hts⟩ (c_mg01 l D ct p1 p2) (va_cwS 4 hts gX12_rests_X12_guardGets rfl rfl rfl (by decide +kernel) ⟨Nat.le_of_ble_eq_true rfl, Nat.le_of_ble_eq_true rfl⟩) hw hS hA hK hN rfl rfl hl.1 rfl (Nat.le_of_ble_eq_true rfl) dX12_rests_85 (fun _ H locs hp100 hw hS => ?_)
          have hw : zPD D A [(h0, .inr (11, [.int 0, .int w_taped, .ref (y 0), .int w_size, .int w_place, .int w_begin, .int w_token, .long w_word, .int w_told, .int w_wrong, .ref (y 1), .ref (y 2), .ref (y 3), .ref (y 4), .ref (y 5), .ref (y 6), .ref (y 7), .ref (y 8), .ref (y 9), .ref (y 10), .ref (y 11), .ref (y 12), .int w_code, .int w_toldLines, .ref (y 13), .ref (y 14), .ref (y 15), .ref (y 16), .ref (y 17), .ref (y 18), .ref (y 19), .ref (y 20), .ref (y 21), .ref (y 22), .ref (y 23), .ref (y 24), .int w_given, .long w_fresh, .ref (y 25), .ref (y 26), .ref (y 27), .ref (y 28), .ref (y 29), .ref (y 30), .ref (y 31), .ref (y 32), .ref (y 33), .ref (y 34), .ref (y 35), .ref (y 36), .ref (y 37), .int w_done, .int w_moreAsked, .ref (y 38), .long w_g, .int w_gone, .int w_stopped]))] H := hw
          refine zfr 88 [.int (-p2), .int p1] rfl rfl ?_
          refine lv_icmp_gt (tgt := 129) hx hb dX12_rests_88 (by decide) (fun c_101 => ?_) (fun c_101 => ?_)
          · refine lv_iinc (v := 2) (lv' := [(5, .int 2), (7, .int 1), (6, .int 0), (4, .int 0), (0, .ref h0), (1, .int p1), (2, .int p2), (3, .int p3)]) hx hb dX12_rests_129 hl (k := 2) rfl (by decide) (by decide) rfl (fun ls hl => ?_)
            refine lv_goto (tgt := 50) hx hb dX12_rests_132 (by decide) ?_
            refine lv_iload hx hb dX12_rests_50 (lv_at hl 0 rfl) ?_
            refine lv_iconst (v := 4) hx hb dX12_rests_52 (by decide) ?_
            refine lv_icmp_ge (tgt := 135) hx hb dX12_rests_53 (by decide) (fun h => absurd h (by decide)) (fun _ => ?_)
            refine lv_iload hx hb dX12_rests_56 (lv_at hl 0 rfl) ?_
            refine lv_iconst (v := 2) hx hb dX12_rests_58 (by decide) ?_
            refine lv_idiv hx hb dX12_rests_59 (by decide) ?_
            refine ztop (.int 1) (congrArg Value.int (by decide)) ?_
            refine lv_istore (lv' := [(6, .int 1), (5, .int 2), (7, .int 1), (4, .int 0), (0, .ref h0), (1, .int p1), (2, .int p2), (3, .int p3)]) hx hb dX12_rests_60 hl (by decide) rfl (fun ls hl => ?_)
            refine lv_iload hx hb dX12_rests_62 (lv_at hl 1 rfl) ?_
            refine lv_iconst (v := 2) hx hb dX12_rests_64 (by decide) ?_
            refine lv_irem hx hb dX12_rests_65 (by decide) ?_
            refine ztop (.int 0) (congrArg Value.int (by decide)) ?_
            refine lv_istore (lv' := [(7, .int 0), (6, .int 1), (5, .int 2), (4, .int 0), (0, .ref h0), (1, .int p1), (2, .int p2), (3, .int p3)]) hx hb dX12_rests_66 hl (by decide) rfl (fun ls hl => ?_)
            refine lv_iload_n hx hb dX12_rests_68 rfl (lv_at hl 5 rfl) ?_
            refine lv_iload_n hx hb dX12_rests_69 rfl (lv_at hl 6 rfl) ?_
            refine lv_iconst (v := 1) hx hb dX12_rests_70 (by decide) ?_
            refine lv_iload hx hb dX12_rests_71 (lv_at hl 1 rfl) ?_
            refine lv_isub hx hb dX12_rests_73 ?_
            refine ztop (.int 0) (congrArg Value.int (by decide)) ?_
            refine lv_iload hx hb dX12_rests_74 (lv_at hl 0 rfl) ?_
            refine scall0 (As := [.int p1, .int p2, .int 0, .int 0]) (rest := []) ⟨hx, hb, hml, hown, hts⟩ (c_mg00 l D ct p1 p2) (va_cwS 4 hts gX12_rests_X12_guardGets rfl rfl rfl (by decide +kernel) ⟨Nat.le_of_ble_eq_true rfl, Nat.le_of_ble_eq_true rfl⟩) hw hS hA hK hN rfl rfl hl.1 rfl (Nat.le_of_ble_eq_true rfl) dX12_rests_76 (fun _ H locs hp103 hw hS => ?_)
            have hw : zPD D A [(h0, .inr (11, [.int 0, .int w_taped, .ref (y 0), .int w_size, .int w_place, .int w_begin, .int w_token, .long w_word, .int w_told, .int w_wrong, .ref (y 1), .ref (y 2), .ref (y 3), .ref (y 4), .ref (y 5), .ref (y 6), .ref (y 7), .ref (y 8), .ref (y 9), .ref (y 10), .ref (y 11), .ref (y 12), .int w_code, .int w_toldLines, .ref (y 13), .ref (y 14), .ref (y 15), .ref (y 16), .ref (y 17), .ref (y 18), .ref (y 19), .ref (y 20), .ref (y 21), .ref (y 22), .ref (y 23), .ref (y 24), .int w_given, .long w_fresh, .ref (y 25), .ref (y 26), .ref (y 27), .ref (y 28), .ref (y 29), .ref (y 30), .ref (y 31), .ref (y 32), .ref (y 33), .ref (y 34), .ref (y 35), .ref (y 36), .ref (y 37), .int w_done, .int w_moreAsked, .ref (y 38), .long w_g, .int w_gone, .int w_stopped]))] H := hw
            refine zfr 79 [.int 0] rfl rfl ?_
            refine lv_iload_n hx hb dX12_rests_79 rfl (lv_at hl 5 rfl) ?_
            refine lv_iload_n hx hb dX12_rests_80 rfl (lv_at hl 6 rfl) ?_
            refine lv_iload hx hb dX12_rests_81 (lv_at hl 1 rfl) ?_
            refine lv_iload hx hb dX12_rests_83 (lv_at hl 0 rfl) ?_
            refine scall0 (As := [.int p1, .int p2, .int 1, .int 0]) (rest := [.int 0]) ⟨hx, hb, hml, hown, hts⟩ (c_mg10 l D ct p1 p2) (va_cwS 4 hts gX12_rests_X12_guardGets rfl rfl rfl (by decide +kernel) ⟨Nat.le_of_ble_eq_true rfl, Nat.le_of_ble_eq_true rfl⟩) hw hS hA hK hN rfl rfl hl.1 rfl (Nat.le_of_ble_eq_true rfl) dX12_rests_85 (fun _ H locs hp104 hw hS => ?_)
            have hw : zPD D A [(h0, .inr (11, [.int 0, .int w_taped, .ref (y 0), .int w_size, .int w_place, .int w_begin, .int w_token, .long w_word, .int w_told, .int w_wrong, .ref (y 1), .ref (y 2), .ref (y 3), .ref (y 4), .ref (y 5), .ref (y 6), .ref (y 7), .ref (y 8), .ref (y 9), .ref (y 10), .ref (y 11), .ref (y 12), .int w_code, .int w_toldLines, .ref (y 13), .ref (y 14), .ref (y 15), .ref (y 16), .ref (y 17), .ref (y 18), .ref (y 19), .ref (y 20), .ref (y 21), .ref (y 22), .ref (y 23), .ref (y 24), .int w_given, .long w_fresh, .ref (y 25), .ref (y 26), .ref (y 27), .ref (y 28), .ref (y 29), .ref (y 30), .ref (y 31), .ref (y 32), .ref (y 33), .ref (y 34), .ref (y 35), .ref (y 36), .ref (y 37), .int w_done, .int w_moreAsked, .ref (y 38), .long w_g, .int w_gone, .int w_stopped]))] H := hw
            refine zfr 88 [.int (-1), .int 0] rfl rfl ?_
            refine lv_icmp_gt (tgt := 129) hx hb dX12_rests_88 (by decide) (fun _ => ?_) (fun h => absurd (by decide) h)
            refine lv_iinc (v := 3) (lv' := [(5, .int 3), (7, .int 0), (6, .int 1), (4, .int 0), (0, .ref h0), (1, .int p1), (2, .int p2), (3, .int p3)]) hx hb dX12_rests_129 hl (k := 2) rfl (by decide) (by decide) rfl (fun ls hl => ?_)
            refine lv_goto (tgt := 50) hx hb dX12_rests_132 (by decide) ?_
            refine lv_iload hx hb dX12_rests_50 (lv_at hl 0 rfl) ?_
            refine lv_iconst (v := 4) hx hb dX12_rests_52 (by decide) ?_
            refine lv_icmp_ge (tgt := 135) hx hb dX12_rests_53 (by decide) (fun h => absurd h (by decide)) (fun _ => ?_)
            refine lv_iload hx hb dX12_rests_56 (lv_at hl 0 rfl) ?_
            refine lv_iconst (v := 2) hx hb dX12_rests_58 (by decide) ?_
            refine lv_idiv hx hb dX12_rests_59 (by decide) ?_
            refine ztop (.int 1) (congrArg Value.int (by decide)) ?_
            refine lv_istore (lv' := [(6, .int 1), (5, .int 3), (7, .int 0), (4, .int 0), (0, .ref h0), (1, .int p1), (2, .int p2), (3, .int p3)]) hx hb dX12_rests_60 hl (by decide) rfl (fun ls hl => ?_)
            refine lv_iload hx hb dX12_rests_62 (lv_at hl 1 rfl) ?_
            refine lv_iconst (v := 2) hx hb dX12_rests_64 (by decide) ?_
            refine lv_irem hx hb dX12_rests_65 (by decide) ?_
            refine ztop (.int 1) (congrArg Value.int (by decide)) ?_
            refine lv_istore (lv' := [(7, .int 1), (6, .int 1), (5, .int 3), (4, .int 0), (0, .ref h0), (1, .int p1), (2, .int p2), (3, .int p3)]) hx hb dX12_rests_66 hl (by decide) rfl (fun ls hl => ?_)
            refine lv_iload_n hx hb dX12_rests_68 rfl (lv_at hl 5 rfl) ?_
            refine lv_iload_n hx hb dX12_rests_69 rfl (lv_at hl 6 rfl) ?_
            refine lv_iconst (v := 1) hx hb dX12_rests_70 (by decide) ?_
            refine lv_iload hx hb dX12_rests_71 (lv_at hl 1 rfl) ?_
            refine lv_isub hx hb dX12_rests_73 ?_
            refine ztop (.int 0) (congrArg Value.int (by decide)) ?_
            refine lv_iload hx hb dX12_rests_74 (lv_at hl 0 rfl) ?_
            refine scall0 (As := [.int p1, .int p2, .int 0, .int 1]) (rest := []) ⟨hx, hb, hml, hown, hts⟩ (c_mg01 l D ct p1 p2) (va_cwS 4 hts gX12_rests_X12_guardGets rfl rfl rfl (by decide +kernel) ⟨Nat.le_of_ble_eq_true rfl, Nat.le_of_ble_eq_true rfl⟩) hw hS hA hK hN rfl rfl hl.1 rfl (Nat.le_of_ble_eq_true rfl) dX12_rests_76 (fun _ H locs hp107 hw hS => ?_)
            have hw : zPD D A [(h0, .inr (11, [.int 0, .int w_taped, .ref (y 0), .int w_size, .int w_place, .int w_begin, .int w_token, .long w_word, .int w_told, .int w_wrong, .ref (y 1), .ref (y 2), .ref (y 3), .ref (y 4), .ref (y 5), .ref (y 6), .ref (y 7), .ref (y 8), .ref (y 9), .ref (y 10), .ref (y 11), .ref (y 12), .int w_code, .int w_toldLines, .ref (y 13), .ref (y 14), .ref (y 15), .ref (y 16), .ref (y 17), .ref (y 18), .ref (y 19), .ref (y 20), .ref (y 21), .ref (y 22), .ref (y 23), .ref (y 24), .int w_given, .long w_fresh, .ref (y 25), .ref (y 26), .ref (y 27), .ref (y 28), .ref (y 29), .ref (y 30), .ref (y 31), .ref (y 32), .ref (y 33), .ref (y 34), .ref (y 35), .ref (y 36), .ref (y 37), .int w_done, .int w_moreAsked, .ref (y 38), .long w_g, .int w_gone, .int w_stopped]))] H := hw
            refine zfr 79 [.int (-p2)] rfl rfl ?_
            refine lv_iload_n hx hb dX12_rests_79 rfl (lv_at hl 5 rfl) ?_
            refine lv_iload_n hx hb dX12_rests_80 rfl (lv_at hl 6 rfl) ?_
            refine lv_iload hx hb dX12_rests_81 (lv_at hl 1 rfl) ?_
            refine lv_iload hx hb dX12_rests_83 (lv_at hl 0 rfl) ?_
            refine scall0 (As := [.int p1, .int p2, .int 1, .int 1]) (rest := [.int (-p2)]) ⟨hx, hb, hml, hown, hts⟩ (c_mg11 l D ct p1 p2) (va_cwS 4 hts gX12_rests_X12_guardGets rfl rfl rfl (by decide +kernel) ⟨Nat.le_of_ble_eq_true rfl, Nat.le_of_ble_eq_true rfl⟩) hw hS hA hK hN rfl rfl hl.1 rfl (Nat.le_of_ble_eq_true rfl) dX12_rests_85 (fun _ H locs hp108 hw hS => ?_)
            have hw : zPD D A [(h0, .inr (11, [.int 0, .int w_taped, .ref (y 0), .int w_size, .int w_place, .int w_begin, .int w_token, .long w_word, .int w_told, .int w_wrong, .ref (y 1), .ref (y 2), .ref (y 3), .ref (y 4), .ref (y 5), .ref (y 6), .ref (y 7), .ref (y 8), .ref (y 9), .ref (y 10), .ref (y 11), .ref (y 12), .int w_code, .int w_toldLines, .ref (y 13), .ref (y 14), .ref (y 15), .ref (y 16), .ref (y 17), .ref (y 18), .ref (y 19), .ref (y 20), .ref (y 21), .ref (y 22), .ref (y 23), .ref (y 24), .int w_given, .long w_fresh, .ref (y 25), .ref (y 26), .ref (y 27), .ref (y 28), .ref (y 29), .ref (y 30), .ref (y 31), .ref (y 32), .ref (y 33), .ref (y 34), .ref (y 35), .ref (y 36), .ref (y 37), .int w_done, .int w_moreAsked, .ref (y 38), .long w_g, .int w_gone, .int w_stopped]))] H := hw
            refine zfr 88 [.int p1, .int (-p2)] rfl rfl ?_
            refine lv_icmp_gt (tgt := 129) hx hb dX12_rests_88 (by decide) (fun c_109 => ?_) (fun c_109 => ?_)
            · refine lv_iinc (v := 4) (lv' := [(5, .int 4), (7, .int 1), (6, .int 1), (4, .int 0), (0, .ref h0), (1, .int p1), (2, .int p2), (3, .int p3)]) hx hb dX12_rests_129 hl (k := 2) rfl (by decide) (by decide) rfl (fun ls hl => ?_)
              refine lv_goto (tgt := 50) hx hb dX12_rests_132 (by decide) ?_
              refine lv_iload hx hb dX12_rests_50 (lv_at hl 0 rfl) ?_
              refine lv_iconst (v := 4) hx hb dX12_rests_52 (by decide) ?_
              refine lv_icmp_ge (tgt := 135) hx hb dX12_rests_53 (by decide) (fun _ => ?_) (fun h => absurd (by decide) h)
              refine lv_aload_n hx hb dX12_rests_135 rfl (lv_at hl 4 rfl) ?_
              refine lv_iload_n hx hb dX12_rests_136 rfl (lv_at hl 7 rfl) ?_
              refine lv_iconst (v := (-1)) hx hb dX12_rests_137 (by decide) ?_
              refine lv_icmp_ne (tgt := 145) hx hb dX12_rests_138 (by decide) (fun c_111 => ?_) (fun c_111 => ?_)
              · refine lv_iconst (v := 1) hx hb dX12_rests_145 (by decide) ?_
                refine zput (D := D) (ci := 11) (v := .int 1) (ty := .int) hx hb hts hiX12 tyX12 tyX12_ok nmX12 hown hK hw hS 0 rfl rfl 0 (by decide) (hts (.fieldLink RX12 129 "BeardPassModel" "thrown" "I") (by decide +kernel)) (fun _ h9 => h9) rfl (by decide +kernel) rfl rfl (Nat.le_of_ble_eq_true rfl) dX12_rests_146 [(h0, .inr (11, [.int 1, .int w_taped, .ref (y 0), .int w_size, .int w_place, .int w_begin, .int w_token, .long w_word, .int w_told, .int w_wrong, .ref (y 1), .ref (y 2), .ref (y 3), .ref (y 4), .ref (y 5), .ref (y 6), .ref (y 7), .ref (y 8), .ref (y 9), .ref (y 10), .ref (y 11), .ref (y 12), .int w_code, .int w_toldLines, .ref (y 13), .ref (y 14), .ref (y 15), .ref (y 16), .ref (y 17), .ref (y 18), .ref (y 19), .ref (y 20), .ref (y 21), .ref (y 22), .ref (y 23), .ref (y 24), .int w_given, .long w_fresh, .ref (y 25), .ref (y 26), .ref (y 27), .ref (y 28), .ref (y 29), .ref (y 30), .ref (y 31), .ref (y 32), .ref (y 33), .ref (y 34), .ref (y 35), .ref (y 36), .ref (y 37), .int w_done, .int w_moreAsked, .ref (y 38), .long w_g, .int w_gone, .int w_stopped]))] rfl (fun H locs hw hS => ?_)
                refine lv_iload_n hx hb dX12_rests_149 rfl (lv_at hl 7 rfl) ?_
                refine lv_iconst (v := (-1)) hx hb dX12_rests_150 (by decide) ?_
                refine lv_icmp_ne (tgt := 159) hx hb dX12_rests_151 (by decide) (fun _ => ?_) (fun h => absurd h (c_111))
                refine lv_iconst (v := 0) hx hb dX12_rests_159 (by decide) ?_
                exact ziret hx hb hr (rfl) hlocks () (congrArg (fun z => some (Value.int z)) (zrv_none (by rw [zrs, if_neg c_2, if_neg c_5, if_pos (zsge (r := p1) (w := p2) c_7), zrq0, if_pos (show zat0 p2 = 0 from if_neg c_16), zrq1, if_pos (show zat1 p1 p2 = 0 from if_pos c_101), zrq3, if_pos (show zat3 p1 p2 = 0 from if_pos c_109), zrq4, if_neg c_111]))) (trivial) hw [0] rfl (by rw [show zth p1 p2 p3 = 1 from zth_none (by rw [zrs, if_neg c_2, if_neg c_5, if_pos (zsge (r := p1) (w := p2) c_7), zrq0, if_pos (show zat0 p2 = 0 from if_neg c_16), zrq1, if_pos (show zat1 p1 p2 = 0 from if_pos c_101), zrq3, if_pos (show zat3 p1 p2 = 0 from if_pos c_109), zrq4, if_neg c_111])]; rfl) hS (Nat.le_of_ble_eq_true rfl) (Nat.le_of_ble_eq_true rfl) dX12_rests_160
              · refine lv_iconst (v := 0) hx hb dX12_rests_141 (by decide) ?_
                refine lv_goto (tgt := 146) hx hb dX12_rests_142 (by decide) ?_
                refine zput (D := D) (ci := 11) (v := .int 0) (ty := .int) hx hb hts hiX12 tyX12 tyX12_ok nmX12 hown hK hw hS 0 rfl rfl 0 (by decide) (hts (.fieldLink RX12 129 "BeardPassModel" "thrown" "I") (by decide +kernel)) (fun _ h9 => h9) rfl (by decide +kernel) rfl rfl (Nat.le_of_ble_eq_true rfl) dX12_rests_146 [(h0, .inr (11, [.int 0, .int w_taped, .ref (y 0), .int w_size, .int w_place, .int w_begin, .int w_token, .long w_word, .int w_told, .int w_wrong, .ref (y 1), .ref (y 2), .ref (y 3), .ref (y 4), .ref (y 5), .ref (y 6), .ref (y 7), .ref (y 8), .ref (y 9), .ref (y 10), .ref (y 11), .ref (y 12), .int w_code, .int w_toldLines, .ref (y 13), .ref (y 14), .ref (y 15), .ref (y 16), .ref (y 17), .ref (y 18), .ref (y 19), .ref (y 20), .ref (y 21), .ref (y 22), .ref (y 23), .ref (y 24), .int w_given, .long w_fresh, .ref (y 25), .ref (y 26), .ref (y 27), .ref (y 28), .ref (y 29), .ref (y 30), .ref (y 31), .ref (y 32), .ref (y 33), .ref (y 34), .ref (y 35), .ref (y 36), .ref (y 37), .int w_done, .int w_moreAsked, .ref (y 38), .long w_g, .int w_gone, .int w_stopped]))] rfl (fun H locs hw hS => ?_)
                refine lv_iload_n hx hb dX12_rests_149 rfl (lv_at hl 7 rfl) ?_
                refine lv_iconst (v := (-1)) hx hb dX12_rests_150 (by decide) ?_
                refine lv_icmp_ne (tgt := 159) hx hb dX12_rests_151 (by decide) (fun h => absurd (c_111) h) (fun _ => ?_)
                refine lv_iload hx hb dX12_rests_154 (lv_at hl 3 rfl) ?_
                refine lv_goto (tgt := 160) hx hb dX12_rests_156 (by decide) ?_
                exact ziret hx hb hr (rfl) hlocks () (congrArg (fun z => some (Value.int z)) (zrv_some (by rw [zrs, if_neg c_2, if_neg c_5, if_pos (zsge (r := p1) (w := p2) c_7), zrq0, if_pos (show zat0 p2 = 0 from if_neg c_16), zrq1, if_pos (show zat1 p1 p2 = 0 from if_pos c_101), zrq3, if_pos (show zat3 p1 p2 = 0 from if_pos c_109), zrq4, if_pos c_111]))) (trivial) hw [0] rfl (by rw [show zth p1 p2 p3 = 0 from zth_some (v := 0) (by rw [zrs, if_neg c_2, if_neg c_5, if_pos (zsge (r := p1) (w := p2) c_7), zrq0, if_pos (show zat0 p2 = 0 from if_neg c_16), zrq1, if_pos (show zat1 p1 p2 = 0 from if_pos c_101), zrq3, if_pos (show zat3 p1 p2 = 0 from if_pos c_109), zrq4, if_pos c_111])]; rfl) hS (Nat.le_of_ble_eq_true rfl) (Nat.le_of_ble_eq_true rfl) dX12_rests_160
            · refine lv_iload_n hx hb dX12_rests_91 rfl (lv_at hl 5 rfl) ?_
              refine lv_iload_n hx hb dX12_rests_92 rfl (lv_at hl 6 rfl) ?_
              refine lv_iload hx hb dX12_rests_93 (lv_at hl 1 rfl) ?_
              refine lv_iconst (v := 1) hx hb dX12_rests_95 (by decide) ?_
              refine lv_iload hx hb dX12_rests_96 (lv_at hl 0 rfl) ?_
              refine lv_isub hx hb dX12_rests_98 ?_
              refine ztop (.int 0) (congrArg Value.int (by decide)) ?_
              refine scall0 (As := [.int p1, .int p2, .int 1, .int 0]) (rest := []) ⟨hx, hb, hml, hown, hts⟩ (c_mt10 l D ct p1 p2) (va_cwS 4 hts gX12_rests_X12_travellerGets rfl rfl rfl (by decide +kernel) ⟨Nat.le_of_ble_eq_true rfl, Nat.le_of_ble_eq_true rfl⟩) hw hS hA hK hN rfl rfl hl.1 rfl (Nat.le_of_ble_eq_true rfl) dX12_rests_99 (fun _ H locs hp114 hw hS => ?_)
              have hw : zPD D A [(h0, .inr (11, [.int 0, .int w_taped, .ref (y 0), .int w_size, .int w_place, .int w_begin, .int w_token, .long w_word, .int w_told, .int w_wrong, .ref (y 1), .ref (y 2), .ref (y 3), .ref (y 4), .ref (y 5), .ref (y 6), .ref (y 7), .ref (y 8), .ref (y 9), .ref (y 10), .ref (y 11), .ref (y 12), .int w_code, .int w_toldLines, .ref (y 13), .ref (y 14), .ref (y 15), .ref (y 16), .ref (y 17), .ref (y 18), .ref (y 19), .ref (y 20), .ref (y 21), .ref (y 22), .ref (y 23), .ref (y 24), .int w_given, .long w_fresh, .ref (y 25), .ref (y 26), .ref (y 27), .ref (y 28), .ref (y 29), .ref (y 30), .ref (y 31), .ref (y 32), .ref (y 33), .ref (y 34), .ref (y 35), .ref (y 36), .ref (y 37), .int w_done, .int w_moreAsked, .ref (y 38), .long w_g, .int w_gone, .int w_stopped]))] H := hw
              refine zfr 102 [.int 0] rfl rfl ?_
              refine lv_iload_n hx hb dX12_rests_102 rfl (lv_at hl 5 rfl) ?_
              refine lv_iload_n hx hb dX12_rests_103 rfl (lv_at hl 6 rfl) ?_
              refine lv_iload hx hb dX12_rests_104 (lv_at hl 1 rfl) ?_
              refine lv_iload hx hb dX12_rests_106 (lv_at hl 0 rfl) ?_
              refine scall0 (As := [.int p1, .int p2, .int 1, .int 1]) (rest := [.int 0]) ⟨hx, hb, hml, hown, hts⟩ (c_mt11 l D ct p1 p2) (va_cwS 4 hts gX12_rests_X12_travellerGets rfl rfl rfl (by decide +kernel) ⟨Nat.le_of_ble_eq_true rfl, Nat.le_of_ble_eq_true rfl⟩) hw hS hA hK hN rfl rfl hl.1 rfl (Nat.le_of_ble_eq_true rfl) dX12_rests_108 (fun _ H locs hp115 hw hS => ?_)
              have hw : zPD D A [(h0, .inr (11, [.int 0, .int w_taped, .ref (y 0), .int w_size, .int w_place, .int w_begin, .int w_token, .long w_word, .int w_told, .int w_wrong, .ref (y 1), .ref (y 2), .ref (y 3), .ref (y 4), .ref (y 5), .ref (y 6), .ref (y 7), .ref (y 8), .ref (y 9), .ref (y 10), .ref (y 11), .ref (y 12), .int w_code, .int w_toldLines, .ref (y 13), .ref (y 14), .ref (y 15), .ref (y 16), .ref (y 17), .ref (y 18), .ref (y 19), .ref (y 20), .ref (y 21), .ref (y 22), .ref (y 23), .ref (y 24), .int w_given, .long w_fresh, .ref (y 25), .ref (y 26), .ref (y 27), .ref (y 28), .ref (y 29), .ref (y 30), .ref (y 31), .ref (y 32), .ref (y 33), .ref (y 34), .ref (y 35), .ref (y 36), .ref (y 37), .int w_done, .int w_moreAsked, .ref (y 38), .long w_g, .int w_gone, .int w_stopped]))] H := hw
              refine zfr 111 [.int (-p1), .int 0] rfl rfl ?_
              refine lv_icmp_le (tgt := 117) hx hb dX12_rests_111 (by decide) (fun c_116 => ?_) (fun c_116 => ?_)
              · refine lv_iload hx hb dX12_rests_117 (lv_at hl 3 rfl) ?_
                refine lv_iload_n hx hb dX12_rests_119 rfl (lv_at hl 7 rfl) ?_
                refine lv_icmp_ne (tgt := 126) hx hb dX12_rests_120 (by decide) (fun c_117 => ?_) (fun c_117 => ?_)
                · refine lv_iinc (v := 1) (lv' := [(4, .int 1), (7, .int 1), (6, .int 1), (5, .int 3), (0, .ref h0), (1, .int p1), (2, .int p2), (3, .int p3)]) hx hb dX12_rests_126 hl (k := 3) rfl (by decide) (by decide) rfl (fun ls hl => ?_)
                  refine lv_iinc (v := 4) (lv' := [(5, .int 4), (4, .int 1), (7, .int 1), (6, .int 1), (0, .ref h0), (1, .int p1), (2, .int p2), (3, .int p3)]) hx hb dX12_rests_129 hl (k := 3) rfl (by decide) (by decide) rfl (fun ls hl => ?_)
                  refine lv_goto (tgt := 50) hx hb dX12_rests_132 (by decide) ?_
                  refine lv_iload hx hb dX12_rests_50 (lv_at hl 0 rfl) ?_
                  refine lv_iconst (v := 4) hx hb dX12_rests_52 (by decide) ?_
                  refine lv_icmp_ge (tgt := 135) hx hb dX12_rests_53 (by decide) (fun _ => ?_) (fun h => absurd (by decide) h)
                  refine lv_aload_n hx hb dX12_rests_135 rfl (lv_at hl 4 rfl) ?_
                  refine lv_iload_n hx hb dX12_rests_136 rfl (lv_at hl 7 rfl) ?_
                  refine lv_iconst (v := (-1)) hx hb dX12_rests_137 (by decide) ?_
                  refine lv_icmp_ne (tgt := 145) hx hb dX12_rests_138 (by decide) (fun c_119 => ?_) (fun c_119 => ?_)
                  · refine lv_iconst (v := 1) hx hb dX12_rests_145 (by decide) ?_
                    refine zput (D := D) (ci := 11) (v := .int 1) (ty := .int) hx hb hts hiX12 tyX12 tyX12_ok nmX12 hown hK hw hS 0 rfl rfl 0 (by decide) (hts (.fieldLink RX12 129 "BeardPassModel" "thrown" "I") (by decide +kernel)) (fun _ h9 => h9) rfl (by decide +kernel) rfl rfl (Nat.le_of_ble_eq_true rfl) dX12_rests_146 [(h0, .inr (11, [.int 1, .int w_taped, .ref (y 0), .int w_size, .int w_place, .int w_begin, .int w_token, .long w_word, .int w_told, .int w_wrong, .ref (y 1), .ref (y 2), .ref (y 3), .ref (y 4), .ref (y 5), .ref (y 6), .ref (y 7), .ref (y 8), .ref (y 9), .ref (y 10), .ref (y 11), .ref (y 12), .int w_code, .int w_toldLines, .ref (y 13), .ref (y 14), .ref (y 15), .ref (y 16), .ref (y 17), .ref (y 18), .ref (y 19), .ref (y 20), .ref (y 21), .ref (y 22), .ref (y 23), .ref (y 24), .int w_given, .long w_fresh, .ref (y 25), .ref (y 26), .ref (y 27), .ref (y 28), .ref (y 29), .ref (y 30), .ref (y 31), .ref (y 32), .ref (y 33), .ref (y 34), .ref (y 35), .ref (y 36), .ref (y 37), .int w_done, .int w_moreAsked, .ref (y 38), .long w_g, .int w_gone, .int w_stopped]))] rfl (fun H locs hw hS => ?_)
                    refine lv_iload_n hx hb dX12_rests_149 rfl (lv_at hl 7 rfl) ?_
                    refine lv_iconst (v := (-1)) hx hb dX12_rests_150 (by decide) ?_
                    refine lv_icmp_ne (tgt := 159) hx hb dX12_rests_151 (by decide) (fun _ => ?_) (fun h => absurd h (c_119))
                    refine lv_iconst (v := 0) hx hb dX12_rests_159 (by decide) ?_
                    exact ziret hx hb hr (rfl) hlocks () (congrArg (fun z => some (Value.int z)) (zrv_none (by rw [zrs, if_neg c_2, if_neg c_5, if_pos (zsge (r := p1) (w := p2) c_7), zrq0, if_pos (show zat0 p2 = 0 from if_neg c_16), zrq1, if_pos (show zat1 p1 p2 = 0 from if_pos c_101), zrq3, if_neg (show ¬ zat3 p1 p2 = 0 by rw [zat3, if_neg c_109, if_pos c_116]; decide), if_neg c_117, zrq4, if_neg c_119]))) (trivial) hw [0] rfl (by rw [show zth p1 p2 p3 = 1 from zth_none (by rw [zrs, if_neg c_2, if_neg c_5, if_pos (zsge (r := p1) (w := p2) c_7), zrq0, if_pos (show zat0 p2 = 0 from if_neg c_16), zrq1, if_pos (show zat1 p1 p2 = 0 from if_pos c_101), zrq3, if_neg (show ¬ zat3 p1 p2 = 0 by rw [zat3, if_neg c_109, if_pos c_116]; decide), if_neg c_117, zrq4, if_neg c_119])]; rfl) hS (Nat.le_of_ble_eq_true rfl) (Nat.le_of_ble_eq_true rfl) dX12_rests_160
                  · refine lv_iconst (v := 0) hx hb dX12_rests_141 (by decide) ?_
                    refine lv_goto (tgt := 146) hx hb dX12_rests_142 (by decide) ?_
                    refine zput (D := D) (ci := 11) (v := .int 0) (ty := .int) hx hb hts hiX12 tyX12 tyX12_ok nmX12 hown hK hw hS 0 rfl rfl 0 (by decide) (hts (.fieldLink RX12 129 "BeardPassModel" "thrown" "I") (by decide +kernel)) (fun _ h9 => h9) rfl (by decide +kernel) rfl rfl (Nat.le_of_ble_eq_true rfl) dX12_rests_146 [(h0, .inr (11, [.int 0, .int w_taped, .ref (y 0), .int w_size, .int w_place, .int w_begin, .int w_token, .long w_word, .int w_told, .int w_wrong, .ref (y 1), .ref (y 2), .ref (y 3), .ref (y 4), .ref (y 5), .ref (y 6), .ref (y 7), .ref (y 8), .ref (y 9), .ref (y 10), .ref (y 11), .ref (y 12), .int w_code, .int w_toldLines, .ref (y 13), .ref (y 14), .ref (y 15), .ref (y 16), .ref (y 17), .ref (y 18), .ref (y 19), .ref (y 20), .ref (y 21), .ref (y 22), .ref (y 23), .ref (y 24), .int w_given, .long w_fresh, .ref (y 25), .ref (y 26), .ref (y 27), .ref (y 28), .ref (y 29), .ref (y 30), .ref (y 31), .ref (y 32), .ref (y 33), .ref (y 34), .ref (y 35), .ref (y 36), .ref (y 37), .int w_done, .int w_moreAsked, .ref (y 38), .long w_g, .int w_gone, .int w_stopped]))] rfl (fun H locs hw hS => ?_)
                    refine lv_iload_n hx hb dX12_rests_149 rfl (lv_at hl 7 rfl) ?_
                    refine lv_iconst (v := (-1)) hx hb dX12_rests_150 (by decide) ?_
                    refine lv_icmp_ne (tgt := 159) hx hb dX12_rests_151 (by decide) (fun h => absurd (c_119) h) (fun _ => ?_)
                    refine lv_iload hx hb dX12_rests_154 (lv_at hl 1 rfl) ?_
                    refine lv_goto (tgt := 160) hx hb dX12_rests_156 (by decide) ?_
                    exact ziret hx hb hr (rfl) hlocks () (congrArg (fun z => some (Value.int z)) (zrv_some (by rw [zrs, if_neg c_2, if_neg c_5, if_pos (zsge (r := p1) (w := p2) c_7), zrq0, if_pos (show zat0 p2 = 0 from if_neg c_16), zrq1, if_pos (show zat1 p1 p2 = 0 from if_pos c_101), zrq3, if_neg (show ¬ zat3 p1 p2 = 0 by rw [zat3, if_neg c_109, if_pos c_116]; decide), if_neg c_117, zrq4, if_pos c_119]))) (trivial) hw [0] rfl (by rw [show zth p1 p2 p3 = 0 from zth_some (v := 1) (by rw [zrs, if_neg c_2, if_neg c_5, if_pos (zsge (r := p1) (w := p2) c_7), zrq0, if_pos (show zat0 p2 = 0 from if_neg c_16), zrq1, if_pos (show zat1 p1 p2 = 0 from if_pos c_101), zrq3, if_neg (show ¬ zat3 p1 p2 = 0 by rw [zat3, if_neg c_109, if_pos c_116]; decide), if_neg c_117, zrq4, if_pos c_119])]; rfl) hS (Nat.le_of_ble_eq_true rfl) (Nat.le_of_ble_eq_true rfl) dX12_rests_160
                · refine lv_iload hx hb dX12_rests_123 (lv_at hl 2 rfl) ?_
                  exact ziret hx hb hr (rfl) hlocks () (congrArg (fun z => some (Value.int z)) (zrv_some (by rw [zrs, if_neg c_2, if_neg c_5, if_pos (zsge (r := p1) (w := p2) c_7), zrq0, if_pos (show zat0 p2 = 0 from if_neg c_16), zrq1, if_pos (show zat1 p1 p2 = 0 from if_pos c_101), zrq3, if_neg (show ¬ zat3 p1 p2 = 0 by rw [zat3, if_neg c_109, if_pos c_116]; decide), if_pos c_117]))) (trivial) hw [0] rfl (by rw [show zth p1 p2 p3 = 0 from zth_some (v := 3) (by rw [zrs, if_neg c_2, if_neg c_5, if_pos (zsge (r := p1) (w := p2) c_7), zrq0, if_pos (show zat0 p2 = 0 from if_neg c_16), zrq1, if_pos (show zat1 p1 p2 = 0 from if_pos c_101), zrq3, if_neg (show ¬ zat3 p1 p2 = 0 by rw [zat3, if_neg c_109, if_pos c_116]; decide), if_pos c_117])]; rfl) hS (Nat.le_of_ble_eq_true rfl) (Nat.le_of_ble_eq_true rfl) dX12_rests_125
              · refine lv_goto (tgt := 129) hx hb dX12_rests_114 (by decide) ?_
                refine lv_iinc (v := 4) (lv' := [(5, .int 4), (7, .int 1), (6, .int 1), (4, .int 0), (0, .ref h0), (1, .int p1), (2, .int p2), (3, .int p3)]) hx hb dX12_rests_129 hl (k := 2) rfl (by decide) (by decide) rfl (fun ls hl => ?_)
                refine lv_goto (tgt := 50) hx hb dX12_rests_132 (by decide) ?_
                refine lv_iload hx hb dX12_rests_50 (lv_at hl 0 rfl) ?_
                refine lv_iconst (v := 4) hx hb dX12_rests_52 (by decide) ?_
                refine lv_icmp_ge (tgt := 135) hx hb dX12_rests_53 (by decide) (fun _ => ?_) (fun h => absurd (by decide) h)
                refine lv_aload_n hx hb dX12_rests_135 rfl (lv_at hl 4 rfl) ?_
                refine lv_iload_n hx hb dX12_rests_136 rfl (lv_at hl 7 rfl) ?_
                refine lv_iconst (v := (-1)) hx hb dX12_rests_137 (by decide) ?_
                refine lv_icmp_ne (tgt := 145) hx hb dX12_rests_138 (by decide) (fun c_123 => ?_) (fun c_123 => ?_)
                · refine lv_iconst (v := 1) hx hb dX12_rests_145 (by decide) ?_
                  refine zput (D := D) (ci := 11) (v := .int 1) (ty := .int) hx hb hts hiX12 tyX12 tyX12_ok nmX12 hown hK hw hS 0 rfl rfl 0 (by decide) (hts (.fieldLink RX12 129 "BeardPassModel" "thrown" "I") (by decide +kernel)) (fun _ h9 => h9) rfl (by decide +kernel) rfl rfl (Nat.le_of_ble_eq_true rfl) dX12_rests_146 [(h0, .inr (11, [.int 1, .int w_taped, .ref (y 0), .int w_size, .int w_place, .int w_begin, .int w_token, .long w_word, .int w_told, .int w_wrong, .ref (y 1), .ref (y 2), .ref (y 3), .ref (y 4), .ref (y 5), .ref (y 6), .ref (y 7), .ref (y 8), .ref (y 9), .ref (y 10), .ref (y 11), .ref (y 12), .int w_code, .int w_toldLines, .ref (y 13), .ref (y 14), .ref (y 15), .ref (y 16), .ref (y 17), .ref (y 18), .ref (y 19), .ref (y 20), .ref (y 21), .ref (y 22), .ref (y 23), .ref (y 24), .int w_given, .long w_fresh, .ref (y 25), .ref (y 26), .ref (y 27), .ref (y 28), .ref (y 29), .ref (y 30), .ref (y 31), .ref (y 32), .ref (y 33), .ref (y 34), .ref (y 35), .ref (y 36), .ref (y 37), .int w_done, .int w_moreAsked, .ref (y 38), .long w_g, .int w_gone, .int w_stopped]))] rfl (fun H locs hw hS => ?_)
                  refine lv_iload_n hx hb dX12_rests_149 rfl (lv_at hl 7 rfl) ?_
                  refine lv_iconst (v := (-1)) hx hb dX12_rests_150 (by decide) ?_
                  refine lv_icmp_ne (tgt := 159) hx hb dX12_rests_151 (by decide) (fun _ => ?_) (fun h => absurd h (c_123))
                  refine lv_iconst (v := 0) hx hb dX12_rests_159 (by decide) ?_
                  exact ziret hx hb hr (rfl) hlocks () (congrArg (fun z => some (Value.int z)) (zrv_none (by rw [zrs, if_neg c_2, if_neg c_5, if_pos (zsge (r := p1) (w := p2) c_7), zrq0, if_pos (show zat0 p2 = 0 from if_neg c_16), zrq1, if_pos (show zat1 p1 p2 = 0 from if_pos c_101), zrq3, if_pos (show zat3 p1 p2 = 0 from (if_neg c_109).trans (if_neg c_116)), zrq4, if_neg c_123]))) (trivial) hw [0] rfl (by rw [show zth p1 p2 p3 = 1 from zth_none (by rw [zrs, if_neg c_2, if_neg c_5, if_pos (zsge (r := p1) (w := p2) c_7), zrq0, if_pos (show zat0 p2 = 0 from if_neg c_16), zrq1, if_pos (show zat1 p1 p2 = 0 from if_pos c_101), zrq3, if_pos (show zat3 p1 p2 = 0 from (if_neg c_109).trans (if_neg c_116)), zrq4, if_neg c_123])]; rfl) hS (Nat.le_of_ble_eq_true rfl) (Nat.le_of_ble_eq_true rfl) dX12_rests_160
                · refine lv_iconst (v := 0) hx hb dX12_rests_141 (by decide) ?_
                  refine lv_goto (tgt := 146) hx hb dX12_rests_142 (by decide) ?_
                  refine zput (D := D) (ci := 11) (v := .int 0) (ty := .int) hx hb hts hiX12 tyX12 tyX12_ok nmX12 hown hK hw hS 0 rfl rfl 0 (by decide) (hts (.fieldLink RX12 129 "BeardPassModel" "thrown" "I") (by decide +kernel)) (fun _ h9 => h9) rfl (by decide +kernel) rfl rfl (Nat.le_of_ble_eq_true rfl) dX12_rests_146 [(h0, .inr (11, [.int 0, .int w_taped, .ref (y 0), .int w_size, .int w_place, .int w_begin, .int w_token, .long w_word, .int w_told, .int w_wrong, .ref (y 1), .ref (y 2), .ref (y 3), .ref (y 4), .ref (y 5), .ref (y 6), .ref (y 7), .ref (y 8), .ref (y 9), .ref (y 10), .ref (y 11), .ref (y 12), .int w_code, .int w_toldLines, .ref (y 13), .ref (y 14), .ref (y 15), .ref (y 16), .ref (y 17), .ref (y 18), .ref (y 19), .ref (y 20), .ref (y 21), .ref (y 22), .ref (y 23), .ref (y 24), .int w_given, .long w_fresh, .ref (y 25), .ref (y 26), .ref (y 27), .ref (y 28), .ref (y 29), .ref (y 30), .ref (y 31), .ref (y 32), .ref (y 33), .ref (y 34), .ref (y 35), .ref (y 36), .ref (y 37), .int w_done, .int w_moreAsked, .ref (y 38), .long w_g, .int w_gone, .int w_stopped]))] rfl (fun H locs hw hS => ?_)
                  refine lv_iload_n hx hb dX12_rests_149 rfl (lv_at hl 7 rfl) ?_
                  refine lv_iconst (v := (-1)) hx hb dX12_rests_150 (by decide) ?_
                  refine lv_icmp_ne (tgt := 159) hx hb dX12_rests_151 (by decide) (fun h => absurd (c_123) h) (fun _ => ?_)
                  refine lv_iload hx hb dX12_rests_154 (lv_at hl 3 rfl) ?_
                  refine lv_goto (tgt := 160) hx hb dX12_rests_156 (by decide) ?_
                  exact ziret hx hb hr (rfl) hlocks () (congrArg (fun z => some (Value.int z)) (zrv_some (by rw [zrs, if_neg c_2, if_neg c_5, if_pos (zsge (r := p1) (w := p2) c_7), zrq0, if_pos (show zat0 p2 = 0 from if_neg c_16), zrq1, if_pos (show zat1 p1 p2 = 0 from if_pos c_101), zrq3, if_pos (show zat3 p1 p2 = 0 from (if_neg c_109).trans (if_neg c_116)), zrq4, if_pos c_123]))) (trivial) hw [0] rfl (by rw [show zth p1 p2 p3 = 0 from zth_some (v := 0) (by rw [zrs, if_neg c_2, if_neg c_5, if_pos (zsge (r := p1) (w := p2) c_7), zrq0, if_pos (show zat0 p2 = 0 from if_neg c_16), zrq1, if_pos (show zat1 p1 p2 = 0 from if_pos c_101), zrq3, if_pos (show zat3 p1 p2 = 0 from (if_neg c_109).trans (if_neg c_116)), zrq4, if_pos c_123])]; rfl) hS (Nat.le_of_ble_eq_true rfl) (Nat.le_of_ble_eq_true rfl) dX12_rests_160
          · refine lv_iload_n hx hb dX12_rests_91 rfl (lv_at hl 5 rfl) ?_
            refine lv_iload_n hx hb dX12_rests_92 rfl (lv_at hl 6 rfl) ?_
            refine lv_iload hx hb dX12_rests_93 (lv_at hl 1 rfl) ?_
            refine lv_iconst (v := 1) hx hb dX12_rests_95 (by decide) ?_
            refine lv_iload hx hb dX12_rests_96 (lv_at hl 0 rfl) ?_
            refine lv_isub hx hb dX12_rests_98 ?_
            refine ztop (.int 0) (congrArg Value.int (by decide)) ?_
            refine scall0 (As := [.int p1, .int p2, .int 0, .int 0]) (rest := []) ⟨hx, hb, hml, hown, hts⟩ (c_mt00 l D ct p1 p2) (va_cwS 4 hts gX12_rests_X12_travellerGets rfl rfl rfl (by decide +kernel) ⟨Nat.le_of_ble_eq_true rfl, Nat.le_of_ble_eq_true rfl⟩) hw hS hA hK hN rfl rfl hl.1 rfl (Nat.le_of_ble_eq_true rfl) dX12_rests_99 (fun _ H locs hp126 hw hS => ?_)
            have hw : zPD D A [(h0, .inr (11, [.int 0, .int w_taped, .ref (y 0), .int w_size, .int w_place, .int w_begin, .int w_token, .long w_word, .int w_told, .int w_wrong, .ref (y 1), .ref (y 2), .ref (y 3), .ref (y 4), .ref (y 5), .ref (y 6), .ref (y 7), .ref (y 8), .ref (y 9), .ref (y 10), .ref (y 11), .ref (y 12), .int w_code, .int w_toldLines, .ref (y 13), .ref (y 14), .ref (y 15), .ref (y 16), .ref (y 17), .ref (y 18), .ref (y 19), .ref (y 20), .ref (y 21), .ref (y 22), .ref (y 23), .ref (y 24), .int w_given, .long w_fresh, .ref (y 25), .ref (y 26), .ref (y 27), .ref (y 28), .ref (y 29), .ref (y 30), .ref (y 31), .ref (y 32), .ref (y 33), .ref (y 34), .ref (y 35), .ref (y 36), .ref (y 37), .int w_done, .int w_moreAsked, .ref (y 38), .long w_g, .int w_gone, .int w_stopped]))] H := hw
            refine zfr 102 [.int 0] rfl rfl ?_
            refine lv_iload_n hx hb dX12_rests_102 rfl (lv_at hl 5 rfl) ?_
            refine lv_iload_n hx hb dX12_rests_103 rfl (lv_at hl 6 rfl) ?_
            refine lv_iload hx hb dX12_rests_104 (lv_at hl 1 rfl) ?_
            refine lv_iload hx hb dX12_rests_106 (lv_at hl 0 rfl) ?_
            refine scall0 (As := [.int p1, .int p2, .int 0, .int 1]) (rest := [.int 0]) ⟨hx, hb, hml, hown, hts⟩ (c_mt01 l D ct p1 p2) (va_cwS 4 hts gX12_rests_X12_travellerGets rfl rfl rfl (by decide +kernel) ⟨Nat.le_of_ble_eq_true rfl, Nat.le_of_ble_eq_true rfl⟩) hw hS hA hK hN rfl rfl hl.1 rfl (Nat.le_of_ble_eq_true rfl) dX12_rests_108 (fun _ H locs hp127 hw hS => ?_)
            have hw : zPD D A [(h0, .inr (11, [.int 0, .int w_taped, .ref (y 0), .int w_size, .int w_place, .int w_begin, .int w_token, .long w_word, .int w_told, .int w_wrong, .ref (y 1), .ref (y 2), .ref (y 3), .ref (y 4), .ref (y 5), .ref (y 6), .ref (y 7), .ref (y 8), .ref (y 9), .ref (y 10), .ref (y 11), .ref (y 12), .int w_code, .int w_toldLines, .ref (y 13), .ref (y 14), .ref (y 15), .ref (y 16), .ref (y 17), .ref (y 18), .ref (y 19), .ref (y 20), .ref (y 21), .ref (y 22), .ref (y 23), .ref (y 24), .int w_given, .long w_fresh, .ref (y 25), .ref (y 26), .ref (y 27), .ref (y 28), .ref (y 29), .ref (y 30), .ref (y 31), .ref (y 32), .ref (y 33), .ref (y 34), .ref (y 35), .ref (y 36), .ref (y 37), .int w_done, .int w_moreAsked, .ref (y 38), .long w_g, .int w_gone, .int w_stopped]))] H := hw
            refine zfr 111 [.int p2, .int 0] rfl rfl ?_
            refine lv_icmp_le (tgt := 117) hx hb dX12_rests_111 (by decide) (fun c_128 => ?_) (fun c_128 => ?_)
            · refine lv_iload hx hb dX12_rests_117 (lv_at hl 3 rfl) ?_
              refine lv_iload_n hx hb dX12_rests_119 rfl (lv_at hl 7 rfl) ?_
              refine lv_icmp_ne (tgt := 126) hx hb dX12_rests_120 (by decide) (fun c_129 => ?_) (fun c_129 => ?_)
              · refine lv_iinc (v := 1) (lv' := [(4, .int 1), (7, .int 1), (6, .int 0), (5, .int 1), (0, .ref h0), (1, .int p1), (2, .int p2), (3, .int p3)]) hx hb dX12_rests_126 hl (k := 3) rfl (by decide) (by decide) rfl (fun ls hl => ?_)
                refine lv_iinc (v := 2) (lv' := [(5, .int 2), (4, .int 1), (7, .int 1), (6, .int 0), (0, .ref h0), (1, .int p1), (2, .int p2), (3, .int p3)]) hx hb dX12_rests_129 hl (k := 3) rfl (by decide) (by decide) rfl (fun ls hl => ?_)
                refine lv_goto (tgt := 50) hx hb dX12_rests_132 (by decide) ?_
                refine lv_iload hx hb dX12_rests_50 (lv_at hl 0 rfl) ?_
                refine lv_iconst (v := 4) hx hb dX12_rests_52 (by decide) ?_
                refine lv_icmp_ge (tgt := 135) hx hb dX12_rests_53 (by decide) (fun h => absurd h (by decide)) (fun _ => ?_)
                refine lv_iload hx hb dX12_rests_56 (lv_at hl 0 rfl) ?_
                refine lv_iconst (v := 2) hx hb dX12_rests_58 (by decide) ?_
                refine lv_idiv hx hb dX12_rests_59 (by decide) ?_
                refine ztop (.int 1) (congrArg Value.int (by decide)) ?_
                refine lv_istore (lv' := [(6, .int 1), (5, .int 2), (4, .int 1), (7, .int 1), (0, .ref h0), (1, .int p1), (2, .int p2), (3, .int p3)]) hx hb dX12_rests_60 hl (by decide) rfl (fun ls hl => ?_)
                refine lv_iload hx hb dX12_rests_62 (lv_at hl 1 rfl) ?_
                refine lv_iconst (v := 2) hx hb dX12_rests_64 (by decide) ?_
                refine lv_irem hx hb dX12_rests_65 (by decide) ?_
                refine ztop (.int 0) (congrArg Value.int (by decide)) ?_
                refine lv_istore (lv' := [(7, .int 0), (6, .int 1), (5, .int 2), (4, .int 1), (0, .ref h0), (1, .int p1), (2, .int p2), (3, .int p3)]) hx hb dX12_rests_66 hl (by decide) rfl (fun ls hl => ?_)
                refine lv_iload_n hx hb dX12_rests_68 rfl (lv_at hl 5 rfl) ?_
                refine lv_iload_n hx hb dX12_rests_69 rfl (lv_at hl 6 rfl) ?_
                refine lv_iconst (v := 1) hx hb dX12_rests_70 (by decide) ?_
                refine lv_iload hx hb dX12_rests_71 (lv_at hl 1 rfl) ?_
                refine lv_isub hx hb dX12_rests_73 ?_
                refine ztop (.int 0) (congrArg Value.int (by decide)) ?_
                refine lv_iload hx hb dX12_rests_74 (lv_at hl 0 rfl) ?_
                refine scall0 (As := [.int p1, .int p2, .int 0, .int 0]) (rest := []) ⟨hx, hb, hml, hown, hts⟩ (c_mg00 l D ct p1 p2) (va_cwS 4 hts gX12_rests_X12_guardGets rfl rfl rfl (by decide +kernel) ⟨Nat.le_of_ble_eq_true rfl, Nat.le_of_ble_eq_true rfl⟩) hw hS hA hK hN rfl rfl hl.1 rfl (Nat.le_of_ble_eq_true rfl) dX12_rests_76 (fun _ H locs hp131 hw hS => ?_)
                have hw : zPD D A [(h0, .inr (11, [.int 0, .int w_taped, .ref (y 0), .int w_size, .int w_place, .int w_begin, .int w_token, .long w_word, .int w_told, .int w_wrong, .ref (y 1), .ref (y 2), .ref (y 3), .ref (y 4), .ref (y 5), .ref (y 6), .ref (y 7), .ref (y 8), .ref (y 9), .ref (y 10), .ref (y 11), .ref (y 12), .int w_code, .int w_toldLines, .ref (y 13), .ref (y 14), .ref (y 15), .ref (y 16), .ref (y 17), .ref (y 18), .ref (y 19), .ref (y 20), .ref (y 21), .ref (y 22), .ref (y 23), .ref (y 24), .int w_given, .long w_fresh, .ref (y 25), .ref (y 26), .ref (y 27), .ref (y 28), .ref (y 29), .ref (y 30), .ref (y 31), .ref (y 32), .ref (y 33), .ref (y 34), .ref (y 35), .ref (y 36), .ref (y 37), .int w_done, .int w_moreAsked, .ref (y 38), .long w_g, .int w_gone, .int w_stopped]))] H := hw
                refine zfr 79 [.int 0] rfl rfl ?_
                refine lv_iload_n hx hb dX12_rests_79 rfl (lv_at hl 5 rfl) ?_
                refine lv_iload_n hx hb dX12_rests_80 rfl (lv_at hl 6 rfl) ?_
                refine lv_iload hx hb dX12_rests_81 (lv_at hl 1 rfl) ?_
                refine lv_iload hx hb dX12_rests_83 (lv_at hl 0 rfl) ?_
                refine scall0 (As := [.int p1, .int p2, .int 1, .int 0]) (rest := [.int 0]) ⟨hx, hb, hml, hown, hts⟩ (c_mg10 l D ct p1 p2) (va_cwS 4 hts gX12_rests_X12_guardGets rfl rfl rfl (by decide +kernel) ⟨Nat.le_of_ble_eq_true rfl, Nat.le_of_ble_eq_true rfl⟩) hw hS hA hK hN rfl rfl hl.1 rfl (Nat.le_of_ble_eq_true rfl) dX12_rests_85 (fun _ H locs hp132 hw hS => ?_)
                have hw : zPD D A [(h0, .inr (11, [.int 0, .int w_taped, .ref (y 0), .int w_size, .int w_place, .int w_begin, .int w_token, .long w_word, .int w_told, .int w_wrong, .ref (y 1), .ref (y 2), .ref (y 3), .ref (y 4), .ref (y 5), .ref (y 6), .ref (y 7), .ref (y 8), .ref (y 9), .ref (y 10), .ref (y 11), .ref (y 12), .int w_code, .int w_toldLines, .ref (y 13), .ref (y 14), .ref (y 15), .ref (y 16), .ref (y 17), .ref (y 18), .ref (y 19), .ref (y 20), .ref (y 21), .ref (y 22), .ref (y 23), .ref (y 24), .int w_given, .long w_fresh, .ref (y 25), .ref (y 26), .ref (y 27), .ref (y 28), .ref (y 29), .ref (y 30), .ref (y 31), .ref (y 32), .ref (y 33), .ref (y 34), .ref (y 35), .ref (y 36), .ref (y 37), .int w_done, .int w_moreAsked, .ref (y 38), .long w_g, .int w_gone, .int w_stopped]))] H := hw
                refine zfr 88 [.int (-1), .int 0] rfl rfl ?_
                refine lv_icmp_gt (tgt := 129) hx hb dX12_rests_88 (by decide) (fun _ => ?_) (fun h => absurd (by decide) h)
                refine lv_iinc (v := 3) (lv' := [(5, .int 3), (7, .int 0), (6, .int 1), (4, .int 1), (0, .ref h0), (1, .int p1), (2, .int p2), (3, .int p3)]) hx hb dX12_rests_129 hl (k := 2) rfl (by decide) (by decide) rfl (fun ls hl => ?_)
                refine lv_goto (tgt := 50) hx hb dX12_rests_132 (by decide) ?_
                refine lv_iload hx hb dX12_rests_50 (lv_at hl 0 rfl) ?_
                refine lv_iconst (v := 4) hx hb dX12_rests_52 (by decide) ?_
                refine lv_icmp_ge (tgt := 135) hx hb dX12_rests_53 (by decide) (fun h => absurd h (by decide)) (fun _ => ?_)
                refine lv_iload hx hb dX12_rests_56 (lv_at hl 0 rfl) ?_
                refine lv_iconst (v := 2) hx hb dX12_rests_58 (by decide) ?_
                refine lv_idiv hx hb dX12_rests_59 (by decide) ?_
                refine ztop (.int 1) (congrArg Value.int (by decide)) ?_
                refine lv_istore (lv' := [(6, .int 1), (5, .int 3), (7, .int 0), (4, .int 1), (0, .ref h0), (1, .int p1), (2, .int p2), (3, .int p3)]) hx hb dX12_rests_60 hl (by decide) rfl (fun ls hl => ?_)
                refine lv_iload hx hb dX12_rests_62 (lv_at hl 1 rfl) ?_
                refine lv_iconst (v := 2) hx hb dX12_rests_64 (by decide) ?_
                refine lv_irem hx hb dX12_rests_65 (by decide) ?_
                refine ztop (.int 1) (congrArg Value.int (by decide)) ?_
                refine lv_istore (lv' := [(7, .int 1), (6, .int 1), (5, .int 3), (4, .int 1), (0, .ref h0), (1, .int p1), (2, .int p2), (3, .int p3)]) hx hb dX12_rests_66 hl (by decide) rfl (fun ls hl => ?_)
                refine lv_iload_n hx hb dX12_rests_68 rfl (lv_at hl 5 rfl) ?_
                refine lv_iload_n hx hb dX12_rests_69 rfl (lv_at hl 6 rfl) ?_
                refine lv_iconst (v := 1) hx hb dX12_rests_70 (by decide) ?_
                refine lv_iload hx hb dX12_rests_71 (lv_at hl 1 rfl) ?_
                refine lv_isub hx hb dX12_rests_73 ?_
                refine ztop (.int 0) (congrArg Value.int (by decide)) ?_
                refine lv_iload hx hb dX12_rests_74 (lv_at hl 0 rfl) ?_
                refine scall0 (As := [.int p1, .int p2, .int 0, .int 1]) (rest := []) ⟨hx, hb, hml, hown, hts⟩ (c_mg01 l D ct p1 p2) (va_cwS 4 hts gX12_rests_X12_guardGets rfl rfl rfl (by decide +kernel) ⟨Nat.le_of_ble_eq_true rfl, Nat.le_of_ble_eq_true rfl⟩) hw hS hA hK hN rfl rfl hl.1 rfl (Nat.le_of_ble_eq_true rfl) dX12_rests_76 (fun _ H locs hp135 hw hS => ?_)
                have hw : zPD D A [(h0, .inr (11, [.int 0, .int w_taped, .ref (y 0), .int w_size, .int w_place, .int w_begin, .int w_token, .long w_word, .int w_told, .int w_wrong, .ref (y 1), .ref (y 2), .ref (y 3), .ref (y 4), .ref (y 5), .ref (y 6), .ref (y 7), .ref (y 8), .ref (y 9), .ref (y 10), .ref (y 11), .ref (y 12), .int w_code, .int w_toldLines, .ref (y 13), .ref (y 14), .ref (y 15), .ref (y 16), .ref (y 17), .ref (y 18), .ref (y 19), .ref (y 20), .ref (y 21), .ref (y 22), .ref (y 23), .ref (y 24), .int w_given, .long w_fresh, .ref (y 25), .ref (y 26), .ref (y 27), .ref (y 28), .ref (y 29), .ref (y 30), .ref (y 31), .ref (y 32), .ref (y 33), .ref (y 34), .ref (y 35), .ref (y 36), .ref (y 37), .int w_done, .int w_moreAsked, .ref (y 38), .long w_g, .int w_gone, .int w_stopped]))] H := hw
                refine zfr 79 [.int (-p2)] rfl rfl ?_
                refine lv_iload_n hx hb dX12_rests_79 rfl (lv_at hl 5 rfl) ?_
                refine lv_iload_n hx hb dX12_rests_80 rfl (lv_at hl 6 rfl) ?_
                refine lv_iload hx hb dX12_rests_81 (lv_at hl 1 rfl) ?_
                refine lv_iload hx hb dX12_rests_83 (lv_at hl 0 rfl) ?_
                refine scall0 (As := [.int p1, .int p2, .int 1, .int 1]) (rest := [.int (-p2)]) ⟨hx, hb, hml, hown, hts⟩ (c_mg11 l D ct p1 p2) (va_cwS 4 hts gX12_rests_X12_guardGets rfl rfl rfl (by decide +kernel) ⟨Nat.le_of_ble_eq_true rfl, Nat.le_of_ble_eq_true rfl⟩) hw hS hA hK hN rfl rfl hl.1 rfl (Nat.le_of_ble_eq_true rfl) dX12_rests_85 (fun _ H locs hp136 hw hS => ?_)
                have hw : zPD D A [(h0, .inr (11, [.int 0, .int w_taped, .ref (y 0), .int w_size, .int w_place, .int w_begin, .int w_token, .long w_word, .int w_told, .int w_wrong, .ref (y 1), .ref (y 2), .ref (y 3), .ref (y 4), .ref (y 5), .ref (y 6), .ref (y 7), .ref (y 8), .ref (y 9), .ref (y 10), .ref (y 11), .ref (y 12), .int w_code, .int w_toldLines, .ref (y 13), .ref (y 14), .ref (y 15), .ref (y 16), .ref (y 17), .ref (y 18), .ref (y 19), .ref (y 20), .ref (y 21), .ref (y 22), .ref (y 23), .ref (y 24), .int w_given, .long w_fresh, .ref (y 25), .ref (y 26), .ref (y 27), .ref (y 28), .ref (y 29), .ref (y 30), .ref (y 31), .ref (y 32), .ref (y 33), .ref (y 34), .ref (y 35), .ref (y 36), .ref (y 37), .int w_done, .int w_moreAsked, .ref (y 38), .long w_g, .int w_gone, .int w_stopped]))] H := hw
                refine zfr 88 [.int p1, .int (-p2)] rfl rfl ?_
                refine lv_icmp_gt (tgt := 129) hx hb dX12_rests_88 (by decide) (fun c_137 => ?_) (fun c_137 => ?_)
                · refine lv_iinc (v := 4) (lv' := [(5, .int 4), (7, .int 1), (6, .int 1), (4, .int 1), (0, .ref h0), (1, .int p1), (2, .int p2), (3, .int p3)]) hx hb dX12_rests_129 hl (k := 2) rfl (by decide) (by decide) rfl (fun ls hl => ?_)
                  refine lv_goto (tgt := 50) hx hb dX12_rests_132 (by decide) ?_
                  refine lv_iload hx hb dX12_rests_50 (lv_at hl 0 rfl) ?_
                  refine lv_iconst (v := 4) hx hb dX12_rests_52 (by decide) ?_
                  refine lv_icmp_ge (tgt := 135) hx hb dX12_rests_53 (by decide) (fun _ => ?_) (fun h => absurd (by decide) h)
                  refine lv_aload_n hx hb dX12_rests_135 rfl (lv_at hl 4 rfl) ?_
                  refine lv_iload_n hx hb dX12_rests_136 rfl (lv_at hl 7 rfl) ?_
                  refine lv_iconst (v := (-1)) hx hb dX12_rests_137 (by decide) ?_
                  refine lv_icmp_ne (tgt := 145) hx hb dX12_rests_138 (by decide) (fun c_139 => ?_) (fun c_139 => ?_)
                  · refine lv_iconst (v := 1) hx hb dX12_rests_145 (by decide) ?_
                    refine zput (D := D) (ci := 11) (v := .int 1) (ty := .int) hx hb hts hiX12 tyX12 tyX12_ok nmX12 hown hK hw hS 0 rfl rfl 0 (by decide) (hts (.fieldLink RX12 129 "BeardPassModel" "thrown" "I") (by decide +kernel)) (fun _ h9 => h9) rfl (by decide +kernel) rfl rfl (Nat.le_of_ble_eq_true rfl) dX12_rests_146 [(h0, .inr (11, [.int 1, .int w_taped, .ref (y 0), .int w_size, .int w_place, .int w_begin, .int w_token, .long w_word, .int w_told, .int w_wrong, .ref (y 1), .ref (y 2), .ref (y 3), .ref (y 4), .ref (y 5), .ref (y 6), .ref (y 7), .ref (y 8), .ref (y 9), .ref (y 10), .ref (y 11), .ref (y 12), .int w_code, .int w_toldLines, .ref (y 13), .ref (y 14), .ref (y 15), .ref (y 16), .ref (y 17), .ref (y 18), .ref (y 19), .ref (y 20), .ref (y 21), .ref (y 22), .ref (y 23), .ref (y 24), .int w_given, .long w_fresh, .ref (y 25), .ref (y 26), .ref (y 27), .ref (y 28), .ref (y 29), .ref (y 30), .ref (y 31), .ref (y 32), .ref (y 33), .ref (y 34), .ref (y 35), .ref (y 36), .ref (y 37), .int w_done, .int w_moreAsked, .ref (y 38), .long w_g, .int w_gone, .int w_stopped]))] rfl (fun H locs hw hS => ?_)
                    refine lv_iload_n hx hb dX12_rests_149 rfl (lv_at hl 7 rfl) ?_
                    refine lv_iconst (v := (-1)) hx hb dX12_rests_150 (by decide) ?_
                    refine lv_icmp_ne (tgt := 159) hx hb dX12_rests_151 (by decide) (fun _ => ?_) (fun h => absurd h (c_139))
                    refine lv_iconst (v := 0) hx hb dX12_rests_159 (by decide) ?_
                    exact ziret hx hb hr (rfl) hlocks () (congrArg (fun z => some (Value.int z)) (zrv_none (by rw [zrs, if_neg c_2, if_neg c_5, if_pos (zsge (r := p1) (w := p2) c_7), zrq0, if_pos (show zat0 p2 = 0 from if_neg c_16), zrq1, if_neg (show ¬ zat1 p1 p2 = 0 by rw [zat1, if_neg c_101, if_pos c_128]; decide), if_neg c_129, zrq3, if_pos (show zat3 p1 p2 = 0 from if_pos c_137), zrq4, if_neg c_139]))) (trivial) hw [0] rfl (by rw [show zth p1 p2 p3 = 1 from zth_none (by rw [zrs, if_neg c_2, if_neg c_5, if_pos (zsge (r := p1) (w := p2) c_7), zrq0, if_pos (show zat0 p2 = 0 from if_neg c_16), zrq1, if_neg (show ¬ zat1 p1 p2 = 0 by rw [zat1, if_neg c_101, if_pos c_128]; decide), if_neg c_129, zrq3, if_pos (show zat3 p1 p2 = 0 from if_pos c_137), zrq4, if_neg c_139])]; rfl) hS (Nat.le_of_ble_eq_true rfl) (Nat.le_of_ble_eq_true rfl) dX12_rests_160
                  · refine lv_iconst (v := 0) hx hb dX12_rests_141 (by decide) ?_
                    refine lv_goto (tgt := 146) hx hb dX12_rests_142 (by decide) ?_
                    refine zput (D := D) (ci := 11) (v := .int 0) (ty := .int) hx hb hts hiX12 tyX12 tyX12_ok nmX12 hown hK hw hS 0 rfl rfl 0 (by decide) (hts (.fieldLink RX12 129 "BeardPassModel" "thrown" "I") (by decide +kernel)) (fun _ h9 => h9) rfl (by decide +kernel) rfl rfl (Nat.le_of_ble_eq_true rfl) dX12_rests_146 [(h0, .inr (11, [.int 0, .int w_taped, .ref (y 0), .int w_size, .int w_place, .int w_begin, .int w_token, .long w_word, .int w_told, .int w_wrong, .ref (y 1), .ref (y 2), .ref (y 3), .ref (y 4), .ref (y 5), .ref (y 6), .ref (y 7), .ref (y 8), .ref (y 9), .ref (y 10), .ref (y 11), .ref (y 12), .int w_code, .int w_toldLines, .ref (y 13), .ref (y 14), .ref (y 15), .ref (y 16), .ref (y 17), .ref (y 18), .ref (y 19), .ref (y 20), .ref (y 21), .ref (y 22), .ref (y 23), .ref (y 24), .int w_given, .long w_fresh, .ref (y 25), .ref (y 26), .ref (y 27), .ref (y 28), .ref (y 29), .ref (y 30), .ref (y 31), .ref (y 32), .ref (y 33), .ref (y 34), .ref (y 35), .ref (y 36), .ref (y 37), .int w_done, .int w_moreAsked, .ref (y 38), .long w_g, .int w_gone, .int w_stopped]))] rfl (fun H locs hw hS => ?_)
                    refine lv_iload_n hx hb dX12_rests_149 rfl (lv_at hl 7 rfl) ?_
                    refine lv_iconst (v := (-1)) hx hb dX12_rests_150 (by decide) ?_
                    refine lv_icmp_ne (tgt := 159) hx hb dX12_rests_151 (by decide) (fun h => absurd (c_139) h) (fun _ => ?_)
                    refine lv_iload hx hb dX12_rests_154 (lv_at hl 3 rfl) ?_
                    refine lv_goto (tgt := 160) hx hb dX12_rests_156 (by decide) ?_
                    exact ziret hx hb hr (rfl) hlocks () (congrArg (fun z => some (Value.int z)) (zrv_some (by rw [zrs, if_neg c_2, if_neg c_5, if_pos (zsge (r := p1) (w := p2) c_7), zrq0, if_pos (show zat0 p2 = 0 from if_neg c_16), zrq1, if_neg (show ¬ zat1 p1 p2 = 0 by rw [zat1, if_neg c_101, if_pos c_128]; decide), if_neg c_129, zrq3, if_pos (show zat3 p1 p2 = 0 from if_pos c_137), zrq4, if_pos c_139]))) (trivial) hw [0] rfl (by rw [show zth p1 p2 p3 = 0 from zth_some (v := 1) (by rw [zrs, if_neg c_2, if_neg c_5, if_pos (zsge (r := p1) (w := p2) c_7), zrq0, if_pos (show zat0 p2 = 0 from if_neg c_16), zrq1, if_neg (show ¬ zat1 p1 p2 = 0 by rw [zat1, if_neg c_101, if_pos c_128]; decide), if_neg c_129, zrq3, if_pos (show zat3 p1 p2 = 0 from if_pos c_137), zrq4, if_pos c_139])]; rfl) hS (Nat.le_of_ble_eq_true rfl) (Nat.le_of_ble_eq_true rfl) dX12_rests_160
                · refine lv_iload_n hx hb dX12_rests_91 rfl (lv_at hl 5 rfl) ?_
                  refine lv_iload_n hx hb dX12_rests_92 rfl (lv_at hl 6 rfl) ?_
                  refine lv_iload hx hb dX12_rests_93 (lv_at hl 1 rfl) ?_
                  refine lv_iconst (v := 1) hx hb dX12_rests_95 (by decide) ?_
                  refine lv_iload hx hb dX12_rests_96 (lv_at hl 0 rfl) ?_
                  refine lv_isub hx hb dX12_rests_98 ?_
                  refine ztop (.int 0) (congrArg Value.int (by decide)) ?_
                  refine scall0 (As := [.int p1, .int p2, .int 1, .int 0]) (rest := []) ⟨hx, hb, hml, hown, hts⟩ (c_mt10 l D ct p1 p2) (va_cwS 4 hts gX12_rests_X12_travellerGets rfl rfl rfl (by decide +kernel) ⟨Nat.le_of_ble_eq_true rfl, Nat.le_of_ble_eq_true rfl⟩) hw hS hA hK hN rfl rfl hl.1 rfl (Nat.le_of_ble_eq_true rfl) dX12_rests_99 (fun _ H locs hp142 hw hS => ?_)
                  have hw : zPD D A [(h0, .inr (11, [.int 0, .int w_taped, .ref (y 0), .int w_size, .int w_place, .int w_begin, .int w_token, .long w_word, .int w_told, .int w_wrong, .ref (y 1), .ref (y 2), .ref (y 3), .ref (y 4), .ref (y 5), .ref (y 6), .ref (y 7), .ref (y 8), .ref (y 9), .ref (y 10), .ref (y 11), .ref (y 12), .int w_code, .int w_toldLines, .ref (y 13), .ref (y 14), .ref (y 15), .ref (y 16), .ref (y 17), .ref (y 18), .ref (y 19), .ref (y 20), .ref (y 21), .ref (y 22), .ref (y 23), .ref (y 24), .int w_given, .long w_fresh, .ref (y 25), .ref (y 26), .ref (y 27), .ref (y 28), .ref (y 29), .ref (y 30), .ref (y 31), .ref (y 32), .ref (y 33), .ref (y 34), .ref (y 35), .ref (y 36), .ref (y 37), .int w_done, .int w_moreAsked, .ref (y 38), .long w_g, .int w_gone, .int w_stopped]))] H := hw
                  refine zfr 102 [.int 0] rfl rfl ?_
                  refine lv_iload_n hx hb dX12_rests_102 rfl (lv_at hl 5 rfl) ?_
                  refine lv_iload_n hx hb dX12_rests_103 rfl (lv_at hl 6 rfl) ?_
                  refine lv_iload hx hb dX12_rests_104 (lv_at hl 1 rfl) ?_
                  refine lv_iload hx hb dX12_rests_106 (lv_at hl 0 rfl) ?_
                  refine scall0 (As := [.int p1, .int p2, .int 1, .int 1]) (rest := [.int 0]) ⟨hx, hb, hml, hown, hts⟩ (c_mt11 l D ct p1 p2) (va_cwS 4 hts gX12_rests_X12_travellerGets rfl rfl rfl (by decide +kernel) ⟨Nat.le_of_ble_eq_true rfl, Nat.le_of_ble_eq_true rfl⟩) hw hS hA hK hN rfl rfl hl.1 rfl (Nat.le_of_ble_eq_true rfl) dX12_rests_108 (fun _ H locs hp143 hw hS => ?_)
                  have hw : zPD D A [(h0, .inr (11, [.int 0, .int w_taped, .ref (y 0), .int w_size, .int w_place, .int w_begin, .int w_token, .long w_word, .int w_told, .int w_wrong, .ref (y 1), .ref (y 2), .ref (y 3), .ref (y 4), .ref (y 5), .ref (y 6), .ref (y 7), .ref (y 8), .ref (y 9), .ref (y 10), .ref (y 11), .ref (y 12), .int w_code, .int w_toldLines, .ref (y 13), .ref (y 14), .ref (y 15), .ref (y 16), .ref (y 17), .ref (y 18), .ref (y 19), .ref (y 20), .ref (y 21), .ref (y 22), .ref (y 23), .ref (y 24), .int w_given, .long w_fresh, .ref (y 25), .ref (y 26), .ref (y 27), .ref (y 28), .ref (y 29), .ref (y 30), .ref (y 31), .ref (y 32), .ref (y 33), .ref (y 34), .ref (y 35), .ref (y 36), .ref (y 37), .int w_done, .int w_moreAsked, .ref (y 38), .long w_g, .int w_gone, .int w_stopped]))] H := hw
                  refine zfr 111 [.int (-p1), .int 0] rfl rfl ?_
                  refine lv_icmp_le (tgt := 117) hx hb dX12_rests_111 (by decide) (fun c_144 => ?_) (fun c_144 => ?_)
                  · refine lv_iload hx hb dX12_rests_117 (lv_at hl 3 rfl) ?_
                    refine lv_iload_n hx hb dX12_rests_119 rfl (lv_at hl 7 rfl) ?_
                    refine lv_icmp_ne (tgt := 126) hx hb dX12_rests_120 (by decide) (fun c_145 => ?_) (fun c_145 => ?_)
                    · refine lv_iinc (v := 2) (lv' := [(4, .int 2), (7, .int 1), (6, .int 1), (5, .int 3), (0, .ref h0), (1, .int p1), (2, .int p2), (3, .int p3)]) hx hb dX12_rests_126 hl (k := 3) rfl (by decide) (by decide) rfl (fun ls hl => ?_)
                      refine lv_iinc (v := 4) (lv' := [(5, .int 4), (4, .int 2), (7, .int 1), (6, .int 1), (0, .ref h0), (1, .int p1), (2, .int p2), (3, .int p3)]) hx hb dX12_rests_129 hl (k := 3) rfl (by decide) (by decide) rfl (fun ls hl => ?_)
                      refine lv_goto (tgt := 50) hx hb dX12_rests_132 (by decide) ?_
                      refine lv_iload hx hb dX12_rests_50 (lv_at hl 0 rfl) ?_
                      refine lv_iconst (v := 4) hx hb dX12_rests_52 (by decide) ?_
                      refine lv_icmp_ge (tgt := 135) hx hb dX12_rests_53 (by decide) (fun _ => ?_) (fun h => absurd (by decide) h)
                      refine lv_aload_n hx hb dX12_rests_135 rfl (lv_at hl 4 rfl) ?_
                      refine lv_iload_n hx hb dX12_rests_136 rfl (lv_at hl 7 rfl) ?_
                      refine lv_iconst (v := (-1)) hx hb dX12_rests_137 (by decide) ?_
                      refine lv_icmp_ne (tgt := 145) hx hb dX12_rests_138 (by decide) (fun c_147 => ?_) (fun c_147 => ?_)
                      · refine lv_iconst (v := 1) hx hb dX12_rests_145 (by decide) ?_
                        refine zput (D := D) (ci := 11) (v := .int 1) (ty := .int) hx hb hts hiX12 tyX12 tyX12_ok nmX12 hown hK hw hS 0 rfl rfl 0 (by decide) (hts (.fieldLink RX12 129 "BeardPassModel" "thrown" "I") (by decide +kernel)) (fun _ h9 => h9) rfl (by decide +kernel) rfl rfl (Nat.le_of_ble_eq_true rfl) dX12_rests_146 [(h0, .inr (11, [.int 1, .int w_taped, .ref (y 0), .int w_size, .int w_place, .int w_begin, .int w_token, .long w_word, .int w_told, .int w_wrong, .ref (y 1), .ref (y 2), .ref (y 3), .ref (y 4), .ref (y 5), .ref (y 6), .ref (y 7), .ref (y 8), .ref (y 9), .ref (y 10), .ref (y 11), .ref (y 12), .int w_code, .int w_toldLines, .ref (y 13), .ref (y 14), .ref (y 15), .ref (y 16), .ref (y 17), .ref (y 18), .ref (y 19), .ref (y 20), .ref (y 21), .ref (y 22), .ref (y 23), .ref (y 24), .int w_given, .long w_fresh, .ref (y 25), .ref (y 26), .ref (y 27), .ref (y 28), .ref (y 29), .ref (y 30), .ref (y 31), .ref (y 32), .ref (y 33), .ref (y 34), .ref (y 35), .ref (y 36), .ref (y 37), .int w_done, .int w_moreAsked, .ref (y 38), .long w_g, .int w_gone, .int w_stopped]))] rfl (fun H locs hw hS => ?_)
                        refine lv_iload_n hx hb dX12_rests_149 rfl (lv_at hl 7 rfl) ?_
                        refine lv_iconst (v := (-1)) hx hb dX12_rests_150 (by decide) ?_
                        refine lv_icmp_ne (tgt := 159) hx hb dX12_rests_151 (by decide) (fun _ => ?_) (fun h => absurd h (c_147))
                        refine lv_iconst (v := 0) hx hb dX12_rests_159 (by decide) ?_
                        exact ziret hx hb hr (rfl) hlocks () (congrArg (fun z => some (Value.int z)) (zrv_none (by rw [zrs, if_neg c_2, if_neg c_5, if_pos (zsge (r := p1) (w := p2) c_7), zrq0, if_pos (show zat0 p2 = 0 from if_neg c_16), zrq1, if_neg (show ¬ zat1 p1 p2 = 0 by rw [zat1, if_neg c_101, if_pos c_128]; decide), if_neg c_129, zrq3, if_neg (show ¬ zat3 p1 p2 = 0 by rw [zat3, if_neg c_137, if_pos c_144]; decide), if_neg c_145, zrq4, if_neg c_147]))) (trivial) hw [0] rfl (by rw [show zth p1 p2 p3 = 1 from zth_none (by rw [zrs, if_neg c_2, if_neg c_5, if_pos (zsge (r := p1) (w := p2) c_7), zrq0, if_pos (show zat0 p2 = 0 from if_neg c_16), zrq1, if_neg (show ¬ zat1 p1 p2 = 0 by rw [zat1, if_neg c_101, if_pos c_128]; decide), if_neg c_129, zrq3, if_neg (show ¬ zat3 p1 p2 = 0 by rw [zat3, if_neg c_137, if_pos c_144]; decide), if_neg c_145, zrq4, if_neg c_147])]; rfl) hS (Nat.le_of_ble_eq_true rfl) (Nat.le_of_ble_eq_true rfl) dX12_rests_160
                      · refine lv_iconst (v := 0) hx hb dX12_rests_141 (by decide) ?_
                        refine lv_goto (tgt := 146) hx hb dX12_rests_142 (by decide) ?_
                        refine zput (D := D) (ci := 11) (v := .int 0) (ty := .int) hx hb hts hiX12 tyX12 tyX12_ok nmX12 hown hK hw hS 0 rfl rfl 0 (by decide) (hts (.fieldLink RX12 129 "BeardPassModel" "thrown" "I") (by decide +kernel)) (fun _ h9 => h9) rfl (by decide +kernel) rfl rfl (Nat.le_of_ble_eq_true rfl) dX12_rests_146 [(h0, .inr (11, [.int 0, .int w_taped, .ref (y 0), .int w_size, .int w_place, .int w_begin, .int w_token, .long w_word, .int w_told, .int w_wrong, .ref (y 1), .ref (y 2), .ref (y 3), .ref (y 4), .ref (y 5), .ref (y 6), .ref (y 7), .ref (y 8), .ref (y 9), .ref (y 10), .ref (y 11), .ref (y 12), .int w_code, .int w_toldLines, .ref (y 13), .ref (y 14), .ref (y 15), .ref (y 16), .ref (y 17), .ref (y 18), .ref (y 19), .ref (y 20), .ref (y 21), .ref (y 22), .ref (y 23), .ref (y 24), .int w_given, .long w_fresh, .ref (y 25), .ref (y 26), .ref (y 27), .ref (y 28), .ref (y 29), .ref (y 30), .ref (y 31), .ref (y 32), .ref (y 33), .ref (y 34), .ref (y 35), .ref (y 36), .ref (y 37), .int w_done, .int w_moreAsked, .ref (y 38), .long w_g, .int w_gone, .int w_stopped]))] rfl (fun H locs hw hS => ?_)
                        refine lv_iload_n hx hb dX12_rests_149 rfl (lv_at hl 7 rfl) ?_
                        refine lv_iconst (v := (-1)) hx hb dX12_rests_150 (by decide) ?_
                        refine lv_icmp_ne (tgt := 159) hx hb dX12_rests_151 (by decide) (fun h => absurd (c_147) h) (fun _ => ?_)
                        refine lv_iload hx hb dX12_rests_154 (lv_at hl 1 rfl) ?_
                        refine lv_goto (tgt := 160) hx hb dX12_rests_156 (by decide) ?_
                        exact ziret hx hb hr (rfl) hlocks () (congrArg (fun z => some (Value.int z)) (zrv_some (by rw [zrs, if_neg c_2, if_neg c_5, if_pos (zsge (r := p1) (w := p2) c_7), zrq0, if_pos (show zat0 p2 = 0 from if_neg c_16), zrq1, if_neg (show ¬ zat1 p1 p2 = 0 by rw [zat1, if_neg c_101, if_pos c_128]; decide), if_neg c_129, zrq3, if_neg (show ¬ zat3 p1 p2 = 0 by rw [zat3, if_neg c_137, if_pos c_144]; decide), if_neg c_145, zrq4, if_pos c_147]))) (trivial) hw [0] rfl (by rw [show zth p1 p2 p3 = 0 from zth_some (v := 2) (by rw [zrs, if_neg c_2, if_neg c_5, if_pos (zsge (r := p1) (w := p2) c_7), zrq0, if_pos (show zat0 p2 = 0 from if_neg c_16), zrq1, if_neg (show ¬ zat1 p1 p2 = 0 by rw [zat1, if_neg c_101, if_pos c_128]; decide), if_neg c_129, zrq3, if_neg (show ¬ zat3 p1 p2 = 0 by rw [zat3, if_neg c_137, if_pos c_144]; decide), if_neg c_145, zrq4, if_pos c_147])]; rfl) hS (Nat.le_of_ble_eq_true rfl) (Nat.le_of_ble_eq_true rfl) dX12_rests_160
                    · refine lv_iload hx hb dX12_rests_123 (lv_at hl 2 rfl) ?_
                      exact ziret hx hb hr (rfl) hlocks () (congrArg (fun z => some (Value.int z)) (zrv_some (by rw [zrs, if_neg c_2, if_neg c_5, if_pos (zsge (r := p1) (w := p2) c_7), zrq0, if_pos (show zat0 p2 = 0 from if_neg c_16), zrq1, if_neg (show ¬ zat1 p1 p2 = 0 by rw [zat1, if_neg c_101, if_pos c_128]; decide), if_neg c_129, zrq3, if_neg (show ¬ zat3 p1 p2 = 0 by rw [zat3, if_neg c_137, if_pos c_144]; decide), if_pos c_145]))) (trivial) hw [0] rfl (by rw [show zth p1 p2 p3 = 0 from zth_some (v := 3) (by rw [zrs, if_neg c_2, if_neg c_5, if_pos (zsge (r := p1) (w := p2) c_7), zrq0, if_pos (show zat0 p2 = 0 from if_neg c_16), zrq1, if_neg (show ¬ zat1 p1 p2 = 0 by rw [zat1, if_neg c_101, if_pos c_128]; decide), if_neg c_129, zrq3, if_neg (show ¬ zat3 p1 p2 = 0 by rw [zat3, if_neg c_137, if_pos c_144]; decide), if_pos c_145])]; rfl) hS (Nat.le_of_ble_eq_true rfl) (Nat.le_of_ble_eq_true rfl) dX12_rests_125
                  · refine lv_goto (tgt := 129) hx hb dX12_rests_114 (by decide) ?_
                    refine lv_iinc (v := 4) (lv' := [(5, .int 4), (7, .int 1), (6, .int 1), (4, .int 1), (0, .ref h0), (1, .int p1), (2, .int p2), (3, .int p3)]) hx hb dX12_rests_129 hl (k := 2) rfl (by decide) (by decide) rfl (fun ls hl => ?_)
                    refine lv_goto (tgt := 50) hx hb dX12_rests_132 (by decide) ?_
                    refine lv_iload hx hb dX12_rests_50 (lv_at hl 0 rfl) ?_
                    refine lv_iconst (v := 4) hx hb dX12_rests_52 (by decide) ?_
                    refine lv_icmp_ge (tgt := 135) hx hb dX12_rests_53 (by decide) (fun _ => ?_) (fun h => absurd (by decide) h)
                    refine lv_aload_n hx hb dX12_rests_135 rfl (lv_at hl 4 rfl) ?_
                    refine lv_iload_n hx hb dX12_rests_136 rfl (lv_at hl 7 rfl) ?_
                    refine lv_iconst (v := (-1)) hx hb dX12_rests_137 (by decide) ?_
                    refine lv_icmp_ne (tgt := 145) hx hb dX12_rests_138 (by decide) (fun c_151 => ?_) (fun c_151 => ?_)
                    · refine lv_iconst (v := 1) hx hb dX12_rests_145 (by decide) ?_
                      refine zput (D := D) (ci := 11) (v := .int 1) (ty := .int) hx hb hts hiX12 tyX12 tyX12_ok nmX12 hown hK hw hS 0 rfl rfl 0 (by decide) (hts (.fieldLink RX12 129 "BeardPassModel" "thrown" "I") (by decide +kernel)) (fun _ h9 => h9) rfl (by decide +kernel) rfl rfl (Nat.le_of_ble_eq_true rfl) dX12_rests_146 [(h0, .inr (11, [.int 1, .int w_taped, .ref (y 0), .int w_size, .int w_place, .int w_begin, .int w_token, .long w_word, .int w_told, .int w_wrong, .ref (y 1), .ref (y 2), .ref (y 3), .ref (y 4), .ref (y 5), .ref (y 6), .ref (y 7), .ref (y 8), .ref (y 9), .ref (y 10), .ref (y 11), .ref (y 12), .int w_code, .int w_toldLines, .ref (y 13), .ref (y 14), .ref (y 15), .ref (y 16), .ref (y 17), .ref (y 18), .ref (y 19), .ref (y 20), .ref (y 21), .ref (y 22), .ref (y 23), .ref (y 24), .int w_given, .long w_fresh, .ref (y 25), .ref (y 26), .ref (y 27), .ref (y 28), .ref (y 29), .ref (y 30), .ref (y 31), .ref (y 32), .ref (y 33), .ref (y 34), .ref (y 35), .ref (y 36), .ref (y 37), .int w_done, .int w_moreAsked, .ref (y 38), .long w_g, .int w_gone, .int w_stopped]))] rfl (fun H locs hw hS => ?_)
                      refine lv_iload_n hx hb dX12_rests_149 rfl (lv_at hl 7 rfl) ?_
                      refine lv_iconst (v := (-1)) hx hb dX12_rests_150 (by decide) ?_
                      refine lv_icmp_ne (tgt := 159) hx hb dX12_rests_151 (by decide) (fun _ => ?_) (fun h => absurd h (c_151))
                      refine lv_iconst (v := 0) hx hb dX12_rests_159 (by decide) ?_
                      exact ziret hx hb hr (rfl) hlocks () (congrArg (fun z => some (Value.int z)) (zrv_none (by rw [zrs, if_neg c_2, if_neg c_5, if_pos (zsge (r := p1) (w := p2) c_7), zrq0, if_pos (show zat0 p2 = 0 from if_neg c_16), zrq1, if_neg (show ¬ zat1 p1 p2 = 0 by rw [zat1, if_neg c_101, if_pos c_128]; decide), if_neg c_129, zrq3, if_pos (show zat3 p1 p2 = 0 from (if_neg c_137).trans (if_neg c_144)), zrq4, if_neg c_151]))) (trivial) hw [0] rfl (by rw [show zth p1 p2 p3 = 1 from zth_none (by rw [zrs, if_neg c_2, if_neg c_5, if_pos (zsge (r := p1) (w := p2) c_7), zrq0, if_pos (show zat0 p2 = 0 from if_neg c_16), zrq1, if_neg (show ¬ zat1 p1 p2 = 0 by rw [zat1, if_neg c_101, if_pos c_128]; decide), if_neg c_129, zrq3, if_pos (show zat3 p1 p2 = 0 from (if_neg c_137).trans (if_neg c_144)), zrq4, if_neg c_151])]; rfl) hS (Nat.le_of_ble_eq_true rfl) (Nat.le_of_ble_eq_true rfl) dX12_rests_160
                    · refine lv_iconst (v := 0) hx hb dX12_rests_141 (by decide) ?_
                      refine lv_goto (tgt := 146) hx hb dX12_rests_142 (by decide) ?_
                      refine zput (D := D) (ci := 11) (v := .int 0) (ty := .int) hx hb hts hiX12 tyX12 tyX12_ok nmX12 hown hK hw hS 0 rfl rfl 0 (by decide) (hts (.fieldLink RX12 129 "BeardPassModel" "thrown" "I") (by decide +kernel)) (fun _ h9 => h9) rfl (by decide +kernel) rfl rfl (Nat.le_of_ble_eq_true rfl) dX12_rests_146 [(h0, .inr (11, [.int 0, .int w_taped, .ref (y 0), .int w_size, .int w_place, .int w_begin, .int w_token, .long w_word, .int w_told, .int w_wrong, .ref (y 1), .ref (y 2), .ref (y 3), .ref (y 4), .ref (y 5), .ref (y 6), .ref (y 7), .ref (y 8), .ref (y 9), .ref (y 10), .ref (y 11), .ref (y 12), .int w_code, .int w_toldLines, .ref (y 13), .ref (y 14), .ref (y 15), .ref (y 16), .ref (y 17), .ref (y 18), .ref (y 19), .ref (y 20), .ref (y 21), .ref (y 22), .ref (y 23), .ref (y 24), .int w_given, .long w_fresh, .ref (y 25), .ref (y 26), .ref (y 27), .ref (y 28), .ref (y 29), .ref (y 30), .ref (y 31), .ref (y 32), .ref (y 33), .ref (y 34), .ref (y 35), .ref (y 36), .ref (y 37), .int w_done, .int w_moreAsked, .ref (y 38), .long w_g, .int w_gone, .int w_stopped]))] rfl (fun H locs hw hS => ?_)
                      refine lv_iload_n hx hb dX12_rests_149 rfl (lv_at hl 7 rfl) ?_
                      refine lv_iconst (v := (-1)) hx hb dX12_rests_150 (by decide) ?_
                      refine lv_icmp_ne (tgt := 159) hx hb dX12_rests_151 (by decide) (fun h => absurd (c_151) h) (fun _ => ?_)
                      refine lv_iload hx hb dX12_rests_154 (lv_at hl 3 rfl) ?_
                      refine lv_goto (tgt := 160) hx hb dX12_rests_156 (by decide) ?_
                      exact ziret hx hb hr (rfl) hlocks () (congrArg (fun z => some (Value.int z)) (zrv_some (by rw [zrs, if_neg c_2, if_neg c_5, if_pos (zsge (r := p1) (w := p2) c_7), zrq0, if_pos (show zat0 p2 = 0 from if_neg c_16), zrq1, if_neg (show ¬ zat1 p1 p2 = 0 by rw [zat1, if_neg c_101, if_pos c_128]; decide), if_neg c_129, zrq3, if_pos (show zat3 p1 p2 = 0 from (if_neg c_137).trans (if_neg c_144)), zrq4, if_pos c_151]))) (trivial) hw [0] rfl (by rw [show zth p1 p2 p3 = 0 from zth_some (v := 1) (by rw [zrs, if_neg c_2, if_neg c_5, if_pos (zsge (r := p1) (w := p2) c_7), zrq0, if_pos (show zat0 p2 = 0 from if_neg c_16), zrq1, if_neg (show ¬ zat1 p1 p2 = 0 by rw [zat1, if_neg c_101, if_pos c_128]; decide), if_neg c_129, zrq3, if_pos (show zat3 p1 p2 = 0 from (if_neg c_137).trans (if_neg c_144)), zrq4, if_pos c_151])]; rfl) hS (Nat.le_of_ble_eq_true rfl) (Nat.le_of_ble_eq_true rfl) dX12_rests_160
              · refine lv_iload hx hb dX12_rests_123 (lv_at hl 2 rfl) ?_
                exact ziret hx hb hr (rfl) hlocks () (congrArg (fun z => some (Value.int z)) (zrv_some (by rw [zrs, if_neg c_2, if_neg c_5, if_pos (zsge (r := p1) (w := p2) c_7), zrq0, if_pos (show zat0 p2 = 0 from if_neg c_16), zrq1, if_neg (show ¬ zat1 p1 p2 = 0 by rw [zat1, if_neg c_101, if_pos c_128]; decide), if_pos c_129]))) (trivial) hw [0] rfl (by rw [show zth p1 p2 p3 = 0 from zth_some (v := 1) (by rw [zrs, if_neg c_2, if_neg c_5, if_pos (zsge (r := p1) (w := p2) c_7), zrq0, if_pos (show zat0 p2 = 0 from if_neg c_16), zrq1, if_neg (show ¬ zat1 p1 p2 = 0 by rw [zat1, if_neg c_101, if_pos c_128]; decide), if_pos c_129])]; rfl) hS (Nat.le_of_ble_eq_true rfl) (Nat.le_of_ble_eq_true rfl) dX12_rests_125
            · refine lv_goto (tgt := 129) hx hb dX12_rests_114 (by decide) ?_
              refine lv_iinc (v := 2) (lv' := [(5, .int 2), (7, .int 1), (6, .int 0), (4, .int 0), (0, .ref h0), (1, .int p1), (2, .int p2), (3, .int p3)]) hx hb dX12_rests_129 hl (k := 2) rfl (by decide) (by decide) rfl (fun ls hl => ?_)
              refine lv_goto (tgt := 50) hx hb dX12_rests_132 (by decide) ?_
              refine lv_iload hx hb dX12_rests_50 (lv_at hl 0 rfl) ?_
              refine lv_iconst (v := 4) hx hb dX12_rests_52 (by decide) ?_
              refine lv_icmp_ge (tgt := 135) hx hb dX12_rests_53 (by decide) (fun h => absurd h (by decide)) (fun _ => ?_)
              refine lv_iload hx hb dX12_rests_56 (lv_at hl 0 rfl) ?_
              refine lv_iconst (v := 2) hx hb dX12_rests_58 (by decide) ?_
              refine lv_idiv hx hb dX12_rests_59 (by decide) ?_
              refine ztop (.int 1) (congrArg Value.int (by decide)) ?_
              refine lv_istore (lv' := [(6, .int 1), (5, .int 2), (7, .int 1), (4, .int 0), (0, .ref h0), (1, .int p1), (2, .int p2), (3, .int p3)]) hx hb dX12_rests_60 hl (by decide) rfl (fun ls hl => ?_)
              refine lv_iload hx hb dX12_rests_62 (lv_at hl 1 rfl) ?_
              refine lv_iconst (v := 2) hx hb dX12_rests_64 (by decide) ?_
              refine lv_irem hx hb dX12_rests_65 (by decide) ?_
              refine ztop (.int 0) (congrArg Value.int (by decide)) ?_
              refine lv_istore (lv' := [(7, .int 0), (6, .int 1), (5, .int 2), (4, .int 0), (0, .ref h0), (1, .int p1), (2, .int p2), (3, .int p3)]) hx hb dX12_rests_66 hl (by decide) rfl (fun ls hl => ?_)
              refine lv_iload_n hx hb dX12_rests_68 rfl (lv_at hl 5 rfl) ?_
              refine lv_iload_n hx hb dX12_rests_69 rfl (lv_at hl 6 rfl) ?_
              refine lv_iconst (v := 1) hx hb dX12_rests_70 (by decide) ?_
              refine lv_iload hx hb dX12_rests_71 (lv_at hl 1 rfl) ?_
              refine lv_isub hx hb dX12_rests_73 ?_
              refine ztop (.int 0) (congrArg Value.int (by decide)) ?_
              refine lv_iload hx hb dX12_rests_74 (lv_at hl 0 rfl) ?_
              refine scall0 (As := [.int p1, .int p2, .int 0, .int 0]) (rest := []) ⟨hx, hb, hml, hown, hts⟩ (c_mg00 l D ct p1 p2) (va_cwS 4 hts gX12_rests_X12_guardGets rfl rfl rfl (by decide +kernel) ⟨Nat.le_of_ble_eq_true rfl, Nat.le_of_ble_eq_true rfl⟩) hw hS hA hK hN rfl rfl hl.1 rfl (Nat.le_of_ble_eq_true rfl) dX12_rests_76 (fun _ H locs hp155 hw hS => ?_)
              have hw : zPD D A [(h0, .inr (11, [.int 0, .int w_taped, .ref (y 0), .int w_size, .int w_place, .int w_begin, .int w_token, .long w_word, .int w_told, .int w_wrong, .ref (y 1), .ref (y 2), .ref (y 3), .ref (y 4), .ref (y 5), .ref (y 6), .ref (y 7), .ref (y 8), .ref (y 9), .ref (y 10), .ref (y 11), .ref (y 12), .int w_code, .int w_toldLines, .ref (y 13), .ref (y 14), .ref (y 15), .ref (y 16), .ref (y 17), .ref (y 18), .ref (y 19), .ref (y 20), .ref (y 21), .ref (y 22), .ref (y 23), .ref (y 24), .int w_given, .long w_fresh, .ref (y 25), .ref (y 26), .ref (y 27), .ref (y 28), .ref (y 29), .ref (y 30), .ref (y 31), .ref (y 32), .ref (y 33), .ref (y 34), .ref (y 35), .ref (y 36), .ref (y 37), .int w_done, .int w_moreAsked, .ref (y 38), .long w_g, .int w_gone, .int w_stopped]))] H := hw
              refine zfr 79 [.int 0] rfl rfl ?_
              refine lv_iload_n hx hb dX12_rests_79 rfl (lv_at hl 5 rfl) ?_
              refine lv_iload_n hx hb dX12_rests_80 rfl (lv_at hl 6 rfl) ?_
              refine lv_iload hx hb dX12_rests_81 (lv_at hl 1 rfl) ?_
              refine lv_iload hx hb dX12_rests_83 (lv_at hl 0 rfl) ?_
              refine scall0 (As := [.int p1, .int p2, .int 1, .int 0]) (rest := [.int 0]) ⟨hx, hb, hml, hown, hts⟩ (c_mg10 l D ct p1 p2) (va_cwS 4 hts gX12_rests_X12_guardGets rfl rfl rfl (by decide +kernel) ⟨Nat.le_of_ble_eq_true rfl, Nat.le_of_ble_eq_true rfl⟩) hw hS hA hK hN rfl rfl hl.1 rfl (Nat.le_of_ble_eq_true rfl) dX12_rests_85 (fun _ H locs hp156 hw hS => ?_)
              have hw : zPD D A [(h0, .inr (11, [.int 0, .int w_taped, .ref (y 0), .int w_size, .int w_place, .int w_begin, .int w_token, .long w_word, .int w_told, .int w_wrong, .ref (y 1), .ref (y 2), .ref (y 3), .ref (y 4), .ref (y 5), .ref (y 6), .ref (y 7), .ref (y 8), .ref (y 9), .ref (y 10), .ref (y 11), .ref (y 12), .int w_code, .int w_toldLines, .ref (y 13), .ref (y 14), .ref (y 15), .ref (y 16), .ref (y 17), .ref (y 18), .ref (y 19), .ref (y 20), .ref (y 21), .ref (y 22), .ref (y 23), .ref (y 24), .int w_given, .long w_fresh, .ref (y 25), .ref (y 26), .ref (y 27), .ref (y 28), .ref (y 29), .ref (y 30), .ref (y 31), .ref (y 32), .ref (y 33), .ref (y 34), .ref (y 35), .ref (y 36), .ref (y 37), .int w_done, .int w_moreAsked, .ref (y 38), .long w_g, .int w_gone, .int w_stopped]))] H := hw
              refine zfr 88 [.int (-1), .int 0] rfl rfl ?_
              refine lv_icmp_gt (tgt := 129) hx hb dX12_rests_88 (by decide) (fun _ => ?_) (fun h => absurd (by decide) h)
              refine lv_iinc (v := 3) (lv' := [(5, .int 3), (7, .int 0), (6, .int 1), (4, .int 0), (0, .ref h0), (1, .int p1), (2, .int p2), (3, .int p3)]) hx hb dX12_rests_129 hl (k := 2) rfl (by decide) (by decide) rfl (fun ls hl => ?_)
              refine lv_goto (tgt := 50) hx hb dX12_rests_132 (by decide) ?_
              refine lv_iload hx hb dX12_rests_50 (lv_at hl 0 rfl) ?_
              refine lv_iconst (v := 4) hx hb dX12_rests_52 (by decide) ?_
              refine lv_icmp_ge (tgt := 135) hx hb dX12_rests_53 (by decide) (fun h => absurd h (by decide)) (fun _ => ?_)
              refine lv_iload hx hb dX12_rests_56 (lv_at hl 0 rfl) ?_
              refine lv_iconst (v := 2) hx hb dX12_rests_58 (by decide) ?_
              refine lv_idiv hx hb dX12_rests_59 (by decide) ?_
              refine ztop (.int 1) (congrArg Value.int (by decide)) ?_
              refine lv_istore (lv' := [(6, .int 1), (5, .int 3), (7, .int 0), (4, .int 0), (0, .ref h0), (1, .int p1), (2, .int p2), (3, .int p3)]) hx hb dX12_rests_60 hl (by decide) rfl (fun ls hl => ?_)
              refine lv_iload hx hb dX12_rests_62 (lv_at hl 1 rfl) ?_
              refine lv_iconst (v := 2) hx hb dX12_rests_64 (by decide) ?_
              refine lv_irem hx hb dX12_rests_65 (by decide) ?_
              refine ztop (.int 1) (congrArg Value.int (by decide)) ?_
              refine lv_istore (lv' := [(7, .int 1), (6, .int 1), (5, .int 3), (4, .int 0), (0, .ref h0), (1, .int p1), (2, .int p2), (3, .int p3)]) hx hb dX12_rests_66 hl (by decide) rfl (fun ls hl => ?_)
              refine lv_iload_n hx hb dX12_rests_68 rfl (lv_at hl 5 rfl) ?_
              refine lv_iload_n hx hb dX12_rests_69 rfl (lv_at hl 6 rfl) ?_
              refine lv_iconst (v := 1) hx hb dX12_rests_70 (by decide) ?_
              refine lv_iload hx hb dX12_rests_71 (lv_at hl 1 rfl) ?_
              refine lv_isub hx hb dX12_rests_73 ?_
              refine ztop (.int 0) (congrArg Value.int (by decide)) ?_
              refine lv_iload hx hb dX12_rests_74 (lv_at hl 0 rfl) ?_
              refine scall0 (As := [.int p1, .int p2, .int 0, .int 1]) (rest := []) ⟨hx, hb, hml, hown, hts⟩ (c_mg01 l D ct p1 p2) (va_cwS 4 hts gX12_rests_X12_guardGets rfl rfl rfl (by decide +kernel) ⟨Nat.le_of_ble_eq_true rfl, Nat.le_of_ble_eq_true rfl⟩) hw hS hA hK hN rfl rfl hl.1 rfl (Nat.le_of_ble_eq_true rfl) dX12_rests_76 (fun _ H locs hp159 hw hS => ?_)
              have hw : zPD D A [(h0, .inr (11, [.int 0, .int w_taped, .ref (y 0), .int w_size, .int w_place, .int w_begin, .int w_token, .long w_word, .int w_told, .int w_wrong, .ref (y 1), .ref (y 2), .ref (y 3), .ref (y 4), .ref (y 5), .ref (y 6), .ref (y 7), .ref (y 8), .ref (y 9), .ref (y 10), .ref (y 11), .ref (y 12), .int w_code, .int w_toldLines, .ref (y 13), .ref (y 14), .ref (y 15), .ref (y 16), .ref (y 17), .ref (y 18), .ref (y 19), .ref (y 20), .ref (y 21), .ref (y 22), .ref (y 23), .ref (y 24), .int w_given, .long w_fresh, .ref (y 25), .ref (y 26), .ref (y 27), .ref (y 28), .ref (y 29), .ref (y 30), .ref (y 31), .ref (y 32), .ref (y 33), .ref (y 34), .ref (y 35), .ref (y 36), .ref (y 37), .int w_done, .int w_moreAsked, .ref (y 38), .long w_g, .int w_gone, .int w_stopped]))] H := hw
              refine zfr 79 [.int (-p2)] rfl rfl ?_
              refine lv_iload_n hx hb dX12_rests_79 rfl (lv_at hl 5 rfl) ?_
              refine lv_iload_n hx hb dX12_rests_80 rfl (lv_at hl 6 rfl) ?_
              refine lv_iload hx hb dX12_rests_81 (lv_at hl 1 rfl) ?_
              refine lv_iload hx hb dX12_rests_83 (lv_at hl 0 rfl) ?_
              refine scall0 (As := [.int p1, .int p2, .int 1, .int 1]) (rest := [.int (-p2)]) ⟨hx, hb, hml, hown, hts⟩ (c_mg11 l D ct p1 p2) (va_cwS 4 hts gX12_rests_X12_guardGets rfl rfl rfl (by decide +kernel) ⟨Nat.le_of_ble_eq_true rfl, Nat.le_of_ble_eq_true rfl⟩) hw hS hA hK hN rfl rfl hl.1 rfl (Nat.le_of_ble_eq_true rfl) dX12_rests_85 (fun _ H locs hp160 hw hS => ?_)
              have hw : zPD D A [(h0, .inr (11, [.int 0, .int w_taped, .ref (y 0), .int w_size, .int w_place, .int w_begin, .int w_token, .long w_word, .int w_told, .int w_wrong, .ref (y 1), .ref (y 2), .ref (y 3), .ref (y 4), .ref (y 5), .ref (y 6), .ref (y 7), .ref (y 8), .ref (y 9), .ref (y 10), .ref (y 11), .ref (y 12), .int w_code, .int w_toldLines, .ref (y 13), .ref (y 14), .ref (y 15), .ref (y 16), .ref (y 17), .ref (y 18), .ref (y 19), .ref (y 20), .ref (y 21), .ref (y 22), .ref (y 23), .ref (y 24), .int w_given, .long w_fresh, .ref (y 25), .ref (y 26), .ref (y 27), .ref (y 28), .ref (y 29), .ref (y 30), .ref (y 31), .ref (y 32), .ref (y 33), .ref (y 34), .ref (y 35), .ref (y 36), .ref (y 37), .int w_done, .int w_moreAsked, .ref (y 38), .long w_g, .int w_gone, .int w_stopped]))] H := hw
              refine zfr 88 [.int p1, .int (-p2)] rfl rfl ?_
              refine lv_icmp_gt (tgt := 129) hx hb dX12_rests_88 (by decide) (fun c_161 => ?_) (fun c_161 => ?_)
              · refine lv_iinc (v := 4) (lv' := [(5, .int 4), (7, .int 1), (6, .int 1), (4, .int 0), (0, .ref h0), (1, .int p1), (2, .int p2), (3, .int p3)]) hx hb dX12_rests_129 hl (k := 2) rfl (by decide) (by decide) rfl (fun ls hl => ?_)
                refine lv_goto (tgt := 50) hx hb dX12_rests_132 (by decide) ?_
                refine lv_iload hx hb dX12_rests_50 (lv_at hl 0 rfl) ?_
                refine lv_iconst (v := 4) hx hb dX12_rests_52 (by decide) ?_
                refine lv_icmp_ge (tgt := 135) hx hb dX12_rests_53 (by decide) (fun _ => ?_) (fun h => absurd (by decide) h)
                refine lv_aload_n hx hb dX12_rests_135 rfl (lv_at hl 4 rfl) ?_
                refine lv_iload_n hx hb dX12_rests_136 rfl (lv_at hl 7 rfl) ?_
                refine lv_iconst (v := (-1)) hx hb dX12_rests_137 (by decide) ?_
                refine lv_icmp_ne (tgt := 145) hx hb dX12_rests_138 (by decide) (fun c_163 => ?_) (fun c_163 => ?_)
                · refine lv_iconst (v := 1) hx hb dX12_rests_145 (by decide) ?_
                  refine zput (D := D) (ci := 11) (v := .int 1) (ty := .int) hx hb hts hiX12 tyX12 tyX12_ok nmX12 hown hK hw hS 0 rfl rfl 0 (by decide) (hts (.fieldLink RX12 129 "BeardPassModel" "thrown" "I") (by decide +kernel)) (fun _ h9 => h9) rfl (by decide +kernel) rfl rfl (Nat.le_of_ble_eq_true rfl) dX12_rests_146 [(h0, .inr (11, [.int 1, .int w_taped, .ref (y 0), .int w_size, .int w_place, .int w_begin, .int w_token, .long w_word, .int w_told, .int w_wrong, .ref (y 1), .ref (y 2), .ref (y 3), .ref (y 4), .ref (y 5), .ref (y 6), .ref (y 7), .ref (y 8), .ref (y 9), .ref (y 10), .ref (y 11), .ref (y 12), .int w_code, .int w_toldLines, .ref (y 13), .ref (y 14), .ref (y 15), .ref (y 16), .ref (y 17), .ref (y 18), .ref (y 19), .ref (y 20), .ref (y 21), .ref (y 22), .ref (y 23), .ref (y 24), .int w_given, .long w_fresh, .ref (y 25), .ref (y 26), .ref (y 27), .ref (y 28), .ref (y 29), .ref (y 30), .ref (y 31), .ref (y 32), .ref (y 33), .ref (y 34), .ref (y 35), .ref (y 36), .ref (y 37), .int w_done, .int w_moreAsked, .ref (y 38), .long w_g, .int w_gone, .int w_stopped]))] rfl (fun H locs hw hS => ?_)
                  refine lv_iload_n hx hb dX12_rests_149 rfl (lv_at hl 7 rfl) ?_
                  refine lv_iconst (v := (-1)) hx hb dX12_rests_150 (by decide) ?_
                  refine lv_icmp_ne (tgt := 159) hx hb dX12_rests_151 (by decide) (fun _ => ?_) (fun h => absurd h (c_163))
                  refine lv_iconst (v := 0) hx hb dX12_rests_159 (by decide) ?_
                  exact ziret hx hb hr (rfl) hlocks () (congrArg (fun z => some (Value.int z)) (zrv_none (by rw [zrs, if_neg c_2, if_neg c_5, if_pos (zsge (r := p1) (w := p2) c_7), zrq0, if_pos (show zat0 p2 = 0 from if_neg c_16), zrq1, if_pos (show zat1 p1 p2 = 0 from (if_neg c_101).trans (if_neg c_128)), zrq3, if_pos (show zat3 p1 p2 = 0 from if_pos c_161), zrq4, if_neg c_163]))) (trivial) hw [0] rfl (by rw [show zth p1 p2 p3 = 1 from zth_none (by rw [zrs, if_neg c_2, if_neg c_5, if_pos (zsge (r := p1) (w := p2) c_7), zrq0, if_pos (show zat0 p2 = 0 from if_neg c_16), zrq1, if_pos (show zat1 p1 p2 = 0 from (if_neg c_101).trans (if_neg c_128)), zrq3, if_pos (show zat3 p1 p2 = 0 from if_pos c_161), zrq4, if_neg c_163])]; rfl) hS (Nat.le_of_ble_eq_true rfl) (Nat.le_of_ble_eq_true rfl) dX12_rests_160
                · refine lv_iconst (v := 0) hx hb dX12_rests_141 (by decide) ?_
                  refine lv_goto (tgt := 146) hx hb dX12_rests_142 (by decide) ?_
                  refine zput (D := D) (ci := 11) (v := .int 0) (ty := .int) hx hb hts hiX12 tyX12 tyX12_ok nmX12 hown hK hw hS 0 rfl rfl 0 (by decide) (hts (.fieldLink RX12 129 "BeardPassModel" "thrown" "I") (by decide +kernel)) (fun _ h9 => h9) rfl (by decide +kernel) rfl rfl (Nat.le_of_ble_eq_true rfl) dX12_rests_146 [(h0, .inr (11, [.int 0, .int w_taped, .ref (y 0), .int w_size, .int w_place, .int w_begin, .int w_token, .long w_word, .int w_told, .int w_wrong, .ref (y 1), .ref (y 2), .ref (y 3), .ref (y 4), .ref (y 5), .ref (y 6), .ref (y 7), .ref (y 8), .ref (y 9), .ref (y 10), .ref (y 11), .ref (y 12), .int w_code, .int w_toldLines, .ref (y 13), .ref (y 14), .ref (y 15), .ref (y 16), .ref (y 17), .ref (y 18), .ref (y 19), .ref (y 20), .ref (y 21), .ref (y 22), .ref (y 23), .ref (y 24), .int w_given, .long w_fresh, .ref (y 25), .ref (y 26), .ref (y 27), .ref (y 28), .ref (y 29), .ref (y 30), .ref (y 31), .ref (y 32), .ref (y 33), .ref (y 34), .ref (y 35), .ref (y 36), .ref (y 37), .int w_done, .int w_moreAsked, .ref (y 38), .long w_g, .int w_gone, .int w_stopped]))] rfl (fun H locs hw hS => ?_)
                  refine lv_iload_n hx hb dX12_rests_149 rfl (lv_at hl 7 rfl) ?_
                  refine lv_iconst (v := (-1)) hx hb dX12_rests_150 (by decide) ?_
                  refine lv_icmp_ne (tgt := 159) hx hb dX12_rests_151 (by decide) (fun h => absurd (c_163) h) (fun _ => ?_)
                  refine lv_iload hx hb dX12_rests_154 (lv_at hl 3 rfl) ?_
                  refine lv_goto (tgt := 160) hx hb dX12_rests_156 (by decide) ?_
                  exact ziret hx hb hr (rfl) hlocks () (congrArg (fun z => some (Value.int z)) (zrv_some (by rw [zrs, if_neg c_2, if_neg c_5, if_pos (zsge (r := p1) (w := p2) c_7), zrq0, if_pos (show zat0 p2 = 0 from if_neg c_16), zrq1, if_pos (show zat1 p1 p2 = 0 from (if_neg c_101).trans (if_neg c_128)), zrq3, if_pos (show zat3 p1 p2 = 0 from if_pos c_161), zrq4, if_pos c_163]))) (trivial) hw [0] rfl (by rw [show zth p1 p2 p3 = 0 from zth_some (v := 0) (by rw [zrs, if_neg c_2, if_neg c_5, if_pos (zsge (r := p1) (w := p2) c_7), zrq0, if_pos (show zat0 p2 = 0 from if_neg c_16), zrq1, if_pos (show zat1 p1 p2 = 0 from (if_neg c_101).trans (if_neg c_128)), zrq3, if_pos (show zat3 p1 p2 = 0 from if_pos c_161), zrq4, if_pos c_163])]; rfl) hS (Nat.le_of_ble_eq_true rfl) (Nat.le_of_ble_eq_true rfl) dX12_rests_160
              · refine lv_iload_n hx hb dX12_rests_91 rfl (lv_at hl 5 rfl) ?_
                refine lv_iload_n hx hb dX12_rests_92 rfl (lv_at hl 6 rfl) ?_
                refine lv_iload hx hb dX12_rests_93 (lv_at hl 1 rfl) ?_
                refine lv_iconst (v := 1) hx hb dX12_rests_95 (by decide) ?_
                refine lv_iload hx hb dX12_rests_96 (lv_at hl 0 rfl) ?_
                refine lv_isub hx hb dX12_rests_98 ?_
                refine ztop (.int 0) (congrArg Value.int (by decide)) ?_
                refine scall0 (As := [.int p1, .int p2, .int 1, .int 0]) (rest := []) ⟨hx, hb, hml, hown, hts⟩ (c_mt10 l D ct p1 p2) (va_cwS 4 hts gX12_rests_X12_travellerGets rfl rfl rfl (by decide +kernel) ⟨Nat.le_of_ble_eq_true rfl, Nat.le_of_ble_eq_true rfl⟩) hw hS hA hK hN rfl rfl hl.1 rfl (Nat.le_of_ble_eq_true rfl) dX12_rests_99 (fun _ H locs hp166 hw hS => ?_)
                have hw : zPD D A [(h0, .inr (11, [.int 0, .int w_taped, .ref (y 0), .int w_size, .int w_place, .int w_begin, .int w_token, .long w_word, .int w_told, .int w_wrong, .ref (y 1), .ref (y 2), .ref (y 3), .ref (y 4), .ref (y 5), .ref (y 6), .ref (y 7), .ref (y 8), .ref (y 9), .ref (y 10), .ref (y 11), .ref (y 12), .int w_code, .int w_toldLines, .ref (y 13), .ref (y 14), .ref (y 15), .ref (y 16), .ref (y 17), .ref (y 18), .ref (y 19), .ref (y 20), .ref (y 21), .ref (y 22), .ref (y 23), .ref (y 24), .int w_given, .long w_fresh, .ref (y 25), .ref (y 26), .ref (y 27), .ref (y 28), .ref (y 29), .ref (y 30), .ref (y 31), .ref (y 32), .ref (y 33), .ref (y 34), .ref (y 35), .ref (y 36), .ref (y 37), .int w_done, .int w_moreAsked, .ref (y 38), .long w_g, .int w_gone, .int w_stopped]))] H := hw
                refine zfr 102 [.int 0] rfl rfl ?_
                refine lv_iload_n hx hb dX12_rests_102 rfl (lv_at hl 5 rfl) ?_
                refine lv_iload_n hx hb dX12_rests_103 rfl (lv_at hl 6 rfl) ?_
                refine lv_iload hx hb dX12_rests_104 (lv_at hl 1 rfl) ?_
                refine lv_iload hx hb dX12_rests_106 (lv_at hl 0 rfl) ?_
                refine scall0 (As := [.int p1, .int p2, .int 1, .int 1]) (rest := [.int 0]) ⟨hx, hb, hml, hown, hts⟩ (c_mt11 l D ct p1 p2) (va_cwS 4 hts gX12_rests_X12_travellerGets rfl rfl rfl (by decide +kernel) ⟨Nat.le_of_ble_eq_true rfl, Nat.le_of_ble_eq_true rfl⟩) hw hS hA hK hN rfl rfl hl.1 rfl (Nat.le_of_ble_eq_true rfl) dX12_rests_108 (fun _ H locs hp167 hw hS => ?_)
                have hw : zPD D A [(h0, .inr (11, [.int 0, .int w_taped, .ref (y 0), .int w_size, .int w_place, .int w_begin, .int w_token, .long w_word, .int w_told, .int w_wrong, .ref (y 1), .ref (y 2), .ref (y 3), .ref (y 4), .ref (y 5), .ref (y 6), .ref (y 7), .ref (y 8), .ref (y 9), .ref (y 10), .ref (y 11), .ref (y 12), .int w_code, .int w_toldLines, .ref (y 13), .ref (y 14), .ref (y 15), .ref (y 16), .ref (y 17), .ref (y 18), .ref (y 19), .ref (y 20), .ref (y 21), .ref (y 22), .ref (y 23), .ref (y 24), .int w_given, .long w_fresh, .ref (y 25), .ref (y 26), .ref (y 27), .ref (y 28), .ref (y 29), .ref (y 30), .ref (y 31), .ref (y 32), .ref (y 33), .ref (y 34), .ref (y 35), .ref (y 36), .ref (y 37), .int w_done, .int w_moreAsked, .ref (y 38), .long w_g, .int w_gone, .int w_stopped]))] H := hw
                refine zfr 111 [.int (-p1), .int 0] rfl rfl ?_
                refine lv_icmp_le (tgt := 117) hx hb dX12_rests_111 (by decide) (fun c_168 => ?_) (fun c_168 => ?_)
                · refine lv_iload hx hb dX12_rests_117 (lv_at hl 3 rfl) ?_
                  refine lv_iload_n hx hb dX12_rests_119 rfl (lv_at hl 7 rfl) ?_
                  refine lv_icmp_ne (tgt := 126) hx hb dX12_rests_120 (by decide) (fun c_169 => ?_) (fun c_169 => ?_)
                  · refine lv_iinc (v := 1) (lv' := [(4, .int 1), (7, .int 1), (6, .int 1), (5, .int 3), (0, .ref h0), (1, .int p1), (2, .int p2), (3, .int p3)]) hx hb dX12_rests_126 hl (k := 3) rfl (by decide) (by decide) rfl (fun ls hl => ?_)
                    refine lv_iinc (v := 4) (lv' := [(5, .int 4), (4, .int 1), (7, .int 1), (6, .int 1), (0, .ref h0), (1, .int p1), (2, .int p2), (3, .int p3)]) hx hb dX12_rests_129 hl (k := 3) rfl (by decide) (by decide) rfl (fun ls hl => ?_)
                    refine lv_goto (tgt := 50) hx hb dX12_rests_132 (by decide) ?_
                    refine lv_iload hx hb dX12_rests_50 (lv_at hl 0 rfl) ?_
                    refine lv_iconst (v := 4) hx hb dX12_rests_52 (by decide) ?_
                    refine lv_icmp_ge (tgt := 135) hx hb dX12_rests_53 (by decide) (fun _ => ?_) (fun h => absurd (by decide) h)
                    refine lv_aload_n hx hb dX12_rests_135 rfl (lv_at hl 4 rfl) ?_
                    refine lv_iload_n hx hb dX12_rests_136 rfl (lv_at hl 7 rfl) ?_
                    refine lv_iconst (v := (-1)) hx hb dX12_rests_137 (by decide) ?_
                    refine lv_icmp_ne (tgt := 145) hx hb dX12_rests_138 (by decide) (fun c_171 => ?_) (fun c_171 => ?_)
                    · refine lv_iconst (v := 1) hx hb dX12_rests_145 (by decide) ?_
                      refine zput (D := D) (ci := 11) (v := .int 1) (ty := .int) hx hb hts hiX12 tyX12 tyX12_ok nmX12 hown hK hw hS 0 rfl rfl 0 (by decide) (hts (.fieldLink RX12 129 "BeardPassModel" "thrown" "I") (by decide +kernel)) (fun _ h9 => h9) rfl (by decide +kernel) rfl rfl (Nat.le_of_ble_eq_true rfl) dX12_rests_146 [(h0, .inr (11, [.int 1, .int w_taped, .ref (y 0), .int w_size, .int w_place, .int w_begin, .int w_token, .long w_word, .int w_told, .int w_wrong, .ref (y 1), .ref (y 2), .ref (y 3), .ref (y 4), .ref (y 5), .ref (y 6), .ref (y 7), .ref (y 8), .ref (y 9), .ref (y 10), .ref (y 11), .ref (y 12), .int w_code, .int w_toldLines, .ref (y 13), .ref (y 14), .ref (y 15), .ref (y 16), .ref (y 17), .ref (y 18), .ref (y 19), .ref (y 20), .ref (y 21), .ref (y 22), .ref (y 23), .ref (y 24), .int w_given, .long w_fresh, .ref (y 25), .ref (y 26), .ref (y 27), .ref (y 28), .ref (y 29), .ref (y 30), .ref (y 31), .ref (y 32), .ref (y 33), .ref (y 34), .ref (y 35), .ref (y 36), .ref (y 37), .int w_done, .int w_moreAsked, .ref (y 38), .long w_g, .int w_gone, .int w_stopped]))] rfl (fun H locs hw hS => ?_)
                      refine lv_iload_n hx hb dX12_rests_149 rfl (lv_at hl 7 rfl) ?_
                      refine lv_iconst (v := (-1)) hx hb dX12_rests_150 (by decide) ?_
                      refine lv_icmp_ne (tgt := 159) hx hb dX12_rests_151 (by decide) (fun _ => ?_) (fun h => absurd h (c_171))
                      refine lv_iconst (v := 0) hx hb dX12_rests_159 (by decide) ?_
                      exact ziret hx hb hr (rfl) hlocks () (congrArg (fun z => some (Value.int z)) (zrv_none (by rw [zrs, if_neg c_2, if_neg c_5, if_pos (zsge (r := p1) (w := p2) c_7), zrq0, if_pos (show zat0 p2 = 0 from if_neg c_16), zrq1, if_pos (show zat1 p1 p2 = 0 from (if_neg c_101).trans (if_neg c_128)), zrq3, if_neg (show ¬ zat3 p1 p2 = 0 by rw [zat3, if_neg c_161, if_pos c_168]; decide), if_neg c_169, zrq4, if_neg c_171]))) (trivial) hw [0] rfl (by rw [show zth p1 p2 p3 = 1 from zth_none (by rw [zrs, if_neg c_2, if_neg c_5, if_pos (zsge (r := p1) (w := p2) c_7), zrq0, if_pos (show zat0 p2 = 0 from if_neg c_16), zrq1, if_pos (show zat1 p1 p2 = 0 from (if_neg c_101).trans (if_neg c_128)), zrq3, if_neg (show ¬ zat3 p1 p2 = 0 by rw [zat3, if_neg c_161, if_pos c_168]; decide), if_neg c_169, zrq4, if_neg c_171])]; rfl) hS (Nat.le_of_ble_eq_true rfl) (Nat.le_of_ble_eq_true rfl) dX12_rests_160
                    · refine lv_iconst (v := 0) hx hb dX12_rests_141 (by decide) ?_
                      refine lv_goto (tgt := 146) hx hb dX12_rests_142 (by decide) ?_
                      refine zput (D := D) (ci := 11) (v := .int 0) (ty := .int) hx hb hts hiX12 tyX12 tyX12_ok nmX12 hown hK hw hS 0 rfl rfl 0 (by decide) (hts (.fieldLink RX12 129 "BeardPassModel" "thrown" "I") (by decide +kernel)) (fun _ h9 => h9) rfl (by decide +kernel) rfl rfl (Nat.le_of_ble_eq_true rfl) dX12_rests_146 [(h0, .inr (11, [.int 0, .int w_taped, .ref (y 0), .int w_size, .int w_place, .int w_begin, .int w_token, .long w_word, .int w_told, .int w_wrong, .ref (y 1), .ref (y 2), .ref (y 3), .ref (y 4), .ref (y 5), .ref (y 6), .ref (y 7), .ref (y 8), .ref (y 9), .ref (y 10), .ref (y 11), .ref (y 12), .int w_code, .int w_toldLines, .ref (y 13), .ref (y 14), .ref (y 15), .ref (y 16), .ref (y 17), .ref (y 18), .ref (y 19), .ref (y 20), .ref (y 21), .ref (y 22), .ref (y 23), .ref (y 24), .int w_given, .long w_fresh, .ref (y 25), .ref (y 26), .ref (y 27), .ref (y 28), .ref (y 29), .ref (y 30), .ref (y 31), .ref (y 32), .ref (y 33), .ref (y 34), .ref (y 35), .ref (y 36), .ref (y 37), .int w_done, .int w_moreAsked, .ref (y 38), .long w_g, .int w_gone, .int w_stopped]))] rfl (fun H locs hw hS => ?_)
                      refine lv_iload_n hx hb dX12_rests_149 rfl (lv_at hl 7 rfl) ?_
                      refine lv_iconst (v := (-1)) hx hb dX12_rests_150 (by decide) ?_
                      refine lv_icmp_ne (tgt := 159) hx hb dX12_rests_151 (by decide) (fun h => absurd (c_171) h) (fun _ => ?_)
                      refine lv_iload hx hb dX12_rests_154 (lv_at hl 1 rfl) ?_
                      refine lv_goto (tgt := 160) hx hb dX12_rests_156 (by decide) ?_
                      exact ziret hx hb hr (rfl) hlocks () (congrArg (fun z => some (Value.int z)) (zrv_some (by rw [zrs, if_neg c_2, if_neg c_5, if_pos (zsge (r := p1) (w := p2) c_7), zrq0, if_pos (show zat0 p2 = 0 from if_neg c_16), zrq1, if_pos (show zat1 p1 p2 = 0 from (if_neg c_101).trans (if_neg c_128)), zrq3, if_neg (show ¬ zat3 p1 p2 = 0 by rw [zat3, if_neg c_161, if_pos c_168]; decide), if_neg c_169, zrq4, if_pos c_171]))) (trivial) hw [0] rfl (by rw [show zth p1 p2 p3 = 0 from zth_some (v := 1) (by rw [zrs, if_neg c_2, if_neg c_5, if_pos (zsge (r := p1) (w := p2) c_7), zrq0, if_pos (show zat0 p2 = 0 from if_neg c_16), zrq1, if_pos (show zat1 p1 p2 = 0 from (if_neg c_101).trans (if_neg c_128)), zrq3, if_neg (show ¬ zat3 p1 p2 = 0 by rw [zat3, if_neg c_161, if_pos c_168]; decide), if_neg c_169, zrq4, if_pos c_171])]; rfl) hS (Nat.le_of_ble_eq_true rfl) (Nat.le_of_ble_eq_true rfl) dX12_rests_160
                  · refine lv_iload hx hb dX12_rests_123 (lv_at hl 2 rfl) ?_
                    exact ziret hx hb hr (rfl) hlocks () (congrArg (fun z => some (Value.int z)) (zrv_some (by rw [zrs, if_neg c_2, if_neg c_5, if_pos (zsge (r := p1) (w := p2) c_7), zrq0, if_pos (show zat0 p2 = 0 from if_neg c_16), zrq1, if_pos (show zat1 p1 p2 = 0 from (if_neg c_101).trans (if_neg c_128)), zrq3, if_neg (show ¬ zat3 p1 p2 = 0 by rw [zat3, if_neg c_161, if_pos c_168]; decide), if_pos c_169]))) (trivial) hw [0] rfl (by rw [show zth p1 p2 p3 = 0 from zth_some (v := 3) (by rw [zrs, if_neg c_2, if_neg c_5, if_pos (zsge (r := p1) (w := p2) c_7), zrq0, if_pos (show zat0 p2 = 0 from if_neg c_16), zrq1, if_pos (show zat1 p1 p2 = 0 from (if_neg c_101).trans (if_neg c_128)), zrq3, if_neg (show ¬ zat3 p1 p2 = 0 by rw [zat3, if_neg c_161, if_pos c_168]; decide), if_pos c_169])]; rfl) hS (Nat.le_of_ble_eq_true rfl) (Nat.le_of_ble_eq_true rfl) dX12_rests_125
                · refine lv_goto (tgt := 129) hx hb dX12_rests_114 (by decide) ?_
                  refine lv_iinc (v := 4) (lv' := [(5, .int 4), (7, .int 1), (6, .int 1), (4, .int 0), (0, .ref h0), (1, .int p1), (2, .int p2), (3, .int p3)]) hx hb dX12_rests_129 hl (k := 2) rfl (by decide) (by decide) rfl (fun ls hl => ?_)
                  refine lv_goto (tgt := 50) hx hb dX12_rests_132 (by decide) ?_
                  refine lv_iload hx hb dX12_rests_50 (lv_at hl 0 rfl) ?_
                  refine lv_iconst (v := 4) hx hb dX12_rests_52 (by decide) ?_
                  refine lv_icmp_ge (tgt := 135) hx hb dX12_rests_53 (by decide) (fun _ => ?_) (fun h => absurd (by decide) h)
                  refine lv_aload_n hx hb dX12_rests_135 rfl (lv_at hl 4 rfl) ?_
                  refine lv_iload_n hx hb dX12_rests_136 rfl (lv_at hl 7 rfl) ?_
                  refine lv_iconst (v := (-1)) hx hb dX12_rests_137 (by decide) ?_
                  refine lv_icmp_ne (tgt := 145) hx hb dX12_rests_138 (by decide) (fun c_175 => ?_) (fun c_175 => ?_)
                  · refine lv_iconst (v := 1) hx hb dX12_rests_145 (by decide) ?_
                    refine zput (D := D) (ci := 11) (v := .int 1) (ty := .int) hx hb hts hiX12 tyX12 tyX12_ok nmX12 hown hK hw hS 0 rfl rfl 0 (by decide) (hts (.fieldLink RX12 129 "BeardPassModel" "thrown" "I") (by decide +kernel)) (fun _ h9 => h9) rfl (by decide +kernel) rfl rfl (Nat.le_of_ble_eq_true rfl) dX12_rests_146 [(h0, .inr (11, [.int 1, .int w_taped, .ref (y 0), .int w_size, .int w_place, .int w_begin, .int w_token, .long w_word, .int w_told, .int w_wrong, .ref (y 1), .ref (y 2), .ref (y 3), .ref (y 4), .ref (y 5), .ref (y 6), .ref (y 7), .ref (y 8), .ref (y 9), .ref (y 10), .ref (y 11), .ref (y 12), .int w_code, .int w_toldLines, .ref (y 13), .ref (y 14), .ref (y 15), .ref (y 16), .ref (y 17), .ref (y 18), .ref (y 19), .ref (y 20), .ref (y 21), .ref (y 22), .ref (y 23), .ref (y 24), .int w_given, .long w_fresh, .ref (y 25), .ref (y 26), .ref (y 27), .ref (y 28), .ref (y 29), .ref (y 30), .ref (y 31), .ref (y 32), .ref (y 33), .ref (y 34), .ref (y 35), .ref (y 36), .ref (y 37), .int w_done, .int w_moreAsked, .ref (y 38), .long w_g, .int w_gone, .int w_stopped]))] rfl (fun H locs hw hS => ?_)
                    refine lv_iload_n hx hb dX12_rests_149 rfl (lv_at hl 7 rfl) ?_
                    refine lv_iconst (v := (-1)) hx hb dX12_rests_150 (by decide) ?_
                    refine lv_icmp_ne (tgt := 159) hx hb dX12_rests_151 (by decide) (fun _ => ?_) (fun h => absurd h (c_175))
                    refine lv_iconst (v := 0) hx hb dX12_rests_159 (by decide) ?_
                    exact ziret hx hb hr (rfl) hlocks () (congrArg (fun z => some (Value.int z)) (zrv_none (by rw [zrs, if_neg c_2, if_neg c_5, if_pos (zsge (r := p1) (w := p2) c_7), zrq0, if_pos (show zat0 p2 = 0 from if_neg c_16), zrq1, if_pos (show zat1 p1 p2 = 0 from (if_neg c_101).trans (if_neg c_128)), zrq3, if_pos (show zat3 p1 p2 = 0 from (if_neg c_161).trans (if_neg c_168)), zrq4, if_neg c_175]))) (trivial) hw [0] rfl (by rw [show zth p1 p2 p3 = 1 from zth_none (by rw [zrs, if_neg c_2, if_neg c_5, if_pos (zsge (r := p1) (w := p2) c_7), zrq0, if_pos (show zat0 p2 = 0 from if_neg c_16), zrq1, if_pos (show zat1 p1 p2 = 0 from (if_neg c_101).trans (if_neg c_128)), zrq3, if_pos (show zat3 p1 p2 = 0 from (if_neg c_161).trans (if_neg c_168)), zrq4, if_neg c_175])]; rfl) hS (Nat.le_of_ble_eq_true rfl) (Nat.le_of_ble_eq_true rfl) dX12_rests_160
                  · refine lv_iconst (v := 0) hx hb dX12_rests_141 (by decide) ?_
                    refine lv_goto (tgt := 146) hx hb dX12_rests_142 (by decide) ?_
                    refine zput (D := D) (ci := 11) (v := .int 0) (ty := .int) hx hb hts hiX12 tyX12 tyX12_ok nmX12 hown hK hw hS 0 rfl rfl 0 (by decide) (hts (.fieldLink RX12 129 "BeardPassModel" "thrown" "I") (by decide +kernel)) (fun _ h9 => h9) rfl (by decide +kernel) rfl rfl (Nat.le_of_ble_eq_true rfl) dX12_rests_146 [(h0, .inr (11, [.int 0, .int w_taped, .ref (y 0), .int w_size, .int w_place, .int w_begin, .int w_token, .long w_word, .int w_told, .int w_wrong, .ref (y 1), .ref (y 2), .ref (y 3), .ref (y 4), .ref (y 5), .ref (y 6), .ref (y 7), .ref (y 8), .ref (y 9), .ref (y 10), .ref (y 11), .ref (y 12), .int w_code, .int w_toldLines, .ref (y 13), .ref (y 14), .ref (y 15), .ref (y 16), .ref (y 17), .ref (y 18), .ref (y 19), .ref (y 20), .ref (y 21), .ref (y 22), .ref (y 23), .ref (y 24), .int w_given, .long w_fresh, .ref (y 25), .ref (y 26), .ref (y 27), .ref (y 28), .ref (y 29), .ref (y 30), .ref (y 31), .ref (y 32), .ref (y 33), .ref (y 34), .ref (y 35), .ref (y 36), .ref (y 37), .int w_done, .int w_moreAsked, .ref (y 38), .long w_g, .int w_gone, .int w_stopped]))] rfl (fun H locs hw hS => ?_)
                    refine lv_iload_n hx hb dX12_rests_149 rfl (lv_at hl 7 rfl) ?_
                    refine lv_iconst (v := (-1)) hx hb dX12_rests_150 (by decide) ?_
                    refine lv_icmp_ne (tgt := 159) hx hb dX12_rests_151 (by decide) (fun h => absurd (c_175) h) (fun _ => ?_)
                    refine lv_iload hx hb dX12_rests_154 (lv_at hl 3 rfl) ?_
                    refine lv_goto (tgt := 160) hx hb dX12_rests_156 (by decide) ?_
                    exact ziret hx hb hr (rfl) hlocks () (congrArg (fun z => some (Value.int z)) (zrv_some (by rw [zrs, if_neg c_2, if_neg c_5, if_pos (zsge (r := p1) (w := p2) c_7), zrq0, if_pos (show zat0 p2 = 0 from if_neg c_16), zrq1, if_pos (show zat1 p1 p2 = 0 from (if_neg c_101).trans (if_neg c_128)), zrq3, if_pos (show zat3 p1 p2 = 0 from (if_neg c_161).trans (if_neg c_168)), zrq4, if_pos c_175]))) (trivial) hw [0] rfl (by rw [show zth p1 p2 p3 = 0 from zth_some (v := 0) (by rw [zrs, if_neg c_2, if_neg c_5, if_pos (zsge (r := p1) (w := p2) c_7), zrq0, if_pos (show zat0 p2 = 0 from if_neg c_16), zrq1, if_pos (show zat1 p1 p2 = 0 from (if_neg c_101).trans (if_neg c_128)), zrq3, if_pos (show zat3 p1 p2 = 0 from (if_neg c_161).trans (if_neg c_168)), zrq4, if_pos c_175])]; rfl) hS (Nat.le_of_ble_eq_true rfl) (Nat.le_of_ble_eq_true rfl) dX12_rests_160
/-! THE CLAIM OUT OF ONE WALK OF THE LAW'S BODY. Your part is whole_start (and what it stands on); all else here is the same for every law, but numbers. -/
noncomputable def R_law : String := "BeardPassLaw"
noncomputable def lw_P (b : Addr) (xs : List Int32) (args : Array Value) (s : State) : Prop := args = #[.ref b] ∧ s.IntsAt b xs ∧ xs.length ≤ 3584 ∧ (Jvm.Cond.and given_1 narrow_1).before args s = true
noncomputable def lw_Q (_ : Array Value) (s : State) (o : Outcome) (t : State) : Prop := o = .returned (some (.int 1)) ∧ Framed s o t [] 601024 7293034
noncomputable def lw_Z (below : List Frame) (a : Array Value) (s : State) : State → Prop := fun t => ∃ o, t.status = .running ∧ Ended t below o ∧ lw_Q a s o t
/-- the law's own end, with 1 on the stack, nothing written that was there before, its room as the claim has it -/
theorem lw_ret {p : Program} {l : Launch} {e : Env} {s : State} {m : MethodId} {below : List Frame} {meth : Method} {c : Code} {b : Nat} (hx : p.tables.exec = Jvm.exec) (hb : c.code = code) (hr : meth.sig.returnType = ret) (hlocks : meth.locks = false) {pc : Nat} {H : Heap} {ls : Array Slot} (hdg : decode code pc = .ok (.ireturn, 1)) : W p l e room_1 s m #[Value.ref b] below meth c H [] 601024 7293034 (lw_Z below #[Value.ref b] s) (F0 m pc ls [.int 1]) := by
  intro T hT X
  obtain ⟨fs, hret, hrun, hended, hW, hframe⟩ := X.leave (v := some (.int 1)) (hlocks := hlocks) (fun h => by rw [hr] at h; cases h)
  have hmeth' : T.vm.method? m = some meth := X.method'
  refine ⟨T.setFrames fs, ?_, .returned (some (.int 1)), hrun, hended, rfl, ⟨_, rfl⟩, hW, hframe⟩
  jvm_step X.here [X.here.top, hx, hb, hdg, hmeth', hr, ret, narrow_b1]
  (try refine ⟨rfl, ?_⟩); (try refine ⟨rfl, ?_⟩)
  first | (intro acts; rw [hret _ acts rfl rfl rfl]) | rw [hret _ _ rfl rfl rfl]
  exact Steps.refl _
/-- what holds at the law's entry: the machine, the code, the tables' words (any of lw_tbl by 'hts w (by decide +kernel)'), the script of L ints xs at the cell b, what the Statement gives of the start (any of its parts by flat_of_before) -/
noncomputable def lw_At (p : Program) (s : State) (m : MethodId) (meth : Method) (c : Code) (b L : Nat) (xs : Nat → Int32) : Prop :=
  p.tables.exec = Jvm.exec ∧ c.code = code ∧ meth.sig.returnType = ret ∧ c.maxLocals = 7 ∧ s.vm.findClass R_law = some m.cls ∧ (∀ w ∈ lw_tbl, w.before #[Value.ref b] s = true) ∧ va_X b L xs s s.heap ∧ b < s.heap.size ∧ meth.locks = false ∧ (Jvm.Cond.and given_1 narrow_1).before #[Value.ref b] s = true
section
/-! ===== the throw of NoSuchElementException(String): its constructor calls its super's by entry 13 (so the kit's row for entry 7 doesn't serve); the proof follows the library's own law for entry 7, word by word where it can ===== -/
noncomputable def zsix : ByteArray := ⟨#[0x2a, 0x2b, 0xb7, 0x00, 0x0d, 0xb1]⟩
theorem zsix_0 : decode zsix 0 = .ok (.aload_n 0, 1) := by decide +kernel
theorem zsix_1 : decode zsix 1 = .ok (.aload_n 1, 1) := by decide +kernel
theorem zsix_2 : decode zsix 2 = .ok (.invokespecial 13, 3) := by decide +kernel
theorem zsix_5 : decode zsix 5 = .ok (.return_, 1) := by decide +kernel
noncomputable def zTail : List Cond := [.methodLink RX11 332 (Bundle.initS "java/util/NoSuchElementException"), .instantiable "java/util/NoSuchElementException" 6, .selects "java/util/NoSuchElementException" Bundle.tFill0 Bundle.tFill0, .selects "java/util/NoSuchElementException" Bundle.tFill Bundle.tFill, .lays "java/util/NoSuchElementException" Bundle.tN "cause" "Ljava/lang/Throwable;", .lays "java/util/NoSuchElementException" Bundle.tN "stackTrace" Bundle.steD, .lays "java/util/NoSuchElementException" Bundle.tN "suppressedExceptions" Bundle.listD, .lays "java/util/NoSuchElementException" Bundle.tN "detailMessage" "Ljava/lang/String;", .fieldLink Bundle.tN 198 Bundle.tN "backtrace" "Ljava/lang/Object;", .lays Bundle.tN Bundle.tN "backtrace" "Ljava/lang/Object;", .lays "java/util/NoSuchElementException" Bundle.tN "backtrace" "Ljava/lang/Object;"]
noncomputable def zOwn : List Cond := Bundle.throwableAtoms ++ (Bundle.throwableSAtoms ++ (Bundle.passSAtoms "java/util/NoSuchElementException" "java/lang/RuntimeException" 13 zsix ++ (Bundle.chainSAtoms "java/lang/RuntimeException" ["java/lang/Exception"] ++ zTail)))
/-- the words of it that a method's list may hold -/
noncomputable def zAt : List Cond := [.initialized Bundle.tN, .superclass Bundle.tN "java/lang/Object", .instanceMethod Bundle.tFill, .codeSync Bundle.tFill LibCode.Throwable.Fill.code 1 (some (.object Bundle.tN)), .instanceMethod Bundle.tFill0, .native Bundle.tFill0, .instanceMethod Bundle.tInit0, .code Bundle.tInit0 LibCode.Throwable.Init0.code 1 none, .instanceMethod Bundle.oInit, .code Bundle.oInit ⟨#[0xb1]⟩ 1 none, .methodLink Bundle.tN 1 Bundle.oInit, .methodLink Bundle.tN 27 Bundle.tFill, .methodLink Bundle.tN 202 Bundle.tFill0, .fieldLink Bundle.tN 7 Bundle.tN "cause" "Ljava/lang/Throwable;", .lays Bundle.tN Bundle.tN "cause" "Ljava/lang/Throwable;", .fieldLink Bundle.tN 17 Bundle.tN "stackTrace" Bundle.steD, .lays Bundle.tN Bundle.tN "stackTrace" Bundle.steD, .fieldLink Bundle.tN 24 Bundle.tN "suppressedExceptions" Bundle.listD, .lays Bundle.tN Bundle.tN "suppressedExceptions" Bundle.listD, .fieldLink Bundle.tN 13 Bundle.tN "UNASSIGNED_STACK" Bundle.steD, .fieldLink Bundle.tN 20 Bundle.tN "SUPPRESSED_SENTINEL" Bundle.listD, .lays Bundle.tN Bundle.tN "detailMessage" "Ljava/lang/String;", .instanceMethod (Bundle.initS Bundle.tN), .code (Bundle.initS Bundle.tN) LibCode.Throwable.InitS.code 2 none, .fieldLink Bundle.tN 31 Bundle.tN "detailMessage" "Ljava/lang/String;", .instanceMethod (Bundle.initS "java/util/NoSuchElementException"), .code (Bundle.initS "java/util/NoSuchElementException") zsix 2 none, .methodLink "java/util/NoSuchElementException" 13 (Bundle.initS "java/lang/RuntimeException"), .instanceMethod (Bundle.initS "java/lang/RuntimeException"), .code (Bundle.initS "java/lang/RuntimeException") Bundle.six 2 none, .methodLink "java/lang/RuntimeException" 7 (Bundle.initS "java/lang/Exception"), .instanceMethod (Bundle.initS "java/lang/Exception"), .code (Bundle.initS "java/lang/Exception") Bundle.six 2 none, .methodLink "java/lang/Exception" 7 (Bundle.initS Bundle.tN), .methodLink RX11 332 (Bundle.initS "java/util/NoSuchElementException"), .instantiable "java/util/NoSuchElementException" 6, .selects "java/util/NoSuchElementException" Bundle.tFill0 Bundle.tFill0, .selects "java/util/NoSuchElementException" Bundle.tFill Bundle.tFill, .lays "java/util/NoSuchElementException" Bundle.tN "cause" "Ljava/lang/Throwable;", .lays "java/util/NoSuchElementException" Bundle.tN "stackTrace" Bundle.steD, .lays "java/util/NoSuchElementException" Bundle.tN "suppressedExceptions" Bundle.listD, .lays "java/util/NoSuchElementException" Bundle.tN "detailMessage" "Ljava/lang/String;", .lays "java/util/NoSuchElementException" Bundle.tN "backtrace" "Ljava/lang/Object;", .fieldLink Bundle.tN 198 Bundle.tN "backtrace" "Ljava/lang/Object;", .lays Bundle.tN Bundle.tN "backtrace" "Ljava/lang/Object;"]
theorem zAt_good : ∀ w ∈ zAt, goodWord w = true := List.all_eq_true.mp (by decide +kernel)
theorem zdecl {x : MethodName} {b : ByteArray} {n : Nat} {r : Option FieldType} {args : Array Value} {s : State} (h1 : (Cond.instanceMethod x).before args s = true) (h2 : (Cond.code x b n r).before args s = true) : (Cond.declares x).before args s = true := by
  obtain ⟨m, meth, hn, hm, hst, hab⟩ := Cond.instanceMethod_spec h1
  obtain ⟨meth', cO, hm', -, -, -, -, -, -, hsig⟩ := Cond.code_spec hn h2
  cases Option.some.inj (hm.symm.trans hm')
  show (Cond.declares x).holds args s none s [] = true
  simp [Cond.holds, Cond.value, hn, hm, hst, hsig]
theorem zcastR {C : String} {cid : ClassId} {args : Array Value} {s : State} (h : s.vm.findClass C = some cid) : (Cond.castable C C).before args s = true := by
  show (Cond.castable C C).holds args s none s [] = true
  have ha : s.vm.assignable cid cid = true := by
    show s.vm.assignableAux (255 + 1) cid cid = true
    rw [Vm.assignableAux.eq_2, beq_self_eq_true, Bool.true_or]
  simp [Cond.holds, Cond.value, h, ha]
theorem zfc {P : Cond → Prop} {w : Cond} {a : List Cond} (h : P w) (ha : ∀ w ∈ a, P w) : ∀ w9 ∈ w :: a, P w9 := List.forall_mem_cons.mpr ⟨h, ha⟩
theorem zfa {P : Cond → Prop} {a b : List Cond} (ha : ∀ w ∈ a, P w) (hb : ∀ w ∈ b, P w) : ∀ w ∈ a ++ b, P w := fun w h => (List.mem_append.mp h).elim (ha w) (hb w)
theorem zfn {P : Cond → Prop} : ∀ w ∈ ([] : List Cond), P w := fun _ h => nomatch h
theorem zq {w : Cond} (i : Nat) (h : zAt[i]? = some w) : w ∈ zAt := List.mem_of_getElem? h
set_option maxRecDepth 20000 in
theorem zAt_own {args : Array Value} {s : State} (h : ∀ w ∈ zAt, w.before args s = true)
    (lU : (Cond.laysStatic Bundle.tN "UNASSIGNED_STACK" Bundle.steD).before args s = true) (lN : (Cond.laysStatic Bundle.tN "SUPPRESSED_SENTINEL" Bundle.listD).before args s = true) : ∀ w ∈ zOwn, w.before args s = true :=
  zfa (P := fun w => w.before args s = true) (show ∀ w ∈ Bundle.throwableAtoms, w.before args s = true from (zfc (P := fun w => w.before args s = true) (h _ (zq 0 rfl)) (zfc (P := fun w => w.before args s = true) (h _ (zq 1 rfl)) (zfc (P := fun w => w.before args s = true) (h _ (zq 2 rfl)) (zfc (P := fun w => w.before args s = true) (h _ (zq 3 rfl)) (zfc (P := fun w => w.before args s = true) (h _ (zq 4 rfl)) (zfc (P := fun w => w.before args s = true) (h _ (zq 5 rfl)) (zfc (P := fun w => w.before args s = true) (h _ (zq 6 rfl)) (zfc (P := fun w => w.before args s = true) (h _ (zq 7 rfl)) (zfc (P := fun w => w.before args s = true) (h _ (zq 8 rfl)) (zfc (P := fun w => w.before args s = true) (h _ (zq 9 rfl)) (zfc (P := fun w => w.before args s = true) (h _ (zq 10 rfl)) (zfc (P := fun w => w.before args s = true) (h _ (zq 11 rfl)) (zfc (P := fun w => w.before args s = true) (h _ (zq 12 rfl)) (zfc (P := fun w => w.before args s = true) (h _ (zq 13 rfl)) (zfc (P := fun w => w.before args s = true) (h _ (zq 14 rfl)) (zfc (P := fun w => w.before args s = true) (h _ (zq 15 rfl)) (zfc (P := fun w => w.before args s = true) (h _ (zq 16 rfl)) (zfc (P := fun w => w.before args s = true) (h _ (zq 17 rfl)) (zfc (P := fun w => w.before args s = true) (h _ (zq 18 rfl)) (zfc (P := fun w => w.before args s = true) (h _ (zq 19 rfl)) (zfc (P := fun w => w.before args s = true) lU (zfc (P := fun w => w.before args s = true) (h _ (zq 20 rfl)) (zfc (P := fun w => w.before args s = true) lN (zfc (P := fun w => w.before args s = true) (h _ (zq 21 rfl)) zfn))))))))))))))))))))))))) (zfa (P := fun w => w.before args s = true) (show ∀ w ∈ Bundle.throwableSAtoms, w.before args s = true from (zfc (P := fun w => w.before args s = true) (h _ (zq 22 rfl)) (zfc (P := fun w => w.before args s = true) (h _ (zq 23 rfl)) (zfc (P := fun w => w.before args s = true) (h _ (zq 24 rfl)) (zfc (P := fun w => w.before args s = true) (h _ (zq 21 rfl)) zfn))))) (zfa (P := fun w => w.before args s = true) (show ∀ w ∈ Bundle.passSAtoms "java/util/NoSuchElementException" "java/lang/RuntimeException" 13 zsix, w.before args s = true from (zfc (P := fun w => w.before args s = true) (h _ (zq 25 rfl)) (zfc (P := fun w => w.before args s = true) (h _ (zq 26 rfl)) (zfc (P := fun w => w.before args s = true) (h _ (zq 27 rfl)) (zfc (P := fun w => w.before args s = true) (h _ (zq 28 rfl)) (zfc (P := fun w => w.before args s = true) (zdecl (h _ (zq 28 rfl)) (h _ (zq 29 rfl))) zfn)))))) (zfa (P := fun w => w.before args s = true) (show ∀ w ∈ Bundle.passSAtoms "java/lang/RuntimeException" "java/lang/Exception" 7 Bundle.six ++ Bundle.passSAtoms "java/lang/Exception" Bundle.tN 7 Bundle.six, w.before args s = true from zfa (P := fun w => w.before args s = true) (zfc (P := fun w => w.before args s = true) (h _ (zq 28 rfl)) (zfc (P := fun w => w.before args s = true) (h _ (zq 29 rfl)) (zfc (P := fun w => w.before args s = true) (h _ (zq 30 rfl)) (zfc (P := fun w => w.before args s = true) (h _ (zq 31 rfl)) (zfc (P := fun w => w.before args s = true) (zdecl (h _ (zq 31 rfl)) (h _ (zq 32 rfl))) zfn))))) (zfc (P := fun w => w.before args s = true) (h _ (zq 31 rfl)) (zfc (P := fun w => w.before args s = true) (h _ (zq 32 rfl)) (zfc (P := fun w => w.before args s = true) (h _ (zq 33 rfl)) (zfc (P := fun w => w.before args s = true) (h _ (zq 22 rfl)) (zfc (P := fun w => w.before args s = true) (zdecl (h _ (zq 22 rfl)) (h _ (zq 23 rfl))) zfn)))))) (show ∀ w ∈ zTail, w.before args s = true from (zfc (P := fun w => w.before args s = true) (h _ (zq 34 rfl)) (zfc (P := fun w => w.before args s = true) (h _ (zq 35 rfl)) (zfc (P := fun w => w.before args s = true) (h _ (zq 36 rfl)) (zfc (P := fun w => w.before args s = true) (h _ (zq 37 rfl)) (zfc (P := fun w => w.before args s = true) (h _ (zq 38 rfl)) (zfc (P := fun w => w.before args s = true) (h _ (zq 39 rfl)) (zfc (P := fun w => w.before args s = true) (h _ (zq 40 rfl)) (zfc (P := fun w => w.before args s = true) (h _ (zq 41 rfl)) (zfc (P := fun w => w.before args s = true) (h _ (zq 43 rfl)) (zfc (P := fun w => w.before args s = true) (h _ (zq 44 rfl)) (zfc (P := fun w => w.before args s = true) (h _ (zq 42 rfl)) zfn)))))))))))))))
section ZTH
variable {p : Program} {l : Launch} {e : Env} {R : Room} {s : State} {m : MethodId} {args : Array Value} {below : List Frame} {meth : Method} {c : Code} {V : State} {locs : List Loc} {cells slots : Nat}
theorem zT1 {w : Cond} (h : w ∈ Bundle.throwableAtoms) : w ∈ zOwn := List.mem_append_left _ h
theorem zT2 {w : Cond} (h : w ∈ Bundle.throwableSAtoms) : w ∈ zOwn := List.mem_append_right _ (List.mem_append_left _ h)
theorem zT3 {w : Cond} (h : w ∈ Bundle.passSAtoms "java/util/NoSuchElementException" "java/lang/RuntimeException" 13 zsix) : w ∈ zOwn := List.mem_append_right _ (List.mem_append_right _ (List.mem_append_left _ h))
theorem zT4 {w : Cond} (h : w ∈ Bundle.chainSAtoms "java/lang/RuntimeException" ["java/lang/Exception"]) : w ∈ zOwn := List.mem_append_right _ (List.mem_append_right _ (List.mem_append_right _ (List.mem_append_left _ h)))
theorem zT5 {w : Cond} (h : w ∈ zTail) : w ∈ zOwn := List.mem_append_right _ (List.mem_append_right _ (List.mem_append_right _ (List.mem_append_right _ h)))
set_option maxHeartbeats 1000000 in
theorem zctor (X : Stand p l e R s m args below meth c V locs cells slots) (hexec : p.tables.exec = Jvm.exec) (htr : e.platform.stackTraces = false)
    (hown : s.vm.findClass RX11 = some m.cls) (h : ∀ w ∈ zOwn, w.before args s = true)
    (hU0 : (Cond.isRef (.static Bundle.tN "UNASSIGNED_STACK" Bundle.steD)).before args s = true) (hN0 : (Cond.isRef (.static Bundle.tN "SUPPRESSED_SENTINEL" Bundle.listD)).before args s = true)
    (hUS : ∀ cell, (∃ x ∈ locs, s.heap[x.base]? = some cell) → cell.vm.isStatics = false)
    {a : Addr} {cX : ClassId} {kX : Class} (hfX : s.vm.findClass "java/util/NoSuchElementException" = some cX) (hkX : s.vm.classes[cX]? = some kX) (hcell : V.heap[a]? = some (freshCell cX kX)) (hnew : s.heap.size ≤ a)
    {msg : Value} (hmsg : msg.isRef = true)
    {g : JFrame} (hg : g.method = m) (hsize : g.locals.size = c.maxLocals) (hlocked : g.locked = none) (hentered : g.entered = []) {rest : List Value} (hstack : g.stack = msg :: .ref a :: .ref a :: rest)
    (d0 : decode c.code g.pc = .ok (.invokespecial 332, 3)) (d3 : decode c.code (g.pc + 3) = .ok (.athrow, 1)) (hout : ∀ x ∈ c.exceptionTable.toList, covers x (g.pc + 3) = false)
    (hF : 5 < R.frames) (hL9 : 2 * g.monitorRoom + ((Value.ref a :: rest).map fun v => v.category).sum + 81 ≤ R.locals) (hlocks : meth.locks = false) :
    ∃ U : State, Steps p.tables e below (V.setTop g) U ∧ U.status = .running ∧ Ended U below (.threw a) ∧ s.WarmedH U.vm ∧ s.sameButNew ({ U with vm := s.vm } : State) locs cells slots ∧
      ∃ ce, U.heap[a]? = some ce ∧ ce.vm = .none ∧ s.vm.findClass "java/util/NoSuchElementException" = some ce.cls := by
  have ho : e.platform.frameOwnsMonitors = true := by rw [X.admits.platform]
  have hz : e.platform.finalization = false := by rw [X.admits.platform]
  have hp : e.platform.magicAccessors = ({} : Platform).magicAccessors := by rw [X.admits.platform]
  have ht : ∀ w ∈ zTail, w.holds args s none s [] = true := fun w hw => h w (zT5 hw)
  obtain ⟨T, Z0, L, -, Y⟩ := ThrowableC.of_atoms (args := args) ho hz hp (fun x hx => h x (zT1 hx))
  obtain ⟨Z, M, LZ, LM, hnZ⟩ := Init0T.ofS_atoms (args := args) hp L Y (fun x hx => h x (zT2 hx))
  obtain ⟨P1, L1, n1, s1⟩ := PassC.ofS_atoms (args := args) (s := s) hp (X := "java/util/NoSuchElementException") (Y := "java/lang/RuntimeException") (by decide) (by decide) zsix_0 zsix_1 zsix_2 zsix_5 (fun x hx => h x (zT3 hx))
  obtain ⟨P2, Ps, hlen, L2, hLs, n2, k2, kk⟩ := Bundle.chainS (args := args) hp hnZ ["java/lang/Exception"] "java/lang/RuntimeException" (by decide) (by decide) (fun x hx => h x (zT4 hx))
  have hlen : Ps.length = 1 := hlen
  have hlink : PassesOn (Z.m T.toThrowableT) ((P1 :: P2 :: Ps).map (·.toPassT)) := ⟨Option.some.inj (s1.symm.trans n2), k2, kk⟩
  have hLink : ∀ P, P ∈ P1 :: P2 :: Ps → P.LinksS e.platform s := fun P hP => by
    rcases List.mem_cons.mp hP with rfl | hP
    · exact L1
    · rcases List.mem_cons.mp hP with rfl | hP
      · exact L2
      · exact hLs P hP
  have hf : s.vm.findClass "java/util/NoSuchElementException" = some P1.m.cls := findClass_of_methodNamed n1
  cases Option.some.inj (hfX.symm.trans hf)
  obtain ⟨c1, k', hc1, hk, hord, -, -, hn6⟩ := Cond.instantiable_spec (ht (.instantiable "java/util/NoSuchElementException" 6) (by simp [zTail]))
  cases Option.some.inj (hc1.symm.trans hf)
  cases Option.some.inj (hkX.symm.trans hk)
  have sel0 : selectMethod e.platform s.vm P1.m.cls T.fill0 = .method T.fill0 := by
    obtain ⟨c2, r2, m2, q1, q2, q3, q4, -⟩ := Cond.selects_spec (ht (.selects "java/util/NoSuchElementException" Bundle.tFill0 Bundle.tFill0) (by simp [zTail]))
    cases Option.some.inj (q1.symm.trans hf)
    cases Option.some.inj (q2.symm.trans (State.methodFound?_of_named Y.fill0 (by decide)))
    cases Option.some.inj (q3.symm.trans Y.fill0)
    rw [Launch.admits_selectMethod X.admits]; exact q4
  have selF : selectMethod e.platform s.vm P1.m.cls T.fill = .method T.fill := by
    obtain ⟨c2, r2, m2, q1, q2, q3, q4, -⟩ := Cond.selects_spec (ht (.selects "java/util/NoSuchElementException" Bundle.tFill Bundle.tFill) (by simp [zTail]))
    cases Option.some.inj (q1.symm.trans hf)
    cases Option.some.inj (q2.symm.trans (State.methodFound?_of_named Y.fill (by decide)))
    cases Option.some.inj (q3.symm.trans Y.fill)
    rw [Launch.admits_selectMethod X.admits]; exact q4
  obtain ⟨cS, hcS, hiss⟩ := Y.statics
  obtain ⟨u0, hu0⟩ := Cond.staticRefV Y.unassigned L.unassignedStatic L.statics hcS hiss hU0
  obtain ⟨sen, hsen⟩ := Cond.staticRefV Y.sentinel L.sentinelStatic L.statics hcS hiss hN0
  obtain ⟨ci9, i9, fB, hk9, hg9, ha9, hsB, -, hnB, htB, hfB⟩ := Cond.ownField (t := .object "java/lang/Object") Y.found L.cls (by decide +kernel) (ht (.fieldLink Bundle.tN 198 Bundle.tN "backtrace" "Ljava/lang/Object;") (by simp [zTail])) (ht (.lays Bundle.tN Bundle.tN "backtrace" "Ljava/lang/Object;") (by simp [zTail])) e.platform hp
  obtain ⟨cV, hcV, heV, -, hkeep⟩ := X.same.2.2.2.2.2 T.aS cS hcS
  have hcV : V.heap[T.aS]? = some cV := hcV
  have hfar : ∀ i, (⟨T.aS, i⟩ : Loc) ∉ locs := fun i hm => by
    have := hUS cS ⟨_, hm, hcS⟩
    rw [hiss] at this; cases this
  have hknown : cV.vm ≠ .unknown := by
    rw [heV]; intro hu
    rw [show cS.vm = .unknown from hu] at hiss
    cases hiss
  have hne : T.aS ≠ a := Nat.ne_of_lt (Nat.lt_of_lt_of_le (Array.getElem?_eq_some_iff.mp hcS).1 hnew)
  obtain ⟨iM, hfM⟩ := Y.msg
  obtain ⟨tC, dC, hdC, hnC⟩ := Cond.laysAt hf hk Y.cause (ht (.lays "java/util/NoSuchElementException" Bundle.tN "cause" "Ljava/lang/Throwable;") (by simp [zTail]))
  obtain ⟨tS, dS, hdS, hnS⟩ := Cond.laysAt hf hk Y.stack (ht (.lays "java/util/NoSuchElementException" Bundle.tN "stackTrace" Bundle.steD) (by simp [zTail]))
  obtain ⟨tP, dP, hdP, hnP⟩ := Cond.laysAt hf hk Y.supp (ht (.lays "java/util/NoSuchElementException" Bundle.tN "suppressedExceptions" Bundle.listD) (by simp [zTail]))
  obtain ⟨tM, dM, hdM, hnM⟩ := Cond.laysAt hf hk hfM (ht (.lays "java/util/NoSuchElementException" Bundle.tN "detailMessage" "Ljava/lang/String;") (by simp [zTail]))
  obtain ⟨tB, dB, hdB, hnB'⟩ := Cond.laysAt hf hk hfB (ht (.lays "java/util/NoSuchElementException" Bundle.tN "backtrace" "Ljava/lang/Object;") (by simp [zTail]))
  have bC := Cond.laysApart hdB hdC hnB' hnC (by rw [hnB, Y.causeName]; decide)
  have bS := Cond.laysApart hdB hdS hnB' hnS (by rw [hnB, Y.stackName]; decide)
  have bP := Cond.laysApart hdB hdP hnB' hnP (by rw [hnB, Y.suppName]; decide)
  have hskip : SkipFacts T e.platform s (fun u => u) u0 ((preparedCellV T.toThrowableT (freshCell P1.m.cls kX) a u0 sen).withEntry V.cur) :=
    ⟨{ ci198 := ci9, i198 := i9, fBack := fB }, ⟨hk9, hg9, ha9, hsB⟩, by
      have := fresh_default (c := P1.m.cls) tB
      rw [htB] at this
      simpa [preparedCellV, Cell.setSlot, Cell.withEntry, Array.getElem?_setIfInBounds, bC, bS, bP, bC.symm, bS.symm, bP.symm, defaultValue] using this, fun _ _ => rfl⟩
  obtain ⟨tm, mC, cdC, kC, vm1, hnm, -, -, -, -, -, -, -, hW1, st1⟩ := Steps.initColdS (tb := p.tables) (e := e) (below := below) (s := s) (U := V) X.here hexec X.warmed hp hown (t := Bundle.initS "java/util/NoSuchElementException") rfl rfl (by decide)
    (ht (.methodLink RX11 332 (Bundle.initS "java/util/NoSuchElementException")) (by simp [zTail])) (h (.instanceMethod (Bundle.initS "java/util/NoSuchElementException")) (zT3 (by simp [Bundle.passSAtoms]))) (bytes := zsix) (maxL := 2) (h (.code (Bundle.initS "java/util/NoSuchElementException") zsix 2 none) (zT3 (by simp [Bundle.passSAtoms])))
    (f := g) hg (a := a) (msg := msg) (rest := .ref a :: rest) hstack d0
  cases Option.some.inj (hnm.symm.trans n1)
  obtain ⟨vm2, X2, st2⟩ := (X.noted hW1).ctorMessageOffV hexec (g := { g with stack := .ref a :: rest }) hg hsize T L Z LZ M LM (P1 :: P2 :: Ps)
    hLink hlink (u0 := u0) (sen := sen) (self := a) hmsg (cell := freshCell P1.m.cls kX) (cellS := cV)
    hcell (fun _ => by simp) (by simp) rfl rfl sel0 selF hcV hne hknown (by rw [hkeep _ (hfar _)]; exact hu0) (by rw [hkeep _ (hfar _)]; exact hsen)
    (Takes.of_laid hk hord tC (by rw [Y.causeType]; rfl)) (Takes.of_laid hk hord tS (by rw [Y.stackType]; exact fits_refV_array _ u0)) (Takes.of_laid hk hord tP (by rw [Y.suppType]; exact fits_refV_object _ sen))
    (Takes.of_laid hk hord tM (by rw [Y.msgType]; exact fits_refV_object _ ⟨msg, hmsg⟩)) Y.objLocals hskip htr [] d0
    (by simp only [List.length_cons, hlen]; omega) (by simp only [List.length_cons, hlen]; exact hL9)
  obtain ⟨hwalk, hrun, hended, hWU, hsame⟩ := X2.athrowLeaves hexec (g := { g with stack := .ref a :: rest, pc := g.pc + 3 }) hg hlocked hentered hout (a := a) (rest := rest) rfl d3
  have hlt : a < ((V.setVm vm1).setVm vm2).heap.size := (Array.getElem?_eq_some_iff.mp hcell).1
  have hU := heapAt_setCell_self (s := (V.setVm vm1).setVm vm2) (plainBareV T.toThrowableT (freshCell P1.m.cls kX) a u0 sen msg) hlt
  refine ⟨_, st1 _ (fun acts => ?_), hrun, hended, hWU, hsame.weaken (fun y hy hl => ?_) (Nat.le_refl _) (Nat.le_refl _), _, hU, rfl, hf⟩
  · rw [doInvoke_state]
    exact st2 _ hwalk
  · rcases List.mem_append.mp hy with h1 | h1
    · exact h1
    · exfalso
      have hb : y.base = a := by
        simp only [List.mem_cons, List.not_mem_nil, or_false] at h1
        rcases h1 with rfl | rfl | rfl | rfl | rfl <;> rfl
      rw [hb] at hl
      exact Nat.not_lt.mpr hnew hl
/-- 'throw new NoSuchElementException(text)': new; dup; ldc_w; invokespecial; athrow -/
theorem zthrow {H : Heap} {ls : Array Slot} {rest : List Value} {Qc : Array Value → State → Outcome → State → Prop} {XC : String → State → State → Prop} {free : Addr → Prop} {cc : ByteArray} {pc : Nat} (hexec : p.tables.exec = Jvm.exec) (hb : c.code = cc) (hl : l.stackTraces = false) {text : String} {is mc ms sa : Nat} {A : Nat → Prop}
    (hown : s.vm.findClass RX11 = some m.cls)
    (hk : (Cond.classLink RX11 328 "java/util/NoSuchElementException").before args s = true) (hini : (Cond.initialized "java/util/NoSuchElementException").before args s = true) (hstr : vk_R RX11 is text sa s) (hat : ∀ w ∈ zAt, w.before args s = true)
    (hU : vx_Zq Bundle.tN "UNASSIGNED_STACK" Bundle.steD A s s.heap) (hN : vx_Zq Bundle.tN "SUPPRESSED_SENTINEL" Bundle.listD A s s.heap) (hS : va_S A s.heap H locs) (hsize : ls.size = c.maxLocals)
    (d0 : decode cc pc = .ok (.new 328, 3)) (d3 : decode cc (pc + 3) = .ok (.dup, 1)) (d4 : decode cc (pc + 4) = .ok (.ldc_w is, 3)) (d7 : decode cc (pc + 7) = .ok (.invokespecial 332, 3)) (d10 : decode cc (pc + 10) = .ok (.athrow, 1))
    (hout : ∀ x ∈ c.exceptionTable.toList, covers x (pc + 10) = false)
    (hF : 5 < R.frames) (hL9 : (rest.map fun v => v.category).sum + 82 ≤ R.locals) (hRcells : cells + 1 ≤ R.cells) (hRslots : slots + 6 ≤ R.slots) (hlocks : meth.locks = false)
    (hx : ∀ t : State, s.vm.Alike t.vm → H.size ≤ t.heap.size → (∀ q : Nat, q < H.size → t.heap[q]? = H[q]?) → XC "java/util/NoSuchElementException" s t)
    (hf : ∀ z ∈ locs, free z.base) (hc : cells + 1 ≤ mc) (hs : slots + 6 ≤ ms) :
    W p l e R s m args below meth c H locs cells slots (vx_MQ below Qc XC args s mc ms free) (F0 m pc ls rest) := by
  intro T hT X
  have htr : e.platform.stackTraces = false := (show e.platform.stackTraces = l.stackTraces by rw [X.admits.platform]).trans hl
  have Y := vx_rebase X (R' := { frames := R.frames, locals := R.locals, cells := 1, slots := 6 }) (Nat.le_refl _) (Nat.le_refl _) hRcells hRslots
  obtain ⟨s', hA⟩ : ∃ z, z = (T.setVm s.vm).setFrames (.invoking m args :: below) := ⟨_, rfl⟩
  rw [← hA] at Y
  have hvm : s'.vm = s.vm := by rw [hA]; rfl
  have hhp : s'.heap = H := by rw [hA]; exact hT
  have hW0 : s.WarmedH s'.vm := by rw [hvm]; exact State.WarmedH.refl s
  have go : ∀ w : Cond, goodWord w = true → w.before args s = true → w.before args s' = true := fun w hg h => word_at hW0 (good_of_word hg) h
  have hU' : vx_Zq Bundle.tN "UNASSIGNED_STACK" Bundle.steD A s' s'.heap := by rw [hhp]; exact vx_Zq.moved hW0.alike (hU.kept hS.2.1)
  have hN' : vx_Zq Bundle.tN "SUPPRESSED_SENTINEL" Bundle.listD A s' s'.heap := by rw [hhp]; exact vx_Zq.moved hW0.alike (hN.kept hS.2.1)
  have h : ∀ w ∈ zOwn, w.before args s' = true := zAt_own (fun w hw => go w (zAt_good w hw) (hat w hw)) hU'.2.word hN'.2.word
  have hown' : s'.vm.findClass RX11 = some m.cls := by rw [hvm]; exact hown
  have hins : (Cond.instantiable "java/util/NoSuchElementException" 6).before args s' = true := h _ (zT5 (by simp [zTail]))
  obtain ⟨vm₁, cX, kX, hfX, hkX, -, -, X₁, st1⟩ := Y.newCold hexec (own := RX11) (C := "java/util/NoSuchElementException") (index := 328) (n := 6) hown' (go _ (by decide) hk) hins (go _ (by decide) hini)
    (g := F0 m pc ls rest) rfl (by rw [hb]; exact d0) (Nat.le_refl _) (Nat.le_refl _)
  generalize hT1 : (T.setVm vm₁).pushCell { cls := cX, slots := kX.instanceTypes.map defaultValue, vm := .none } = T1 at X₁ st1
  have hcat : (Value.ref T.heap.size).category = 1 := rfl
  have hcellA : T1.heap[T.heap.size]? = some (freshCell cX kX) := by rw [← hT1]; exact State.heap_pushCell_size _ _
  have d3' : decode c.code (pc + 3) = .ok (.dup, 1) := by rw [hb]; exact d3
  have d4' : decode c.code (pc + 4) = .ok (.ldc_w is, 3) := by rw [hb]; exact d4
  have hstr' : vk_R RX11 is text sa s' := vk_R.warm hW0 hstr
  obtain ⟨U, hsteps, hrun, hend, hW, hsame, ce, hce, hcv, hcl⟩ := zctor X₁ hexec htr hown' h (vx_isRefq hU'.1) (vx_isRefq hN'.1) (fun x hx => by obtain ⟨y, hy, -⟩ := hx; nomatch hy) hfX hkX hcellA (by rw [hhp, hT]; exact Nat.le_refl _) (msg := .ref sa) rfl
    (g := { method := m, pc := pc + 7, locals := ls, stack := .ref sa :: .ref T.heap.size :: .ref T.heap.size :: rest, locked := none }) rfl hsize rfl rfl (rest := rest) rfl
    (by rw [hb]; exact d7) (by rw [hb]; exact d10) hout hF (by simp only [List.map_cons, List.sum_cons, hcat]; omega) hlocks
  obtain ⟨f1, f2⟩ := vx_frame hsame
  rw [hhp] at f1 f2
  have hWs : s.WarmedH U.vm := State.WarmedH.trans hW0 hW
  rw [hvm] at hcl
  have hall : s.sameButNew ({ U with vm := s.vm } : State) locs mc ms := by
    subst hA
    obtain ⟨e1, e2⟩ := hsame
    rw [State.setFrames_setFrames] at e1
    have h2 : (T.setVm s.vm).sameButNew ({ U with vm := s.vm } : State) [] (0 + 1) (0 + 6) := ⟨e1, e2⟩
    have h3 := X.same.trans h2
    rw [List.append_nil] at h3
    exact h3.mono hc hs
  refine ⟨U, ?_, .threw T.heap.size, hrun, hend, Or.inr ⟨T.heap.size, rfl, "java/util/NoSuchElementException", ce, locs, hx U hWs.alike f1 (fun q hq => f2 q hq (fun z hz => nomatch hz)), hce, hcv, hcl, hWs, hall, hf⟩⟩
  refine st1 _ ?_
  show Steps p.tables e below (T1.setTop { method := m, pc := pc + 3, locals := ls, stack := .ref T.heap.size :: rest, locked := none }) _
  jvm_step X₁.here [X₁.here.top, hexec, d3', Value.category]
  exact X₁.ldcStringW hexec (own := RX11) (text := text) (index := is) (a := sa) hown' hstr'.1 hstr'.2
    (g := { method := m, pc := pc + 4, locals := ls, stack := .ref T.heap.size :: .ref T.heap.size :: rest, locked := none }) rfl d4' _ hsteps
end ZTH
end
noncomputable def zwsR : List Cond := .code yX11_rests cX11_rests 6 (some .int) :: ([.classLink RX11 328 "java/util/NoSuchElementException", .initialized "java/util/NoSuchElementException", .methodLink RX11 325 yX11_isStake, .static yX11_isStake, .initialized RX11, .code yX11_isStake cX11_isStake 1 (some .boolean), .methodLink RX11 335 yX11_isAtRest, .static yX11_isAtRest, .code yX11_isAtRest cX11_isAtRest 3 (some .boolean), .methodLink RX11 341 yX11_guardGets, .static yX11_guardGets, .code yX11_guardGets cX11_guardGets 3 (some .int), .methodLink RX11 345 yX11_travellerGets, .static yX11_travellerGets, .code yX11_travellerGets cX11_travellerGets 3 (some .int)] ++ zAt)
noncomputable def zwsRL : List Cond := .codeWith yL_rests cL_rests 6 (some .int) [(0, 12, 15, 13)] :: ([.classLink RL 13 "java/util/NoSuchElementException", .methodLink RL 7 yX11_rests, .instanceMethod yX11_rests, .selects RX11 yX11_rests yX11_rests, .initialized RX11, .code yX11_rests cX11_rests 6 (some .int), .classLink RX11 328 "java/util/NoSuchElementException", .initialized "java/util/NoSuchElementException", .methodLink RX11 325 yX11_isStake, .static yX11_isStake, .code yX11_isStake cX11_isStake 1 (some .boolean), .methodLink RX11 335 yX11_isAtRest, .static yX11_isAtRest, .code yX11_isAtRest cX11_isAtRest 3 (some .boolean), .methodLink RX11 341 yX11_guardGets, .static yX11_guardGets, .code yX11_guardGets cX11_guardGets 3 (some .int), .methodLink RX11 345 yX11_travellerGets, .static yX11_travellerGets, .code yX11_travellerGets cX11_travellerGets 3 (some .int)] ++ zAt)
theorem zwsR_good : ∀ w ∈ zwsR, goodWord w = true := List.all_eq_true.mp (by decide +kernel)
theorem zwsRL_good : ∀ w ∈ zwsRL, goodWord w = true := List.all_eq_true.mp (by decide +kernel)
theorem zRp {w : Cond} (i : Nat) (h : zwsR[i]? = some w) : w ∈ zwsR := List.mem_of_getElem? h
theorem zLp {w : Cond} (i : Nat) (h : zwsRL[i]? = some w) : w ∈ zwsRL := List.mem_of_getElem? h
theorem zRa : ∀ w ∈ zAt, w ∈ zwsR := fun _ h => List.mem_cons_of_mem _ (List.mem_append_right _ h)
theorem zLa : ∀ w ∈ zAt, w ∈ zwsRL := fun _ h => List.mem_cons_of_mem _ (List.mem_append_right _ h)
theorem zgR {ws : List Cond} (h : ∀ w ∈ ws, w ∈ zwsR) : GoodIn zwsR ws := fun w hw => ⟨h w hw, good_of_word (zwsR_good w (h w hw))⟩
theorem zgRL {ws : List Cond} (h : ∀ w ∈ ws, w ∈ zwsRL) : GoodIn zwsRL ws := fun w hw => ⟨h w hw, good_of_word (zwsRL_good w (h w hw))⟩
theorem gX11_rests_X11_isStake : GoodIn zwsR (va_wsS RX11 325 yX11_isStake wsX11_isStake) := zgR (zmem (zcm (zRp 3 rfl) (zcm (zRp 4 rfl) (zcm (zRp 5 rfl) znm))) (zcm (zRp 6 rfl) znm))
theorem gX11_rests_X11_isAtRest : GoodIn zwsR (va_wsS RX11 335 yX11_isAtRest wsX11_isAtRest) := zgR (zmem (zcm (zRp 7 rfl) (zcm (zRp 8 rfl) (zcm (zRp 5 rfl) znm))) (zcm (zRp 9 rfl) (zcm (zRp 10 rfl) (zcm (zRp 11 rfl) (zcm (zRp 5 rfl) (zcm (zRp 12 rfl) (zcm (zRp 13 rfl) (zcm (zRp 14 rfl) (zcm (zRp 15 rfl) znm)))))))))
theorem gL_rests_X11_rests : GoodIn zwsRL (wsV RL 7 RX11 yX11_rests zwsR) := zgRL (zmem (zcm (zLp 2 rfl) (zcm (zLp 3 rfl) (zcm (zLp 4 rfl) (zcm (zLp 5 rfl) znm)))) (zcm (zLp 6 rfl) (zmem (zcm (zLp 7 rfl) (zcm (zLp 8 rfl) (zcm (zLp 9 rfl) (zcm (zLp 10 rfl) (zcm (zLp 5 rfl) (zcm (zLp 11 rfl) (zcm (zLp 12 rfl) (zcm (zLp 13 rfl) (zcm (zLp 14 rfl) (zcm (zLp 15 rfl) (zcm (zLp 16 rfl) (zcm (zLp 17 rfl) (zcm (zLp 18 rfl) (zcm (zLp 19 rfl) (zcm (zLp 20 rfl) znm))))))))))))))) zLa)))
set_option maxRecDepth 20000 in
theorem zAt_in : ∀ w ∈ zAt, w ∈ lw_tbl := (zcm (ztm1 23 (by first | rfl | decide +kernel)) (zcm (ztm5 132 (by first | rfl | decide +kernel)) (zcm (ztm5 141 (by first | rfl | decide +kernel)) (zcm (ztm5 143 (by first | rfl | decide +kernel)) (zcm (ztm5 146 (by first | rfl | decide +kernel)) (zcm (ztm5 148 (by first | rfl | decide +kernel)) (zcm (ztm5 133 (by first | rfl | decide +kernel)) (zcm (ztm5 134 (by first | rfl | decide +kernel)) (zcm (ztm1 33 (by first | rfl | decide +kernel)) (zcm (ztm1 34 (by first | rfl | decide +kernel)) (zcm (ztm5 135 (by first | rfl | decide +kernel)) (zcm (ztm5 140 (by first | rfl | decide +kernel)) (zcm (ztm5 144 (by first | rfl | decide +kernel)) (zcm (ztm5 164 (by first | rfl | decide +kernel)) (zcm (ztm5 122 (by first | rfl | decide +kernel)) (zcm (ztm5 165 (by first | rfl | decide +kernel)) (zcm (ztm5 124 (by first | rfl | decide +kernel)) (zcm (ztm5 166 (by first | rfl | decide +kernel)) (zcm (ztm5 126 (by first | rfl | decide +kernel)) (zcm (ztm5 136 (by first | rfl | decide +kernel)) (zcm (ztm5 138 (by first | rfl | decide +kernel)) (zcm (ztm5 128 (by first | rfl | decide +kernel)) (zcm (ztm5 160 (by first | rfl | decide +kernel)) (zcm (ztm5 161 (by first | rfl | decide +kernel)) (zcm (ztm5 163 (by first | rfl | decide +kernel)) (zcm (ztm5 151 (by first | rfl | decide +kernel)) (zcm (ztm5 152 (by first | rfl | decide +kernel)) (zcm (ztm5 153 (by first | rfl | decide +kernel)) (zcm (ztm5 154 (by first | rfl | decide +kernel)) (zcm (ztm5 155 (by first | rfl | decide +kernel)) (zcm (ztm5 156 (by first | rfl | decide +kernel)) (zcm (ztm5 157 (by first | rfl | decide +kernel)) (zcm (ztm5 158 (by first | rfl | decide +kernel)) (zcm (ztm5 159 (by first | rfl | decide +kernel)) (zcm (ztm5 150 (by first | rfl | decide +kernel)) (zcm (ztm5 111 (by first | rfl | decide +kernel)) (zcm (ztm5 119 (by first | rfl | decide +kernel)) (zcm (ztm5 120 (by first | rfl | decide +kernel)) (zcm (ztm5 121 (by first | rfl | decide +kernel)) (zcm (ztm5 123 (by first | rfl | decide +kernel)) (zcm (ztm5 125 (by first | rfl | decide +kernel)) (zcm (ztm5 127 (by first | rfl | decide +kernel)) (zcm (ztm5 129 (by first | rfl | decide +kernel)) (zcm (ztm5 131 (by first | rfl | decide +kernel)) (zcm (ztm5 130 (by first | rfl | decide +kernel)) znm)))))))))))))))))))))))))))))))))))))))))))))
set_option maxRecDepth 20000 in
theorem zBig_in : ∀ w ∈ va_wsS RL 145 yL_rests zwsRL, w ∈ lw_tbl := zmem (zcm (ztm5 99 (by first | rfl | decide +kernel)) (zcm (ztm5 100 (by first | rfl | decide +kernel)) (zcm (ztm1 0 (by first | rfl | decide +kernel)) znm))) (zcm (ztm5 101 (by first | rfl | decide +kernel)) (zmem (zcm (ztm5 102 (by first | rfl | decide +kernel)) (zcm (ztm5 103 (by first | rfl | decide +kernel)) (zcm (ztm5 104 (by first | rfl | decide +kernel)) (zcm (ztm5 105 (by first | rfl | decide +kernel)) (zcm (ztm1 1 (by first | rfl | decide +kernel)) (zcm (ztm5 106 (by first | rfl | decide +kernel)) (zcm (ztm5 110 (by first | rfl | decide +kernel)) (zcm (ztm1 26 (by first | rfl | decide +kernel)) (zcm (ztm5 107 (by first | rfl | decide +kernel)) (zcm (ztm5 108 (by first | rfl | decide +kernel)) (zcm (ztm5 109 (by first | rfl | decide +kernel)) (zcm (ztm5 175 (by first | rfl | decide +kernel)) (zcm (ztm5 176 (by first | rfl | decide +kernel)) (zcm (ztm5 177 (by first | rfl | decide +kernel)) (zcm (ztm5 178 (by first | rfl | decide +kernel)) (zcm (ztm5 179 (by first | rfl | decide +kernel)) (zcm (ztm5 180 (by first | rfl | decide +kernel)) (zcm (ztm5 181 (by first | rfl | decide +kernel)) (zcm (ztm5 182 (by first | rfl | decide +kernel)) (zcm (ztm5 183 (by first | rfl | decide +kernel)) znm)))))))))))))))))))) zAt_in))
theorem gL_law_L_rests : GoodIn (va_wsS RL 145 yL_rests zwsRL) (va_wsS RL 145 yL_rests zwsRL) := fun w hw => ⟨hw, good_of_word ((List.mem_append.mp hw).elim ((List.all_eq_true (l := [.methodLink RL 145 yL_rests, .static yL_rests, .initialized yL_rests.cls])).mp (by decide +kernel) w) (zwsRL_good w))⟩
section
/-! ===== what a throw needs of the start; a call that may throw ===== -/
noncomputable def zXF (A : Nat → Prop) (U : State) (H : Heap) (sa sb : Nat) : Prop := vx_Zq Bundle.tN "UNASSIGNED_STACK" Bundle.steD A U H ∧ vx_Zq Bundle.tN "SUPPRESSED_SENTINEL" Bundle.listD A U H ∧ vk_R RX11 330 "no such frontier" sa U ∧ vk_R RX11 339 "no such rest" sb U
noncomputable def zPx (D : va_G) (ct : Nat → ClassId) (sa sb : Nat) (As : List Value) (w0 : va_W) (sz : Nat) : Array Value → State → Prop := fun v U => zPc D ct [] As w0 sz v U ∧ zXF (va_A w0 sz) U U.heap sa sb
section ZX
variable {p : Program} {l : Launch} {e : Env} {R : Room} {s : State} {m : MethodId} {args : Array Value} {below : List Frame} {meth : Method} {c : Code} {H : Heap} {locs : List Loc} {cells slots : Nat} {Q : State → Prop}
variable {cc : ByteArray} {pc : Nat} {ls : Array Slot} {rest st0 : List Value} {D : va_G} {ct : Nat → ClassId} {zs : List (String × Nat)} {A : Nat → Prop} {a : Nat} {ws w0 wr : va_W} {sa sb : Nat}
theorem zPx.blind {As : List Value} {sz : Nat} : FrameBlind (zPx D ct sa sb As w0 sz) := fun a U g mk q =>
  ⟨zPc.blind a U g mk q.1, vx_Zq.moved (u := U) (U := U.calling g mk a) (Vm.Alike.refl U.vm) q.2.1, vx_Zq.moved (u := U) (U := U.calling g mk a) (Vm.Alike.refl U.vm) q.2.2.1, vk_R.same (u := U) (U := U.calling g mk a) rfl q.2.2.2.1, vk_R.same (u := U) (U := U.calling g mk a) rfl q.2.2.2.2⟩
theorem zprex {As : List Value} (hK : va_K D vwCl (zT ct) s) (hw : zPD D A ws H) (hS : va_S A s.heap H locs) (hA : ∀ q, s.heap.size ≤ q → A q) (hX : zXF A s s.heap sa sb) (hN : zN s) (isC : List Nat) (hnC : va_nd isC = true) (hC : isC.map (fun i => ws[i]?) = w0.map some) : ∀ U : State, U.heap = H → s.WarmedH U.vm → zPx D ct sa sb As w0 H.size As.toArray U := by
  intro U hU hW
  have hF := va_free (wc := w0) hw.2 hS hA isC hC
  refine ⟨zpre hK hw hS hA zZ.nil hN isC hnC hC U hU hW, ?_, ?_, vk_R.warm hW hX.2.2.1, vk_R.warm hW hX.2.2.2⟩
  · rw [hU]; exact vx_Zq.moved hW.alike ((hX.1.kept hS.2.1).narrow hF)
  · rw [hU]; exact vx_Zq.moved hW.alike ((hX.2.1.kept hS.2.1).narrow hF)
theorem zprexS {As : List Value} (hK : va_K D vwCl (zT ct) s) (hw : zPD D A ws H) (hS : va_S A s.heap H locs) (hA : ∀ q, s.heap.size ≤ q → A q) (hX : zXF A s s.heap sa sb) (hN : zN s) (isC : List Nat) (hnC : va_nd isC = true) (hC : isC.map (fun i => ws[i]?) = w0.map some) : PreS s H (zPx D ct sa sb As w0 H.size) As := ⟨zPx.blind, zprex hK hw hS hA hX hN isC hnC hC⟩
theorem zprexV {As : List Value} {b : Addr} {q : vw_C} {fs : List Value} (hK : va_K D vwCl (zT ct) s) (hw : zPD D A ws H) (hS : va_S A s.heap H locs) (hA : ∀ q, s.heap.size ≤ q → A q) (hX : zXF A s s.heap sa sb) (hN : zN s) (isC : List Nat) (hnC : va_nd isC = true) (hC : isC.map (fun i => ws[i]?) = w0.map some) (ci q0 : Nat) (hc : vwCl[ci]? = some q) (he : ws[q0]? = some (b, .inr (ci, fs))) : PreV s H q.1 b (zPx D ct sa sb (.ref b :: As) w0 H.size) As := ⟨zPx.blind, va_recv hK hw.1 hc he, zprex hK hw hS hA hX hN isC hnC hC⟩
theorem zxcall {S : Type} {rv : S → Option Value} {post : S → Prop} {B : S → va_W} {px : Unit → Prop} {BX : String → Unit → State → Prop} {mc ms : Nat} {a9 : Array Value} (hr : vx_Run p l e R s m args below meth c H locs cells slots mc ms (F0 m pc ls st0) rest (zQ D (va_A w0 H.size) rv post B a9) (vx_X px BX (va_A w0 H.size)) (va_A w0 H.size)) (hw : zPD D A ws H) (hS : va_S A s.heap H locs) (hA : ∀ q, s.heap.size ≤ q → A q)
    (isC isR : List Nat) (hC : isC.map (fun i => ws[i]?) = w0.map some) (hR : isR.map (fun i => ws[i]?) = wr.map some) (hnR : va_nd isR = true) (hdis : ∀ i ∈ isR, i ∉ isC)
    (kx : ∀ (E : String) (ce : Cell) (q9 : Addr) (t : State) (H1 : Heap) (locs1 : List Loc), px () → BX E () t → zPD D A wr H1 → va_S A s.heap H1 locs1 → H1[q9]? = some ce → ce.vm = .none → s.vm.findClass E = some ce.cls → vx_W p l e R s m args below meth c H1 locs1 (cells + mc) (slots + ms) Q (F0 m pc ls rest) q9)
    (kk : ∀ (u : S) (H1 : Heap) (locs1 : List Loc), post u → zPD D A (wr ++ B u) H1 → va_S A s.heap H1 locs1 → W p l e R s m args below meth c H1 locs1 (cells + mc) (slots + ms) Q (F0 m (pc + 3) ls ((rv u).toList ++ rest))) : W p l e R s m args below meth c H locs cells slots Q (F0 m pc ls st0) := by
  have hF := va_free (wc := w0) hw.2 hS hA isC hC
  intro T hT X
  rcases hr T hT X with ⟨v, st₀, t, T', L, h0, X', hL, e1, e2, ⟨⟨u, hv, hp, hb⟩, hF9⟩, st⟩ | ⟨q, st₀, t, T', L, E, ce, h0, X', hL, e1, e2, ⟨u, hp, hb, hF9⟩, hce, hcv, hcl, st⟩
  · cases hv
    obtain ⟨k1, k2, k3⟩ := vx_keep h0 e1 hS (fun q _ z => hF q z) hF hL hF9
    obtain ⟨j1, j2⟩ := va_join (H1 := T'.heap) hw.1 hw.2 isC isR hC hR hnR hdis k2 hF (by rw [e1]; exact hb.1) hb.2
    obtain ⟨t2, a1, b1⟩ := kk u T'.heap (locs ++ L) hp ⟨j1, j2⟩ k3 T' rfl X'
    exact ⟨t2, st t2 a1, b1⟩
  · obtain ⟨k1, k2, k3⟩ := vx_keep h0 e1 hS (fun q _ z => hF q z) hF hL hF9
    obtain ⟨j1, j2⟩ := va_join (w1 := []) (H1 := T'.heap) hw.1 hw.2 isC isR hC hR hnR hdis k2 hF (fun k q h => by simp at h) ⟨fun i j p q h => by simp at h, fun k q h => by simp at h⟩
    obtain ⟨t2, a1, b1⟩ := kx E ce q t T'.heap (locs ++ L) hp hb (by have := (⟨j1, j2⟩ : zPD D A (wr ++ []) T'.heap); rwa [List.append_nil] at this) k3 (by rw [e1]; exact hce) hcv hcl T' rfl X'
    exact ⟨t2, st.trans a1, b1⟩
end ZX
end
