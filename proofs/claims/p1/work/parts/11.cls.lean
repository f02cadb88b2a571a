set_option maxHeartbeats 4000000 in
set_option maxRecDepth 100000 in
/-- nobody and nothing is told -/
theorem c_isTown11 (l : Launch) (D : va_G) (ct : Nat → ClassId) (h0 : Nat) (x : Nat → Nat) (t : Int32)  : zC l yX11_isTown wsX11_isTown ({ frames := 1, cells := 0, slots := 0, locals := 80 }) D ct [] [.ref h0, .int t] [(h0, .inr (10, [.ref (x 1), .ref (x 3), .ref (x 15), .ref (x 27), .ref (x 28), .ref (x 32), .ref (x 36), .ref (x 37), .ref (x 48), .ref (x 54), .ref (x 60), .ref (x 61), .ref (x 68), .int 0, .int 0])), (x 3, .inr (2, [.ref (x 4), .ref (x 5), .ref (x 6), .ref (x 7), .ref (x 8), .ref (x 9), .ref (x 10), .ref (x 11), .ref (x 12), .int 0, .int 0, .int 1, .int 2]))] (S := Unit) (fun _ => some (.int 0)) (fun _ => True) (fun _ => [(h0, .inr (10, [.ref (x 1), .ref (x 3), .ref (x 15), .ref (x 27), .ref (x 28), .ref (x 32), .ref (x 36), .ref (x 37), .ref (x 48), .ref (x 54), .ref (x 60), .ref (x 61), .ref (x 68), .int 0, .int 0])), (x 3, .inr (2, [.ref (x 4), .ref (x 5), .ref (x 6), .ref (x 7), .ref (x 8), .ref (x 9), .ref (x 10), .ref (x 11), .ref (x 12), .int 0, .int 0, .int 1, .int 2]))]) 0 0 := by
  refine zofW cX11_isTown 2 (some .boolean) (by decide) rfl (Nat.le_of_ble_eq_true rfl) ?_
  intro p e s m below meth c A hx hb hr hml hts hown hlocks hname hK hA hZ hN H locs hw hS ls hl
  have hown : s.vm.findClass RX11 = some m.cls := hown
  have hl : lv_has ls 2 [(0, .ref h0), (1, .int t)] := hl
  have hiX11 : ∀ w ∈ wsX110, w ∈ wsX11_isTown := by decide +kernel
  have hiX2 : ∀ w ∈ wsX20, w ∈ wsX11_isTown := by decide +kernel
  refine lv_iload_n hx hb dX11_isTown_0 rfl (lv_at hl 1 rfl) ?_
  refine lv_if_lt (tgt := 19) hx hb dX11_isTown_1 (by decide) (fun c_1 => ?_) (fun c_1 => ?_)
  · refine lv_iconst (v := 0) hx hb dX11_isTown_19 (by decide) ?_
    exact ziret hx hb hr (rfl) hlocks () (rfl) (trivial) hw [0, 1] rfl (rfl) hS (Nat.le_of_ble_eq_true rfl) (Nat.le_of_ble_eq_true rfl) dX11_isTown_20
  · refine lv_iload_n hx hb dX11_isTown_4 rfl (lv_at hl 1 rfl) ?_
    refine lv_aload_n hx hb dX11_isTown_5 rfl (lv_at hl 0 rfl) ?_
    refine va_get (D := D) (ci := 10) (v := .ref (x 3)) hx hb hts hiX11 hown hK hw.1 0 rfl rfl 1 (by decide) (hts (.fieldLink RX11 19 "BeardPass" "told" "LBeardPass$Land;") (by decide +kernel)) (fun _ h9 => h9) rfl dX11_isTown_6 ?_
    refine va_get (D := D) (ci := 2) (v := .int 0) hx hb hts hiX2 hown hK hw.1 1 rfl rfl 9 (by decide) (hts (.fieldLink RX11 169 "BeardPass$Land" "towns" "I") (by decide +kernel)) (fun _ h9 => h9) rfl dX11_isTown_9 ?_
    refine lv_icmp_ge (tgt := 19) hx hb dX11_isTown_12 (by decide) (fun _ => ?_) (fun h => absurd (Int32.not_lt.mp c_1) h)
    refine lv_iconst (v := 0) hx hb dX11_isTown_19 (by decide) ?_
    exact ziret hx hb hr (rfl) hlocks () (rfl) (trivial) hw [0, 1] rfl (rfl) hS (Nat.le_of_ble_eq_true rfl) (Nat.le_of_ble_eq_true rfl) dX11_isTown_20

set_option maxHeartbeats 4000000 in
set_option maxRecDepth 100000 in
/-- nobody and nothing is told -/
theorem c_isPerson11 (l : Launch) (D : va_G) (ct : Nat → ClassId) (h0 : Nat) (x : Nat → Nat) (t : Int32)  : zC l yX11_isPerson wsX11_isPerson ({ frames := 1, cells := 0, slots := 0, locals := 80 }) D ct [] [.ref h0, .int t] [(h0, .inr (10, [.ref (x 1), .ref (x 3), .ref (x 15), .ref (x 27), .ref (x 28), .ref (x 32), .ref (x 36), .ref (x 37), .ref (x 48), .ref (x 54), .ref (x 60), .ref (x 61), .ref (x 68), .int 0, .int 0])), (x 3, .inr (2, [.ref (x 4), .ref (x 5), .ref (x 6), .ref (x 7), .ref (x 8), .ref (x 9), .ref (x 10), .ref (x 11), .ref (x 12), .int 0, .int 0, .int 1, .int 2]))] (S := Unit) (fun _ => some (.int 0)) (fun _ => True) (fun _ => [(h0, .inr (10, [.ref (x 1), .ref (x 3), .ref (x 15), .ref (x 27), .ref (x 28), .ref (x 32), .ref (x 36), .ref (x 37), .ref (x 48), .ref (x 54), .ref (x 60), .ref (x 61), .ref (x 68), .int 0, .int 0])), (x 3, .inr (2, [.ref (x 4), .ref (x 5), .ref (x 6), .ref (x 7), .ref (x 8), .ref (x 9), .ref (x 10), .ref (x 11), .ref (x 12), .int 0, .int 0, .int 1, .int 2]))]) 0 0 := by
  refine zofW cX11_isPerson 2 (some .boolean) (by decide) rfl (Nat.le_of_ble_eq_true rfl) ?_
  intro p e s m below meth c A hx hb hr hml hts hown hlocks hname hK hA hZ hN H locs hw hS ls hl
  have hown : s.vm.findClass RX11 = some m.cls := hown
  have hl : lv_has ls 2 [(0, .ref h0), (1, .int t)] := hl
  have hiX11 : ∀ w ∈ wsX110, w ∈ wsX11_isPerson := by decide +kernel
  have hiX2 : ∀ w ∈ wsX20, w ∈ wsX11_isPerson := by decide +kernel
  refine lv_iload_n hx hb dX11_isPerson_0 rfl (lv_at hl 1 rfl) ?_
  refine lv_if_lt (tgt := 19) hx hb dX11_isPerson_1 (by decide) (fun c_1 => ?_) (fun c_1 => ?_)
  · refine lv_iconst (v := 0) hx hb dX11_isPerson_19 (by decide) ?_
    exact ziret hx hb hr (rfl) hlocks () (rfl) (trivial) hw [0, 1] rfl (rfl) hS (Nat.le_of_ble_eq_true rfl) (Nat.le_of_ble_eq_true rfl) dX11_isPerson_20
  · refine lv_iload_n hx hb dX11_isPerson_4 rfl (lv_at hl 1 rfl) ?_
    refine lv_aload_n hx hb dX11_isPerson_5 rfl (lv_at hl 0 rfl) ?_
    refine va_get (D := D) (ci := 10) (v := .ref (x 3)) hx hb hts hiX11 hown hK hw.1 0 rfl rfl 1 (by decide) (hts (.fieldLink RX11 19 "BeardPass" "told" "LBeardPass$Land;") (by decide +kernel)) (fun _ h9 => h9) rfl dX11_isPerson_6 ?_
    refine va_get (D := D) (ci := 2) (v := .int 0) hx hb hts hiX2 hown hK hw.1 1 rfl rfl 10 (by decide) (hts (.fieldLink RX11 172 "BeardPass$Land" "persons" "I") (by decide +kernel)) (fun _ h9 => h9) rfl dX11_isPerson_9 ?_
    refine lv_icmp_ge (tgt := 19) hx hb dX11_isPerson_12 (by decide) (fun _ => ?_) (fun h => absurd (Int32.not_lt.mp c_1) h)
    refine lv_iconst (v := 0) hx hb dX11_isPerson_19 (by decide) ?_
    exact ziret hx hb hr (rfl) hlocks () (rfl) (trivial) hw [0, 1] rfl (rfl) hS (Nat.le_of_ble_eq_true rfl) (Nat.le_of_ble_eq_true rfl) dX11_isPerson_20

set_option maxHeartbeats 4000000 in
set_option maxRecDepth 100000 in
/-- person on a new object -/
theorem k_person (l : Launch) (D : va_G) (ct : Nat → ClassId) (h0 : Nat) (x : Nat → Nat) (p1 : Int32) (p2 : Int32)  : zC l yX11_person wsX11_person ({ frames := 2, cells := 0, slots := 0, locals := 120 }) D ct [] [.ref h0, .int p1, .int p2] [(h0, .inr (10, [.ref (x 1), .ref (x 3), .ref (x 15), .ref (x 27), .ref (x 28), .ref (x 32), .ref (x 36), .ref (x 37), .ref (x 48), .ref (x 54), .ref (x 60), .ref (x 61), .ref (x 68), .int 0, .int 0])), (x 3, .inr (2, [.ref (x 4), .ref (x 5), .ref (x 6), .ref (x 7), .ref (x 8), .ref (x 9), .ref (x 10), .ref (x 11), .ref (x 12), .int 0, .int 0, .int 1, .int 2]))] (S := Unit) (fun _ => some (.int (-1))) (fun _ => True) (fun _ => []) 0 0 := by
  refine zofW cX11_person 3 (some .int) (by decide) rfl (Nat.le_of_ble_eq_true rfl) ?_
  intro p e s m below meth c A hx hb hr hml hts hown hlocks hname hK hA hZ hN H locs hw hS ls hl
  have hown : s.vm.findClass RX11 = some m.cls := hown
  have hl : lv_has ls 3 [(0, .ref h0), (1, .int p1), (2, .int p2)] := hl
  refine lv_aload_n hx hb dX11_person_0 rfl (lv_at hl 0 rfl) ?_
  refine lv_iload_n hx hb dX11_person_1 rfl (lv_at hl 1 rfl) ?_
  refine zcall2 (va_runV (As := [.int p1]) (rest := []) ⟨hx, hb, hml, hown, hts⟩ (c_isPerson11 l D ct h0 x p1 H.size) (cwV 1 hts gX11_person_X11_isPerson rfl rfl rfl (by decide +kernel) ⟨Nat.le_of_ble_eq_true rfl, Nat.le_of_ble_eq_true rfl⟩) (zpreV hK hw hS hA zZ.nil hN [0, 1] rfl rfl 10 0 rfl rfl) rfl rfl hl.1 rfl (lv_room (Nat.le_of_ble_eq_true rfl)) dX11_person_2 ⟨Nat.le_of_ble_eq_true rfl, Nat.le_of_ble_eq_true rfl⟩) hw hS hA [0, 1] [] rfl rfl rfl rfl (fun _ H locs hp1 hw hS => ?_)
  have hw : zPD D A [(h0, .inr (10, [.ref (x 1), .ref (x 3), .ref (x 15), .ref (x 27), .ref (x 28), .ref (x 32), .ref (x 36), .ref (x 37), .ref (x 48), .ref (x 54), .ref (x 60), .ref (x 61), .ref (x 68), .int 0, .int 0])), (x 3, .inr (2, [.ref (x 4), .ref (x 5), .ref (x 6), .ref (x 7), .ref (x 8), .ref (x 9), .ref (x 10), .ref (x 11), .ref (x 12), .int 0, .int 0, .int 1, .int 2]))] H := hw
  refine zfr 5 [.int 0] rfl rfl ?_
  refine lv_if_ne (tgt := 10) hx hb dX11_person_5 (by decide) (fun h => absurd (by decide) h) (fun _ => ?_)
  refine lv_iconst (v := (-1)) hx hb dX11_person_8 (by decide) ?_
  exact ziret hx hb hr (rfl) hlocks () (rfl) (trivial) hw [] rfl (rfl) hS (Nat.le_of_ble_eq_true rfl) (Nat.le_of_ble_eq_true rfl) dX11_person_9

set_option maxHeartbeats 4000000 in
set_option maxRecDepth 100000 in
/-- town on a new object -/
theorem k_town (l : Launch) (D : va_G) (ct : Nat → ClassId) (h0 : Nat) (x : Nat → Nat) (p1 : Int32) (p2 : Int32)  : zC l yX11_town wsX11_town ({ frames := 2, cells := 0, slots := 0, locals := 120 }) D ct [] [.ref h0, .int p1, .int p2] [(h0, .inr (10, [.ref (x 1), .ref (x 3), .ref (x 15), .ref (x 27), .ref (x 28), .ref (x 32), .ref (x 36), .ref (x 37), .ref (x 48), .ref (x 54), .ref (x 60), .ref (x 61), .ref (x 68), .int 0, .int 0])), (x 3, .inr (2, [.ref (x 4), .ref (x 5), .ref (x 6), .ref (x 7), .ref (x 8), .ref (x 9), .ref (x 10), .ref (x 11), .ref (x 12), .int 0, .int 0, .int 1, .int 2]))] (S := Unit) (fun _ => some (.int (-1))) (fun _ => True) (fun _ => []) 0 0 := by
  refine zofW cX11_town 3 (some .int) (by decide) rfl (Nat.le_of_ble_eq_true rfl) ?_
  intro p e s m below meth c A hx hb hr hml hts hown hlocks hname hK hA hZ hN H locs hw hS ls hl
  have hown : s.vm.findClass RX11 = some m.cls := hown
  have hl : lv_has ls 3 [(0, .ref h0), (1, .int p1), (2, .int p2)] := hl
  refine lv_aload_n hx hb dX11_town_0 rfl (lv_at hl 0 rfl) ?_
  refine lv_iload_n hx hb dX11_town_1 rfl (lv_at hl 1 rfl) ?_
  refine zcall2 (va_runV (As := [.int p1]) (rest := []) ⟨hx, hb, hml, hown, hts⟩ (c_isTown11 l D ct h0 x p1 H.size) (cwV 1 hts gX11_town_X11_isTown rfl rfl rfl (by decide +kernel) ⟨Nat.le_of_ble_eq_true rfl, Nat.le_of_ble_eq_true rfl⟩) (zpreV hK hw hS hA zZ.nil hN [0, 1] rfl rfl 10 0 rfl rfl) rfl rfl hl.1 rfl (lv_room (Nat.le_of_ble_eq_true rfl)) dX11_town_2 ⟨Nat.le_of_ble_eq_true rfl, Nat.le_of_ble_eq_true rfl⟩) hw hS hA [0, 1] [] rfl rfl rfl rfl (fun _ H locs hp1 hw hS => ?_)
  have hw : zPD D A [(h0, .inr (10, [.ref (x 1), .ref (x 3), .ref (x 15), .ref (x 27), .ref (x 28), .ref (x 32), .ref (x 36), .ref (x 37), .ref (x 48), .ref (x 54), .ref (x 60), .ref (x 61), .ref (x 68), .int 0, .int 0])), (x 3, .inr (2, [.ref (x 4), .ref (x 5), .ref (x 6), .ref (x 7), .ref (x 8), .ref (x 9), .ref (x 10), .ref (x 11), .ref (x 12), .int 0, .int 0, .int 1, .int 2]))] H := hw
  refine zfr 5 [.int 0] rfl rfl ?_
  refine lv_if_ne (tgt := 10) hx hb dX11_town_5 (by decide) (fun h => absurd (by decide) h) (fun _ => ?_)
  refine lv_iconst (v := (-1)) hx hb dX11_town_8 (by decide) ?_
  exact ziret hx hb hr (rfl) hlocks () (rfl) (trivial) hw [] rfl (rfl) hS (Nat.le_of_ble_eq_true rfl) (Nat.le_of_ble_eq_true rfl) dX11_town_9

set_option maxHeartbeats 4000000 in
set_option maxRecDepth 100000 in
/-- go on a new object -/
theorem k_go (l : Launch) (D : va_G) (ct : Nat → ClassId) (h0 : Nat) (x : Nat → Nat) (p1 : Int32) (p2 : Int32)  : zC l yX11_go wsX11_go ({ frames := 2, cells := 0, slots := 0, locals := 120 }) D ct [] [.ref h0, .int p1, .int p2] [(h0, .inr (10, [.ref (x 1), .ref (x 3), .ref (x 15), .ref (x 27), .ref (x 28), .ref (x 32), .ref (x 36), .ref (x 37), .ref (x 48), .ref (x 54), .ref (x 60), .ref (x 61), .ref (x 68), .int 0, .int 0])), (x 3, .inr (2, [.ref (x 4), .ref (x 5), .ref (x 6), .ref (x 7), .ref (x 8), .ref (x 9), .ref (x 10), .ref (x 11), .ref (x 12), .int 0, .int 0, .int 1, .int 2]))] (S := Unit) (fun _ => some (.int 0)) (fun _ => True) (fun _ => []) 0 0 := by
  refine zofW cX11_go 3 (some .boolean) (by decide) rfl (Nat.le_of_ble_eq_true rfl) ?_
  intro p e s m below meth c A hx hb hr hml hts hown hlocks hname hK hA hZ hN H locs hw hS ls hl
  have hown : s.vm.findClass RX11 = some m.cls := hown
  have hl : lv_has ls 3 [(0, .ref h0), (1, .int p1), (2, .int p2)] := hl
  refine lv_aload_n hx hb dX11_go_0 rfl (lv_at hl 0 rfl) ?_
  refine lv_iload_n hx hb dX11_go_1 rfl (lv_at hl 1 rfl) ?_
  refine zcall2 (va_runV (As := [.int p1]) (rest := []) ⟨hx, hb, hml, hown, hts⟩ (c_isPerson11 l D ct h0 x p1 H.size) (cwV 1 hts gX11_go_X11_isPerson rfl rfl rfl (by decide +kernel) ⟨Nat.le_of_ble_eq_true rfl, Nat.le_of_ble_eq_true rfl⟩) (zpreV hK hw hS hA zZ.nil hN [0, 1] rfl rfl 10 0 rfl rfl) rfl rfl hl.1 rfl (lv_room (Nat.le_of_ble_eq_true rfl)) dX11_go_2 ⟨Nat.le_of_ble_eq_true rfl, Nat.le_of_ble_eq_true rfl⟩) hw hS hA [0, 1] [] rfl rfl rfl rfl (fun _ H locs hp1 hw hS => ?_)
  have hw : zPD D A [(h0, .inr (10, [.ref (x 1), .ref (x 3), .ref (x 15), .ref (x 27), .ref (x 28), .ref (x 32), .ref (x 36), .ref (x 37), .ref (x 48), .ref (x 54), .ref (x 60), .ref (x 61), .ref (x 68), .int 0, .int 0])), (x 3, .inr (2, [.ref (x 4), .ref (x 5), .ref (x 6), .ref (x 7), .ref (x 8), .ref (x 9), .ref (x 10), .ref (x 11), .ref (x 12), .int 0, .int 0, .int 1, .int 2]))] H := hw
  refine zfr 5 [.int 0] rfl rfl ?_
  refine lv_if_eq (tgt := 32) hx hb dX11_go_5 (by decide) (fun _ => ?_) (fun h => absurd (by decide) h)
  refine lv_iconst (v := 0) hx hb dX11_go_32 (by decide) ?_
  exact ziret hx hb hr (rfl) hlocks () (rfl) (trivial) hw [] rfl (rfl) hS (Nat.le_of_ble_eq_true rfl) (Nat.le_of_ble_eq_true rfl) dX11_go_33

set_option maxHeartbeats 4000000 in
set_option maxRecDepth 100000 in
/-- forge on a new object -/
theorem k_forge (l : Launch) (D : va_G) (ct : Nat → ClassId) (h0 : Nat) (x : Nat → Nat) (p1 : Int32) (p2 : Int32)  : zC l yX11_forge wsX11_forge ({ frames := 2, cells := 0, slots := 0, locals := 120 }) D ct [] [.ref h0, .int p1, .int p2] [(h0, .inr (10, [.ref (x 1), .ref (x 3), .ref (x 15), .ref (x 27), .ref (x 28), .ref (x 32), .ref (x 36), .ref (x 37), .ref (x 48), .ref (x 54), .ref (x 60), .ref (x 61), .ref (x 68), .int 0, .int 0])), (x 3, .inr (2, [.ref (x 4), .ref (x 5), .ref (x 6), .ref (x 7), .ref (x 8), .ref (x 9), .ref (x 10), .ref (x 11), .ref (x 12), .int 0, .int 0, .int 1, .int 2]))] (S := Unit) (fun _ => some (.int (-1))) (fun _ => True) (fun _ => []) 0 0 := by
  refine zofW cX11_forge 3 (some .int) (by decide) rfl (Nat.le_of_ble_eq_true rfl) ?_
  intro p e s m below meth c A hx hb hr hml hts hown hlocks hname hK hA hZ hN H locs hw hS ls hl
  have hown : s.vm.findClass RX11 = some m.cls := hown
  have hl : lv_has ls 3 [(0, .ref h0), (1, .int p1), (2, .int p2)] := hl
  refine lv_aload_n hx hb dX11_forge_0 rfl (lv_at hl 0 rfl) ?_
  refine lv_iload_n hx hb dX11_forge_1 rfl (lv_at hl 1 rfl) ?_
  refine zcall2 (va_runV (As := [.int p1]) (rest := []) ⟨hx, hb, hml, hown, hts⟩ (c_isPerson11 l D ct h0 x p1 H.size) (cwV 1 hts gX11_forge_X11_isPerson rfl rfl rfl (by decide +kernel) ⟨Nat.le_of_ble_eq_true rfl, Nat.le_of_ble_eq_true rfl⟩) (zpreV hK hw hS hA zZ.nil hN [0, 1] rfl rfl 10 0 rfl rfl) rfl rfl hl.1 rfl (lv_room (Nat.le_of_ble_eq_true rfl)) dX11_forge_2 ⟨Nat.le_of_ble_eq_true rfl, Nat.le_of_ble_eq_true rfl⟩) hw hS hA [0, 1] [] rfl rfl rfl rfl (fun _ H locs hp1 hw hS => ?_)
  have hw : zPD D A [(h0, .inr (10, [.ref (x 1), .ref (x 3), .ref (x 15), .ref (x 27), .ref (x 28), .ref (x 32), .ref (x 36), .ref (x 37), .ref (x 48), .ref (x 54), .ref (x 60), .ref (x 61), .ref (x 68), .int 0, .int 0])), (x 3, .inr (2, [.ref (x 4), .ref (x 5), .ref (x 6), .ref (x 7), .ref (x 8), .ref (x 9), .ref (x 10), .ref (x 11), .ref (x 12), .int 0, .int 0, .int 1, .int 2]))] H := hw
  refine zfr 5 [.int 0] rfl rfl ?_
  refine lv_if_eq (tgt := 24) hx hb dX11_forge_5 (by decide) (fun _ => ?_) (fun h => absurd (by decide) h)
  refine lv_iconst (v := (-1)) hx hb dX11_forge_24 (by decide) ?_
  exact ziret hx hb hr (rfl) hlocks () (rfl) (trivial) hw [] rfl (rfl) hS (Nat.le_of_ble_eq_true rfl) (Nat.le_of_ble_eq_true rfl) dX11_forge_25

set_option maxHeartbeats 4000000 in
set_option maxRecDepth 100000 in
/-- shave on a new object -/
theorem k_shave (l : Launch) (D : va_G) (ct : Nat → ClassId) (h0 : Nat) (x : Nat → Nat) (p1 : Int32)  : zC l yX11_shave wsX11_shave ({ frames := 2, cells := 0, slots := 0, locals := 120 }) D ct [] [.ref h0, .int p1] [(h0, .inr (10, [.ref (x 1), .ref (x 3), .ref (x 15), .ref (x 27), .ref (x 28), .ref (x 32), .ref (x 36), .ref (x 37), .ref (x 48), .ref (x 54), .ref (x 60), .ref (x 61), .ref (x 68), .int 0, .int 0])), (x 3, .inr (2, [.ref (x 4), .ref (x 5), .ref (x 6), .ref (x 7), .ref (x 8), .ref (x 9), .ref (x 10), .ref (x 11), .ref (x 12), .int 0, .int 0, .int 1, .int 2]))] (S := Unit) (fun _ => some (.int 0)) (fun _ => True) (fun _ => []) 0 0 := by
  refine zofW cX11_shave 2 (some .boolean) (by decide) rfl (Nat.le_of_ble_eq_true rfl) ?_
  intro p e s m below meth c A hx hb hr hml hts hown hlocks hname hK hA hZ hN H locs hw hS ls hl
  have hown : s.vm.findClass RX11 = some m.cls := hown
  have hl : lv_has ls 2 [(0, .ref h0), (1, .int p1)] := hl
  refine lv_aload_n hx hb dX11_shave_0 rfl (lv_at hl 0 rfl) ?_
  refine lv_iload_n hx hb dX11_shave_1 rfl (lv_at hl 1 rfl) ?_
  refine zcall2 (va_runV (As := [.int p1]) (rest := []) ⟨hx, hb, hml, hown, hts⟩ (c_isPerson11 l D ct h0 x p1 H.size) (cwV 1 hts gX11_shave_X11_isPerson rfl rfl rfl (by decide +kernel) ⟨Nat.le_of_ble_eq_true rfl, Nat.le_of_ble_eq_true rfl⟩) (zpreV hK hw hS hA zZ.nil hN [0, 1] rfl rfl 10 0 rfl rfl) rfl rfl hl.1 rfl (lv_room (Nat.le_of_ble_eq_true rfl)) dX11_shave_2 ⟨Nat.le_of_ble_eq_true rfl, Nat.le_of_ble_eq_true rfl⟩) hw hS hA [0, 1] [] rfl rfl rfl rfl (fun _ H locs hp1 hw hS => ?_)
  have hw : zPD D A [(h0, .inr (10, [.ref (x 1), .ref (x 3), .ref (x 15), .ref (x 27), .ref (x 28), .ref (x 32), .ref (x 36), .ref (x 37), .ref (x 48), .ref (x 54), .ref (x 60), .ref (x 61), .ref (x 68), .int 0, .int 0])), (x 3, .inr (2, [.ref (x 4), .ref (x 5), .ref (x 6), .ref (x 7), .ref (x 8), .ref (x 9), .ref (x 10), .ref (x 11), .ref (x 12), .int 0, .int 0, .int 1, .int 2]))] H := hw
  refine zfr 5 [.int 0] rfl rfl ?_
  refine lv_if_ne (tgt := 10) hx hb dX11_shave_5 (by decide) (fun h => absurd (by decide) h) (fun _ => ?_)
  refine lv_iconst (v := 0) hx hb dX11_shave_8 (by decide) ?_
  exact ziret hx hb hr (rfl) hlocks () (rfl) (trivial) hw [] rfl (rfl) hS (Nat.le_of_ble_eq_true rfl) (Nat.le_of_ble_eq_true rfl) dX11_shave_9

set_option maxHeartbeats 4000000 in
set_option maxRecDepth 100000 in
/-- reach on a new object -/
theorem k_reach (l : Launch) (D : va_G) (ct : Nat → ClassId) (h0 : Nat) (x : Nat → Nat) (p1 : Int32)  : zC l yX11_reach wsX11_reach ({ frames := 2, cells := 0, slots := 0, locals := 120 }) D ct [] [.ref h0, .int p1] [(h0, .inr (10, [.ref (x 1), .ref (x 3), .ref (x 15), .ref (x 27), .ref (x 28), .ref (x 32), .ref (x 36), .ref (x 37), .ref (x 48), .ref (x 54), .ref (x 60), .ref (x 61), .ref (x 68), .int 0, .int 0])), (x 3, .inr (2, [.ref (x 4), .ref (x 5), .ref (x 6), .ref (x 7), .ref (x 8), .ref (x 9), .ref (x 10), .ref (x 11), .ref (x 12), .int 0, .int 0, .int 1, .int 2]))] (S := Unit) (fun _ => some (.int (-1))) (fun _ => True) (fun _ => []) 0 0 := by
  refine zofW cX11_reach 2 (some .int) (by decide) rfl (Nat.le_of_ble_eq_true rfl) ?_
  intro p e s m below meth c A hx hb hr hml hts hown hlocks hname hK hA hZ hN H locs hw hS ls hl
  have hown : s.vm.findClass RX11 = some m.cls := hown
  have hl : lv_has ls 2 [(0, .ref h0), (1, .int p1)] := hl
  refine lv_aload_n hx hb dX11_reach_0 rfl (lv_at hl 0 rfl) ?_
  refine lv_iload_n hx hb dX11_reach_1 rfl (lv_at hl 1 rfl) ?_
  refine zcall2 (va_runV (As := [.int p1]) (rest := []) ⟨hx, hb, hml, hown, hts⟩ (c_isPerson11 l D ct h0 x p1 H.size) (cwV 1 hts gX11_reach_X11_isPerson rfl rfl rfl (by decide +kernel) ⟨Nat.le_of_ble_eq_true rfl, Nat.le_of_ble_eq_true rfl⟩) (zpreV hK hw hS hA zZ.nil hN [0, 1] rfl rfl 10 0 rfl rfl) rfl rfl hl.1 rfl (lv_room (Nat.le_of_ble_eq_true rfl)) dX11_reach_2 ⟨Nat.le_of_ble_eq_true rfl, Nat.le_of_ble_eq_true rfl⟩) hw hS hA [0, 1] [] rfl rfl rfl rfl (fun _ H locs hp1 hw hS => ?_)
  have hw : zPD D A [(h0, .inr (10, [.ref (x 1), .ref (x 3), .ref (x 15), .ref (x 27), .ref (x 28), .ref (x 32), .ref (x 36), .ref (x 37), .ref (x 48), .ref (x 54), .ref (x 60), .ref (x 61), .ref (x 68), .int 0, .int 0])), (x 3, .inr (2, [.ref (x 4), .ref (x 5), .ref (x 6), .ref (x 7), .ref (x 8), .ref (x 9), .ref (x 10), .ref (x 11), .ref (x 12), .int 0, .int 0, .int 1, .int 2]))] H := hw
  refine zfr 5 [.int 0] rfl rfl ?_
  refine lv_if_eq (tgt := 24) hx hb dX11_reach_5 (by decide) (fun _ => ?_) (fun h => absurd (by decide) h)
  refine lv_iconst (v := (-1)) hx hb dX11_reach_24 (by decide) ?_
  exact ziret hx hb hr (rfl) hlocks () (rfl) (trivial) hw [] rfl (rfl) hS (Nat.le_of_ble_eq_true rfl) (Nat.le_of_ble_eq_true rfl) dX11_reach_25

set_option maxHeartbeats 4000000 in
set_option maxRecDepth 100000 in
/-- frontiers on a new object -/
theorem k_frontiers (l : Launch) (D : va_G) (ct : Nat → ClassId) (h0 : Nat) (x : Nat → Nat) (p1 : Int32) (p2 : Int32)  : zC l yX11_frontiers wsX11_frontiers ({ frames := 2, cells := 0, slots := 0, locals := 120 }) D ct [] [.ref h0, .int p1, .int p2] [(h0, .inr (10, [.ref (x 1), .ref (x 3), .ref (x 15), .ref (x 27), .ref (x 28), .ref (x 32), .ref (x 36), .ref (x 37), .ref (x 48), .ref (x 54), .ref (x 60), .ref (x 61), .ref (x 68), .int 0, .int 0])), (x 3, .inr (2, [.ref (x 4), .ref (x 5), .ref (x 6), .ref (x 7), .ref (x 8), .ref (x 9), .ref (x 10), .ref (x 11), .ref (x 12), .int 0, .int 0, .int 1, .int 2]))] (S := Unit) (fun _ => some (.int (-1))) (fun _ => True) (fun _ => []) 0 0 := by
  refine zofW cX11_frontiers 3 (some .int) (by decide) rfl (Nat.le_of_ble_eq_true rfl) ?_
  intro p e s m below meth c A hx hb hr hml hts hown hlocks hname hK hA hZ hN H locs hw hS ls hl
  have hown : s.vm.findClass RX11 = some m.cls := hown
  have hl : lv_has ls 3 [(0, .ref h0), (1, .int p1), (2, .int p2)] := hl
  refine lv_aload_n hx hb dX11_frontiers_0 rfl (lv_at hl 0 rfl) ?_
  refine lv_iload_n hx hb dX11_frontiers_1 rfl (lv_at hl 1 rfl) ?_
  refine zcall2 (va_runV (As := [.int p1]) (rest := []) ⟨hx, hb, hml, hown, hts⟩ (c_isPerson11 l D ct h0 x p1 H.size) (cwV 1 hts gX11_frontiers_X11_isPerson rfl rfl rfl (by decide +kernel) ⟨Nat.le_of_ble_eq_true rfl, Nat.le_of_ble_eq_true rfl⟩) (zpreV hK hw hS hA zZ.nil hN [0, 1] rfl rfl 10 0 rfl rfl) rfl rfl hl.1 rfl (lv_room (Nat.le_of_ble_eq_true rfl)) dX11_frontiers_2 ⟨Nat.le_of_ble_eq_true rfl, Nat.le_of_ble_eq_true rfl⟩) hw hS hA [0, 1] [] rfl rfl rfl rfl (fun _ H locs hp1 hw hS => ?_)
  have hw : zPD D A [(h0, .inr (10, [.ref (x 1), .ref (x 3), .ref (x 15), .ref (x 27), .ref (x 28), .ref (x 32), .ref (x 36), .ref (x 37), .ref (x 48), .ref (x 54), .ref (x 60), .ref (x 61), .ref (x 68), .int 0, .int 0])), (x 3, .inr (2, [.ref (x 4), .ref (x 5), .ref (x 6), .ref (x 7), .ref (x 8), .ref (x 9), .ref (x 10), .ref (x 11), .ref (x 12), .int 0, .int 0, .int 1, .int 2]))] H := hw
  refine zfr 5 [.int 0] rfl rfl ?_
  refine lv_if_eq (tgt := 16) hx hb dX11_frontiers_5 (by decide) (fun _ => ?_) (fun h => absurd (by decide) h)
  refine lv_iconst (v := (-1)) hx hb dX11_frontiers_16 (by decide) ?_
  exact ziret hx hb hr (rfl) hlocks () (rfl) (trivial) hw [] rfl (rfl) hS (Nat.le_of_ble_eq_true rfl) (Nat.le_of_ble_eq_true rfl) dX11_frontiers_17

set_option maxHeartbeats 4000000 in
set_option maxRecDepth 100000 in
/-- when on a new object -/
theorem k_when (l : Launch) (D : va_G) (ct : Nat → ClassId) (h0 : Nat) (x : Nat → Nat) (p1 : Int32) (p2 : Int32)  : zC l yX11_when wsX11_when ({ frames := 2, cells := 0, slots := 0, locals := 120 }) D ct [] [.ref h0, .int p1, .int p2] [(h0, .inr (10, [.ref (x 1), .ref (x 3), .ref (x 15), .ref (x 27), .ref (x 28), .ref (x 32), .ref (x 36), .ref (x 37), .ref (x 48), .ref (x 54), .ref (x 60), .ref (x 61), .ref (x 68), .int 0, .int 0])), (x 3, .inr (2, [.ref (x 4), .ref (x 5), .ref (x 6), .ref (x 7), .ref (x 8), .ref (x 9), .ref (x 10), .ref (x 11), .ref (x 12), .int 0, .int 0, .int 1, .int 2]))] (S := Unit) (fun _ => some (.int (-1))) (fun _ => True) (fun _ => []) 0 0 := by
  refine zofW cX11_when 3 (some .int) (by decide) rfl (Nat.le_of_ble_eq_true rfl) ?_
  intro p e s m below meth c A hx hb hr hml hts hown hlocks hname hK hA hZ hN H locs hw hS ls hl
  have hown : s.vm.findClass RX11 = some m.cls := hown
  have hl : lv_has ls 3 [(0, .ref h0), (1, .int p1), (2, .int p2)] := hl
  refine lv_aload_n hx hb dX11_when_0 rfl (lv_at hl 0 rfl) ?_
  refine lv_iload_n hx hb dX11_when_1 rfl (lv_at hl 1 rfl) ?_
  refine zcall2 (va_runV (As := [.int p1]) (rest := []) ⟨hx, hb, hml, hown, hts⟩ (c_isPerson11 l D ct h0 x p1 H.size) (cwV 1 hts gX11_when_X11_isPerson rfl rfl rfl (by decide +kernel) ⟨Nat.le_of_ble_eq_true rfl, Nat.le_of_ble_eq_true rfl⟩) (zpreV hK hw hS hA zZ.nil hN [0, 1] rfl rfl 10 0 rfl rfl) rfl rfl hl.1 rfl (lv_room (Nat.le_of_ble_eq_true rfl)) dX11_when_2 ⟨Nat.le_of_ble_eq_true rfl, Nat.le_of_ble_eq_true rfl⟩) hw hS hA [0, 1] [] rfl rfl rfl rfl (fun _ H locs hp1 hw hS => ?_)
  have hw : zPD D A [(h0, .inr (10, [.ref (x 1), .ref (x 3), .ref (x 15), .ref (x 27), .ref (x 28), .ref (x 32), .ref (x 36), .ref (x 37), .ref (x 48), .ref (x 54), .ref (x 60), .ref (x 61), .ref (x 68), .int 0, .int 0])), (x 3, .inr (2, [.ref (x 4), .ref (x 5), .ref (x 6), .ref (x 7), .ref (x 8), .ref (x 9), .ref (x 10), .ref (x 11), .ref (x 12), .int 0, .int 0, .int 1, .int 2]))] H := hw
  refine zfr 5 [.int 0] rfl rfl ?_
  refine lv_if_eq (tgt := 16) hx hb dX11_when_5 (by decide) (fun _ => ?_) (fun h => absurd (by decide) h)
  refine lv_iconst (v := (-1)) hx hb dX11_when_16 (by decide) ?_
  exact ziret hx hb hr (rfl) hlocks () (rfl) (trivial) hw [] rfl (rfl) hS (Nat.le_of_ble_eq_true rfl) (Nat.le_of_ble_eq_true rfl) dX11_when_17

set_option maxHeartbeats 4000000 in
set_option maxRecDepth 100000 in
/-- round on a new object -/
theorem k_round (l : Launch) (D : va_G) (ct : Nat → ClassId) (h0 : Nat) (x : Nat → Nat) (p1 : Int32)  : zC l yX11_round wsX11_round ({ frames := 2, cells := 0, slots := 0, locals := 120 }) D ct [] [.ref h0, .int p1] [(h0, .inr (10, [.ref (x 1), .ref (x 3), .ref (x 15), .ref (x 27), .ref (x 28), .ref (x 32), .ref (x 36), .ref (x 37), .ref (x 48), .ref (x 54), .ref (x 60), .ref (x 61), .ref (x 68), .int 0, .int 0])), (x 3, .inr (2, [.ref (x 4), .ref (x 5), .ref (x 6), .ref (x 7), .ref (x 8), .ref (x 9), .ref (x 10), .ref (x 11), .ref (x 12), .int 0, .int 0, .int 1, .int 2]))] (S := Unit) (fun _ => some (.int (-1))) (fun _ => True) (fun _ => []) 0 0 := by
  refine zofW cX11_round 2 (some .int) (by decide) rfl (Nat.le_of_ble_eq_true rfl) ?_
  intro p e s m below meth c A hx hb hr hml hts hown hlocks hname hK hA hZ hN H locs hw hS ls hl
  have hown : s.vm.findClass RX11 = some m.cls := hown
  have hl : lv_has ls 2 [(0, .ref h0), (1, .int p1)] := hl
  refine lv_aload_n hx hb dX11_round_0 rfl (lv_at hl 0 rfl) ?_
  refine lv_iload_n hx hb dX11_round_1 rfl (lv_at hl 1 rfl) ?_
  refine zcall2 (va_runV (As := [.int p1]) (rest := []) ⟨hx, hb, hml, hown, hts⟩ (c_isPerson11 l D ct h0 x p1 H.size) (cwV 1 hts gX11_round_X11_isPerson rfl rfl rfl (by decide +kernel) ⟨Nat.le_of_ble_eq_true rfl, Nat.le_of_ble_eq_true rfl⟩) (zpreV hK hw hS hA zZ.nil hN [0, 1] rfl rfl 10 0 rfl rfl) rfl rfl hl.1 rfl (lv_room (Nat.le_of_ble_eq_true rfl)) dX11_round_2 ⟨Nat.le_of_ble_eq_true rfl, Nat.le_of_ble_eq_true rfl⟩) hw hS hA [0, 1] [] rfl rfl rfl rfl (fun _ H locs hp1 hw hS => ?_)
  have hw : zPD D A [(h0, .inr (10, [.ref (x 1), .ref (x 3), .ref (x 15), .ref (x 27), .ref (x 28), .ref (x 32), .ref (x 36), .ref (x 37), .ref (x 48), .ref (x 54), .ref (x 60), .ref (x 61), .ref (x 68), .int 0, .int 0])), (x 3, .inr (2, [.ref (x 4), .ref (x 5), .ref (x 6), .ref (x 7), .ref (x 8), .ref (x 9), .ref (x 10), .ref (x 11), .ref (x 12), .int 0, .int 0, .int 1, .int 2]))] H := hw
  refine zfr 5 [.int 0] rfl rfl ?_
  refine lv_if_eq (tgt := 23) hx hb dX11_round_5 (by decide) (fun _ => ?_) (fun h => absurd (by decide) h)
  refine lv_iconst (v := (-1)) hx hb dX11_round_23 (by decide) ?_
  exact ziret hx hb hr (rfl) hlocks () (rfl) (trivial) hw [] rfl (rfl) hS (Nat.le_of_ble_eq_true rfl) (Nat.le_of_ble_eq_true rfl) dX11_round_24

set_option maxHeartbeats 4000000 in
set_option maxRecDepth 100000 in
/-- need on a new object -/
theorem k_need (l : Launch) (D : va_G) (ct : Nat → ClassId) (h0 : Nat) (x : Nat → Nat) (p1 : Int32) (p2 : Int32)  : zC l yX11_need wsX11_need ({ frames := 2, cells := 0, slots := 0, locals := 120 }) D ct [] [.ref h0, .int p1, .int p2] [(h0, .inr (10, [.ref (x 1), .ref (x 3), .ref (x 15), .ref (x 27), .ref (x 28), .ref (x 32), .ref (x 36), .ref (x 37), .ref (x 48), .ref (x 54), .ref (x 60), .ref (x 61), .ref (x 68), .int 0, .int 0])), (x 3, .inr (2, [.ref (x 4), .ref (x 5), .ref (x 6), .ref (x 7), .ref (x 8), .ref (x 9), .ref (x 10), .ref (x 11), .ref (x 12), .int 0, .int 0, .int 1, .int 2]))] (S := Unit) (fun _ => some (.int (-1))) (fun _ => True) (fun _ => []) 0 0 := by
  refine zofW cX11_need 3 (some .int) (by decide) rfl (Nat.le_of_ble_eq_true rfl) ?_
  intro p e s m below meth c A hx hb hr hml hts hown hlocks hname hK hA hZ hN H locs hw hS ls hl
  have hown : s.vm.findClass RX11 = some m.cls := hown
  have hl : lv_has ls 3 [(0, .ref h0), (1, .int p1), (2, .int p2)] := hl
  refine lv_aload_n hx hb dX11_need_0 rfl (lv_at hl 0 rfl) ?_
  refine lv_iload_n hx hb dX11_need_1 rfl (lv_at hl 1 rfl) ?_
  refine zcall2 (va_runV (As := [.int p1]) (rest := []) ⟨hx, hb, hml, hown, hts⟩ (c_isPerson11 l D ct h0 x p1 H.size) (cwV 1 hts gX11_need_X11_isPerson rfl rfl rfl (by decide +kernel) ⟨Nat.le_of_ble_eq_true rfl, Nat.le_of_ble_eq_true rfl⟩) (zpreV hK hw hS hA zZ.nil hN [0, 1] rfl rfl 10 0 rfl rfl) rfl rfl hl.1 rfl (lv_room (Nat.le_of_ble_eq_true rfl)) dX11_need_2 ⟨Nat.le_of_ble_eq_true rfl, Nat.le_of_ble_eq_true rfl⟩) hw hS hA [0, 1] [] rfl rfl rfl rfl (fun _ H locs hp1 hw hS => ?_)
  have hw : zPD D A [(h0, .inr (10, [.ref (x 1), .ref (x 3), .ref (x 15), .ref (x 27), .ref (x 28), .ref (x 32), .ref (x 36), .ref (x 37), .ref (x 48), .ref (x 54), .ref (x 60), .ref (x 61), .ref (x 68), .int 0, .int 0])), (x 3, .inr (2, [.ref (x 4), .ref (x 5), .ref (x 6), .ref (x 7), .ref (x 8), .ref (x 9), .ref (x 10), .ref (x 11), .ref (x 12), .int 0, .int 0, .int 1, .int 2]))] H := hw
  refine zfr 5 [.int 0] rfl rfl ?_
  refine lv_if_eq (tgt := 25) hx hb dX11_need_5 (by decide) (fun _ => ?_) (fun h => absurd (by decide) h)
  refine lv_iconst (v := (-1)) hx hb dX11_need_25 (by decide) ?_
  exact ziret hx hb hr (rfl) hlocks () (rfl) (trivial) hw [] rfl (rfl) hS (Nat.le_of_ble_eq_true rfl) (Nat.le_of_ble_eq_true rfl) dX11_need_26

set_option maxHeartbeats 4000000 in
set_option maxRecDepth 100000 in
/-- guide on a new object -/
theorem k_guide (l : Launch) (D : va_G) (ct : Nat → ClassId) (h0 : Nat) (x : Nat → Nat) (p1 : Int32) (p2 : Int32)  : zC l yX11_guide wsX11_guide ({ frames := 2, cells := 0, slots := 0, locals := 120 }) D ct [] [.ref h0, .int p1, .int p2] [(h0, .inr (10, [.ref (x 1), .ref (x 3), .ref (x 15), .ref (x 27), .ref (x 28), .ref (x 32), .ref (x 36), .ref (x 37), .ref (x 48), .ref (x 54), .ref (x 60), .ref (x 61), .ref (x 68), .int 0, .int 0])), (x 3, .inr (2, [.ref (x 4), .ref (x 5), .ref (x 6), .ref (x 7), .ref (x 8), .ref (x 9), .ref (x 10), .ref (x 11), .ref (x 12), .int 0, .int 0, .int 1, .int 2]))] (S := Unit) (fun _ => some (.int (-1))) (fun _ => True) (fun _ => []) 0 0 := by
  refine zofW cX11_guide 3 (some .int) (by decide) rfl (Nat.le_of_ble_eq_true rfl) ?_
  intro p e s m below meth c A hx hb hr hml hts hown hlocks hname hK hA hZ hN H locs hw hS ls hl
  have hown : s.vm.findClass RX11 = some m.cls := hown
  have hl : lv_has ls 3 [(0, .ref h0), (1, .int p1), (2, .int p2)] := hl
  refine lv_aload_n hx hb dX11_guide_0 rfl (lv_at hl 0 rfl) ?_
  refine lv_iload_n hx hb dX11_guide_1 rfl (lv_at hl 1 rfl) ?_
  refine zcall2 (va_runV (As := [.int p1]) (rest := []) ⟨hx, hb, hml, hown, hts⟩ (c_isPerson11 l D ct h0 x p1 H.size) (cwV 1 hts gX11_guide_X11_isPerson rfl rfl rfl (by decide +kernel) ⟨Nat.le_of_ble_eq_true rfl, Nat.le_of_ble_eq_true rfl⟩) (zpreV hK hw hS hA zZ.nil hN [0, 1] rfl rfl 10 0 rfl rfl) rfl rfl hl.1 rfl (lv_room (Nat.le_of_ble_eq_true rfl)) dX11_guide_2 ⟨Nat.le_of_ble_eq_true rfl, Nat.le_of_ble_eq_true rfl⟩) hw hS hA [0, 1] [] rfl rfl rfl rfl (fun _ H locs hp1 hw hS => ?_)
  have hw : zPD D A [(h0, .inr (10, [.ref (x 1), .ref (x 3), .ref (x 15), .ref (x 27), .ref (x 28), .ref (x 32), .ref (x 36), .ref (x 37), .ref (x 48), .ref (x 54), .ref (x 60), .ref (x 61), .ref (x 68), .int 0, .int 0])), (x 3, .inr (2, [.ref (x 4), .ref (x 5), .ref (x 6), .ref (x 7), .ref (x 8), .ref (x 9), .ref (x 10), .ref (x 11), .ref (x 12), .int 0, .int 0, .int 1, .int 2]))] H := hw
  refine zfr 5 [.int 0] rfl rfl ?_
  refine lv_if_eq (tgt := 16) hx hb dX11_guide_5 (by decide) (fun _ => ?_) (fun h => absurd (by decide) h)
  refine lv_iconst (v := (-1)) hx hb dX11_guide_16 (by decide) ?_
  exact ziret hx hb hr (rfl) hlocks () (rfl) (trivial) hw [] rfl (rfl) hS (Nat.le_of_ble_eq_true rfl) (Nat.le_of_ble_eq_true rfl) dX11_guide_17

set_option maxHeartbeats 4000000 in
set_option maxRecDepth 100000 in
/-- cheapest on a new object -/
theorem k_cheapest (l : Launch) (D : va_G) (ct : Nat → ClassId) (h0 : Nat) (x : Nat → Nat) (p1 : Int32)  : zC l yX11_cheapest wsX11_cheapest ({ frames := 2, cells := 0, slots := 0, locals := 120 }) D ct [] [.ref h0, .int p1] [(h0, .inr (10, [.ref (x 1), .ref (x 3), .ref (x 15), .ref (x 27), .ref (x 28), .ref (x 32), .ref (x 36), .ref (x 37), .ref (x 48), .ref (x 54), .ref (x 60), .ref (x 61), .ref (x 68), .int 0, .int 0])), (x 3, .inr (2, [.ref (x 4), .ref (x 5), .ref (x 6), .ref (x 7), .ref (x 8), .ref (x 9), .ref (x 10), .ref (x 11), .ref (x 12), .int 0, .int 0, .int 1, .int 2]))] (S := Unit) (fun _ => some (.int (-1))) (fun _ => True) (fun _ => []) 0 0 := by
  refine zofW cX11_cheapest 6 (some .int) (by decide) rfl (Nat.le_of_ble_eq_true rfl) ?_
  intro p e s m below meth c A hx hb hr hml hts hown hlocks hname hK hA hZ hN H locs hw hS ls hl
  have hown : s.vm.findClass RX11 = some m.cls := hown
  have hl : lv_has ls 6 [(0, .ref h0), (1, .int p1)] := hl
  refine lv_aload_n hx hb dX11_cheapest_0 rfl (lv_at hl 0 rfl) ?_
  refine lv_iload_n hx hb dX11_cheapest_1 rfl (lv_at hl 1 rfl) ?_
  refine zcall2 (va_runV (As := [.int p1]) (rest := []) ⟨hx, hb, hml, hown, hts⟩ (c_isPerson11 l D ct h0 x p1 H.size) (cwV 1 hts gX11_cheapest_X11_isPerson rfl rfl rfl (by decide +kernel) ⟨Nat.le_of_ble_eq_true rfl, Nat.le_of_ble_eq_true rfl⟩) (zpreV hK hw hS hA zZ.nil hN [0, 1] rfl rfl 10 0 rfl rfl) rfl rfl hl.1 rfl (lv_room (Nat.le_of_ble_eq_true rfl)) dX11_cheapest_2 ⟨Nat.le_of_ble_eq_true rfl, Nat.le_of_ble_eq_true rfl⟩) hw hS hA [0, 1] [] rfl rfl rfl rfl (fun _ H locs hp1 hw hS => ?_)
  have hw : zPD D A [(h0, .inr (10, [.ref (x 1), .ref (x 3), .ref (x 15), .ref (x 27), .ref (x 28), .ref (x 32), .ref (x 36), .ref (x 37), .ref (x 48), .ref (x 54), .ref (x 60), .ref (x 61), .ref (x 68), .int 0, .int 0])), (x 3, .inr (2, [.ref (x 4), .ref (x 5), .ref (x 6), .ref (x 7), .ref (x 8), .ref (x 9), .ref (x 10), .ref (x 11), .ref (x 12), .int 0, .int 0, .int 1, .int 2]))] H := hw
  refine zfr 5 [.int 0] rfl rfl ?_
  refine lv_if_ne (tgt := 10) hx hb dX11_cheapest_5 (by decide) (fun h => absurd (by decide) h) (fun _ => ?_)
  refine lv_iconst (v := (-1)) hx hb dX11_cheapest_8 (by decide) ?_
  exact ziret hx hb hr (rfl) hlocks () (rfl) (trivial) hw [] rfl (rfl) hS (Nat.le_of_ble_eq_true rfl) (Nat.le_of_ble_eq_true rfl) dX11_cheapest_9

set_option maxHeartbeats 4000000 in
set_option maxRecDepth 100000 in
/-- debt on a new object -/
theorem k_debt (l : Launch) (D : va_G) (ct : Nat → ClassId) (h0 : Nat) (x : Nat → Nat) (p1 : Int32) (p2 : Int32)  : zC l yX11_debt wsX11_debt ({ frames := 2, cells := 0, slots := 0, locals := 120 }) D ct [] [.ref h0, .int p1, .int p2] [(h0, .inr (10, [.ref (x 1), .ref (x 3), .ref (x 15), .ref (x 27), .ref (x 28), .ref (x 32), .ref (x 36), .ref (x 37), .ref (x 48), .ref (x 54), .ref (x 60), .ref (x 61), .ref (x 68), .int 0, .int 0])), (x 3, .inr (2, [.ref (x 4), .ref (x 5), .ref (x 6), .ref (x 7), .ref (x 8), .ref (x 9), .ref (x 10), .ref (x 11), .ref (x 12), .int 0, .int 0, .int 1, .int 2]))] (S := Unit) (fun _ => some (.int (-1))) (fun _ => True) (fun _ => []) 0 0 := by
  refine zofW cX11_debt 4 (some .int) (by decide) rfl (Nat.le_of_ble_eq_true rfl) ?_
  intro p e s m below meth c A hx hb hr hml hts hown hlocks hname hK hA hZ hN H locs hw hS ls hl
  have hown : s.vm.findClass RX11 = some m.cls := hown
  have hl : lv_has ls 4 [(0, .ref h0), (1, .int p1), (2, .int p2)] := hl
  refine lv_aload_n hx hb dX11_debt_0 rfl (lv_at hl 0 rfl) ?_
  refine lv_iload_n hx hb dX11_debt_1 rfl (lv_at hl 1 rfl) ?_
  refine zcall2 (va_runV (As := [.int p1]) (rest := []) ⟨hx, hb, hml, hown, hts⟩ (c_isPerson11 l D ct h0 x p1 H.size) (cwV 1 hts gX11_debt_X11_isPerson rfl rfl rfl (by decide +kernel) ⟨Nat.le_of_ble_eq_true rfl, Nat.le_of_ble_eq_true rfl⟩) (zpreV hK hw hS hA zZ.nil hN [0, 1] rfl rfl 10 0 rfl rfl) rfl rfl hl.1 rfl (lv_room (Nat.le_of_ble_eq_true rfl)) dX11_debt_2 ⟨Nat.le_of_ble_eq_true rfl, Nat.le_of_ble_eq_true rfl⟩) hw hS hA [0, 1] [] rfl rfl rfl rfl (fun _ H locs hp1 hw hS => ?_)
  have hw : zPD D A [(h0, .inr (10, [.ref (x 1), .ref (x 3), .ref (x 15), .ref (x 27), .ref (x 28), .ref (x 32), .ref (x 36), .ref (x 37), .ref (x 48), .ref (x 54), .ref (x 60), .ref (x 61), .ref (x 68), .int 0, .int 0])), (x 3, .inr (2, [.ref (x 4), .ref (x 5), .ref (x 6), .ref (x 7), .ref (x 8), .ref (x 9), .ref (x 10), .ref (x 11), .ref (x 12), .int 0, .int 0, .int 1, .int 2]))] H := hw
  refine zfr 5 [.int 0] rfl rfl ?_
  refine lv_if_eq (tgt := 16) hx hb dX11_debt_5 (by decide) (fun _ => ?_) (fun h => absurd (by decide) h)
  refine lv_iconst (v := (-1)) hx hb dX11_debt_16 (by decide) ?_
  exact ziret hx hb hr (rfl) hlocks () (rfl) (trivial) hw [] rfl (rfl) hS (Nat.le_of_ble_eq_true rfl) (Nat.le_of_ble_eq_true rfl) dX11_debt_17

set_option maxHeartbeats 4000000 in
set_option maxRecDepth 100000 in
/-- shaven on a new object -/
theorem k_shaven (l : Launch) (D : va_G) (ct : Nat → ClassId) (h0 : Nat) (x : Nat → Nat) (p1 : Int32)  : zC l yX11_shaven wsX11_shaven ({ frames := 2, cells := 0, slots := 0, locals := 120 }) D ct [] [.ref h0, .int p1] [(h0, .inr (10, [.ref (x 1), .ref (x 3), .ref (x 15), .ref (x 27), .ref (x 28), .ref (x 32), .ref (x 36), .ref (x 37), .ref (x 48), .ref (x 54), .ref (x 60), .ref (x 61), .ref (x 68), .int 0, .int 0])), (x 3, .inr (2, [.ref (x 4), .ref (x 5), .ref (x 6), .ref (x 7), .ref (x 8), .ref (x 9), .ref (x 10), .ref (x 11), .ref (x 12), .int 0, .int 0, .int 1, .int 2]))] (S := Unit) (fun _ => some (.int (-1))) (fun _ => True) (fun _ => []) 0 0 := by
  refine zofW cX11_shaven 2 (some .int) (by decide) rfl (Nat.le_of_ble_eq_true rfl) ?_
  intro p e s m below meth c A hx hb hr hml hts hown hlocks hname hK hA hZ hN H locs hw hS ls hl
  have hown : s.vm.findClass RX11 = some m.cls := hown
  have hl : lv_has ls 2 [(0, .ref h0), (1, .int p1)] := hl
  refine lv_aload_n hx hb dX11_shaven_0 rfl (lv_at hl 0 rfl) ?_
  refine lv_iload_n hx hb dX11_shaven_1 rfl (lv_at hl 1 rfl) ?_
  refine zcall2 (va_runV (As := [.int p1]) (rest := []) ⟨hx, hb, hml, hown, hts⟩ (c_isPerson11 l D ct h0 x p1 H.size) (cwV 1 hts gX11_shaven_X11_isPerson rfl rfl rfl (by decide +kernel) ⟨Nat.le_of_ble_eq_true rfl, Nat.le_of_ble_eq_true rfl⟩) (zpreV hK hw hS hA zZ.nil hN [0, 1] rfl rfl 10 0 rfl rfl) rfl rfl hl.1 rfl (lv_room (Nat.le_of_ble_eq_true rfl)) dX11_shaven_2 ⟨Nat.le_of_ble_eq_true rfl, Nat.le_of_ble_eq_true rfl⟩) hw hS hA [0, 1] [] rfl rfl rfl rfl (fun _ H locs hp1 hw hS => ?_)
  have hw : zPD D A [(h0, .inr (10, [.ref (x 1), .ref (x 3), .ref (x 15), .ref (x 27), .ref (x 28), .ref (x 32), .ref (x 36), .ref (x 37), .ref (x 48), .ref (x 54), .ref (x 60), .ref (x 61), .ref (x 68), .int 0, .int 0])), (x 3, .inr (2, [.ref (x 4), .ref (x 5), .ref (x 6), .ref (x 7), .ref (x 8), .ref (x 9), .ref (x 10), .ref (x 11), .ref (x 12), .int 0, .int 0, .int 1, .int 2]))] H := hw
  refine zfr 5 [.int 0] rfl rfl ?_
  refine lv_if_ne (tgt := 10) hx hb dX11_shaven_5 (by decide) (fun h => absurd (by decide) h) (fun _ => ?_)
  refine lv_iconst (v := (-1)) hx hb dX11_shaven_8 (by decide) ?_
  exact ziret hx hb hr (rfl) hlocks () (rfl) (trivial) hw [] rfl (rfl) hS (Nat.le_of_ble_eq_true rfl) (Nat.le_of_ble_eq_true rfl) dX11_shaven_9

set_option maxHeartbeats 4000000 in
set_option maxRecDepth 100000 in
/-- speakers on a new object -/
theorem k_speakers (l : Launch) (D : va_G) (ct : Nat → ClassId) (h0 : Nat) (x : Nat → Nat) (p1 : Int32) (p2 : Int32)  : zC l yX11_speakers wsX11_speakers ({ frames := 2, cells := 0, slots := 0, locals := 120 }) D ct [] [.ref h0, .int p1, .int p2] [(h0, .inr (10, [.ref (x 1), .ref (x 3), .ref (x 15), .ref (x 27), .ref (x 28), .ref (x 32), .ref (x 36), .ref (x 37), .ref (x 48), .ref (x 54), .ref (x 60), .ref (x 61), .ref (x 68), .int 0, .int 0])), (x 3, .inr (2, [.ref (x 4), .ref (x 5), .ref (x 6), .ref (x 7), .ref (x 8), .ref (x 9), .ref (x 10), .ref (x 11), .ref (x 12), .int 0, .int 0, .int 1, .int 2]))] (S := Unit) (fun _ => some (.int (-1))) (fun _ => True) (fun _ => []) 0 0 := by
  refine zofW cX11_speakers 3 (some .int) (by decide) rfl (Nat.le_of_ble_eq_true rfl) ?_
  intro p e s m below meth c A hx hb hr hml hts hown hlocks hname hK hA hZ hN H locs hw hS ls hl
  have hown : s.vm.findClass RX11 = some m.cls := hown
  have hl : lv_has ls 3 [(0, .ref h0), (1, .int p1), (2, .int p2)] := hl
  refine lv_aload_n hx hb dX11_speakers_0 rfl (lv_at hl 0 rfl) ?_
  refine lv_iload_n hx hb dX11_speakers_1 rfl (lv_at hl 1 rfl) ?_
  refine zcall2 (va_runV (As := [.int p1]) (rest := []) ⟨hx, hb, hml, hown, hts⟩ (c_isPerson11 l D ct h0 x p1 H.size) (cwV 1 hts gX11_speakers_X11_isPerson rfl rfl rfl (by decide +kernel) ⟨Nat.le_of_ble_eq_true rfl, Nat.le_of_ble_eq_true rfl⟩) (zpreV hK hw hS hA zZ.nil hN [0, 1] rfl rfl 10 0 rfl rfl) rfl rfl hl.1 rfl (lv_room (Nat.le_of_ble_eq_true rfl)) dX11_speakers_2 ⟨Nat.le_of_ble_eq_true rfl, Nat.le_of_ble_eq_true rfl⟩) hw hS hA [0, 1] [] rfl rfl rfl rfl (fun _ H locs hp1 hw hS => ?_)
  have hw : zPD D A [(h0, .inr (10, [.ref (x 1), .ref (x 3), .ref (x 15), .ref (x 27), .ref (x 28), .ref (x 32), .ref (x 36), .ref (x 37), .ref (x 48), .ref (x 54), .ref (x 60), .ref (x 61), .ref (x 68), .int 0, .int 0])), (x 3, .inr (2, [.ref (x 4), .ref (x 5), .ref (x 6), .ref (x 7), .ref (x 8), .ref (x 9), .ref (x 10), .ref (x 11), .ref (x 12), .int 0, .int 0, .int 1, .int 2]))] H := hw
  refine zfr 5 [.int 0] rfl rfl ?_
  refine lv_if_eq (tgt := 29) hx hb dX11_speakers_5 (by decide) (fun _ => ?_) (fun h => absurd (by decide) h)
  refine lv_iconst (v := (-1)) hx hb dX11_speakers_29 (by decide) ?_
  exact ziret hx hb hr (rfl) hlocks () (rfl) (trivial) hw [] rfl (rfl) hS (Nat.le_of_ble_eq_true rfl) (Nat.le_of_ble_eq_true rfl) dX11_speakers_30

set_option maxHeartbeats 4000000 in
set_option maxRecDepth 100000 in
/-- stricter on a new object -/
theorem k_stricter (l : Launch) (D : va_G) (ct : Nat → ClassId) (h0 : Nat) (x : Nat → Nat) (p1 : Int32) (p2 : Int32)  : zC l yX11_stricter wsX11_stricter ({ frames := 2, cells := 0, slots := 0, locals := 120 }) D ct [] [.ref h0, .int p1, .int p2] [(h0, .inr (10, [.ref (x 1), .ref (x 3), .ref (x 15), .ref (x 27), .ref (x 28), .ref (x 32), .ref (x 36), .ref (x 37), .ref (x 48), .ref (x 54), .ref (x 60), .ref (x 61), .ref (x 68), .int 0, .int 0])), (x 3, .inr (2, [.ref (x 4), .ref (x 5), .ref (x 6), .ref (x 7), .ref (x 8), .ref (x 9), .ref (x 10), .ref (x 11), .ref (x 12), .int 0, .int 0, .int 1, .int 2]))] (S := Unit) (fun _ => some (.int (-1))) (fun _ => True) (fun _ => []) 0 0 := by
  refine zofW cX11_stricter 5 (some .int) (by decide) rfl (Nat.le_of_ble_eq_true rfl) ?_
  intro p e s m below meth c A hx hb hr hml hts hown hlocks hname hK hA hZ hN H locs hw hS ls hl
  have hown : s.vm.findClass RX11 = some m.cls := hown
  have hl : lv_has ls 5 [(0, .ref h0), (1, .int p1), (2, .int p2)] := hl
  refine lv_aload_n hx hb dX11_stricter_0 rfl (lv_at hl 0 rfl) ?_
  refine lv_iload_n hx hb dX11_stricter_1 rfl (lv_at hl 1 rfl) ?_
  refine zcall2 (va_runV (As := [.int p1]) (rest := []) ⟨hx, hb, hml, hown, hts⟩ (c_isTown11 l D ct h0 x p1 H.size) (cwV 1 hts gX11_stricter_X11_isTown rfl rfl rfl (by decide +kernel) ⟨Nat.le_of_ble_eq_true rfl, Nat.le_of_ble_eq_true rfl⟩) (zpreV hK hw hS hA zZ.nil hN [0, 1] rfl rfl 10 0 rfl rfl) rfl rfl hl.1 rfl (lv_room (Nat.le_of_ble_eq_true rfl)) dX11_stricter_2 ⟨Nat.le_of_ble_eq_true rfl, Nat.le_of_ble_eq_true rfl⟩) hw hS hA [0, 1] [] rfl rfl rfl rfl (fun _ H locs hp1 hw hS => ?_)
  have hw : zPD D A [(h0, .inr (10, [.ref (x 1), .ref (x 3), .ref (x 15), .ref (x 27), .ref (x 28), .ref (x 32), .ref (x 36), .ref (x 37), .ref (x 48), .ref (x 54), .ref (x 60), .ref (x 61), .ref (x 68), .int 0, .int 0])), (x 3, .inr (2, [.ref (x 4), .ref (x 5), .ref (x 6), .ref (x 7), .ref (x 8), .ref (x 9), .ref (x 10), .ref (x 11), .ref (x 12), .int 0, .int 0, .int 1, .int 2]))] H := hw
  refine zfr 5 [.int 0] rfl rfl ?_
  refine lv_if_eq (tgt := 18) hx hb dX11_stricter_5 (by decide) (fun _ => ?_) (fun h => absurd (by decide) h)
  refine lv_iconst (v := (-1)) hx hb dX11_stricter_18 (by decide) ?_
  exact ziret hx hb hr (rfl) hlocks () (rfl) (trivial) hw [] rfl (rfl) hS (Nat.le_of_ble_eq_true rfl) (Nat.le_of_ble_eq_true rfl) dX11_stricter_19

set_option maxHeartbeats 4000000 in
set_option maxRecDepth 100000 in
/-- see on a new object -/
theorem k_see (l : Launch) (D : va_G) (ct : Nat → ClassId) (h0 : Nat) (x : Nat → Nat) (p1 : Int32) (p2 : Int32)  : zC l yX11_see wsX11_see ({ frames := 2, cells := 0, slots := 0, locals := 120 }) D ct [] [.ref h0, .int p1, .int p2] [(h0, .inr (10, [.ref (x 1), .ref (x 3), .ref (x 15), .ref (x 27), .ref (x 28), .ref (x 32), .ref (x 36), .ref (x 37), .ref (x 48), .ref (x 54), .ref (x 60), .ref (x 61), .ref (x 68), .int 0, .int 0])), (x 3, .inr (2, [.ref (x 4), .ref (x 5), .ref (x 6), .ref (x 7), .ref (x 8), .ref (x 9), .ref (x 10), .ref (x 11), .ref (x 12), .int 0, .int 0, .int 1, .int 2]))] (S := Unit) (fun _ => some (.int 0)) (fun _ => True) (fun _ => []) 0 0 := by
  refine zofW cX11_see 4 (some .boolean) (by decide) rfl (Nat.le_of_ble_eq_true rfl) ?_
  intro p e s m below meth c A hx hb hr hml hts hown hlocks hname hK hA hZ hN H locs hw hS ls hl
  have hown : s.vm.findClass RX11 = some m.cls := hown
  have hl : lv_has ls 4 [(0, .ref h0), (1, .int p1), (2, .int p2)] := hl
  refine lv_aload_n hx hb dX11_see_0 rfl (lv_at hl 0 rfl) ?_
  refine lv_iload_n hx hb dX11_see_1 rfl (lv_at hl 1 rfl) ?_
  refine zcall2 (va_runV (As := [.int p1]) (rest := []) ⟨hx, hb, hml, hown, hts⟩ (c_isTown11 l D ct h0 x p1 H.size) (cwV 1 hts gX11_see_X11_isTown rfl rfl rfl (by decide +kernel) ⟨Nat.le_of_ble_eq_true rfl, Nat.le_of_ble_eq_true rfl⟩) (zpreV hK hw hS hA zZ.nil hN [0, 1] rfl rfl 10 0 rfl rfl) rfl rfl hl.1 rfl (lv_room (Nat.le_of_ble_eq_true rfl)) dX11_see_2 ⟨Nat.le_of_ble_eq_true rfl, Nat.le_of_ble_eq_true rfl⟩) hw hS hA [0, 1] [] rfl rfl rfl rfl (fun _ H locs hp1 hw hS => ?_)
  have hw : zPD D A [(h0, .inr (10, [.ref (x 1), .ref (x 3), .ref (x 15), .ref (x 27), .ref (x 28), .ref (x 32), .ref (x 36), .ref (x 37), .ref (x 48), .ref (x 54), .ref (x 60), .ref (x 61), .ref (x 68), .int 0, .int 0])), (x 3, .inr (2, [.ref (x 4), .ref (x 5), .ref (x 6), .ref (x 7), .ref (x 8), .ref (x 9), .ref (x 10), .ref (x 11), .ref (x 12), .int 0, .int 0, .int 1, .int 2]))] H := hw
  refine zfr 5 [.int 0] rfl rfl ?_
  refine lv_if_eq (tgt := 20) hx hb dX11_see_5 (by decide) (fun _ => ?_) (fun h => absurd (by decide) h)
  refine lv_iconst (v := 0) hx hb dX11_see_20 (by decide) ?_
  exact ziret hx hb hr (rfl) hlocks () (rfl) (trivial) hw [] rfl (rfl) hS (Nat.le_of_ble_eq_true rfl) (Nat.le_of_ble_eq_true rfl) dX11_see_21

set_option maxHeartbeats 4000000 in
set_option maxRecDepth 100000 in
/-- trapped on a new object -/
theorem k_trapped (l : Launch) (D : va_G) (ct : Nat → ClassId) (h0 : Nat) (x : Nat → Nat)  : zC l yX11_trapped wsX11_trapped ({ frames := 1, cells := 0, slots := 0, locals := 80 }) D ct [] [.ref h0] [(h0, .inr (10, [.ref (x 1), .ref (x 3), .ref (x 15), .ref (x 27), .ref (x 28), .ref (x 32), .ref (x 36), .ref (x 37), .ref (x 48), .ref (x 54), .ref (x 60), .ref (x 61), .ref (x 68), .int 0, .int 0])), (x 3, .inr (2, [.ref (x 4), .ref (x 5), .ref (x 6), .ref (x 7), .ref (x 8), .ref (x 9), .ref (x 10), .ref (x 11), .ref (x 12), .int 0, .int 0, .int 1, .int 2]))] (S := Unit) (fun _ => some (.int 0)) (fun _ => True) (fun _ => []) 0 0 := by
  refine zofW cX11_trapped 3 (some .int) (by decide) rfl (Nat.le_of_ble_eq_true rfl) ?_
  intro p e s m below meth c A hx hb hr hml hts hown hlocks hname hK hA hZ hN H locs hw hS ls hl
  have hown : s.vm.findClass RX11 = some m.cls := hown
  have hl : lv_has ls 3 [(0, .ref h0)] := hl
  have hiX11 : ∀ w ∈ wsX110, w ∈ wsX11_trapped := by decide +kernel
  have hiX2 : ∀ w ∈ wsX20, w ∈ wsX11_trapped := by decide +kernel
  refine lv_iconst (v := 0) hx hb dX11_trapped_0 (by decide) ?_
  refine lv_istore_n (lv' := [(1, .int 0), (0, .ref h0)]) hx hb dX11_trapped_1 rfl hl (by decide) rfl (fun ls hl => ?_)
  refine lv_iconst (v := 0) hx hb dX11_trapped_2 (by decide) ?_
  refine lv_istore_n (lv' := [(2, .int 0), (1, .int 0), (0, .ref h0)]) hx hb dX11_trapped_3 rfl hl (by decide) rfl (fun ls hl => ?_)
  refine lv_iload_n hx hb dX11_trapped_4 rfl (lv_at hl 0 rfl) ?_
  refine lv_aload_n hx hb dX11_trapped_5 rfl (lv_at hl 2 rfl) ?_
  refine va_get (D := D) (ci := 10) (v := .ref (x 3)) hx hb hts hiX11 hown hK hw.1 0 rfl rfl 1 (by decide) (hts (.fieldLink RX11 19 "BeardPass" "told" "LBeardPass$Land;") (by decide +kernel)) (fun _ h9 => h9) rfl dX11_trapped_6 ?_
  refine va_get (D := D) (ci := 2) (v := .int 0) hx hb hts hiX2 hown hK hw.1 1 rfl rfl 10 (by decide) (hts (.fieldLink RX11 172 "BeardPass$Land" "persons" "I") (by decide +kernel)) (fun _ h9 => h9) rfl dX11_trapped_9 ?_
  refine lv_icmp_ge (tgt := 60) hx hb dX11_trapped_12 (by decide) (fun _ => ?_) (fun h => absurd (by decide) h)
  refine lv_iload_n hx hb dX11_trapped_60 rfl (lv_at hl 1 rfl) ?_
  exact ziret hx hb hr (rfl) hlocks () (rfl) (trivial) hw [] rfl (rfl) hS (Nat.le_of_ble_eq_true rfl) (Nat.le_of_ble_eq_true rfl) dX11_trapped_61

set_option maxHeartbeats 4000000 in
set_option maxRecDepth 100000 in
/-- strict on a new object -/
theorem k_strict (l : Launch) (D : va_G) (ct : Nat → ClassId) (h0 : Nat) (x : Nat → Nat)  : zC l yX11_strict wsX11_strict ({ frames := 1, cells := 0, slots := 0, locals := 80 }) D ct [] [.ref h0] [(h0, .inr (10, [.ref (x 1), .ref (x 3), .ref (x 15), .ref (x 27), .ref (x 28), .ref (x 32), .ref (x 36), .ref (x 37), .ref (x 48), .ref (x 54), .ref (x 60), .ref (x 61), .ref (x 68), .int 0, .int 0])), (x 3, .inr (2, [.ref (x 4), .ref (x 5), .ref (x 6), .ref (x 7), .ref (x 8), .ref (x 9), .ref (x 10), .ref (x 11), .ref (x 12), .int 0, .int 0, .int 1, .int 2]))] (S := Unit) (fun _ => some (.int (-1))) (fun _ => True) (fun _ => []) 0 0 := by
  refine zofW cX11_strict 5 (some .int) (by decide) rfl (Nat.le_of_ble_eq_true rfl) ?_
  intro p e s m below meth c A hx hb hr hml hts hown hlocks hname hK hA hZ hN H locs hw hS ls hl
  have hown : s.vm.findClass RX11 = some m.cls := hown
  have hl : lv_has ls 5 [(0, .ref h0)] := hl
  have hiX11 : ∀ w ∈ wsX110, w ∈ wsX11_strict := by decide +kernel
  have hiX2 : ∀ w ∈ wsX20, w ∈ wsX11_strict := by decide +kernel
  refine lv_iconst (v := (-1)) hx hb dX11_strict_0 (by decide) ?_
  refine lv_istore_n (lv' := [(1, .int (-1)), (0, .ref h0)]) hx hb dX11_strict_1 rfl hl (by decide) rfl (fun ls hl => ?_)
  refine lv_bipush (v := 7) hx hb dX11_strict_2 (by decide) ?_
  refine lv_istore_n (lv' := [(2, .int 7), (1, .int (-1)), (0, .ref h0)]) hx hb dX11_strict_4 rfl hl (by decide) rfl (fun ls hl => ?_)
  refine lv_iconst (v := 0) hx hb dX11_strict_5 (by decide) ?_
  refine lv_istore_n (lv' := [(3, .int 0), (2, .int 7), (1, .int (-1)), (0, .ref h0)]) hx hb dX11_strict_6 rfl hl (by decide) rfl (fun ls hl => ?_)
  refine lv_iload_n hx hb dX11_strict_7 rfl (lv_at hl 0 rfl) ?_
  refine lv_aload_n hx hb dX11_strict_8 rfl (lv_at hl 3 rfl) ?_
  refine va_get (D := D) (ci := 10) (v := .ref (x 3)) hx hb hts hiX11 hown hK hw.1 0 rfl rfl 1 (by decide) (hts (.fieldLink RX11 19 "BeardPass" "told" "LBeardPass$Land;") (by decide +kernel)) (fun _ h9 => h9) rfl dX11_strict_9 ?_
  refine va_get (D := D) (ci := 2) (v := .int 0) hx hb hts hiX2 hown hK hw.1 1 rfl rfl 9 (by decide) (hts (.fieldLink RX11 169 "BeardPass$Land" "towns" "I") (by decide +kernel)) (fun _ h9 => h9) rfl dX11_strict_12 ?_
  refine lv_icmp_ge (tgt := 52) hx hb dX11_strict_15 (by decide) (fun _ => ?_) (fun h => absurd (by decide) h)
  refine lv_iload_n hx hb dX11_strict_52 rfl (lv_at hl 2 rfl) ?_
  exact ziret hx hb hr (rfl) hlocks () (rfl) (trivial) hw [] rfl (rfl) hS (Nat.le_of_ble_eq_true rfl) (Nat.le_of_ble_eq_true rfl) dX11_strict_53

set_option maxHeartbeats 4000000 in
set_option maxRecDepth 100000 in
/-- alike on a new object -/
theorem k_alike (l : Launch) (D : va_G) (ct : Nat → ClassId) (h0 : Nat) (x : Nat → Nat)  : zC l yX11_alike wsX11_alike ({ frames := 1, cells := 0, slots := 0, locals := 80 }) D ct [] [.ref h0] [(h0, .inr (10, [.ref (x 1), .ref (x 3), .ref (x 15), .ref (x 27), .ref (x 28), .ref (x 32), .ref (x 36), .ref (x 37), .ref (x 48), .ref (x 54), .ref (x 60), .ref (x 61), .ref (x 68), .int 0, .int 0])), (x 3, .inr (2, [.ref (x 4), .ref (x 5), .ref (x 6), .ref (x 7), .ref (x 8), .ref (x 9), .ref (x 10), .ref (x 11), .ref (x 12), .int 0, .int 0, .int 1, .int 2]))] (S := Unit) (fun _ => some (.int 0)) (fun _ => True) (fun _ => []) 0 0 := by
  refine zofW cX11_alike 5 (some .int) (by decide) rfl (Nat.le_of_ble_eq_true rfl) ?_
  intro p e s m below meth c A hx hb hr hml hts hown hlocks hname hK hA hZ hN H locs hw hS ls hl
  have hown : s.vm.findClass RX11 = some m.cls := hown
  have hl : lv_has ls 5 [(0, .ref h0)] := hl
  have hiX11 : ∀ w ∈ wsX110, w ∈ wsX11_alike := by decide +kernel
  have hiX2 : ∀ w ∈ wsX20, w ∈ wsX11_alike := by decide +kernel
  refine lv_iconst (v := 0) hx hb dX11_alike_0 (by decide) ?_
  refine lv_istore_n (lv' := [(1, .int 0), (0, .ref h0)]) hx hb dX11_alike_1 rfl hl (by decide) rfl (fun ls hl => ?_)
  refine lv_iconst (v := 0) hx hb dX11_alike_2 (by decide) ?_
  refine lv_istore_n (lv' := [(2, .int 0), (1, .int 0), (0, .ref h0)]) hx hb dX11_alike_3 rfl hl (by decide) rfl (fun ls hl => ?_)
  refine lv_iload_n hx hb dX11_alike_4 rfl (lv_at hl 0 rfl) ?_
  refine lv_aload_n hx hb dX11_alike_5 rfl (lv_at hl 2 rfl) ?_
  refine va_get (D := D) (ci := 10) (v := .ref (x 3)) hx hb hts hiX11 hown hK hw.1 0 rfl rfl 1 (by decide) (hts (.fieldLink RX11 19 "BeardPass" "told" "LBeardPass$Land;") (by decide +kernel)) (fun _ h9 => h9) rfl dX11_alike_6 ?_
  refine va_get (D := D) (ci := 2) (v := .int 0) hx hb hts hiX2 hown hK hw.1 1 rfl rfl 9 (by decide) (hts (.fieldLink RX11 169 "BeardPass$Land" "towns" "I") (by decide +kernel)) (fun _ h9 => h9) rfl dX11_alike_9 ?_
  refine lv_icmp_ge (tgt := 77) hx hb dX11_alike_12 (by decide) (fun _ => ?_) (fun h => absurd (by decide) h)
  refine lv_iload_n hx hb dX11_alike_77 rfl (lv_at hl 1 rfl) ?_
  exact ziret hx hb hr (rfl) hlocks () (rfl) (trivial) hw [] rfl (rfl) hS (Nat.le_of_ble_eq_true rfl) (Nat.le_of_ble_eq_true rfl) dX11_alike_78

set_option maxHeartbeats 4000000 in
set_option maxRecDepth 100000 in
/-- undo on a new object -/
theorem k_undo (l : Launch) (D : va_G) (ct : Nat → ClassId) (h0 : Nat) (x : Nat → Nat)  : zC l yX11_undo wsX11_undo ({ frames := 1, cells := 0, slots := 0, locals := 80 }) D ct [] [.ref h0] [(h0, .inr (10, [.ref (x 1), .ref (x 3), .ref (x 15), .ref (x 27), .ref (x 28), .ref (x 32), .ref (x 36), .ref (x 37), .ref (x 48), .ref (x 54), .ref (x 60), .ref (x 61), .ref (x 68), .int 0, .int 0])), (x 3, .inr (2, [.ref (x 4), .ref (x 5), .ref (x 6), .ref (x 7), .ref (x 8), .ref (x 9), .ref (x 10), .ref (x 11), .ref (x 12), .int 0, .int 0, .int 1, .int 2]))] (S := Unit) (fun _ => some (.int 0)) (fun _ => True) (fun _ => []) 0 0 := by
  refine zofW cX11_undo 1 (some .boolean) (by decide) rfl (Nat.le_of_ble_eq_true rfl) ?_
  intro p e s m below meth c A hx hb hr hml hts hown hlocks hname hK hA hZ hN H locs hw hS ls hl
  have hown : s.vm.findClass RX11 = some m.cls := hown
  have hl : lv_has ls 1 [(0, .ref h0)] := hl
  have hiX11 : ∀ w ∈ wsX110, w ∈ wsX11_undo := by decide +kernel
  refine lv_aload_n hx hb dX11_undo_0 rfl (lv_at hl 0 rfl) ?_
  refine va_get (D := D) (ci := 10) (v := .int 0) hx hb hts hiX11 hown hK hw.1 0 rfl rfl 14 (by decide) (hts (.fieldLink RX11 92 "BeardPass" "pastCount" "I") (by decide +kernel)) (fun _ h9 => h9) rfl dX11_undo_1 ?_
  refine lv_if_ne (tgt := 9) hx hb dX11_undo_4 (by decide) (fun h => absurd (by decide) h) (fun _ => ?_)
  refine lv_iconst (v := 0) hx hb dX11_undo_7 (by decide) ?_
  exact ziret hx hb hr (rfl) hlocks () (rfl) (trivial) hw [] rfl (rfl) hS (Nat.le_of_ble_eq_true rfl) (Nat.le_of_ble_eq_true rfl) dX11_undo_8

set_option maxHeartbeats 4000000 in
set_option maxRecDepth 100000 in
/-- Standing.copy -/
theorem c_X8_copy (l : Launch) (D : va_G) (ct : Nat → ClassId) (h0 : Nat) (h1 : Nat) (a0 : Nat) (a1 : Nat) (a2 : Nat) (a3 : Nat) (a4 : Nat) (b0 : Nat) (b1 : Nat) (b2 : Nat) (b3 : Nat) (b4 : Nat) (f0 : Nat → Int32) (f1 : Nat → Int32) (f2 : Nat → Int32) (f3 : Nat → Int32) (f4 : Nat → Int32) (g0 : Nat → Int32) (g1 : Nat → Int32) (g2 : Nat → Int32) (g3 : Nat → Int32) (g4 : Nat → Int32) (w0 : Int32) (w1 : Int32)  : zC l yX8_copy wsX8_copy ({ frames := 2, cells := 0, slots := 0, locals := 120 }) D ct [] [.ref h0, .ref h1] [(h0, .inr (7, [.ref a0, .ref a1, .ref a2, .ref a3, .ref a4, .int w0])), (a0, .inl (ct 0, 6, .inl f0)), (a1, .inl (ct 0, 6, .inl f1)), (a2, .inl (ct 0, 6, .inl f2)), (a3, .inl (ct 0, 6, .inl f3)), (a4, .inl (ct 0, 6, .inl f4)), (h1, .inr (7, [.ref b0, .ref b1, .ref b2, .ref b3, .ref b4, .int w1])), (b0, .inl (ct 0, 6, .inl g0)), (b1, .inl (ct 0, 6, .inl g1)), (b2, .inl (ct 0, 6, .inl g2)), (b3, .inl (ct 0, 6, .inl g3)), (b4, .inl (ct 0, 6, .inl g4))] (S := Unit) (fun _ => none) (fun _ => True) (fun _ => [(h0, .inr (7, [.ref a0, .ref a1, .ref a2, .ref a3, .ref a4, .int w1])), (a0, .inl (ct 0, 6, .inl (va_cpy g0 f0 0 0 6))), (a1, .inl (ct 0, 6, .inl (va_cpy g1 f1 0 0 6))), (a2, .inl (ct 0, 6, .inl (va_cpy g2 f2 0 0 6))), (a3, .inl (ct 0, 6, .inl (va_cpy g3 f3 0 0 6))), (a4, .inl (ct 0, 6, .inl (va_cpy g4 f4 0 0 6))), (h1, .inr (7, [.ref b0, .ref b1, .ref b2, .ref b3, .ref b4, .int w1])), (b0, .inl (ct 0, 6, .inl g0)), (b1, .inl (ct 0, 6, .inl g1)), (b2, .inl (ct 0, 6, .inl g2)), (b3, .inl (ct 0, 6, .inl g3)), (b4, .inl (ct 0, 6, .inl g4))]) 0 0 := by
  refine zofW cX8_copy 2 none (by decide) rfl (Nat.le_of_ble_eq_true rfl) ?_
  intro p e s m below meth c A hx hb hr hml hts hown hlocks hname hK hA hZ hN H locs hw hS ls hl
  have hown : s.vm.findClass RX8 = some m.cls := hown
  have hl : lv_has ls 2 [(0, .ref h0), (1, .ref h1)] := hl
  have hiX8 : ∀ w ∈ wsX80, w ∈ wsX8_copy := by decide +kernel
  refine lv_aload_n hx hb dX8_copy_0 rfl (lv_at hl 0 rfl) ?_
  refine lv_aload_n hx hb dX8_copy_1 rfl (lv_at hl 1 rfl) ?_
  refine va_get (D := D) (ci := 7) (v := .int w1) hx hb hts hiX8 hown hK hw.1 6 rfl rfl 5 (by decide) (hts (.fieldLink RX8 27 "BeardPass$Standing" "weeks" "I") (by decide +kernel)) (fun _ h9 => h9) rfl dX8_copy_2 ?_
  refine zput (D := D) (ci := 7) (v := .int w1) (ty := .int) hx hb hts hiX8 tyX8 tyX8_ok nmX8 hown hK hw hS 0 rfl rfl 5 (by decide) (hts (.fieldLink RX8 27 "BeardPass$Standing" "weeks" "I") (by decide +kernel)) (fun _ h9 => h9) rfl (by decide +kernel) rfl rfl (Nat.le_of_ble_eq_true rfl) dX8_copy_5 [(h0, .inr (7, [.ref a0, .ref a1, .ref a2, .ref a3, .ref a4, .int w1])), (a0, .inl (ct 0, 6, .inl f0)), (a1, .inl (ct 0, 6, .inl f1)), (a2, .inl (ct 0, 6, .inl f2)), (a3, .inl (ct 0, 6, .inl f3)), (a4, .inl (ct 0, 6, .inl f4)), (h1, .inr (7, [.ref b0, .ref b1, .ref b2, .ref b3, .ref b4, .int w1])), (b0, .inl (ct 0, 6, .inl g0)), (b1, .inl (ct 0, 6, .inl g1)), (b2, .inl (ct 0, 6, .inl g2)), (b3, .inl (ct 0, 6, .inl g3)), (b4, .inl (ct 0, 6, .inl g4))] rfl (fun H locs hw hS => ?_)
  refine lv_aload_n hx hb dX8_copy_8 rfl (lv_at hl 1 rfl) ?_
  refine va_get (D := D) (ci := 7) (v := .ref b0) hx hb hts hiX8 hown hK hw.1 6 rfl rfl 0 (by decide) (hts (.fieldLink RX8 9 "BeardPass$Standing" "places" "[I") (by decide +kernel)) (fun _ h9 => h9) rfl dX8_copy_9 ?_
  refine lv_iconst (v := 0) hx hb dX8_copy_12 (by decide) ?_
  refine lv_aload_n hx hb dX8_copy_13 rfl (lv_at hl 0 rfl) ?_
  refine va_get (D := D) (ci := 7) (v := .ref a0) hx hb hts hiX8 hown hK hw.1 0 rfl rfl 0 (by decide) (hts (.fieldLink RX8 9 "BeardPass$Standing" "places" "[I") (by decide +kernel)) (fun _ h9 => h9) rfl dX8_copy_14 ?_
  refine lv_iconst (v := 0) hx hb dX8_copy_17 (by decide) ?_
  refine lv_bipush (v := 6) hx hb dX8_copy_18 (by decide) ?_
  refine zcopyi hx hb (hml.trans hl.1.symm) hown (hts (.methodLink RX8 41 arraycopyName) (by decide +kernel)) (hts (.native arraycopyName) (by decide +kernel)) (hts (.static arraycopyName) (by decide +kernel)) (hts (.initialized "java/lang/System") (by decide +kernel)) hK hw hS 7 1 rfl rfl 6 rfl rfl (by decide) (by decide) (by decide) (by decide) (Nat.le_of_ble_eq_true rfl) (by decide +kernel) dX8_copy_20 [(h0, .inr (7, [.ref a0, .ref a1, .ref a2, .ref a3, .ref a4, .int w1])), (a0, .inl (ct 0, 6, .inl (va_cpy g0 f0 0 0 6))), (a1, .inl (ct 0, 6, .inl f1)), (a2, .inl (ct 0, 6, .inl f2)), (a3, .inl (ct 0, 6, .inl f3)), (a4, .inl (ct 0, 6, .inl f4)), (h1, .inr (7, [.ref b0, .ref b1, .ref b2, .ref b3, .ref b4, .int w1])), (b0, .inl (ct 0, 6, .inl g0)), (b1, .inl (ct 0, 6, .inl g1)), (b2, .inl (ct 0, 6, .inl g2)), (b3, .inl (ct 0, 6, .inl g3)), (b4, .inl (ct 0, 6, .inl g4))] rfl (fun H locs hw hS => ?_)
  refine lv_aload_n hx hb dX8_copy_23 rfl (lv_at hl 1 rfl) ?_
  refine va_get (D := D) (ci := 7) (v := .ref b1) hx hb hts hiX8 hown hK hw.1 6 rfl rfl 1 (by decide) (hts (.fieldLink RX8 15 "BeardPass$Standing" "beards" "[I") (by decide +kernel)) (fun _ h9 => h9) rfl dX8_copy_24 ?_
  refine lv_iconst (v := 0) hx hb dX8_copy_27 (by decide) ?_
  refine lv_aload_n hx hb dX8_copy_28 rfl (lv_at hl 0 rfl) ?_
  refine va_get (D := D) (ci := 7) (v := .ref a1) hx hb hts hiX8 hown hK hw.1 0 rfl rfl 1 (by decide) (hts (.fieldLink RX8 15 "BeardPass$Standing" "beards" "[I") (by decide +kernel)) (fun _ h9 => h9) rfl dX8_copy_29 ?_
  refine lv_iconst (v := 0) hx hb dX8_copy_32 (by decide) ?_
  refine lv_bipush (v := 6) hx hb dX8_copy_33 (by decide) ?_
  refine zcopyi hx hb (hml.trans hl.1.symm) hown (hts (.methodLink RX8 41 arraycopyName) (by decide +kernel)) (hts (.native arraycopyName) (by decide +kernel)) (hts (.static arraycopyName) (by decide +kernel)) (hts (.initialized "java/lang/System") (by decide +kernel)) hK hw hS 8 2 rfl rfl 6 rfl rfl (by decide) (by decide) (by decide) (by decide) (Nat.le_of_ble_eq_true rfl) (by decide +kernel) dX8_copy_35 [(h0, .inr (7, [.ref a0, .ref a1, .ref a2, .ref a3, .ref a4, .int w1])), (a0, .inl (ct 0, 6, .inl (va_cpy g0 f0 0 0 6))), (a1, .inl (ct 0, 6, .inl (va_cpy g1 f1 0 0 6))), (a2, .inl (ct 0, 6, .inl f2)), (a3, .inl (ct 0, 6, .inl f3)), (a4, .inl (ct 0, 6, .inl f4)), (h1, .inr (7, [.ref b0, .ref b1, .ref b2, .ref b3, .ref b4, .int w1])), (b0, .inl (ct 0, 6, .inl g0)), (b1, .inl (ct 0, 6, .inl g1)), (b2, .inl (ct 0, 6, .inl g2)), (b3, .inl (ct 0, 6, .inl g3)), (b4, .inl (ct 0, 6, .inl g4))] rfl (fun H locs hw hS => ?_)
  refine lv_aload_n hx hb dX8_copy_38 rfl (lv_at hl 1 rfl) ?_
  refine va_get (D := D) (ci := 7) (v := .ref b2) hx hb hts hiX8 hown hK hw.1 6 rfl rfl 2 (by decide) (hts (.fieldLink RX8 18 "BeardPass$Standing" "forged" "[I") (by decide +kernel)) (fun _ h9 => h9) rfl dX8_copy_39 ?_
  refine lv_iconst (v := 0) hx hb dX8_copy_42 (by decide) ?_
  refine lv_aload_n hx hb dX8_copy_43 rfl (lv_at hl 0 rfl) ?_
  refine va_get (D := D) (ci := 7) (v := .ref a2) hx hb hts hiX8 hown hK hw.1 0 rfl rfl 2 (by decide) (hts (.fieldLink RX8 18 "BeardPass$Standing" "forged" "[I") (by decide +kernel)) (fun _ h9 => h9) rfl dX8_copy_44 ?_
  refine lv_iconst (v := 0) hx hb dX8_copy_47 (by decide) ?_
  refine lv_bipush (v := 6) hx hb dX8_copy_48 (by decide) ?_
  refine zcopyi hx hb (hml.trans hl.1.symm) hown (hts (.methodLink RX8 41 arraycopyName) (by decide +kernel)) (hts (.native arraycopyName) (by decide +kernel)) (hts (.static arraycopyName) (by decide +kernel)) (hts (.initialized "java/lang/System") (by decide +kernel)) hK hw hS 9 3 rfl rfl 6 rfl rfl (by decide) (by decide) (by decide) (by decide) (Nat.le_of_ble_eq_true rfl) (by decide +kernel) dX8_copy_50 [(h0, .inr (7, [.ref a0, .ref a1, .ref a2, .ref a3, .ref a4, .int w1])), (a0, .inl (ct 0, 6, .inl (va_cpy g0 f0 0 0 6))), (a1, .inl (ct 0, 6, .inl (va_cpy g1 f1 0 0 6))), (a2, .inl (ct 0, 6, .inl (va_cpy g2 f2 0 0 6))), (a3, .inl (ct 0, 6, .inl f3)), (a4, .inl (ct 0, 6, .inl f4)), (h1, .inr (7, [.ref b0, .ref b1, .ref b2, .ref b3, .ref b4, .int w1])), (b0, .inl (ct 0, 6, .inl g0)), (b1, .inl (ct 0, 6, .inl g1)), (b2, .inl (ct 0, 6, .inl g2)), (b3, .inl (ct 0, 6, .inl g3)), (b4, .inl (ct 0, 6, .inl g4))] rfl (fun H locs hw hS => ?_)
  refine lv_aload_n hx hb dX8_copy_53 rfl (lv_at hl 1 rfl) ?_
  refine va_get (D := D) (ci := 7) (v := .ref b3) hx hb hts hiX8 hown hK hw.1 6 rfl rfl 3 (by decide) (hts (.fieldLink RX8 21 "BeardPass$Standing" "purses" "[I") (by decide +kernel)) (fun _ h9 => h9) rfl dX8_copy_54 ?_
  refine lv_iconst (v := 0) hx hb dX8_copy_57 (by decide) ?_
  refine lv_aload_n hx hb dX8_copy_58 rfl (lv_at hl 0 rfl) ?_
  refine va_get (D := D) (ci := 7) (v := .ref a3) hx hb hts hiX8 hown hK hw.1 0 rfl rfl 3 (by decide) (hts (.fieldLink RX8 21 "BeardPass$Standing" "purses" "[I") (by decide +kernel)) (fun _ h9 => h9) rfl dX8_copy_59 ?_
  refine lv_iconst (v := 0) hx hb dX8_copy_62 (by decide) ?_
  refine lv_bipush (v := 6) hx hb dX8_copy_63 (by decide) ?_
  refine zcopyi hx hb (hml.trans hl.1.symm) hown (hts (.methodLink RX8 41 arraycopyName) (by decide +kernel)) (hts (.native arraycopyName) (by decide +kernel)) (hts (.static arraycopyName) (by decide +kernel)) (hts (.initialized "java/lang/System") (by decide +kernel)) hK hw hS 10 4 rfl rfl 6 rfl rfl (by decide) (by decide) (by decide) (by decide) (Nat.le_of_ble_eq_true rfl) (by decide +kernel) dX8_copy_65 [(h0, .inr (7, [.ref a0, .ref a1, .ref a2, .ref a3, .ref a4, .int w1])), (a0, .inl (ct 0, 6, .inl (va_cpy g0 f0 0 0 6))), (a1, .inl (ct 0, 6, .inl (va_cpy g1 f1 0 0 6))), (a2, .inl (ct 0, 6, .inl (va_cpy g2 f2 0 0 6))), (a3, .inl (ct 0, 6, .inl (va_cpy g3 f3 0 0 6))), (a4, .inl (ct 0, 6, .inl f4)), (h1, .inr (7, [.ref b0, .ref b1, .ref b2, .ref b3, .ref b4, .int w1])), (b0, .inl (ct 0, 6, .inl g0)), (b1, .inl (ct 0, 6, .inl g1)), (b2, .inl (ct 0, 6, .inl g2)), (b3, .inl (ct 0, 6, .inl g3)), (b4, .inl (ct 0, 6, .inl g4))] rfl (fun H locs hw hS => ?_)
  refine lv_aload_n hx hb dX8_copy_68 rfl (lv_at hl 1 rfl) ?_
  refine va_get (D := D) (ci := 7) (v := .ref b4) hx hb hts hiX8 hown hK hw.1 6 rfl rfl 4 (by decide) (hts (.fieldLink RX8 24 "BeardPass$Standing" "been" "[I") (by decide +kernel)) (fun _ h9 => h9) rfl dX8_copy_69 ?_
  refine lv_iconst (v := 0) hx hb dX8_copy_72 (by decide) ?_
  refine lv_aload_n hx hb dX8_copy_73 rfl (lv_at hl 0 rfl) ?_
  refine va_get (D := D) (ci := 7) (v := .ref a4) hx hb hts hiX8 hown hK hw.1 0 rfl rfl 4 (by decide) (hts (.fieldLink RX8 24 "BeardPass$Standing" "been" "[I") (by decide +kernel)) (fun _ h9 => h9) rfl dX8_copy_74 ?_
  refine lv_iconst (v := 0) hx hb dX8_copy_77 (by decide) ?_
  refine lv_bipush (v := 6) hx hb dX8_copy_78 (by decide) ?_
  refine zcopyi hx hb (hml.trans hl.1.symm) hown (hts (.methodLink RX8 41 arraycopyName) (by decide +kernel)) (hts (.native arraycopyName) (by decide +kernel)) (hts (.static arraycopyName) (by decide +kernel)) (hts (.initialized "java/lang/System") (by decide +kernel)) hK hw hS 11 5 rfl rfl 6 rfl rfl (by decide) (by decide) (by decide) (by decide) (Nat.le_of_ble_eq_true rfl) (by decide +kernel) dX8_copy_80 [(h0, .inr (7, [.ref a0, .ref a1, .ref a2, .ref a3, .ref a4, .int w1])), (a0, .inl (ct 0, 6, .inl (va_cpy g0 f0 0 0 6))), (a1, .inl (ct 0, 6, .inl (va_cpy g1 f1 0 0 6))), (a2, .inl (ct 0, 6, .inl (va_cpy g2 f2 0 0 6))), (a3, .inl (ct 0, 6, .inl (va_cpy g3 f3 0 0 6))), (a4, .inl (ct 0, 6, .inl (va_cpy g4 f4 0 0 6))), (h1, .inr (7, [.ref b0, .ref b1, .ref b2, .ref b3, .ref b4, .int w1])), (b0, .inl (ct 0, 6, .inl g0)), (b1, .inl (ct 0, 6, .inl g1)), (b2, .inl (ct 0, 6, .inl g2)), (b3, .inl (ct 0, 6, .inl g3)), (b4, .inl (ct 0, 6, .inl g4))] rfl (fun H locs hw hS => ?_)
  exact zvret hx hb hr hlocks () rfl (trivial) hw [0, 1, 2, 3, 4, 5, 6, 7, 8, 9, 10, 11] rfl (rfl) hS (Nat.le_of_ble_eq_true rfl) (Nat.le_of_ble_eq_true rfl) dX8_copy_83

set_option maxHeartbeats 4000000 in
set_option maxRecDepth 100000 in
/-- Journey.copy -/
theorem c_X1_copy (l : Launch) (D : va_G) (ct : Nat → ClassId) (h0 : Nat) (h1 : Nat) (a0 : Nat) (a1 : Nat) (a2 : Nat) (b0 : Nat) (b1 : Nat) (b2 : Nat) (f0 : Nat → Int32) (f1 : Nat → Int32) (f2 : Nat → Int32) (g0 : Nat → Int32) (g1 : Nat → Int32) (g2 : Nat → Int32) (v0 : Int32) (n : Nat) (hn : n ≤ 40) : zC l yX1_copy wsX1_copy ({ frames := 2, cells := 0, slots := 0, locals := 120 }) D ct [] [.ref h0, .ref h1] [(h0, .inr (1, [.ref a0, .ref a1, .ref a2, .int v0])), (a0, .inl (ct 0, 40, .inl f0)), (a1, .inl (ct 0, 40, .inl f1)), (a2, .inl (ct 0, 40, .inl f2)), (h1, .inr (1, [.ref b0, .ref b1, .ref b2, .int (nI n)])), (b0, .inl (ct 0, 40, .inl g0)), (b1, .inl (ct 0, 40, .inl g1)), (b2, .inl (ct 0, 40, .inl g2))] (S := Unit) (fun _ => none) (fun _ => True) (fun _ => [(h0, .inr (1, [.ref a0, .ref a1, .ref a2, .int (nI n)])), (a0, .inl (ct 0, 40, .inl (va_cpy g0 f0 0 0 n))), (a1, .inl (ct 0, 40, .inl (va_cpy g1 f1 0 0 n))), (a2, .inl (ct 0, 40, .inl (va_cpy g2 f2 0 0 n))), (h1, .inr (1, [.ref b0, .ref b1, .ref b2, .int (nI n)])), (b0, .inl (ct 0, 40, .inl g0)), (b1, .inl (ct 0, 40, .inl g1)), (b2, .inl (ct 0, 40, .inl g2))]) 0 0 := by
  refine zofW cX1_copy 2 none (by decide) rfl (Nat.le_of_ble_eq_true rfl) ?_
  intro p e s m below meth c A hx hb hr hml hts hown hlocks hname hK hA hZ hN H locs hw hS ls hl
  have hown : s.vm.findClass RX1 = some m.cls := hown
  have hl : lv_has ls 2 [(0, .ref h0), (1, .ref h1)] := hl
  have hiX1 : ∀ w ∈ wsX10, w ∈ wsX1_copy := by decide +kernel
  refine lv_aload_n hx hb dX1_copy_0 rfl (lv_at hl 0 rfl) ?_
  refine lv_aload_n hx hb dX1_copy_1 rfl (lv_at hl 1 rfl) ?_
  refine va_get (D := D) (ci := 1) (v := .int (nI n)) hx hb hts hiX1 hown hK hw.1 4 rfl rfl 3 (by decide) (hts (.fieldLink RX1 21 "BeardPass$Journey" "lines" "I") (by decide +kernel)) (fun _ h9 => h9) rfl dX1_copy_2 ?_
  refine zput (D := D) (ci := 1) (v := .int (nI n)) (ty := .int) hx hb hts hiX1 tyX1 tyX1_ok nmX1 hown hK hw hS 0 rfl rfl 3 (by decide) (hts (.fieldLink RX1 21 "BeardPass$Journey" "lines" "I") (by decide +kernel)) (fun _ h9 => h9) rfl (by decide +kernel) rfl rfl (Nat.le_of_ble_eq_true rfl) dX1_copy_5 [(h0, .inr (1, [.ref a0, .ref a1, .ref a2, .int (nI n)])), (a0, .inl (ct 0, 40, .inl f0)), (a1, .inl (ct 0, 40, .inl f1)), (a2, .inl (ct 0, 40, .inl f2)), (h1, .inr (1, [.ref b0, .ref b1, .ref b2, .int (nI n)])), (b0, .inl (ct 0, 40, .inl g0)), (b1, .inl (ct 0, 40, .inl g1)), (b2, .inl (ct 0, 40, .inl g2))] rfl (fun H locs hw hS => ?_)
  refine lv_aload_n hx hb dX1_copy_8 rfl (lv_at hl 1 rfl) ?_
  refine va_get (D := D) (ci := 1) (v := .ref b0) hx hb hts hiX1 hown hK hw.1 4 rfl rfl 0 (by decide) (hts (.fieldLink RX1 9 "BeardPass$Journey" "deeds" "[I") (by decide +kernel)) (fun _ h9 => h9) rfl dX1_copy_9 ?_
  refine lv_iconst (v := 0) hx hb dX1_copy_12 (by decide) ?_
  refine lv_aload_n hx hb dX1_copy_13 rfl (lv_at hl 0 rfl) ?_
  refine va_get (D := D) (ci := 1) (v := .ref a0) hx hb hts hiX1 hown hK hw.1 0 rfl rfl 0 (by decide) (hts (.fieldLink RX1 9 "BeardPass$Journey" "deeds" "[I") (by decide +kernel)) (fun _ h9 => h9) rfl dX1_copy_14 ?_
  refine lv_iconst (v := 0) hx hb dX1_copy_17 (by decide) ?_
  refine lv_aload_n hx hb dX1_copy_18 rfl (lv_at hl 0 rfl) ?_
  refine va_get (D := D) (ci := 1) (v := .int (nI n)) hx hb hts hiX1 hown hK hw.1 0 rfl rfl 3 (by decide) (hts (.fieldLink RX1 21 "BeardPass$Journey" "lines" "I") (by decide +kernel)) (fun _ h9 => h9) rfl dX1_copy_19 ?_
  refine zcopyi hx hb (hml.trans hl.1.symm) hown (hts (.methodLink RX1 25 arraycopyName) (by decide +kernel)) (hts (.native arraycopyName) (by decide +kernel)) (hts (.static arraycopyName) (by decide +kernel)) (hts (.initialized "java/lang/System") (by decide +kernel)) hK hw hS 5 1 rfl rfl n rfl rfl (rfl) (by omega) (by omega) (by omega) (Nat.le_of_ble_eq_true rfl) (by decide +kernel) dX1_copy_22 [(h0, .inr (1, [.ref a0, .ref a1, .ref a2, .int (nI n)])), (a0, .inl (ct 0, 40, .inl (va_cpy g0 f0 0 0 n))), (a1, .inl (ct 0, 40, .inl f1)), (a2, .inl (ct 0, 40, .inl f2)), (h1, .inr (1, [.ref b0, .ref b1, .ref b2, .int (nI n)])), (b0, .inl (ct 0, 40, .inl g0)), (b1, .inl (ct 0, 40, .inl g1)), (b2, .inl (ct 0, 40, .inl g2))] rfl (fun H locs hw hS => ?_)
  refine lv_aload_n hx hb dX1_copy_25 rfl (lv_at hl 1 rfl) ?_
  refine va_get (D := D) (ci := 1) (v := .ref b1) hx hb hts hiX1 hown hK hw.1 4 rfl rfl 1 (by decide) (hts (.fieldLink RX1 15 "BeardPass$Journey" "doers" "[I") (by decide +kernel)) (fun _ h9 => h9) rfl dX1_copy_26 ?_
  refine lv_iconst (v := 0) hx hb dX1_copy_29 (by decide) ?_
  refine lv_aload_n hx hb dX1_copy_30 rfl (lv_at hl 0 rfl) ?_
  refine va_get (D := D) (ci := 1) (v := .ref a1) hx hb hts hiX1 hown hK hw.1 0 rfl rfl 1 (by decide) (hts (.fieldLink RX1 15 "BeardPass$Journey" "doers" "[I") (by decide +kernel)) (fun _ h9 => h9) rfl dX1_copy_31 ?_
  refine lv_iconst (v := 0) hx hb dX1_copy_34 (by decide) ?_
  refine lv_aload_n hx hb dX1_copy_35 rfl (lv_at hl 0 rfl) ?_
  refine va_get (D := D) (ci := 1) (v := .int (nI n)) hx hb hts hiX1 hown hK hw.1 0 rfl rfl 3 (by decide) (hts (.fieldLink RX1 21 "BeardPass$Journey" "lines" "I") (by decide +kernel)) (fun _ h9 => h9) rfl dX1_copy_36 ?_
  refine zcopyi hx hb (hml.trans hl.1.symm) hown (hts (.methodLink RX1 25 arraycopyName) (by decide +kernel)) (hts (.native arraycopyName) (by decide +kernel)) (hts (.static arraycopyName) (by decide +kernel)) (hts (.initialized "java/lang/System") (by decide +kernel)) hK hw hS 6 2 rfl rfl n rfl rfl (rfl) (by omega) (by omega) (by omega) (Nat.le_of_ble_eq_true rfl) (by decide +kernel) dX1_copy_39 [(h0, .inr (1, [.ref a0, .ref a1, .ref a2, .int (nI n)])), (a0, .inl (ct 0, 40, .inl (va_cpy g0 f0 0 0 n))), (a1, .inl (ct 0, 40, .inl (va_cpy g1 f1 0 0 n))), (a2, .inl (ct 0, 40, .inl f2)), (h1, .inr (1, [.ref b0, .ref b1, .ref b2, .int (nI n)])), (b0, .inl (ct 0, 40, .inl g0)), (b1, .inl (ct 0, 40, .inl g1)), (b2, .inl (ct 0, 40, .inl g2))] rfl (fun H locs hw hS => ?_)
  refine lv_aload_n hx hb dX1_copy_42 rfl (lv_at hl 1 rfl) ?_
  refine va_get (D := D) (ci := 1) (v := .ref b2) hx hb hts hiX1 hown hK hw.1 4 rfl rfl 2 (by decide) (hts (.fieldLink RX1 18 "BeardPass$Journey" "objects" "[I") (by decide +kernel)) (fun _ h9 => h9) rfl dX1_copy_43 ?_
  refine lv_iconst (v := 0) hx hb dX1_copy_46 (by decide) ?_
  refine lv_aload_n hx hb dX1_copy_47 rfl (lv_at hl 0 rfl) ?_
  refine va_get (D := D) (ci := 1) (v := .ref a2) hx hb hts hiX1 hown hK hw.1 0 rfl rfl 2 (by decide) (hts (.fieldLink RX1 18 "BeardPass$Journey" "objects" "[I") (by decide +kernel)) (fun _ h9 => h9) rfl dX1_copy_48 ?_
  refine lv_iconst (v := 0) hx hb dX1_copy_51 (by decide) ?_
  refine lv_aload_n hx hb dX1_copy_52 rfl (lv_at hl 0 rfl) ?_
  refine va_get (D := D) (ci := 1) (v := .int (nI n)) hx hb hts hiX1 hown hK hw.1 0 rfl rfl 3 (by decide) (hts (.fieldLink RX1 21 "BeardPass$Journey" "lines" "I") (by decide +kernel)) (fun _ h9 => h9) rfl dX1_copy_53 ?_
  refine zcopyi hx hb (hml.trans hl.1.symm) hown (hts (.methodLink RX1 25 arraycopyName) (by decide +kernel)) (hts (.native arraycopyName) (by decide +kernel)) (hts (.static arraycopyName) (by decide +kernel)) (hts (.initialized "java/lang/System") (by decide +kernel)) hK hw hS 7 3 rfl rfl n rfl rfl (rfl) (by omega) (by omega) (by omega) (Nat.le_of_ble_eq_true rfl) (by decide +kernel) dX1_copy_56 [(h0, .inr (1, [.ref a0, .ref a1, .ref a2, .int (nI n)])), (a0, .inl (ct 0, 40, .inl (va_cpy g0 f0 0 0 n))), (a1, .inl (ct 0, 40, .inl (va_cpy g1 f1 0 0 n))), (a2, .inl (ct 0, 40, .inl (va_cpy g2 f2 0 0 n))), (h1, .inr (1, [.ref b0, .ref b1, .ref b2, .int (nI n)])), (b0, .inl (ct 0, 40, .inl g0)), (b1, .inl (ct 0, 40, .inl g1)), (b2, .inl (ct 0, 40, .inl g2))] rfl (fun H locs hw hS => ?_)
  exact zvret hx hb hr hlocks () rfl (trivial) hw [0, 1, 2, 3, 4, 5, 6, 7] rfl (rfl) hS (Nat.le_of_ble_eq_true rfl) (Nat.le_of_ble_eq_true rfl) dX1_copy_59

set_option maxHeartbeats 4000000 in
set_option maxRecDepth 100000 in
/-- Sightings.copy -/
theorem c_X6_copy (l : Launch) (D : va_G) (ct : Nat → ClassId) (h0 : Nat) (h1 : Nat) (v0 : Int32) (v1 : Int32) (v2 : Int32) (v3 : Int32)  : zC l yX6_copy wsX6_copy ({ frames := 1, cells := 0, slots := 0, locals := 80 }) D ct [] [.ref h0, .ref h1] [(h0, .inr (6, [.int v0, .int v1])), (h1, .inr (6, [.int v2, .int v3]))] (S := Unit) (fun _ => none) (fun _ => True) (fun _ => [(h0, .inr (6, [.int v2, .int v3])), (h1, .inr (6, [.int v2, .int v3]))]) 0 0 := by
  refine zofW cX6_copy 2 none (by decide) rfl (Nat.le_of_ble_eq_true rfl) ?_
  intro p e s m below meth c A hx hb hr hml hts hown hlocks hname hK hA hZ hN H locs hw hS ls hl
  have hown : s.vm.findClass RX6 = some m.cls := hown
  have hl : lv_has ls 2 [(0, .ref h0), (1, .ref h1)] := hl
  have hiX6 : ∀ w ∈ wsX60, w ∈ wsX6_copy := by decide +kernel
  refine lv_aload_n hx hb dX6_copy_0 rfl (lv_at hl 0 rfl) ?_
  refine lv_aload_n hx hb dX6_copy_1 rfl (lv_at hl 1 rfl) ?_
  refine va_get (D := D) (ci := 6) (v := .int v2) hx hb hts hiX6 hown hK hw.1 1 rfl rfl 0 (by decide) (hts (.fieldLink RX6 10 "BeardPass$Sightings" "possible" "I") (by decide +kernel)) (fun _ h9 => h9) rfl dX6_copy_2 ?_
  refine zput (D := D) (ci := 6) (v := .int v2) (ty := .int) hx hb hts hiX6 tyX6 tyX6_ok nmX6 hown hK hw hS 0 rfl rfl 0 (by decide) (hts (.fieldLink RX6 10 "BeardPass$Sightings" "possible" "I") (by decide +kernel)) (fun _ h9 => h9) rfl (by decide +kernel) rfl rfl (Nat.le_of_ble_eq_true rfl) dX6_copy_5 [(h0, .inr (6, [.int v2, .int v1])), (h1, .inr (6, [.int v2, .int v3]))] rfl (fun H locs hw hS => ?_)
  refine lv_aload_n hx hb dX6_copy_8 rfl (lv_at hl 0 rfl) ?_
  refine lv_aload_n hx hb dX6_copy_9 rfl (lv_at hl 1 rfl) ?_
  refine va_get (D := D) (ci := 6) (v := .int v3) hx hb hts hiX6 hown hK hw.1 1 rfl rfl 1 (by decide) (hts (.fieldLink RX6 16 "BeardPass$Sightings" "many" "I") (by decide +kernel)) (fun _ h9 => h9) rfl dX6_copy_10 ?_
  refine zput (D := D) (ci := 6) (v := .int v3) (ty := .int) hx hb hts hiX6 tyX6 tyX6_ok nmX6 hown hK hw hS 0 rfl rfl 1 (by decide) (hts (.fieldLink RX6 16 "BeardPass$Sightings" "many" "I") (by decide +kernel)) (fun _ h9 => h9) rfl (by decide +kernel) rfl rfl (Nat.le_of_ble_eq_true rfl) dX6_copy_13 [(h0, .inr (6, [.int v2, .int v3])), (h1, .inr (6, [.int v2, .int v3]))] rfl (fun H locs hw hS => ?_)
  exact zvret hx hb hr hlocks () rfl (trivial) hw [0, 1] rfl (rfl) hS (Nat.le_of_ble_eq_true rfl) (Nat.le_of_ble_eq_true rfl) dX6_copy_16

set_option maxHeartbeats 4000000 in
set_option maxRecDepth 100000 in
/-- Sightings.clear -/
theorem c_X6_clear (l : Launch) (D : va_G) (ct : Nat → ClassId) (h0 : Nat) (v0 : Int32) (v1 : Int32)  : zC l yX6_clear wsX6_clear ({ frames := 1, cells := 0, slots := 0, locals := 80 }) D ct [] [.ref h0] [(h0, .inr (6, [.int v0, .int v1]))] (S := Unit) (fun _ => none) (fun _ => True) (fun _ => [(h0, .inr (6, [.int 2147483647, .int 0]))]) 0 0 := by
  refine zofW cX6_clear 1 none (by decide) rfl (Nat.le_of_ble_eq_true rfl) ?_
  intro p e s m below meth c A hx hb hr hml hts hown hlocks hname hK hA hZ hN H locs hw hS ls hl
  have hown : s.vm.findClass RX6 = some m.cls := hown
  have hl : lv_has ls 1 [(0, .ref h0)] := hl
  have hiX6 : ∀ w ∈ wsX60, w ∈ wsX6_clear := by decide +kernel
  refine lv_aload_n hx hb dX6_clear_0 rfl (lv_at hl 0 rfl) ?_
  refine lv_ldc hx hb hown (hts (.constant RX6 9 2147483647) (by decide +kernel)) dX6_clear_1 ?_
  refine zput (D := D) (ci := 6) (v := .int 2147483647) (ty := .int) hx hb hts hiX6 tyX6 tyX6_ok nmX6 hown hK hw hS 0 rfl rfl 0 (by decide) (hts (.fieldLink RX6 10 "BeardPass$Sightings" "possible" "I") (by decide +kernel)) (fun _ h9 => h9) rfl (by decide +kernel) rfl rfl (Nat.le_of_ble_eq_true rfl) dX6_clear_3 [(h0, .inr (6, [.int 2147483647, .int v1]))] rfl (fun H locs hw hS => ?_)
  refine lv_aload_n hx hb dX6_clear_6 rfl (lv_at hl 0 rfl) ?_
  refine lv_iconst (v := 0) hx hb dX6_clear_7 (by decide) ?_
  refine zput (D := D) (ci := 6) (v := .int 0) (ty := .int) hx hb hts hiX6 tyX6 tyX6_ok nmX6 hown hK hw hS 0 rfl rfl 1 (by decide) (hts (.fieldLink RX6 16 "BeardPass$Sightings" "many" "I") (by decide +kernel)) (fun _ h9 => h9) rfl (by decide +kernel) rfl rfl (Nat.le_of_ble_eq_true rfl) dX6_clear_8 [(h0, .inr (6, [.int 2147483647, .int 0]))] rfl (fun H locs hw hS => ?_)
  exact zvret hx hb hr hlocks () rfl (trivial) hw [0] rfl (rfl) hS (Nat.le_of_ble_eq_true rfl) (Nat.le_of_ble_eq_true rfl) dX6_clear_11

set_option maxHeartbeats 4000000 in
set_option maxRecDepth 100000 in
/-- Law.copy -/
theorem c_X4_copy (l : Launch) (D : va_G) (ct : Nat → ClassId) (h0 : Nat) (h1 : Nat) (a0 : Nat) (a1 : Nat) (b0 : Nat) (b1 : Nat) (f : Nat → Int32) (g : Nat → Int32) (v0 : Int32) (n : Nat) (hn : n ≤ 1000) : zC l yX4_copy wsX4_copy ({ frames := 2, cells := 0, slots := 0, locals := 120 }) D ct [] [.ref h0, .ref h1] [(h0, .inr (4, [.ref a0, .ref a1, .int v0])), (a0, .inl (ct 0, 1000, .inl f)), (h1, .inr (4, [.ref b0, .ref b1, .int (nI n)])), (b0, .inl (ct 0, 1000, .inl g))] (S := Unit) (fun _ => none) (fun _ => True) (fun _ => [(h0, .inr (4, [.ref a0, .ref a1, .int (nI n)])), (a0, .inl (ct 0, 1000, .inl (va_cpy g f 0 0 n))), (h1, .inr (4, [.ref b0, .ref b1, .int (nI n)])), (b0, .inl (ct 0, 1000, .inl g))]) 0 0 := by
  refine zofW cX4_copy 2 none (by decide) rfl (Nat.le_of_ble_eq_true rfl) ?_
  intro p e s m below meth c A hx hb hr hml hts hown hlocks hname hK hA hZ hN H locs hw hS ls hl
  have hown : s.vm.findClass RX4 = some m.cls := hown
  have hl : lv_has ls 2 [(0, .ref h0), (1, .ref h1)] := hl
  have hiX4 : ∀ w ∈ wsX40, w ∈ wsX4_copy := by decide +kernel
  refine lv_aload_n hx hb dX4_copy_0 rfl (lv_at hl 0 rfl) ?_
  refine lv_aload_n hx hb dX4_copy_1 rfl (lv_at hl 1 rfl) ?_
  refine va_get (D := D) (ci := 4) (v := .int (nI n)) hx hb hts hiX4 hown hK hw.1 2 rfl rfl 2 (by decide) (hts (.fieldLink RX4 18 "BeardPass$Law" "size" "I") (by decide +kernel)) (fun _ h9 => h9) rfl dX4_copy_2 ?_
  refine zput (D := D) (ci := 4) (v := .int (nI n)) (ty := .int) hx hb hts hiX4 tyX4 tyX4_ok nmX4 hown hK hw hS 0 rfl rfl 2 (by decide) (hts (.fieldLink RX4 18 "BeardPass$Law" "size" "I") (by decide +kernel)) (fun _ h9 => h9) rfl (by decide +kernel) rfl rfl (Nat.le_of_ble_eq_true rfl) dX4_copy_5 [(h0, .inr (4, [.ref a0, .ref a1, .int (nI n)])), (a0, .inl (ct 0, 1000, .inl f)), (h1, .inr (4, [.ref b0, .ref b1, .int (nI n)])), (b0, .inl (ct 0, 1000, .inl g))] rfl (fun H locs hw hS => ?_)
  refine lv_aload_n hx hb dX4_copy_8 rfl (lv_at hl 1 rfl) ?_
  refine va_get (D := D) (ci := 4) (v := .ref b0) hx hb hts hiX4 hown hK hw.1 2 rfl rfl 0 (by decide) (hts (.fieldLink RX4 9 "BeardPass$Law" "code" "[I") (by decide +kernel)) (fun _ h9 => h9) rfl dX4_copy_9 ?_
  refine lv_iconst (v := 0) hx hb dX4_copy_12 (by decide) ?_
  refine lv_aload_n hx hb dX4_copy_13 rfl (lv_at hl 0 rfl) ?_
  refine va_get (D := D) (ci := 4) (v := .ref a0) hx hb hts hiX4 hown hK hw.1 0 rfl rfl 0 (by decide) (hts (.fieldLink RX4 9 "BeardPass$Law" "code" "[I") (by decide +kernel)) (fun _ h9 => h9) rfl dX4_copy_14 ?_
  refine lv_iconst (v := 0) hx hb dX4_copy_17 (by decide) ?_
  refine lv_aload_n hx hb dX4_copy_18 rfl (lv_at hl 0 rfl) ?_
  refine va_get (D := D) (ci := 4) (v := .int (nI n)) hx hb hts hiX4 hown hK hw.1 0 rfl rfl 2 (by decide) (hts (.fieldLink RX4 18 "BeardPass$Law" "size" "I") (by decide +kernel)) (fun _ h9 => h9) rfl dX4_copy_19 ?_
  refine zcopyi hx hb (hml.trans hl.1.symm) hown (hts (.methodLink RX4 26 arraycopyName) (by decide +kernel)) (hts (.native arraycopyName) (by decide +kernel)) (hts (.static arraycopyName) (by decide +kernel)) (hts (.initialized "java/lang/System") (by decide +kernel)) hK hw hS 3 1 rfl rfl n rfl rfl (rfl) (by omega) (by omega) (by omega) (Nat.le_of_ble_eq_true rfl) (by decide +kernel) dX4_copy_22 [(h0, .inr (4, [.ref a0, .ref a1, .int (nI n)])), (a0, .inl (ct 0, 1000, .inl (va_cpy g f 0 0 n))), (h1, .inr (4, [.ref b0, .ref b1, .int (nI n)])), (b0, .inl (ct 0, 1000, .inl g))] rfl (fun H locs hw hS => ?_)
  exact zvret hx hb hr hlocks () rfl (trivial) hw [0, 1, 2, 3] rfl (rfl) hS (Nat.le_of_ble_eq_true rfl) (Nat.le_of_ble_eq_true rfl) dX4_copy_25

set_option maxHeartbeats 4000000 in
set_option maxRecDepth 100000 in
/-- Arrays.fill -/
theorem c_fill (l : Launch) (D : va_G) (ct : Nat → ClassId) (h1 : Nat) (v : Int32) (n1 : Nat) (f : Nat → Int32) (hn1 : n1 < 65536) : zC l yJ7_fill_53178 wsJ7_fill_53178 ({ frames := 1, cells := 0, slots := 0, locals := 80 }) D ct [] [.ref h1, .int v] [(h1, .inl (ct 0, n1, .inl f))] (S := Unit) (fun _ => none) (fun _ => True) (fun _ => [(h1, .inl (ct 0, n1, .inl (zfl f v n1)))]) 0 0 := by
  refine zofW cJ7_fill_53178 4 none (by decide) rfl (Nat.le_of_ble_eq_true rfl) ?_
  intro p e s m below meth c A hx hb hr hml hts hown hlocks hname hK hA hZ hN H locs hw hS ls hl
  have hown : s.vm.findClass RJ7 = some m.cls := hown
  have hl : lv_has ls 4 [(0, .ref h1), (1, .int v)] := hl
  refine lv_iconst (v := 0) hx hb dJ7_fill_53178_0 (by decide) ?_
  refine lv_istore_n (lv' := [(2, .int 0), (0, .ref h1), (1, .int v)]) hx hb dJ7_fill_53178_1 rfl hl (by decide) rfl (fun ls hl => ?_)
  refine lv_aload_n hx hb dJ7_fill_53178_2 rfl (lv_at hl 1 rfl) ?_
  refine va_alen hx hb hK hw.1 0 0 rfl rfl (v := nI n1) rfl dJ7_fill_53178_3 ?_
  refine lv_istore_n (lv' := [(3, .int (nI n1)), (2, .int 0), (0, .ref h1), (1, .int v)]) hx hb dJ7_fill_53178_4 rfl hl (by decide) rfl (fun ls hl => ?_)
  refine zloop (σ := Unit) (nL := 4) (st := []) (fun i _ => True) (fun i _ => [(h1, .inl (ct 0, n1, .inl (zfl f v i)))]) (fun i _ => [(2, .int (nI i)), (0, .ref h1), (1, .int v), (3, .int (nI n1))]) (fun _ => 0) (fun _ => 0) n1 ?_ ?_ 0 () (Nat.zero_le _) (trivial) H locs ls (zcong (by (try dsimp only); rw [zfl_0]) (hw.sub (w0 := [(h1, .inl (ct 0, n1, .inl f))]) [0] rfl rfl)) hS (lv_sub hl [1, 2, 3, 0] rfl)
  · intro x2 hI3 H locs ls hw hS hl
    have hw : zPD D A [(h1, .inl (ct 0, n1, .inl (zfl f v n1)))] H := hw
    have hl : lv_has ls 4 [(2, .int (nI n1)), (0, .ref h1), (1, .int v), (3, .int (nI n1))] := hl
    refine lv_iload_n hx hb dJ7_fill_53178_5 rfl (lv_at hl 0 rfl) ?_
    refine lv_iload_n hx hb dJ7_fill_53178_6 rfl (lv_at hl 3 rfl) ?_
    refine lv_icmp_ge (tgt := 20) hx hb dJ7_fill_53178_7 (by decide) (fun _ => ?_) (fun h => absurd (nI_le (Nat.le_refl n1) (by omega)) h)
    exact zvret hx hb hr hlocks () rfl (trivial) hw [0] rfl (rfl) hS (Nat.le_of_ble_eq_true rfl) (Nat.le_of_ble_eq_true rfl) dJ7_fill_53178_20
  · intro i1 x5 hlt8 hI6 ih7 H locs ls hw hS hl
    have hw : zPD D A [(h1, .inl (ct 0, n1, .inl (zfl f v i1)))] H := hw
    have hl : lv_has ls 4 [(2, .int (nI i1)), (0, .ref h1), (1, .int v), (3, .int (nI n1))] := hl
    refine lv_iload_n hx hb dJ7_fill_53178_5 rfl (lv_at hl 0 rfl) ?_
    refine lv_iload_n hx hb dJ7_fill_53178_6 rfl (lv_at hl 3 rfl) ?_
    refine lv_icmp_ge (tgt := 20) hx hb dJ7_fill_53178_7 (by decide) (fun h => absurd h (nI_ge hlt8 (by omega))) (fun _ => ?_)
    refine lv_aload_n hx hb dJ7_fill_53178_10 rfl (lv_at hl 1 rfl) ?_
    refine lv_iload_n hx hb dJ7_fill_53178_11 rfl (lv_at hl 0 rfl) ?_
    refine lv_iload_n hx hb dJ7_fill_53178_12 rfl (lv_at hl 2 rfl) ?_
    refine ziast hx hb hK hw hS 0 rfl i1 rfl (by omega) (by omega) dJ7_fill_53178_13 [(h1, .inl (ct 0, n1, .inl (upd (zfl f v i1) i1 v)))] rfl (fun H locs hw hS => ?_)
    refine lv_iinc (v := nI (i1 + 1)) (lv' := [(2, .int (nI (i1 + 1))), (0, .ref h1), (1, .int v), (3, .int (nI n1))]) hx hb dJ7_fill_53178_14 hl (k := 0) rfl (nI_add _ 1) (by decide) rfl (fun ls hl => ?_)
    refine lv_goto (tgt := 5) hx hb dJ7_fill_53178_17 (by decide) ?_
    exact ih7 () (trivial) H locs ls (zcong (by (try dsimp only); rw [zfl_s]) (hw.sub (w0 := [(h1, .inl (ct 0, n1, .inl (upd (zfl f v i1) i1 v)))]) [0] rfl rfl)) hS (lv_sub hl [0, 1, 2, 3] rfl)
