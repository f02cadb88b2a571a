set_option maxHeartbeats 4000000 in
set_option maxRecDepth 100000 in
/-- Tape.step where nothing is left -/
theorem c_step0 (l : Launch) (D : va_G) (ct : Nat → ClassId) (h0 : Nat) (a0 : Nat) (so : Nat) (eE : Nat) (pl : Int32) (nb : Int32) (wd : Int64)  : zC l yX9_step wsX9_step ({ frames := 1, cells := 0, slots := 0, locals := 80 }) D ct [("END", eE)] [.ref h0] [(h0, .inr (8, [.ref a0, .int 0, .int pl, .int 0, .ref so, .int nb, .long wd, .int 0]))] (S := Unit) (fun _ => none) (fun _ => True) (fun _ => [(h0, .inr (8, [.ref a0, .int 0, .int 0, .int 0, .ref eE, .int nb, .long wd, .int 0]))]) 0 0 := by
  refine zofW cX9_step 1 none (by decide) rfl (Nat.le_of_ble_eq_true rfl) ?_
  intro p e s m below meth c A hx hb hr hml hts hown hlocks hname hK hA hZ hN H locs hw hS ls hl
  have hown : s.vm.findClass RX9 = some m.cls := hown
  have hl : lv_has ls 1 [(0, .ref h0)] := hl
  have hiX9 : ∀ w ∈ wsX90, w ∈ wsX9_step := by decide +kernel
  refine lv_aload_n hx hb dX9_step_0 rfl (lv_at hl 0 rfl) ?_
  refine va_get (D := D) (ci := 8) (v := .int 0) hx hb hts hiX9 hown hK hw.1 0 rfl rfl 3 (by decide) (hts (.fieldLink RX9 22 "BeardPass$Tape" "next" "I") (by decide +kernel)) (fun _ h9 => h9) rfl dX9_step_1 ?_
  refine lv_aload_n hx hb dX9_step_4 rfl (lv_at hl 0 rfl) ?_
  refine va_get (D := D) (ci := 8) (v := .int 0) hx hb hts hiX9 hown hK hw.1 0 rfl rfl 1 (by decide) (hts (.fieldLink RX9 15 "BeardPass$Tape" "length" "I") (by decide +kernel)) (fun _ h9 => h9) rfl dX9_step_5 ?_
  refine lv_icmp_ge (tgt := 52) hx hb dX9_step_8 (by decide) (fun _ => ?_) (fun h => absurd (by decide) h)
  refine lv_aload_n hx hb dX9_step_52 rfl (lv_at hl 0 rfl) ?_
  refine lv_aload_n hx hb dX9_step_53 rfl (lv_at hl 0 rfl) ?_
  refine va_get (D := D) (ci := 8) (v := .int 0) hx hb hts hiX9 hown hK hw.1 0 rfl rfl 3 (by decide) (hts (.fieldLink RX9 22 "BeardPass$Tape" "next" "I") (by decide +kernel)) (fun _ h9 => h9) rfl dX9_step_54 ?_
  refine zput (D := D) (ci := 8) (v := .int 0) (ty := .int) hx hb hts hiX9 tyX9 tyX9_ok nmX9 hown hK hw hS 0 rfl rfl 2 (by decide) (hts (.fieldLink RX9 19 "BeardPass$Tape" "place" "I") (by decide +kernel)) (fun _ h9 => h9) rfl (by decide +kernel) rfl rfl (Nat.le_of_ble_eq_true rfl) dX9_step_57 [(h0, .inr (8, [.ref a0, .int 0, .int 0, .int 0, .ref so, .int nb, .long wd, .int 0]))] rfl (fun H locs hw hS => ?_)
  refine lv_aload_n hx hb dX9_step_60 rfl (lv_at hl 0 rfl) ?_
  refine va_get (D := D) (ci := 8) (v := .int 0) hx hb hts hiX9 hown hK hw.1 0 rfl rfl 3 (by decide) (hts (.fieldLink RX9 22 "BeardPass$Tape" "next" "I") (by decide +kernel)) (fun _ h9 => h9) rfl dX9_step_61 ?_
  refine lv_aload_n hx hb dX9_step_64 rfl (lv_at hl 0 rfl) ?_
  refine va_get (D := D) (ci := 8) (v := .int 0) hx hb hts hiX9 hown hK hw.1 0 rfl rfl 1 (by decide) (hts (.fieldLink RX9 15 "BeardPass$Tape" "length" "I") (by decide +kernel)) (fun _ h9 => h9) rfl dX9_step_65 ?_
  refine lv_icmp_lt (tgt := 81) hx hb dX9_step_68 (by decide) (fun h => absurd h (by decide)) (fun _ => ?_)
  refine lv_aload_n hx hb dX9_step_71 rfl (lv_at hl 0 rfl) ?_
  refine va_gets (C := RX7) (n := "END") (d := "LBeardPass$Sort;") (v := .ref eE) hx hb (hZ ("END", eE) (List.mem_of_getElem? (i := 0) rfl)) hS hown (hts (.fieldLink RX9 25 "BeardPass$Sort" "END" "LBeardPass$Sort;") (by decide +kernel)) (fun _ h9 => h9) dX9_step_72 ?_
  refine zput (D := D) (ci := 8) (v := .ref eE) (ty := (.object "BeardPass$Sort")) hx hb hts hiX9 tyX9 tyX9_ok nmX9 hown hK hw hS 0 rfl rfl 4 (by decide) (hts (.fieldLink RX9 31 "BeardPass$Tape" "sort" "LBeardPass$Sort;") (by decide +kernel)) (fun _ h9 => h9) rfl (by decide +kernel) rfl rfl (Nat.le_of_ble_eq_true rfl) dX9_step_75 [(h0, .inr (8, [.ref a0, .int 0, .int 0, .int 0, .ref eE, .int nb, .long wd, .int 0]))] rfl (fun H locs hw hS => ?_)
  refine lv_goto (tgt := 203) hx hb dX9_step_78 (by decide) ?_
  exact zvret hx hb hr hlocks () rfl (trivial) hw [0] rfl (rfl) hS (Nat.le_of_ble_eq_true rfl) (Nat.le_of_ble_eq_true rfl) dX9_step_203

set_option maxHeartbeats 4000000 in
set_option maxRecDepth 100000 in
/-- Tape.begin on an empty tape -/
theorem c_begin0 (l : Launch) (D : va_G) (ct : Nat → ClassId) (h0 : Nat) (a0 : Nat) (so : Nat) (eE : Nat) (pl : Int32) (nb : Int32) (wd : Int64) (nx : Int32) (ft : Int32)  : zC l yX9_begin wsX9_begin ({ frames := 2, cells := 0, slots := 0, locals := 120 }) D ct [("END", eE)] [.ref h0] [(h0, .inr (8, [.ref a0, .int 0, .int pl, .int nx, .ref so, .int nb, .long wd, .int ft]))] (S := Unit) (fun _ => none) (fun _ => True) (fun _ => [(h0, .inr (8, [.ref a0, .int 0, .int 0, .int 0, .ref eE, .int nb, .long wd, .int 0]))]) 0 0 := by
  refine zofW cX9_begin 1 none (by decide) rfl (Nat.le_of_ble_eq_true rfl) ?_
  intro p e s m below meth c A hx hb hr hml hts hown hlocks hname hK hA hZ hN H locs hw hS ls hl
  have hown : s.vm.findClass RX9 = some m.cls := hown
  have hl : lv_has ls 1 [(0, .ref h0)] := hl
  have hiX9 : ∀ w ∈ wsX90, w ∈ wsX9_begin := by decide +kernel
  refine lv_aload_n hx hb dX9_begin_0 rfl (lv_at hl 0 rfl) ?_
  refine lv_iconst (v := 0) hx hb dX9_begin_1 (by decide) ?_
  refine zput (D := D) (ci := 8) (v := .int 0) (ty := .int) hx hb hts hiX9 tyX9 tyX9_ok nmX9 hown hK hw hS 0 rfl rfl 3 (by decide) (hts (.fieldLink RX9 22 "BeardPass$Tape" "next" "I") (by decide +kernel)) (fun _ h9 => h9) rfl (by decide +kernel) rfl rfl (Nat.le_of_ble_eq_true rfl) dX9_begin_2 [(h0, .inr (8, [.ref a0, .int 0, .int pl, .int 0, .ref so, .int nb, .long wd, .int ft]))] rfl (fun H locs hw hS => ?_)
  refine lv_aload_n hx hb dX9_begin_5 rfl (lv_at hl 0 rfl) ?_
  refine lv_iconst (v := 0) hx hb dX9_begin_6 (by decide) ?_
  refine zput (D := D) (ci := 8) (v := .int 0) (ty := .int) hx hb hts hiX9 tyX9 tyX9_ok nmX9 hown hK hw hS 0 rfl rfl 7 (by decide) (hts (.fieldLink RX9 41 "BeardPass$Tape" "fault" "I") (by decide +kernel)) (fun _ h9 => h9) rfl (by decide +kernel) rfl rfl (Nat.le_of_ble_eq_true rfl) dX9_begin_7 [(h0, .inr (8, [.ref a0, .int 0, .int pl, .int 0, .ref so, .int nb, .long wd, .int 0]))] rfl (fun H locs hw hS => ?_)
  refine lv_aload_n hx hb dX9_begin_10 rfl (lv_at hl 0 rfl) ?_
  refine zcall2 (va_runV (As := []) (rest := []) ⟨hx, hb, hml, hown, hts⟩ (c_step0 l D ct h0 a0 so eE pl nb wd H.size) (cwV 0 hts gX9_begin_X9_step rfl rfl rfl (by decide +kernel) ⟨Nat.le_of_ble_eq_true rfl, Nat.le_of_ble_eq_true rfl⟩) (zpreV hK hw hS hA hZ hN [0] rfl rfl 8 0 rfl rfl) rfl rfl hl.1 rfl (lv_room (Nat.le_of_ble_eq_true rfl)) dX9_begin_11 ⟨Nat.le_of_ble_eq_true rfl, Nat.le_of_ble_eq_true rfl⟩) hw hS hA [0] [] rfl rfl rfl rfl (fun _ H locs hp1 hw hS => ?_)
  have hw : zPD D A [(h0, .inr (8, [.ref a0, .int 0, .int 0, .int 0, .ref eE, .int nb, .long wd, .int 0]))] H := hw
  refine zfr 14 [] rfl rfl ?_
  exact zvret hx hb hr hlocks () rfl (trivial) hw [0] rfl (rfl) hS (Nat.le_of_ble_eq_true rfl) (Nat.le_of_ble_eq_true rfl) dX9_begin_14

set_option maxHeartbeats 4000000 in
set_option maxRecDepth 100000 in
/-- Land.clear -/
theorem c_X2_clear (l : Launch) (D : va_G) (ct : Nat → ClassId) (h0 : Nat) (a0 : Nat) (a1 : Nat) (a2 : Nat) (a3 : Nat) (a4 : Nat) (a5 : Nat) (a6 : Nat) (a7 : Nat) (a8 : Nat) (k0 : Nat) (k1 : Nat) (n0 : Int32) (n1 : Int32) (n2 : Int32) (n3 : Int32) (sz : Int32) (f1 : Nat → Int32) (g : Nat → Int32)  : zC l yX2_clear wsX2_clear ({ frames := 3, cells := 0, slots := 0, locals := 160 }) D ct [] [.ref h0] [(h0, .inr (2, [.ref a0, .ref a1, .ref a2, .ref a3, .ref a4, .ref a5, .ref a6, .ref a7, .ref a8, .int n0, .int n1, .int n2, .int n3])), (a1, .inl (ct 0, 6, .inl f1)), (a8, .inr (4, [.ref k0, .ref k1, .int sz])), (k0, .inl (ct 0, 1000, .inl g))] (S := Unit) (fun _ => none) (fun _ => True) (fun _ => [(h0, .inr (2, [.ref a0, .ref a1, .ref a2, .ref a3, .ref a4, .ref a5, .ref a6, .ref a7, .ref a8, .int 0, .int 0, .int 1, .int 2])), (a1, .inl (ct 0, 6, .inl (zfl f1 0 6))), (a8, .inr (4, [.ref k0, .ref k1, .int (nI (0 + 1 + 1 + 1 + 1))])), (k0, .inl (ct 0, 1000, .inl (upd (upd (upd (upd g 0 (-1)) (0 + 1) (-3)) (0 + 1 + 1) (-8)) (0 + 1 + 1 + 1) (-5))))]) 0 0 := by
  refine zofW cX2_clear 1 none (by decide) rfl (Nat.le_of_ble_eq_true rfl) ?_
  intro p e s m below meth c A hx hb hr hml hts hown hlocks hname hK hA hZ hN H locs hw hS ls hl
  have hown : s.vm.findClass RX2 = some m.cls := hown
  have hl : lv_has ls 1 [(0, .ref h0)] := hl
  have hiX2 : ∀ w ∈ wsX20, w ∈ wsX2_clear := by decide +kernel
  refine lv_aload_n hx hb dX2_clear_0 rfl (lv_at hl 0 rfl) ?_
  refine lv_iconst (v := 0) hx hb dX2_clear_1 (by decide) ?_
  refine zput (D := D) (ci := 2) (v := .int 0) (ty := .int) hx hb hts hiX2 tyX2 tyX2_ok nmX2 hown hK hw hS 0 rfl rfl 9 (by decide) (hts (.fieldLink RX2 44 "BeardPass$Land" "towns" "I") (by decide +kernel)) (fun _ h9 => h9) rfl (by decide +kernel) rfl rfl (Nat.le_of_ble_eq_true rfl) dX2_clear_2 [(h0, .inr (2, [.ref a0, .ref a1, .ref a2, .ref a3, .ref a4, .ref a5, .ref a6, .ref a7, .ref a8, .int 0, .int n1, .int n2, .int n3])), (a1, .inl (ct 0, 6, .inl f1)), (a8, .inr (4, [.ref k0, .ref k1, .int sz])), (k0, .inl (ct 0, 1000, .inl g))] rfl (fun H locs hw hS => ?_)
  refine lv_aload_n hx hb dX2_clear_5 rfl (lv_at hl 0 rfl) ?_
  refine lv_iconst (v := 0) hx hb dX2_clear_6 (by decide) ?_
  refine zput (D := D) (ci := 2) (v := .int 0) (ty := .int) hx hb hts hiX2 tyX2 tyX2_ok nmX2 hown hK hw hS 0 rfl rfl 10 (by decide) (hts (.fieldLink RX2 48 "BeardPass$Land" "persons" "I") (by decide +kernel)) (fun _ h9 => h9) rfl (by decide +kernel) rfl rfl (Nat.le_of_ble_eq_true rfl) dX2_clear_7 [(h0, .inr (2, [.ref a0, .ref a1, .ref a2, .ref a3, .ref a4, .ref a5, .ref a6, .ref a7, .ref a8, .int 0, .int 0, .int n2, .int n3])), (a1, .inl (ct 0, 6, .inl f1)), (a8, .inr (4, [.ref k0, .ref k1, .int sz])), (k0, .inl (ct 0, 1000, .inl g))] rfl (fun H locs hw hS => ?_)
  refine lv_aload_n hx hb dX2_clear_10 rfl (lv_at hl 0 rfl) ?_
  refine lv_iconst (v := 1) hx hb dX2_clear_11 (by decide) ?_
  refine zput (D := D) (ci := 2) (v := .int 1) (ty := .int) hx hb hts hiX2 tyX2 tyX2_ok nmX2 hown hK hw hS 0 rfl rfl 11 (by decide) (hts (.fieldLink RX2 51 "BeardPass$Land" "grows" "I") (by decide +kernel)) (fun _ h9 => h9) rfl (by decide +kernel) rfl rfl (Nat.le_of_ble_eq_true rfl) dX2_clear_12 [(h0, .inr (2, [.ref a0, .ref a1, .ref a2, .ref a3, .ref a4, .ref a5, .ref a6, .ref a7, .ref a8, .int 0, .int 0, .int 1, .int n3])), (a1, .inl (ct 0, 6, .inl f1)), (a8, .inr (4, [.ref k0, .ref k1, .int sz])), (k0, .inl (ct 0, 1000, .inl g))] rfl (fun H locs hw hS => ?_)
  refine lv_aload_n hx hb dX2_clear_15 rfl (lv_at hl 0 rfl) ?_
  refine lv_iconst (v := 2) hx hb dX2_clear_16 (by decide) ?_
  refine zput (D := D) (ci := 2) (v := .int 2) (ty := .int) hx hb hts hiX2 tyX2 tyX2_ok nmX2 hown hK hw hS 0 rfl rfl 12 (by decide) (hts (.fieldLink RX2 54 "BeardPass$Land" "inch" "I") (by decide +kernel)) (fun _ h9 => h9) rfl (by decide +kernel) rfl rfl (Nat.le_of_ble_eq_true rfl) dX2_clear_17 [(h0, .inr (2, [.ref a0, .ref a1, .ref a2, .ref a3, .ref a4, .ref a5, .ref a6, .ref a7, .ref a8, .int 0, .int 0, .int 1, .int 2])), (a1, .inl (ct 0, 6, .inl f1)), (a8, .inr (4, [.ref k0, .ref k1, .int sz])), (k0, .inl (ct 0, 1000, .inl g))] rfl (fun H locs hw hS => ?_)
  refine lv_aload_n hx hb dX2_clear_20 rfl (lv_at hl 0 rfl) ?_
  refine va_get (D := D) (ci := 2) (v := .ref a1) hx hb hts hiX2 hown hK hw.1 0 rfl rfl 1 (by decide) (hts (.fieldLink RX2 15 "BeardPass$Land" "roads" "[I") (by decide +kernel)) (fun _ h9 => h9) rfl dX2_clear_21 ?_
  refine lv_iconst (v := 0) hx hb dX2_clear_24 (by decide) ?_
  refine zcall2 (va_runS (As := [.ref a1, .int 0]) (rest := []) ⟨hx, hb, hml, hown, hts⟩ (c_fill l D ct a1 0 6 f1 (by decide) H.size) (va_cwS 2 hts gX2_clear_J7_fill_53178 rfl rfl rfl (by decide +kernel) ⟨Nat.le_of_ble_eq_true rfl, Nat.le_of_ble_eq_true rfl⟩) (zpreS hK hw hS hA zZ.nil hN [1] rfl rfl) rfl rfl hl.1 rfl (lv_room (Nat.le_of_ble_eq_true rfl)) dX2_clear_25 ⟨Nat.le_of_ble_eq_true rfl, Nat.le_of_ble_eq_true rfl⟩) hw hS hA [1] [0, 2, 3] rfl rfl rfl rfl (fun _ H locs hp1 hw hS => ?_)
  have hw : zPD D A [(h0, .inr (2, [.ref a0, .ref a1, .ref a2, .ref a3, .ref a4, .ref a5, .ref a6, .ref a7, .ref a8, .int 0, .int 0, .int 1, .int 2])), (a8, .inr (4, [.ref k0, .ref k1, .int sz])), (k0, .inl (ct 0, 1000, .inl g)), (a1, .inl (ct 0, 6, .inl (zfl f1 0 6)))] H := hw
  refine zfr 28 [] rfl rfl ?_
  refine lv_aload_n hx hb dX2_clear_28 rfl (lv_at hl 0 rfl) ?_
  refine va_get (D := D) (ci := 2) (v := .ref a8) hx hb hts hiX2 hown hK hw.1 0 rfl rfl 8 (by decide) (hts (.fieldLink RX2 40 "BeardPass$Land" "law" "LBeardPass$Law;") (by decide +kernel)) (fun _ h9 => h9) rfl dX2_clear_29 ?_
  refine zcall2 (va_runV (As := []) (rest := []) ⟨hx, hb, hml, hown, hts⟩ (c_X4_untold l D ct a8 k0 k1 sz g H.size) (cwV 0 hts gX2_clear_X4_beAsUntold rfl rfl rfl (by decide +kernel) ⟨Nat.le_of_ble_eq_true rfl, Nat.le_of_ble_eq_true rfl⟩) (zpreV hK hw hS hA zZ.nil hN [1, 2] rfl rfl 4 1 rfl rfl) rfl rfl hl.1 rfl (lv_room (Nat.le_of_ble_eq_true rfl)) dX2_clear_32 ⟨Nat.le_of_ble_eq_true rfl, Nat.le_of_ble_eq_true rfl⟩) hw hS hA [1, 2] [0, 3] rfl rfl rfl rfl (fun _ H locs hp2 hw hS => ?_)
  have hw : zPD D A [(h0, .inr (2, [.ref a0, .ref a1, .ref a2, .ref a3, .ref a4, .ref a5, .ref a6, .ref a7, .ref a8, .int 0, .int 0, .int 1, .int 2])), (a1, .inl (ct 0, 6, .inl (zfl f1 0 6))), (a8, .inr (4, [.ref k0, .ref k1, .int (nI (0 + 1 + 1 + 1 + 1))])), (k0, .inl (ct 0, 1000, .inl (upd (upd (upd (upd g 0 (-1)) (0 + 1) (-3)) (0 + 1 + 1) (-8)) (0 + 1 + 1 + 1) (-5))))] H := hw
  refine zfr 35 [] rfl rfl ?_
  exact zvret hx hb hr hlocks () rfl (trivial) hw [0, 1, 2, 3] rfl (rfl) hS (Nat.le_of_ble_eq_true rfl) (Nat.le_of_ble_eq_true rfl) dX2_clear_35
