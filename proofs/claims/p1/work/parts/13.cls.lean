set_option maxHeartbeats 4000000 in
set_option maxRecDepth 100000 in
/-- LandReader.read of an empty tape -/
theorem c_read3 (l : Launch) (D : va_G) (ct : Nat → ClassId) (h0 : Nat) (t0 : Nat) (d0 : Nat) (b0 : Nat) (so : Nat) (eE : Nat) (pl : Int32) (nb : Int32) (wd : Int64) (nx : Int32) (ft : Int32) (a0 : Nat) (a1 : Nat) (a2 : Nat) (a3 : Nat) (a4 : Nat) (a5 : Nat) (a6 : Nat) (a7 : Nat) (a8 : Nat) (k0 : Nat) (k1 : Nat) (n0 : Int32) (n1 : Int32) (n2 : Int32) (n3 : Int32) (sz : Int32) (f1 : Nat → Int32) (g : Nat → Int32) (v0 : Int32) (v1 : Int32) (v2 : Int32)  : zC l yX3_read wsX3_read ({ frames := 4, cells := 0, slots := 0, locals := 200 }) D ct [("END", eE)] [.ref h0, .ref t0, .ref d0] [(h0, .inr (3, [.int v0, .int v1, .int v2])), (t0, .inr (8, [.ref b0, .int 0, .int pl, .int nx, .ref so, .int nb, .long wd, .int ft])), (d0, .inr (2, [.ref a0, .ref a1, .ref a2, .ref a3, .ref a4, .ref a5, .ref a6, .ref a7, .ref a8, .int n0, .int n1, .int n2, .int n3])), (a1, .inl (ct 0, 6, .inl f1)), (a8, .inr (4, [.ref k0, .ref k1, .int sz])), (k0, .inl (ct 0, 1000, .inl g))] (S := Unit) (fun _ => some (.int 1)) (fun _ => True) (fun _ => [(h0, .inr (3, [.int 0, .int 0, .int 0])), (t0, .inr (8, [.ref b0, .int 0, .int 0, .int 0, .ref eE, .int nb, .long wd, .int 0])), (d0, .inr (2, [.ref a0, .ref a1, .ref a2, .ref a3, .ref a4, .ref a5, .ref a6, .ref a7, .ref a8, .int 0, .int 0, .int 1, .int 2])), (a1, .inl (ct 0, 6, .inl (zfl f1 0 6))), (a8, .inr (4, [.ref k0, .ref k1, .int (nI (0 + 1 + 1 + 1 + 1))])), (k0, .inl (ct 0, 1000, .inl (upd (upd (upd (upd g 0 (-1)) (0 + 1) (-3)) (0 + 1 + 1) (-8)) (0 + 1 + 1 + 1) (-5))))]) 0 0 := by
  refine zofW cX3_read 4 (some .boolean) (by decide) rfl (Nat.le_of_ble_eq_true rfl) ?_
  intro p e s m below meth c A hx hb hr hml hts hown hlocks hname hK hA hZ hN H locs hw hS ls hl
  have hown : s.vm.findClass RX3 = some m.cls := hown
  have hl : lv_has ls 4 [(0, .ref h0), (1, .ref t0), (2, .ref d0)] := hl
  have hiX3 : ∀ w ∈ wsX30, w ∈ wsX3_read := by decide +kernel
  have hiX9 : ∀ w ∈ wsX90, w ∈ wsX3_read := by decide +kernel
  refine lv_aload_n hx hb dX3_read_0 rfl (lv_at hl 2 rfl) ?_
  refine zcall2 (va_runV (As := []) (rest := []) ⟨hx, hb, hml, hown, hts⟩ (c_X2_clear l D ct d0 a0 a1 a2 a3 a4 a5 a6 a7 a8 k0 k1 n0 n1 n2 n3 sz f1 g H.size) (cwV 0 hts gX3_read_X2_clear rfl rfl rfl (by decide +kernel) ⟨Nat.le_of_ble_eq_true rfl, Nat.le_of_ble_eq_true rfl⟩) (zpreV hK hw hS hA zZ.nil hN [2, 3, 4, 5] rfl rfl 2 2 rfl rfl) rfl rfl hl.1 rfl (lv_room (Nat.le_of_ble_eq_true rfl)) dX3_read_1 ⟨Nat.le_of_ble_eq_true rfl, Nat.le_of_ble_eq_true rfl⟩) hw hS hA [2, 3, 4, 5] [0, 1] rfl rfl rfl rfl (fun _ H locs hp1 hw hS => ?_)
  have hw : zPD D A [(h0, .inr (3, [.int v0, .int v1, .int v2])), (t0, .inr (8, [.ref b0, .int 0, .int pl, .int nx, .ref so, .int nb, .long wd, .int ft])), (d0, .inr (2, [.ref a0, .ref a1, .ref a2, .ref a3, .ref a4, .ref a5, .ref a6, .ref a7, .ref a8, .int 0, .int 0, .int 1, .int 2])), (a1, .inl (ct 0, 6, .inl (zfl f1 0 6))), (a8, .inr (4, [.ref k0, .ref k1, .int (nI (0 + 1 + 1 + 1 + 1))])), (k0, .inl (ct 0, 1000, .inl (upd (upd (upd (upd g 0 (-1)) (0 + 1) (-3)) (0 + 1 + 1) (-8)) (0 + 1 + 1 + 1) (-5))))] H := hw
  refine zfr 4 [] rfl rfl ?_
  refine lv_aload_n hx hb dX3_read_4 rfl (lv_at hl 0 rfl) ?_
  refine lv_iconst (v := 0) hx hb dX3_read_5 (by decide) ?_
  refine zput (D := D) (ci := 3) (v := .int 0) (ty := .boolean) hx hb hts hiX3 tyX3 tyX3_ok nmX3 hown hK hw hS 0 rfl rfl 0 (by decide) (hts (.fieldLink RX3 9 "BeardPass$LandReader" "growsTold" "Z") (by decide +kernel)) (fun _ h9 => h9) rfl (by decide +kernel) rfl rfl (Nat.le_of_ble_eq_true rfl) dX3_read_6 [(h0, .inr (3, [.int 0, .int v1, .int v2])), (t0, .inr (8, [.ref b0, .int 0, .int pl, .int nx, .ref so, .int nb, .long wd, .int ft])), (d0, .inr (2, [.ref a0, .ref a1, .ref a2, .ref a3, .ref a4, .ref a5, .ref a6, .ref a7, .ref a8, .int 0, .int 0, .int 1, .int 2])), (a1, .inl (ct 0, 6, .inl (zfl f1 0 6))), (a8, .inr (4, [.ref k0, .ref k1, .int (nI (0 + 1 + 1 + 1 + 1))])), (k0, .inl (ct 0, 1000, .inl (upd (upd (upd (upd g 0 (-1)) (0 + 1) (-3)) (0 + 1 + 1) (-8)) (0 + 1 + 1 + 1) (-5))))] rfl (fun H locs hw hS => ?_)
  refine lv_aload_n hx hb dX3_read_9 rfl (lv_at hl 0 rfl) ?_
  refine lv_iconst (v := 0) hx hb dX3_read_10 (by decide) ?_
  refine zput (D := D) (ci := 3) (v := .int 0) (ty := .boolean) hx hb hts hiX3 tyX3 tyX3_ok nmX3 hown hK hw hS 0 rfl rfl 1 (by decide) (hts (.fieldLink RX3 15 "BeardPass$LandReader" "inchTold" "Z") (by decide +kernel)) (fun _ h9 => h9) rfl (by decide +kernel) rfl rfl (Nat.le_of_ble_eq_true rfl) dX3_read_11 [(h0, .inr (3, [.int 0, .int 0, .int v2])), (t0, .inr (8, [.ref b0, .int 0, .int pl, .int nx, .ref so, .int nb, .long wd, .int ft])), (d0, .inr (2, [.ref a0, .ref a1, .ref a2, .ref a3, .ref a4, .ref a5, .ref a6, .ref a7, .ref a8, .int 0, .int 0, .int 1, .int 2])), (a1, .inl (ct 0, 6, .inl (zfl f1 0 6))), (a8, .inr (4, [.ref k0, .ref k1, .int (nI (0 + 1 + 1 + 1 + 1))])), (k0, .inl (ct 0, 1000, .inl (upd (upd (upd (upd g 0 (-1)) (0 + 1) (-3)) (0 + 1 + 1) (-8)) (0 + 1 + 1 + 1) (-5))))] rfl (fun H locs hw hS => ?_)
  refine lv_aload_n hx hb dX3_read_14 rfl (lv_at hl 0 rfl) ?_
  refine lv_iconst (v := 0) hx hb dX3_read_15 (by decide) ?_
  refine zput (D := D) (ci := 3) (v := .int 0) (ty := .boolean) hx hb hts hiX3 tyX3 tyX3_ok nmX3 hown hK hw hS 0 rfl rfl 2 (by decide) (hts (.fieldLink RX3 18 "BeardPass$LandReader" "readsTold" "Z") (by decide +kernel)) (fun _ h9 => h9) rfl (by decide +kernel) rfl rfl (Nat.le_of_ble_eq_true rfl) dX3_read_16 [(h0, .inr (3, [.int 0, .int 0, .int 0])), (t0, .inr (8, [.ref b0, .int 0, .int pl, .int nx, .ref so, .int nb, .long wd, .int ft])), (d0, .inr (2, [.ref a0, .ref a1, .ref a2, .ref a3, .ref a4, .ref a5, .ref a6, .ref a7, .ref a8, .int 0, .int 0, .int 1, .int 2])), (a1, .inl (ct 0, 6, .inl (zfl f1 0 6))), (a8, .inr (4, [.ref k0, .ref k1, .int (nI (0 + 1 + 1 + 1 + 1))])), (k0, .inl (ct 0, 1000, .inl (upd (upd (upd (upd g 0 (-1)) (0 + 1) (-3)) (0 + 1 + 1) (-8)) (0 + 1 + 1 + 1) (-5))))] rfl (fun H locs hw hS => ?_)
  refine lv_aload_n hx hb dX3_read_19 rfl (lv_at hl 1 rfl) ?_
  refine zcall2 (va_runV (As := []) (rest := []) ⟨hx, hb, hml, hown, hts⟩ (c_begin0 l D ct t0 b0 so eE pl nb wd nx ft H.size) (cwV 0 hts gX3_read_X9_begin rfl rfl rfl (by decide +kernel) ⟨Nat.le_of_ble_eq_true rfl, Nat.le_of_ble_eq_true rfl⟩) (zpreV hK hw hS hA hZ hN [1] rfl rfl 8 1 rfl rfl) rfl rfl hl.1 rfl (lv_room (Nat.le_of_ble_eq_true rfl)) dX3_read_20 ⟨Nat.le_of_ble_eq_true rfl, Nat.le_of_ble_eq_true rfl⟩) hw hS hA [1] [0, 2, 3, 4, 5] rfl rfl rfl rfl (fun _ H locs hp2 hw hS => ?_)
  have hw : zPD D A [(h0, .inr (3, [.int 0, .int 0, .int 0])), (d0, .inr (2, [.ref a0, .ref a1, .ref a2, .ref a3, .ref a4, .ref a5, .ref a6, .ref a7, .ref a8, .int 0, .int 0, .int 1, .int 2])), (a1, .inl (ct 0, 6, .inl (zfl f1 0 6))), (a8, .inr (4, [.ref k0, .ref k1, .int (nI (0 + 1 + 1 + 1 + 1))])), (k0, .inl (ct 0, 1000, .inl (upd (upd (upd (upd g 0 (-1)) (0 + 1) (-3)) (0 + 1 + 1) (-8)) (0 + 1 + 1 + 1) (-5)))), (t0, .inr (8, [.ref b0, .int 0, .int 0, .int 0, .ref eE, .int nb, .long wd, .int 0]))] H := hw
  refine zfr 23 [] rfl rfl ?_
  refine lv_iconst (v := 0) hx hb dX3_read_23 (by decide) ?_
  refine lv_istore_n (lv' := [(3, .int 0), (0, .ref h0), (1, .ref t0), (2, .ref d0)]) hx hb dX3_read_24 rfl hl (by decide) rfl (fun ls hl => ?_)
  refine lv_iload_n hx hb dX3_read_25 rfl (lv_at hl 0 rfl) ?_
  refine lv_sipush (v := 1000) hx hb dX3_read_26 (by decide) ?_
  refine lv_icmp_ge (tgt := 69) hx hb dX3_read_29 (by decide) (fun h => absurd h (by decide)) (fun _ => ?_)
  refine lv_aload_n hx hb dX3_read_32 rfl (lv_at hl 2 rfl) ?_
  refine va_get (D := D) (ci := 8) (v := .ref eE) hx hb hts hiX9 hown hK hw.1 5 rfl rfl 4 (by decide) (hts (.fieldLink RX3 31 "BeardPass$Tape" "sort" "LBeardPass$Sort;") (by decide +kernel)) (fun _ h9 => h9) rfl dX3_read_33 ?_
  refine va_gets (C := RX7) (n := "END") (d := "LBeardPass$Sort;") (v := .ref eE) hx hb (hZ ("END", eE) (List.mem_of_getElem? (i := 0) rfl)) hS hown (hts (.fieldLink RX3 35 "BeardPass$Sort" "END" "LBeardPass$Sort;") (by decide +kernel)) (fun _ h9 => h9) dX3_read_36 ?_
  refine lv_acmp_eq (rx := some eE) (ry := some eE) (tgt := 69) hx hb dX3_read_39 (by decide) (fun _ => ?_) (fun h => absurd rfl h)
  refine lv_iconst (v := 1) hx hb dX3_read_69 (by decide) ?_
  exact ziret hx hb hr (rfl) hlocks () (rfl) (trivial) hw [0, 5, 1, 2, 3, 4] rfl (rfl) hS (Nat.le_of_ble_eq_true rfl) (Nat.le_of_ble_eq_true rfl) dX3_read_70

set_option maxHeartbeats 4000000 in
set_option maxRecDepth 100000 in
/-- Journey.read of an empty tape -/
theorem c_read1 (l : Launch) (D : va_G) (ct : Nat → ClassId) (h0 : Nat) (t0 : Nat) (d0 : Nat) (b0 : Nat) (so : Nat) (eE : Nat) (pl : Int32) (nb : Int32) (wd : Int64) (nx : Int32) (ft : Int32) (a0 : Nat) (a1 : Nat) (a2 : Nat) (v0 : Int32)  : zC l yX1_read wsX1_read ({ frames := 3, cells := 0, slots := 0, locals := 160 }) D ct [("END", eE)] [.ref h0, .ref t0, .ref d0] [(h0, .inr (1, [.ref a0, .ref a1, .ref a2, .int v0])), (t0, .inr (8, [.ref b0, .int 0, .int pl, .int nx, .ref so, .int nb, .long wd, .int ft]))] (S := Unit) (fun _ => some (.int 1)) (fun _ => True) (fun _ => [(h0, .inr (1, [.ref a0, .ref a1, .ref a2, .int 0])), (t0, .inr (8, [.ref b0, .int 0, .int 0, .int 0, .ref eE, .int nb, .long wd, .int 0]))]) 0 0 := by
  refine zofW cX1_read 4 (some .boolean) (by decide) rfl (Nat.le_of_ble_eq_true rfl) ?_
  intro p e s m below meth c A hx hb hr hml hts hown hlocks hname hK hA hZ hN H locs hw hS ls hl
  have hown : s.vm.findClass RX1 = some m.cls := hown
  have hl : lv_has ls 4 [(0, .ref h0), (1, .ref t0), (2, .ref d0)] := hl
  have hiX1 : ∀ w ∈ wsX10, w ∈ wsX1_read := by decide +kernel
  have hiX9 : ∀ w ∈ wsX90, w ∈ wsX1_read := by decide +kernel
  refine lv_aload_n hx hb dX1_read_0 rfl (lv_at hl 0 rfl) ?_
  refine lv_iconst (v := 0) hx hb dX1_read_1 (by decide) ?_
  refine zput (D := D) (ci := 1) (v := .int 0) (ty := .int) hx hb hts hiX1 tyX1 tyX1_ok nmX1 hown hK hw hS 0 rfl rfl 3 (by decide) (hts (.fieldLink RX1 21 "BeardPass$Journey" "lines" "I") (by decide +kernel)) (fun _ h9 => h9) rfl (by decide +kernel) rfl rfl (Nat.le_of_ble_eq_true rfl) dX1_read_2 [(h0, .inr (1, [.ref a0, .ref a1, .ref a2, .int 0])), (t0, .inr (8, [.ref b0, .int 0, .int pl, .int nx, .ref so, .int nb, .long wd, .int ft]))] rfl (fun H locs hw hS => ?_)
  refine lv_aload_n hx hb dX1_read_5 rfl (lv_at hl 1 rfl) ?_
  refine zcall2 (va_runV (As := []) (rest := []) ⟨hx, hb, hml, hown, hts⟩ (c_begin0 l D ct t0 b0 so eE pl nb wd nx ft H.size) (cwV 0 hts gX1_read_X9_begin rfl rfl rfl (by decide +kernel) ⟨Nat.le_of_ble_eq_true rfl, Nat.le_of_ble_eq_true rfl⟩) (zpreV hK hw hS hA hZ hN [1] rfl rfl 8 1 rfl rfl) rfl rfl hl.1 rfl (lv_room (Nat.le_of_ble_eq_true rfl)) dX1_read_6 ⟨Nat.le_of_ble_eq_true rfl, Nat.le_of_ble_eq_true rfl⟩) hw hS hA [1] [0] rfl rfl rfl rfl (fun _ H locs hp1 hw hS => ?_)
  have hw : zPD D A [(h0, .inr (1, [.ref a0, .ref a1, .ref a2, .int 0])), (t0, .inr (8, [.ref b0, .int 0, .int 0, .int 0, .ref eE, .int nb, .long wd, .int 0]))] H := hw
  refine zfr 9 [] rfl rfl ?_
  refine lv_iconst (v := 0) hx hb dX1_read_9 (by decide) ?_
  refine lv_istore_n (lv' := [(3, .int 0), (0, .ref h0), (1, .ref t0), (2, .ref d0)]) hx hb dX1_read_10 rfl hl (by decide) rfl (fun ls hl => ?_)
  refine lv_iload_n hx hb dX1_read_11 rfl (lv_at hl 0 rfl) ?_
  refine lv_sipush (v := 1000) hx hb dX1_read_12 (by decide) ?_
  refine lv_icmp_ge (tgt := 55) hx hb dX1_read_15 (by decide) (fun h => absurd h (by decide)) (fun _ => ?_)
  refine lv_aload_n hx hb dX1_read_18 rfl (lv_at hl 2 rfl) ?_
  refine va_get (D := D) (ci := 8) (v := .ref eE) hx hb hts hiX9 hown hK hw.1 1 rfl rfl 4 (by decide) (hts (.fieldLink RX1 36 "BeardPass$Tape" "sort" "LBeardPass$Sort;") (by decide +kernel)) (fun _ h9 => h9) rfl dX1_read_19 ?_
  refine va_gets (C := RX7) (n := "END") (d := "LBeardPass$Sort;") (v := .ref eE) hx hb (hZ ("END", eE) (List.mem_of_getElem? (i := 0) rfl)) hS hown (hts (.fieldLink RX1 40 "BeardPass$Sort" "END" "LBeardPass$Sort;") (by decide +kernel)) (fun _ h9 => h9) dX1_read_22 ?_
  refine lv_acmp_eq (rx := some eE) (ry := some eE) (tgt := 55) hx hb dX1_read_25 (by decide) (fun _ => ?_) (fun h => absurd rfl h)
  refine lv_iconst (v := 1) hx hb dX1_read_55 (by decide) ?_
  exact ziret hx hb hr (rfl) hlocks () (rfl) (trivial) hw [0, 1] rfl (rfl) hS (Nat.le_of_ble_eq_true rfl) (Nat.le_of_ble_eq_true rfl) dX1_read_56

set_option maxHeartbeats 4000000 in
set_option maxRecDepth 100000 in
/-- Land.copy -/
theorem c_X2_copy (l : Launch) (D : va_G) (ct : Nat → ClassId) (h0 : Nat) (h1 : Nat) (a0 : Nat) (a1 : Nat) (a2 : Nat) (a3 : Nat) (a4 : Nat) (a5 : Nat) (a6 : Nat) (a7 : Nat) (b0 : Nat) (b1 : Nat) (b2 : Nat) (b3 : Nat) (b4 : Nat) (b5 : Nat) (b6 : Nat) (b7 : Nat) (l0 : Nat) (l1 : Nat) (l2 : Nat) (m0 : Nat) (m1 : Nat) (m2 : Nat) (f0 : Nat → Int32) (f1 : Nat → Int32) (f2 : Nat → Int64) (f3 : Nat → Int32) (f4 : Nat → Int32) (f5 : Nat → Int32) (f6 : Nat → Int32) (f7 : Nat → Int64) (g0 : Nat → Int32) (g1 : Nat → Int32) (g2 : Nat → Int64) (g3 : Nat → Int32) (g4 : Nat → Int32) (g5 : Nat → Int32) (g6 : Nat → Int32) (g7 : Nat → Int64) (fc : Nat → Int32) (gc : Nat → Int32) (n0 : Int32) (n1 : Int32) (n2 : Int32) (n3 : Int32) (k0 : Int32) (k1 : Int32) (k2 : Int32) (k3 : Int32) (s0 : Int32) (sn : Nat) (hn : sn ≤ 1000) : zC l yX2_copy wsX2_copy ({ frames := 3, cells := 0, slots := 0, locals := 160 }) D ct [] [.ref h0, .ref h1] [(h0, .inr (2, [.ref a0, .ref a1, .ref a2, .ref a3, .ref a4, .ref a5, .ref a6, .ref a7, .ref l0, .int n0, .int n1, .int n2, .int n3])), (a0, .inl (ct 0, 6, .inl f0)), (a1, .inl (ct 0, 6, .inl f1)), (a2, .inl (ct 1, 6, .inr (.inl f2))), (a3, .inl (ct 0, 6, .inl f3)), (a4, .inl (ct 0, 6, .inl f4)), (a5, .inl (ct 0, 6, .inl f5)), (a6, .inl (ct 0, 6, .inl f6)), (a7, .inl (ct 1, 6, .inr (.inl f7))), (l0, .inr (4, [.ref l1, .ref l2, .int s0])), (l1, .inl (ct 0, 1000, .inl fc)), (h1, .inr (2, [.ref b0, .ref b1, .ref b2, .ref b3, .ref b4, .ref b5, .ref b6, .ref b7, .ref m0, .int k0, .int k1, .int k2, .int k3])), (b0, .inl (ct 0, 6, .inl g0)), (b1, .inl (ct 0, 6, .inl g1)), (b2, .inl (ct 1, 6, .inr (.inl g2))), (b3, .inl (ct 0, 6, .inl g3)), (b4, .inl (ct 0, 6, .inl g4)), (b5, .inl (ct 0, 6, .inl g5)), (b6, .inl (ct 0, 6, .inl g6)), (b7, .inl (ct 1, 6, .inr (.inl g7))), (m0, .inr (4, [.ref m1, .ref m2, .int (nI sn)])), (m1, .inl (ct 0, 1000, .inl gc))] (S := Unit) (fun _ => none) (fun _ => True) (fun _ => [(h0, .inr (2, [.ref a0, .ref a1, .ref a2, .ref a3, .ref a4, .ref a5, .ref a6, .ref a7, .ref l0, .int k0, .int k1, .int k2, .int k3])), (a0, .inl (ct 0, 6, .inl (va_cpy g0 f0 0 0 6))), (a1, .inl (ct 0, 6, .inl (va_cpy g1 f1 0 0 6))), (a2, .inl (ct 1, 6, .inr (.inl (va_cpy g2 f2 0 0 6)))), (a3, .inl (ct 0, 6, .inl (va_cpy g3 f3 0 0 6))), (a4, .inl (ct 0, 6, .inl (va_cpy g4 f4 0 0 6))), (a5, .inl (ct 0, 6, .inl (va_cpy g5 f5 0 0 6))), (a6, .inl (ct 0, 6, .inl (va_cpy g6 f6 0 0 6))), (a7, .inl (ct 1, 6, .inr (.inl (va_cpy g7 f7 0 0 6)))), (l0, .inr (4, [.ref l1, .ref l2, .int (nI sn)])), (l1, .inl (ct 0, 1000, .inl (va_cpy gc fc 0 0 sn))), (h1, .inr (2, [.ref b0, .ref b1, .ref b2, .ref b3, .ref b4, .ref b5, .ref b6, .ref b7, .ref m0, .int k0, .int k1, .int k2, .int k3])), (b0, .inl (ct 0, 6, .inl g0)), (b1, .inl (ct 0, 6, .inl g1)), (b2, .inl (ct 1, 6, .inr (.inl g2))), (b3, .inl (ct 0, 6, .inl g3)), (b4, .inl (ct 0, 6, .inl g4)), (b5, .inl (ct 0, 6, .inl g5)), (b6, .inl (ct 0, 6, .inl g6)), (b7, .inl (ct 1, 6, .inr (.inl g7))), (m0, .inr (4, [.ref m1, .ref m2, .int (nI sn)])), (m1, .inl (ct 0, 1000, .inl gc))]) 0 0 := by
  refine zofW cX2_copy 2 none (by decide) rfl (Nat.le_of_ble_eq_true rfl) ?_
  intro p e s m below meth c A hx hb hr hml hts hown hlocks hname hK hA hZ hN H locs hw hS ls hl
  have hown : s.vm.findClass RX2 = some m.cls := hown
  have hl : lv_has ls 2 [(0, .ref h0), (1, .ref h1)] := hl
  have hiX2 : ∀ w ∈ wsX20, w ∈ wsX2_copy := by decide +kernel
  refine lv_aload_n hx hb dX2_copy_0 rfl (lv_at hl 0 rfl) ?_
  refine lv_aload_n hx hb dX2_copy_1 rfl (lv_at hl 1 rfl) ?_
  refine va_get (D := D) (ci := 2) (v := .int k0) hx hb hts hiX2 hown hK hw.1 11 rfl rfl 9 (by decide) (hts (.fieldLink RX2 44 "BeardPass$Land" "towns" "I") (by decide +kernel)) (fun _ h9 => h9) rfl dX2_copy_2 ?_
  refine zput (D := D) (ci := 2) (v := .int k0) (ty := .int) hx hb hts hiX2 tyX2 tyX2_ok nmX2 hown hK hw hS 0 rfl rfl 9 (by decide) (hts (.fieldLink RX2 44 "BeardPass$Land" "towns" "I") (by decide +kernel)) (fun _ h9 => h9) rfl (by decide +kernel) rfl rfl (Nat.le_of_ble_eq_true rfl) dX2_copy_5 [(h0, .inr (2, [.ref a0, .ref a1, .ref a2, .ref a3, .ref a4, .ref a5, .ref a6, .ref a7, .ref l0, .int k0, .int n1, .int n2, .int n3])), (a0, .inl (ct 0, 6, .inl f0)), (a1, .inl (ct 0, 6, .inl f1)), (a2, .inl (ct 1, 6, .inr (.inl f2))), (a3, .inl (ct 0, 6, .inl f3)), (a4, .inl (ct 0, 6, .inl f4)), (a5, .inl (ct 0, 6, .inl f5)), (a6, .inl (ct 0, 6, .inl f6)), (a7, .inl (ct 1, 6, .inr (.inl f7))), (l0, .inr (4, [.ref l1, .ref l2, .int s0])), (l1, .inl (ct 0, 1000, .inl fc)), (h1, .inr (2, [.ref b0, .ref b1, .ref b2, .ref b3, .ref b4, .ref b5, .ref b6, .ref b7, .ref m0, .int k0, .int k1, .int k2, .int k3])), (b0, .inl (ct 0, 6, .inl g0)), (b1, .inl (ct 0, 6, .inl g1)), (b2, .inl (ct 1, 6, .inr (.inl g2))), (b3, .inl (ct 0, 6, .inl g3)), (b4, .inl (ct 0, 6, .inl g4)), (b5, .inl (ct 0, 6, .inl g5)), (b6, .inl (ct 0, 6, .inl g6)), (b7, .inl (ct 1, 6, .inr (.inl g7))), (m0, .inr (4, [.ref m1, .ref m2, .int (nI sn)])), (m1, .inl (ct 0, 1000, .inl gc))] rfl (fun H locs hw hS => ?_)
  refine lv_aload_n hx hb dX2_copy_8 rfl (lv_at hl 0 rfl) ?_
  refine lv_aload_n hx hb dX2_copy_9 rfl (lv_at hl 1 rfl) ?_
  refine va_get (D := D) (ci := 2) (v := .int k1) hx hb hts hiX2 hown hK hw.1 11 rfl rfl 10 (by decide) (hts (.fieldLink RX2 48 "BeardPass$Land" "persons" "I") (by decide +kernel)) (fun _ h9 => h9) rfl dX2_copy_10 ?_
  refine zput (D := D) (ci := 2) (v := .int k1) (ty := .int) hx hb hts hiX2 tyX2 tyX2_ok nmX2 hown hK hw hS 0 rfl rfl 10 (by decide) (hts (.fieldLink RX2 48 "BeardPass$Land" "persons" "I") (by decide +kernel)) (fun _ h9 => h9) rfl (by decide +kernel) rfl rfl (Nat.le_of_ble_eq_true rfl) dX2_copy_13 [(h0, .inr (2, [.ref a0, .ref a1, .ref a2, .ref a3, .ref a4, .ref a5, .ref a6, .ref a7, .ref l0, .int k0, .int k1, .int n2, .int n3])), (a0, .inl (ct 0, 6, .inl f0)), (a1, .inl (ct 0, 6, .inl f1)), (a2, .inl (ct 1, 6, .inr (.inl f2))), (a3, .inl (ct 0, 6, .inl f3)), (a4, .inl (ct 0, 6, .inl f4)), (a5, .inl (ct 0, 6, .inl f5)), (a6, .inl (ct 0, 6, .inl f6)), (a7, .inl (ct 1, 6, .inr (.inl f7))), (l0, .inr (4, [.ref l1, .ref l2, .int s0])), (l1, .inl (ct 0, 1000, .inl fc)), (h1, .inr (2, [.ref b0, .ref b1, .ref b2, .ref b3, .ref b4, .ref b5, .ref b6, .ref b7, .ref m0, .int k0, .int k1, .int k2, .int k3])), (b0, .inl (ct 0, 6, .inl g0)), (b1, .inl (ct 0, 6, .inl g1)), (b2, .inl (ct 1, 6, .inr (.inl g2))), (b3, .inl (ct 0, 6, .inl g3)), (b4, .inl (ct 0, 6, .inl g4)), (b5, .inl (ct 0, 6, .inl g5)), (b6, .inl (ct 0, 6, .inl g6)), (b7, .inl (ct 1, 6, .inr (.inl g7))), (m0, .inr (4, [.ref m1, .ref m2, .int (nI sn)])), (m1, .inl (ct 0, 1000, .inl gc))] rfl (fun H locs hw hS => ?_)
  refine lv_aload_n hx hb dX2_copy_16 rfl (lv_at hl 0 rfl) ?_
  refine lv_aload_n hx hb dX2_copy_17 rfl (lv_at hl 1 rfl) ?_
  refine va_get (D := D) (ci := 2) (v := .int k2) hx hb hts hiX2 hown hK hw.1 11 rfl rfl 11 (by decide) (hts (.fieldLink RX2 51 "BeardPass$Land" "grows" "I") (by decide +kernel)) (fun _ h9 => h9) rfl dX2_copy_18 ?_
  refine zput (D := D) (ci := 2) (v := .int k2) (ty := .int) hx hb hts hiX2 tyX2 tyX2_ok nmX2 hown hK hw hS 0 rfl rfl 11 (by decide) (hts (.fieldLink RX2 51 "BeardPass$Land" "grows" "I") (by decide +kernel)) (fun _ h9 => h9) rfl (by decide +kernel) rfl rfl (Nat.le_of_ble_eq_true rfl) dX2_copy_21 [(h0, .inr (2, [.ref a0, .ref a1, .ref a2, .ref a3, .ref a4, .ref a5, .ref a6, .ref a7, .ref l0, .int k0, .int k1, .int k2, .int n3])), (a0, .inl (ct 0, 6, .inl f0)), (a1, .inl (ct 0, 6, .inl f1)), (a2, .inl (ct 1, 6, .inr (.inl f2))), (a3, .inl (ct 0, 6, .inl f3)), (a4, .inl (ct 0, 6, .inl f4)), (a5, .inl (ct 0, 6, .inl f5)), (a6, .inl (ct 0, 6, .inl f6)), (a7, .inl (ct 1, 6, .inr (.inl f7))), (l0, .inr (4, [.ref l1, .ref l2, .int s0])), (l1, .inl (ct 0, 1000, .inl fc)), (h1, .inr (2, [.ref b0, .ref b1, .ref b2, .ref b3, .ref b4, .ref b5, .ref b6, .ref b7, .ref m0, .int k0, .int k1, .int k2, .int k3])), (b0, .inl (ct 0, 6, .inl g0)), (b1, .inl (ct 0, 6, .inl g1)), (b2, .inl (ct 1, 6, .inr (.inl g2))), (b3, .inl (ct 0, 6, .inl g3)), (b4, .inl (ct 0, 6, .inl g4)), (b5, .inl (ct 0, 6, .inl g5)), (b6, .inl (ct 0, 6, .inl g6)), (b7, .inl (ct 1, 6, .inr (.inl g7))), (m0, .inr (4, [.ref m1, .ref m2, .int (nI sn)])), (m1, .inl (ct 0, 1000, .inl gc))] rfl (fun H locs hw hS => ?_)
  refine lv_aload_n hx hb dX2_copy_24 rfl (lv_at hl 0 rfl) ?_
  refine lv_aload_n hx hb dX2_copy_25 rfl (lv_at hl 1 rfl) ?_
  refine va_get (D := D) (ci := 2) (v := .int k3) hx hb hts hiX2 hown hK hw.1 11 rfl rfl 12 (by decide) (hts (.fieldLink RX2 54 "BeardPass$Land" "inch" "I") (by decide +kernel)) (fun _ h9 => h9) rfl dX2_copy_26 ?_
  refine zput (D := D) (ci := 2) (v := .int k3) (ty := .int) hx hb hts hiX2 tyX2 tyX2_ok nmX2 hown hK hw hS 0 rfl rfl 12 (by decide) (hts (.fieldLink RX2 54 "BeardPass$Land" "inch" "I") (by decide +kernel)) (fun _ h9 => h9) rfl (by decide +kernel) rfl rfl (Nat.le_of_ble_eq_true rfl) dX2_copy_29 [(h0, .inr (2, [.ref a0, .ref a1, .ref a2, .ref a3, .ref a4, .ref a5, .ref a6, .ref a7, .ref l0, .int k0, .int k1, .int k2, .int k3])), (a0, .inl (ct 0, 6, .inl f0)), (a1, .inl (ct 0, 6, .inl f1)), (a2, .inl (ct 1, 6, .inr (.inl f2))), (a3, .inl (ct 0, 6, .inl f3)), (a4, .inl (ct 0, 6, .inl f4)), (a5, .inl (ct 0, 6, .inl f5)), (a6, .inl (ct 0, 6, .inl f6)), (a7, .inl (ct 1, 6, .inr (.inl f7))), (l0, .inr (4, [.ref l1, .ref l2, .int s0])), (l1, .inl (ct 0, 1000, .inl fc)), (h1, .inr (2, [.ref b0, .ref b1, .ref b2, .ref b3, .ref b4, .ref b5, .ref b6, .ref b7, .ref m0, .int k0, .int k1, .int k2, .int k3])), (b0, .inl (ct 0, 6, .inl g0)), (b1, .inl (ct 0, 6, .inl g1)), (b2, .inl (ct 1, 6, .inr (.inl g2))), (b3, .inl (ct 0, 6, .inl g3)), (b4, .inl (ct 0, 6, .inl g4)), (b5, .inl (ct 0, 6, .inl g5)), (b6, .inl (ct 0, 6, .inl g6)), (b7, .inl (ct 1, 6, .inr (.inl g7))), (m0, .inr (4, [.ref m1, .ref m2, .int (nI sn)])), (m1, .inl (ct 0, 1000, .inl gc))] rfl (fun H locs hw hS => ?_)
  refine lv_aload_n hx hb dX2_copy_32 rfl (lv_at hl 1 rfl) ?_
  refine va_get (D := D) (ci := 2) (v := .ref b0) hx hb hts hiX2 hown hK hw.1 11 rfl rfl 0 (by decide) (hts (.fieldLink RX2 9 "BeardPass$Land" "asks" "[I") (by decide +kernel)) (fun _ h9 => h9) rfl dX2_copy_33 ?_
  refine lv_iconst (v := 0) hx hb dX2_copy_36 (by decide) ?_
  refine lv_aload_n hx hb dX2_copy_37 rfl (lv_at hl 0 rfl) ?_
  refine va_get (D := D) (ci := 2) (v := .ref a0) hx hb hts hiX2 hown hK hw.1 0 rfl rfl 0 (by decide) (hts (.fieldLink RX2 9 "BeardPass$Land" "asks" "[I") (by decide +kernel)) (fun _ h9 => h9) rfl dX2_copy_38 ?_
  refine lv_iconst (v := 0) hx hb dX2_copy_41 (by decide) ?_
  refine lv_bipush (v := 6) hx hb dX2_copy_42 (by decide) ?_
  refine zcopyi hx hb (hml.trans hl.1.symm) hown (hts (.methodLink RX2 66 arraycopyName) (by decide +kernel)) (hts (.native arraycopyName) (by decide +kernel)) (hts (.static arraycopyName) (by decide +kernel)) (hts (.initialized "java/lang/System") (by decide +kernel)) hK hw hS 12 1 rfl rfl 6 rfl rfl (by decide) (by decide) (by decide) (by decide) (Nat.le_of_ble_eq_true rfl) (by decide +kernel) dX2_copy_44 [(h0, .inr (2, [.ref a0, .ref a1, .ref a2, .ref a3, .ref a4, .ref a5, .ref a6, .ref a7, .ref l0, .int k0, .int k1, .int k2, .int k3])), (a0, .inl (ct 0, 6, .inl (va_cpy g0 f0 0 0 6))), (a1, .inl (ct 0, 6, .inl f1)), (a2, .inl (ct 1, 6, .inr (.inl f2))), (a3, .inl (ct 0, 6, .inl f3)), (a4, .inl (ct 0, 6, .inl f4)), (a5, .inl (ct 0, 6, .inl f5)), (a6, .inl (ct 0, 6, .inl f6)), (a7, .inl (ct 1, 6, .inr (.inl f7))), (l0, .inr (4, [.ref l1, .ref l2, .int s0])), (l1, .inl (ct 0, 1000, .inl fc)), (h1, .inr (2, [.ref b0, .ref b1, .ref b2, .ref b3, .ref b4, .ref b5, .ref b6, .ref b7, .ref m0, .int k0, .int k1, .int k2, .int k3])), (b0, .inl (ct 0, 6, .inl g0)), (b1, .inl (ct 0, 6, .inl g1)), (b2, .inl (ct 1, 6, .inr (.inl g2))), (b3, .inl (ct 0, 6, .inl g3)), (b4, .inl (ct 0, 6, .inl g4)), (b5, .inl (ct 0, 6, .inl g5)), (b6, .inl (ct 0, 6, .inl g6)), (b7, .inl (ct 1, 6, .inr (.inl g7))), (m0, .inr (4, [.ref m1, .ref m2, .int (nI sn)])), (m1, .inl (ct 0, 1000, .inl gc))] rfl (fun H locs hw hS => ?_)
  refine lv_aload_n hx hb dX2_copy_47 rfl (lv_at hl 1 rfl) ?_
  refine va_get (D := D) (ci := 2) (v := .ref b1) hx hb hts hiX2 hown hK hw.1 11 rfl rfl 1 (by decide) (hts (.fieldLink RX2 15 "BeardPass$Land" "roads" "[I") (by decide +kernel)) (fun _ h9 => h9) rfl dX2_copy_48 ?_
  refine lv_iconst (v := 0) hx hb dX2_copy_51 (by decide) ?_
  refine lv_aload_n hx hb dX2_copy_52 rfl (lv_at hl 0 rfl) ?_
  refine va_get (D := D) (ci := 2) (v := .ref a1) hx hb hts hiX2 hown hK hw.1 0 rfl rfl 1 (by decide) (hts (.fieldLink RX2 15 "BeardPass$Land" "roads" "[I") (by decide +kernel)) (fun _ h9 => h9) rfl dX2_copy_53 ?_
  refine lv_iconst (v := 0) hx hb dX2_copy_56 (by decide) ?_
  refine lv_bipush (v := 6) hx hb dX2_copy_57 (by decide) ?_
  refine zcopyi hx hb (hml.trans hl.1.symm) hown (hts (.methodLink RX2 66 arraycopyName) (by decide +kernel)) (hts (.native arraycopyName) (by decide +kernel)) (hts (.static arraycopyName) (by decide +kernel)) (hts (.initialized "java/lang/System") (by decide +kernel)) hK hw hS 13 2 rfl rfl 6 rfl rfl (by decide) (by decide) (by decide) (by decide) (Nat.le_of_ble_eq_true rfl) (by decide +kernel) dX2_copy_59 [(h0, .inr (2, [.ref a0, .ref a1, .ref a2, .ref a3, .ref a4, .ref a5, .ref a6, .ref a7, .ref l0, .int k0, .int k1, .int k2, .int k3])), (a0, .inl (ct 0, 6, .inl (va_cpy g0 f0 0 0 6))), (a1, .inl (ct 0, 6, .inl (va_cpy g1 f1 0 0 6))), (a2, .inl (ct 1, 6, .inr (.inl f2))), (a3, .inl (ct 0, 6, .inl f3)), (a4, .inl (ct 0, 6, .inl f4)), (a5, .inl (ct 0, 6, .inl f5)), (a6, .inl (ct 0, 6, .inl f6)), (a7, .inl (ct 1, 6, .inr (.inl f7))), (l0, .inr (4, [.ref l1, .ref l2, .int s0])), (l1, .inl (ct 0, 1000, .inl fc)), (h1, .inr (2, [.ref b0, .ref b1, .ref b2, .ref b3, .ref b4, .ref b5, .ref b6, .ref b7, .ref m0, .int k0, .int k1, .int k2, .int k3])), (b0, .inl (ct 0, 6, .inl g0)), (b1, .inl (ct 0, 6, .inl g1)), (b2, .inl (ct 1, 6, .inr (.inl g2))), (b3, .inl (ct 0, 6, .inl g3)), (b4, .inl (ct 0, 6, .inl g4)), (b5, .inl (ct 0, 6, .inl g5)), (b6, .inl (ct 0, 6, .inl g6)), (b7, .inl (ct 1, 6, .inr (.inl g7))), (m0, .inr (4, [.ref m1, .ref m2, .int (nI sn)])), (m1, .inl (ct 0, 1000, .inl gc))] rfl (fun H locs hw hS => ?_)
  refine lv_aload_n hx hb dX2_copy_62 rfl (lv_at hl 1 rfl) ?_
  refine va_get (D := D) (ci := 2) (v := .ref b2) hx hb hts hiX2 hown hK hw.1 11 rfl rfl 2 (by decide) (hts (.fieldLink RX2 18 "BeardPass$Land" "townNames" "[J") (by decide +kernel)) (fun _ h9 => h9) rfl dX2_copy_63 ?_
  refine lv_iconst (v := 0) hx hb dX2_copy_66 (by decide) ?_
  refine lv_aload_n hx hb dX2_copy_67 rfl (lv_at hl 0 rfl) ?_
  refine va_get (D := D) (ci := 2) (v := .ref a2) hx hb hts hiX2 hown hK hw.1 0 rfl rfl 2 (by decide) (hts (.fieldLink RX2 18 "BeardPass$Land" "townNames" "[J") (by decide +kernel)) (fun _ h9 => h9) rfl dX2_copy_68 ?_
  refine lv_iconst (v := 0) hx hb dX2_copy_71 (by decide) ?_
  refine lv_bipush (v := 6) hx hb dX2_copy_72 (by decide) ?_
  refine zcopyl hx hb (hml.trans hl.1.symm) hown (hts (.methodLink RX2 66 arraycopyName) (by decide +kernel)) (hts (.native arraycopyName) (by decide +kernel)) (hts (.static arraycopyName) (by decide +kernel)) (hts (.initialized "java/lang/System") (by decide +kernel)) hK hw hS 14 3 rfl rfl 6 rfl rfl (by decide) (by decide) (by decide) (by decide) (Nat.le_of_ble_eq_true rfl) (by decide +kernel) dX2_copy_74 [(h0, .inr (2, [.ref a0, .ref a1, .ref a2, .ref a3, .ref a4, .ref a5, .ref a6, .ref a7, .ref l0, .int k0, .int k1, .int k2, .int k3])), (a0, .inl (ct 0, 6, .inl (va_cpy g0 f0 0 0 6))), (a1, .inl (ct 0, 6, .inl (va_cpy g1 f1 0 0 6))), (a2, .inl (ct 1, 6, .inr (.inl (va_cpy g2 f2 0 0 6)))), (a3, .inl (ct 0, 6, .inl f3)), (a4, .inl (ct 0, 6, .inl f4)), (a5, .inl (ct 0, 6, .inl f5)), (a6, .inl (ct 0, 6, .inl f6)), (a7, .inl (ct 1, 6, .inr (.inl f7))), (l0, .inr (4, [.ref l1, .ref l2, .int s0])), (l1, .inl (ct 0, 1000, .inl fc)), (h1, .inr (2, [.ref b0, .ref b1, .ref b2, .ref b3, .ref b4, .ref b5, .ref b6, .ref b7, .ref m0, .int k0, .int k1, .int k2, .int k3])), (b0, .inl (ct 0, 6, .inl g0)), (b1, .inl (ct 0, 6, .inl g1)), (b2, .inl (ct 1, 6, .inr (.inl g2))), (b3, .inl (ct 0, 6, .inl g3)), (b4, .inl (ct 0, 6, .inl g4)), (b5, .inl (ct 0, 6, .inl g5)), (b6, .inl (ct 0, 6, .inl g6)), (b7, .inl (ct 1, 6, .inr (.inl g7))), (m0, .inr (4, [.ref m1, .ref m2, .int (nI sn)])), (m1, .inl (ct 0, 1000, .inl gc))] rfl (fun H locs hw hS => ?_)
  refine lv_aload_n hx hb dX2_copy_77 rfl (lv_at hl 1 rfl) ?_
  refine va_get (D := D) (ci := 2) (v := .ref b3) hx hb hts hiX2 hown hK hw.1 11 rfl rfl 3 (by decide) (hts (.fieldLink RX2 22 "BeardPass$Land" "kinds" "[I") (by decide +kernel)) (fun _ h9 => h9) rfl dX2_copy_78 ?_
  refine lv_iconst (v := 0) hx hb dX2_copy_81 (by decide) ?_
  refine lv_aload_n hx hb dX2_copy_82 rfl (lv_at hl 0 rfl) ?_
  refine va_get (D := D) (ci := 2) (v := .ref a3) hx hb hts hiX2 hown hK hw.1 0 rfl rfl 3 (by decide) (hts (.fieldLink RX2 22 "BeardPass$Land" "kinds" "[I") (by decide +kernel)) (fun _ h9 => h9) rfl dX2_copy_83 ?_
  refine lv_iconst (v := 0) hx hb dX2_copy_86 (by decide) ?_
  refine lv_bipush (v := 6) hx hb dX2_copy_87 (by decide) ?_
  refine zcopyi hx hb (hml.trans hl.1.symm) hown (hts (.methodLink RX2 66 arraycopyName) (by decide +kernel)) (hts (.native arraycopyName) (by decide +kernel)) (hts (.static arraycopyName) (by decide +kernel)) (hts (.initialized "java/lang/System") (by decide +kernel)) hK hw hS 15 4 rfl rfl 6 rfl rfl (by decide) (by decide) (by decide) (by decide) (Nat.le_of_ble_eq_true rfl) (by decide +kernel) dX2_copy_89 [(h0, .inr (2, [.ref a0, .ref a1, .ref a2, .ref a3, .ref a4, .ref a5, .ref a6, .ref a7, .ref l0, .int k0, .int k1, .int k2, .int k3])), (a0, .inl (ct 0, 6, .inl (va_cpy g0 f0 0 0 6))), (a1, .inl (ct 0, 6, .inl (va_cpy g1 f1 0 0 6))), (a2, .inl (ct 1, 6, .inr (.inl (va_cpy g2 f2 0 0 6)))), (a3, .inl (ct 0, 6, .inl (va_cpy g3 f3 0 0 6))), (a4, .inl (ct 0, 6, .inl f4)), (a5, .inl (ct 0, 6, .inl f5)), (a6, .inl (ct 0, 6, .inl f6)), (a7, .inl (ct 1, 6, .inr (.inl f7))), (l0, .inr (4, [.ref l1, .ref l2, .int s0])), (l1, .inl (ct 0, 1000, .inl fc)), (h1, .inr (2, [.ref b0, .ref b1, .ref b2, .ref b3, .ref b4, .ref b5, .ref b6, .ref b7, .ref m0, .int k0, .int k1, .int k2, .int k3])), (b0, .inl (ct 0, 6, .inl g0)), (b1, .inl (ct 0, 6, .inl g1)), (b2, .inl (ct 1, 6, .inr (.inl g2))), (b3, .inl (ct 0, 6, .inl g3)), (b4, .inl (ct 0, 6, .inl g4)), (b5, .inl (ct 0, 6, .inl g5)), (b6, .inl (ct 0, 6, .inl g6)), (b7, .inl (ct 1, 6, .inr (.inl g7))), (m0, .inr (4, [.ref m1, .ref m2, .int (nI sn)])), (m1, .inl (ct 0, 1000, .inl gc))] rfl (fun H locs hw hS => ?_)
  refine lv_aload_n hx hb dX2_copy_92 rfl (lv_at hl 1 rfl) ?_
  refine va_get (D := D) (ci := 2) (v := .ref b4) hx hb hts hiX2 hown hK hw.1 11 rfl rfl 4 (by decide) (hts (.fieldLink RX2 25 "BeardPass$Land" "homes" "[I") (by decide +kernel)) (fun _ h9 => h9) rfl dX2_copy_93 ?_
  refine lv_iconst (v := 0) hx hb dX2_copy_96 (by decide) ?_
  refine lv_aload_n hx hb dX2_copy_97 rfl (lv_at hl 0 rfl) ?_
  refine va_get (D := D) (ci := 2) (v := .ref a4) hx hb hts hiX2 hown hK hw.1 0 rfl rfl 4 (by decide) (hts (.fieldLink RX2 25 "BeardPass$Land" "homes" "[I") (by decide +kernel)) (fun _ h9 => h9) rfl dX2_copy_98 ?_
  refine lv_iconst (v := 0) hx hb dX2_copy_101 (by decide) ?_
  refine lv_bipush (v := 6) hx hb dX2_copy_102 (by decide) ?_
  refine zcopyi hx hb (hml.trans hl.1.symm) hown (hts (.methodLink RX2 66 arraycopyName) (by decide +kernel)) (hts (.native arraycopyName) (by decide +kernel)) (hts (.static arraycopyName) (by decide +kernel)) (hts (.initialized "java/lang/System") (by decide +kernel)) hK hw hS 16 5 rfl rfl 6 rfl rfl (by decide) (by decide) (by decide) (by decide) (Nat.le_of_ble_eq_true rfl) (by decide +kernel) dX2_copy_104 [(h0, .inr (2, [.ref a0, .ref a1, .ref a2, .ref a3, .ref a4, .ref a5, .ref a6, .ref a7, .ref l0, .int k0, .int k1, .int k2, .int k3])), (a0, .inl (ct 0, 6, .inl (va_cpy g0 f0 0 0 6))), (a1, .inl (ct 0, 6, .inl (va_cpy g1 f1 0 0 6))), (a2, .inl (ct 1, 6, .inr (.inl (va_cpy g2 f2 0 0 6)))), (a3, .inl (ct 0, 6, .inl (va_cpy g3 f3 0 0 6))), (a4, .inl (ct 0, 6, .inl (va_cpy g4 f4 0 0 6))), (a5, .inl (ct 0, 6, .inl f5)), (a6, .inl (ct 0, 6, .inl f6)), (a7, .inl (ct 1, 6, .inr (.inl f7))), (l0, .inr (4, [.ref l1, .ref l2, .int s0])), (l1, .inl (ct 0, 1000, .inl fc)), (h1, .inr (2, [.ref b0, .ref b1, .ref b2, .ref b3, .ref b4, .ref b5, .ref b6, .ref b7, .ref m0, .int k0, .int k1, .int k2, .int k3])), (b0, .inl (ct 0, 6, .inl g0)), (b1, .inl (ct 0, 6, .inl g1)), (b2, .inl (ct 1, 6, .inr (.inl g2))), (b3, .inl (ct 0, 6, .inl g3)), (b4, .inl (ct 0, 6, .inl g4)), (b5, .inl (ct 0, 6, .inl g5)), (b6, .inl (ct 0, 6, .inl g6)), (b7, .inl (ct 1, 6, .inr (.inl g7))), (m0, .inr (4, [.ref m1, .ref m2, .int (nI sn)])), (m1, .inl (ct 0, 1000, .inl gc))] rfl (fun H locs hw hS => ?_)
  refine lv_aload_n hx hb dX2_copy_107 rfl (lv_at hl 1 rfl) ?_
  refine va_get (D := D) (ci := 2) (v := .ref b5) hx hb hts hiX2 hown hK hw.1 11 rfl rfl 5 (by decide) (hts (.fieldLink RX2 28 "BeardPass$Land" "beards" "[I") (by decide +kernel)) (fun _ h9 => h9) rfl dX2_copy_108 ?_
  refine lv_iconst (v := 0) hx hb dX2_copy_111 (by decide) ?_
  refine lv_aload_n hx hb dX2_copy_112 rfl (lv_at hl 0 rfl) ?_
  refine va_get (D := D) (ci := 2) (v := .ref a5) hx hb hts hiX2 hown hK hw.1 0 rfl rfl 5 (by decide) (hts (.fieldLink RX2 28 "BeardPass$Land" "beards" "[I") (by decide +kernel)) (fun _ h9 => h9) rfl dX2_copy_113 ?_
  refine lv_iconst (v := 0) hx hb dX2_copy_116 (by decide) ?_
  refine lv_bipush (v := 6) hx hb dX2_copy_117 (by decide) ?_
  refine zcopyi hx hb (hml.trans hl.1.symm) hown (hts (.methodLink RX2 66 arraycopyName) (by decide +kernel)) (hts (.native arraycopyName) (by decide +kernel)) (hts (.static arraycopyName) (by decide +kernel)) (hts (.initialized "java/lang/System") (by decide +kernel)) hK hw hS 17 6 rfl rfl 6 rfl rfl (by decide) (by decide) (by decide) (by decide) (Nat.le_of_ble_eq_true rfl) (by decide +kernel) dX2_copy_119 [(h0, .inr (2, [.ref a0, .ref a1, .ref a2, .ref a3, .ref a4, .ref a5, .ref a6, .ref a7, .ref l0, .int k0, .int k1, .int k2, .int k3])), (a0, .inl (ct 0, 6, .inl (va_cpy g0 f0 0 0 6))), (a1, .inl (ct 0, 6, .inl (va_cpy g1 f1 0 0 6))), (a2, .inl (ct 1, 6, .inr (.inl (va_cpy g2 f2 0 0 6)))), (a3, .inl (ct 0, 6, .inl (va_cpy g3 f3 0 0 6))), (a4, .inl (ct 0, 6, .inl (va_cpy g4 f4 0 0 6))), (a5, .inl (ct 0, 6, .inl (va_cpy g5 f5 0 0 6))), (a6, .inl (ct 0, 6, .inl f6)), (a7, .inl (ct 1, 6, .inr (.inl f7))), (l0, .inr (4, [.ref l1, .ref l2, .int s0])), (l1, .inl (ct 0, 1000, .inl fc)), (h1, .inr (2, [.ref b0, .ref b1, .ref b2, .ref b3, .ref b4, .ref b5, .ref b6, .ref b7, .ref m0, .int k0, .int k1, .int k2, .int k3])), (b0, .inl (ct 0, 6, .inl g0)), (b1, .inl (ct 0, 6, .inl g1)), (b2, .inl (ct 1, 6, .inr (.inl g2))), (b3, .inl (ct 0, 6, .inl g3)), (b4, .inl (ct 0, 6, .inl g4)), (b5, .inl (ct 0, 6, .inl g5)), (b6, .inl (ct 0, 6, .inl g6)), (b7, .inl (ct 1, 6, .inr (.inl g7))), (m0, .inr (4, [.ref m1, .ref m2, .int (nI sn)])), (m1, .inl (ct 0, 1000, .inl gc))] rfl (fun H locs hw hS => ?_)
  refine lv_aload_n hx hb dX2_copy_122 rfl (lv_at hl 1 rfl) ?_
  refine va_get (D := D) (ci := 2) (v := .ref b6) hx hb hts hiX2 hown hK hw.1 11 rfl rfl 6 (by decide) (hts (.fieldLink RX2 31 "BeardPass$Land" "purses" "[I") (by decide +kernel)) (fun _ h9 => h9) rfl dX2_copy_123 ?_
  refine lv_iconst (v := 0) hx hb dX2_copy_126 (by decide) ?_
  refine lv_aload_n hx hb dX2_copy_127 rfl (lv_at hl 0 rfl) ?_
  refine va_get (D := D) (ci := 2) (v := .ref a6) hx hb hts hiX2 hown hK hw.1 0 rfl rfl 6 (by decide) (hts (.fieldLink RX2 31 "BeardPass$Land" "purses" "[I") (by decide +kernel)) (fun _ h9 => h9) rfl dX2_copy_128 ?_
  refine lv_iconst (v := 0) hx hb dX2_copy_131 (by decide) ?_
  refine lv_bipush (v := 6) hx hb dX2_copy_132 (by decide) ?_
  refine zcopyi hx hb (hml.trans hl.1.symm) hown (hts (.methodLink RX2 66 arraycopyName) (by decide +kernel)) (hts (.native arraycopyName) (by decide +kernel)) (hts (.static arraycopyName) (by decide +kernel)) (hts (.initialized "java/lang/System") (by decide +kernel)) hK hw hS 18 7 rfl rfl 6 rfl rfl (by decide) (by decide) (by decide) (by decide) (Nat.le_of_ble_eq_true rfl) (by decide +kernel) dX2_copy_134 [(h0, .inr (2, [.ref a0, .ref a1, .ref a2, .ref a3, .ref a4, .ref a5, .ref a6, .ref a7, .ref l0, .int k0, .int k1, .int k2, .int k3])), (a0, .inl (ct 0, 6, .inl (va_cpy g0 f0 0 0 6))), (a1, .inl (ct 0, 6, .inl (va_cpy g1 f1 0 0 6))), (a2, .inl (ct 1, 6, .inr (.inl (va_cpy g2 f2 0 0 6)))), (a3, .inl (ct 0, 6, .inl (va_cpy g3 f3 0 0 6))), (a4, .inl (ct 0, 6, .inl (va_cpy g4 f4 0 0 6))), (a5, .inl (ct 0, 6, .inl (va_cpy g5 f5 0 0 6))), (a6, .inl (ct 0, 6, .inl (va_cpy g6 f6 0 0 6))), (a7, .inl (ct 1, 6, .inr (.inl f7))), (l0, .inr (4, [.ref l1, .ref l2, .int s0])), (l1, .inl (ct 0, 1000, .inl fc)), (h1, .inr (2, [.ref b0, .ref b1, .ref b2, .ref b3, .ref b4, .ref b5, .ref b6, .ref b7, .ref m0, .int k0, .int k1, .int k2, .int k3])), (b0, .inl (ct 0, 6, .inl g0)), (b1, .inl (ct 0, 6, .inl g1)), (b2, .inl (ct 1, 6, .inr (.inl g2))), (b3, .inl (ct 0, 6, .inl g3)), (b4, .inl (ct 0, 6, .inl g4)), (b5, .inl (ct 0, 6, .inl g5)), (b6, .inl (ct 0, 6, .inl g6)), (b7, .inl (ct 1, 6, .inr (.inl g7))), (m0, .inr (4, [.ref m1, .ref m2, .int (nI sn)])), (m1, .inl (ct 0, 1000, .inl gc))] rfl (fun H locs hw hS => ?_)
  refine lv_aload_n hx hb dX2_copy_137 rfl (lv_at hl 1 rfl) ?_
  refine va_get (D := D) (ci := 2) (v := .ref b7) hx hb hts hiX2 hown hK hw.1 11 rfl rfl 7 (by decide) (hts (.fieldLink RX2 34 "BeardPass$Land" "personNames" "[J") (by decide +kernel)) (fun _ h9 => h9) rfl dX2_copy_138 ?_
  refine lv_iconst (v := 0) hx hb dX2_copy_141 (by decide) ?_
  refine lv_aload_n hx hb dX2_copy_142 rfl (lv_at hl 0 rfl) ?_
  refine va_get (D := D) (ci := 2) (v := .ref a7) hx hb hts hiX2 hown hK hw.1 0 rfl rfl 7 (by decide) (hts (.fieldLink RX2 34 "BeardPass$Land" "personNames" "[J") (by decide +kernel)) (fun _ h9 => h9) rfl dX2_copy_143 ?_
  refine lv_iconst (v := 0) hx hb dX2_copy_146 (by decide) ?_
  refine lv_bipush (v := 6) hx hb dX2_copy_147 (by decide) ?_
  refine zcopyl hx hb (hml.trans hl.1.symm) hown (hts (.methodLink RX2 66 arraycopyName) (by decide +kernel)) (hts (.native arraycopyName) (by decide +kernel)) (hts (.static arraycopyName) (by decide +kernel)) (hts (.initialized "java/lang/System") (by decide +kernel)) hK hw hS 19 8 rfl rfl 6 rfl rfl (by decide) (by decide) (by decide) (by decide) (Nat.le_of_ble_eq_true rfl) (by decide +kernel) dX2_copy_149 [(h0, .inr (2, [.ref a0, .ref a1, .ref a2, .ref a3, .ref a4, .ref a5, .ref a6, .ref a7, .ref l0, .int k0, .int k1, .int k2, .int k3])), (a0, .inl (ct 0, 6, .inl (va_cpy g0 f0 0 0 6))), (a1, .inl (ct 0, 6, .inl (va_cpy g1 f1 0 0 6))), (a2, .inl (ct 1, 6, .inr (.inl (va_cpy g2 f2 0 0 6)))), (a3, .inl (ct 0, 6, .inl (va_cpy g3 f3 0 0 6))), (a4, .inl (ct 0, 6, .inl (va_cpy g4 f4 0 0 6))), (a5, .inl (ct 0, 6, .inl (va_cpy g5 f5 0 0 6))), (a6, .inl (ct 0, 6, .inl (va_cpy g6 f6 0 0 6))), (a7, .inl (ct 1, 6, .inr (.inl (va_cpy g7 f7 0 0 6)))), (l0, .inr (4, [.ref l1, .ref l2, .int s0])), (l1, .inl (ct 0, 1000, .inl fc)), (h1, .inr (2, [.ref b0, .ref b1, .ref b2, .ref b3, .ref b4, .ref b5, .ref b6, .ref b7, .ref m0, .int k0, .int k1, .int k2, .int k3])), (b0, .inl (ct 0, 6, .inl g0)), (b1, .inl (ct 0, 6, .inl g1)), (b2, .inl (ct 1, 6, .inr (.inl g2))), (b3, .inl (ct 0, 6, .inl g3)), (b4, .inl (ct 0, 6, .inl g4)), (b5, .inl (ct 0, 6, .inl g5)), (b6, .inl (ct 0, 6, .inl g6)), (b7, .inl (ct 1, 6, .inr (.inl g7))), (m0, .inr (4, [.ref m1, .ref m2, .int (nI sn)])), (m1, .inl (ct 0, 1000, .inl gc))] rfl (fun H locs hw hS => ?_)
  refine lv_aload_n hx hb dX2_copy_152 rfl (lv_at hl 0 rfl) ?_
  refine va_get (D := D) (ci := 2) (v := .ref l0) hx hb hts hiX2 hown hK hw.1 0 rfl rfl 8 (by decide) (hts (.fieldLink RX2 40 "BeardPass$Land" "law" "LBeardPass$Law;") (by decide +kernel)) (fun _ h9 => h9) rfl dX2_copy_153 ?_
  refine lv_aload_n hx hb dX2_copy_156 rfl (lv_at hl 1 rfl) ?_
  refine va_get (D := D) (ci := 2) (v := .ref m0) hx hb hts hiX2 hown hK hw.1 11 rfl rfl 8 (by decide) (hts (.fieldLink RX2 40 "BeardPass$Land" "law" "LBeardPass$Law;") (by decide +kernel)) (fun _ h9 => h9) rfl dX2_copy_157 ?_
  refine zcall2 (va_runV (As := [.ref m0]) (rest := []) ⟨hx, hb, hml, hown, hts⟩ (c_X4_copy l D ct l0 m0 l1 l2 m1 m2 fc gc s0 sn (hn) H.size) (cwV 1 hts gX2_copy_X4_copy rfl rfl rfl (by decide +kernel) ⟨Nat.le_of_ble_eq_true rfl, Nat.le_of_ble_eq_true rfl⟩) (zpreV hK hw hS hA zZ.nil hN [9, 10, 20, 21] rfl rfl 4 9 rfl rfl) rfl rfl hl.1 rfl (lv_room (Nat.le_of_ble_eq_true rfl)) dX2_copy_160 ⟨Nat.le_of_ble_eq_true rfl, Nat.le_of_ble_eq_true rfl⟩) hw hS hA [9, 10, 20, 21] [0, 1, 2, 3, 4, 5, 6, 7, 8, 11, 12, 13, 14, 15, 16, 17, 18, 19] rfl rfl rfl rfl (fun _ H locs hp1 hw hS => ?_)
  have hw : zPD D A [(h0, .inr (2, [.ref a0, .ref a1, .ref a2, .ref a3, .ref a4, .ref a5, .ref a6, .ref a7, .ref l0, .int k0, .int k1, .int k2, .int k3])), (a0, .inl (ct 0, 6, .inl (va_cpy g0 f0 0 0 6))), (a1, .inl (ct 0, 6, .inl (va_cpy g1 f1 0 0 6))), (a2, .inl (ct 1, 6, .inr (.inl (va_cpy g2 f2 0 0 6)))), (a3, .inl (ct 0, 6, .inl (va_cpy g3 f3 0 0 6))), (a4, .inl (ct 0, 6, .inl (va_cpy g4 f4 0 0 6))), (a5, .inl (ct 0, 6, .inl (va_cpy g5 f5 0 0 6))), (a6, .inl (ct 0, 6, .inl (va_cpy g6 f6 0 0 6))), (a7, .inl (ct 1, 6, .inr (.inl (va_cpy g7 f7 0 0 6)))), (h1, .inr (2, [.ref b0, .ref b1, .ref b2, .ref b3, .ref b4, .ref b5, .ref b6, .ref b7, .ref m0, .int k0, .int k1, .int k2, .int k3])), (b0, .inl (ct 0, 6, .inl g0)), (b1, .inl (ct 0, 6, .inl g1)), (b2, .inl (ct 1, 6, .inr (.inl g2))), (b3, .inl (ct 0, 6, .inl g3)), (b4, .inl (ct 0, 6, .inl g4)), (b5, .inl (ct 0, 6, .inl g5)), (b6, .inl (ct 0, 6, .inl g6)), (b7, .inl (ct 1, 6, .inr (.inl g7))), (l0, .inr (4, [.ref l1, .ref l2, .int (nI sn)])), (l1, .inl (ct 0, 1000, .inl (va_cpy gc fc 0 0 sn))), (m0, .inr (4, [.ref m1, .ref m2, .int (nI sn)])), (m1, .inl (ct 0, 1000, .inl gc))] H := hw
  refine zfr 163 [] rfl rfl ?_
  exact zvret hx hb hr hlocks () rfl (trivial) hw [0, 1, 2, 3, 4, 5, 6, 7, 8, 18, 19, 9, 10, 11, 12, 13, 14, 15, 16, 17, 20, 21] rfl (rfl) hS (Nat.le_of_ble_eq_true rfl) (Nat.le_of_ble_eq_true rfl) dX2_copy_163

set_option maxHeartbeats 4000000 in
set_option maxRecDepth 100000 in
/-- Standing.begin with nobody -/
theorem c_X8_begin (l : Launch) (D : va_G) (ct : Nat → ClassId) (h0 : Nat) (h1 : Nat) (a0 : Nat) (a1 : Nat) (a2 : Nat) (a3 : Nat) (a4 : Nat) (w0 : Int32) (r0 : Nat) (r1 : Nat) (r2 : Nat) (r3 : Nat) (r4 : Nat) (r5 : Nat) (r6 : Nat) (r7 : Nat) (r8 : Nat) (n0 : Int32) (n2 : Int32) (n3 : Int32)  : zC l yX8_begin wsX8_begin ({ frames := 1, cells := 0, slots := 0, locals := 80 }) D ct [] [.ref h0, .ref h1] [(h0, .inr (7, [.ref a0, .ref a1, .ref a2, .ref a3, .ref a4, .int w0])), (h1, .inr (2, [.ref r0, .ref r1, .ref r2, .ref r3, .ref r4, .ref r5, .ref r6, .ref r7, .ref r8, .int n0, .int 0, .int n2, .int n3]))] (S := Unit) (fun _ => none) (fun _ => True) (fun _ => [(h0, .inr (7, [.ref a0, .ref a1, .ref a2, .ref a3, .ref a4, .int 0])), (h1, .inr (2, [.ref r0, .ref r1, .ref r2, .ref r3, .ref r4, .ref r5, .ref r6, .ref r7, .ref r8, .int n0, .int 0, .int n2, .int n3]))]) 0 0 := by
  refine zofW cX8_begin 3 none (by decide) rfl (Nat.le_of_ble_eq_true rfl) ?_
  intro p e s m below meth c A hx hb hr hml hts hown hlocks hname hK hA hZ hN H locs hw hS ls hl
  have hown : s.vm.findClass RX8 = some m.cls := hown
  have hl : lv_has ls 3 [(0, .ref h0), (1, .ref h1)] := hl
  have hiX2 : ∀ w ∈ wsX20, w ∈ wsX8_begin := by decide +kernel
  have hiX8 : ∀ w ∈ wsX80, w ∈ wsX8_begin := by decide +kernel
  refine lv_aload_n hx hb dX8_begin_0 rfl (lv_at hl 0 rfl) ?_
  refine lv_iconst (v := 0) hx hb dX8_begin_1 (by decide) ?_
  refine zput (D := D) (ci := 7) (v := .int 0) (ty := .int) hx hb hts hiX8 tyX8 tyX8_ok nmX8 hown hK hw hS 0 rfl rfl 5 (by decide) (hts (.fieldLink RX8 27 "BeardPass$Standing" "weeks" "I") (by decide +kernel)) (fun _ h9 => h9) rfl (by decide +kernel) rfl rfl (Nat.le_of_ble_eq_true rfl) dX8_begin_2 [(h0, .inr (7, [.ref a0, .ref a1, .ref a2, .ref a3, .ref a4, .int 0])), (h1, .inr (2, [.ref r0, .ref r1, .ref r2, .ref r3, .ref r4, .ref r5, .ref r6, .ref r7, .ref r8, .int n0, .int 0, .int n2, .int n3]))] rfl (fun H locs hw hS => ?_)
  refine lv_iconst (v := 0) hx hb dX8_begin_5 (by decide) ?_
  refine lv_istore_n (lv' := [(2, .int 0), (0, .ref h0), (1, .ref h1)]) hx hb dX8_begin_6 rfl hl (by decide) rfl (fun ls hl => ?_)
  refine lv_iload_n hx hb dX8_begin_7 rfl (lv_at hl 0 rfl) ?_
  refine lv_aload_n hx hb dX8_begin_8 rfl (lv_at hl 2 rfl) ?_
  refine va_get (D := D) (ci := 2) (v := .int 0) hx hb hts hiX2 hown hK hw.1 1 rfl rfl 10 (by decide) (hts (.fieldLink RX8 31 "BeardPass$Land" "persons" "I") (by decide +kernel)) (fun _ h9 => h9) rfl dX8_begin_9 ?_
  refine lv_icmp_ge (tgt := 78) hx hb dX8_begin_12 (by decide) (fun _ => ?_) (fun h => absurd (by decide) h)
  exact zvret hx hb hr hlocks () rfl (trivial) hw [0, 1] rfl (rfl) hS (Nat.le_of_ble_eq_true rfl) (Nat.le_of_ble_eq_true rfl) dX8_begin_78

set_option maxHeartbeats 4000000 in
set_option maxRecDepth 100000 in
/-- Standing.peopled by nobody -/
theorem c_X8_peopled (l : Launch) (D : va_G) (ct : Nat → ClassId) (h0 : Nat) (a0 : Nat) (a1 : Nat) (a2 : Nat) (a3 : Nat) (a4 : Nat) (w0 : Int32)  : zC l yX8_peopled wsX8_peopled ({ frames := 1, cells := 0, slots := 0, locals := 80 }) D ct [] [.ref h0, .int 0] [(h0, .inr (7, [.ref a0, .ref a1, .ref a2, .ref a3, .ref a4, .int w0]))] (S := Unit) (fun _ => some (.int 0)) (fun _ => True) (fun _ => [(h0, .inr (7, [.ref a0, .ref a1, .ref a2, .ref a3, .ref a4, .int w0]))]) 0 0 := by
  refine zofW cX8_peopled 4 (some .int) (by decide) rfl (Nat.le_of_ble_eq_true rfl) ?_
  intro p e s m below meth c A hx hb hr hml hts hown hlocks hname hK hA hZ hN H locs hw hS ls hl
  have hown : s.vm.findClass RX8 = some m.cls := hown
  have hl : lv_has ls 4 [(0, .ref h0), (1, .int 0)] := hl
  refine lv_iconst (v := 0) hx hb dX8_peopled_0 (by decide) ?_
  refine lv_istore_n (lv' := [(2, .int 0), (0, .ref h0), (1, .int 0)]) hx hb dX8_peopled_1 rfl hl (by decide) rfl (fun ls hl => ?_)
  refine lv_iconst (v := 0) hx hb dX8_peopled_2 (by decide) ?_
  refine lv_istore_n (lv' := [(3, .int 0), (2, .int 0), (0, .ref h0), (1, .int 0)]) hx hb dX8_peopled_3 rfl hl (by decide) rfl (fun ls hl => ?_)
  refine lv_iload_n hx hb dX8_peopled_4 rfl (lv_at hl 0 rfl) ?_
  refine lv_iload_n hx hb dX8_peopled_5 rfl (lv_at hl 3 rfl) ?_
  refine lv_icmp_ge (tgt := 26) hx hb dX8_peopled_6 (by decide) (fun _ => ?_) (fun h => absurd (by decide) h)
  refine lv_iload_n hx hb dX8_peopled_26 rfl (lv_at hl 1 rfl) ?_
  exact ziret hx hb hr (rfl) hlocks () (rfl) (trivial) hw [0] rfl (rfl) hS (Nat.le_of_ble_eq_true rfl) (Nat.le_of_ble_eq_true rfl) dX8_peopled_27

set_option maxHeartbeats 4000000 in
set_option maxRecDepth 100000 in
/-- mostAsked of no town -/
theorem c_X2_most (l : Launch) (D : va_G) (ct : Nat → ClassId) (h0 : Nat) (r0 : Nat) (r1 : Nat) (r2 : Nat) (r3 : Nat) (r4 : Nat) (r5 : Nat) (r6 : Nat) (r7 : Nat) (r8 : Nat) (n1 : Int32) (n2 : Int32) (n3 : Int32)  : zC l yX2_mostAsked wsX2_mostAsked ({ frames := 1, cells := 0, slots := 0, locals := 80 }) D ct [] [.ref h0] [(h0, .inr (2, [.ref r0, .ref r1, .ref r2, .ref r3, .ref r4, .ref r5, .ref r6, .ref r7, .ref r8, .int 0, .int n1, .int n2, .int n3]))] (S := Unit) (fun _ => some (.int 0)) (fun _ => True) (fun _ => [(h0, .inr (2, [.ref r0, .ref r1, .ref r2, .ref r3, .ref r4, .ref r5, .ref r6, .ref r7, .ref r8, .int 0, .int n1, .int n2, .int n3]))]) 0 0 := by
  refine zofW cX2_mostAsked 3 (some .int) (by decide) rfl (Nat.le_of_ble_eq_true rfl) ?_
  intro p e s m below meth c A hx hb hr hml hts hown hlocks hname hK hA hZ hN H locs hw hS ls hl
  have hown : s.vm.findClass RX2 = some m.cls := hown
  have hl : lv_has ls 3 [(0, .ref h0)] := hl
  have hiX2 : ∀ w ∈ wsX20, w ∈ wsX2_mostAsked := by decide +kernel
  refine lv_iconst (v := 0) hx hb dX2_mostAsked_0 (by decide) ?_
  refine lv_istore_n (lv' := [(1, .int 0), (0, .ref h0)]) hx hb dX2_mostAsked_1 rfl hl (by decide) rfl (fun ls hl => ?_)
  refine lv_iconst (v := 0) hx hb dX2_mostAsked_2 (by decide) ?_
  refine lv_istore_n (lv' := [(2, .int 0), (1, .int 0), (0, .ref h0)]) hx hb dX2_mostAsked_3 rfl hl (by decide) rfl (fun ls hl => ?_)
  refine lv_iload_n hx hb dX2_mostAsked_4 rfl (lv_at hl 0 rfl) ?_
  refine lv_aload_n hx hb dX2_mostAsked_5 rfl (lv_at hl 2 rfl) ?_
  refine va_get (D := D) (ci := 2) (v := .int 0) hx hb hts hiX2 hown hK hw.1 0 rfl rfl 9 (by decide) (hts (.fieldLink RX2 44 "BeardPass$Land" "towns" "I") (by decide +kernel)) (fun _ h9 => h9) rfl dX2_mostAsked_6 ?_
  refine lv_icmp_ge (tgt := 29) hx hb dX2_mostAsked_9 (by decide) (fun _ => ?_) (fun h => absurd (by decide) h)
  refine lv_iload_n hx hb dX2_mostAsked_29 rfl (lv_at hl 1 rfl) ?_
  exact ziret hx hb hr (rfl) hlocks () (rfl) (trivial) hw [0] rfl (rfl) hS (Nat.le_of_ble_eq_true rfl) (Nat.le_of_ble_eq_true rfl) dX2_mostAsked_30

set_option maxHeartbeats 4000000 in
set_option maxRecDepth 100000 in
/-- passWeek with nobody -/
theorem c_X0_pass (l : Launch) (D : va_G) (ct : Nat → ClassId) (h0 : Nat) (h1 : Nat) (h2 : Nat) (a0 : Nat) (a1 : Nat) (a2 : Nat) (a3 : Nat) (a4 : Nat) (w0 : Int32) (r0 : Nat) (r1 : Nat) (r2 : Nat) (r3 : Nat) (r4 : Nat) (r5 : Nat) (r6 : Nat) (r7 : Nat) (r8 : Nat) (n0 : Int32) (n2 : Int32) (n3 : Int32)  : zC l yX0_passWeek wsX0_passWeek ({ frames := 1, cells := 0, slots := 0, locals := 80 }) D ct [] [.ref h0, .ref h1] [(h0, .inr (0, [.ref h2])), (h1, .inr (7, [.ref a0, .ref a1, .ref a2, .ref a3, .ref a4, .int w0])), (h2, .inr (2, [.ref r0, .ref r1, .ref r2, .ref r3, .ref r4, .ref r5, .ref r6, .ref r7, .ref r8, .int n0, .int 0, .int n2, .int n3]))] (S := Unit) (fun _ => none) (fun _ => True) (fun _ => [(h0, .inr (0, [.ref h2])), (h1, .inr (7, [.ref a0, .ref a1, .ref a2, .ref a3, .ref a4, .int (w0 + 1)])), (h2, .inr (2, [.ref r0, .ref r1, .ref r2, .ref r3, .ref r4, .ref r5, .ref r6, .ref r7, .ref r8, .int n0, .int 0, .int n2, .int n3]))]) 0 0 := by
  refine zofW cX0_passWeek 4 none (by decide) rfl (Nat.le_of_ble_eq_true rfl) ?_
  intro p e s m below meth c A hx hb hr hml hts hown hlocks hname hK hA hZ hN H locs hw hS ls hl
  have hown : s.vm.findClass RX0 = some m.cls := hown
  have hl : lv_has ls 4 [(0, .ref h0), (1, .ref h1)] := hl
  have hiX0 : ∀ w ∈ wsX00, w ∈ wsX0_passWeek := by decide +kernel
  have hiX2 : ∀ w ∈ wsX20, w ∈ wsX0_passWeek := by decide +kernel
  have hiX8 : ∀ w ∈ wsX80, w ∈ wsX0_passWeek := by decide +kernel
  refine lv_aload_n hx hb dX0_passWeek_0 rfl (lv_at hl 1 rfl) ?_
  refine lv_dup hx hb dX0_passWeek_1 rfl ?_
  refine va_get (D := D) (ci := 7) (v := .int w0) hx hb hts hiX8 hown hK hw.1 1 rfl rfl 5 (by decide) (hts (.fieldLink RX0 36 "BeardPass$Standing" "weeks" "I") (by decide +kernel)) (fun _ h9 => h9) rfl dX0_passWeek_2 ?_
  refine lv_iconst (v := 1) hx hb dX0_passWeek_5 (by decide) ?_
  refine lv_iadd hx hb dX0_passWeek_6 ?_
  refine zput (D := D) (ci := 7) (v := .int (w0 + 1)) (ty := .int) hx hb hts hiX8 tyX8 tyX8_ok nmX8 hown hK hw hS 1 rfl rfl 5 (by decide) (hts (.fieldLink RX0 36 "BeardPass$Standing" "weeks" "I") (by decide +kernel)) (fun _ h9 => h9) rfl (by decide +kernel) rfl rfl (Nat.le_of_ble_eq_true rfl) dX0_passWeek_7 [(h0, .inr (0, [.ref h2])), (h1, .inr (7, [.ref a0, .ref a1, .ref a2, .ref a3, .ref a4, .int (w0 + 1)])), (h2, .inr (2, [.ref r0, .ref r1, .ref r2, .ref r3, .ref r4, .ref r5, .ref r6, .ref r7, .ref r8, .int n0, .int 0, .int n2, .int n3]))] rfl (fun H locs hw hS => ?_)
  refine lv_iconst (v := 0) hx hb dX0_passWeek_10 (by decide) ?_
  refine lv_istore_n (lv' := [(2, .int 0), (0, .ref h0), (1, .ref h1)]) hx hb dX0_passWeek_11 rfl hl (by decide) rfl (fun ls hl => ?_)
  refine lv_iload_n hx hb dX0_passWeek_12 rfl (lv_at hl 0 rfl) ?_
  refine lv_aload_n hx hb dX0_passWeek_13 rfl (lv_at hl 1 rfl) ?_
  refine va_get (D := D) (ci := 0) (v := .ref h2) hx hb hts hiX0 hown hK hw.1 0 rfl rfl 0 (by decide) (hts (.fieldLink RX0 9 "BeardPass$Frontier" "land" "LBeardPass$Land;") (by decide +kernel)) (fun _ h9 => h9) rfl dX0_passWeek_14 ?_
  refine va_get (D := D) (ci := 2) (v := .int 0) hx hb hts hiX2 hown hK hw.1 2 rfl rfl 10 (by decide) (hts (.fieldLink RX0 53 "BeardPass$Land" "persons" "I") (by decide +kernel)) (fun _ h9 => h9) rfl dX0_passWeek_17 ?_
  refine lv_icmp_ge (tgt := 69) hx hb dX0_passWeek_20 (by decide) (fun _ => ?_) (fun h => absurd (by decide) h)
  exact zvret hx hb hr hlocks () rfl (trivial) hw [0, 1, 2] rfl (rfl) hS (Nat.le_of_ble_eq_true rfl) (Nat.le_of_ble_eq_true rfl) dX0_passWeek_69

set_option maxHeartbeats 4000000 in
set_option maxRecDepth 100000 in
/-- sum over nobody -/
theorem c_sum11 (l : Launch) (D : va_G) (ct : Nat → ClassId) (h0 : Nat) (x : Nat → Nat) (h1 : Nat)  : zC l yX11_sum wsX11_sum ({ frames := 1, cells := 0, slots := 0, locals := 80 }) D ct [] [.ref h0, .ref h1] [(h0, .inr (10, [.ref (x 1), .ref (x 3), .ref (x 15), .ref (x 27), .ref (x 28), .ref (x 32), .ref (x 36), .ref (x 37), .ref (x 48), .ref (x 54), .ref (x 60), .ref (x 61), .ref (x 68), .int 0, .int 0])), (x 3, .inr (2, [.ref (x 4), .ref (x 5), .ref (x 6), .ref (x 7), .ref (x 8), .ref (x 9), .ref (x 10), .ref (x 11), .ref (x 12), .int 0, .int 0, .int 1, .int 2]))] (S := Unit) (fun _ => some (.int 0)) (fun _ => True) (fun _ => [(h0, .inr (10, [.ref (x 1), .ref (x 3), .ref (x 15), .ref (x 27), .ref (x 28), .ref (x 32), .ref (x 36), .ref (x 37), .ref (x 48), .ref (x 54), .ref (x 60), .ref (x 61), .ref (x 68), .int 0, .int 0])), (x 3, .inr (2, [.ref (x 4), .ref (x 5), .ref (x 6), .ref (x 7), .ref (x 8), .ref (x 9), .ref (x 10), .ref (x 11), .ref (x 12), .int 0, .int 0, .int 1, .int 2]))]) 0 0 := by
  refine zofW cX11_sum 4 (some .int) (by decide) rfl (Nat.le_of_ble_eq_true rfl) ?_
  intro p e s m below meth c A hx hb hr hml hts hown hlocks hname hK hA hZ hN H locs hw hS ls hl
  have hown : s.vm.findClass RX11 = some m.cls := hown
  have hl : lv_has ls 4 [(0, .ref h0), (1, .ref h1)] := hl
  have hiX11 : ∀ w ∈ wsX110, w ∈ wsX11_sum := by decide +kernel
  have hiX2 : ∀ w ∈ wsX20, w ∈ wsX11_sum := by decide +kernel
  refine lv_iconst (v := 0) hx hb dX11_sum_0 (by decide) ?_
  refine lv_istore_n (lv' := [(2, .int 0), (0, .ref h0), (1, .ref h1)]) hx hb dX11_sum_1 rfl hl (by decide) rfl (fun ls hl => ?_)
  refine lv_iconst (v := 0) hx hb dX11_sum_2 (by decide) ?_
  refine lv_istore_n (lv' := [(3, .int 0), (2, .int 0), (0, .ref h0), (1, .ref h1)]) hx hb dX11_sum_3 rfl hl (by decide) rfl (fun ls hl => ?_)
  refine lv_iload_n hx hb dX11_sum_4 rfl (lv_at hl 0 rfl) ?_
  refine lv_aload_n hx hb dX11_sum_5 rfl (lv_at hl 2 rfl) ?_
  refine va_get (D := D) (ci := 10) (v := .ref (x 3)) hx hb hts hiX11 hown hK hw.1 0 rfl rfl 1 (by decide) (hts (.fieldLink RX11 19 "BeardPass" "told" "LBeardPass$Land;") (by decide +kernel)) (fun _ h9 => h9) rfl dX11_sum_6 ?_
  refine va_get (D := D) (ci := 2) (v := .int 0) hx hb hts hiX2 hown hK hw.1 1 rfl rfl 10 (by decide) (hts (.fieldLink RX11 172 "BeardPass$Land" "persons" "I") (by decide +kernel)) (fun _ h9 => h9) rfl dX11_sum_9 ?_
  refine lv_icmp_ge (tgt := 33) hx hb dX11_sum_12 (by decide) (fun _ => ?_) (fun h => absurd (by decide) h)
  refine lv_iload_n hx hb dX11_sum_33 rfl (lv_at hl 1 rfl) ?_
  exact ziret hx hb hr (rfl) hlocks () (rfl) (trivial) hw [0, 1] rfl (rfl) hS (Nat.le_of_ble_eq_true rfl) (Nat.le_of_ble_eq_true rfl) dX11_sum_34

set_option maxHeartbeats 4000000 in
set_option maxRecDepth 100000 in
/-- forgetPast -/
theorem c_forget (l : Launch) (D : va_G) (ct : Nat → ClassId) (h0 : Nat) (x : Nat → Nat) (v0 : Int32) (v1 : Int32)  : zC l yX11_forgetPast wsX11_forgetPast ({ frames := 1, cells := 0, slots := 0, locals := 80 }) D ct [] [.ref h0] [(h0, .inr (10, [.ref (x 1), .ref (x 3), .ref (x 15), .ref (x 27), .ref (x 28), .ref (x 32), .ref (x 36), .ref (x 37), .ref (x 48), .ref (x 54), .ref (x 60), .ref (x 61), .ref (x 68), .int v0, .int v1]))] (S := Unit) (fun _ => none) (fun _ => True) (fun _ => [(h0, .inr (10, [.ref (x 1), .ref (x 3), .ref (x 15), .ref (x 27), .ref (x 28), .ref (x 32), .ref (x 36), .ref (x 37), .ref (x 48), .ref (x 54), .ref (x 60), .ref (x 61), .ref (x 68), .int 0, .int 0]))]) 0 0 := by
  refine zofW cX11_forgetPast 1 none (by decide) rfl (Nat.le_of_ble_eq_true rfl) ?_
  intro p e s m below meth c A hx hb hr hml hts hown hlocks hname hK hA hZ hN H locs hw hS ls hl
  have hown : s.vm.findClass RX11 = some m.cls := hown
  have hl : lv_has ls 1 [(0, .ref h0)] := hl
  have hiX11 : ∀ w ∈ wsX110, w ∈ wsX11_forgetPast := by decide +kernel
  refine lv_aload_n hx hb dX11_forgetPast_0 rfl (lv_at hl 0 rfl) ?_
  refine lv_iconst (v := 0) hx hb dX11_forgetPast_1 (by decide) ?_
  refine zput (D := D) (ci := 10) (v := .int 0) (ty := .int) hx hb hts hiX11 tyX11 tyX11_ok nmX11 hown hK hw hS 0 rfl rfl 13 (by decide) (hts (.fieldLink RX11 88 "BeardPass" "pastNext" "I") (by decide +kernel)) (fun _ h9 => h9) rfl (by decide +kernel) rfl rfl (Nat.le_of_ble_eq_true rfl) dX11_forgetPast_2 [(h0, .inr (10, [.ref (x 1), .ref (x 3), .ref (x 15), .ref (x 27), .ref (x 28), .ref (x 32), .ref (x 36), .ref (x 37), .ref (x 48), .ref (x 54), .ref (x 60), .ref (x 61), .ref (x 68), .int 0, .int v1]))] rfl (fun H locs hw hS => ?_)
  refine lv_aload_n hx hb dX11_forgetPast_5 rfl (lv_at hl 0 rfl) ?_
  refine lv_iconst (v := 0) hx hb dX11_forgetPast_6 (by decide) ?_
  refine zput (D := D) (ci := 10) (v := .int 0) (ty := .int) hx hb hts hiX11 tyX11 tyX11_ok nmX11 hown hK hw hS 0 rfl rfl 14 (by decide) (hts (.fieldLink RX11 92 "BeardPass" "pastCount" "I") (by decide +kernel)) (fun _ h9 => h9) rfl (by decide +kernel) rfl rfl (Nat.le_of_ble_eq_true rfl) dX11_forgetPast_7 [(h0, .inr (10, [.ref (x 1), .ref (x 3), .ref (x 15), .ref (x 27), .ref (x 28), .ref (x 32), .ref (x 36), .ref (x 37), .ref (x 48), .ref (x 54), .ref (x 60), .ref (x 61), .ref (x 68), .int 0, .int 0]))] rfl (fun H locs hw hS => ?_)
  exact zvret hx hb hr hlocks () rfl (trivial) hw [0] rfl (rfl) hS (Nat.le_of_ble_eq_true rfl) (Nat.le_of_ble_eq_true rfl) dX11_forgetPast_10

set_option maxHeartbeats 4000000 in
set_option maxRecDepth 100000 in
/-- of thirty-one ones -/
theorem c_J6_bitCount_0f7a4 (l : Launch) (D : va_G) (ct : Nat → ClassId)   : zC l yJ6_bitCount_0f7a4 wsJ6_bitCount_0f7a4 ({ frames := 1, cells := 0, slots := 0, locals := 80 }) D ct [] [.int 2147483647] [] (S := Unit) (fun _ => some (.int 31)) (fun _ => True) (fun _ => []) 0 0 := by
  refine zofW cJ6_bitCount_0f7a4 1 (some .int) (by decide) rfl (Nat.le_of_ble_eq_true rfl) ?_
  intro p e s m below meth c A hx hb hr hml hts hown hlocks hname hK hA hZ hN H locs hw hS ls hl
  have hown : s.vm.findClass RJ6 = some m.cls := hown
  have hl : lv_has ls 1 [(0, .int 2147483647)] := hl
  refine lv_iload_n hx hb dJ6_bitCount_0f7a4_0 rfl (lv_at hl 0 rfl) ?_
  refine lv_iload_n hx hb dJ6_bitCount_0f7a4_1 rfl (lv_at hl 0 rfl) ?_
  refine lv_iconst (v := 1) hx hb dJ6_bitCount_0f7a4_2 (by decide) ?_
  refine lv_iushr (v := 1073741823) hx hb dJ6_bitCount_0f7a4_3 (by decide) ?_
  refine lv_ldcw hx hb hown (hts (.constant RJ6 265 1431655765) (by decide +kernel)) dJ6_bitCount_0f7a4_4 ?_
  refine lv_iand hx hb dJ6_bitCount_0f7a4_7 ?_
  refine ztop (.int 357913941) (congrArg Value.int (by decide)) ?_
  refine lv_isub hx hb dJ6_bitCount_0f7a4_8 ?_
  refine ztop (.int 1789569706) (congrArg Value.int (by decide)) ?_
  refine lv_istore_n (lv' := [(0, .int 1789569706)]) hx hb dJ6_bitCount_0f7a4_9 rfl hl (by decide) rfl (fun ls hl => ?_)
  refine lv_iload_n hx hb dJ6_bitCount_0f7a4_10 rfl (lv_at hl 0 rfl) ?_
  refine lv_ldcw hx hb hown (hts (.constant RJ6 266 858993459) (by decide +kernel)) dJ6_bitCount_0f7a4_11 ?_
  refine lv_iand hx hb dJ6_bitCount_0f7a4_14 ?_
  refine ztop (.int 572662306) (congrArg Value.int (by decide)) ?_
  refine lv_iload_n hx hb dJ6_bitCount_0f7a4_15 rfl (lv_at hl 0 rfl) ?_
  refine lv_iconst (v := 2) hx hb dJ6_bitCount_0f7a4_16 (by decide) ?_
  refine lv_iushr (v := 447392426) hx hb dJ6_bitCount_0f7a4_17 (by decide) ?_
  refine lv_ldcw hx hb hown (hts (.constant RJ6 266 858993459) (by decide +kernel)) dJ6_bitCount_0f7a4_18 ?_
  refine lv_iand hx hb dJ6_bitCount_0f7a4_21 ?_
  refine ztop (.int 304226850) (congrArg Value.int (by decide)) ?_
  refine lv_iadd hx hb dJ6_bitCount_0f7a4_22 ?_
  refine ztop (.int 876889156) (congrArg Value.int (by decide)) ?_
  refine lv_istore_n (lv' := [(0, .int 876889156)]) hx hb dJ6_bitCount_0f7a4_23 rfl hl (by decide) rfl (fun ls hl => ?_)
  refine lv_iload_n hx hb dJ6_bitCount_0f7a4_24 rfl (lv_at hl 0 rfl) ?_
  refine lv_iload_n hx hb dJ6_bitCount_0f7a4_25 rfl (lv_at hl 0 rfl) ?_
  refine lv_iconst (v := 4) hx hb dJ6_bitCount_0f7a4_26 (by decide) ?_
  refine lv_iushr (v := 54805572) hx hb dJ6_bitCount_0f7a4_27 (by decide) ?_
  refine lv_iadd hx hb dJ6_bitCount_0f7a4_28 ?_
  refine ztop (.int 931694728) (congrArg Value.int (by decide)) ?_
  refine lv_ldcw hx hb hown (hts (.constant RJ6 267 252645135) (by decide +kernel)) dJ6_bitCount_0f7a4_29 ?_
  refine lv_iand hx hb dJ6_bitCount_0f7a4_32 ?_
  refine ztop (.int 117966856) (congrArg Value.int (by decide)) ?_
  refine lv_istore_n (lv' := [(0, .int 117966856)]) hx hb dJ6_bitCount_0f7a4_33 rfl hl (by decide) rfl (fun ls hl => ?_)
  refine lv_iload_n hx hb dJ6_bitCount_0f7a4_34 rfl (lv_at hl 0 rfl) ?_
  refine lv_iload_n hx hb dJ6_bitCount_0f7a4_35 rfl (lv_at hl 0 rfl) ?_
  refine lv_bipush (v := 8) hx hb dJ6_bitCount_0f7a4_36 (by decide) ?_
  refine lv_iushr (v := 460808) hx hb dJ6_bitCount_0f7a4_38 (by decide) ?_
  refine lv_iadd hx hb dJ6_bitCount_0f7a4_39 ?_
  refine ztop (.int 118427664) (congrArg Value.int (by decide)) ?_
  refine lv_istore_n (lv' := [(0, .int 118427664)]) hx hb dJ6_bitCount_0f7a4_40 rfl hl (by decide) rfl (fun ls hl => ?_)
  refine lv_iload_n hx hb dJ6_bitCount_0f7a4_41 rfl (lv_at hl 0 rfl) ?_
  refine lv_iload_n hx hb dJ6_bitCount_0f7a4_42 rfl (lv_at hl 0 rfl) ?_
  refine lv_bipush (v := 16) hx hb dJ6_bitCount_0f7a4_43 (by decide) ?_
  refine lv_iushr (v := 1807) hx hb dJ6_bitCount_0f7a4_45 (by decide) ?_
  refine lv_iadd hx hb dJ6_bitCount_0f7a4_46 ?_
  refine ztop (.int 118429471) (congrArg Value.int (by decide)) ?_
  refine lv_istore_n (lv' := [(0, .int 118429471)]) hx hb dJ6_bitCount_0f7a4_47 rfl hl (by decide) rfl (fun ls hl => ?_)
  refine lv_iload_n hx hb dJ6_bitCount_0f7a4_48 rfl (lv_at hl 0 rfl) ?_
  refine lv_bipush (v := 63) hx hb dJ6_bitCount_0f7a4_49 (by decide) ?_
  refine lv_iand hx hb dJ6_bitCount_0f7a4_51 ?_
  refine ztop (.int 31) (congrArg Value.int (by decide)) ?_
  exact ziret hx hb hr (rfl) hlocks () (rfl) (trivial) hw [] rfl (rfl) hS (Nat.le_of_ble_eq_true rfl) (Nat.le_of_ble_eq_true rfl) dJ6_bitCount_0f7a4_52

set_option maxHeartbeats 4000000 in
set_option maxRecDepth 100000 in
/-- of thirty-one ones -/
theorem c_J6_numberOfTrailingZeros_0f7a4 (l : Launch) (D : va_G) (ct : Nat → ClassId)   : zC l yJ6_numberOfTrailingZeros_0f7a4 wsJ6_numberOfTrailingZeros_0f7a4 ({ frames := 1, cells := 0, slots := 0, locals := 80 }) D ct [] [.int 2147483647] [] (S := Unit) (fun _ => some (.int 0)) (fun _ => True) (fun _ => []) 0 0 := by
  refine zofW cJ6_numberOfTrailingZeros_0f7a4 2 (some .int) (by decide) rfl (Nat.le_of_ble_eq_true rfl) ?_
  intro p e s m below meth c A hx hb hr hml hts hown hlocks hname hK hA hZ hN H locs hw hS ls hl
  have hown : s.vm.findClass RJ6 = some m.cls := hown
  have hl : lv_has ls 2 [(0, .int 2147483647)] := hl
  refine lv_iload_n hx hb dJ6_numberOfTrailingZeros_0f7a4_0 rfl (lv_at hl 0 rfl) ?_
  refine lv_iconst (v := (-1)) hx hb dJ6_numberOfTrailingZeros_0f7a4_1 (by decide) ?_
  refine lv_ixor hx hb dJ6_numberOfTrailingZeros_0f7a4_2 ?_
  refine ztop (.int (-2147483648)) (congrArg Value.int (by decide)) ?_
  refine lv_iload_n hx hb dJ6_numberOfTrailingZeros_0f7a4_3 rfl (lv_at hl 0 rfl) ?_
  refine lv_iconst (v := 1) hx hb dJ6_numberOfTrailingZeros_0f7a4_4 (by decide) ?_
  refine lv_isub hx hb dJ6_numberOfTrailingZeros_0f7a4_5 ?_
  refine ztop (.int 2147483646) (congrArg Value.int (by decide)) ?_
  refine lv_iand hx hb dJ6_numberOfTrailingZeros_0f7a4_6 ?_
  refine ztop (.int 0) (congrArg Value.int (by decide)) ?_
  refine lv_istore_n (lv' := [(0, .int 0)]) hx hb dJ6_numberOfTrailingZeros_0f7a4_7 rfl hl (by decide) rfl (fun ls hl => ?_)
  refine lv_iload_n hx hb dJ6_numberOfTrailingZeros_0f7a4_8 rfl (lv_at hl 0 rfl) ?_
  refine lv_if_gt (tgt := 17) hx hb dJ6_numberOfTrailingZeros_0f7a4_9 (by decide) (fun h => absurd h (by decide)) (fun _ => ?_)
  refine lv_iload_n hx hb dJ6_numberOfTrailingZeros_0f7a4_12 rfl (lv_at hl 0 rfl) ?_
  refine lv_bipush (v := 32) hx hb dJ6_numberOfTrailingZeros_0f7a4_13 (by decide) ?_
  refine lv_iand hx hb dJ6_numberOfTrailingZeros_0f7a4_15 ?_
  refine ztop (.int 0) (congrArg Value.int (by decide)) ?_
  exact ziret hx hb hr (rfl) hlocks () (rfl) (trivial) hw [] rfl (rfl) hS (Nat.le_of_ble_eq_true rfl) (Nat.le_of_ble_eq_true rfl) dJ6_numberOfTrailingZeros_0f7a4_16

set_option maxHeartbeats 4000000 in
set_option maxRecDepth 100000 in
/-- of thirty-one ones -/
theorem c_J6_numberOfLeadingZeros_0f7a4 (l : Launch) (D : va_G) (ct : Nat → ClassId)   : zC l yJ6_numberOfLeadingZeros_0f7a4 wsJ6_numberOfLeadingZeros_0f7a4 ({ frames := 1, cells := 0, slots := 0, locals := 80 }) D ct [] [.int 2147483647] [] (S := Unit) (fun _ => some (.int 1)) (fun _ => True) (fun _ => []) 0 0 := by
  refine zofW cJ6_numberOfLeadingZeros_0f7a4 2 (some .int) (by decide) rfl (Nat.le_of_ble_eq_true rfl) ?_
  intro p e s m below meth c A hx hb hr hml hts hown hlocks hname hK hA hZ hN H locs hw hS ls hl
  have hown : s.vm.findClass RJ6 = some m.cls := hown
  have hl : lv_has ls 2 [(0, .int 2147483647)] := hl
  refine lv_iload_n hx hb dJ6_numberOfLeadingZeros_0f7a4_0 rfl (lv_at hl 0 rfl) ?_
  refine lv_if_gt (tgt := 15) hx hb dJ6_numberOfLeadingZeros_0f7a4_1 (by decide) (fun _ => ?_) (fun h => absurd (by decide) h)
  refine lv_bipush (v := 31) hx hb dJ6_numberOfLeadingZeros_0f7a4_15 (by decide) ?_
  refine lv_istore_n (lv' := [(1, .int 31), (0, .int 2147483647)]) hx hb dJ6_numberOfLeadingZeros_0f7a4_17 rfl hl (by decide) rfl (fun ls hl => ?_)
  refine lv_iload_n hx hb dJ6_numberOfLeadingZeros_0f7a4_18 rfl (lv_at hl 1 rfl) ?_
  refine lv_ldcw hx hb hown (hts (.constant RJ6 264 65536) (by decide +kernel)) dJ6_numberOfLeadingZeros_0f7a4_19 ?_
  refine lv_icmp_lt (tgt := 33) hx hb dJ6_numberOfLeadingZeros_0f7a4_22 (by decide) (fun h => absurd h (by decide)) (fun _ => ?_)
  refine lv_iinc (v := 15) (lv' := [(1, .int 15), (0, .int 2147483647)]) hx hb dJ6_numberOfLeadingZeros_0f7a4_25 hl (k := 0) rfl (by decide) (by decide) rfl (fun ls hl => ?_)
  refine lv_iload_n hx hb dJ6_numberOfLeadingZeros_0f7a4_28 rfl (lv_at hl 1 rfl) ?_
  refine lv_bipush (v := 16) hx hb dJ6_numberOfLeadingZeros_0f7a4_29 (by decide) ?_
  refine lv_iushr (v := 32767) hx hb dJ6_numberOfLeadingZeros_0f7a4_31 (by decide) ?_
  refine lv_istore_n (lv' := [(0, .int 32767), (1, .int 15)]) hx hb dJ6_numberOfLeadingZeros_0f7a4_32 rfl hl (by decide) rfl (fun ls hl => ?_)
  refine lv_iload_n hx hb dJ6_numberOfLeadingZeros_0f7a4_33 rfl (lv_at hl 0 rfl) ?_
  refine lv_sipush (v := 256) hx hb dJ6_numberOfLeadingZeros_0f7a4_34 (by decide) ?_
  refine lv_icmp_lt (tgt := 48) hx hb dJ6_numberOfLeadingZeros_0f7a4_37 (by decide) (fun h => absurd h (by decide)) (fun _ => ?_)
  refine lv_iinc (v := 7) (lv' := [(1, .int 7), (0, .int 32767)]) hx hb dJ6_numberOfLeadingZeros_0f7a4_40 hl (k := 1) rfl (by decide) (by decide) rfl (fun ls hl => ?_)
  refine lv_iload_n hx hb dJ6_numberOfLeadingZeros_0f7a4_43 rfl (lv_at hl 1 rfl) ?_
  refine lv_bipush (v := 8) hx hb dJ6_numberOfLeadingZeros_0f7a4_44 (by decide) ?_
  refine lv_iushr (v := 127) hx hb dJ6_numberOfLeadingZeros_0f7a4_46 (by decide) ?_
  refine lv_istore_n (lv' := [(0, .int 127), (1, .int 7)]) hx hb dJ6_numberOfLeadingZeros_0f7a4_47 rfl hl (by decide) rfl (fun ls hl => ?_)
  refine lv_iload_n hx hb dJ6_numberOfLeadingZeros_0f7a4_48 rfl (lv_at hl 0 rfl) ?_
  refine lv_bipush (v := 16) hx hb dJ6_numberOfLeadingZeros_0f7a4_49 (by decide) ?_
  refine lv_icmp_lt (tgt := 61) hx hb dJ6_numberOfLeadingZeros_0f7a4_51 (by decide) (fun h => absurd h (by decide)) (fun _ => ?_)
  refine lv_iinc (v := 3) (lv' := [(1, .int 3), (0, .int 127)]) hx hb dJ6_numberOfLeadingZeros_0f7a4_54 hl (k := 1) rfl (by decide) (by decide) rfl (fun ls hl => ?_)
  refine lv_iload_n hx hb dJ6_numberOfLeadingZeros_0f7a4_57 rfl (lv_at hl 1 rfl) ?_
  refine lv_iconst (v := 4) hx hb dJ6_numberOfLeadingZeros_0f7a4_58 (by decide) ?_
  refine lv_iushr (v := 7) hx hb dJ6_numberOfLeadingZeros_0f7a4_59 (by decide) ?_
  refine lv_istore_n (lv' := [(0, .int 7), (1, .int 3)]) hx hb dJ6_numberOfLeadingZeros_0f7a4_60 rfl hl (by decide) rfl (fun ls hl => ?_)
  refine lv_iload_n hx hb dJ6_numberOfLeadingZeros_0f7a4_61 rfl (lv_at hl 0 rfl) ?_
  refine lv_iconst (v := 4) hx hb dJ6_numberOfLeadingZeros_0f7a4_62 (by decide) ?_
  refine lv_icmp_lt (tgt := 73) hx hb dJ6_numberOfLeadingZeros_0f7a4_63 (by decide) (fun h => absurd h (by decide)) (fun _ => ?_)
  refine lv_iinc (v := 1) (lv' := [(1, .int 1), (0, .int 7)]) hx hb dJ6_numberOfLeadingZeros_0f7a4_66 hl (k := 1) rfl (by decide) (by decide) rfl (fun ls hl => ?_)
  refine lv_iload_n hx hb dJ6_numberOfLeadingZeros_0f7a4_69 rfl (lv_at hl 1 rfl) ?_
  refine lv_iconst (v := 2) hx hb dJ6_numberOfLeadingZeros_0f7a4_70 (by decide) ?_
  refine lv_iushr (v := 1) hx hb dJ6_numberOfLeadingZeros_0f7a4_71 (by decide) ?_
  refine lv_istore_n (lv' := [(0, .int 1), (1, .int 1)]) hx hb dJ6_numberOfLeadingZeros_0f7a4_72 rfl hl (by decide) rfl (fun ls hl => ?_)
  refine lv_iload_n hx hb dJ6_numberOfLeadingZeros_0f7a4_73 rfl (lv_at hl 1 rfl) ?_
  refine lv_iload_n hx hb dJ6_numberOfLeadingZeros_0f7a4_74 rfl (lv_at hl 0 rfl) ?_
  refine lv_iconst (v := 1) hx hb dJ6_numberOfLeadingZeros_0f7a4_75 (by decide) ?_
  refine lv_iushr (v := 0) hx hb dJ6_numberOfLeadingZeros_0f7a4_76 (by decide) ?_
  refine lv_isub hx hb dJ6_numberOfLeadingZeros_0f7a4_77 ?_
  refine ztop (.int 1) (congrArg Value.int (by decide)) ?_
  exact ziret hx hb hr (rfl) hlocks () (rfl) (trivial) hw [] rfl (rfl) hS (Nat.le_of_ble_eq_true rfl) (Nat.le_of_ble_eq_true rfl) dJ6_numberOfLeadingZeros_0f7a4_78
