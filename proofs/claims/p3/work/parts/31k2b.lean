set_option maxHeartbeats 4000000 in
set_option maxRecDepth 100000 in
theorem kc_readPart5 (l : Launch) (D : va_G) (ct : Nat → ClassId) (E : Nat → Nat) (y : Nat → Nat) (r : zRr) (q : zRq) (hJ0 : kJ r) (hEi : kEi E) : cC l yX4_readPart (.code yX4_readPart cX4_readPart 6 (some .boolean) :: wsL_law0) ({ frames := 7, cells := 0, slots := 0, locals := 320 }) D ct E [.ref (y 192), .ref (y 196), .int 5] (kW ct E y r q) (S := Int32 × zRr × zRq) (fun u => some (.int u.1)) (fun u => zI 0 1 u.1 ∧ kJ u.2.1 ∧ zFr [196, 192, 193] r u.2.1 ∧ u = (Gk_readPart5 r q) ∧ True) (fun u => kW ct E y u.2.1 u.2.2) := by
  refine cofQ cX4_readPart 6 (some .boolean) (by decide) rfl (Nat.le_of_ble_eq_true rfl) ?_
  intro p e s m below meth c A a9 Q ha9 hx hb hr hml hts hown hlocks hname hK hA hZ hN hQ
  have hown : s.vm.findClass RX4 = some m.cls := hown
  have hiX9 : ∀ w ∈ wsX90, w ∈ .code yX4_readPart cX4_readPart 6 (some .boolean) :: wsL_law0 := fun _ h => ki (zs_wsX90 _ h)
  have lf36 := hts (.fieldLink RX4 36 "BeardPass$Tape" "sort" "LBeardPass$Sort;") (ki (zr18 17 rfl))
  have lf77 := hts (.fieldLink RX4 77 "BeardPass$Sort" "OPEN" "LBeardPass$Sort;") (ki (zr19 1 rfl))
  have lf80 := hts (.fieldLink RX4 80 "BeardPass$Sort" "NOT" "LBeardPass$Sort;") (ki (zr19 2 rfl))
  obtain ⟨X, hX⟩ : ∃ X, X = (Gk_readPart5 r q) := ⟨_, rfl⟩
  have cut66 : ∀ (w66_3 : Int32) (w66_4 : Int32) (w66_5 : Int32) (hw66_3 : zI 0 1 w66_3) (hw66_4 : zI 0 1 w66_4) (hE : X = Gk_readPart5_66 r q w66_3 w66_4 w66_5), zKf p l e ({ frames := 7, cells := 0, slots := 0, locals := 320 }) s m a9 below meth c Q D A 66 6 [] (kW ct E y r q) [(0, .ref (y 192)), (1, .ref (y 196)), (2, .int 5), (3, .int w66_3), (4, .int w66_4), (5, .int w66_5)] := by
    intro w66_3 w66_4 w66_5 hw66_3 hw66_4 hE H locs ls hw hS hl
    unfold Gk_readPart5_66 at hE
    refine lv_iload_n hx hb dX4_readPart_66 rfl (lv_at hl 2 rfl) ?_
    refine lv_iconst (v := 5) hx hb dX4_readPart_67 (by decide) ?_
    refine lv_icmp_lt (tgt := 77) hx hb dX4_readPart_68 (by decide) (fun h => absurd h (by decide)) (fun _ => ?_)
    refine lv_aload_n hx hb dX4_readPart_71 rfl (lv_at hl 1 rfl) ?_
    refine lv_iconst (v := 5) hx hb dX4_readPart_72 (by decide) ?_
    refine kcallV (As := [.int 5]) (rest := []) ⟨hx, hb, hml, hown, hts⟩ (kc_wrong l D ct E y (5 : Int32) r q hJ0 hEi) (wqX4_87_kc_wrong hts ⟨Nat.le_of_ble_eq_true rfl, Nat.le_of_ble_eq_true rfl⟩) hw hS hA hK hZ hN 8 196 rfl kg196 rfl hl.1 rfl (Nat.le_of_ble_eq_true rfl) dX4_readPart_73 76 rfl (fun u2 H locs pu2 hw hS => ?_)
    obtain ⟨v3, r4⟩ := u2
    have hv3 : zI 0 0 v3 := pu2.1
    have ju2 : kJ r4 := pu2.2.1
    have fu2 : zFr [196] r r4 := pu2.2.2.1
    have xu2 : (v3, r4) = (Gk_wrong (5 : Int32) r q) := pu2.2.2.2.1
    have hE := zc_vrE xu2 hE
    have hw : zPD D A (kW ct E y r4 q) H := hw
    refine zfr 76 [.int v3] rfl rfl ?_
    exact ziretQ hQ hx hb hr ((hv3.w (c := 0) (d := 1) (by decide)).rn) hlocks (v3, r4, q) rfl ⟨(hv3.w (c := 0) (d := 1) (by decide)), ju2, ((zFr.refl).tr fu2 rfl), (hE.symm.trans hX), trivial⟩ hw hS dX4_readPart_76
  have cut47 : ∀ (w47_3 : Int32) (w47_4 : Int32) (w47_s0 : Int32) (hw47_3 : zI 0 1 w47_3) (hw47_4 : zI 0 1 w47_4) (hE : X = Gk_readPart5_47 r q w47_3 w47_4 w47_s0), zKf p l e ({ frames := 7, cells := 0, slots := 0, locals := 320 }) s m a9 below meth c Q D A 47 6 [.int w47_s0] (kW ct E y r q) [(0, .ref (y 192)), (1, .ref (y 196)), (2, .int 5), (3, .int w47_3), (4, .int w47_4)] := by
    intro w47_3 w47_4 w47_s0 hw47_3 hw47_4 hE H locs ls hw hS hl
    unfold Gk_readPart5_47 at hE
    refine lv_istore (lv' := [(5, .int w47_s0), (0, .ref (y 192)), (1, .ref (y 196)), (2, .int 5), (3, .int w47_3), (4, .int w47_4)]) hx hb dX4_readPart_47 hl (by decide) rfl (fun ls hl => ?_)
    refine lv_iload_n hx hb dX4_readPart_49 rfl (lv_at hl 4 rfl) ?_
    refine lv_if_ne (tgt := 66) hx hb dX4_readPart_50 (by decide) (fun c5 => ?_) (fun c5 => ?_)
    · have hE := zifnT c5 hE
      have k6 : zI 1 1 (w47_3) := zI.neD c5 hw47_3 (zI.lit (a := 0) (b := 0) (c := 0) (by decide)) (by decide)
      exact cut66 w47_3 w47_4 w47_s0 (k6.w (c := 0) (d := 1) (by decide)) hw47_4 hE H locs ls hw hS (lv_sub hl [1, 2, 3, 4, 5, 0] rfl)
    · have hE := zifnF c5 hE
      have k7 : zI 0 0 (w47_3) := zI.eqq c5 (zI.lit (a := 0) (b := 0) (c := 0) (by decide))
      refine lv_iload hx hb dX4_readPart_53 (lv_at hl 0 rfl) ?_
      refine lv_bipush (v := (-13)) hx hb dX4_readPart_55 (by decide) ?_
      refine lv_icmp_ne (tgt := 66) hx hb dX4_readPart_57 (by decide) (fun c8 => ?_) (fun c8 => ?_)
      · have hE := zifnT c8 hE
        exact cut66 w47_3 w47_4 w47_s0 (k7.w (c := 0) (d := 1) (by decide)) hw47_4 hE H locs ls hw hS (lv_sub hl [1, 2, 3, 4, 5, 0] rfl)
      · have hE := zifnF c8 hE
        have k9 : zI (-13) (-13) (w47_s0) := zI.eqq c8 (zI.lit (a := (-13)) (b := (-13)) (c := (-13)) (by decide))
        refine lv_aload_n hx hb dX4_readPart_60 rfl (lv_at hl 2 rfl) ?_
        refine lv_iconst (v := 1) hx hb dX4_readPart_61 (by decide) ?_
        refine kcallV (As := [.int 1]) (rest := []) ⟨hx, hb, hml, hown, hts⟩ (kc_wrong l D ct E y (1 : Int32) r q hJ0 hEi) (wqX4_87_kc_wrong hts ⟨Nat.le_of_ble_eq_true rfl, Nat.le_of_ble_eq_true rfl⟩) hw hS hA hK hZ hN 8 196 rfl kg196 rfl hl.1 rfl (Nat.le_of_ble_eq_true rfl) dX4_readPart_62 65 rfl (fun u10 H locs pu10 hw hS => ?_)
        obtain ⟨v11, r12⟩ := u10
        have hv11 : zI 0 0 v11 := pu10.1
        have ju10 : kJ r12 := pu10.2.1
        have fu10 : zFr [196] r r12 := pu10.2.2.1
        have xu10 : (v11, r12) = (Gk_wrong (1 : Int32) r q) := pu10.2.2.2.1
        have hE := zc_vrE xu10 hE
        have hw : zPD D A (kW ct E y r12 q) H := hw
        refine zfr 65 [.int v11] rfl rfl ?_
        exact ziretQ hQ hx hb hr ((hv11.w (c := 0) (d := 1) (by decide)).rn) hlocks (v11, r12, q) rfl ⟨(hv11.w (c := 0) (d := 1) (by decide)), ju10, ((zFr.refl).tr fu10 rfl), (hE.symm.trans hX), trivial⟩ hw hS dX4_readPart_65
  have cut31 : ∀ (w31_3 : Int32) (w31_s0 : Int32) (hw31_3 : zI 0 1 w31_3) (hw31_s0 : zI 0 1 w31_s0) (hE : X = Gk_readPart5_31 r q w31_3 w31_s0), zKf p l e ({ frames := 7, cells := 0, slots := 0, locals := 320 }) s m a9 below meth c Q D A 31 6 [.int w31_s0] (kW ct E y r q) [(0, .ref (y 192)), (1, .ref (y 196)), (2, .int 5), (3, .int w31_3)] := by
    intro w31_3 w31_s0 hw31_3 hw31_s0 hE H locs ls hw hS hl
    unfold Gk_readPart5_31 at hE
    refine lv_istore (lv' := [(4, .int w31_s0), (0, .ref (y 192)), (1, .ref (y 196)), (2, .int 5), (3, .int w31_3)]) hx hb dX4_readPart_31 hl (by decide) rfl (fun ls hl => ?_)
    refine lv_iload hx hb dX4_readPart_33 (lv_at hl 0 rfl) ?_
    refine lv_if_eq (tgt := 43) hx hb dX4_readPart_35 (by decide) (fun c13 => ?_) (fun c13 => ?_)
    · have hE := zifT c13 hE
      have k14 : zI 0 0 (w31_s0) := zI.eqq c13 (zI.lit (a := 0) (b := 0) (c := 0) (by decide))
      refine lv_aload_n hx hb dX4_readPart_43 rfl (lv_at hl 2 rfl) ?_
      refine zcallW (va_runS (As := [.ref (y 196)]) (rest := []) ⟨hx, hb, hml, hown, hts⟩ (kc_valueHere l D ct E y r q hJ0 hEi H.size) (va_cwS 1 hts (kgS (zr19 4 rfl) (zr19 5 rfl) (zr4 12 rfl) (zr19 6 rfl)) rfl rfl rfl (by decide +kernel) ⟨Nat.le_of_ble_eq_true rfl, Nat.le_of_ble_eq_true rfl⟩) (cpreS hK hw hS hA hZ hN (List.range (kW ct E y r q).length) kWn (zrange _)) rfl rfl hl.1 rfl (lv_room (Nat.le_of_ble_eq_true rfl)) dX4_readPart_44 ⟨Nat.le_of_ble_eq_true rfl, Nat.le_of_ble_eq_true rfl⟩) hw hS hA 47 rfl (fun u15 H locs pu15 hw hS => ?_)
      have hu15 : zI (-2147483648) 2147483647 u15 := pu15.1
      have xu15 : u15 = (Gk_valueHere r q) := pu15.2.1
      have hE := zletE xu15 hE
      have hw : zPD D A (kW ct E y r q) H := hw
      refine zfr 47 [.int u15] rfl rfl ?_
      exact cut47 w31_3 w31_s0 u15 hw31_3 (k14.w (c := 0) (d := 1) (by decide)) hE H locs ls hw hS (lv_sub hl [1, 2, 3, 4, 0] rfl)
    · have hE := zifF c13 hE
      have k17 : zI 1 1 (w31_s0) := zI.neD c13 hw31_s0 (zI.lit (a := 0) (b := 0) (c := 0) (by decide)) (by decide)
      refine lv_bipush (v := (-5)) hx hb dX4_readPart_38 (by decide) ?_
      refine lv_goto (tgt := 47) hx hb dX4_readPart_40 (by decide) ?_
      exact cut47 w31_3 w31_s0 (-5) hw31_3 (k17.w (c := 0) (d := 1) (by decide)) hE H locs ls hw hS (lv_sub hl [1, 2, 3, 4, 0] rfl)
  have cut15 : ∀ (w15_s0 : Int32) (hw15_s0 : zI 0 1 w15_s0) (hE : X = Gk_readPart5_15 r q w15_s0), zKf p l e ({ frames := 7, cells := 0, slots := 0, locals := 320 }) s m a9 below meth c Q D A 15 6 [.int w15_s0] (kW ct E y r q) [(0, .ref (y 192)), (1, .ref (y 196)), (2, .int 5)] := by
    intro w15_s0 hw15_s0 hE H locs ls hw hS hl
    unfold Gk_readPart5_15 at hE
    refine lv_istore_n (lv' := [(3, .int w15_s0), (0, .ref (y 192)), (1, .ref (y 196)), (2, .int 5)]) hx hb dX4_readPart_15 rfl hl (by decide) rfl (fun ls hl => ?_)
    refine lv_aload_n hx hb dX4_readPart_16 rfl (lv_at hl 2 rfl) ?_
    refine va_get (D := D) (ci := 8) (v := .ref (E (zn (r 196 4)))) hx hb hts hiX9 hown hK hw.1 196 kg196 rfl 4 (by decide) lf36 (fun _ h9 => h9) rfl dX4_readPart_17 (cgenSE (show zI 0 32 (r 196 4) from hJ0.i 196 4) (fun v18 ev18 hv18 => ?_))
    have hE := zletE ev18 hE
    refine cgets 18 (by decide) hx hb hZ hS hown lf80 dX4_readPart_20 (ztop (.ref (E (zn 18))) rfl ?_)
    refine cxacmp_ne (a := v18) (b := (18 : Int32)) (tgt := 30) hEi hv18 ((zI.lit (a := 18) (b := 18) (c := 18) (by decide)).w (c := 0) (d := 32) (by decide)) hx hb dX4_readPart_23 (by decide) (fun c19 => ?_) (fun c19 => ?_)
    · have hE := zifnT c19 hE
      refine lv_iconst (v := 0) hx hb dX4_readPart_30 (by decide) ?_
      exact cut31 w15_s0 0 hw15_s0 ((zI.lit (a := 0) (b := 0) (c := 0) (by decide)).w (c := 0) (d := 1) (by decide)) hE H locs ls hw hS (lv_sub hl [1, 2, 3, 0] rfl)
    · have hE := zifnF c19 hE
      refine lv_iconst (v := 1) hx hb dX4_readPart_26 (by decide) ?_
      refine lv_goto (tgt := 31) hx hb dX4_readPart_27 (by decide) ?_
      exact cut31 w15_s0 1 hw15_s0 ((zI.lit (a := 1) (b := 1) (c := 1) (by decide)).w (c := 0) (d := 1) (by decide)) hE H locs ls hw hS (lv_sub hl [1, 2, 3, 0] rfl)
  intro H locs hw hS ls hl
  have hl : lv_has ls 6 [(0, .ref (y 192)), (1, .ref (y 196)), (2, .int 5)] := hl
  have hE := hX
  unfold Gk_readPart5 at hE
  refine lv_aload_n hx hb dX4_readPart_0 rfl (lv_at hl 1 rfl) ?_
  refine va_get (D := D) (ci := 8) (v := .ref (E (zn (r 196 4)))) hx hb hts hiX9 hown hK hw.1 196 kg196 rfl 4 (by decide) lf36 (fun _ h9 => h9) rfl dX4_readPart_1 (cgenSE (show zI 0 32 (r 196 4) from hJ0.i 196 4) (fun v20 ev20 hv20 => ?_))
  have hE := zletE ev20 hE
  refine cgets 21 (by decide) hx hb hZ hS hown lf77 dX4_readPart_4 (ztop (.ref (E (zn 21))) rfl ?_)
  refine cxacmp_ne (a := v20) (b := (21 : Int32)) (tgt := 14) hEi hv20 ((zI.lit (a := 21) (b := 21) (c := 21) (by decide)).w (c := 0) (d := 32) (by decide)) hx hb dX4_readPart_7 (by decide) (fun c21 => ?_) (fun c21 => ?_)
  · have hE := zifnT c21 hE
    refine lv_iconst (v := 0) hx hb dX4_readPart_14 (by decide) ?_
    exact cut15 0 ((zI.lit (a := 0) (b := 0) (c := 0) (by decide)).w (c := 0) (d := 1) (by decide)) hE H locs ls hw hS (lv_sub hl [0, 1, 2] rfl)
  · have hE := zifnF c21 hE
    refine lv_iconst (v := 1) hx hb dX4_readPart_10 (by decide) ?_
    refine lv_goto (tgt := 15) hx hb dX4_readPart_11 (by decide) ?_
    exact cut15 1 ((zI.lit (a := 1) (b := 1) (c := 1) (by decide)).w (c := 0) (d := 1) (by decide)) hE H locs ls hw hS (lv_sub hl [0, 1, 2] rfl)

set_option maxHeartbeats 4000000 in
set_option maxRecDepth 100000 in
theorem kc_readProduct5 (l : Launch) (D : va_G) (ct : Nat → ClassId) (E : Nat → Nat) (y : Nat → Nat) (r : zRr) (q : zRq) (hJ0 : kJ r) (hEi : kEi E) : cC l yX4_readProduct (.code yX4_readProduct cX4_readProduct 4 (some .boolean) :: wsL_law0) ({ frames := 8, cells := 0, slots := 0, locals := 360 }) D ct E [.ref (y 192), .ref (y 196), .int 5] (kW ct E y r q) (S := Int32 × zRr × zRq) (fun u => some (.int u.1)) (fun u => zI 0 1 u.1 ∧ kJ u.2.1 ∧ zFr [196, 192, 193] r u.2.1 ∧ u = (Gk_readProduct5 r q) ∧ True) (fun u => kW ct E y u.2.1 u.2.2) := by
  refine cofQ cX4_readProduct 4 (some .boolean) (by decide) rfl (Nat.le_of_ble_eq_true rfl) ?_
  intro p e s m below meth c A a9 Q ha9 hx hb hr hml hts hown hlocks hname hK hA hZ hN hQ
  have hown : s.vm.findClass RX4 = some m.cls := hown
  have hiX9 : ∀ w ∈ wsX90, w ∈ .code yX4_readProduct cX4_readProduct 4 (some .boolean) :: wsL_law0 := fun _ h => ki (zs_wsX90 _ h)
  have lf36 := hts (.fieldLink RX4 36 "BeardPass$Tape" "sort" "LBeardPass$Sort;") (ki (zr18 17 rfl))
  have lf74 := hts (.fieldLink RX4 74 "BeardPass$Sort" "TIMES" "LBeardPass$Sort;") (ki (zr19 18 rfl))
  obtain ⟨X, hX⟩ : ∃ X, X = (Gk_readProduct5 r q) := ⟨_, rfl⟩
  have cut13 : ∀ (n13 : Nat) (w13_3 : Int32) (rw13 : zRr) (qw13 : zRq) (hw13_3 : zI 0 1000 w13_3) (jw13 : kJ rw13) (fw13 : zFr [196, 192, 193] r rw13) (hE : X = Gk_readProduct5_13 n13 w13_3 rw13 qw13), 1000 - w13_3.toInt < (n13 : Int) → zKf p l e ({ frames := 8, cells := 0, slots := 0, locals := 360 }) s m a9 below meth c Q D A 13 4 [] (kW ct E y rw13 qw13) [(0, .ref (y 192)), (1, .ref (y 196)), (2, .int 5), (3, .int w13_3)] := by
    intro n13
    induction n13 with
    | zero => intro w13_3 rw13 qw13 hw13_3 jw13 fw13 hE hm13; exact zI.no hw13_3 (by decide) hm13
    | succ n13 ih13 =>
      intro w13_3 rw13 qw13 hw13_3 jw13 fw13 hE hm13
      have hE : X = Bk_readProduct5_13 (Gk_readProduct5_13 n13) w13_3 rw13 qw13 := hE
      unfold Bk_readProduct5_13 at hE
      intro H locs ls hw hS hl
      refine lv_iload_n hx hb dX4_readProduct_13 rfl (lv_at hl 3 rfl) ?_
      refine lv_sipush (v := 1000) hx hb dX4_readProduct_14 (by decide) ?_
      refine lv_icmp_ge (tgt := 57) hx hb dX4_readProduct_17 (by decide) (fun c1 => ?_) (fun c1 => ?_)
      · have hE := zifT c1 hE
        have k2 : zI 1000 1000 (w13_3) := zI.leD c1 (zI.lit (a := 1000) (b := 1000) (c := 1000) (by decide)) hw13_3 (by decide)
        refine lv_iconst (v := 1) hx hb dX4_readProduct_57 (by decide) ?_
        exact ziretQ hQ hx hb hr rfl hlocks ((1 : Int32), rw13, qw13) rfl ⟨((zI.lit (a := 1) (b := 1) (c := 1) (by decide)).w (c := 0) (d := 1) (by decide)), jw13, fw13, (hE.symm.trans hX), trivial⟩ hw hS dX4_readProduct_58
      · have hE := zifF c1 hE
        have k3 : zI 0 999 (w13_3) := zI.ltU (zI.nle c1) hw13_3 (zI.lit (a := 1000) (b := 1000) (c := 1000) (by decide)) (by decide)
        refine lv_aload_n hx hb dX4_readProduct_20 rfl (lv_at hl 1 rfl) ?_
        refine va_get (D := D) (ci := 8) (v := .ref (E (zn (rw13 196 4)))) hx hb hts hiX9 hown hK hw.1 196 kg196 rfl 4 (by decide) lf36 (fun _ h9 => h9) rfl dX4_readProduct_21 (cgenSE (show zI 0 32 (rw13 196 4) from jw13.i 196 4) (fun v4 ev4 hv4 => ?_))
        have hE := zletE ev4 hE
        refine cgets 27 (by decide) hx hb hZ hS hown lf74 dX4_readProduct_24 (ztop (.ref (E (zn 27))) rfl ?_)
        refine cxacmp_ne (a := v4) (b := (27 : Int32)) (tgt := 57) hEi hv4 ((zI.lit (a := 27) (b := 27) (c := 27) (by decide)).w (c := 0) (d := 32) (by decide)) hx hb dX4_readProduct_27 (by decide) (fun c5 => ?_) (fun c5 => ?_)
        · have hE := zifnT c5 hE
          refine lv_iconst (v := 1) hx hb dX4_readProduct_57 (by decide) ?_
          exact ziretQ hQ hx hb hr rfl hlocks ((1 : Int32), rw13, qw13) rfl ⟨((zI.lit (a := 1) (b := 1) (c := 1) (by decide)).w (c := 0) (d := 1) (by decide)), jw13, fw13, (hE.symm.trans hX), trivial⟩ hw hS dX4_readProduct_58
        · have hE := zifnF c5 hE
          refine lv_aload_n hx hb dX4_readProduct_30 rfl (lv_at hl 1 rfl) ?_
          refine kcallV (As := []) (rest := []) ⟨hx, hb, hml, hown, hts⟩ (kc_step l D ct E y rw13 qw13 jw13 hEi) (wqX4_50_kc_step hts ⟨Nat.le_of_ble_eq_true rfl, Nat.le_of_ble_eq_true rfl⟩) hw hS hA hK hZ hN 8 196 rfl kg196 rfl hl.1 rfl (Nat.le_of_ble_eq_true rfl) dX4_readProduct_31 34 rfl (fun u6 H locs pu6 hw hS => ?_)
          obtain ⟨r7, q8⟩ := u6
          have ju6 : kJ r7 := pu6.1
          have fu6 : zFr [196] rw13 r7 := pu6.2.1
          have xu6 : (r7, q8) = (Gk_step rw13 qw13) := pu6.2.2.1
          have hE := zc_rqE xu6 hE
          have hw : zPD D A (kW ct E y r7 q8) H := hw
          refine zfr 34 [] rfl rfl ?_
          refine lv_aload_n hx hb dX4_readProduct_34 rfl (lv_at hl 0 rfl) ?_
          refine lv_aload_n hx hb dX4_readProduct_35 rfl (lv_at hl 1 rfl) ?_
          refine lv_iload_n hx hb dX4_readProduct_36 rfl (lv_at hl 2 rfl) ?_
          refine kcallV (As := [.ref (y 196), .int 5]) (rest := []) ⟨hx, hb, hml, hown, hts⟩ (kc_readPart5 l D ct E y r7 q8 ju6 hEi) (wqX4_71_kc_readPart5 hts ⟨Nat.le_of_ble_eq_true rfl, Nat.le_of_ble_eq_true rfl⟩) hw hS hA hK hZ hN 4 192 rfl kg192 rfl hl.1 rfl (Nat.le_of_ble_eq_true rfl) dX4_readProduct_37 40 rfl (fun u9 H locs pu9 hw hS => ?_)
          obtain ⟨v10, r11, q12⟩ := u9
          have hv10 : zI 0 1 v10 := pu9.1
          have ju9 : kJ r11 := pu9.2.1
          have fu9 : zFr [196, 192, 193] r7 r11 := pu9.2.2.1
          have xu9 : (v10, r11, q12) = (Gk_readPart5 r7 q8) := pu9.2.2.2.1
          have hE := zc_vrqE xu9 hE
          have hw : zPD D A (kW ct E y r11 q12) H := hw
          refine zfr 40 [.int v10] rfl rfl ?_
          refine lv_if_ne (tgt := 45) hx hb dX4_readProduct_40 (by decide) (fun c13 => ?_) (fun c13 => ?_)
          · have hE := zifnT c13 hE
            have k14 : zI 1 1 (v10) := zI.neD c13 hv10 (zI.lit (a := 0) (b := 0) (c := 0) (by decide)) (by decide)
            refine lv_aload_n hx hb dX4_readProduct_45 rfl (lv_at hl 0 rfl) ?_
            refine lv_bipush (v := (-12)) hx hb dX4_readProduct_46 (by decide) ?_
            refine kcallV (As := [.int (-12)]) (rest := []) ⟨hx, hb, hml, hown, hts⟩ (kc_add l D ct E y ((-12) : Int32) r11 q12 ju9 hEi) (wqX4_22_kc_add hts ⟨Nat.le_of_ble_eq_true rfl, Nat.le_of_ble_eq_true rfl⟩) hw hS hA hK hZ hN 4 192 rfl kg192 rfl hl.1 rfl (Nat.le_of_ble_eq_true rfl) dX4_readProduct_48 51 rfl (fun u15 H locs pu15 hw hS => ?_)
            have ju15 : kJ u15 := pu15.1
            have fu15 : zFr [192, 193] r11 u15 := pu15.2.1
            have xu15 : u15 = (Gk_add ((-12) : Int32) r11 q12) := pu15.2.2.1
            have hE := zletE xu15 hE
            have hw : zPD D A (kW ct E y u15 q12) H := hw
            refine zfr 51 [] rfl rfl ?_
            refine lv_iinc (v := w13_3 + 1) (lv' := [(3, .int (w13_3 + 1)), (0, .ref (y 192)), (1, .ref (y 196)), (2, .int 5)]) hx hb dX4_readProduct_51 hl (k := 3) rfl (rfl) (by decide) rfl (fun ls hl => ?_)
            have k17 : zI 1 1000 (w13_3 + 1) := zI.add k3 (zI.lit (a := 1) (b := 1) (by decide)) (by decide)
            refine lv_goto (tgt := 13) hx hb dX4_readProduct_54 (by decide) ?_
            exact ih13 (w13_3 + 1) u15 q12 (k17.w (c := 0) (d := 1000) (by decide)) ju15 (((fw13.tr fu6 rfl).tr fu9 rfl).tr fu15 rfl) hE (zI.up k3 (by decide) hm13) H locs ls hw hS (lv_sub hl [1, 2, 3, 0] rfl)
          · have hE := zifnF c13 hE
            have k18 : zI 0 0 (v10) := zI.eqq c13 (zI.lit (a := 0) (b := 0) (c := 0) (by decide))
            refine lv_iconst (v := 0) hx hb dX4_readProduct_43 (by decide) ?_
            exact ziretQ hQ hx hb hr rfl hlocks ((0 : Int32), r11, q12) rfl ⟨((zI.lit (a := 0) (b := 0) (c := 0) (by decide)).w (c := 0) (d := 1) (by decide)), ju9, ((fw13.tr fu6 rfl).tr fu9 rfl), (hE.symm.trans hX), trivial⟩ hw hS dX4_readProduct_44
  intro H locs hw hS ls hl
  have hl : lv_has ls 4 [(0, .ref (y 192)), (1, .ref (y 196)), (2, .int 5)] := hl
  have hE := hX
  unfold Gk_readProduct5 at hE
  refine lv_aload_n hx hb dX4_readProduct_0 rfl (lv_at hl 0 rfl) ?_
  refine lv_aload_n hx hb dX4_readProduct_1 rfl (lv_at hl 1 rfl) ?_
  refine lv_iload_n hx hb dX4_readProduct_2 rfl (lv_at hl 2 rfl) ?_
  refine kcallV (As := [.ref (y 196), .int 5]) (rest := []) ⟨hx, hb, hml, hown, hts⟩ (kc_readPart5 l D ct E y r q hJ0 hEi) (wqX4_71_kc_readPart5 hts ⟨Nat.le_of_ble_eq_true rfl, Nat.le_of_ble_eq_true rfl⟩) hw hS hA hK hZ hN 4 192 rfl kg192 rfl hl.1 rfl (Nat.le_of_ble_eq_true rfl) dX4_readProduct_3 6 rfl (fun u19 H locs pu19 hw hS => ?_)
  obtain ⟨v20, r21, q22⟩ := u19
  have hv20 : zI 0 1 v20 := pu19.1
  have ju19 : kJ r21 := pu19.2.1
  have fu19 : zFr [196, 192, 193] r r21 := pu19.2.2.1
  have xu19 : (v20, r21, q22) = (Gk_readPart5 r q) := pu19.2.2.2.1
  have hE := zc_vrqE xu19 hE
  have hw : zPD D A (kW ct E y r21 q22) H := hw
  refine zfr 6 [.int v20] rfl rfl ?_
  refine lv_if_ne (tgt := 11) hx hb dX4_readProduct_6 (by decide) (fun c23 => ?_) (fun c23 => ?_)
  · have hE := zifnT c23 hE
    have k24 : zI 1 1 (v20) := zI.neD c23 hv20 (zI.lit (a := 0) (b := 0) (c := 0) (by decide)) (by decide)
    refine lv_iconst (v := 0) hx hb dX4_readProduct_11 (by decide) ?_
    refine lv_istore_n (lv' := [(3, .int 0), (0, .ref (y 192)), (1, .ref (y 196)), (2, .int 5)]) hx hb dX4_readProduct_12 rfl hl (by decide) rfl (fun ls hl => ?_)
    exact cut13 1001 0 r21 q22 ((zI.lit (a := 0) (b := 0) (c := 0) (by decide)).w (c := 0) (d := 1000) (by decide)) ju19 ((zFr.refl).tr fu19 rfl) hE (zI.m0 (zI.lit (a := 0) (b := 0) (c := 0) (by decide)) (by decide)) H locs ls hw hS (lv_sub hl [1, 2, 3, 0] rfl)
  · have hE := zifnF c23 hE
    have k25 : zI 0 0 (v20) := zI.eqq c23 (zI.lit (a := 0) (b := 0) (c := 0) (by decide))
    refine lv_iconst (v := 0) hx hb dX4_readProduct_9 (by decide) ?_
    exact ziretQ hQ hx hb hr rfl hlocks ((0 : Int32), r21, q22) rfl ⟨((zI.lit (a := 0) (b := 0) (c := 0) (by decide)).w (c := 0) (d := 1) (by decide)), ju19, ((zFr.refl).tr fu19 rfl), (hE.symm.trans hX), trivial⟩ hw hS dX4_readProduct_10

set_option maxHeartbeats 4000000 in
set_option maxRecDepth 100000 in
theorem kc_readSum5 (l : Launch) (D : va_G) (ct : Nat → ClassId) (E : Nat → Nat) (y : Nat → Nat) (r : zRr) (q : zRq) (hJ0 : kJ r) (hEi : kEi E) : cC l yX4_readSum (.code yX4_readSum cX4_readSum 5 (some .boolean) :: wsL_law0) ({ frames := 9, cells := 0, slots := 0, locals := 400 }) D ct E [.ref (y 192), .ref (y 196), .int 5] (kW ct E y r q) (S := Int32 × zRr × zRq) (fun u => some (.int u.1)) (fun u => zI 0 1 u.1 ∧ kJ u.2.1 ∧ zFr [196, 192, 193] r u.2.1 ∧ u = (Gk_readSum5 r q) ∧ True) (fun u => kW ct E y u.2.1 u.2.2) := by
  refine cofQ cX4_readSum 5 (some .boolean) (by decide) rfl (Nat.le_of_ble_eq_true rfl) ?_
  intro p e s m below meth c A a9 Q ha9 hx hb hr hml hts hown hlocks hname hK hA hZ hN hQ
  have hown : s.vm.findClass RX4 = some m.cls := hown
  have hiX9 : ∀ w ∈ wsX90, w ∈ .code yX4_readSum cX4_readSum 5 (some .boolean) :: wsL_law0 := fun _ h => ki (zs_wsX90 _ h)
  have lf36 := hts (.fieldLink RX4 36 "BeardPass$Tape" "sort" "LBeardPass$Sort;") (ki (zr18 17 rfl))
  have lf65 := hts (.fieldLink RX4 65 "BeardPass$Sort" "PLUS" "LBeardPass$Sort;") (ki (zr19 20 rfl))
  have lf68 := hts (.fieldLink RX4 68 "BeardPass$Sort" "MINUS" "LBeardPass$Sort;") (ki (zr19 21 rfl))
  obtain ⟨X, hX⟩ : ∃ X, X = (Gk_readSum5 r q) := ⟨_, rfl⟩
  have cut13 : ∀ (n13 : Nat) (w13_3 : Int32) (rw13 : zRr) (qw13 : zRq) (hw13_3 : zI 0 1000 w13_3) (jw13 : kJ rw13) (fw13 : zFr [196, 192, 193] r rw13) (hE : X = Gk_readSum5_13 n13 w13_3 rw13 qw13), 1000 - w13_3.toInt < (n13 : Int) → zKf p l e ({ frames := 9, cells := 0, slots := 0, locals := 400 }) s m a9 below meth c Q D A 13 5 [] (kW ct E y rw13 qw13) [(0, .ref (y 192)), (1, .ref (y 196)), (2, .int 5), (3, .int w13_3)] := by
    intro n13
    induction n13 with
    | zero => intro w13_3 rw13 qw13 hw13_3 jw13 fw13 hE hm13; exact zI.no hw13_3 (by decide) hm13
    | succ n13 ih13 =>
      intro w13_3 rw13 qw13 hw13_3 jw13 fw13 hE hm13
      have hE : X = Bk_readSum5_13 (Gk_readSum5_13 n13) w13_3 rw13 qw13 := hE
      unfold Bk_readSum5_13 at hE
      have cut57 : ∀ (w57_s0 : Int32) (hw57_3 : zI 0 999 w13_3) (hw57_s0 : zI (-11) (-2) w57_s0) (hE : X = Gk_readSum5_57 w13_3 rw13 qw13 (Gk_readSum5_13 n13) w57_s0), zKf p l e ({ frames := 9, cells := 0, slots := 0, locals := 400 }) s m a9 below meth c Q D A 57 5 [.int w57_s0] (kW ct E y rw13 qw13) [(0, .ref (y 192)), (1, .ref (y 196)), (2, .int 5), (3, .int w13_3)] := by
        intro w57_s0 hw57_3 hw57_s0 hE H locs ls hw hS hl
        unfold Gk_readSum5_57 at hE
        refine lv_istore (lv' := [(4, .int w57_s0), (0, .ref (y 192)), (1, .ref (y 196)), (2, .int 5), (3, .int w13_3)]) hx hb dX4_readSum_57 hl (by decide) rfl (fun ls hl => ?_)
        refine lv_aload_n hx hb dX4_readSum_59 rfl (lv_at hl 2 rfl) ?_
        refine kcallV (As := []) (rest := []) ⟨hx, hb, hml, hown, hts⟩ (kc_step l D ct E y rw13 qw13 jw13 hEi) (wqX4_50_kc_step hts ⟨Nat.le_of_ble_eq_true rfl, Nat.le_of_ble_eq_true rfl⟩) hw hS hA hK hZ hN 8 196 rfl kg196 rfl hl.1 rfl (Nat.le_of_ble_eq_true rfl) dX4_readSum_60 63 rfl (fun u1 H locs pu1 hw hS => ?_)
        obtain ⟨r2, q3⟩ := u1
        have ju1 : kJ r2 := pu1.1
        have fu1 : zFr [196] rw13 r2 := pu1.2.1
        have xu1 : (r2, q3) = (Gk_step rw13 qw13) := pu1.2.2.1
        have hE := zc_rqE xu1 hE
        have hw : zPD D A (kW ct E y r2 q3) H := hw
        refine zfr 63 [] rfl rfl ?_
        refine lv_aload_n hx hb dX4_readSum_63 rfl (lv_at hl 1 rfl) ?_
        refine lv_aload_n hx hb dX4_readSum_64 rfl (lv_at hl 2 rfl) ?_
        refine lv_iload_n hx hb dX4_readSum_65 rfl (lv_at hl 3 rfl) ?_
        refine kcallV (As := [.ref (y 196), .int 5]) (rest := []) ⟨hx, hb, hml, hown, hts⟩ (kc_readProduct5 l D ct E y r2 q3 ju1 hEi) (wqX4_62_kc_readProduct5 hts ⟨Nat.le_of_ble_eq_true rfl, Nat.le_of_ble_eq_true rfl⟩) hw hS hA hK hZ hN 4 192 rfl kg192 rfl hl.1 rfl (Nat.le_of_ble_eq_true rfl) dX4_readSum_66 69 rfl (fun u4 H locs pu4 hw hS => ?_)
        obtain ⟨v5, r6, q7⟩ := u4
        have hv5 : zI 0 1 v5 := pu4.1
        have ju4 : kJ r6 := pu4.2.1
        have fu4 : zFr [196, 192, 193] r2 r6 := pu4.2.2.1
        have xu4 : (v5, r6, q7) = (Gk_readProduct5 r2 q3) := pu4.2.2.2.1
        have hE := zc_vrqE xu4 hE
        have hw : zPD D A (kW ct E y r6 q7) H := hw
        refine zfr 69 [.int v5] rfl rfl ?_
        refine lv_if_ne (tgt := 74) hx hb dX4_readSum_69 (by decide) (fun c8 => ?_) (fun c8 => ?_)
        · have hE := zifnT c8 hE
          have k9 : zI 1 1 (v5) := zI.neD c8 hv5 (zI.lit (a := 0) (b := 0) (c := 0) (by decide)) (by decide)
          refine lv_aload_n hx hb dX4_readSum_74 rfl (lv_at hl 1 rfl) ?_
          refine lv_iload hx hb dX4_readSum_75 (lv_at hl 0 rfl) ?_
          refine kcallV (As := [.int w57_s0]) (rest := []) ⟨hx, hb, hml, hown, hts⟩ (kc_add l D ct E y w57_s0 r6 q7 ju4 hEi) (wqX4_22_kc_add hts ⟨Nat.le_of_ble_eq_true rfl, Nat.le_of_ble_eq_true rfl⟩) hw hS hA hK hZ hN 4 192 rfl kg192 rfl hl.1 rfl (Nat.le_of_ble_eq_true rfl) dX4_readSum_77 80 rfl (fun u10 H locs pu10 hw hS => ?_)
          have ju10 : kJ u10 := pu10.1
          have fu10 : zFr [192, 193] r6 u10 := pu10.2.1
          have xu10 : u10 = (Gk_add w57_s0 r6 q7) := pu10.2.2.1
          have hE := zletE xu10 hE
          have hw : zPD D A (kW ct E y u10 q7) H := hw
          refine zfr 80 [] rfl rfl ?_
          refine lv_iinc (v := w13_3 + 1) (lv' := [(3, .int (w13_3 + 1)), (4, .int w57_s0), (0, .ref (y 192)), (1, .ref (y 196)), (2, .int 5)]) hx hb dX4_readSum_80 hl (k := 4) rfl (rfl) (by decide) rfl (fun ls hl => ?_)
          have k12 : zI 1 1000 (w13_3 + 1) := zI.add hw57_3 (zI.lit (a := 1) (b := 1) (by decide)) (by decide)
          refine lv_goto (tgt := 13) hx hb dX4_readSum_83 (by decide) ?_
          exact ih13 (w13_3 + 1) u10 q7 (k12.w (c := 0) (d := 1000) (by decide)) ju10 (((fw13.tr fu1 rfl).tr fu4 rfl).tr fu10 rfl) hE (zI.up hw57_3 (by decide) hm13) H locs ls hw hS (lv_sub hl [2, 3, 4, 0] rfl)
        · have hE := zifnF c8 hE
          have k13 : zI 0 0 (v5) := zI.eqq c8 (zI.lit (a := 0) (b := 0) (c := 0) (by decide))
          refine lv_iconst (v := 0) hx hb dX4_readSum_72 (by decide) ?_
          exact ziretQ hQ hx hb hr rfl hlocks ((0 : Int32), r6, q7) rfl ⟨((zI.lit (a := 0) (b := 0) (c := 0) (by decide)).w (c := 0) (d := 1) (by decide)), ju4, ((fw13.tr fu1 rfl).tr fu4 rfl), (hE.symm.trans hX), trivial⟩ hw hS dX4_readSum_73
      have cut40 : ∀ (hw40_3 : zI 0 999 w13_3) (hE : X = Gk_readSum5_40 w13_3 rw13 qw13 (Gk_readSum5_13 n13) ), zKf p l e ({ frames := 9, cells := 0, slots := 0, locals := 400 }) s m a9 below meth c Q D A 40 5 [] (kW ct E y rw13 qw13) [(0, .ref (y 192)), (1, .ref (y 196)), (2, .int 5), (3, .int w13_3)] := by
        intro hw40_3 hE H locs ls hw hS hl
        unfold Gk_readSum5_40 at hE
        refine lv_aload_n hx hb dX4_readSum_40 rfl (lv_at hl 1 rfl) ?_
        refine va_get (D := D) (ci := 8) (v := .ref (E (zn (rw13 196 4)))) hx hb hts hiX9 hown hK hw.1 196 kg196 rfl 4 (by decide) lf36 (fun _ h9 => h9) rfl dX4_readSum_41 (cgenSE (show zI 0 32 (rw13 196 4) from jw13.i 196 4) (fun v14 ev14 hv14 => ?_))
        have hE := zletE ev14 hE
        refine cgets 25 (by decide) hx hb hZ hS hown lf65 dX4_readSum_44 (ztop (.ref (E (zn 25))) rfl ?_)
        refine cxacmp_ne (a := v14) (b := (25 : Int32)) (tgt := 55) hEi hv14 ((zI.lit (a := 25) (b := 25) (c := 25) (by decide)).w (c := 0) (d := 32) (by decide)) hx hb dX4_readSum_47 (by decide) (fun c15 => ?_) (fun c15 => ?_)
        · have hE := zifnT c15 hE
          refine lv_bipush (v := (-11)) hx hb dX4_readSum_55 (by decide) ?_
          exact cut57 (-11) hw40_3 ((zI.lit (a := (-11)) (b := (-11)) (c := (-11)) (by decide)).w (c := (-11)) (d := (-2)) (by decide)) hE H locs ls hw hS (lv_sub hl [0, 1, 2, 3] rfl)
        · have hE := zifnF c15 hE
          refine lv_bipush (v := (-10)) hx hb dX4_readSum_50 (by decide) ?_
          refine lv_goto (tgt := 57) hx hb dX4_readSum_52 (by decide) ?_
          exact cut57 (-10) hw40_3 ((zI.lit (a := (-10)) (b := (-10)) (c := (-10)) (by decide)).w (c := (-11)) (d := (-2)) (by decide)) hE H locs ls hw hS (lv_sub hl [0, 1, 2, 3] rfl)
      intro H locs ls hw hS hl
      refine lv_iload_n hx hb dX4_readSum_13 rfl (lv_at hl 3 rfl) ?_
      refine lv_sipush (v := 1000) hx hb dX4_readSum_14 (by decide) ?_
      refine lv_icmp_ge (tgt := 86) hx hb dX4_readSum_17 (by decide) (fun c16 => ?_) (fun c16 => ?_)
      · have hE := zifT c16 hE
        have k17 : zI 1000 1000 (w13_3) := zI.leD c16 (zI.lit (a := 1000) (b := 1000) (c := 1000) (by decide)) hw13_3 (by decide)
        refine lv_iconst (v := 1) hx hb dX4_readSum_86 (by decide) ?_
        exact ziretQ hQ hx hb hr rfl hlocks ((1 : Int32), rw13, qw13) rfl ⟨((zI.lit (a := 1) (b := 1) (c := 1) (by decide)).w (c := 0) (d := 1) (by decide)), jw13, fw13, (hE.symm.trans hX), trivial⟩ hw hS dX4_readSum_87
      · have hE := zifF c16 hE
        have k18 : zI 0 999 (w13_3) := zI.ltU (zI.nle c16) hw13_3 (zI.lit (a := 1000) (b := 1000) (c := 1000) (by decide)) (by decide)
        refine lv_aload_n hx hb dX4_readSum_20 rfl (lv_at hl 1 rfl) ?_
        refine va_get (D := D) (ci := 8) (v := .ref (E (zn (rw13 196 4)))) hx hb hts hiX9 hown hK hw.1 196 kg196 rfl 4 (by decide) lf36 (fun _ h9 => h9) rfl dX4_readSum_21 (cgenSE (show zI 0 32 (rw13 196 4) from jw13.i 196 4) (fun v19 ev19 hv19 => ?_))
        have hE := zletE ev19 hE
        refine cgets 25 (by decide) hx hb hZ hS hown lf65 dX4_readSum_24 (ztop (.ref (E (zn 25))) rfl ?_)
        refine cxacmp_eq (a := v19) (b := (25 : Int32)) (tgt := 40) hEi hv19 ((zI.lit (a := 25) (b := 25) (c := 25) (by decide)).w (c := 0) (d := 32) (by decide)) hx hb dX4_readSum_27 (by decide) (fun c20 => ?_) (fun c20 => ?_)
        · have hE := zifT c20 hE
          exact cut40 k18 hE H locs ls hw hS (lv_sub hl [0, 1, 2, 3] rfl)
        · have hE := zifF c20 hE
          refine lv_aload_n hx hb dX4_readSum_30 rfl (lv_at hl 1 rfl) ?_
          refine va_get (D := D) (ci := 8) (v := .ref (E (zn (rw13 196 4)))) hx hb hts hiX9 hown hK hw.1 196 kg196 rfl 4 (by decide) lf36 (fun _ h9 => h9) rfl dX4_readSum_31 (cgenSE (show zI 0 32 (rw13 196 4) from jw13.i 196 4) (fun v21 ev21 hv21 => ?_))
          have hE := zletE ev21 hE
          refine cgets 26 (by decide) hx hb hZ hS hown lf68 dX4_readSum_34 (ztop (.ref (E (zn 26))) rfl ?_)
          refine cxacmp_ne (a := v21) (b := (26 : Int32)) (tgt := 86) hEi hv21 ((zI.lit (a := 26) (b := 26) (c := 26) (by decide)).w (c := 0) (d := 32) (by decide)) hx hb dX4_readSum_37 (by decide) (fun c22 => ?_) (fun c22 => ?_)
          · have hE := zifnT c22 hE
            refine lv_iconst (v := 1) hx hb dX4_readSum_86 (by decide) ?_
            exact ziretQ hQ hx hb hr rfl hlocks ((1 : Int32), rw13, qw13) rfl ⟨((zI.lit (a := 1) (b := 1) (c := 1) (by decide)).w (c := 0) (d := 1) (by decide)), jw13, fw13, (hE.symm.trans hX), trivial⟩ hw hS dX4_readSum_87
          · have hE := zifnF c22 hE
            exact cut40 k18 hE H locs ls hw hS (lv_sub hl [0, 1, 2, 3] rfl)
  intro H locs hw hS ls hl
  have hl : lv_has ls 5 [(0, .ref (y 192)), (1, .ref (y 196)), (2, .int 5)] := hl
  have hE := hX
  unfold Gk_readSum5 at hE
  refine lv_aload_n hx hb dX4_readSum_0 rfl (lv_at hl 0 rfl) ?_
  refine lv_aload_n hx hb dX4_readSum_1 rfl (lv_at hl 1 rfl) ?_
  refine lv_iload_n hx hb dX4_readSum_2 rfl (lv_at hl 2 rfl) ?_
  refine kcallV (As := [.ref (y 196), .int 5]) (rest := []) ⟨hx, hb, hml, hown, hts⟩ (kc_readProduct5 l D ct E y r q hJ0 hEi) (wqX4_62_kc_readProduct5 hts ⟨Nat.le_of_ble_eq_true rfl, Nat.le_of_ble_eq_true rfl⟩) hw hS hA hK hZ hN 4 192 rfl kg192 rfl hl.1 rfl (Nat.le_of_ble_eq_true rfl) dX4_readSum_3 6 rfl (fun u23 H locs pu23 hw hS => ?_)
  obtain ⟨v24, r25, q26⟩ := u23
  have hv24 : zI 0 1 v24 := pu23.1
  have ju23 : kJ r25 := pu23.2.1
  have fu23 : zFr [196, 192, 193] r r25 := pu23.2.2.1
  have xu23 : (v24, r25, q26) = (Gk_readProduct5 r q) := pu23.2.2.2.1
  have hE := zc_vrqE xu23 hE
  have hw : zPD D A (kW ct E y r25 q26) H := hw
  refine zfr 6 [.int v24] rfl rfl ?_
  refine lv_if_ne (tgt := 11) hx hb dX4_readSum_6 (by decide) (fun c27 => ?_) (fun c27 => ?_)
  · have hE := zifnT c27 hE
    have k28 : zI 1 1 (v24) := zI.neD c27 hv24 (zI.lit (a := 0) (b := 0) (c := 0) (by decide)) (by decide)
    refine lv_iconst (v := 0) hx hb dX4_readSum_11 (by decide) ?_
    refine lv_istore_n (lv' := [(3, .int 0), (0, .ref (y 192)), (1, .ref (y 196)), (2, .int 5)]) hx hb dX4_readSum_12 rfl hl (by decide) rfl (fun ls hl => ?_)
    exact cut13 1001 0 r25 q26 ((zI.lit (a := 0) (b := 0) (c := 0) (by decide)).w (c := 0) (d := 1000) (by decide)) ju23 ((zFr.refl).tr fu23 rfl) hE (zI.m0 (zI.lit (a := 0) (b := 0) (c := 0) (by decide)) (by decide)) H locs ls hw hS (lv_sub hl [1, 2, 3, 0] rfl)
  · have hE := zifnF c27 hE
    have k29 : zI 0 0 (v24) := zI.eqq c27 (zI.lit (a := 0) (b := 0) (c := 0) (by decide))
    refine lv_iconst (v := 0) hx hb dX4_readSum_9 (by decide) ?_
    exact ziretQ hQ hx hb hr rfl hlocks ((0 : Int32), r25, q26) rfl ⟨((zI.lit (a := 0) (b := 0) (c := 0) (by decide)).w (c := 0) (d := 1) (by decide)), ju23, ((zFr.refl).tr fu23 rfl), (hE.symm.trans hX), trivial⟩ hw hS dX4_readSum_10

set_option maxHeartbeats 4000000 in
set_option maxRecDepth 100000 in
theorem kc_readTest5 (l : Launch) (D : va_G) (ct : Nat → ClassId) (E : Nat → Nat) (y : Nat → Nat) (r : zRr) (q : zRq) (hJ0 : kJ r) (hEi : kEi E) : cC l yX4_readTest (.code yX4_readTest cX4_readTest 4 (some .boolean) :: wsL_law0) ({ frames := 10, cells := 0, slots := 0, locals := 440 }) D ct E [.ref (y 192), .ref (y 196), .int 5] (kW ct E y r q) (S := Int32 × zRr × zRq) (fun u => some (.int u.1)) (fun u => zI 0 1 u.1 ∧ kJ u.2.1 ∧ zFr [196, 192, 193] r u.2.1 ∧ u = (Gk_readTest5 r q) ∧ True) (fun u => kW ct E y u.2.1 u.2.2) := by
  refine cofQ cX4_readTest 4 (some .boolean) (by decide) rfl (Nat.le_of_ble_eq_true rfl) ?_
  intro p e s m below meth c A a9 Q ha9 hx hb hr hml hts hown hlocks hname hK hA hZ hN hQ
  have hown : s.vm.findClass RX4 = some m.cls := hown
  have hiX9 : ∀ w ∈ wsX90, w ∈ .code yX4_readTest cX4_readTest 4 (some .boolean) :: wsL_law0 := fun _ h => ki (zs_wsX90 _ h)
  have lf36 := hts (.fieldLink RX4 36 "BeardPass$Tape" "sort" "LBeardPass$Sort;") (ki (zr18 17 rfl))
  have lf56 := hts (.fieldLink RX4 56 "BeardPass$Sort" "LESS" "LBeardPass$Sort;") (ki (zr20 2 rfl))
  have lf59 := hts (.fieldLink RX4 59 "BeardPass$Sort" "SAME" "LBeardPass$Sort;") (ki (zr20 3 rfl))
  obtain ⟨X, hX⟩ : ∃ X, X = (Gk_readTest5 r q) := ⟨_, rfl⟩
  have cut50 : ∀ (w50_s0 : Int32) (rw50 : zRr) (qw50 : zRq) (hw50_s0 : zI (-9) (-2) w50_s0) (jw50 : kJ rw50) (fw50 : zFr [196, 192, 193] r rw50) (hE : X = Gk_readTest5_50 w50_s0 rw50 qw50), zKf p l e ({ frames := 10, cells := 0, slots := 0, locals := 440 }) s m a9 below meth c Q D A 50 4 [.int w50_s0] (kW ct E y rw50 qw50) [(0, .ref (y 192)), (1, .ref (y 196)), (2, .int 5)] := by
    intro w50_s0 rw50 qw50 hw50_s0 jw50 fw50 hE H locs ls hw hS hl
    unfold Gk_readTest5_50 at hE
    refine lv_istore_n (lv' := [(3, .int w50_s0), (0, .ref (y 192)), (1, .ref (y 196)), (2, .int 5)]) hx hb dX4_readTest_50 rfl hl (by decide) rfl (fun ls hl => ?_)
    refine lv_aload_n hx hb dX4_readTest_51 rfl (lv_at hl 2 rfl) ?_
    refine kcallV (As := []) (rest := []) ⟨hx, hb, hml, hown, hts⟩ (kc_step l D ct E y rw50 qw50 jw50 hEi) (wqX4_50_kc_step hts ⟨Nat.le_of_ble_eq_true rfl, Nat.le_of_ble_eq_true rfl⟩) hw hS hA hK hZ hN 8 196 rfl kg196 rfl hl.1 rfl (Nat.le_of_ble_eq_true rfl) dX4_readTest_52 55 rfl (fun u1 H locs pu1 hw hS => ?_)
    obtain ⟨r2, q3⟩ := u1
    have ju1 : kJ r2 := pu1.1
    have fu1 : zFr [196] rw50 r2 := pu1.2.1
    have xu1 : (r2, q3) = (Gk_step rw50 qw50) := pu1.2.2.1
    have hE := zc_rqE xu1 hE
    have hw : zPD D A (kW ct E y r2 q3) H := hw
    refine zfr 55 [] rfl rfl ?_
    refine lv_aload_n hx hb dX4_readTest_55 rfl (lv_at hl 1 rfl) ?_
    refine lv_aload_n hx hb dX4_readTest_56 rfl (lv_at hl 2 rfl) ?_
    refine lv_iload_n hx hb dX4_readTest_57 rfl (lv_at hl 3 rfl) ?_
    refine kcallV (As := [.ref (y 196), .int 5]) (rest := []) ⟨hx, hb, hml, hown, hts⟩ (kc_readSum5 l D ct E y r2 q3 ju1 hEi) (wqX4_53_kc_readSum5 hts ⟨Nat.le_of_ble_eq_true rfl, Nat.le_of_ble_eq_true rfl⟩) hw hS hA hK hZ hN 4 192 rfl kg192 rfl hl.1 rfl (Nat.le_of_ble_eq_true rfl) dX4_readTest_58 61 rfl (fun u4 H locs pu4 hw hS => ?_)
    obtain ⟨v5, r6, q7⟩ := u4
    have hv5 : zI 0 1 v5 := pu4.1
    have ju4 : kJ r6 := pu4.2.1
    have fu4 : zFr [196, 192, 193] r2 r6 := pu4.2.2.1
    have xu4 : (v5, r6, q7) = (Gk_readSum5 r2 q3) := pu4.2.2.2.1
    have hE := zc_vrqE xu4 hE
    have hw : zPD D A (kW ct E y r6 q7) H := hw
    refine zfr 61 [.int v5] rfl rfl ?_
    refine lv_if_ne (tgt := 66) hx hb dX4_readTest_61 (by decide) (fun c8 => ?_) (fun c8 => ?_)
    · have hE := zifnT c8 hE
      have k9 : zI 1 1 (v5) := zI.neD c8 hv5 (zI.lit (a := 0) (b := 0) (c := 0) (by decide)) (by decide)
      refine lv_aload_n hx hb dX4_readTest_66 rfl (lv_at hl 1 rfl) ?_
      refine lv_iload_n hx hb dX4_readTest_67 rfl (lv_at hl 0 rfl) ?_
      refine kcallV (As := [.int w50_s0]) (rest := []) ⟨hx, hb, hml, hown, hts⟩ (kc_add l D ct E y w50_s0 r6 q7 ju4 hEi) (wqX4_22_kc_add hts ⟨Nat.le_of_ble_eq_true rfl, Nat.le_of_ble_eq_true rfl⟩) hw hS hA hK hZ hN 4 192 rfl kg192 rfl hl.1 rfl (Nat.le_of_ble_eq_true rfl) dX4_readTest_68 71 rfl (fun u10 H locs pu10 hw hS => ?_)
      have ju10 : kJ u10 := pu10.1
      have fu10 : zFr [192, 193] r6 u10 := pu10.2.1
      have xu10 : u10 = (Gk_add w50_s0 r6 q7) := pu10.2.2.1
      have hE := zletE xu10 hE
      have hw : zPD D A (kW ct E y u10 q7) H := hw
      refine zfr 71 [] rfl rfl ?_
      refine lv_iconst (v := 1) hx hb dX4_readTest_71 (by decide) ?_
      exact ziretQ hQ hx hb hr rfl hlocks ((1 : Int32), u10, q7) rfl ⟨((zI.lit (a := 1) (b := 1) (c := 1) (by decide)).w (c := 0) (d := 1) (by decide)), ju10, (((fw50.tr fu1 rfl).tr fu4 rfl).tr fu10 rfl), (hE.symm.trans hX), trivial⟩ hw hS dX4_readTest_72
    · have hE := zifnF c8 hE
      have k12 : zI 0 0 (v5) := zI.eqq c8 (zI.lit (a := 0) (b := 0) (c := 0) (by decide))
      refine lv_iconst (v := 0) hx hb dX4_readTest_64 (by decide) ?_
      exact ziretQ hQ hx hb hr rfl hlocks ((0 : Int32), r6, q7) rfl ⟨((zI.lit (a := 0) (b := 0) (c := 0) (by decide)).w (c := 0) (d := 1) (by decide)), ju4, ((fw50.tr fu1 rfl).tr fu4 rfl), (hE.symm.trans hX), trivial⟩ hw hS dX4_readTest_65
  have cut33 : ∀ (rw33 : zRr) (qw33 : zRq) (jw33 : kJ rw33) (fw33 : zFr [196, 192, 193] r rw33) (hE : X = Gk_readTest5_33 rw33 qw33), zKf p l e ({ frames := 10, cells := 0, slots := 0, locals := 440 }) s m a9 below meth c Q D A 33 4 [] (kW ct E y rw33 qw33) [(0, .ref (y 192)), (1, .ref (y 196)), (2, .int 5)] := by
    intro rw33 qw33 jw33 fw33 hE H locs ls hw hS hl
    unfold Gk_readTest5_33 at hE
    refine lv_aload_n hx hb dX4_readTest_33 rfl (lv_at hl 1 rfl) ?_
    refine va_get (D := D) (ci := 8) (v := .ref (E (zn (rw33 196 4)))) hx hb hts hiX9 hown hK hw.1 196 kg196 rfl 4 (by decide) lf36 (fun _ h9 => h9) rfl dX4_readTest_34 (cgenSE (show zI 0 32 (rw33 196 4) from jw33.i 196 4) (fun v13 ev13 hv13 => ?_))
    have hE := zletE ev13 hE
    refine cgets 23 (by decide) hx hb hZ hS hown lf56 dX4_readTest_37 (ztop (.ref (E (zn 23))) rfl ?_)
    refine cxacmp_ne (a := v13) (b := (23 : Int32)) (tgt := 48) hEi hv13 ((zI.lit (a := 23) (b := 23) (c := 23) (by decide)).w (c := 0) (d := 32) (by decide)) hx hb dX4_readTest_40 (by decide) (fun c14 => ?_) (fun c14 => ?_)
    · have hE := zifnT c14 hE
      refine lv_bipush (v := (-9)) hx hb dX4_readTest_48 (by decide) ?_
      exact cut50 (-9) rw33 qw33 ((zI.lit (a := (-9)) (b := (-9)) (c := (-9)) (by decide)).w (c := (-9)) (d := (-2)) (by decide)) jw33 fw33 hE H locs ls hw hS (lv_sub hl [0, 1, 2] rfl)
    · have hE := zifnF c14 hE
      refine lv_bipush (v := (-8)) hx hb dX4_readTest_43 (by decide) ?_
      refine lv_goto (tgt := 50) hx hb dX4_readTest_45 (by decide) ?_
      exact cut50 (-8) rw33 qw33 ((zI.lit (a := (-8)) (b := (-8)) (c := (-8)) (by decide)).w (c := (-9)) (d := (-2)) (by decide)) jw33 fw33 hE H locs ls hw hS (lv_sub hl [0, 1, 2] rfl)
  intro H locs hw hS ls hl
  have hl : lv_has ls 4 [(0, .ref (y 192)), (1, .ref (y 196)), (2, .int 5)] := hl
  have hE := hX
  unfold Gk_readTest5 at hE
  refine lv_aload_n hx hb dX4_readTest_0 rfl (lv_at hl 0 rfl) ?_
  refine lv_aload_n hx hb dX4_readTest_1 rfl (lv_at hl 1 rfl) ?_
  refine lv_iload_n hx hb dX4_readTest_2 rfl (lv_at hl 2 rfl) ?_
  refine kcallV (As := [.ref (y 196), .int 5]) (rest := []) ⟨hx, hb, hml, hown, hts⟩ (kc_readSum5 l D ct E y r q hJ0 hEi) (wqX4_53_kc_readSum5 hts ⟨Nat.le_of_ble_eq_true rfl, Nat.le_of_ble_eq_true rfl⟩) hw hS hA hK hZ hN 4 192 rfl kg192 rfl hl.1 rfl (Nat.le_of_ble_eq_true rfl) dX4_readTest_3 6 rfl (fun u15 H locs pu15 hw hS => ?_)
  obtain ⟨v16, r17, q18⟩ := u15
  have hv16 : zI 0 1 v16 := pu15.1
  have ju15 : kJ r17 := pu15.2.1
  have fu15 : zFr [196, 192, 193] r r17 := pu15.2.2.1
  have xu15 : (v16, r17, q18) = (Gk_readSum5 r q) := pu15.2.2.2.1
  have hE := zc_vrqE xu15 hE
  have hw : zPD D A (kW ct E y r17 q18) H := hw
  refine zfr 6 [.int v16] rfl rfl ?_
  refine lv_if_ne (tgt := 11) hx hb dX4_readTest_6 (by decide) (fun c19 => ?_) (fun c19 => ?_)
  · have hE := zifnT c19 hE
    have k20 : zI 1 1 (v16) := zI.neD c19 hv16 (zI.lit (a := 0) (b := 0) (c := 0) (by decide)) (by decide)
    refine lv_aload_n hx hb dX4_readTest_11 rfl (lv_at hl 1 rfl) ?_
    refine va_get (D := D) (ci := 8) (v := .ref (E (zn (r17 196 4)))) hx hb hts hiX9 hown hK hw.1 196 kg196 rfl 4 (by decide) lf36 (fun _ h9 => h9) rfl dX4_readTest_12 (cgenSE (show zI 0 32 (r17 196 4) from ju15.i 196 4) (fun v21 ev21 hv21 => ?_))
    have hE := zletE ev21 hE
    refine cgets 23 (by decide) hx hb hZ hS hown lf56 dX4_readTest_15 (ztop (.ref (E (zn 23))) rfl ?_)
    refine cxacmp_eq (a := v21) (b := (23 : Int32)) (tgt := 33) hEi hv21 ((zI.lit (a := 23) (b := 23) (c := 23) (by decide)).w (c := 0) (d := 32) (by decide)) hx hb dX4_readTest_18 (by decide) (fun c22 => ?_) (fun c22 => ?_)
    · have hE := zifT c22 hE
      exact cut33 r17 q18 ju15 ((zFr.refl).tr fu15 rfl) hE H locs ls hw hS (lv_sub hl [0, 1, 2] rfl)
    · have hE := zifF c22 hE
      refine lv_aload_n hx hb dX4_readTest_21 rfl (lv_at hl 1 rfl) ?_
      refine va_get (D := D) (ci := 8) (v := .ref (E (zn (r17 196 4)))) hx hb hts hiX9 hown hK hw.1 196 kg196 rfl 4 (by decide) lf36 (fun _ h9 => h9) rfl dX4_readTest_22 (cgenSE (show zI 0 32 (r17 196 4) from ju15.i 196 4) (fun v23 ev23 hv23 => ?_))
      have hE := zletE ev23 hE
      refine cgets 24 (by decide) hx hb hZ hS hown lf59 dX4_readTest_25 (ztop (.ref (E (zn 24))) rfl ?_)
      refine cxacmp_eq (a := v23) (b := (24 : Int32)) (tgt := 33) hEi hv23 ((zI.lit (a := 24) (b := 24) (c := 24) (by decide)).w (c := 0) (d := 32) (by decide)) hx hb dX4_readTest_28 (by decide) (fun c24 => ?_) (fun c24 => ?_)
      · have hE := zifT c24 hE
        exact cut33 r17 q18 ju15 ((zFr.refl).tr fu15 rfl) hE H locs ls hw hS (lv_sub hl [0, 1, 2] rfl)
      · have hE := zifF c24 hE
        refine lv_iconst (v := 1) hx hb dX4_readTest_31 (by decide) ?_
        exact ziretQ hQ hx hb hr rfl hlocks ((1 : Int32), r17, q18) rfl ⟨((zI.lit (a := 1) (b := 1) (c := 1) (by decide)).w (c := 0) (d := 1) (by decide)), ju15, ((zFr.refl).tr fu15 rfl), (hE.symm.trans hX), trivial⟩ hw hS dX4_readTest_32
  · have hE := zifnF c19 hE
    have k25 : zI 0 0 (v16) := zI.eqq c19 (zI.lit (a := 0) (b := 0) (c := 0) (by decide))
    refine lv_iconst (v := 0) hx hb dX4_readTest_9 (by decide) ?_
    exact ziretQ hQ hx hb hr rfl hlocks ((0 : Int32), r17, q18) rfl ⟨((zI.lit (a := 0) (b := 0) (c := 0) (by decide)).w (c := 0) (d := 1) (by decide)), ju15, ((zFr.refl).tr fu15 rfl), (hE.symm.trans hX), trivial⟩ hw hS dX4_readTest_10

set_option maxHeartbeats 4000000 in
set_option maxRecDepth 100000 in
theorem kc_readWhole5 (l : Launch) (D : va_G) (ct : Nat → ClassId) (E : Nat → Nat) (y : Nat → Nat) (r : zRr) (q : zRq) (hJ0 : kJ r) (hEi : kEi E) : cC l yX4_readWhole (.code yX4_readWhole cX4_readWhole 5 (some .boolean) :: wsL_law0) ({ frames := 11, cells := 0, slots := 0, locals := 480 }) D ct E [.ref (y 192), .ref (y 196), .int 5] (kW ct E y r q) (S := Int32 × zRr × zRq) (fun u => some (.int u.1)) (fun u => zI 0 1 u.1 ∧ kJ u.2.1 ∧ zFr [196, 192, 193] r u.2.1 ∧ u = (Gk_readWhole5 r q) ∧ True) (fun u => kW ct E y u.2.1 u.2.2) := by
  refine cofQ cX4_readWhole 5 (some .boolean) (by decide) rfl (Nat.le_of_ble_eq_true rfl) ?_
  intro p e s m below meth c A a9 Q ha9 hx hb hr hml hts hown hlocks hname hK hA hZ hN hQ
  have hown : s.vm.findClass RX4 = some m.cls := hown
  have hiX9 : ∀ w ∈ wsX90, w ∈ .code yX4_readWhole cX4_readWhole 5 (some .boolean) :: wsL_law0 := fun _ h => ki (zs_wsX90 _ h)
  have lf36 := hts (.fieldLink RX4 36 "BeardPass$Tape" "sort" "LBeardPass$Sort;") (ki (zr18 17 rfl))
  have lf42 := hts (.fieldLink RX4 42 "BeardPass$Sort" "AND" "LBeardPass$Sort;") (ki (zr18 18 rfl))
  have lf47 := hts (.fieldLink RX4 47 "BeardPass$Sort" "OR" "LBeardPass$Sort;") (ki (zr18 19 rfl))
  obtain ⟨X, hX⟩ : ∃ X, X = (Gk_readWhole5 r q) := ⟨_, rfl⟩
  have cut13 : ∀ (n13 : Nat) (w13_3 : Int32) (rw13 : zRr) (qw13 : zRq) (hw13_3 : zI 0 1000 w13_3) (jw13 : kJ rw13) (fw13 : zFr [196, 192, 193] r rw13) (hE : X = Gk_readWhole5_13 n13 w13_3 rw13 qw13), 1000 - w13_3.toInt < (n13 : Int) → zKf p l e ({ frames := 11, cells := 0, slots := 0, locals := 480 }) s m a9 below meth c Q D A 13 5 [] (kW ct E y rw13 qw13) [(0, .ref (y 192)), (1, .ref (y 196)), (2, .int 5), (3, .int w13_3)] := by
    intro n13
    induction n13 with
    | zero => intro w13_3 rw13 qw13 hw13_3 jw13 fw13 hE hm13; exact zI.no hw13_3 (by decide) hm13
    | succ n13 ih13 =>
      intro w13_3 rw13 qw13 hw13_3 jw13 fw13 hE hm13
      have hE : X = Bk_readWhole5_13 (Gk_readWhole5_13 n13) w13_3 rw13 qw13 := hE
      unfold Bk_readWhole5_13 at hE
      have cut57 : ∀ (w57_s0 : Int32) (hw57_3 : zI 0 999 w13_3) (hw57_s0 : zI (-7) (-2) w57_s0) (hE : X = Gk_readWhole5_57 w13_3 rw13 qw13 (Gk_readWhole5_13 n13) w57_s0), zKf p l e ({ frames := 11, cells := 0, slots := 0, locals := 480 }) s m a9 below meth c Q D A 57 5 [.int w57_s0] (kW ct E y rw13 qw13) [(0, .ref (y 192)), (1, .ref (y 196)), (2, .int 5), (3, .int w13_3)] := by
        intro w57_s0 hw57_3 hw57_s0 hE H locs ls hw hS hl
        unfold Gk_readWhole5_57 at hE
        refine lv_istore (lv' := [(4, .int w57_s0), (0, .ref (y 192)), (1, .ref (y 196)), (2, .int 5), (3, .int w13_3)]) hx hb dX4_readWhole_57 hl (by decide) rfl (fun ls hl => ?_)
        refine lv_aload_n hx hb dX4_readWhole_59 rfl (lv_at hl 2 rfl) ?_
        refine kcallV (As := []) (rest := []) ⟨hx, hb, hml, hown, hts⟩ (kc_step l D ct E y rw13 qw13 jw13 hEi) (wqX4_50_kc_step hts ⟨Nat.le_of_ble_eq_true rfl, Nat.le_of_ble_eq_true rfl⟩) hw hS hA hK hZ hN 8 196 rfl kg196 rfl hl.1 rfl (Nat.le_of_ble_eq_true rfl) dX4_readWhole_60 63 rfl (fun u1 H locs pu1 hw hS => ?_)
        obtain ⟨r2, q3⟩ := u1
        have ju1 : kJ r2 := pu1.1
        have fu1 : zFr [196] rw13 r2 := pu1.2.1
        have xu1 : (r2, q3) = (Gk_step rw13 qw13) := pu1.2.2.1
        have hE := zc_rqE xu1 hE
        have hw : zPD D A (kW ct E y r2 q3) H := hw
        refine zfr 63 [] rfl rfl ?_
        refine lv_aload_n hx hb dX4_readWhole_63 rfl (lv_at hl 1 rfl) ?_
        refine lv_aload_n hx hb dX4_readWhole_64 rfl (lv_at hl 2 rfl) ?_
        refine lv_iload_n hx hb dX4_readWhole_65 rfl (lv_at hl 3 rfl) ?_
        refine kcallV (As := [.ref (y 196), .int 5]) (rest := []) ⟨hx, hb, hml, hown, hts⟩ (kc_readTest5 l D ct E y r2 q3 ju1 hEi) (wqX4_32_kc_readTest5 hts ⟨Nat.le_of_ble_eq_true rfl, Nat.le_of_ble_eq_true rfl⟩) hw hS hA hK hZ hN 4 192 rfl kg192 rfl hl.1 rfl (Nat.le_of_ble_eq_true rfl) dX4_readWhole_66 69 rfl (fun u4 H locs pu4 hw hS => ?_)
        obtain ⟨v5, r6, q7⟩ := u4
        have hv5 : zI 0 1 v5 := pu4.1
        have ju4 : kJ r6 := pu4.2.1
        have fu4 : zFr [196, 192, 193] r2 r6 := pu4.2.2.1
        have xu4 : (v5, r6, q7) = (Gk_readTest5 r2 q3) := pu4.2.2.2.1
        have hE := zc_vrqE xu4 hE
        have hw : zPD D A (kW ct E y r6 q7) H := hw
        refine zfr 69 [.int v5] rfl rfl ?_
        refine lv_if_ne (tgt := 74) hx hb dX4_readWhole_69 (by decide) (fun c8 => ?_) (fun c8 => ?_)
        · have hE := zifnT c8 hE
          have k9 : zI 1 1 (v5) := zI.neD c8 hv5 (zI.lit (a := 0) (b := 0) (c := 0) (by decide)) (by decide)
          refine lv_aload_n hx hb dX4_readWhole_74 rfl (lv_at hl 1 rfl) ?_
          refine lv_iload hx hb dX4_readWhole_75 (lv_at hl 0 rfl) ?_
          refine kcallV (As := [.int w57_s0]) (rest := []) ⟨hx, hb, hml, hown, hts⟩ (kc_add l D ct E y w57_s0 r6 q7 ju4 hEi) (wqX4_22_kc_add hts ⟨Nat.le_of_ble_eq_true rfl, Nat.le_of_ble_eq_true rfl⟩) hw hS hA hK hZ hN 4 192 rfl kg192 rfl hl.1 rfl (Nat.le_of_ble_eq_true rfl) dX4_readWhole_77 80 rfl (fun u10 H locs pu10 hw hS => ?_)
          have ju10 : kJ u10 := pu10.1
          have fu10 : zFr [192, 193] r6 u10 := pu10.2.1
          have xu10 : u10 = (Gk_add w57_s0 r6 q7) := pu10.2.2.1
          have hE := zletE xu10 hE
          have hw : zPD D A (kW ct E y u10 q7) H := hw
          refine zfr 80 [] rfl rfl ?_
          refine lv_iinc (v := w13_3 + 1) (lv' := [(3, .int (w13_3 + 1)), (4, .int w57_s0), (0, .ref (y 192)), (1, .ref (y 196)), (2, .int 5)]) hx hb dX4_readWhole_80 hl (k := 4) rfl (rfl) (by decide) rfl (fun ls hl => ?_)
          have k12 : zI 1 1000 (w13_3 + 1) := zI.add hw57_3 (zI.lit (a := 1) (b := 1) (by decide)) (by decide)
          refine lv_goto (tgt := 13) hx hb dX4_readWhole_83 (by decide) ?_
          exact ih13 (w13_3 + 1) u10 q7 (k12.w (c := 0) (d := 1000) (by decide)) ju10 (((fw13.tr fu1 rfl).tr fu4 rfl).tr fu10 rfl) hE (zI.up hw57_3 (by decide) hm13) H locs ls hw hS (lv_sub hl [2, 3, 4, 0] rfl)
        · have hE := zifnF c8 hE
          have k13 : zI 0 0 (v5) := zI.eqq c8 (zI.lit (a := 0) (b := 0) (c := 0) (by decide))
          refine lv_iconst (v := 0) hx hb dX4_readWhole_72 (by decide) ?_
          exact ziretQ hQ hx hb hr rfl hlocks ((0 : Int32), r6, q7) rfl ⟨((zI.lit (a := 0) (b := 0) (c := 0) (by decide)).w (c := 0) (d := 1) (by decide)), ju4, ((fw13.tr fu1 rfl).tr fu4 rfl), (hE.symm.trans hX), trivial⟩ hw hS dX4_readWhole_73
      have cut40 : ∀ (hw40_3 : zI 0 999 w13_3) (hE : X = Gk_readWhole5_40 w13_3 rw13 qw13 (Gk_readWhole5_13 n13) ), zKf p l e ({ frames := 11, cells := 0, slots := 0, locals := 480 }) s m a9 below meth c Q D A 40 5 [] (kW ct E y rw13 qw13) [(0, .ref (y 192)), (1, .ref (y 196)), (2, .int 5), (3, .int w13_3)] := by
        intro hw40_3 hE H locs ls hw hS hl
        unfold Gk_readWhole5_40 at hE
        refine lv_aload_n hx hb dX4_readWhole_40 rfl (lv_at hl 1 rfl) ?_
        refine va_get (D := D) (ci := 8) (v := .ref (E (zn (rw13 196 4)))) hx hb hts hiX9 hown hK hw.1 196 kg196 rfl 4 (by decide) lf36 (fun _ h9 => h9) rfl dX4_readWhole_41 (cgenSE (show zI 0 32 (rw13 196 4) from jw13.i 196 4) (fun v14 ev14 hv14 => ?_))
        have hE := zletE ev14 hE
        refine cgets 19 (by decide) hx hb hZ hS hown lf42 dX4_readWhole_44 (ztop (.ref (E (zn 19))) rfl ?_)
        refine cxacmp_ne (a := v14) (b := (19 : Int32)) (tgt := 55) hEi hv14 ((zI.lit (a := 19) (b := 19) (c := 19) (by decide)).w (c := 0) (d := 32) (by decide)) hx hb dX4_readWhole_47 (by decide) (fun c15 => ?_) (fun c15 => ?_)
        · have hE := zifnT c15 hE
          refine lv_bipush (v := (-7)) hx hb dX4_readWhole_55 (by decide) ?_
          exact cut57 (-7) hw40_3 ((zI.lit (a := (-7)) (b := (-7)) (c := (-7)) (by decide)).w (c := (-7)) (d := (-2)) (by decide)) hE H locs ls hw hS (lv_sub hl [0, 1, 2, 3] rfl)
        · have hE := zifnF c15 hE
          refine lv_bipush (v := (-6)) hx hb dX4_readWhole_50 (by decide) ?_
          refine lv_goto (tgt := 57) hx hb dX4_readWhole_52 (by decide) ?_
          exact cut57 (-6) hw40_3 ((zI.lit (a := (-6)) (b := (-6)) (c := (-6)) (by decide)).w (c := (-7)) (d := (-2)) (by decide)) hE H locs ls hw hS (lv_sub hl [0, 1, 2, 3] rfl)
      intro H locs ls hw hS hl
      refine lv_iload_n hx hb dX4_readWhole_13 rfl (lv_at hl 3 rfl) ?_
      refine lv_sipush (v := 1000) hx hb dX4_readWhole_14 (by decide) ?_
      refine lv_icmp_ge (tgt := 86) hx hb dX4_readWhole_17 (by decide) (fun c16 => ?_) (fun c16 => ?_)
      · have hE := zifT c16 hE
        have k17 : zI 1000 1000 (w13_3) := zI.leD c16 (zI.lit (a := 1000) (b := 1000) (c := 1000) (by decide)) hw13_3 (by decide)
        refine lv_iconst (v := 1) hx hb dX4_readWhole_86 (by decide) ?_
        exact ziretQ hQ hx hb hr rfl hlocks ((1 : Int32), rw13, qw13) rfl ⟨((zI.lit (a := 1) (b := 1) (c := 1) (by decide)).w (c := 0) (d := 1) (by decide)), jw13, fw13, (hE.symm.trans hX), trivial⟩ hw hS dX4_readWhole_87
      · have hE := zifF c16 hE
        have k18 : zI 0 999 (w13_3) := zI.ltU (zI.nle c16) hw13_3 (zI.lit (a := 1000) (b := 1000) (c := 1000) (by decide)) (by decide)
        refine lv_aload_n hx hb dX4_readWhole_20 rfl (lv_at hl 1 rfl) ?_
        refine va_get (D := D) (ci := 8) (v := .ref (E (zn (rw13 196 4)))) hx hb hts hiX9 hown hK hw.1 196 kg196 rfl 4 (by decide) lf36 (fun _ h9 => h9) rfl dX4_readWhole_21 (cgenSE (show zI 0 32 (rw13 196 4) from jw13.i 196 4) (fun v19 ev19 hv19 => ?_))
        have hE := zletE ev19 hE
        refine cgets 19 (by decide) hx hb hZ hS hown lf42 dX4_readWhole_24 (ztop (.ref (E (zn 19))) rfl ?_)
        refine cxacmp_eq (a := v19) (b := (19 : Int32)) (tgt := 40) hEi hv19 ((zI.lit (a := 19) (b := 19) (c := 19) (by decide)).w (c := 0) (d := 32) (by decide)) hx hb dX4_readWhole_27 (by decide) (fun c20 => ?_) (fun c20 => ?_)
        · have hE := zifT c20 hE
          exact cut40 k18 hE H locs ls hw hS (lv_sub hl [0, 1, 2, 3] rfl)
        · have hE := zifF c20 hE
          refine lv_aload_n hx hb dX4_readWhole_30 rfl (lv_at hl 1 rfl) ?_
          refine va_get (D := D) (ci := 8) (v := .ref (E (zn (rw13 196 4)))) hx hb hts hiX9 hown hK hw.1 196 kg196 rfl 4 (by decide) lf36 (fun _ h9 => h9) rfl dX4_readWhole_31 (cgenSE (show zI 0 32 (rw13 196 4) from jw13.i 196 4) (fun v21 ev21 hv21 => ?_))
          have hE := zletE ev21 hE
          refine cgets 20 (by decide) hx hb hZ hS hown lf47 dX4_readWhole_34 (ztop (.ref (E (zn 20))) rfl ?_)
          refine cxacmp_ne (a := v21) (b := (20 : Int32)) (tgt := 86) hEi hv21 ((zI.lit (a := 20) (b := 20) (c := 20) (by decide)).w (c := 0) (d := 32) (by decide)) hx hb dX4_readWhole_37 (by decide) (fun c22 => ?_) (fun c22 => ?_)
          · have hE := zifnT c22 hE
            refine lv_iconst (v := 1) hx hb dX4_readWhole_86 (by decide) ?_
            exact ziretQ hQ hx hb hr rfl hlocks ((1 : Int32), rw13, qw13) rfl ⟨((zI.lit (a := 1) (b := 1) (c := 1) (by decide)).w (c := 0) (d := 1) (by decide)), jw13, fw13, (hE.symm.trans hX), trivial⟩ hw hS dX4_readWhole_87
          · have hE := zifnF c22 hE
            exact cut40 k18 hE H locs ls hw hS (lv_sub hl [0, 1, 2, 3] rfl)
  intro H locs hw hS ls hl
  have hl : lv_has ls 5 [(0, .ref (y 192)), (1, .ref (y 196)), (2, .int 5)] := hl
  have hE := hX
  unfold Gk_readWhole5 at hE
  refine lv_aload_n hx hb dX4_readWhole_0 rfl (lv_at hl 0 rfl) ?_
  refine lv_aload_n hx hb dX4_readWhole_1 rfl (lv_at hl 1 rfl) ?_
  refine lv_iload_n hx hb dX4_readWhole_2 rfl (lv_at hl 2 rfl) ?_
  refine kcallV (As := [.ref (y 196), .int 5]) (rest := []) ⟨hx, hb, hml, hown, hts⟩ (kc_readTest5 l D ct E y r q hJ0 hEi) (wqX4_32_kc_readTest5 hts ⟨Nat.le_of_ble_eq_true rfl, Nat.le_of_ble_eq_true rfl⟩) hw hS hA hK hZ hN 4 192 rfl kg192 rfl hl.1 rfl (Nat.le_of_ble_eq_true rfl) dX4_readWhole_3 6 rfl (fun u23 H locs pu23 hw hS => ?_)
  obtain ⟨v24, r25, q26⟩ := u23
  have hv24 : zI 0 1 v24 := pu23.1
  have ju23 : kJ r25 := pu23.2.1
  have fu23 : zFr [196, 192, 193] r r25 := pu23.2.2.1
  have xu23 : (v24, r25, q26) = (Gk_readTest5 r q) := pu23.2.2.2.1
  have hE := zc_vrqE xu23 hE
  have hw : zPD D A (kW ct E y r25 q26) H := hw
  refine zfr 6 [.int v24] rfl rfl ?_
  refine lv_if_ne (tgt := 11) hx hb dX4_readWhole_6 (by decide) (fun c27 => ?_) (fun c27 => ?_)
  · have hE := zifnT c27 hE
    have k28 : zI 1 1 (v24) := zI.neD c27 hv24 (zI.lit (a := 0) (b := 0) (c := 0) (by decide)) (by decide)
    refine lv_iconst (v := 0) hx hb dX4_readWhole_11 (by decide) ?_
    refine lv_istore_n (lv' := [(3, .int 0), (0, .ref (y 192)), (1, .ref (y 196)), (2, .int 5)]) hx hb dX4_readWhole_12 rfl hl (by decide) rfl (fun ls hl => ?_)
    exact cut13 1001 0 r25 q26 ((zI.lit (a := 0) (b := 0) (c := 0) (by decide)).w (c := 0) (d := 1000) (by decide)) ju23 ((zFr.refl).tr fu23 rfl) hE (zI.m0 (zI.lit (a := 0) (b := 0) (c := 0) (by decide)) (by decide)) H locs ls hw hS (lv_sub hl [1, 2, 3, 0] rfl)
  · have hE := zifnF c27 hE
    have k29 : zI 0 0 (v24) := zI.eqq c27 (zI.lit (a := 0) (b := 0) (c := 0) (by decide))
    refine lv_iconst (v := 0) hx hb dX4_readWhole_9 (by decide) ?_
    exact ziretQ hQ hx hb hr rfl hlocks ((0 : Int32), r25, q26) rfl ⟨((zI.lit (a := 0) (b := 0) (c := 0) (by decide)).w (c := 0) (d := 1) (by decide)), ju23, ((zFr.refl).tr fu23 rfl), (hE.symm.trans hX), trivial⟩ hw hS dX4_readWhole_10

set_option maxHeartbeats 4000000 in
set_option maxRecDepth 100000 in
theorem kc_readPart4 (l : Launch) (D : va_G) (ct : Nat → ClassId) (E : Nat → Nat) (y : Nat → Nat) (r : zRr) (q : zRq) (hJ0 : kJ r) (hEi : kEi E) : cC l yX4_readPart (.code yX4_readPart cX4_readPart 6 (some .boolean) :: wsL_law0) ({ frames := 12, cells := 0, slots := 0, locals := 520 }) D ct E [.ref (y 192), .ref (y 196), .int 4] (kW ct E y r q) (S := Int32 × zRr × zRq) (fun u => some (.int u.1)) (fun u => zI 0 1 u.1 ∧ kJ u.2.1 ∧ zFr [196, 192, 193] r u.2.1 ∧ u = (Gk_readPart4 r q) ∧ True) (fun u => kW ct E y u.2.1 u.2.2) := by
  refine cofQ cX4_readPart 6 (some .boolean) (by decide) rfl (Nat.le_of_ble_eq_true rfl) ?_
  intro p e s m below meth c A a9 Q ha9 hx hb hr hml hts hown hlocks hname hK hA hZ hN hQ
  have hown : s.vm.findClass RX4 = some m.cls := hown
  have hiX9 : ∀ w ∈ wsX90, w ∈ .code yX4_readPart cX4_readPart 6 (some .boolean) :: wsL_law0 := fun _ h => ki (zs_wsX90 _ h)
  have lf36 := hts (.fieldLink RX4 36 "BeardPass$Tape" "sort" "LBeardPass$Sort;") (ki (zr18 17 rfl))
  have lf77 := hts (.fieldLink RX4 77 "BeardPass$Sort" "OPEN" "LBeardPass$Sort;") (ki (zr19 1 rfl))
  have lf80 := hts (.fieldLink RX4 80 "BeardPass$Sort" "NOT" "LBeardPass$Sort;") (ki (zr19 2 rfl))
  have lf94 := hts (.fieldLink RX4 94 "BeardPass$Sort" "CLOSE" "LBeardPass$Sort;") (ki (zr19 3 rfl))
  obtain ⟨X, hX⟩ : ∃ X, X = (Gk_readPart4 r q) := ⟨_, rfl⟩
  have cut130 : ∀ (w130_5 : Int32) (rw130 : zRr) (qw130 : zRq) (jw130 : kJ rw130) (fw130 : zFr [196, 192, 193] r rw130) (hE : X = Gk_readPart4_130 w130_5 rw130 qw130), zKf p l e ({ frames := 12, cells := 0, slots := 0, locals := 520 }) s m a9 below meth c Q D A 130 6 [] (kW ct E y rw130 qw130) [(0, .ref (y 192)), (5, .int w130_5)] := by
    intro w130_5 rw130 qw130 jw130 fw130 hE H locs ls hw hS hl
    unfold Gk_readPart4_130 at hE
    refine lv_aload_n hx hb dX4_readPart_130 rfl (lv_at hl 0 rfl) ?_
    refine lv_iload hx hb dX4_readPart_131 (lv_at hl 1 rfl) ?_
    refine kcallV (As := [.int w130_5]) (rest := []) ⟨hx, hb, hml, hown, hts⟩ (kc_add l D ct E y w130_5 rw130 qw130 jw130 hEi) (wqX4_22_kc_add hts ⟨Nat.le_of_ble_eq_true rfl, Nat.le_of_ble_eq_true rfl⟩) hw hS hA hK hZ hN 4 192 rfl kg192 rfl hl.1 rfl (Nat.le_of_ble_eq_true rfl) dX4_readPart_133 136 rfl (fun u1 H locs pu1 hw hS => ?_)
    have ju1 : kJ u1 := pu1.1
    have fu1 : zFr [192, 193] rw130 u1 := pu1.2.1
    have xu1 : u1 = (Gk_add w130_5 rw130 qw130) := pu1.2.2.1
    have hE := zletE xu1 hE
    have hw : zPD D A (kW ct E y u1 qw130) H := hw
    refine zfr 136 [] rfl rfl ?_
    refine lv_iconst (v := 1) hx hb dX4_readPart_136 (by decide) ?_
    exact ziretQ hQ hx hb hr rfl hlocks ((1 : Int32), u1, qw130) rfl ⟨((zI.lit (a := 1) (b := 1) (c := 1) (by decide)).w (c := 0) (d := 1) (by decide)), ju1, (fw130.tr fu1 rfl), (hE.symm.trans hX), trivial⟩ hw hS dX4_readPart_137
  have cut66 : ∀ (w66_3 : Int32) (w66_4 : Int32) (w66_5 : Int32) (hw66_3 : zI 0 1 w66_3) (hw66_4 : zI 0 1 w66_4) (hE : X = Gk_readPart4_66 r q w66_3 w66_4 w66_5), zKf p l e ({ frames := 12, cells := 0, slots := 0, locals := 520 }) s m a9 below meth c Q D A 66 6 [] (kW ct E y r q) [(0, .ref (y 192)), (1, .ref (y 196)), (2, .int 4), (3, .int w66_3), (4, .int w66_4), (5, .int w66_5)] := by
    intro w66_3 w66_4 w66_5 hw66_3 hw66_4 hE H locs ls hw hS hl
    unfold Gk_readPart4_66 at hE
    refine lv_iload_n hx hb dX4_readPart_66 rfl (lv_at hl 2 rfl) ?_
    refine lv_iconst (v := 5) hx hb dX4_readPart_67 (by decide) ?_
    refine lv_icmp_lt (tgt := 77) hx hb dX4_readPart_68 (by decide) (fun _ => ?_) (fun h => absurd (by decide) h)
    refine lv_aload_n hx hb dX4_readPart_77 rfl (lv_at hl 1 rfl) ?_
    refine kcallV (As := []) (rest := []) ⟨hx, hb, hml, hown, hts⟩ (kc_step l D ct E y r q hJ0 hEi) (wqX4_50_kc_step hts ⟨Nat.le_of_ble_eq_true rfl, Nat.le_of_ble_eq_true rfl⟩) hw hS hA hK hZ hN 8 196 rfl kg196 rfl hl.1 rfl (Nat.le_of_ble_eq_true rfl) dX4_readPart_78 81 rfl (fun u4 H locs pu4 hw hS => ?_)
    obtain ⟨r5, q6⟩ := u4
    have ju4 : kJ r5 := pu4.1
    have fu4 : zFr [196] r r5 := pu4.2.1
    have xu4 : (r5, q6) = (Gk_step r q) := pu4.2.2.1
    have hE := zc_rqE xu4 hE
    have hw : zPD D A (kW ct E y r5 q6) H := hw
    refine zfr 81 [] rfl rfl ?_
    refine lv_iload_n hx hb dX4_readPart_81 rfl (lv_at hl 3 rfl) ?_
    refine lv_if_eq (tgt := 112) hx hb dX4_readPart_82 (by decide) (fun c7 => ?_) (fun c7 => ?_)
    · have hE := zifT c7 hE
      have k8 : zI 0 0 (w66_3) := zI.eqq c7 (zI.lit (a := 0) (b := 0) (c := 0) (by decide))
      refine lv_iload hx hb dX4_readPart_112 (lv_at hl 4 rfl) ?_
      refine lv_if_eq (tgt := 130) hx hb dX4_readPart_114 (by decide) (fun c9 => ?_) (fun c9 => ?_)
      · have hE := zifT c9 hE
        have k10 : zI 0 0 (w66_4) := zI.eqq c9 (zI.lit (a := 0) (b := 0) (c := 0) (by decide))
        exact cut130 w66_5 r5 q6 ju4 ((zFr.refl).tr fu4 rfl) hE H locs ls hw hS (lv_sub hl [0, 5] rfl)
      · have hE := zifF c9 hE
        have k11 : zI 1 1 (w66_4) := zI.neD c9 hw66_4 (zI.lit (a := 0) (b := 0) (c := 0) (by decide)) (by decide)
        refine lv_aload_n hx hb dX4_readPart_117 rfl (lv_at hl 0 rfl) ?_
        refine lv_aload_n hx hb dX4_readPart_118 rfl (lv_at hl 1 rfl) ?_
        refine lv_iload_n hx hb dX4_readPart_119 rfl (lv_at hl 2 rfl) ?_
        refine lv_iconst (v := 1) hx hb dX4_readPart_120 (by decide) ?_
        refine lv_iadd hx hb dX4_readPart_121 (ztop (.int 5) (congrArg Value.int (by decide)) ?_)
        refine kcallV (As := [.ref (y 196), .int 5]) (rest := []) ⟨hx, hb, hml, hown, hts⟩ (kc_readPart5 l D ct E y r5 q6 ju4 hEi) (wqX4_71_kc_readPart5 hts ⟨Nat.le_of_ble_eq_true rfl, Nat.le_of_ble_eq_true rfl⟩) hw hS hA hK hZ hN 4 192 rfl kg192 rfl hl.1 rfl (Nat.le_of_ble_eq_true rfl) dX4_readPart_122 125 rfl (fun u12 H locs pu12 hw hS => ?_)
        obtain ⟨v13, r14, q15⟩ := u12
        have hv13 : zI 0 1 v13 := pu12.1
        have ju12 : kJ r14 := pu12.2.1
        have fu12 : zFr [196, 192, 193] r5 r14 := pu12.2.2.1
        have xu12 : (v13, r14, q15) = (Gk_readPart5 r5 q6) := pu12.2.2.2.1
        have hE := zc_vrqE xu12 hE
        have hw : zPD D A (kW ct E y r14 q15) H := hw
        refine zfr 125 [.int v13] rfl rfl ?_
        refine lv_if_ne (tgt := 130) hx hb dX4_readPart_125 (by decide) (fun c16 => ?_) (fun c16 => ?_)
        · have hE := zifnT c16 hE
          have k17 : zI 1 1 (v13) := zI.neD c16 hv13 (zI.lit (a := 0) (b := 0) (c := 0) (by decide)) (by decide)
          exact cut130 w66_5 r14 q15 ju12 (((zFr.refl).tr fu4 rfl).tr fu12 rfl) hE H locs ls hw hS (lv_sub hl [0, 5] rfl)
        · have hE := zifnF c16 hE
          have k18 : zI 0 0 (v13) := zI.eqq c16 (zI.lit (a := 0) (b := 0) (c := 0) (by decide))
          refine lv_iconst (v := 0) hx hb dX4_readPart_128 (by decide) ?_
          exact ziretQ hQ hx hb hr rfl hlocks ((0 : Int32), r14, q15) rfl ⟨((zI.lit (a := 0) (b := 0) (c := 0) (by decide)).w (c := 0) (d := 1) (by decide)), ju12, (((zFr.refl).tr fu4 rfl).tr fu12 rfl), (hE.symm.trans hX), trivial⟩ hw hS dX4_readPart_129
    · have hE := zifF c7 hE
      have k19 : zI 1 1 (w66_3) := zI.neD c7 hw66_3 (zI.lit (a := 0) (b := 0) (c := 0) (by decide)) (by decide)
      refine lv_aload_n hx hb dX4_readPart_85 rfl (lv_at hl 0 rfl) ?_
      refine lv_aload_n hx hb dX4_readPart_86 rfl (lv_at hl 1 rfl) ?_
      refine lv_iload_n hx hb dX4_readPart_87 rfl (lv_at hl 2 rfl) ?_
      refine lv_iconst (v := 1) hx hb dX4_readPart_88 (by decide) ?_
      refine lv_iadd hx hb dX4_readPart_89 (ztop (.int 5) (congrArg Value.int (by decide)) ?_)
      refine kcallV (As := [.ref (y 196), .int 5]) (rest := []) ⟨hx, hb, hml, hown, hts⟩ (kc_readWhole5 l D ct E y r5 q6 ju4 hEi) (wqX4_91_kc_readWhole5 hts ⟨Nat.le_of_ble_eq_true rfl, Nat.le_of_ble_eq_true rfl⟩) hw hS hA hK hZ hN 4 192 rfl kg192 rfl hl.1 rfl (Nat.le_of_ble_eq_true rfl) dX4_readPart_90 93 rfl (fun u20 H locs pu20 hw hS => ?_)
      obtain ⟨v21, r22, q23⟩ := u20
      have hv21 : zI 0 1 v21 := pu20.1
      have ju20 : kJ r22 := pu20.2.1
      have fu20 : zFr [196, 192, 193] r5 r22 := pu20.2.2.1
      have xu20 : (v21, r22, q23) = (Gk_readWhole5 r5 q6) := pu20.2.2.2.1
      have hE := zc_vrqE xu20 hE
      have hw : zPD D A (kW ct E y r22 q23) H := hw
      refine zfr 93 [.int v21] rfl rfl ?_
      refine lv_if_eq (tgt := 110) hx hb dX4_readPart_93 (by decide) (fun c24 => ?_) (fun c24 => ?_)
      · have hE := zifT c24 hE
        have k25 : zI 0 0 (v21) := zI.eqq c24 (zI.lit (a := 0) (b := 0) (c := 0) (by decide))
        refine lv_iconst (v := 0) hx hb dX4_readPart_110 (by decide) ?_
        exact ziretQ hQ hx hb hr rfl hlocks ((0 : Int32), r22, q23) rfl ⟨((zI.lit (a := 0) (b := 0) (c := 0) (by decide)).w (c := 0) (d := 1) (by decide)), ju20, (((zFr.refl).tr fu4 rfl).tr fu20 rfl), (hE.symm.trans hX), trivial⟩ hw hS dX4_readPart_111
      · have hE := zifF c24 hE
        have k26 : zI 1 1 (v21) := zI.neD c24 hv21 (zI.lit (a := 0) (b := 0) (c := 0) (by decide)) (by decide)
        refine lv_aload_n hx hb dX4_readPart_96 rfl (lv_at hl 1 rfl) ?_
        refine cgets 22 (by decide) hx hb hZ hS hown lf94 dX4_readPart_97 (ztop (.ref (E (zn 22))) rfl ?_)
        refine kcallV (As := [.ref (E (zn 22))]) (rest := []) ⟨hx, hb, hml, hown, hts⟩ (kc_take l D ct E y 22 r22 q23 ((zI.lit (a := 22) (b := 22) (c := 22) (by decide)).w (c := 0) (d := 32) (by decide)) ju20 hEi) (wqX4_97_kc_take hts ⟨Nat.le_of_ble_eq_true rfl, Nat.le_of_ble_eq_true rfl⟩) hw hS hA hK hZ hN 8 196 rfl kg196 rfl hl.1 rfl (Nat.le_of_ble_eq_true rfl) dX4_readPart_100 103 rfl (fun u27 H locs pu27 hw hS => ?_)
        obtain ⟨v28, r29, q30⟩ := u27
        have hv28 : zI 0 1 v28 := pu27.1
        have ju27 : kJ r29 := pu27.2.1
        have fu27 : zFr [196] r22 r29 := pu27.2.2.1
        have xu27 : (v28, r29, q30) = (Gk_take 22 r22 q23) := pu27.2.2.2.1
        have hE := zc_vrqE xu27 hE
        have hw : zPD D A (kW ct E y r29 q30) H := hw
        refine zfr 103 [.int v28] rfl rfl ?_
        refine lv_if_eq (tgt := 110) hx hb dX4_readPart_103 (by decide) (fun c31 => ?_) (fun c31 => ?_)
        · have hE := zifT c31 hE
          have k32 : zI 0 0 (v28) := zI.eqq c31 (zI.lit (a := 0) (b := 0) (c := 0) (by decide))
          refine lv_iconst (v := 0) hx hb dX4_readPart_110 (by decide) ?_
          exact ziretQ hQ hx hb hr rfl hlocks ((0 : Int32), r29, q30) rfl ⟨((zI.lit (a := 0) (b := 0) (c := 0) (by decide)).w (c := 0) (d := 1) (by decide)), ju27, ((((zFr.refl).tr fu4 rfl).tr fu20 rfl).tr fu27 rfl), (hE.symm.trans hX), trivial⟩ hw hS dX4_readPart_111
        · have hE := zifF c31 hE
          have k33 : zI 1 1 (v28) := zI.neD c31 hv28 (zI.lit (a := 0) (b := 0) (c := 0) (by decide)) (by decide)
          refine lv_iconst (v := 1) hx hb dX4_readPart_106 (by decide) ?_
          refine lv_goto (tgt := 111) hx hb dX4_readPart_107 (by decide) ?_
          exact ziretQ hQ hx hb hr rfl hlocks ((1 : Int32), r29, q30) rfl ⟨((zI.lit (a := 1) (b := 1) (c := 1) (by decide)).w (c := 0) (d := 1) (by decide)), ju27, ((((zFr.refl).tr fu4 rfl).tr fu20 rfl).tr fu27 rfl), (hE.symm.trans hX), trivial⟩ hw hS dX4_readPart_111
  have cut47 : ∀ (w47_3 : Int32) (w47_4 : Int32) (w47_s0 : Int32) (hw47_3 : zI 0 1 w47_3) (hw47_4 : zI 0 1 w47_4) (hE : X = Gk_readPart4_47 r q w47_3 w47_4 w47_s0), zKf p l e ({ frames := 12, cells := 0, slots := 0, locals := 520 }) s m a9 below meth c Q D A 47 6 [.int w47_s0] (kW ct E y r q) [(0, .ref (y 192)), (1, .ref (y 196)), (2, .int 4), (3, .int w47_3), (4, .int w47_4)] := by
    intro w47_3 w47_4 w47_s0 hw47_3 hw47_4 hE H locs ls hw hS hl
    unfold Gk_readPart4_47 at hE
    refine lv_istore (lv' := [(5, .int w47_s0), (0, .ref (y 192)), (1, .ref (y 196)), (2, .int 4), (3, .int w47_3), (4, .int w47_4)]) hx hb dX4_readPart_47 hl (by decide) rfl (fun ls hl => ?_)
    refine lv_iload_n hx hb dX4_readPart_49 rfl (lv_at hl 4 rfl) ?_
    refine lv_if_ne (tgt := 66) hx hb dX4_readPart_50 (by decide) (fun c34 => ?_) (fun c34 => ?_)
    · have hE := zifnT c34 hE
      have k35 : zI 1 1 (w47_3) := zI.neD c34 hw47_3 (zI.lit (a := 0) (b := 0) (c := 0) (by decide)) (by decide)
      exact cut66 w47_3 w47_4 w47_s0 (k35.w (c := 0) (d := 1) (by decide)) hw47_4 hE H locs ls hw hS (lv_sub hl [1, 2, 3, 4, 5, 0] rfl)
    · have hE := zifnF c34 hE
      have k36 : zI 0 0 (w47_3) := zI.eqq c34 (zI.lit (a := 0) (b := 0) (c := 0) (by decide))
      refine lv_iload hx hb dX4_readPart_53 (lv_at hl 0 rfl) ?_
      refine lv_bipush (v := (-13)) hx hb dX4_readPart_55 (by decide) ?_
      refine lv_icmp_ne (tgt := 66) hx hb dX4_readPart_57 (by decide) (fun c37 => ?_) (fun c37 => ?_)
      · have hE := zifnT c37 hE
        exact cut66 w47_3 w47_4 w47_s0 (k36.w (c := 0) (d := 1) (by decide)) hw47_4 hE H locs ls hw hS (lv_sub hl [1, 2, 3, 4, 5, 0] rfl)
      · have hE := zifnF c37 hE
        have k38 : zI (-13) (-13) (w47_s0) := zI.eqq c37 (zI.lit (a := (-13)) (b := (-13)) (c := (-13)) (by decide))
        refine lv_aload_n hx hb dX4_readPart_60 rfl (lv_at hl 2 rfl) ?_
        refine lv_iconst (v := 1) hx hb dX4_readPart_61 (by decide) ?_
        refine kcallV (As := [.int 1]) (rest := []) ⟨hx, hb, hml, hown, hts⟩ (kc_wrong l D ct E y (1 : Int32) r q hJ0 hEi) (wqX4_87_kc_wrong hts ⟨Nat.le_of_ble_eq_true rfl, Nat.le_of_ble_eq_true rfl⟩) hw hS hA hK hZ hN 8 196 rfl kg196 rfl hl.1 rfl (Nat.le_of_ble_eq_true rfl) dX4_readPart_62 65 rfl (fun u39 H locs pu39 hw hS => ?_)
        obtain ⟨v40, r41⟩ := u39
        have hv40 : zI 0 0 v40 := pu39.1
        have ju39 : kJ r41 := pu39.2.1
        have fu39 : zFr [196] r r41 := pu39.2.2.1
        have xu39 : (v40, r41) = (Gk_wrong (1 : Int32) r q) := pu39.2.2.2.1
        have hE := zc_vrE xu39 hE
        have hw : zPD D A (kW ct E y r41 q) H := hw
        refine zfr 65 [.int v40] rfl rfl ?_
        exact ziretQ hQ hx hb hr ((hv40.w (c := 0) (d := 1) (by decide)).rn) hlocks (v40, r41, q) rfl ⟨(hv40.w (c := 0) (d := 1) (by decide)), ju39, ((zFr.refl).tr fu39 rfl), (hE.symm.trans hX), trivial⟩ hw hS dX4_readPart_65
  have cut31 : ∀ (w31_3 : Int32) (w31_s0 : Int32) (hw31_3 : zI 0 1 w31_3) (hw31_s0 : zI 0 1 w31_s0) (hE : X = Gk_readPart4_31 r q w31_3 w31_s0), zKf p l e ({ frames := 12, cells := 0, slots := 0, locals := 520 }) s m a9 below meth c Q D A 31 6 [.int w31_s0] (kW ct E y r q) [(0, .ref (y 192)), (1, .ref (y 196)), (2, .int 4), (3, .int w31_3)] := by
    intro w31_3 w31_s0 hw31_3 hw31_s0 hE H locs ls hw hS hl
    unfold Gk_readPart4_31 at hE
    refine lv_istore (lv' := [(4, .int w31_s0), (0, .ref (y 192)), (1, .ref (y 196)), (2, .int 4), (3, .int w31_3)]) hx hb dX4_readPart_31 hl (by decide) rfl (fun ls hl => ?_)
    refine lv_iload hx hb dX4_readPart_33 (lv_at hl 0 rfl) ?_
    refine lv_if_eq (tgt := 43) hx hb dX4_readPart_35 (by decide) (fun c42 => ?_) (fun c42 => ?_)
    · have hE := zifT c42 hE
      have k43 : zI 0 0 (w31_s0) := zI.eqq c42 (zI.lit (a := 0) (b := 0) (c := 0) (by decide))
      refine lv_aload_n hx hb dX4_readPart_43 rfl (lv_at hl 2 rfl) ?_
      refine zcallW (va_runS (As := [.ref (y 196)]) (rest := []) ⟨hx, hb, hml, hown, hts⟩ (kc_valueHere l D ct E y r q hJ0 hEi H.size) (va_cwS 1 hts (kgS (zr19 4 rfl) (zr19 5 rfl) (zr4 12 rfl) (zr19 6 rfl)) rfl rfl rfl (by decide +kernel) ⟨Nat.le_of_ble_eq_true rfl, Nat.le_of_ble_eq_true rfl⟩) (cpreS hK hw hS hA hZ hN (List.range (kW ct E y r q).length) kWn (zrange _)) rfl rfl hl.1 rfl (lv_room (Nat.le_of_ble_eq_true rfl)) dX4_readPart_44 ⟨Nat.le_of_ble_eq_true rfl, Nat.le_of_ble_eq_true rfl⟩) hw hS hA 47 rfl (fun u44 H locs pu44 hw hS => ?_)
      have hu44 : zI (-2147483648) 2147483647 u44 := pu44.1
      have xu44 : u44 = (Gk_valueHere r q) := pu44.2.1
      have hE := zletE xu44 hE
      have hw : zPD D A (kW ct E y r q) H := hw
      refine zfr 47 [.int u44] rfl rfl ?_
      exact cut47 w31_3 w31_s0 u44 hw31_3 (k43.w (c := 0) (d := 1) (by decide)) hE H locs ls hw hS (lv_sub hl [1, 2, 3, 4, 0] rfl)
    · have hE := zifF c42 hE
      have k46 : zI 1 1 (w31_s0) := zI.neD c42 hw31_s0 (zI.lit (a := 0) (b := 0) (c := 0) (by decide)) (by decide)
      refine lv_bipush (v := (-5)) hx hb dX4_readPart_38 (by decide) ?_
      refine lv_goto (tgt := 47) hx hb dX4_readPart_40 (by decide) ?_
      exact cut47 w31_3 w31_s0 (-5) hw31_3 (k46.w (c := 0) (d := 1) (by decide)) hE H locs ls hw hS (lv_sub hl [1, 2, 3, 4, 0] rfl)
  have cut15 : ∀ (w15_s0 : Int32) (hw15_s0 : zI 0 1 w15_s0) (hE : X = Gk_readPart4_15 r q w15_s0), zKf p l e ({ frames := 12, cells := 0, slots := 0, locals := 520 }) s m a9 below meth c Q D A 15 6 [.int w15_s0] (kW ct E y r q) [(0, .ref (y 192)), (1, .ref (y 196)), (2, .int 4)] := by
    intro w15_s0 hw15_s0 hE H locs ls hw hS hl
    unfold Gk_readPart4_15 at hE
    refine lv_istore_n (lv' := [(3, .int w15_s0), (0, .ref (y 192)), (1, .ref (y 196)), (2, .int 4)]) hx hb dX4_readPart_15 rfl hl (by decide) rfl (fun ls hl => ?_)
    refine lv_aload_n hx hb dX4_readPart_16 rfl (lv_at hl 2 rfl) ?_
    refine va_get (D := D) (ci := 8) (v := .ref (E (zn (r 196 4)))) hx hb hts hiX9 hown hK hw.1 196 kg196 rfl 4 (by decide) lf36 (fun _ h9 => h9) rfl dX4_readPart_17 (cgenSE (show zI 0 32 (r 196 4) from hJ0.i 196 4) (fun v47 ev47 hv47 => ?_))
    have hE := zletE ev47 hE
    refine cgets 18 (by decide) hx hb hZ hS hown lf80 dX4_readPart_20 (ztop (.ref (E (zn 18))) rfl ?_)
    refine cxacmp_ne (a := v47) (b := (18 : Int32)) (tgt := 30) hEi hv47 ((zI.lit (a := 18) (b := 18) (c := 18) (by decide)).w (c := 0) (d := 32) (by decide)) hx hb dX4_readPart_23 (by decide) (fun c48 => ?_) (fun c48 => ?_)
    · have hE := zifnT c48 hE
      refine lv_iconst (v := 0) hx hb dX4_readPart_30 (by decide) ?_
      exact cut31 w15_s0 0 hw15_s0 ((zI.lit (a := 0) (b := 0) (c := 0) (by decide)).w (c := 0) (d := 1) (by decide)) hE H locs ls hw hS (lv_sub hl [1, 2, 3, 0] rfl)
    · have hE := zifnF c48 hE
      refine lv_iconst (v := 1) hx hb dX4_readPart_26 (by decide) ?_
      refine lv_goto (tgt := 31) hx hb dX4_readPart_27 (by decide) ?_
      exact cut31 w15_s0 1 hw15_s0 ((zI.lit (a := 1) (b := 1) (c := 1) (by decide)).w (c := 0) (d := 1) (by decide)) hE H locs ls hw hS (lv_sub hl [1, 2, 3, 0] rfl)
  intro H locs hw hS ls hl
  have hl : lv_has ls 6 [(0, .ref (y 192)), (1, .ref (y 196)), (2, .int 4)] := hl
  have hE := hX
  unfold Gk_readPart4 at hE
  refine lv_aload_n hx hb dX4_readPart_0 rfl (lv_at hl 1 rfl) ?_
  refine va_get (D := D) (ci := 8) (v := .ref (E (zn (r 196 4)))) hx hb hts hiX9 hown hK hw.1 196 kg196 rfl 4 (by decide) lf36 (fun _ h9 => h9) rfl dX4_readPart_1 (cgenSE (show zI 0 32 (r 196 4) from hJ0.i 196 4) (fun v49 ev49 hv49 => ?_))
  have hE := zletE ev49 hE
  refine cgets 21 (by decide) hx hb hZ hS hown lf77 dX4_readPart_4 (ztop (.ref (E (zn 21))) rfl ?_)
  refine cxacmp_ne (a := v49) (b := (21 : Int32)) (tgt := 14) hEi hv49 ((zI.lit (a := 21) (b := 21) (c := 21) (by decide)).w (c := 0) (d := 32) (by decide)) hx hb dX4_readPart_7 (by decide) (fun c50 => ?_) (fun c50 => ?_)
  · have hE := zifnT c50 hE
    refine lv_iconst (v := 0) hx hb dX4_readPart_14 (by decide) ?_
    exact cut15 0 ((zI.lit (a := 0) (b := 0) (c := 0) (by decide)).w (c := 0) (d := 1) (by decide)) hE H locs ls hw hS (lv_sub hl [0, 1, 2] rfl)
  · have hE := zifnF c50 hE
    refine lv_iconst (v := 1) hx hb dX4_readPart_10 (by decide) ?_
    refine lv_goto (tgt := 15) hx hb dX4_readPart_11 (by decide) ?_
    exact cut15 1 ((zI.lit (a := 1) (b := 1) (c := 1) (by decide)).w (c := 0) (d := 1) (by decide)) hE H locs ls hw hS (lv_sub hl [0, 1, 2] rfl)

set_option maxHeartbeats 4000000 in
set_option maxRecDepth 100000 in
theorem kc_readProduct4 (l : Launch) (D : va_G) (ct : Nat → ClassId) (E : Nat → Nat) (y : Nat → Nat) (r : zRr) (q : zRq) (hJ0 : kJ r) (hEi : kEi E) : cC l yX4_readProduct (.code yX4_readProduct cX4_readProduct 4 (some .boolean) :: wsL_law0) ({ frames := 13, cells := 0, slots := 0, locals := 560 }) D ct E [.ref (y 192), .ref (y 196), .int 4] (kW ct E y r q) (S := Int32 × zRr × zRq) (fun u => some (.int u.1)) (fun u => zI 0 1 u.1 ∧ kJ u.2.1 ∧ zFr [196, 192, 193] r u.2.1 ∧ u = (Gk_readProduct4 r q) ∧ True) (fun u => kW ct E y u.2.1 u.2.2) := by
  refine cofQ cX4_readProduct 4 (some .boolean) (by decide) rfl (Nat.le_of_ble_eq_true rfl) ?_
  intro p e s m below meth c A a9 Q ha9 hx hb hr hml hts hown hlocks hname hK hA hZ hN hQ
  have hown : s.vm.findClass RX4 = some m.cls := hown
  have hiX9 : ∀ w ∈ wsX90, w ∈ .code yX4_readProduct cX4_readProduct 4 (some .boolean) :: wsL_law0 := fun _ h => ki (zs_wsX90 _ h)
  have lf36 := hts (.fieldLink RX4 36 "BeardPass$Tape" "sort" "LBeardPass$Sort;") (ki (zr18 17 rfl))
  have lf74 := hts (.fieldLink RX4 74 "BeardPass$Sort" "TIMES" "LBeardPass$Sort;") (ki (zr19 18 rfl))
  obtain ⟨X, hX⟩ : ∃ X, X = (Gk_readProduct4 r q) := ⟨_, rfl⟩
  have cut13 : ∀ (n13 : Nat) (w13_3 : Int32) (rw13 : zRr) (qw13 : zRq) (hw13_3 : zI 0 1000 w13_3) (jw13 : kJ rw13) (fw13 : zFr [196, 192, 193] r rw13) (hE : X = Gk_readProduct4_13 n13 w13_3 rw13 qw13), 1000 - w13_3.toInt < (n13 : Int) → zKf p l e ({ frames := 13, cells := 0, slots := 0, locals := 560 }) s m a9 below meth c Q D A 13 4 [] (kW ct E y rw13 qw13) [(0, .ref (y 192)), (1, .ref (y 196)), (2, .int 4), (3, .int w13_3)] := by
    intro n13
    induction n13 with
    | zero => intro w13_3 rw13 qw13 hw13_3 jw13 fw13 hE hm13; exact zI.no hw13_3 (by decide) hm13
    | succ n13 ih13 =>
      intro w13_3 rw13 qw13 hw13_3 jw13 fw13 hE hm13
      have hE : X = Bk_readProduct4_13 (Gk_readProduct4_13 n13) w13_3 rw13 qw13 := hE
      unfold Bk_readProduct4_13 at hE
      intro H locs ls hw hS hl
      refine lv_iload_n hx hb dX4_readProduct_13 rfl (lv_at hl 3 rfl) ?_
      refine lv_sipush (v := 1000) hx hb dX4_readProduct_14 (by decide) ?_
      refine lv_icmp_ge (tgt := 57) hx hb dX4_readProduct_17 (by decide) (fun c1 => ?_) (fun c1 => ?_)
      · have hE := zifT c1 hE
        have k2 : zI 1000 1000 (w13_3) := zI.leD c1 (zI.lit (a := 1000) (b := 1000) (c := 1000) (by decide)) hw13_3 (by decide)
        refine lv_iconst (v := 1) hx hb dX4_readProduct_57 (by decide) ?_
        exact ziretQ hQ hx hb hr rfl hlocks ((1 : Int32), rw13, qw13) rfl ⟨((zI.lit (a := 1) (b := 1) (c := 1) (by decide)).w (c := 0) (d := 1) (by decide)), jw13, fw13, (hE.symm.trans hX), trivial⟩ hw hS dX4_readProduct_58
      · have hE := zifF c1 hE
        have k3 : zI 0 999 (w13_3) := zI.ltU (zI.nle c1) hw13_3 (zI.lit (a := 1000) (b := 1000) (c := 1000) (by decide)) (by decide)
        refine lv_aload_n hx hb dX4_readProduct_20 rfl (lv_at hl 1 rfl) ?_
        refine va_get (D := D) (ci := 8) (v := .ref (E (zn (rw13 196 4)))) hx hb hts hiX9 hown hK hw.1 196 kg196 rfl 4 (by decide) lf36 (fun _ h9 => h9) rfl dX4_readProduct_21 (cgenSE (show zI 0 32 (rw13 196 4) from jw13.i 196 4) (fun v4 ev4 hv4 => ?_))
        have hE := zletE ev4 hE
        refine cgets 27 (by decide) hx hb hZ hS hown lf74 dX4_readProduct_24 (ztop (.ref (E (zn 27))) rfl ?_)
        refine cxacmp_ne (a := v4) (b := (27 : Int32)) (tgt := 57) hEi hv4 ((zI.lit (a := 27) (b := 27) (c := 27) (by decide)).w (c := 0) (d := 32) (by decide)) hx hb dX4_readProduct_27 (by decide) (fun c5 => ?_) (fun c5 => ?_)
        · have hE := zifnT c5 hE
          refine lv_iconst (v := 1) hx hb dX4_readProduct_57 (by decide) ?_
          exact ziretQ hQ hx hb hr rfl hlocks ((1 : Int32), rw13, qw13) rfl ⟨((zI.lit (a := 1) (b := 1) (c := 1) (by decide)).w (c := 0) (d := 1) (by decide)), jw13, fw13, (hE.symm.trans hX), trivial⟩ hw hS dX4_readProduct_58
        · have hE := zifnF c5 hE
          refine lv_aload_n hx hb dX4_readProduct_30 rfl (lv_at hl 1 rfl) ?_
          refine kcallV (As := []) (rest := []) ⟨hx, hb, hml, hown, hts⟩ (kc_step l D ct E y rw13 qw13 jw13 hEi) (wqX4_50_kc_step hts ⟨Nat.le_of_ble_eq_true rfl, Nat.le_of_ble_eq_true rfl⟩) hw hS hA hK hZ hN 8 196 rfl kg196 rfl hl.1 rfl (Nat.le_of_ble_eq_true rfl) dX4_readProduct_31 34 rfl (fun u6 H locs pu6 hw hS => ?_)
          obtain ⟨r7, q8⟩ := u6
          have ju6 : kJ r7 := pu6.1
          have fu6 : zFr [196] rw13 r7 := pu6.2.1
          have xu6 : (r7, q8) = (Gk_step rw13 qw13) := pu6.2.2.1
          have hE := zc_rqE xu6 hE
          have hw : zPD D A (kW ct E y r7 q8) H := hw
          refine zfr 34 [] rfl rfl ?_
          refine lv_aload_n hx hb dX4_readProduct_34 rfl (lv_at hl 0 rfl) ?_
          refine lv_aload_n hx hb dX4_readProduct_35 rfl (lv_at hl 1 rfl) ?_
          refine lv_iload_n hx hb dX4_readProduct_36 rfl (lv_at hl 2 rfl) ?_
          refine kcallV (As := [.ref (y 196), .int 4]) (rest := []) ⟨hx, hb, hml, hown, hts⟩ (kc_readPart4 l D ct E y r7 q8 ju6 hEi) (wqX4_71_kc_readPart4 hts ⟨Nat.le_of_ble_eq_true rfl, Nat.le_of_ble_eq_true rfl⟩) hw hS hA hK hZ hN 4 192 rfl kg192 rfl hl.1 rfl (Nat.le_of_ble_eq_true rfl) dX4_readProduct_37 40 rfl (fun u9 H locs pu9 hw hS => ?_)
          obtain ⟨v10, r11, q12⟩ := u9
          have hv10 : zI 0 1 v10 := pu9.1
          have ju9 : kJ r11 := pu9.2.1
          have fu9 : zFr [196, 192, 193] r7 r11 := pu9.2.2.1
          have xu9 : (v10, r11, q12) = (Gk_readPart4 r7 q8) := pu9.2.2.2.1
          have hE := zc_vrqE xu9 hE
          have hw : zPD D A (kW ct E y r11 q12) H := hw
          refine zfr 40 [.int v10] rfl rfl ?_
          refine lv_if_ne (tgt := 45) hx hb dX4_readProduct_40 (by decide) (fun c13 => ?_) (fun c13 => ?_)
          · have hE := zifnT c13 hE
            have k14 : zI 1 1 (v10) := zI.neD c13 hv10 (zI.lit (a := 0) (b := 0) (c := 0) (by decide)) (by decide)
            refine lv_aload_n hx hb dX4_readProduct_45 rfl (lv_at hl 0 rfl) ?_
            refine lv_bipush (v := (-12)) hx hb dX4_readProduct_46 (by decide) ?_
            refine kcallV (As := [.int (-12)]) (rest := []) ⟨hx, hb, hml, hown, hts⟩ (kc_add l D ct E y ((-12) : Int32) r11 q12 ju9 hEi) (wqX4_22_kc_add hts ⟨Nat.le_of_ble_eq_true rfl, Nat.le_of_ble_eq_true rfl⟩) hw hS hA hK hZ hN 4 192 rfl kg192 rfl hl.1 rfl (Nat.le_of_ble_eq_true rfl) dX4_readProduct_48 51 rfl (fun u15 H locs pu15 hw hS => ?_)
            have ju15 : kJ u15 := pu15.1
            have fu15 : zFr [192, 193] r11 u15 := pu15.2.1
            have xu15 : u15 = (Gk_add ((-12) : Int32) r11 q12) := pu15.2.2.1
            have hE := zletE xu15 hE
            have hw : zPD D A (kW ct E y u15 q12) H := hw
            refine zfr 51 [] rfl rfl ?_
            refine lv_iinc (v := w13_3 + 1) (lv' := [(3, .int (w13_3 + 1)), (0, .ref (y 192)), (1, .ref (y 196)), (2, .int 4)]) hx hb dX4_readProduct_51 hl (k := 3) rfl (rfl) (by decide) rfl (fun ls hl => ?_)
            have k17 : zI 1 1000 (w13_3 + 1) := zI.add k3 (zI.lit (a := 1) (b := 1) (by decide)) (by decide)
            refine lv_goto (tgt := 13) hx hb dX4_readProduct_54 (by decide) ?_
            exact ih13 (w13_3 + 1) u15 q12 (k17.w (c := 0) (d := 1000) (by decide)) ju15 (((fw13.tr fu6 rfl).tr fu9 rfl).tr fu15 rfl) hE (zI.up k3 (by decide) hm13) H locs ls hw hS (lv_sub hl [1, 2, 3, 0] rfl)
          · have hE := zifnF c13 hE
            have k18 : zI 0 0 (v10) := zI.eqq c13 (zI.lit (a := 0) (b := 0) (c := 0) (by decide))
            refine lv_iconst (v := 0) hx hb dX4_readProduct_43 (by decide) ?_
            exact ziretQ hQ hx hb hr rfl hlocks ((0 : Int32), r11, q12) rfl ⟨((zI.lit (a := 0) (b := 0) (c := 0) (by decide)).w (c := 0) (d := 1) (by decide)), ju9, ((fw13.tr fu6 rfl).tr fu9 rfl), (hE.symm.trans hX), trivial⟩ hw hS dX4_readProduct_44
  intro H locs hw hS ls hl
  have hl : lv_has ls 4 [(0, .ref (y 192)), (1, .ref (y 196)), (2, .int 4)] := hl
  have hE := hX
  unfold Gk_readProduct4 at hE
  refine lv_aload_n hx hb dX4_readProduct_0 rfl (lv_at hl 0 rfl) ?_
  refine lv_aload_n hx hb dX4_readProduct_1 rfl (lv_at hl 1 rfl) ?_
  refine lv_iload_n hx hb dX4_readProduct_2 rfl (lv_at hl 2 rfl) ?_
  refine kcallV (As := [.ref (y 196), .int 4]) (rest := []) ⟨hx, hb, hml, hown, hts⟩ (kc_readPart4 l D ct E y r q hJ0 hEi) (wqX4_71_kc_readPart4 hts ⟨Nat.le_of_ble_eq_true rfl, Nat.le_of_ble_eq_true rfl⟩) hw hS hA hK hZ hN 4 192 rfl kg192 rfl hl.1 rfl (Nat.le_of_ble_eq_true rfl) dX4_readProduct_3 6 rfl (fun u19 H locs pu19 hw hS => ?_)
  obtain ⟨v20, r21, q22⟩ := u19
  have hv20 : zI 0 1 v20 := pu19.1
  have ju19 : kJ r21 := pu19.2.1
  have fu19 : zFr [196, 192, 193] r r21 := pu19.2.2.1
  have xu19 : (v20, r21, q22) = (Gk_readPart4 r q) := pu19.2.2.2.1
  have hE := zc_vrqE xu19 hE
  have hw : zPD D A (kW ct E y r21 q22) H := hw
  refine zfr 6 [.int v20] rfl rfl ?_
  refine lv_if_ne (tgt := 11) hx hb dX4_readProduct_6 (by decide) (fun c23 => ?_) (fun c23 => ?_)
  · have hE := zifnT c23 hE
    have k24 : zI 1 1 (v20) := zI.neD c23 hv20 (zI.lit (a := 0) (b := 0) (c := 0) (by decide)) (by decide)
    refine lv_iconst (v := 0) hx hb dX4_readProduct_11 (by decide) ?_
    refine lv_istore_n (lv' := [(3, .int 0), (0, .ref (y 192)), (1, .ref (y 196)), (2, .int 4)]) hx hb dX4_readProduct_12 rfl hl (by decide) rfl (fun ls hl => ?_)
    exact cut13 1001 0 r21 q22 ((zI.lit (a := 0) (b := 0) (c := 0) (by decide)).w (c := 0) (d := 1000) (by decide)) ju19 ((zFr.refl).tr fu19 rfl) hE (zI.m0 (zI.lit (a := 0) (b := 0) (c := 0) (by decide)) (by decide)) H locs ls hw hS (lv_sub hl [1, 2, 3, 0] rfl)
  · have hE := zifnF c23 hE
    have k25 : zI 0 0 (v20) := zI.eqq c23 (zI.lit (a := 0) (b := 0) (c := 0) (by decide))
    refine lv_iconst (v := 0) hx hb dX4_readProduct_9 (by decide) ?_
    exact ziretQ hQ hx hb hr rfl hlocks ((0 : Int32), r21, q22) rfl ⟨((zI.lit (a := 0) (b := 0) (c := 0) (by decide)).w (c := 0) (d := 1) (by decide)), ju19, ((zFr.refl).tr fu19 rfl), (hE.symm.trans hX), trivial⟩ hw hS dX4_readProduct_10

set_option maxHeartbeats 4000000 in
set_option maxRecDepth 100000 in
theorem kc_readSum4 (l : Launch) (D : va_G) (ct : Nat → ClassId) (E : Nat → Nat) (y : Nat → Nat) (r : zRr) (q : zRq) (hJ0 : kJ r) (hEi : kEi E) : cC l yX4_readSum (.code yX4_readSum cX4_readSum 5 (some .boolean) :: wsL_law0) ({ frames := 14, cells := 0, slots := 0, locals := 600 }) D ct E [.ref (y 192), .ref (y 196), .int 4] (kW ct E y r q) (S := Int32 × zRr × zRq) (fun u => some (.int u.1)) (fun u => zI 0 1 u.1 ∧ kJ u.2.1 ∧ zFr [196, 192, 193] r u.2.1 ∧ u = (Gk_readSum4 r q) ∧ True) (fun u => kW ct E y u.2.1 u.2.2) := by
  refine cofQ cX4_readSum 5 (some .boolean) (by decide) rfl (Nat.le_of_ble_eq_true rfl) ?_
  intro p e s m below meth c A a9 Q ha9 hx hb hr hml hts hown hlocks hname hK hA hZ hN hQ
  have hown : s.vm.findClass RX4 = some m.cls := hown
  have hiX9 : ∀ w ∈ wsX90, w ∈ .code yX4_readSum cX4_readSum 5 (some .boolean) :: wsL_law0 := fun _ h => ki (zs_wsX90 _ h)
  have lf36 := hts (.fieldLink RX4 36 "BeardPass$Tape" "sort" "LBeardPass$Sort;") (ki (zr18 17 rfl))
  have lf65 := hts (.fieldLink RX4 65 "BeardPass$Sort" "PLUS" "LBeardPass$Sort;") (ki (zr19 20 rfl))
  have lf68 := hts (.fieldLink RX4 68 "BeardPass$Sort" "MINUS" "LBeardPass$Sort;") (ki (zr19 21 rfl))
  obtain ⟨X, hX⟩ : ∃ X, X = (Gk_readSum4 r q) := ⟨_, rfl⟩
  have cut13 : ∀ (n13 : Nat) (w13_3 : Int32) (rw13 : zRr) (qw13 : zRq) (hw13_3 : zI 0 1000 w13_3) (jw13 : kJ rw13) (fw13 : zFr [196, 192, 193] r rw13) (hE : X = Gk_readSum4_13 n13 w13_3 rw13 qw13), 1000 - w13_3.toInt < (n13 : Int) → zKf p l e ({ frames := 14, cells := 0, slots := 0, locals := 600 }) s m a9 below meth c Q D A 13 5 [] (kW ct E y rw13 qw13) [(0, .ref (y 192)), (1, .ref (y 196)), (2, .int 4), (3, .int w13_3)] := by
    intro n13
    induction n13 with
    | zero => intro w13_3 rw13 qw13 hw13_3 jw13 fw13 hE hm13; exact zI.no hw13_3 (by decide) hm13
    | succ n13 ih13 =>
      intro w13_3 rw13 qw13 hw13_3 jw13 fw13 hE hm13
      have hE : X = Bk_readSum4_13 (Gk_readSum4_13 n13) w13_3 rw13 qw13 := hE
      unfold Bk_readSum4_13 at hE
      have cut57 : ∀ (w57_s0 : Int32) (hw57_3 : zI 0 999 w13_3) (hw57_s0 : zI (-11) (-2) w57_s0) (hE : X = Gk_readSum4_57 w13_3 rw13 qw13 (Gk_readSum4_13 n13) w57_s0), zKf p l e ({ frames := 14, cells := 0, slots := 0, locals := 600 }) s m a9 below meth c Q D A 57 5 [.int w57_s0] (kW ct E y rw13 qw13) [(0, .ref (y 192)), (1, .ref (y 196)), (2, .int 4), (3, .int w13_3)] := by
        intro w57_s0 hw57_3 hw57_s0 hE H locs ls hw hS hl
        unfold Gk_readSum4_57 at hE
        refine lv_istore (lv' := [(4, .int w57_s0), (0, .ref (y 192)), (1, .ref (y 196)), (2, .int 4), (3, .int w13_3)]) hx hb dX4_readSum_57 hl (by decide) rfl (fun ls hl => ?_)
        refine lv_aload_n hx hb dX4_readSum_59 rfl (lv_at hl 2 rfl) ?_
        refine kcallV (As := []) (rest := []) ⟨hx, hb, hml, hown, hts⟩ (kc_step l D ct E y rw13 qw13 jw13 hEi) (wqX4_50_kc_step hts ⟨Nat.le_of_ble_eq_true rfl, Nat.le_of_ble_eq_true rfl⟩) hw hS hA hK hZ hN 8 196 rfl kg196 rfl hl.1 rfl (Nat.le_of_ble_eq_true rfl) dX4_readSum_60 63 rfl (fun u1 H locs pu1 hw hS => ?_)
        obtain ⟨r2, q3⟩ := u1
        have ju1 : kJ r2 := pu1.1
        have fu1 : zFr [196] rw13 r2 := pu1.2.1
        have xu1 : (r2, q3) = (Gk_step rw13 qw13) := pu1.2.2.1
        have hE := zc_rqE xu1 hE
        have hw : zPD D A (kW ct E y r2 q3) H := hw
        refine zfr 63 [] rfl rfl ?_
        refine lv_aload_n hx hb dX4_readSum_63 rfl (lv_at hl 1 rfl) ?_
        refine lv_aload_n hx hb dX4_readSum_64 rfl (lv_at hl 2 rfl) ?_
        refine lv_iload_n hx hb dX4_readSum_65 rfl (lv_at hl 3 rfl) ?_
        refine kcallV (As := [.ref (y 196), .int 4]) (rest := []) ⟨hx, hb, hml, hown, hts⟩ (kc_readProduct4 l D ct E y r2 q3 ju1 hEi) (wqX4_62_kc_readProduct4 hts ⟨Nat.le_of_ble_eq_true rfl, Nat.le_of_ble_eq_true rfl⟩) hw hS hA hK hZ hN 4 192 rfl kg192 rfl hl.1 rfl (Nat.le_of_ble_eq_true rfl) dX4_readSum_66 69 rfl (fun u4 H locs pu4 hw hS => ?_)
        obtain ⟨v5, r6, q7⟩ := u4
        have hv5 : zI 0 1 v5 := pu4.1
        have ju4 : kJ r6 := pu4.2.1
        have fu4 : zFr [196, 192, 193] r2 r6 := pu4.2.2.1
        have xu4 : (v5, r6, q7) = (Gk_readProduct4 r2 q3) := pu4.2.2.2.1
        have hE := zc_vrqE xu4 hE
        have hw : zPD D A (kW ct E y r6 q7) H := hw
        refine zfr 69 [.int v5] rfl rfl ?_
        refine lv_if_ne (tgt := 74) hx hb dX4_readSum_69 (by decide) (fun c8 => ?_) (fun c8 => ?_)
        · have hE := zifnT c8 hE
          have k9 : zI 1 1 (v5) := zI.neD c8 hv5 (zI.lit (a := 0) (b := 0) (c := 0) (by decide)) (by decide)
          refine lv_aload_n hx hb dX4_readSum_74 rfl (lv_at hl 1 rfl) ?_
          refine lv_iload hx hb dX4_readSum_75 (lv_at hl 0 rfl) ?_
          refine kcallV (As := [.int w57_s0]) (rest := []) ⟨hx, hb, hml, hown, hts⟩ (kc_add l D ct E y w57_s0 r6 q7 ju4 hEi) (wqX4_22_kc_add hts ⟨Nat.le_of_ble_eq_true rfl, Nat.le_of_ble_eq_true rfl⟩) hw hS hA hK hZ hN 4 192 rfl kg192 rfl hl.1 rfl (Nat.le_of_ble_eq_true rfl) dX4_readSum_77 80 rfl (fun u10 H locs pu10 hw hS => ?_)
          have ju10 : kJ u10 := pu10.1
          have fu10 : zFr [192, 193] r6 u10 := pu10.2.1
          have xu10 : u10 = (Gk_add w57_s0 r6 q7) := pu10.2.2.1
          have hE := zletE xu10 hE
          have hw : zPD D A (kW ct E y u10 q7) H := hw
          refine zfr 80 [] rfl rfl ?_
          refine lv_iinc (v := w13_3 + 1) (lv' := [(3, .int (w13_3 + 1)), (4, .int w57_s0), (0, .ref (y 192)), (1, .ref (y 196)), (2, .int 4)]) hx hb dX4_readSum_80 hl (k := 4) rfl (rfl) (by decide) rfl (fun ls hl => ?_)
          have k12 : zI 1 1000 (w13_3 + 1) := zI.add hw57_3 (zI.lit (a := 1) (b := 1) (by decide)) (by decide)
          refine lv_goto (tgt := 13) hx hb dX4_readSum_83 (by decide) ?_
          exact ih13 (w13_3 + 1) u10 q7 (k12.w (c := 0) (d := 1000) (by decide)) ju10 (((fw13.tr fu1 rfl).tr fu4 rfl).tr fu10 rfl) hE (zI.up hw57_3 (by decide) hm13) H locs ls hw hS (lv_sub hl [2, 3, 4, 0] rfl)
        · have hE := zifnF c8 hE
          have k13 : zI 0 0 (v5) := zI.eqq c8 (zI.lit (a := 0) (b := 0) (c := 0) (by decide))
          refine lv_iconst (v := 0) hx hb dX4_readSum_72 (by decide) ?_
          exact ziretQ hQ hx hb hr rfl hlocks ((0 : Int32), r6, q7) rfl ⟨((zI.lit (a := 0) (b := 0) (c := 0) (by decide)).w (c := 0) (d := 1) (by decide)), ju4, ((fw13.tr fu1 rfl).tr fu4 rfl), (hE.symm.trans hX), trivial⟩ hw hS dX4_readSum_73
      have cut40 : ∀ (hw40_3 : zI 0 999 w13_3) (hE : X = Gk_readSum4_40 w13_3 rw13 qw13 (Gk_readSum4_13 n13) ), zKf p l e ({ frames := 14, cells := 0, slots := 0, locals := 600 }) s m a9 below meth c Q D A 40 5 [] (kW ct E y rw13 qw13) [(0, .ref (y 192)), (1, .ref (y 196)), (2, .int 4), (3, .int w13_3)] := by
        intro hw40_3 hE H locs ls hw hS hl
        unfold Gk_readSum4_40 at hE
        refine lv_aload_n hx hb dX4_readSum_40 rfl (lv_at hl 1 rfl) ?_
        refine va_get (D := D) (ci := 8) (v := .ref (E (zn (rw13 196 4)))) hx hb hts hiX9 hown hK hw.1 196 kg196 rfl 4 (by decide) lf36 (fun _ h9 => h9) rfl dX4_readSum_41 (cgenSE (show zI 0 32 (rw13 196 4) from jw13.i 196 4) (fun v14 ev14 hv14 => ?_))
        have hE := zletE ev14 hE
        refine cgets 25 (by decide) hx hb hZ hS hown lf65 dX4_readSum_44 (ztop (.ref (E (zn 25))) rfl ?_)
        refine cxacmp_ne (a := v14) (b := (25 : Int32)) (tgt := 55) hEi hv14 ((zI.lit (a := 25) (b := 25) (c := 25) (by decide)).w (c := 0) (d := 32) (by decide)) hx hb dX4_readSum_47 (by decide) (fun c15 => ?_) (fun c15 => ?_)
        · have hE := zifnT c15 hE
          refine lv_bipush (v := (-11)) hx hb dX4_readSum_55 (by decide) ?_
          exact cut57 (-11) hw40_3 ((zI.lit (a := (-11)) (b := (-11)) (c := (-11)) (by decide)).w (c := (-11)) (d := (-2)) (by decide)) hE H locs ls hw hS (lv_sub hl [0, 1, 2, 3] rfl)
        · have hE := zifnF c15 hE
          refine lv_bipush (v := (-10)) hx hb dX4_readSum_50 (by decide) ?_
          refine lv_goto (tgt := 57) hx hb dX4_readSum_52 (by decide) ?_
          exact cut57 (-10) hw40_3 ((zI.lit (a := (-10)) (b := (-10)) (c := (-10)) (by decide)).w (c := (-11)) (d := (-2)) (by decide)) hE H locs ls hw hS (lv_sub hl [0, 1, 2, 3] rfl)
      intro H locs ls hw hS hl
      refine lv_iload_n hx hb dX4_readSum_13 rfl (lv_at hl 3 rfl) ?_
      refine lv_sipush (v := 1000) hx hb dX4_readSum_14 (by decide) ?_
      refine lv_icmp_ge (tgt := 86) hx hb dX4_readSum_17 (by decide) (fun c16 => ?_) (fun c16 => ?_)
      · have hE := zifT c16 hE
        have k17 : zI 1000 1000 (w13_3) := zI.leD c16 (zI.lit (a := 1000) (b := 1000) (c := 1000) (by decide)) hw13_3 (by decide)
        refine lv_iconst (v := 1) hx hb dX4_readSum_86 (by decide) ?_
        exact ziretQ hQ hx hb hr rfl hlocks ((1 : Int32), rw13, qw13) rfl ⟨((zI.lit (a := 1) (b := 1) (c := 1) (by decide)).w (c := 0) (d := 1) (by decide)), jw13, fw13, (hE.symm.trans hX), trivial⟩ hw hS dX4_readSum_87
      · have hE := zifF c16 hE
        have k18 : zI 0 999 (w13_3) := zI.ltU (zI.nle c16) hw13_3 (zI.lit (a := 1000) (b := 1000) (c := 1000) (by decide)) (by decide)
        refine lv_aload_n hx hb dX4_readSum_20 rfl (lv_at hl 1 rfl) ?_
        refine va_get (D := D) (ci := 8) (v := .ref (E (zn (rw13 196 4)))) hx hb hts hiX9 hown hK hw.1 196 kg196 rfl 4 (by decide) lf36 (fun _ h9 => h9) rfl dX4_readSum_21 (cgenSE (show zI 0 32 (rw13 196 4) from jw13.i 196 4) (fun v19 ev19 hv19 => ?_))
        have hE := zletE ev19 hE
        refine cgets 25 (by decide) hx hb hZ hS hown lf65 dX4_readSum_24 (ztop (.ref (E (zn 25))) rfl ?_)
        refine cxacmp_eq (a := v19) (b := (25 : Int32)) (tgt := 40) hEi hv19 ((zI.lit (a := 25) (b := 25) (c := 25) (by decide)).w (c := 0) (d := 32) (by decide)) hx hb dX4_readSum_27 (by decide) (fun c20 => ?_) (fun c20 => ?_)
        · have hE := zifT c20 hE
          exact cut40 k18 hE H locs ls hw hS (lv_sub hl [0, 1, 2, 3] rfl)
        · have hE := zifF c20 hE
          refine lv_aload_n hx hb dX4_readSum_30 rfl (lv_at hl 1 rfl) ?_
          refine va_get (D := D) (ci := 8) (v := .ref (E (zn (rw13 196 4)))) hx hb hts hiX9 hown hK hw.1 196 kg196 rfl 4 (by decide) lf36 (fun _ h9 => h9) rfl dX4_readSum_31 (cgenSE (show zI 0 32 (rw13 196 4) from jw13.i 196 4) (fun v21 ev21 hv21 => ?_))
          have hE := zletE ev21 hE
          refine cgets 26 (by decide) hx hb hZ hS hown lf68 dX4_readSum_34 (ztop (.ref (E (zn 26))) rfl ?_)
          refine cxacmp_ne (a := v21) (b := (26 : Int32)) (tgt := 86) hEi hv21 ((zI.lit (a := 26) (b := 26) (c := 26) (by decide)).w (c := 0) (d := 32) (by decide)) hx hb dX4_readSum_37 (by decide) (fun c22 => ?_) (fun c22 => ?_)
          · have hE := zifnT c22 hE
            refine lv_iconst (v := 1) hx hb dX4_readSum_86 (by decide) ?_
            exact ziretQ hQ hx hb hr rfl hlocks ((1 : Int32), rw13, qw13) rfl ⟨((zI.lit (a := 1) (b := 1) (c := 1) (by decide)).w (c := 0) (d := 1) (by decide)), jw13, fw13, (hE.symm.trans hX), trivial⟩ hw hS dX4_readSum_87
          · have hE := zifnF c22 hE
            exact cut40 k18 hE H locs ls hw hS (lv_sub hl [0, 1, 2, 3] rfl)
  intro H locs hw hS ls hl
  have hl : lv_has ls 5 [(0, .ref (y 192)), (1, .ref (y 196)), (2, .int 4)] := hl
  have hE := hX
  unfold Gk_readSum4 at hE
  refine lv_aload_n hx hb dX4_readSum_0 rfl (lv_at hl 0 rfl) ?_
  refine lv_aload_n hx hb dX4_readSum_1 rfl (lv_at hl 1 rfl) ?_
  refine lv_iload_n hx hb dX4_readSum_2 rfl (lv_at hl 2 rfl) ?_
  refine kcallV (As := [.ref (y 196), .int 4]) (rest := []) ⟨hx, hb, hml, hown, hts⟩ (kc_readProduct4 l D ct E y r q hJ0 hEi) (wqX4_62_kc_readProduct4 hts ⟨Nat.le_of_ble_eq_true rfl, Nat.le_of_ble_eq_true rfl⟩) hw hS hA hK hZ hN 4 192 rfl kg192 rfl hl.1 rfl (Nat.le_of_ble_eq_true rfl) dX4_readSum_3 6 rfl (fun u23 H locs pu23 hw hS => ?_)
  obtain ⟨v24, r25, q26⟩ := u23
  have hv24 : zI 0 1 v24 := pu23.1
  have ju23 : kJ r25 := pu23.2.1
  have fu23 : zFr [196, 192, 193] r r25 := pu23.2.2.1
  have xu23 : (v24, r25, q26) = (Gk_readProduct4 r q) := pu23.2.2.2.1
  have hE := zc_vrqE xu23 hE
  have hw : zPD D A (kW ct E y r25 q26) H := hw
  refine zfr 6 [.int v24] rfl rfl ?_
  refine lv_if_ne (tgt := 11) hx hb dX4_readSum_6 (by decide) (fun c27 => ?_) (fun c27 => ?_)
  · have hE := zifnT c27 hE
    have k28 : zI 1 1 (v24) := zI.neD c27 hv24 (zI.lit (a := 0) (b := 0) (c := 0) (by decide)) (by decide)
    refine lv_iconst (v := 0) hx hb dX4_readSum_11 (by decide) ?_
    refine lv_istore_n (lv' := [(3, .int 0), (0, .ref (y 192)), (1, .ref (y 196)), (2, .int 4)]) hx hb dX4_readSum_12 rfl hl (by decide) rfl (fun ls hl => ?_)
    exact cut13 1001 0 r25 q26 ((zI.lit (a := 0) (b := 0) (c := 0) (by decide)).w (c := 0) (d := 1000) (by decide)) ju23 ((zFr.refl).tr fu23 rfl) hE (zI.m0 (zI.lit (a := 0) (b := 0) (c := 0) (by decide)) (by decide)) H locs ls hw hS (lv_sub hl [1, 2, 3, 0] rfl)
  · have hE := zifnF c27 hE
    have k29 : zI 0 0 (v24) := zI.eqq c27 (zI.lit (a := 0) (b := 0) (c := 0) (by decide))
    refine lv_iconst (v := 0) hx hb dX4_readSum_9 (by decide) ?_
    exact ziretQ hQ hx hb hr rfl hlocks ((0 : Int32), r25, q26) rfl ⟨((zI.lit (a := 0) (b := 0) (c := 0) (by decide)).w (c := 0) (d := 1) (by decide)), ju23, ((zFr.refl).tr fu23 rfl), (hE.symm.trans hX), trivial⟩ hw hS dX4_readSum_10

set_option maxHeartbeats 4000000 in
set_option maxRecDepth 100000 in
theorem kc_readTest4 (l : Launch) (D : va_G) (ct : Nat → ClassId) (E : Nat → Nat) (y : Nat → Nat) (r : zRr) (q : zRq) (hJ0 : kJ r) (hEi : kEi E) : cC l yX4_readTest (.code yX4_readTest cX4_readTest 4 (some .boolean) :: wsL_law0) ({ frames := 15, cells := 0, slots := 0, locals := 640 }) D ct E [.ref (y 192), .ref (y 196), .int 4] (kW ct E y r q) (S := Int32 × zRr × zRq) (fun u => some (.int u.1)) (fun u => zI 0 1 u.1 ∧ kJ u.2.1 ∧ zFr [196, 192, 193] r u.2.1 ∧ u = (Gk_readTest4 r q) ∧ True) (fun u => kW ct E y u.2.1 u.2.2) := by
  refine cofQ cX4_readTest 4 (some .boolean) (by decide) rfl (Nat.le_of_ble_eq_true rfl) ?_
  intro p e s m below meth c A a9 Q ha9 hx hb hr hml hts hown hlocks hname hK hA hZ hN hQ
  have hown : s.vm.findClass RX4 = some m.cls := hown
  have hiX9 : ∀ w ∈ wsX90, w ∈ .code yX4_readTest cX4_readTest 4 (some .boolean) :: wsL_law0 := fun _ h => ki (zs_wsX90 _ h)
  have lf36 := hts (.fieldLink RX4 36 "BeardPass$Tape" "sort" "LBeardPass$Sort;") (ki (zr18 17 rfl))
  have lf56 := hts (.fieldLink RX4 56 "BeardPass$Sort" "LESS" "LBeardPass$Sort;") (ki (zr20 2 rfl))
  have lf59 := hts (.fieldLink RX4 59 "BeardPass$Sort" "SAME" "LBeardPass$Sort;") (ki (zr20 3 rfl))
  obtain ⟨X, hX⟩ : ∃ X, X = (Gk_readTest4 r q) := ⟨_, rfl⟩
  have cut50 : ∀ (w50_s0 : Int32) (rw50 : zRr) (qw50 : zRq) (hw50_s0 : zI (-9) (-2) w50_s0) (jw50 : kJ rw50) (fw50 : zFr [196, 192, 193] r rw50) (hE : X = Gk_readTest4_50 w50_s0 rw50 qw50), zKf p l e ({ frames := 15, cells := 0, slots := 0, locals := 640 }) s m a9 below meth c Q D A 50 4 [.int w50_s0] (kW ct E y rw50 qw50) [(0, .ref (y 192)), (1, .ref (y 196)), (2, .int 4)] := by
    intro w50_s0 rw50 qw50 hw50_s0 jw50 fw50 hE H locs ls hw hS hl
    unfold Gk_readTest4_50 at hE
    refine lv_istore_n (lv' := [(3, .int w50_s0), (0, .ref (y 192)), (1, .ref (y 196)), (2, .int 4)]) hx hb dX4_readTest_50 rfl hl (by decide) rfl (fun ls hl => ?_)
    refine lv_aload_n hx hb dX4_readTest_51 rfl (lv_at hl 2 rfl) ?_
    refine kcallV (As := []) (rest := []) ⟨hx, hb, hml, hown, hts⟩ (kc_step l D ct E y rw50 qw50 jw50 hEi) (wqX4_50_kc_step hts ⟨Nat.le_of_ble_eq_true rfl, Nat.le_of_ble_eq_true rfl⟩) hw hS hA hK hZ hN 8 196 rfl kg196 rfl hl.1 rfl (Nat.le_of_ble_eq_true rfl) dX4_readTest_52 55 rfl (fun u1 H locs pu1 hw hS => ?_)
    obtain ⟨r2, q3⟩ := u1
    have ju1 : kJ r2 := pu1.1
    have fu1 : zFr [196] rw50 r2 := pu1.2.1
    have xu1 : (r2, q3) = (Gk_step rw50 qw50) := pu1.2.2.1
    have hE := zc_rqE xu1 hE
    have hw : zPD D A (kW ct E y r2 q3) H := hw
    refine zfr 55 [] rfl rfl ?_
    refine lv_aload_n hx hb dX4_readTest_55 rfl (lv_at hl 1 rfl) ?_
    refine lv_aload_n hx hb dX4_readTest_56 rfl (lv_at hl 2 rfl) ?_
    refine lv_iload_n hx hb dX4_readTest_57 rfl (lv_at hl 3 rfl) ?_
    refine kcallV (As := [.ref (y 196), .int 4]) (rest := []) ⟨hx, hb, hml, hown, hts⟩ (kc_readSum4 l D ct E y r2 q3 ju1 hEi) (wqX4_53_kc_readSum4 hts ⟨Nat.le_of_ble_eq_true rfl, Nat.le_of_ble_eq_true rfl⟩) hw hS hA hK hZ hN 4 192 rfl kg192 rfl hl.1 rfl (Nat.le_of_ble_eq_true rfl) dX4_readTest_58 61 rfl (fun u4 H locs pu4 hw hS => ?_)
    obtain ⟨v5, r6, q7⟩ := u4
    have hv5 : zI 0 1 v5 := pu4.1
    have ju4 : kJ r6 := pu4.2.1
    have fu4 : zFr [196, 192, 193] r2 r6 := pu4.2.2.1
    have xu4 : (v5, r6, q7) = (Gk_readSum4 r2 q3) := pu4.2.2.2.1
    have hE := zc_vrqE xu4 hE
    have hw : zPD D A (kW ct E y r6 q7) H := hw
    refine zfr 61 [.int v5] rfl rfl ?_
    refine lv_if_ne (tgt := 66) hx hb dX4_readTest_61 (by decide) (fun c8 => ?_) (fun c8 => ?_)
    · have hE := zifnT c8 hE
      have k9 : zI 1 1 (v5) := zI.neD c8 hv5 (zI.lit (a := 0) (b := 0) (c := 0) (by decide)) (by decide)
      refine lv_aload_n hx hb dX4_readTest_66 rfl (lv_at hl 1 rfl) ?_
      refine lv_iload_n hx hb dX4_readTest_67 rfl (lv_at hl 0 rfl) ?_
      refine kcallV (As := [.int w50_s0]) (rest := []) ⟨hx, hb, hml, hown, hts⟩ (kc_add l D ct E y w50_s0 r6 q7 ju4 hEi) (wqX4_22_kc_add hts ⟨Nat.le_of_ble_eq_true rfl, Nat.le_of_ble_eq_true rfl⟩) hw hS hA hK hZ hN 4 192 rfl kg192 rfl hl.1 rfl (Nat.le_of_ble_eq_true rfl) dX4_readTest_68 71 rfl (fun u10 H locs pu10 hw hS => ?_)
      have ju10 : kJ u10 := pu10.1
      have fu10 : zFr [192, 193] r6 u10 := pu10.2.1
      have xu10 : u10 = (Gk_add w50_s0 r6 q7) := pu10.2.2.1
      have hE := zletE xu10 hE
      have hw : zPD D A (kW ct E y u10 q7) H := hw
      refine zfr 71 [] rfl rfl ?_
      refine lv_iconst (v := 1) hx hb dX4_readTest_71 (by decide) ?_
      exact ziretQ hQ hx hb hr rfl hlocks ((1 : Int32), u10, q7) rfl ⟨((zI.lit (a := 1) (b := 1) (c := 1) (by decide)).w (c := 0) (d := 1) (by decide)), ju10, (((fw50.tr fu1 rfl).tr fu4 rfl).tr fu10 rfl), (hE.symm.trans hX), trivial⟩ hw hS dX4_readTest_72
    · have hE := zifnF c8 hE
      have k12 : zI 0 0 (v5) := zI.eqq c8 (zI.lit (a := 0) (b := 0) (c := 0) (by decide))
      refine lv_iconst (v := 0) hx hb dX4_readTest_64 (by decide) ?_
      exact ziretQ hQ hx hb hr rfl hlocks ((0 : Int32), r6, q7) rfl ⟨((zI.lit (a := 0) (b := 0) (c := 0) (by decide)).w (c := 0) (d := 1) (by decide)), ju4, ((fw50.tr fu1 rfl).tr fu4 rfl), (hE.symm.trans hX), trivial⟩ hw hS dX4_readTest_65
  have cut33 : ∀ (rw33 : zRr) (qw33 : zRq) (jw33 : kJ rw33) (fw33 : zFr [196, 192, 193] r rw33) (hE : X = Gk_readTest4_33 rw33 qw33), zKf p l e ({ frames := 15, cells := 0, slots := 0, locals := 640 }) s m a9 below meth c Q D A 33 4 [] (kW ct E y rw33 qw33) [(0, .ref (y 192)), (1, .ref (y 196)), (2, .int 4)] := by
    intro rw33 qw33 jw33 fw33 hE H locs ls hw hS hl
    unfold Gk_readTest4_33 at hE
    refine lv_aload_n hx hb dX4_readTest_33 rfl (lv_at hl 1 rfl) ?_
    refine va_get (D := D) (ci := 8) (v := .ref (E (zn (rw33 196 4)))) hx hb hts hiX9 hown hK hw.1 196 kg196 rfl 4 (by decide) lf36 (fun _ h9 => h9) rfl dX4_readTest_34 (cgenSE (show zI 0 32 (rw33 196 4) from jw33.i 196 4) (fun v13 ev13 hv13 => ?_))
    have hE := zletE ev13 hE
    refine cgets 23 (by decide) hx hb hZ hS hown lf56 dX4_readTest_37 (ztop (.ref (E (zn 23))) rfl ?_)
    refine cxacmp_ne (a := v13) (b := (23 : Int32)) (tgt := 48) hEi hv13 ((zI.lit (a := 23) (b := 23) (c := 23) (by decide)).w (c := 0) (d := 32) (by decide)) hx hb dX4_readTest_40 (by decide) (fun c14 => ?_) (fun c14 => ?_)
    · have hE := zifnT c14 hE
      refine lv_bipush (v := (-9)) hx hb dX4_readTest_48 (by decide) ?_
      exact cut50 (-9) rw33 qw33 ((zI.lit (a := (-9)) (b := (-9)) (c := (-9)) (by decide)).w (c := (-9)) (d := (-2)) (by decide)) jw33 fw33 hE H locs ls hw hS (lv_sub hl [0, 1, 2] rfl)
    · have hE := zifnF c14 hE
      refine lv_bipush (v := (-8)) hx hb dX4_readTest_43 (by decide) ?_
      refine lv_goto (tgt := 50) hx hb dX4_readTest_45 (by decide) ?_
      exact cut50 (-8) rw33 qw33 ((zI.lit (a := (-8)) (b := (-8)) (c := (-8)) (by decide)).w (c := (-9)) (d := (-2)) (by decide)) jw33 fw33 hE H locs ls hw hS (lv_sub hl [0, 1, 2] rfl)
  intro H locs hw hS ls hl
  have hl : lv_has ls 4 [(0, .ref (y 192)), (1, .ref (y 196)), (2, .int 4)] := hl
  have hE := hX
  unfold Gk_readTest4 at hE
  refine lv_aload_n hx hb dX4_readTest_0 rfl (lv_at hl 0 rfl) ?_
  refine lv_aload_n hx hb dX4_readTest_1 rfl (lv_at hl 1 rfl) ?_
  refine lv_iload_n hx hb dX4_readTest_2 rfl (lv_at hl 2 rfl) ?_
  refine kcallV (As := [.ref (y 196), .int 4]) (rest := []) ⟨hx, hb, hml, hown, hts⟩ (kc_readSum4 l D ct E y r q hJ0 hEi) (wqX4_53_kc_readSum4 hts ⟨Nat.le_of_ble_eq_true rfl, Nat.le_of_ble_eq_true rfl⟩) hw hS hA hK hZ hN 4 192 rfl kg192 rfl hl.1 rfl (Nat.le_of_ble_eq_true rfl) dX4_readTest_3 6 rfl (fun u15 H locs pu15 hw hS => ?_)
  obtain ⟨v16, r17, q18⟩ := u15
  have hv16 : zI 0 1 v16 := pu15.1
  have ju15 : kJ r17 := pu15.2.1
  have fu15 : zFr [196, 192, 193] r r17 := pu15.2.2.1
  have xu15 : (v16, r17, q18) = (Gk_readSum4 r q) := pu15.2.2.2.1
  have hE := zc_vrqE xu15 hE
  have hw : zPD D A (kW ct E y r17 q18) H := hw
  refine zfr 6 [.int v16] rfl rfl ?_
  refine lv_if_ne (tgt := 11) hx hb dX4_readTest_6 (by decide) (fun c19 => ?_) (fun c19 => ?_)
  · have hE := zifnT c19 hE
    have k20 : zI 1 1 (v16) := zI.neD c19 hv16 (zI.lit (a := 0) (b := 0) (c := 0) (by decide)) (by decide)
    refine lv_aload_n hx hb dX4_readTest_11 rfl (lv_at hl 1 rfl) ?_
    refine va_get (D := D) (ci := 8) (v := .ref (E (zn (r17 196 4)))) hx hb hts hiX9 hown hK hw.1 196 kg196 rfl 4 (by decide) lf36 (fun _ h9 => h9) rfl dX4_readTest_12 (cgenSE (show zI 0 32 (r17 196 4) from ju15.i 196 4) (fun v21 ev21 hv21 => ?_))
    have hE := zletE ev21 hE
    refine cgets 23 (by decide) hx hb hZ hS hown lf56 dX4_readTest_15 (ztop (.ref (E (zn 23))) rfl ?_)
    refine cxacmp_eq (a := v21) (b := (23 : Int32)) (tgt := 33) hEi hv21 ((zI.lit (a := 23) (b := 23) (c := 23) (by decide)).w (c := 0) (d := 32) (by decide)) hx hb dX4_readTest_18 (by decide) (fun c22 => ?_) (fun c22 => ?_)
    · have hE := zifT c22 hE
      exact cut33 r17 q18 ju15 ((zFr.refl).tr fu15 rfl) hE H locs ls hw hS (lv_sub hl [0, 1, 2] rfl)
    · have hE := zifF c22 hE
      refine lv_aload_n hx hb dX4_readTest_21 rfl (lv_at hl 1 rfl) ?_
      refine va_get (D := D) (ci := 8) (v := .ref (E (zn (r17 196 4)))) hx hb hts hiX9 hown hK hw.1 196 kg196 rfl 4 (by decide) lf36 (fun _ h9 => h9) rfl dX4_readTest_22 (cgenSE (show zI 0 32 (r17 196 4) from ju15.i 196 4) (fun v23 ev23 hv23 => ?_))
      have hE := zletE ev23 hE
      refine cgets 24 (by decide) hx hb hZ hS hown lf59 dX4_readTest_25 (ztop (.ref (E (zn 24))) rfl ?_)
      refine cxacmp_eq (a := v23) (b := (24 : Int32)) (tgt := 33) hEi hv23 ((zI.lit (a := 24) (b := 24) (c := 24) (by decide)).w (c := 0) (d := 32) (by decide)) hx hb dX4_readTest_28 (by decide) (fun c24 => ?_) (fun c24 => ?_)
      · have hE := zifT c24 hE
        exact cut33 r17 q18 ju15 ((zFr.refl).tr fu15 rfl) hE H locs ls hw hS (lv_sub hl [0, 1, 2] rfl)
      · have hE := zifF c24 hE
        refine lv_iconst (v := 1) hx hb dX4_readTest_31 (by decide) ?_
        exact ziretQ hQ hx hb hr rfl hlocks ((1 : Int32), r17, q18) rfl ⟨((zI.lit (a := 1) (b := 1) (c := 1) (by decide)).w (c := 0) (d := 1) (by decide)), ju15, ((zFr.refl).tr fu15 rfl), (hE.symm.trans hX), trivial⟩ hw hS dX4_readTest_32
  · have hE := zifnF c19 hE
    have k25 : zI 0 0 (v16) := zI.eqq c19 (zI.lit (a := 0) (b := 0) (c := 0) (by decide))
    refine lv_iconst (v := 0) hx hb dX4_readTest_9 (by decide) ?_
    exact ziretQ hQ hx hb hr rfl hlocks ((0 : Int32), r17, q18) rfl ⟨((zI.lit (a := 0) (b := 0) (c := 0) (by decide)).w (c := 0) (d := 1) (by decide)), ju15, ((zFr.refl).tr fu15 rfl), (hE.symm.trans hX), trivial⟩ hw hS dX4_readTest_10

set_option maxHeartbeats 4000000 in
set_option maxRecDepth 100000 in
theorem kc_readWhole4 (l : Launch) (D : va_G) (ct : Nat → ClassId) (E : Nat → Nat) (y : Nat → Nat) (r : zRr) (q : zRq) (hJ0 : kJ r) (hEi : kEi E) : cC l yX4_readWhole (.code yX4_readWhole cX4_readWhole 5 (some .boolean) :: wsL_law0) ({ frames := 16, cells := 0, slots := 0, locals := 680 }) D ct E [.ref (y 192), .ref (y 196), .int 4] (kW ct E y r q) (S := Int32 × zRr × zRq) (fun u => some (.int u.1)) (fun u => zI 0 1 u.1 ∧ kJ u.2.1 ∧ zFr [196, 192, 193] r u.2.1 ∧ u = (Gk_readWhole4 r q) ∧ True) (fun u => kW ct E y u.2.1 u.2.2) := by
  refine cofQ cX4_readWhole 5 (some .boolean) (by decide) rfl (Nat.le_of_ble_eq_true rfl) ?_
  intro p e s m below meth c A a9 Q ha9 hx hb hr hml hts hown hlocks hname hK hA hZ hN hQ
  have hown : s.vm.findClass RX4 = some m.cls := hown
  have hiX9 : ∀ w ∈ wsX90, w ∈ .code yX4_readWhole cX4_readWhole 5 (some .boolean) :: wsL_law0 := fun _ h => ki (zs_wsX90 _ h)
  have lf36 := hts (.fieldLink RX4 36 "BeardPass$Tape" "sort" "LBeardPass$Sort;") (ki (zr18 17 rfl))
  have lf42 := hts (.fieldLink RX4 42 "BeardPass$Sort" "AND" "LBeardPass$Sort;") (ki (zr18 18 rfl))
  have lf47 := hts (.fieldLink RX4 47 "BeardPass$Sort" "OR" "LBeardPass$Sort;") (ki (zr18 19 rfl))
  obtain ⟨X, hX⟩ : ∃ X, X = (Gk_readWhole4 r q) := ⟨_, rfl⟩
  have cut13 : ∀ (n13 : Nat) (w13_3 : Int32) (rw13 : zRr) (qw13 : zRq) (hw13_3 : zI 0 1000 w13_3) (jw13 : kJ rw13) (fw13 : zFr [196, 192, 193] r rw13) (hE : X = Gk_readWhole4_13 n13 w13_3 rw13 qw13), 1000 - w13_3.toInt < (n13 : Int) → zKf p l e ({ frames := 16, cells := 0, slots := 0, locals := 680 }) s m a9 below meth c Q D A 13 5 [] (kW ct E y rw13 qw13) [(0, .ref (y 192)), (1, .ref (y 196)), (2, .int 4), (3, .int w13_3)] := by
    intro n13
    induction n13 with
    | zero => intro w13_3 rw13 qw13 hw13_3 jw13 fw13 hE hm13; exact zI.no hw13_3 (by decide) hm13
    | succ n13 ih13 =>
      intro w13_3 rw13 qw13 hw13_3 jw13 fw13 hE hm13
      have hE : X = Bk_readWhole4_13 (Gk_readWhole4_13 n13) w13_3 rw13 qw13 := hE
      unfold Bk_readWhole4_13 at hE
      have cut57 : ∀ (w57_s0 : Int32) (hw57_3 : zI 0 999 w13_3) (hw57_s0 : zI (-7) (-2) w57_s0) (hE : X = Gk_readWhole4_57 w13_3 rw13 qw13 (Gk_readWhole4_13 n13) w57_s0), zKf p l e ({ frames := 16, cells := 0, slots := 0, locals := 680 }) s m a9 below meth c Q D A 57 5 [.int w57_s0] (kW ct E y rw13 qw13) [(0, .ref (y 192)), (1, .ref (y 196)), (2, .int 4), (3, .int w13_3)] := by
        intro w57_s0 hw57_3 hw57_s0 hE H locs ls hw hS hl
        unfold Gk_readWhole4_57 at hE
        refine lv_istore (lv' := [(4, .int w57_s0), (0, .ref (y 192)), (1, .ref (y 196)), (2, .int 4), (3, .int w13_3)]) hx hb dX4_readWhole_57 hl (by decide) rfl (fun ls hl => ?_)
        refine lv_aload_n hx hb dX4_readWhole_59 rfl (lv_at hl 2 rfl) ?_
        refine kcallV (As := []) (rest := []) ⟨hx, hb, hml, hown, hts⟩ (kc_step l D ct E y rw13 qw13 jw13 hEi) (wqX4_50_kc_step hts ⟨Nat.le_of_ble_eq_true rfl, Nat.le_of_ble_eq_true rfl⟩) hw hS hA hK hZ hN 8 196 rfl kg196 rfl hl.1 rfl (Nat.le_of_ble_eq_true rfl) dX4_readWhole_60 63 rfl (fun u1 H locs pu1 hw hS => ?_)
        obtain ⟨r2, q3⟩ := u1
        have ju1 : kJ r2 := pu1.1
        have fu1 : zFr [196] rw13 r2 := pu1.2.1
        have xu1 : (r2, q3) = (Gk_step rw13 qw13) := pu1.2.2.1
        have hE := zc_rqE xu1 hE
        have hw : zPD D A (kW ct E y r2 q3) H := hw
        refine zfr 63 [] rfl rfl ?_
        refine lv_aload_n hx hb dX4_readWhole_63 rfl (lv_at hl 1 rfl) ?_
        refine lv_aload_n hx hb dX4_readWhole_64 rfl (lv_at hl 2 rfl) ?_
        refine lv_iload_n hx hb dX4_readWhole_65 rfl (lv_at hl 3 rfl) ?_
        refine kcallV (As := [.ref (y 196), .int 4]) (rest := []) ⟨hx, hb, hml, hown, hts⟩ (kc_readTest4 l D ct E y r2 q3 ju1 hEi) (wqX4_32_kc_readTest4 hts ⟨Nat.le_of_ble_eq_true rfl, Nat.le_of_ble_eq_true rfl⟩) hw hS hA hK hZ hN 4 192 rfl kg192 rfl hl.1 rfl (Nat.le_of_ble_eq_true rfl) dX4_readWhole_66 69 rfl (fun u4 H locs pu4 hw hS => ?_)
        obtain ⟨v5, r6, q7⟩ := u4
        have hv5 : zI 0 1 v5 := pu4.1
        have ju4 : kJ r6 := pu4.2.1
        have fu4 : zFr [196, 192, 193] r2 r6 := pu4.2.2.1
        have xu4 : (v5, r6, q7) = (Gk_readTest4 r2 q3) := pu4.2.2.2.1
        have hE := zc_vrqE xu4 hE
        have hw : zPD D A (kW ct E y r6 q7) H := hw
        refine zfr 69 [.int v5] rfl rfl ?_
        refine lv_if_ne (tgt := 74) hx hb dX4_readWhole_69 (by decide) (fun c8 => ?_) (fun c8 => ?_)
        · have hE := zifnT c8 hE
          have k9 : zI 1 1 (v5) := zI.neD c8 hv5 (zI.lit (a := 0) (b := 0) (c := 0) (by decide)) (by decide)
          refine lv_aload_n hx hb dX4_readWhole_74 rfl (lv_at hl 1 rfl) ?_
          refine lv_iload hx hb dX4_readWhole_75 (lv_at hl 0 rfl) ?_
          refine kcallV (As := [.int w57_s0]) (rest := []) ⟨hx, hb, hml, hown, hts⟩ (kc_add l D ct E y w57_s0 r6 q7 ju4 hEi) (wqX4_22_kc_add hts ⟨Nat.le_of_ble_eq_true rfl, Nat.le_of_ble_eq_true rfl⟩) hw hS hA hK hZ hN 4 192 rfl kg192 rfl hl.1 rfl (Nat.le_of_ble_eq_true rfl) dX4_readWhole_77 80 rfl (fun u10 H locs pu10 hw hS => ?_)
          have ju10 : kJ u10 := pu10.1
          have fu10 : zFr [192, 193] r6 u10 := pu10.2.1
          have xu10 : u10 = (Gk_add w57_s0 r6 q7) := pu10.2.2.1
          have hE := zletE xu10 hE
          have hw : zPD D A (kW ct E y u10 q7) H := hw
          refine zfr 80 [] rfl rfl ?_
          refine lv_iinc (v := w13_3 + 1) (lv' := [(3, .int (w13_3 + 1)), (4, .int w57_s0), (0, .ref (y 192)), (1, .ref (y 196)), (2, .int 4)]) hx hb dX4_readWhole_80 hl (k := 4) rfl (rfl) (by decide) rfl (fun ls hl => ?_)
          have k12 : zI 1 1000 (w13_3 + 1) := zI.add hw57_3 (zI.lit (a := 1) (b := 1) (by decide)) (by decide)
          refine lv_goto (tgt := 13) hx hb dX4_readWhole_83 (by decide) ?_
          exact ih13 (w13_3 + 1) u10 q7 (k12.w (c := 0) (d := 1000) (by decide)) ju10 (((fw13.tr fu1 rfl).tr fu4 rfl).tr fu10 rfl) hE (zI.up hw57_3 (by decide) hm13) H locs ls hw hS (lv_sub hl [2, 3, 4, 0] rfl)
        · have hE := zifnF c8 hE
          have k13 : zI 0 0 (v5) := zI.eqq c8 (zI.lit (a := 0) (b := 0) (c := 0) (by decide))
          refine lv_iconst (v := 0) hx hb dX4_readWhole_72 (by decide) ?_
          exact ziretQ hQ hx hb hr rfl hlocks ((0 : Int32), r6, q7) rfl ⟨((zI.lit (a := 0) (b := 0) (c := 0) (by decide)).w (c := 0) (d := 1) (by decide)), ju4, ((fw13.tr fu1 rfl).tr fu4 rfl), (hE.symm.trans hX), trivial⟩ hw hS dX4_readWhole_73
      have cut40 : ∀ (hw40_3 : zI 0 999 w13_3) (hE : X = Gk_readWhole4_40 w13_3 rw13 qw13 (Gk_readWhole4_13 n13) ), zKf p l e ({ frames := 16, cells := 0, slots := 0, locals := 680 }) s m a9 below meth c Q D A 40 5 [] (kW ct E y rw13 qw13) [(0, .ref (y 192)), (1, .ref (y 196)), (2, .int 4), (3, .int w13_3)] := by
        intro hw40_3 hE H locs ls hw hS hl
        unfold Gk_readWhole4_40 at hE
        refine lv_aload_n hx hb dX4_readWhole_40 rfl (lv_at hl 1 rfl) ?_
        refine va_get (D := D) (ci := 8) (v := .ref (E (zn (rw13 196 4)))) hx hb hts hiX9 hown hK hw.1 196 kg196 rfl 4 (by decide) lf36 (fun _ h9 => h9) rfl dX4_readWhole_41 (cgenSE (show zI 0 32 (rw13 196 4) from jw13.i 196 4) (fun v14 ev14 hv14 => ?_))
        have hE := zletE ev14 hE
        refine cgets 19 (by decide) hx hb hZ hS hown lf42 dX4_readWhole_44 (ztop (.ref (E (zn 19))) rfl ?_)
        refine cxacmp_ne (a := v14) (b := (19 : Int32)) (tgt := 55) hEi hv14 ((zI.lit (a := 19) (b := 19) (c := 19) (by decide)).w (c := 0) (d := 32) (by decide)) hx hb dX4_readWhole_47 (by decide) (fun c15 => ?_) (fun c15 => ?_)
        · have hE := zifnT c15 hE
          refine lv_bipush (v := (-7)) hx hb dX4_readWhole_55 (by decide) ?_
          exact cut57 (-7) hw40_3 ((zI.lit (a := (-7)) (b := (-7)) (c := (-7)) (by decide)).w (c := (-7)) (d := (-2)) (by decide)) hE H locs ls hw hS (lv_sub hl [0, 1, 2, 3] rfl)
        · have hE := zifnF c15 hE
          refine lv_bipush (v := (-6)) hx hb dX4_readWhole_50 (by decide) ?_
          refine lv_goto (tgt := 57) hx hb dX4_readWhole_52 (by decide) ?_
          exact cut57 (-6) hw40_3 ((zI.lit (a := (-6)) (b := (-6)) (c := (-6)) (by decide)).w (c := (-7)) (d := (-2)) (by decide)) hE H locs ls hw hS (lv_sub hl [0, 1, 2, 3] rfl)
      intro H locs ls hw hS hl
      refine lv_iload_n hx hb dX4_readWhole_13 rfl (lv_at hl 3 rfl) ?_
      refine lv_sipush (v := 1000) hx hb dX4_readWhole_14 (by decide) ?_
      refine lv_icmp_ge (tgt := 86) hx hb dX4_readWhole_17 (by decide) (fun c16 => ?_) (fun c16 => ?_)
      · have hE := zifT c16 hE
        have k17 : zI 1000 1000 (w13_3) := zI.leD c16 (zI.lit (a := 1000) (b := 1000) (c := 1000) (by decide)) hw13_3 (by decide)
        refine lv_iconst (v := 1) hx hb dX4_readWhole_86 (by decide) ?_
        exact ziretQ hQ hx hb hr rfl hlocks ((1 : Int32), rw13, qw13) rfl ⟨((zI.lit (a := 1) (b := 1) (c := 1) (by decide)).w (c := 0) (d := 1) (by decide)), jw13, fw13, (hE.symm.trans hX), trivial⟩ hw hS dX4_readWhole_87
      · have hE := zifF c16 hE
        have k18 : zI 0 999 (w13_3) := zI.ltU (zI.nle c16) hw13_3 (zI.lit (a := 1000) (b := 1000) (c := 1000) (by decide)) (by decide)
        refine lv_aload_n hx hb dX4_readWhole_20 rfl (lv_at hl 1 rfl) ?_
        refine va_get (D := D) (ci := 8) (v := .ref (E (zn (rw13 196 4)))) hx hb hts hiX9 hown hK hw.1 196 kg196 rfl 4 (by decide) lf36 (fun _ h9 => h9) rfl dX4_readWhole_21 (cgenSE (show zI 0 32 (rw13 196 4) from jw13.i 196 4) (fun v19 ev19 hv19 => ?_))
        have hE := zletE ev19 hE
        refine cgets 19 (by decide) hx hb hZ hS hown lf42 dX4_readWhole_24 (ztop (.ref (E (zn 19))) rfl ?_)
        refine cxacmp_eq (a := v19) (b := (19 : Int32)) (tgt := 40) hEi hv19 ((zI.lit (a := 19) (b := 19) (c := 19) (by decide)).w (c := 0) (d := 32) (by decide)) hx hb dX4_readWhole_27 (by decide) (fun c20 => ?_) (fun c20 => ?_)
        · have hE := zifT c20 hE
          exact cut40 k18 hE H locs ls hw hS (lv_sub hl [0, 1, 2, 3] rfl)
        · have hE := zifF c20 hE
          refine lv_aload_n hx hb dX4_readWhole_30 rfl (lv_at hl 1 rfl) ?_
          refine va_get (D := D) (ci := 8) (v := .ref (E (zn (rw13 196 4)))) hx hb hts hiX9 hown hK hw.1 196 kg196 rfl 4 (by decide) lf36 (fun _ h9 => h9) rfl dX4_readWhole_31 (cgenSE (show zI 0 32 (rw13 196 4) from jw13.i 196 4) (fun v21 ev21 hv21 => ?_))
          have hE := zletE ev21 hE
          refine cgets 20 (by decide) hx hb hZ hS hown lf47 dX4_readWhole_34 (ztop (.ref (E (zn 20))) rfl ?_)
          refine cxacmp_ne (a := v21) (b := (20 : Int32)) (tgt := 86) hEi hv21 ((zI.lit (a := 20) (b := 20) (c := 20) (by decide)).w (c := 0) (d := 32) (by decide)) hx hb dX4_readWhole_37 (by decide) (fun c22 => ?_) (fun c22 => ?_)
          · have hE := zifnT c22 hE
            refine lv_iconst (v := 1) hx hb dX4_readWhole_86 (by decide) ?_
            exact ziretQ hQ hx hb hr rfl hlocks ((1 : Int32), rw13, qw13) rfl ⟨((zI.lit (a := 1) (b := 1) (c := 1) (by decide)).w (c := 0) (d := 1) (by decide)), jw13, fw13, (hE.symm.trans hX), trivial⟩ hw hS dX4_readWhole_87
          · have hE := zifnF c22 hE
            exact cut40 k18 hE H locs ls hw hS (lv_sub hl [0, 1, 2, 3] rfl)
  intro H locs hw hS ls hl
  have hl : lv_has ls 5 [(0, .ref (y 192)), (1, .ref (y 196)), (2, .int 4)] := hl
  have hE := hX
  unfold Gk_readWhole4 at hE
  refine lv_aload_n hx hb dX4_readWhole_0 rfl (lv_at hl 0 rfl) ?_
  refine lv_aload_n hx hb dX4_readWhole_1 rfl (lv_at hl 1 rfl) ?_
  refine lv_iload_n hx hb dX4_readWhole_2 rfl (lv_at hl 2 rfl) ?_
  refine kcallV (As := [.ref (y 196), .int 4]) (rest := []) ⟨hx, hb, hml, hown, hts⟩ (kc_readTest4 l D ct E y r q hJ0 hEi) (wqX4_32_kc_readTest4 hts ⟨Nat.le_of_ble_eq_true rfl, Nat.le_of_ble_eq_true rfl⟩) hw hS hA hK hZ hN 4 192 rfl kg192 rfl hl.1 rfl (Nat.le_of_ble_eq_true rfl) dX4_readWhole_3 6 rfl (fun u23 H locs pu23 hw hS => ?_)
  obtain ⟨v24, r25, q26⟩ := u23
  have hv24 : zI 0 1 v24 := pu23.1
  have ju23 : kJ r25 := pu23.2.1
  have fu23 : zFr [196, 192, 193] r r25 := pu23.2.2.1
  have xu23 : (v24, r25, q26) = (Gk_readTest4 r q) := pu23.2.2.2.1
  have hE := zc_vrqE xu23 hE
  have hw : zPD D A (kW ct E y r25 q26) H := hw
  refine zfr 6 [.int v24] rfl rfl ?_
  refine lv_if_ne (tgt := 11) hx hb dX4_readWhole_6 (by decide) (fun c27 => ?_) (fun c27 => ?_)
  · have hE := zifnT c27 hE
    have k28 : zI 1 1 (v24) := zI.neD c27 hv24 (zI.lit (a := 0) (b := 0) (c := 0) (by decide)) (by decide)
    refine lv_iconst (v := 0) hx hb dX4_readWhole_11 (by decide) ?_
    refine lv_istore_n (lv' := [(3, .int 0), (0, .ref (y 192)), (1, .ref (y 196)), (2, .int 4)]) hx hb dX4_readWhole_12 rfl hl (by decide) rfl (fun ls hl => ?_)
    exact cut13 1001 0 r25 q26 ((zI.lit (a := 0) (b := 0) (c := 0) (by decide)).w (c := 0) (d := 1000) (by decide)) ju23 ((zFr.refl).tr fu23 rfl) hE (zI.m0 (zI.lit (a := 0) (b := 0) (c := 0) (by decide)) (by decide)) H locs ls hw hS (lv_sub hl [1, 2, 3, 0] rfl)
  · have hE := zifnF c27 hE
    have k29 : zI 0 0 (v24) := zI.eqq c27 (zI.lit (a := 0) (b := 0) (c := 0) (by decide))
    refine lv_iconst (v := 0) hx hb dX4_readWhole_9 (by decide) ?_
    exact ziretQ hQ hx hb hr rfl hlocks ((0 : Int32), r25, q26) rfl ⟨((zI.lit (a := 0) (b := 0) (c := 0) (by decide)).w (c := 0) (d := 1) (by decide)), ju23, ((zFr.refl).tr fu23 rfl), (hE.symm.trans hX), trivial⟩ hw hS dX4_readWhole_10

set_option maxHeartbeats 4000000 in
set_option maxRecDepth 100000 in
theorem kc_readPart3 (l : Launch) (D : va_G) (ct : Nat → ClassId) (E : Nat → Nat) (y : Nat → Nat) (r : zRr) (q : zRq) (hJ0 : kJ r) (hEi : kEi E) : cC l yX4_readPart (.code yX4_readPart cX4_readPart 6 (some .boolean) :: wsL_law0) ({ frames := 17, cells := 0, slots := 0, locals := 720 }) D ct E [.ref (y 192), .ref (y 196), .int 3] (kW ct E y r q) (S := Int32 × zRr × zRq) (fun u => some (.int u.1)) (fun u => zI 0 1 u.1 ∧ kJ u.2.1 ∧ zFr [196, 192, 193] r u.2.1 ∧ u = (Gk_readPart3 r q) ∧ True) (fun u => kW ct E y u.2.1 u.2.2) := by
  refine cofQ cX4_readPart 6 (some .boolean) (by decide) rfl (Nat.le_of_ble_eq_true rfl) ?_
  intro p e s m below meth c A a9 Q ha9 hx hb hr hml hts hown hlocks hname hK hA hZ hN hQ
  have hown : s.vm.findClass RX4 = some m.cls := hown
  have hiX9 : ∀ w ∈ wsX90, w ∈ .code yX4_readPart cX4_readPart 6 (some .boolean) :: wsL_law0 := fun _ h => ki (zs_wsX90 _ h)
  have lf36 := hts (.fieldLink RX4 36 "BeardPass$Tape" "sort" "LBeardPass$Sort;") (ki (zr18 17 rfl))
  have lf77 := hts (.fieldLink RX4 77 "BeardPass$Sort" "OPEN" "LBeardPass$Sort;") (ki (zr19 1 rfl))
  have lf80 := hts (.fieldLink RX4 80 "BeardPass$Sort" "NOT" "LBeardPass$Sort;") (ki (zr19 2 rfl))
  have lf94 := hts (.fieldLink RX4 94 "BeardPass$Sort" "CLOSE" "LBeardPass$Sort;") (ki (zr19 3 rfl))
  obtain ⟨X, hX⟩ : ∃ X, X = (Gk_readPart3 r q) := ⟨_, rfl⟩
  have cut130 : ∀ (w130_5 : Int32) (rw130 : zRr) (qw130 : zRq) (jw130 : kJ rw130) (fw130 : zFr [196, 192, 193] r rw130) (hE : X = Gk_readPart3_130 w130_5 rw130 qw130), zKf p l e ({ frames := 17, cells := 0, slots := 0, locals := 720 }) s m a9 below meth c Q D A 130 6 [] (kW ct E y rw130 qw130) [(0, .ref (y 192)), (5, .int w130_5)] := by
    intro w130_5 rw130 qw130 jw130 fw130 hE H locs ls hw hS hl
    unfold Gk_readPart3_130 at hE
    refine lv_aload_n hx hb dX4_readPart_130 rfl (lv_at hl 0 rfl) ?_
    refine lv_iload hx hb dX4_readPart_131 (lv_at hl 1 rfl) ?_
    refine kcallV (As := [.int w130_5]) (rest := []) ⟨hx, hb, hml, hown, hts⟩ (kc_add l D ct E y w130_5 rw130 qw130 jw130 hEi) (wqX4_22_kc_add hts ⟨Nat.le_of_ble_eq_true rfl, Nat.le_of_ble_eq_true rfl⟩) hw hS hA hK hZ hN 4 192 rfl kg192 rfl hl.1 rfl (Nat.le_of_ble_eq_true rfl) dX4_readPart_133 136 rfl (fun u1 H locs pu1 hw hS => ?_)
    have ju1 : kJ u1 := pu1.1
    have fu1 : zFr [192, 193] rw130 u1 := pu1.2.1
    have xu1 : u1 = (Gk_add w130_5 rw130 qw130) := pu1.2.2.1
    have hE := zletE xu1 hE
    have hw : zPD D A (kW ct E y u1 qw130) H := hw
    refine zfr 136 [] rfl rfl ?_
    refine lv_iconst (v := 1) hx hb dX4_readPart_136 (by decide) ?_
    exact ziretQ hQ hx hb hr rfl hlocks ((1 : Int32), u1, qw130) rfl ⟨((zI.lit (a := 1) (b := 1) (c := 1) (by decide)).w (c := 0) (d := 1) (by decide)), ju1, (fw130.tr fu1 rfl), (hE.symm.trans hX), trivial⟩ hw hS dX4_readPart_137
  have cut66 : ∀ (w66_3 : Int32) (w66_4 : Int32) (w66_5 : Int32) (hw66_3 : zI 0 1 w66_3) (hw66_4 : zI 0 1 w66_4) (hE : X = Gk_readPart3_66 r q w66_3 w66_4 w66_5), zKf p l e ({ frames := 17, cells := 0, slots := 0, locals := 720 }) s m a9 below meth c Q D A 66 6 [] (kW ct E y r q) [(0, .ref (y 192)), (1, .ref (y 196)), (2, .int 3), (3, .int w66_3), (4, .int w66_4), (5, .int w66_5)] := by
    intro w66_3 w66_4 w66_5 hw66_3 hw66_4 hE H locs ls hw hS hl
    unfold Gk_readPart3_66 at hE
    refine lv_iload_n hx hb dX4_readPart_66 rfl (lv_at hl 2 rfl) ?_
    refine lv_iconst (v := 5) hx hb dX4_readPart_67 (by decide) ?_
    refine lv_icmp_lt (tgt := 77) hx hb dX4_readPart_68 (by decide) (fun _ => ?_) (fun h => absurd (by decide) h)
    refine lv_aload_n hx hb dX4_readPart_77 rfl (lv_at hl 1 rfl) ?_
    refine kcallV (As := []) (rest := []) ⟨hx, hb, hml, hown, hts⟩ (kc_step l D ct E y r q hJ0 hEi) (wqX4_50_kc_step hts ⟨Nat.le_of_ble_eq_true rfl, Nat.le_of_ble_eq_true rfl⟩) hw hS hA hK hZ hN 8 196 rfl kg196 rfl hl.1 rfl (Nat.le_of_ble_eq_true rfl) dX4_readPart_78 81 rfl (fun u4 H locs pu4 hw hS => ?_)
    obtain ⟨r5, q6⟩ := u4
    have ju4 : kJ r5 := pu4.1
    have fu4 : zFr [196] r r5 := pu4.2.1
    have xu4 : (r5, q6) = (Gk_step r q) := pu4.2.2.1
    have hE := zc_rqE xu4 hE
    have hw : zPD D A (kW ct E y r5 q6) H := hw
    refine zfr 81 [] rfl rfl ?_
    refine lv_iload_n hx hb dX4_readPart_81 rfl (lv_at hl 3 rfl) ?_
    refine lv_if_eq (tgt := 112) hx hb dX4_readPart_82 (by decide) (fun c7 => ?_) (fun c7 => ?_)
    · have hE := zifT c7 hE
      have k8 : zI 0 0 (w66_3) := zI.eqq c7 (zI.lit (a := 0) (b := 0) (c := 0) (by decide))
      refine lv_iload hx hb dX4_readPart_112 (lv_at hl 4 rfl) ?_
      refine lv_if_eq (tgt := 130) hx hb dX4_readPart_114 (by decide) (fun c9 => ?_) (fun c9 => ?_)
      · have hE := zifT c9 hE
        have k10 : zI 0 0 (w66_4) := zI.eqq c9 (zI.lit (a := 0) (b := 0) (c := 0) (by decide))
        exact cut130 w66_5 r5 q6 ju4 ((zFr.refl).tr fu4 rfl) hE H locs ls hw hS (lv_sub hl [0, 5] rfl)
      · have hE := zifF c9 hE
        have k11 : zI 1 1 (w66_4) := zI.neD c9 hw66_4 (zI.lit (a := 0) (b := 0) (c := 0) (by decide)) (by decide)
        refine lv_aload_n hx hb dX4_readPart_117 rfl (lv_at hl 0 rfl) ?_
        refine lv_aload_n hx hb dX4_readPart_118 rfl (lv_at hl 1 rfl) ?_
        refine lv_iload_n hx hb dX4_readPart_119 rfl (lv_at hl 2 rfl) ?_
        refine lv_iconst (v := 1) hx hb dX4_readPart_120 (by decide) ?_
        refine lv_iadd hx hb dX4_readPart_121 (ztop (.int 4) (congrArg Value.int (by decide)) ?_)
        refine kcallV (As := [.ref (y 196), .int 4]) (rest := []) ⟨hx, hb, hml, hown, hts⟩ (kc_readPart4 l D ct E y r5 q6 ju4 hEi) (wqX4_71_kc_readPart4 hts ⟨Nat.le_of_ble_eq_true rfl, Nat.le_of_ble_eq_true rfl⟩) hw hS hA hK hZ hN 4 192 rfl kg192 rfl hl.1 rfl (Nat.le_of_ble_eq_true rfl) dX4_readPart_122 125 rfl (fun u12 H locs pu12 hw hS => ?_)
        obtain ⟨v13, r14, q15⟩ := u12
        have hv13 : zI 0 1 v13 := pu12.1
        have ju12 : kJ r14 := pu12.2.1
        have fu12 : zFr [196, 192, 193] r5 r14 := pu12.2.2.1
        have xu12 : (v13, r14, q15) = (Gk_readPart4 r5 q6) := pu12.2.2.2.1
        have hE := zc_vrqE xu12 hE
        have hw : zPD D A (kW ct E y r14 q15) H := hw
        refine zfr 125 [.int v13] rfl rfl ?_
        refine lv_if_ne (tgt := 130) hx hb dX4_readPart_125 (by decide) (fun c16 => ?_) (fun c16 => ?_)
        · have hE := zifnT c16 hE
          have k17 : zI 1 1 (v13) := zI.neD c16 hv13 (zI.lit (a := 0) (b := 0) (c := 0) (by decide)) (by decide)
          exact cut130 w66_5 r14 q15 ju12 (((zFr.refl).tr fu4 rfl).tr fu12 rfl) hE H locs ls hw hS (lv_sub hl [0, 5] rfl)
        · have hE := zifnF c16 hE
          have k18 : zI 0 0 (v13) := zI.eqq c16 (zI.lit (a := 0) (b := 0) (c := 0) (by decide))
          refine lv_iconst (v := 0) hx hb dX4_readPart_128 (by decide) ?_
          exact ziretQ hQ hx hb hr rfl hlocks ((0 : Int32), r14, q15) rfl ⟨((zI.lit (a := 0) (b := 0) (c := 0) (by decide)).w (c := 0) (d := 1) (by decide)), ju12, (((zFr.refl).tr fu4 rfl).tr fu12 rfl), (hE.symm.trans hX), trivial⟩ hw hS dX4_readPart_129
    · have hE := zifF c7 hE
      have k19 : zI 1 1 (w66_3) := zI.neD c7 hw66_3 (zI.lit (a := 0) (b := 0) (c := 0) (by decide)) (by decide)
      refine lv_aload_n hx hb dX4_readPart_85 rfl (lv_at hl 0 rfl) ?_
      refine lv_aload_n hx hb dX4_readPart_86 rfl (lv_at hl 1 rfl) ?_
      refine lv_iload_n hx hb dX4_readPart_87 rfl (lv_at hl 2 rfl) ?_
      refine lv_iconst (v := 1) hx hb dX4_readPart_88 (by decide) ?_
      refine lv_iadd hx hb dX4_readPart_89 (ztop (.int 4) (congrArg Value.int (by decide)) ?_)
      refine kcallV (As := [.ref (y 196), .int 4]) (rest := []) ⟨hx, hb, hml, hown, hts⟩ (kc_readWhole4 l D ct E y r5 q6 ju4 hEi) (wqX4_91_kc_readWhole4 hts ⟨Nat.le_of_ble_eq_true rfl, Nat.le_of_ble_eq_true rfl⟩) hw hS hA hK hZ hN 4 192 rfl kg192 rfl hl.1 rfl (Nat.le_of_ble_eq_true rfl) dX4_readPart_90 93 rfl (fun u20 H locs pu20 hw hS => ?_)
      obtain ⟨v21, r22, q23⟩ := u20
      have hv21 : zI 0 1 v21 := pu20.1
      have ju20 : kJ r22 := pu20.2.1
      have fu20 : zFr [196, 192, 193] r5 r22 := pu20.2.2.1
      have xu20 : (v21, r22, q23) = (Gk_readWhole4 r5 q6) := pu20.2.2.2.1
      have hE := zc_vrqE xu20 hE
      have hw : zPD D A (kW ct E y r22 q23) H := hw
      refine zfr 93 [.int v21] rfl rfl ?_
      refine lv_if_eq (tgt := 110) hx hb dX4_readPart_93 (by decide) (fun c24 => ?_) (fun c24 => ?_)
      · have hE := zifT c24 hE
        have k25 : zI 0 0 (v21) := zI.eqq c24 (zI.lit (a := 0) (b := 0) (c := 0) (by decide))
        refine lv_iconst (v := 0) hx hb dX4_readPart_110 (by decide) ?_
        exact ziretQ hQ hx hb hr rfl hlocks ((0 : Int32), r22, q23) rfl ⟨((zI.lit (a := 0) (b := 0) (c := 0) (by decide)).w (c := 0) (d := 1) (by decide)), ju20, (((zFr.refl).tr fu4 rfl).tr fu20 rfl), (hE.symm.trans hX), trivial⟩ hw hS dX4_readPart_111
      · have hE := zifF c24 hE
        have k26 : zI 1 1 (v21) := zI.neD c24 hv21 (zI.lit (a := 0) (b := 0) (c := 0) (by decide)) (by decide)
        refine lv_aload_n hx hb dX4_readPart_96 rfl (lv_at hl 1 rfl) ?_
        refine cgets 22 (by decide) hx hb hZ hS hown lf94 dX4_readPart_97 (ztop (.ref (E (zn 22))) rfl ?_)
        refine kcallV (As := [.ref (E (zn 22))]) (rest := []) ⟨hx, hb, hml, hown, hts⟩ (kc_take l D ct E y 22 r22 q23 ((zI.lit (a := 22) (b := 22) (c := 22) (by decide)).w (c := 0) (d := 32) (by decide)) ju20 hEi) (wqX4_97_kc_take hts ⟨Nat.le_of_ble_eq_true rfl, Nat.le_of_ble_eq_true rfl⟩) hw hS hA hK hZ hN 8 196 rfl kg196 rfl hl.1 rfl (Nat.le_of_ble_eq_true rfl) dX4_readPart_100 103 rfl (fun u27 H locs pu27 hw hS => ?_)
        obtain ⟨v28, r29, q30⟩ := u27
        have hv28 : zI 0 1 v28 := pu27.1
        have ju27 : kJ r29 := pu27.2.1
        have fu27 : zFr [196] r22 r29 := pu27.2.2.1
        have xu27 : (v28, r29, q30) = (Gk_take 22 r22 q23) := pu27.2.2.2.1
        have hE := zc_vrqE xu27 hE
        have hw : zPD D A (kW ct E y r29 q30) H := hw
        refine zfr 103 [.int v28] rfl rfl ?_
        refine lv_if_eq (tgt := 110) hx hb dX4_readPart_103 (by decide) (fun c31 => ?_) (fun c31 => ?_)
        · have hE := zifT c31 hE
          have k32 : zI 0 0 (v28) := zI.eqq c31 (zI.lit (a := 0) (b := 0) (c := 0) (by decide))
          refine lv_iconst (v := 0) hx hb dX4_readPart_110 (by decide) ?_
          exact ziretQ hQ hx hb hr rfl hlocks ((0 : Int32), r29, q30) rfl ⟨((zI.lit (a := 0) (b := 0) (c := 0) (by decide)).w (c := 0) (d := 1) (by decide)), ju27, ((((zFr.refl).tr fu4 rfl).tr fu20 rfl).tr fu27 rfl), (hE.symm.trans hX), trivial⟩ hw hS dX4_readPart_111
        · have hE := zifF c31 hE
          have k33 : zI 1 1 (v28) := zI.neD c31 hv28 (zI.lit (a := 0) (b := 0) (c := 0) (by decide)) (by decide)
          refine lv_iconst (v := 1) hx hb dX4_readPart_106 (by decide) ?_
          refine lv_goto (tgt := 111) hx hb dX4_readPart_107 (by decide) ?_
          exact ziretQ hQ hx hb hr rfl hlocks ((1 : Int32), r29, q30) rfl ⟨((zI.lit (a := 1) (b := 1) (c := 1) (by decide)).w (c := 0) (d := 1) (by decide)), ju27, ((((zFr.refl).tr fu4 rfl).tr fu20 rfl).tr fu27 rfl), (hE.symm.trans hX), trivial⟩ hw hS dX4_readPart_111
  have cut47 : ∀ (w47_3 : Int32) (w47_4 : Int32) (w47_s0 : Int32) (hw47_3 : zI 0 1 w47_3) (hw47_4 : zI 0 1 w47_4) (hE : X = Gk_readPart3_47 r q w47_3 w47_4 w47_s0), zKf p l e ({ frames := 17, cells := 0, slots := 0, locals := 720 }) s m a9 below meth c Q D A 47 6 [.int w47_s0] (kW ct E y r q) [(0, .ref (y 192)), (1, .ref (y 196)), (2, .int 3), (3, .int w47_3), (4, .int w47_4)] := by
    intro w47_3 w47_4 w47_s0 hw47_3 hw47_4 hE H locs ls hw hS hl
    unfold Gk_readPart3_47 at hE
    refine lv_istore (lv' := [(5, .int w47_s0), (0, .ref (y 192)), (1, .ref (y 196)), (2, .int 3), (3, .int w47_3), (4, .int w47_4)]) hx hb dX4_readPart_47 hl (by decide) rfl (fun ls hl => ?_)
    refine lv_iload_n hx hb dX4_readPart_49 rfl (lv_at hl 4 rfl) ?_
    refine lv_if_ne (tgt := 66) hx hb dX4_readPart_50 (by decide) (fun c34 => ?_) (fun c34 => ?_)
    · have hE := zifnT c34 hE
      have k35 : zI 1 1 (w47_3) := zI.neD c34 hw47_3 (zI.lit (a := 0) (b := 0) (c := 0) (by decide)) (by decide)
      exact cut66 w47_3 w47_4 w47_s0 (k35.w (c := 0) (d := 1) (by decide)) hw47_4 hE H locs ls hw hS (lv_sub hl [1, 2, 3, 4, 5, 0] rfl)
    · have hE := zifnF c34 hE
      have k36 : zI 0 0 (w47_3) := zI.eqq c34 (zI.lit (a := 0) (b := 0) (c := 0) (by decide))
      refine lv_iload hx hb dX4_readPart_53 (lv_at hl 0 rfl) ?_
      refine lv_bipush (v := (-13)) hx hb dX4_readPart_55 (by decide) ?_
      refine lv_icmp_ne (tgt := 66) hx hb dX4_readPart_57 (by decide) (fun c37 => ?_) (fun c37 => ?_)
      · have hE := zifnT c37 hE
        exact cut66 w47_3 w47_4 w47_s0 (k36.w (c := 0) (d := 1) (by decide)) hw47_4 hE H locs ls hw hS (lv_sub hl [1, 2, 3, 4, 5, 0] rfl)
      · have hE := zifnF c37 hE
        have k38 : zI (-13) (-13) (w47_s0) := zI.eqq c37 (zI.lit (a := (-13)) (b := (-13)) (c := (-13)) (by decide))
        refine lv_aload_n hx hb dX4_readPart_60 rfl (lv_at hl 2 rfl) ?_
        refine lv_iconst (v := 1) hx hb dX4_readPart_61 (by decide) ?_
        refine kcallV (As := [.int 1]) (rest := []) ⟨hx, hb, hml, hown, hts⟩ (kc_wrong l D ct E y (1 : Int32) r q hJ0 hEi) (wqX4_87_kc_wrong hts ⟨Nat.le_of_ble_eq_true rfl, Nat.le_of_ble_eq_true rfl⟩) hw hS hA hK hZ hN 8 196 rfl kg196 rfl hl.1 rfl (Nat.le_of_ble_eq_true rfl) dX4_readPart_62 65 rfl (fun u39 H locs pu39 hw hS => ?_)
        obtain ⟨v40, r41⟩ := u39
        have hv40 : zI 0 0 v40 := pu39.1
        have ju39 : kJ r41 := pu39.2.1
        have fu39 : zFr [196] r r41 := pu39.2.2.1
        have xu39 : (v40, r41) = (Gk_wrong (1 : Int32) r q) := pu39.2.2.2.1
        have hE := zc_vrE xu39 hE
        have hw : zPD D A (kW ct E y r41 q) H := hw
        refine zfr 65 [.int v40] rfl rfl ?_
        exact ziretQ hQ hx hb hr ((hv40.w (c := 0) (d := 1) (by decide)).rn) hlocks (v40, r41, q) rfl ⟨(hv40.w (c := 0) (d := 1) (by decide)), ju39, ((zFr.refl).tr fu39 rfl), (hE.symm.trans hX), trivial⟩ hw hS dX4_readPart_65
  have cut31 : ∀ (w31_3 : Int32) (w31_s0 : Int32) (hw31_3 : zI 0 1 w31_3) (hw31_s0 : zI 0 1 w31_s0) (hE : X = Gk_readPart3_31 r q w31_3 w31_s0), zKf p l e ({ frames := 17, cells := 0, slots := 0, locals := 720 }) s m a9 below meth c Q D A 31 6 [.int w31_s0] (kW ct E y r q) [(0, .ref (y 192)), (1, .ref (y 196)), (2, .int 3), (3, .int w31_3)] := by
    intro w31_3 w31_s0 hw31_3 hw31_s0 hE H locs ls hw hS hl
    unfold Gk_readPart3_31 at hE
    refine lv_istore (lv' := [(4, .int w31_s0), (0, .ref (y 192)), (1, .ref (y 196)), (2, .int 3), (3, .int w31_3)]) hx hb dX4_readPart_31 hl (by decide) rfl (fun ls hl => ?_)
    refine lv_iload hx hb dX4_readPart_33 (lv_at hl 0 rfl) ?_
    refine lv_if_eq (tgt := 43) hx hb dX4_readPart_35 (by decide) (fun c42 => ?_) (fun c42 => ?_)
    · have hE := zifT c42 hE
      have k43 : zI 0 0 (w31_s0) := zI.eqq c42 (zI.lit (a := 0) (b := 0) (c := 0) (by decide))
      refine lv_aload_n hx hb dX4_readPart_43 rfl (lv_at hl 2 rfl) ?_
      refine zcallW (va_runS (As := [.ref (y 196)]) (rest := []) ⟨hx, hb, hml, hown, hts⟩ (kc_valueHere l D ct E y r q hJ0 hEi H.size) (va_cwS 1 hts (kgS (zr19 4 rfl) (zr19 5 rfl) (zr4 12 rfl) (zr19 6 rfl)) rfl rfl rfl (by decide +kernel) ⟨Nat.le_of_ble_eq_true rfl, Nat.le_of_ble_eq_true rfl⟩) (cpreS hK hw hS hA hZ hN (List.range (kW ct E y r q).length) kWn (zrange _)) rfl rfl hl.1 rfl (lv_room (Nat.le_of_ble_eq_true rfl)) dX4_readPart_44 ⟨Nat.le_of_ble_eq_true rfl, Nat.le_of_ble_eq_true rfl⟩) hw hS hA 47 rfl (fun u44 H locs pu44 hw hS => ?_)
      have hu44 : zI (-2147483648) 2147483647 u44 := pu44.1
      have xu44 : u44 = (Gk_valueHere r q) := pu44.2.1
      have hE := zletE xu44 hE
      have hw : zPD D A (kW ct E y r q) H := hw
      refine zfr 47 [.int u44] rfl rfl ?_
      exact cut47 w31_3 w31_s0 u44 hw31_3 (k43.w (c := 0) (d := 1) (by decide)) hE H locs ls hw hS (lv_sub hl [1, 2, 3, 4, 0] rfl)
    · have hE := zifF c42 hE
      have k46 : zI 1 1 (w31_s0) := zI.neD c42 hw31_s0 (zI.lit (a := 0) (b := 0) (c := 0) (by decide)) (by decide)
      refine lv_bipush (v := (-5)) hx hb dX4_readPart_38 (by decide) ?_
      refine lv_goto (tgt := 47) hx hb dX4_readPart_40 (by decide) ?_
      exact cut47 w31_3 w31_s0 (-5) hw31_3 (k46.w (c := 0) (d := 1) (by decide)) hE H locs ls hw hS (lv_sub hl [1, 2, 3, 4, 0] rfl)
  have cut15 : ∀ (w15_s0 : Int32) (hw15_s0 : zI 0 1 w15_s0) (hE : X = Gk_readPart3_15 r q w15_s0), zKf p l e ({ frames := 17, cells := 0, slots := 0, locals := 720 }) s m a9 below meth c Q D A 15 6 [.int w15_s0] (kW ct E y r q) [(0, .ref (y 192)), (1, .ref (y 196)), (2, .int 3)] := by
    intro w15_s0 hw15_s0 hE H locs ls hw hS hl
    unfold Gk_readPart3_15 at hE
    refine lv_istore_n (lv' := [(3, .int w15_s0), (0, .ref (y 192)), (1, .ref (y 196)), (2, .int 3)]) hx hb dX4_readPart_15 rfl hl (by decide) rfl (fun ls hl => ?_)
    refine lv_aload_n hx hb dX4_readPart_16 rfl (lv_at hl 2 rfl) ?_
    refine va_get (D := D) (ci := 8) (v := .ref (E (zn (r 196 4)))) hx hb hts hiX9 hown hK hw.1 196 kg196 rfl 4 (by decide) lf36 (fun _ h9 => h9) rfl dX4_readPart_17 (cgenSE (show zI 0 32 (r 196 4) from hJ0.i 196 4) (fun v47 ev47 hv47 => ?_))
    have hE := zletE ev47 hE
    refine cgets 18 (by decide) hx hb hZ hS hown lf80 dX4_readPart_20 (ztop (.ref (E (zn 18))) rfl ?_)
    refine cxacmp_ne (a := v47) (b := (18 : Int32)) (tgt := 30) hEi hv47 ((zI.lit (a := 18) (b := 18) (c := 18) (by decide)).w (c := 0) (d := 32) (by decide)) hx hb dX4_readPart_23 (by decide) (fun c48 => ?_) (fun c48 => ?_)
    · have hE := zifnT c48 hE
      refine lv_iconst (v := 0) hx hb dX4_readPart_30 (by decide) ?_
      exact cut31 w15_s0 0 hw15_s0 ((zI.lit (a := 0) (b := 0) (c := 0) (by decide)).w (c := 0) (d := 1) (by decide)) hE H locs ls hw hS (lv_sub hl [1, 2, 3, 0] rfl)
    · have hE := zifnF c48 hE
      refine lv_iconst (v := 1) hx hb dX4_readPart_26 (by decide) ?_
      refine lv_goto (tgt := 31) hx hb dX4_readPart_27 (by decide) ?_
      exact cut31 w15_s0 1 hw15_s0 ((zI.lit (a := 1) (b := 1) (c := 1) (by decide)).w (c := 0) (d := 1) (by decide)) hE H locs ls hw hS (lv_sub hl [1, 2, 3, 0] rfl)
  intro H locs hw hS ls hl
  have hl : lv_has ls 6 [(0, .ref (y 192)), (1, .ref (y 196)), (2, .int 3)] := hl
  have hE := hX
  unfold Gk_readPart3 at hE
  refine lv_aload_n hx hb dX4_readPart_0 rfl (lv_at hl 1 rfl) ?_
  refine va_get (D := D) (ci := 8) (v := .ref (E (zn (r 196 4)))) hx hb hts hiX9 hown hK hw.1 196 kg196 rfl 4 (by decide) lf36 (fun _ h9 => h9) rfl dX4_readPart_1 (cgenSE (show zI 0 32 (r 196 4) from hJ0.i 196 4) (fun v49 ev49 hv49 => ?_))
  have hE := zletE ev49 hE
  refine cgets 21 (by decide) hx hb hZ hS hown lf77 dX4_readPart_4 (ztop (.ref (E (zn 21))) rfl ?_)
  refine cxacmp_ne (a := v49) (b := (21 : Int32)) (tgt := 14) hEi hv49 ((zI.lit (a := 21) (b := 21) (c := 21) (by decide)).w (c := 0) (d := 32) (by decide)) hx hb dX4_readPart_7 (by decide) (fun c50 => ?_) (fun c50 => ?_)
  · have hE := zifnT c50 hE
    refine lv_iconst (v := 0) hx hb dX4_readPart_14 (by decide) ?_
    exact cut15 0 ((zI.lit (a := 0) (b := 0) (c := 0) (by decide)).w (c := 0) (d := 1) (by decide)) hE H locs ls hw hS (lv_sub hl [0, 1, 2] rfl)
  · have hE := zifnF c50 hE
    refine lv_iconst (v := 1) hx hb dX4_readPart_10 (by decide) ?_
    refine lv_goto (tgt := 15) hx hb dX4_readPart_11 (by decide) ?_
    exact cut15 1 ((zI.lit (a := 1) (b := 1) (c := 1) (by decide)).w (c := 0) (d := 1) (by decide)) hE H locs ls hw hS (lv_sub hl [0, 1, 2] rfl)

set_option maxHeartbeats 4000000 in
set_option maxRecDepth 100000 in
theorem kc_readProduct3 (l : Launch) (D : va_G) (ct : Nat → ClassId) (E : Nat → Nat) (y : Nat → Nat) (r : zRr) (q : zRq) (hJ0 : kJ r) (hEi : kEi E) : cC l yX4_readProduct (.code yX4_readProduct cX4_readProduct 4 (some .boolean) :: wsL_law0) ({ frames := 18, cells := 0, slots := 0, locals := 760 }) D ct E [.ref (y 192), .ref (y 196), .int 3] (kW ct E y r q) (S := Int32 × zRr × zRq) (fun u => some (.int u.1)) (fun u => zI 0 1 u.1 ∧ kJ u.2.1 ∧ zFr [196, 192, 193] r u.2.1 ∧ u = (Gk_readProduct3 r q) ∧ True) (fun u => kW ct E y u.2.1 u.2.2) := by
  refine cofQ cX4_readProduct 4 (some .boolean) (by decide) rfl (Nat.le_of_ble_eq_true rfl) ?_
  intro p e s m below meth c A a9 Q ha9 hx hb hr hml hts hown hlocks hname hK hA hZ hN hQ
  have hown : s.vm.findClass RX4 = some m.cls := hown
  have hiX9 : ∀ w ∈ wsX90, w ∈ .code yX4_readProduct cX4_readProduct 4 (some .boolean) :: wsL_law0 := fun _ h => ki (zs_wsX90 _ h)
  have lf36 := hts (.fieldLink RX4 36 "BeardPass$Tape" "sort" "LBeardPass$Sort;") (ki (zr18 17 rfl))
  have lf74 := hts (.fieldLink RX4 74 "BeardPass$Sort" "TIMES" "LBeardPass$Sort;") (ki (zr19 18 rfl))
  obtain ⟨X, hX⟩ : ∃ X, X = (Gk_readProduct3 r q) := ⟨_, rfl⟩
  have cut13 : ∀ (n13 : Nat) (w13_3 : Int32) (rw13 : zRr) (qw13 : zRq) (hw13_3 : zI 0 1000 w13_3) (jw13 : kJ rw13) (fw13 : zFr [196, 192, 193] r rw13) (hE : X = Gk_readProduct3_13 n13 w13_3 rw13 qw13), 1000 - w13_3.toInt < (n13 : Int) → zKf p l e ({ frames := 18, cells := 0, slots := 0, locals := 760 }) s m a9 below meth c Q D A 13 4 [] (kW ct E y rw13 qw13) [(0, .ref (y 192)), (1, .ref (y 196)), (2, .int 3), (3, .int w13_3)] := by
    intro n13
    induction n13 with
    | zero => intro w13_3 rw13 qw13 hw13_3 jw13 fw13 hE hm13; exact zI.no hw13_3 (by decide) hm13
    | succ n13 ih13 =>
      intro w13_3 rw13 qw13 hw13_3 jw13 fw13 hE hm13
      have hE : X = Bk_readProduct3_13 (Gk_readProduct3_13 n13) w13_3 rw13 qw13 := hE
      unfold Bk_readProduct3_13 at hE
      intro H locs ls hw hS hl
      refine lv_iload_n hx hb dX4_readProduct_13 rfl (lv_at hl 3 rfl) ?_
      refine lv_sipush (v := 1000) hx hb dX4_readProduct_14 (by decide) ?_
      refine lv_icmp_ge (tgt := 57) hx hb dX4_readProduct_17 (by decide) (fun c1 => ?_) (fun c1 => ?_)
      · have hE := zifT c1 hE
        have k2 : zI 1000 1000 (w13_3) := zI.leD c1 (zI.lit (a := 1000) (b := 1000) (c := 1000) (by decide)) hw13_3 (by decide)
        refine lv_iconst (v := 1) hx hb dX4_readProduct_57 (by decide) ?_
        exact ziretQ hQ hx hb hr rfl hlocks ((1 : Int32), rw13, qw13) rfl ⟨((zI.lit (a := 1) (b := 1) (c := 1) (by decide)).w (c := 0) (d := 1) (by decide)), jw13, fw13, (hE.symm.trans hX), trivial⟩ hw hS dX4_readProduct_58
      · have hE := zifF c1 hE
        have k3 : zI 0 999 (w13_3) := zI.ltU (zI.nle c1) hw13_3 (zI.lit (a := 1000) (b := 1000) (c := 1000) (by decide)) (by decide)
        refine lv_aload_n hx hb dX4_readProduct_20 rfl (lv_at hl 1 rfl) ?_
        refine va_get (D := D) (ci := 8) (v := .ref (E (zn (rw13 196 4)))) hx hb hts hiX9 hown hK hw.1 196 kg196 rfl 4 (by decide) lf36 (fun _ h9 => h9) rfl dX4_readProduct_21 (cgenSE (show zI 0 32 (rw13 196 4) from jw13.i 196 4) (fun v4 ev4 hv4 => ?_))
        have hE := zletE ev4 hE
        refine cgets 27 (by decide) hx hb hZ hS hown lf74 dX4_readProduct_24 (ztop (.ref (E (zn 27))) rfl ?_)
        refine cxacmp_ne (a := v4) (b := (27 : Int32)) (tgt := 57) hEi hv4 ((zI.lit (a := 27) (b := 27) (c := 27) (by decide)).w (c := 0) (d := 32) (by decide)) hx hb dX4_readProduct_27 (by decide) (fun c5 => ?_) (fun c5 => ?_)
        · have hE := zifnT c5 hE
          refine lv_iconst (v := 1) hx hb dX4_readProduct_57 (by decide) ?_
          exact ziretQ hQ hx hb hr rfl hlocks ((1 : Int32), rw13, qw13) rfl ⟨((zI.lit (a := 1) (b := 1) (c := 1) (by decide)).w (c := 0) (d := 1) (by decide)), jw13, fw13, (hE.symm.trans hX), trivial⟩ hw hS dX4_readProduct_58
        · have hE := zifnF c5 hE
          refine lv_aload_n hx hb dX4_readProduct_30 rfl (lv_at hl 1 rfl) ?_
          refine kcallV (As := []) (rest := []) ⟨hx, hb, hml, hown, hts⟩ (kc_step l D ct E y rw13 qw13 jw13 hEi) (wqX4_50_kc_step hts ⟨Nat.le_of_ble_eq_true rfl, Nat.le_of_ble_eq_true rfl⟩) hw hS hA hK hZ hN 8 196 rfl kg196 rfl hl.1 rfl (Nat.le_of_ble_eq_true rfl) dX4_readProduct_31 34 rfl (fun u6 H locs pu6 hw hS => ?_)
          obtain ⟨r7, q8⟩ := u6
          have ju6 : kJ r7 := pu6.1
          have fu6 : zFr [196] rw13 r7 := pu6.2.1
          have xu6 : (r7, q8) = (Gk_step rw13 qw13) := pu6.2.2.1
          have hE := zc_rqE xu6 hE
          have hw : zPD D A (kW ct E y r7 q8) H := hw
          refine zfr 34 [] rfl rfl ?_
          refine lv_aload_n hx hb dX4_readProduct_34 rfl (lv_at hl 0 rfl) ?_
          refine lv_aload_n hx hb dX4_readProduct_35 rfl (lv_at hl 1 rfl) ?_
          refine lv_iload_n hx hb dX4_readProduct_36 rfl (lv_at hl 2 rfl) ?_
          refine kcallV (As := [.ref (y 196), .int 3]) (rest := []) ⟨hx, hb, hml, hown, hts⟩ (kc_readPart3 l D ct E y r7 q8 ju6 hEi) (wqX4_71_kc_readPart3 hts ⟨Nat.le_of_ble_eq_true rfl, Nat.le_of_ble_eq_true rfl⟩) hw hS hA hK hZ hN 4 192 rfl kg192 rfl hl.1 rfl (Nat.le_of_ble_eq_true rfl) dX4_readProduct_37 40 rfl (fun u9 H locs pu9 hw hS => ?_)
          obtain ⟨v10, r11, q12⟩ := u9
          have hv10 : zI 0 1 v10 := pu9.1
          have ju9 : kJ r11 := pu9.2.1
          have fu9 : zFr [196, 192, 193] r7 r11 := pu9.2.2.1
          have xu9 : (v10, r11, q12) = (Gk_readPart3 r7 q8) := pu9.2.2.2.1
          have hE := zc_vrqE xu9 hE
          have hw : zPD D A (kW ct E y r11 q12) H := hw
          refine zfr 40 [.int v10] rfl rfl ?_
          refine lv_if_ne (tgt := 45) hx hb dX4_readProduct_40 (by decide) (fun c13 => ?_) (fun c13 => ?_)
          · have hE := zifnT c13 hE
            have k14 : zI 1 1 (v10) := zI.neD c13 hv10 (zI.lit (a := 0) (b := 0) (c := 0) (by decide)) (by decide)
            refine lv_aload_n hx hb dX4_readProduct_45 rfl (lv_at hl 0 rfl) ?_
            refine lv_bipush (v := (-12)) hx hb dX4_readProduct_46 (by decide) ?_
            refine kcallV (As := [.int (-12)]) (rest := []) ⟨hx, hb, hml, hown, hts⟩ (kc_add l D ct E y ((-12) : Int32) r11 q12 ju9 hEi) (wqX4_22_kc_add hts ⟨Nat.le_of_ble_eq_true rfl, Nat.le_of_ble_eq_true rfl⟩) hw hS hA hK hZ hN 4 192 rfl kg192 rfl hl.1 rfl (Nat.le_of_ble_eq_true rfl) dX4_readProduct_48 51 rfl (fun u15 H locs pu15 hw hS => ?_)
            have ju15 : kJ u15 := pu15.1
            have fu15 : zFr [192, 193] r11 u15 := pu15.2.1
            have xu15 : u15 = (Gk_add ((-12) : Int32) r11 q12) := pu15.2.2.1
            have hE := zletE xu15 hE
            have hw : zPD D A (kW ct E y u15 q12) H := hw
            refine zfr 51 [] rfl rfl ?_
            refine lv_iinc (v := w13_3 + 1) (lv' := [(3, .int (w13_3 + 1)), (0, .ref (y 192)), (1, .ref (y 196)), (2, .int 3)]) hx hb dX4_readProduct_51 hl (k := 3) rfl (rfl) (by decide) rfl (fun ls hl => ?_)
            have k17 : zI 1 1000 (w13_3 + 1) := zI.add k3 (zI.lit (a := 1) (b := 1) (by decide)) (by decide)
            refine lv_goto (tgt := 13) hx hb dX4_readProduct_54 (by decide) ?_
            exact ih13 (w13_3 + 1) u15 q12 (k17.w (c := 0) (d := 1000) (by decide)) ju15 (((fw13.tr fu6 rfl).tr fu9 rfl).tr fu15 rfl) hE (zI.up k3 (by decide) hm13) H locs ls hw hS (lv_sub hl [1, 2, 3, 0] rfl)
          · have hE := zifnF c13 hE
            have k18 : zI 0 0 (v10) := zI.eqq c13 (zI.lit (a := 0) (b := 0) (c := 0) (by decide))
            refine lv_iconst (v := 0) hx hb dX4_readProduct_43 (by decide) ?_
            exact ziretQ hQ hx hb hr rfl hlocks ((0 : Int32), r11, q12) rfl ⟨((zI.lit (a := 0) (b := 0) (c := 0) (by decide)).w (c := 0) (d := 1) (by decide)), ju9, ((fw13.tr fu6 rfl).tr fu9 rfl), (hE.symm.trans hX), trivial⟩ hw hS dX4_readProduct_44
  intro H locs hw hS ls hl
  have hl : lv_has ls 4 [(0, .ref (y 192)), (1, .ref (y 196)), (2, .int 3)] := hl
  have hE := hX
  unfold Gk_readProduct3 at hE
  refine lv_aload_n hx hb dX4_readProduct_0 rfl (lv_at hl 0 rfl) ?_
  refine lv_aload_n hx hb dX4_readProduct_1 rfl (lv_at hl 1 rfl) ?_
  refine lv_iload_n hx hb dX4_readProduct_2 rfl (lv_at hl 2 rfl) ?_
  refine kcallV (As := [.ref (y 196), .int 3]) (rest := []) ⟨hx, hb, hml, hown, hts⟩ (kc_readPart3 l D ct E y r q hJ0 hEi) (wqX4_71_kc_readPart3 hts ⟨Nat.le_of_ble_eq_true rfl, Nat.le_of_ble_eq_true rfl⟩) hw hS hA hK hZ hN 4 192 rfl kg192 rfl hl.1 rfl (Nat.le_of_ble_eq_true rfl) dX4_readProduct_3 6 rfl (fun u19 H locs pu19 hw hS => ?_)
  obtain ⟨v20, r21, q22⟩ := u19
  have hv20 : zI 0 1 v20 := pu19.1
  have ju19 : kJ r21 := pu19.2.1
  have fu19 : zFr [196, 192, 193] r r21 := pu19.2.2.1
  have xu19 : (v20, r21, q22) = (Gk_readPart3 r q) := pu19.2.2.2.1
  have hE := zc_vrqE xu19 hE
  have hw : zPD D A (kW ct E y r21 q22) H := hw
  refine zfr 6 [.int v20] rfl rfl ?_
  refine lv_if_ne (tgt := 11) hx hb dX4_readProduct_6 (by decide) (fun c23 => ?_) (fun c23 => ?_)
  · have hE := zifnT c23 hE
    have k24 : zI 1 1 (v20) := zI.neD c23 hv20 (zI.lit (a := 0) (b := 0) (c := 0) (by decide)) (by decide)
    refine lv_iconst (v := 0) hx hb dX4_readProduct_11 (by decide) ?_
    refine lv_istore_n (lv' := [(3, .int 0), (0, .ref (y 192)), (1, .ref (y 196)), (2, .int 3)]) hx hb dX4_readProduct_12 rfl hl (by decide) rfl (fun ls hl => ?_)
    exact cut13 1001 0 r21 q22 ((zI.lit (a := 0) (b := 0) (c := 0) (by decide)).w (c := 0) (d := 1000) (by decide)) ju19 ((zFr.refl).tr fu19 rfl) hE (zI.m0 (zI.lit (a := 0) (b := 0) (c := 0) (by decide)) (by decide)) H locs ls hw hS (lv_sub hl [1, 2, 3, 0] rfl)
  · have hE := zifnF c23 hE
    have k25 : zI 0 0 (v20) := zI.eqq c23 (zI.lit (a := 0) (b := 0) (c := 0) (by decide))
    refine lv_iconst (v := 0) hx hb dX4_readProduct_9 (by decide) ?_
    exact ziretQ hQ hx hb hr rfl hlocks ((0 : Int32), r21, q22) rfl ⟨((zI.lit (a := 0) (b := 0) (c := 0) (by decide)).w (c := 0) (d := 1) (by decide)), ju19, ((zFr.refl).tr fu19 rfl), (hE.symm.trans hX), trivial⟩ hw hS dX4_readProduct_10

set_option maxHeartbeats 4000000 in
set_option maxRecDepth 100000 in
theorem kc_readSum3 (l : Launch) (D : va_G) (ct : Nat → ClassId) (E : Nat → Nat) (y : Nat → Nat) (r : zRr) (q : zRq) (hJ0 : kJ r) (hEi : kEi E) : cC l yX4_readSum (.code yX4_readSum cX4_readSum 5 (some .boolean) :: wsL_law0) ({ frames := 19, cells := 0, slots := 0, locals := 800 }) D ct E [.ref (y 192), .ref (y 196), .int 3] (kW ct E y r q) (S := Int32 × zRr × zRq) (fun u => some (.int u.1)) (fun u => zI 0 1 u.1 ∧ kJ u.2.1 ∧ zFr [196, 192, 193] r u.2.1 ∧ u = (Gk_readSum3 r q) ∧ True) (fun u => kW ct E y u.2.1 u.2.2) := by
  refine cofQ cX4_readSum 5 (some .boolean) (by decide) rfl (Nat.le_of_ble_eq_true rfl) ?_
  intro p e s m below meth c A a9 Q ha9 hx hb hr hml hts hown hlocks hname hK hA hZ hN hQ
  have hown : s.vm.findClass RX4 = some m.cls := hown
  have hiX9 : ∀ w ∈ wsX90, w ∈ .code yX4_readSum cX4_readSum 5 (some .boolean) :: wsL_law0 := fun _ h => ki (zs_wsX90 _ h)
  have lf36 := hts (.fieldLink RX4 36 "BeardPass$Tape" "sort" "LBeardPass$Sort;") (ki (zr18 17 rfl))
  have lf65 := hts (.fieldLink RX4 65 "BeardPass$Sort" "PLUS" "LBeardPass$Sort;") (ki (zr19 20 rfl))
  have lf68 := hts (.fieldLink RX4 68 "BeardPass$Sort" "MINUS" "LBeardPass$Sort;") (ki (zr19 21 rfl))
  obtain ⟨X, hX⟩ : ∃ X, X = (Gk_readSum3 r q) := ⟨_, rfl⟩
  have cut13 : ∀ (n13 : Nat) (w13_3 : Int32) (rw13 : zRr) (qw13 : zRq) (hw13_3 : zI 0 1000 w13_3) (jw13 : kJ rw13) (fw13 : zFr [196, 192, 193] r rw13) (hE : X = Gk_readSum3_13 n13 w13_3 rw13 qw13), 1000 - w13_3.toInt < (n13 : Int) → zKf p l e ({ frames := 19, cells := 0, slots := 0, locals := 800 }) s m a9 below meth c Q D A 13 5 [] (kW ct E y rw13 qw13) [(0, .ref (y 192)), (1, .ref (y 196)), (2, .int 3), (3, .int w13_3)] := by
    intro n13
    induction n13 with
    | zero => intro w13_3 rw13 qw13 hw13_3 jw13 fw13 hE hm13; exact zI.no hw13_3 (by decide) hm13
    | succ n13 ih13 =>
      intro w13_3 rw13 qw13 hw13_3 jw13 fw13 hE hm13
      have hE : X = Bk_readSum3_13 (Gk_readSum3_13 n13) w13_3 rw13 qw13 := hE
      unfold Bk_readSum3_13 at hE
      have cut57 : ∀ (w57_s0 : Int32) (hw57_3 : zI 0 999 w13_3) (hw57_s0 : zI (-11) (-2) w57_s0) (hE : X = Gk_readSum3_57 w13_3 rw13 qw13 (Gk_readSum3_13 n13) w57_s0), zKf p l e ({ frames := 19, cells := 0, slots := 0, locals := 800 }) s m a9 below meth c Q D A 57 5 [.int w57_s0] (kW ct E y rw13 qw13) [(0, .ref (y 192)), (1, .ref (y 196)), (2, .int 3), (3, .int w13_3)] := by
        intro w57_s0 hw57_3 hw57_s0 hE H locs ls hw hS hl
        unfold Gk_readSum3_57 at hE
        refine lv_istore (lv' := [(4, .int w57_s0), (0, .ref (y 192)), (1, .ref (y 196)), (2, .int 3), (3, .int w13_3)]) hx hb dX4_readSum_57 hl (by decide) rfl (fun ls hl => ?_)
        refine lv_aload_n hx hb dX4_readSum_59 rfl (lv_at hl 2 rfl) ?_
        refine kcallV (As := []) (rest := []) ⟨hx, hb, hml, hown, hts⟩ (kc_step l D ct E y rw13 qw13 jw13 hEi) (wqX4_50_kc_step hts ⟨Nat.le_of_ble_eq_true rfl, Nat.le_of_ble_eq_true rfl⟩) hw hS hA hK hZ hN 8 196 rfl kg196 rfl hl.1 rfl (Nat.le_of_ble_eq_true rfl) dX4_readSum_60 63 rfl (fun u1 H locs pu1 hw hS => ?_)
        obtain ⟨r2, q3⟩ := u1
        have ju1 : kJ r2 := pu1.1
        have fu1 : zFr [196] rw13 r2 := pu1.2.1
        have xu1 : (r2, q3) = (Gk_step rw13 qw13) := pu1.2.2.1
        have hE := zc_rqE xu1 hE
        have hw : zPD D A (kW ct E y r2 q3) H := hw
        refine zfr 63 [] rfl rfl ?_
        refine lv_aload_n hx hb dX4_readSum_63 rfl (lv_at hl 1 rfl) ?_
        refine lv_aload_n hx hb dX4_readSum_64 rfl (lv_at hl 2 rfl) ?_
        refine lv_iload_n hx hb dX4_readSum_65 rfl (lv_at hl 3 rfl) ?_
        refine kcallV (As := [.ref (y 196), .int 3]) (rest := []) ⟨hx, hb, hml, hown, hts⟩ (kc_readProduct3 l D ct E y r2 q3 ju1 hEi) (wqX4_62_kc_readProduct3 hts ⟨Nat.le_of_ble_eq_true rfl, Nat.le_of_ble_eq_true rfl⟩) hw hS hA hK hZ hN 4 192 rfl kg192 rfl hl.1 rfl (Nat.le_of_ble_eq_true rfl) dX4_readSum_66 69 rfl (fun u4 H locs pu4 hw hS => ?_)
        obtain ⟨v5, r6, q7⟩ := u4
        have hv5 : zI 0 1 v5 := pu4.1
        have ju4 : kJ r6 := pu4.2.1
        have fu4 : zFr [196, 192, 193] r2 r6 := pu4.2.2.1
        have xu4 : (v5, r6, q7) = (Gk_readProduct3 r2 q3) := pu4.2.2.2.1
        have hE := zc_vrqE xu4 hE
        have hw : zPD D A (kW ct E y r6 q7) H := hw
        refine zfr 69 [.int v5] rfl rfl ?_
        refine lv_if_ne (tgt := 74) hx hb dX4_readSum_69 (by decide) (fun c8 => ?_) (fun c8 => ?_)
        · have hE := zifnT c8 hE
          have k9 : zI 1 1 (v5) := zI.neD c8 hv5 (zI.lit (a := 0) (b := 0) (c := 0) (by decide)) (by decide)
          refine lv_aload_n hx hb dX4_readSum_74 rfl (lv_at hl 1 rfl) ?_
          refine lv_iload hx hb dX4_readSum_75 (lv_at hl 0 rfl) ?_
          refine kcallV (As := [.int w57_s0]) (rest := []) ⟨hx, hb, hml, hown, hts⟩ (kc_add l D ct E y w57_s0 r6 q7 ju4 hEi) (wqX4_22_kc_add hts ⟨Nat.le_of_ble_eq_true rfl, Nat.le_of_ble_eq_true rfl⟩) hw hS hA hK hZ hN 4 192 rfl kg192 rfl hl.1 rfl (Nat.le_of_ble_eq_true rfl) dX4_readSum_77 80 rfl (fun u10 H locs pu10 hw hS => ?_)
          have ju10 : kJ u10 := pu10.1
          have fu10 : zFr [192, 193] r6 u10 := pu10.2.1
          have xu10 : u10 = (Gk_add w57_s0 r6 q7) := pu10.2.2.1
          have hE := zletE xu10 hE
          have hw : zPD D A (kW ct E y u10 q7) H := hw
          refine zfr 80 [] rfl rfl ?_
          refine lv_iinc (v := w13_3 + 1) (lv' := [(3, .int (w13_3 + 1)), (4, .int w57_s0), (0, .ref (y 192)), (1, .ref (y 196)), (2, .int 3)]) hx hb dX4_readSum_80 hl (k := 4) rfl (rfl) (by decide) rfl (fun ls hl => ?_)
          have k12 : zI 1 1000 (w13_3 + 1) := zI.add hw57_3 (zI.lit (a := 1) (b := 1) (by decide)) (by decide)
          refine lv_goto (tgt := 13) hx hb dX4_readSum_83 (by decide) ?_
          exact ih13 (w13_3 + 1) u10 q7 (k12.w (c := 0) (d := 1000) (by decide)) ju10 (((fw13.tr fu1 rfl).tr fu4 rfl).tr fu10 rfl) hE (zI.up hw57_3 (by decide) hm13) H locs ls hw hS (lv_sub hl [2, 3, 4, 0] rfl)
        · have hE := zifnF c8 hE
          have k13 : zI 0 0 (v5) := zI.eqq c8 (zI.lit (a := 0) (b := 0) (c := 0) (by decide))
          refine lv_iconst (v := 0) hx hb dX4_readSum_72 (by decide) ?_
          exact ziretQ hQ hx hb hr rfl hlocks ((0 : Int32), r6, q7) rfl ⟨((zI.lit (a := 0) (b := 0) (c := 0) (by decide)).w (c := 0) (d := 1) (by decide)), ju4, ((fw13.tr fu1 rfl).tr fu4 rfl), (hE.symm.trans hX), trivial⟩ hw hS dX4_readSum_73
      have cut40 : ∀ (hw40_3 : zI 0 999 w13_3) (hE : X = Gk_readSum3_40 w13_3 rw13 qw13 (Gk_readSum3_13 n13) ), zKf p l e ({ frames := 19, cells := 0, slots := 0, locals := 800 }) s m a9 below meth c Q D A 40 5 [] (kW ct E y rw13 qw13) [(0, .ref (y 192)), (1, .ref (y 196)), (2, .int 3), (3, .int w13_3)] := by
        intro hw40_3 hE H locs ls hw hS hl
        unfold Gk_readSum3_40 at hE
        refine lv_aload_n hx hb dX4_readSum_40 rfl (lv_at hl 1 rfl) ?_
        refine va_get (D := D) (ci := 8) (v := .ref (E (zn (rw13 196 4)))) hx hb hts hiX9 hown hK hw.1 196 kg196 rfl 4 (by decide) lf36 (fun _ h9 => h9) rfl dX4_readSum_41 (cgenSE (show zI 0 32 (rw13 196 4) from jw13.i 196 4) (fun v14 ev14 hv14 => ?_))
        have hE := zletE ev14 hE
        refine cgets 25 (by decide) hx hb hZ hS hown lf65 dX4_readSum_44 (ztop (.ref (E (zn 25))) rfl ?_)
        refine cxacmp_ne (a := v14) (b := (25 : Int32)) (tgt := 55) hEi hv14 ((zI.lit (a := 25) (b := 25) (c := 25) (by decide)).w (c := 0) (d := 32) (by decide)) hx hb dX4_readSum_47 (by decide) (fun c15 => ?_) (fun c15 => ?_)
        · have hE := zifnT c15 hE
          refine lv_bipush (v := (-11)) hx hb dX4_readSum_55 (by decide) ?_
          exact cut57 (-11) hw40_3 ((zI.lit (a := (-11)) (b := (-11)) (c := (-11)) (by decide)).w (c := (-11)) (d := (-2)) (by decide)) hE H locs ls hw hS (lv_sub hl [0, 1, 2, 3] rfl)
        · have hE := zifnF c15 hE
          refine lv_bipush (v := (-10)) hx hb dX4_readSum_50 (by decide) ?_
          refine lv_goto (tgt := 57) hx hb dX4_readSum_52 (by decide) ?_
          exact cut57 (-10) hw40_3 ((zI.lit (a := (-10)) (b := (-10)) (c := (-10)) (by decide)).w (c := (-11)) (d := (-2)) (by decide)) hE H locs ls hw hS (lv_sub hl [0, 1, 2, 3] rfl)
      intro H locs ls hw hS hl
      refine lv_iload_n hx hb dX4_readSum_13 rfl (lv_at hl 3 rfl) ?_
      refine lv_sipush (v := 1000) hx hb dX4_readSum_14 (by decide) ?_
      refine lv_icmp_ge (tgt := 86) hx hb dX4_readSum_17 (by decide) (fun c16 => ?_) (fun c16 => ?_)
      · have hE := zifT c16 hE
        have k17 : zI 1000 1000 (w13_3) := zI.leD c16 (zI.lit (a := 1000) (b := 1000) (c := 1000) (by decide)) hw13_3 (by decide)
        refine lv_iconst (v := 1) hx hb dX4_readSum_86 (by decide) ?_
        exact ziretQ hQ hx hb hr rfl hlocks ((1 : Int32), rw13, qw13) rfl ⟨((zI.lit (a := 1) (b := 1) (c := 1) (by decide)).w (c := 0) (d := 1) (by decide)), jw13, fw13, (hE.symm.trans hX), trivial⟩ hw hS dX4_readSum_87
      · have hE := zifF c16 hE
        have k18 : zI 0 999 (w13_3) := zI.ltU (zI.nle c16) hw13_3 (zI.lit (a := 1000) (b := 1000) (c := 1000) (by decide)) (by decide)
        refine lv_aload_n hx hb dX4_readSum_20 rfl (lv_at hl 1 rfl) ?_
        refine va_get (D := D) (ci := 8) (v := .ref (E (zn (rw13 196 4)))) hx hb hts hiX9 hown hK hw.1 196 kg196 rfl 4 (by decide) lf36 (fun _ h9 => h9) rfl dX4_readSum_21 (cgenSE (show zI 0 32 (rw13 196 4) from jw13.i 196 4) (fun v19 ev19 hv19 => ?_))
        have hE := zletE ev19 hE
        refine cgets 25 (by decide) hx hb hZ hS hown lf65 dX4_readSum_24 (ztop (.ref (E (zn 25))) rfl ?_)
        refine cxacmp_eq (a := v19) (b := (25 : Int32)) (tgt := 40) hEi hv19 ((zI.lit (a := 25) (b := 25) (c := 25) (by decide)).w (c := 0) (d := 32) (by decide)) hx hb dX4_readSum_27 (by decide) (fun c20 => ?_) (fun c20 => ?_)
        · have hE := zifT c20 hE
          exact cut40 k18 hE H locs ls hw hS (lv_sub hl [0, 1, 2, 3] rfl)
        · have hE := zifF c20 hE
          refine lv_aload_n hx hb dX4_readSum_30 rfl (lv_at hl 1 rfl) ?_
          refine va_get (D := D) (ci := 8) (v := .ref (E (zn (rw13 196 4)))) hx hb hts hiX9 hown hK hw.1 196 kg196 rfl 4 (by decide) lf36 (fun _ h9 => h9) rfl dX4_readSum_31 (cgenSE (show zI 0 32 (rw13 196 4) from jw13.i 196 4) (fun v21 ev21 hv21 => ?_))
          have hE := zletE ev21 hE
          refine cgets 26 (by decide) hx hb hZ hS hown lf68 dX4_readSum_34 (ztop (.ref (E (zn 26))) rfl ?_)
          refine cxacmp_ne (a := v21) (b := (26 : Int32)) (tgt := 86) hEi hv21 ((zI.lit (a := 26) (b := 26) (c := 26) (by decide)).w (c := 0) (d := 32) (by decide)) hx hb dX4_readSum_37 (by decide) (fun c22 => ?_) (fun c22 => ?_)
          · have hE := zifnT c22 hE
            refine lv_iconst (v := 1) hx hb dX4_readSum_86 (by decide) ?_
            exact ziretQ hQ hx hb hr rfl hlocks ((1 : Int32), rw13, qw13) rfl ⟨((zI.lit (a := 1) (b := 1) (c := 1) (by decide)).w (c := 0) (d := 1) (by decide)), jw13, fw13, (hE.symm.trans hX), trivial⟩ hw hS dX4_readSum_87
          · have hE := zifnF c22 hE
            exact cut40 k18 hE H locs ls hw hS (lv_sub hl [0, 1, 2, 3] rfl)
  intro H locs hw hS ls hl
  have hl : lv_has ls 5 [(0, .ref (y 192)), (1, .ref (y 196)), (2, .int 3)] := hl
  have hE := hX
  unfold Gk_readSum3 at hE
  refine lv_aload_n hx hb dX4_readSum_0 rfl (lv_at hl 0 rfl) ?_
  refine lv_aload_n hx hb dX4_readSum_1 rfl (lv_at hl 1 rfl) ?_
  refine lv_iload_n hx hb dX4_readSum_2 rfl (lv_at hl 2 rfl) ?_
  refine kcallV (As := [.ref (y 196), .int 3]) (rest := []) ⟨hx, hb, hml, hown, hts⟩ (kc_readProduct3 l D ct E y r q hJ0 hEi) (wqX4_62_kc_readProduct3 hts ⟨Nat.le_of_ble_eq_true rfl, Nat.le_of_ble_eq_true rfl⟩) hw hS hA hK hZ hN 4 192 rfl kg192 rfl hl.1 rfl (Nat.le_of_ble_eq_true rfl) dX4_readSum_3 6 rfl (fun u23 H locs pu23 hw hS => ?_)
  obtain ⟨v24, r25, q26⟩ := u23
  have hv24 : zI 0 1 v24 := pu23.1
  have ju23 : kJ r25 := pu23.2.1
  have fu23 : zFr [196, 192, 193] r r25 := pu23.2.2.1
  have xu23 : (v24, r25, q26) = (Gk_readProduct3 r q) := pu23.2.2.2.1
  have hE := zc_vrqE xu23 hE
  have hw : zPD D A (kW ct E y r25 q26) H := hw
  refine zfr 6 [.int v24] rfl rfl ?_
  refine lv_if_ne (tgt := 11) hx hb dX4_readSum_6 (by decide) (fun c27 => ?_) (fun c27 => ?_)
  · have hE := zifnT c27 hE
    have k28 : zI 1 1 (v24) := zI.neD c27 hv24 (zI.lit (a := 0) (b := 0) (c := 0) (by decide)) (by decide)
    refine lv_iconst (v := 0) hx hb dX4_readSum_11 (by decide) ?_
    refine lv_istore_n (lv' := [(3, .int 0), (0, .ref (y 192)), (1, .ref (y 196)), (2, .int 3)]) hx hb dX4_readSum_12 rfl hl (by decide) rfl (fun ls hl => ?_)
    exact cut13 1001 0 r25 q26 ((zI.lit (a := 0) (b := 0) (c := 0) (by decide)).w (c := 0) (d := 1000) (by decide)) ju23 ((zFr.refl).tr fu23 rfl) hE (zI.m0 (zI.lit (a := 0) (b := 0) (c := 0) (by decide)) (by decide)) H locs ls hw hS (lv_sub hl [1, 2, 3, 0] rfl)
  · have hE := zifnF c27 hE
    have k29 : zI 0 0 (v24) := zI.eqq c27 (zI.lit (a := 0) (b := 0) (c := 0) (by decide))
    refine lv_iconst (v := 0) hx hb dX4_readSum_9 (by decide) ?_
    exact ziretQ hQ hx hb hr rfl hlocks ((0 : Int32), r25, q26) rfl ⟨((zI.lit (a := 0) (b := 0) (c := 0) (by decide)).w (c := 0) (d := 1) (by decide)), ju23, ((zFr.refl).tr fu23 rfl), (hE.symm.trans hX), trivial⟩ hw hS dX4_readSum_10

set_option maxHeartbeats 4000000 in
set_option maxRecDepth 100000 in
theorem kc_readTest3 (l : Launch) (D : va_G) (ct : Nat → ClassId) (E : Nat → Nat) (y : Nat → Nat) (r : zRr) (q : zRq) (hJ0 : kJ r) (hEi : kEi E) : cC l yX4_readTest (.code yX4_readTest cX4_readTest 4 (some .boolean) :: wsL_law0) ({ frames := 20, cells := 0, slots := 0, locals := 840 }) D ct E [.ref (y 192), .ref (y 196), .int 3] (kW ct E y r q) (S := Int32 × zRr × zRq) (fun u => some (.int u.1)) (fun u => zI 0 1 u.1 ∧ kJ u.2.1 ∧ zFr [196, 192, 193] r u.2.1 ∧ u = (Gk_readTest3 r q) ∧ True) (fun u => kW ct E y u.2.1 u.2.2) := by
  refine cofQ cX4_readTest 4 (some .boolean) (by decide) rfl (Nat.le_of_ble_eq_true rfl) ?_
  intro p e s m below meth c A a9 Q ha9 hx hb hr hml hts hown hlocks hname hK hA hZ hN hQ
  have hown : s.vm.findClass RX4 = some m.cls := hown
  have hiX9 : ∀ w ∈ wsX90, w ∈ .code yX4_readTest cX4_readTest 4 (some .boolean) :: wsL_law0 := fun _ h => ki (zs_wsX90 _ h)
  have lf36 := hts (.fieldLink RX4 36 "BeardPass$Tape" "sort" "LBeardPass$Sort;") (ki (zr18 17 rfl))
  have lf56 := hts (.fieldLink RX4 56 "BeardPass$Sort" "LESS" "LBeardPass$Sort;") (ki (zr20 2 rfl))
  have lf59 := hts (.fieldLink RX4 59 "BeardPass$Sort" "SAME" "LBeardPass$Sort;") (ki (zr20 3 rfl))
  obtain ⟨X, hX⟩ : ∃ X, X = (Gk_readTest3 r q) := ⟨_, rfl⟩
  have cut50 : ∀ (w50_s0 : Int32) (rw50 : zRr) (qw50 : zRq) (hw50_s0 : zI (-9) (-2) w50_s0) (jw50 : kJ rw50) (fw50 : zFr [196, 192, 193] r rw50) (hE : X = Gk_readTest3_50 w50_s0 rw50 qw50), zKf p l e ({ frames := 20, cells := 0, slots := 0, locals := 840 }) s m a9 below meth c Q D A 50 4 [.int w50_s0] (kW ct E y rw50 qw50) [(0, .ref (y 192)), (1, .ref (y 196)), (2, .int 3)] := by
    intro w50_s0 rw50 qw50 hw50_s0 jw50 fw50 hE H locs ls hw hS hl
    unfold Gk_readTest3_50 at hE
    refine lv_istore_n (lv' := [(3, .int w50_s0), (0, .ref (y 192)), (1, .ref (y 196)), (2, .int 3)]) hx hb dX4_readTest_50 rfl hl (by decide) rfl (fun ls hl => ?_)
    refine lv_aload_n hx hb dX4_readTest_51 rfl (lv_at hl 2 rfl) ?_
    refine kcallV (As := []) (rest := []) ⟨hx, hb, hml, hown, hts⟩ (kc_step l D ct E y rw50 qw50 jw50 hEi) (wqX4_50_kc_step hts ⟨Nat.le_of_ble_eq_true rfl, Nat.le_of_ble_eq_true rfl⟩) hw hS hA hK hZ hN 8 196 rfl kg196 rfl hl.1 rfl (Nat.le_of_ble_eq_true rfl) dX4_readTest_52 55 rfl (fun u1 H locs pu1 hw hS => ?_)
    obtain ⟨r2, q3⟩ := u1
    have ju1 : kJ r2 := pu1.1
    have fu1 : zFr [196] rw50 r2 := pu1.2.1
    have xu1 : (r2, q3) = (Gk_step rw50 qw50) := pu1.2.2.1
    have hE := zc_rqE xu1 hE
    have hw : zPD D A (kW ct E y r2 q3) H := hw
    refine zfr 55 [] rfl rfl ?_
    refine lv_aload_n hx hb dX4_readTest_55 rfl (lv_at hl 1 rfl) ?_
    refine lv_aload_n hx hb dX4_readTest_56 rfl (lv_at hl 2 rfl) ?_
    refine lv_iload_n hx hb dX4_readTest_57 rfl (lv_at hl 3 rfl) ?_
    refine kcallV (As := [.ref (y 196), .int 3]) (rest := []) ⟨hx, hb, hml, hown, hts⟩ (kc_readSum3 l D ct E y r2 q3 ju1 hEi) (wqX4_53_kc_readSum3 hts ⟨Nat.le_of_ble_eq_true rfl, Nat.le_of_ble_eq_true rfl⟩) hw hS hA hK hZ hN 4 192 rfl kg192 rfl hl.1 rfl (Nat.le_of_ble_eq_true rfl) dX4_readTest_58 61 rfl (fun u4 H locs pu4 hw hS => ?_)
    obtain ⟨v5, r6, q7⟩ := u4
    have hv5 : zI 0 1 v5 := pu4.1
    have ju4 : kJ r6 := pu4.2.1
    have fu4 : zFr [196, 192, 193] r2 r6 := pu4.2.2.1
    have xu4 : (v5, r6, q7) = (Gk_readSum3 r2 q3) := pu4.2.2.2.1
    have hE := zc_vrqE xu4 hE
    have hw : zPD D A (kW ct E y r6 q7) H := hw
    refine zfr 61 [.int v5] rfl rfl ?_
    refine lv_if_ne (tgt := 66) hx hb dX4_readTest_61 (by decide) (fun c8 => ?_) (fun c8 => ?_)
    · have hE := zifnT c8 hE
      have k9 : zI 1 1 (v5) := zI.neD c8 hv5 (zI.lit (a := 0) (b := 0) (c := 0) (by decide)) (by decide)
      refine lv_aload_n hx hb dX4_readTest_66 rfl (lv_at hl 1 rfl) ?_
      refine lv_iload_n hx hb dX4_readTest_67 rfl (lv_at hl 0 rfl) ?_
      refine kcallV (As := [.int w50_s0]) (rest := []) ⟨hx, hb, hml, hown, hts⟩ (kc_add l D ct E y w50_s0 r6 q7 ju4 hEi) (wqX4_22_kc_add hts ⟨Nat.le_of_ble_eq_true rfl, Nat.le_of_ble_eq_true rfl⟩) hw hS hA hK hZ hN 4 192 rfl kg192 rfl hl.1 rfl (Nat.le_of_ble_eq_true rfl) dX4_readTest_68 71 rfl (fun u10 H locs pu10 hw hS => ?_)
      have ju10 : kJ u10 := pu10.1
      have fu10 : zFr [192, 193] r6 u10 := pu10.2.1
      have xu10 : u10 = (Gk_add w50_s0 r6 q7) := pu10.2.2.1
      have hE := zletE xu10 hE
      have hw : zPD D A (kW ct E y u10 q7) H := hw
      refine zfr 71 [] rfl rfl ?_
      refine lv_iconst (v := 1) hx hb dX4_readTest_71 (by decide) ?_
      exact ziretQ hQ hx hb hr rfl hlocks ((1 : Int32), u10, q7) rfl ⟨((zI.lit (a := 1) (b := 1) (c := 1) (by decide)).w (c := 0) (d := 1) (by decide)), ju10, (((fw50.tr fu1 rfl).tr fu4 rfl).tr fu10 rfl), (hE.symm.trans hX), trivial⟩ hw hS dX4_readTest_72
    · have hE := zifnF c8 hE
      have k12 : zI 0 0 (v5) := zI.eqq c8 (zI.lit (a := 0) (b := 0) (c := 0) (by decide))
      refine lv_iconst (v := 0) hx hb dX4_readTest_64 (by decide) ?_
      exact ziretQ hQ hx hb hr rfl hlocks ((0 : Int32), r6, q7) rfl ⟨((zI.lit (a := 0) (b := 0) (c := 0) (by decide)).w (c := 0) (d := 1) (by decide)), ju4, ((fw50.tr fu1 rfl).tr fu4 rfl), (hE.symm.trans hX), trivial⟩ hw hS dX4_readTest_65
  have cut33 : ∀ (rw33 : zRr) (qw33 : zRq) (jw33 : kJ rw33) (fw33 : zFr [196, 192, 193] r rw33) (hE : X = Gk_readTest3_33 rw33 qw33), zKf p l e ({ frames := 20, cells := 0, slots := 0, locals := 840 }) s m a9 below meth c Q D A 33 4 [] (kW ct E y rw33 qw33) [(0, .ref (y 192)), (1, .ref (y 196)), (2, .int 3)] := by
    intro rw33 qw33 jw33 fw33 hE H locs ls hw hS hl
    unfold Gk_readTest3_33 at hE
    refine lv_aload_n hx hb dX4_readTest_33 rfl (lv_at hl 1 rfl) ?_
    refine va_get (D := D) (ci := 8) (v := .ref (E (zn (rw33 196 4)))) hx hb hts hiX9 hown hK hw.1 196 kg196 rfl 4 (by decide) lf36 (fun _ h9 => h9) rfl dX4_readTest_34 (cgenSE (show zI 0 32 (rw33 196 4) from jw33.i 196 4) (fun v13 ev13 hv13 => ?_))
    have hE := zletE ev13 hE
    refine cgets 23 (by decide) hx hb hZ hS hown lf56 dX4_readTest_37 (ztop (.ref (E (zn 23))) rfl ?_)
    refine cxacmp_ne (a := v13) (b := (23 : Int32)) (tgt := 48) hEi hv13 ((zI.lit (a := 23) (b := 23) (c := 23) (by decide)).w (c := 0) (d := 32) (by decide)) hx hb dX4_readTest_40 (by decide) (fun c14 => ?_) (fun c14 => ?_)
    · have hE := zifnT c14 hE
      refine lv_bipush (v := (-9)) hx hb dX4_readTest_48 (by decide) ?_
      exact cut50 (-9) rw33 qw33 ((zI.lit (a := (-9)) (b := (-9)) (c := (-9)) (by decide)).w (c := (-9)) (d := (-2)) (by decide)) jw33 fw33 hE H locs ls hw hS (lv_sub hl [0, 1, 2] rfl)
    · have hE := zifnF c14 hE
      refine lv_bipush (v := (-8)) hx hb dX4_readTest_43 (by decide) ?_
      refine lv_goto (tgt := 50) hx hb dX4_readTest_45 (by decide) ?_
      exact cut50 (-8) rw33 qw33 ((zI.lit (a := (-8)) (b := (-8)) (c := (-8)) (by decide)).w (c := (-9)) (d := (-2)) (by decide)) jw33 fw33 hE H locs ls hw hS (lv_sub hl [0, 1, 2] rfl)
  intro H locs hw hS ls hl
  have hl : lv_has ls 4 [(0, .ref (y 192)), (1, .ref (y 196)), (2, .int 3)] := hl
  have hE := hX
  unfold Gk_readTest3 at hE
  refine lv_aload_n hx hb dX4_readTest_0 rfl (lv_at hl 0 rfl) ?_
  refine lv_aload_n hx hb dX4_readTest_1 rfl (lv_at hl 1 rfl) ?_
  refine lv_iload_n hx hb dX4_readTest_2 rfl (lv_at hl 2 rfl) ?_
  refine kcallV (As := [.ref (y 196), .int 3]) (rest := []) ⟨hx, hb, hml, hown, hts⟩ (kc_readSum3 l D ct E y r q hJ0 hEi) (wqX4_53_kc_readSum3 hts ⟨Nat.le_of_ble_eq_true rfl, Nat.le_of_ble_eq_true rfl⟩) hw hS hA hK hZ hN 4 192 rfl kg192 rfl hl.1 rfl (Nat.le_of_ble_eq_true rfl) dX4_readTest_3 6 rfl (fun u15 H locs pu15 hw hS => ?_)
  obtain ⟨v16, r17, q18⟩ := u15
  have hv16 : zI 0 1 v16 := pu15.1
  have ju15 : kJ r17 := pu15.2.1
  have fu15 : zFr [196, 192, 193] r r17 := pu15.2.2.1
  have xu15 : (v16, r17, q18) = (Gk_readSum3 r q) := pu15.2.2.2.1
  have hE := zc_vrqE xu15 hE
  have hw : zPD D A (kW ct E y r17 q18) H := hw
  refine zfr 6 [.int v16] rfl rfl ?_
  refine lv_if_ne (tgt := 11) hx hb dX4_readTest_6 (by decide) (fun c19 => ?_) (fun c19 => ?_)
  · have hE := zifnT c19 hE
    have k20 : zI 1 1 (v16) := zI.neD c19 hv16 (zI.lit (a := 0) (b := 0) (c := 0) (by decide)) (by decide)
    refine lv_aload_n hx hb dX4_readTest_11 rfl (lv_at hl 1 rfl) ?_
    refine va_get (D := D) (ci := 8) (v := .ref (E (zn (r17 196 4)))) hx hb hts hiX9 hown hK hw.1 196 kg196 rfl 4 (by decide) lf36 (fun _ h9 => h9) rfl dX4_readTest_12 (cgenSE (show zI 0 32 (r17 196 4) from ju15.i 196 4) (fun v21 ev21 hv21 => ?_))
    have hE := zletE ev21 hE
    refine cgets 23 (by decide) hx hb hZ hS hown lf56 dX4_readTest_15 (ztop (.ref (E (zn 23))) rfl ?_)
    refine cxacmp_eq (a := v21) (b := (23 : Int32)) (tgt := 33) hEi hv21 ((zI.lit (a := 23) (b := 23) (c := 23) (by decide)).w (c := 0) (d := 32) (by decide)) hx hb dX4_readTest_18 (by decide) (fun c22 => ?_) (fun c22 => ?_)
    · have hE := zifT c22 hE
      exact cut33 r17 q18 ju15 ((zFr.refl).tr fu15 rfl) hE H locs ls hw hS (lv_sub hl [0, 1, 2] rfl)
    · have hE := zifF c22 hE
      refine lv_aload_n hx hb dX4_readTest_21 rfl (lv_at hl 1 rfl) ?_
      refine va_get (D := D) (ci := 8) (v := .ref (E (zn (r17 196 4)))) hx hb hts hiX9 hown hK hw.1 196 kg196 rfl 4 (by decide) lf36 (fun _ h9 => h9) rfl dX4_readTest_22 (cgenSE (show zI 0 32 (r17 196 4) from ju15.i 196 4) (fun v23 ev23 hv23 => ?_))
      have hE := zletE ev23 hE
      refine cgets 24 (by decide) hx hb hZ hS hown lf59 dX4_readTest_25 (ztop (.ref (E (zn 24))) rfl ?_)
      refine cxacmp_eq (a := v23) (b := (24 : Int32)) (tgt := 33) hEi hv23 ((zI.lit (a := 24) (b := 24) (c := 24) (by decide)).w (c := 0) (d := 32) (by decide)) hx hb dX4_readTest_28 (by decide) (fun c24 => ?_) (fun c24 => ?_)
      · have hE := zifT c24 hE
        exact cut33 r17 q18 ju15 ((zFr.refl).tr fu15 rfl) hE H locs ls hw hS (lv_sub hl [0, 1, 2] rfl)
      · have hE := zifF c24 hE
        refine lv_iconst (v := 1) hx hb dX4_readTest_31 (by decide) ?_
        exact ziretQ hQ hx hb hr rfl hlocks ((1 : Int32), r17, q18) rfl ⟨((zI.lit (a := 1) (b := 1) (c := 1) (by decide)).w (c := 0) (d := 1) (by decide)), ju15, ((zFr.refl).tr fu15 rfl), (hE.symm.trans hX), trivial⟩ hw hS dX4_readTest_32
  · have hE := zifnF c19 hE
    have k25 : zI 0 0 (v16) := zI.eqq c19 (zI.lit (a := 0) (b := 0) (c := 0) (by decide))
    refine lv_iconst (v := 0) hx hb dX4_readTest_9 (by decide) ?_
    exact ziretQ hQ hx hb hr rfl hlocks ((0 : Int32), r17, q18) rfl ⟨((zI.lit (a := 0) (b := 0) (c := 0) (by decide)).w (c := 0) (d := 1) (by decide)), ju15, ((zFr.refl).tr fu15 rfl), (hE.symm.trans hX), trivial⟩ hw hS dX4_readTest_10

set_option maxHeartbeats 4000000 in
set_option maxRecDepth 100000 in
theorem kc_readWhole3 (l : Launch) (D : va_G) (ct : Nat → ClassId) (E : Nat → Nat) (y : Nat → Nat) (r : zRr) (q : zRq) (hJ0 : kJ r) (hEi : kEi E) : cC l yX4_readWhole (.code yX4_readWhole cX4_readWhole 5 (some .boolean) :: wsL_law0) ({ frames := 21, cells := 0, slots := 0, locals := 880 }) D ct E [.ref (y 192), .ref (y 196), .int 3] (kW ct E y r q) (S := Int32 × zRr × zRq) (fun u => some (.int u.1)) (fun u => zI 0 1 u.1 ∧ kJ u.2.1 ∧ zFr [196, 192, 193] r u.2.1 ∧ u = (Gk_readWhole3 r q) ∧ True) (fun u => kW ct E y u.2.1 u.2.2) := by
  refine cofQ cX4_readWhole 5 (some .boolean) (by decide) rfl (Nat.le_of_ble_eq_true rfl) ?_
  intro p e s m below meth c A a9 Q ha9 hx hb hr hml hts hown hlocks hname hK hA hZ hN hQ
  have hown : s.vm.findClass RX4 = some m.cls := hown
  have hiX9 : ∀ w ∈ wsX90, w ∈ .code yX4_readWhole cX4_readWhole 5 (some .boolean) :: wsL_law0 := fun _ h => ki (zs_wsX90 _ h)
  have lf36 := hts (.fieldLink RX4 36 "BeardPass$Tape" "sort" "LBeardPass$Sort;") (ki (zr18 17 rfl))
  have lf42 := hts (.fieldLink RX4 42 "BeardPass$Sort" "AND" "LBeardPass$Sort;") (ki (zr18 18 rfl))
  have lf47 := hts (.fieldLink RX4 47 "BeardPass$Sort" "OR" "LBeardPass$Sort;") (ki (zr18 19 rfl))
  obtain ⟨X, hX⟩ : ∃ X, X = (Gk_readWhole3 r q) := ⟨_, rfl⟩
  have cut13 : ∀ (n13 : Nat) (w13_3 : Int32) (rw13 : zRr) (qw13 : zRq) (hw13_3 : zI 0 1000 w13_3) (jw13 : kJ rw13) (fw13 : zFr [196, 192, 193] r rw13) (hE : X = Gk_readWhole3_13 n13 w13_3 rw13 qw13), 1000 - w13_3.toInt < (n13 : Int) → zKf p l e ({ frames := 21, cells := 0, slots := 0, locals := 880 }) s m a9 below meth c Q D A 13 5 [] (kW ct E y rw13 qw13) [(0, .ref (y 192)), (1, .ref (y 196)), (2, .int 3), (3, .int w13_3)] := by
    intro n13
    induction n13 with
    | zero => intro w13_3 rw13 qw13 hw13_3 jw13 fw13 hE hm13; exact zI.no hw13_3 (by decide) hm13
    | succ n13 ih13 =>
      intro w13_3 rw13 qw13 hw13_3 jw13 fw13 hE hm13
      have hE : X = Bk_readWhole3_13 (Gk_readWhole3_13 n13) w13_3 rw13 qw13 := hE
      unfold Bk_readWhole3_13 at hE
      have cut57 : ∀ (w57_s0 : Int32) (hw57_3 : zI 0 999 w13_3) (hw57_s0 : zI (-7) (-2) w57_s0) (hE : X = Gk_readWhole3_57 w13_3 rw13 qw13 (Gk_readWhole3_13 n13) w57_s0), zKf p l e ({ frames := 21, cells := 0, slots := 0, locals := 880 }) s m a9 below meth c Q D A 57 5 [.int w57_s0] (kW ct E y rw13 qw13) [(0, .ref (y 192)), (1, .ref (y 196)), (2, .int 3), (3, .int w13_3)] := by
        intro w57_s0 hw57_3 hw57_s0 hE H locs ls hw hS hl
        unfold Gk_readWhole3_57 at hE
        refine lv_istore (lv' := [(4, .int w57_s0), (0, .ref (y 192)), (1, .ref (y 196)), (2, .int 3), (3, .int w13_3)]) hx hb dX4_readWhole_57 hl (by decide) rfl (fun ls hl => ?_)
        refine lv_aload_n hx hb dX4_readWhole_59 rfl (lv_at hl 2 rfl) ?_
        refine kcallV (As := []) (rest := []) ⟨hx, hb, hml, hown, hts⟩ (kc_step l D ct E y rw13 qw13 jw13 hEi) (wqX4_50_kc_step hts ⟨Nat.le_of_ble_eq_true rfl, Nat.le_of_ble_eq_true rfl⟩) hw hS hA hK hZ hN 8 196 rfl kg196 rfl hl.1 rfl (Nat.le_of_ble_eq_true rfl) dX4_readWhole_60 63 rfl (fun u1 H locs pu1 hw hS => ?_)
        obtain ⟨r2, q3⟩ := u1
        have ju1 : kJ r2 := pu1.1
        have fu1 : zFr [196] rw13 r2 := pu1.2.1
        have xu1 : (r2, q3) = (Gk_step rw13 qw13) := pu1.2.2.1
        have hE := zc_rqE xu1 hE
        have hw : zPD D A (kW ct E y r2 q3) H := hw
        refine zfr 63 [] rfl rfl ?_
        refine lv_aload_n hx hb dX4_readWhole_63 rfl (lv_at hl 1 rfl) ?_
        refine lv_aload_n hx hb dX4_readWhole_64 rfl (lv_at hl 2 rfl) ?_
        refine lv_iload_n hx hb dX4_readWhole_65 rfl (lv_at hl 3 rfl) ?_
        refine kcallV (As := [.ref (y 196), .int 3]) (rest := []) ⟨hx, hb, hml, hown, hts⟩ (kc_readTest3 l D ct E y r2 q3 ju1 hEi) (wqX4_32_kc_readTest3 hts ⟨Nat.le_of_ble_eq_true rfl, Nat.le_of_ble_eq_true rfl⟩) hw hS hA hK hZ hN 4 192 rfl kg192 rfl hl.1 rfl (Nat.le_of_ble_eq_true rfl) dX4_readWhole_66 69 rfl (fun u4 H locs pu4 hw hS => ?_)
        obtain ⟨v5, r6, q7⟩ := u4
        have hv5 : zI 0 1 v5 := pu4.1
        have ju4 : kJ r6 := pu4.2.1
        have fu4 : zFr [196, 192, 193] r2 r6 := pu4.2.2.1
        have xu4 : (v5, r6, q7) = (Gk_readTest3 r2 q3) := pu4.2.2.2.1
        have hE := zc_vrqE xu4 hE
        have hw : zPD D A (kW ct E y r6 q7) H := hw
        refine zfr 69 [.int v5] rfl rfl ?_
        refine lv_if_ne (tgt := 74) hx hb dX4_readWhole_69 (by decide) (fun c8 => ?_) (fun c8 => ?_)
        · have hE := zifnT c8 hE
          have k9 : zI 1 1 (v5) := zI.neD c8 hv5 (zI.lit (a := 0) (b := 0) (c := 0) (by decide)) (by decide)
          refine lv_aload_n hx hb dX4_readWhole_74 rfl (lv_at hl 1 rfl) ?_
          refine lv_iload hx hb dX4_readWhole_75 (lv_at hl 0 rfl) ?_
          refine kcallV (As := [.int w57_s0]) (rest := []) ⟨hx, hb, hml, hown, hts⟩ (kc_add l D ct E y w57_s0 r6 q7 ju4 hEi) (wqX4_22_kc_add hts ⟨Nat.le_of_ble_eq_true rfl, Nat.le_of_ble_eq_true rfl⟩) hw hS hA hK hZ hN 4 192 rfl kg192 rfl hl.1 rfl (Nat.le_of_ble_eq_true rfl) dX4_readWhole_77 80 rfl (fun u10 H locs pu10 hw hS => ?_)
          have ju10 : kJ u10 := pu10.1
          have fu10 : zFr [192, 193] r6 u10 := pu10.2.1
          have xu10 : u10 = (Gk_add w57_s0 r6 q7) := pu10.2.2.1
          have hE := zletE xu10 hE
          have hw : zPD D A (kW ct E y u10 q7) H := hw
          refine zfr 80 [] rfl rfl ?_
          refine lv_iinc (v := w13_3 + 1) (lv' := [(3, .int (w13_3 + 1)), (4, .int w57_s0), (0, .ref (y 192)), (1, .ref (y 196)), (2, .int 3)]) hx hb dX4_readWhole_80 hl (k := 4) rfl (rfl) (by decide) rfl (fun ls hl => ?_)
          have k12 : zI 1 1000 (w13_3 + 1) := zI.add hw57_3 (zI.lit (a := 1) (b := 1) (by decide)) (by decide)
          refine lv_goto (tgt := 13) hx hb dX4_readWhole_83 (by decide) ?_
          exact ih13 (w13_3 + 1) u10 q7 (k12.w (c := 0) (d := 1000) (by decide)) ju10 (((fw13.tr fu1 rfl).tr fu4 rfl).tr fu10 rfl) hE (zI.up hw57_3 (by decide) hm13) H locs ls hw hS (lv_sub hl [2, 3, 4, 0] rfl)
        · have hE := zifnF c8 hE
          have k13 : zI 0 0 (v5) := zI.eqq c8 (zI.lit (a := 0) (b := 0) (c := 0) (by decide))
          refine lv_iconst (v := 0) hx hb dX4_readWhole_72 (by decide) ?_
          exact ziretQ hQ hx hb hr rfl hlocks ((0 : Int32), r6, q7) rfl ⟨((zI.lit (a := 0) (b := 0) (c := 0) (by decide)).w (c := 0) (d := 1) (by decide)), ju4, ((fw13.tr fu1 rfl).tr fu4 rfl), (hE.symm.trans hX), trivial⟩ hw hS dX4_readWhole_73
      have cut40 : ∀ (hw40_3 : zI 0 999 w13_3) (hE : X = Gk_readWhole3_40 w13_3 rw13 qw13 (Gk_readWhole3_13 n13) ), zKf p l e ({ frames := 21, cells := 0, slots := 0, locals := 880 }) s m a9 below meth c Q D A 40 5 [] (kW ct E y rw13 qw13) [(0, .ref (y 192)), (1, .ref (y 196)), (2, .int 3), (3, .int w13_3)] := by
        intro hw40_3 hE H locs ls hw hS hl
        unfold Gk_readWhole3_40 at hE
        refine lv_aload_n hx hb dX4_readWhole_40 rfl (lv_at hl 1 rfl) ?_
        refine va_get (D := D) (ci := 8) (v := .ref (E (zn (rw13 196 4)))) hx hb hts hiX9 hown hK hw.1 196 kg196 rfl 4 (by decide) lf36 (fun _ h9 => h9) rfl dX4_readWhole_41 (cgenSE (show zI 0 32 (rw13 196 4) from jw13.i 196 4) (fun v14 ev14 hv14 => ?_))
        have hE := zletE ev14 hE
        refine cgets 19 (by decide) hx hb hZ hS hown lf42 dX4_readWhole_44 (ztop (.ref (E (zn 19))) rfl ?_)
        refine cxacmp_ne (a := v14) (b := (19 : Int32)) (tgt := 55) hEi hv14 ((zI.lit (a := 19) (b := 19) (c := 19) (by decide)).w (c := 0) (d := 32) (by decide)) hx hb dX4_readWhole_47 (by decide) (fun c15 => ?_) (fun c15 => ?_)
        · have hE := zifnT c15 hE
          refine lv_bipush (v := (-7)) hx hb dX4_readWhole_55 (by decide) ?_
          exact cut57 (-7) hw40_3 ((zI.lit (a := (-7)) (b := (-7)) (c := (-7)) (by decide)).w (c := (-7)) (d := (-2)) (by decide)) hE H locs ls hw hS (lv_sub hl [0, 1, 2, 3] rfl)
        · have hE := zifnF c15 hE
          refine lv_bipush (v := (-6)) hx hb dX4_readWhole_50 (by decide) ?_
          refine lv_goto (tgt := 57) hx hb dX4_readWhole_52 (by decide) ?_
          exact cut57 (-6) hw40_3 ((zI.lit (a := (-6)) (b := (-6)) (c := (-6)) (by decide)).w (c := (-7)) (d := (-2)) (by decide)) hE H locs ls hw hS (lv_sub hl [0, 1, 2, 3] rfl)
      intro H locs ls hw hS hl
      refine lv_iload_n hx hb dX4_readWhole_13 rfl (lv_at hl 3 rfl) ?_
      refine lv_sipush (v := 1000) hx hb dX4_readWhole_14 (by decide) ?_
      refine lv_icmp_ge (tgt := 86) hx hb dX4_readWhole_17 (by decide) (fun c16 => ?_) (fun c16 => ?_)
      · have hE := zifT c16 hE
        have k17 : zI 1000 1000 (w13_3) := zI.leD c16 (zI.lit (a := 1000) (b := 1000) (c := 1000) (by decide)) hw13_3 (by decide)
        refine lv_iconst (v := 1) hx hb dX4_readWhole_86 (by decide) ?_
        exact ziretQ hQ hx hb hr rfl hlocks ((1 : Int32), rw13, qw13) rfl ⟨((zI.lit (a := 1) (b := 1) (c := 1) (by decide)).w (c := 0) (d := 1) (by decide)), jw13, fw13, (hE.symm.trans hX), trivial⟩ hw hS dX4_readWhole_87
      · have hE := zifF c16 hE
        have k18 : zI 0 999 (w13_3) := zI.ltU (zI.nle c16) hw13_3 (zI.lit (a := 1000) (b := 1000) (c := 1000) (by decide)) (by decide)
        refine lv_aload_n hx hb dX4_readWhole_20 rfl (lv_at hl 1 rfl) ?_
        refine va_get (D := D) (ci := 8) (v := .ref (E (zn (rw13 196 4)))) hx hb hts hiX9 hown hK hw.1 196 kg196 rfl 4 (by decide) lf36 (fun _ h9 => h9) rfl dX4_readWhole_21 (cgenSE (show zI 0 32 (rw13 196 4) from jw13.i 196 4) (fun v19 ev19 hv19 => ?_))
        have hE := zletE ev19 hE
        refine cgets 19 (by decide) hx hb hZ hS hown lf42 dX4_readWhole_24 (ztop (.ref (E (zn 19))) rfl ?_)
        refine cxacmp_eq (a := v19) (b := (19 : Int32)) (tgt := 40) hEi hv19 ((zI.lit (a := 19) (b := 19) (c := 19) (by decide)).w (c := 0) (d := 32) (by decide)) hx hb dX4_readWhole_27 (by decide) (fun c20 => ?_) (fun c20 => ?_)
        · have hE := zifT c20 hE
          exact cut40 k18 hE H locs ls hw hS (lv_sub hl [0, 1, 2, 3] rfl)
        · have hE := zifF c20 hE
          refine lv_aload_n hx hb dX4_readWhole_30 rfl (lv_at hl 1 rfl) ?_
          refine va_get (D := D) (ci := 8) (v := .ref (E (zn (rw13 196 4)))) hx hb hts hiX9 hown hK hw.1 196 kg196 rfl 4 (by decide) lf36 (fun _ h9 => h9) rfl dX4_readWhole_31 (cgenSE (show zI 0 32 (rw13 196 4) from jw13.i 196 4) (fun v21 ev21 hv21 => ?_))
          have hE := zletE ev21 hE
          refine cgets 20 (by decide) hx hb hZ hS hown lf47 dX4_readWhole_34 (ztop (.ref (E (zn 20))) rfl ?_)
          refine cxacmp_ne (a := v21) (b := (20 : Int32)) (tgt := 86) hEi hv21 ((zI.lit (a := 20) (b := 20) (c := 20) (by decide)).w (c := 0) (d := 32) (by decide)) hx hb dX4_readWhole_37 (by decide) (fun c22 => ?_) (fun c22 => ?_)
          · have hE := zifnT c22 hE
            refine lv_iconst (v := 1) hx hb dX4_readWhole_86 (by decide) ?_
            exact ziretQ hQ hx hb hr rfl hlocks ((1 : Int32), rw13, qw13) rfl ⟨((zI.lit (a := 1) (b := 1) (c := 1) (by decide)).w (c := 0) (d := 1) (by decide)), jw13, fw13, (hE.symm.trans hX), trivial⟩ hw hS dX4_readWhole_87
          · have hE := zifnF c22 hE
            exact cut40 k18 hE H locs ls hw hS (lv_sub hl [0, 1, 2, 3] rfl)
  intro H locs hw hS ls hl
  have hl : lv_has ls 5 [(0, .ref (y 192)), (1, .ref (y 196)), (2, .int 3)] := hl
  have hE := hX
  unfold Gk_readWhole3 at hE
  refine lv_aload_n hx hb dX4_readWhole_0 rfl (lv_at hl 0 rfl) ?_
  refine lv_aload_n hx hb dX4_readWhole_1 rfl (lv_at hl 1 rfl) ?_
  refine lv_iload_n hx hb dX4_readWhole_2 rfl (lv_at hl 2 rfl) ?_
  refine kcallV (As := [.ref (y 196), .int 3]) (rest := []) ⟨hx, hb, hml, hown, hts⟩ (kc_readTest3 l D ct E y r q hJ0 hEi) (wqX4_32_kc_readTest3 hts ⟨Nat.le_of_ble_eq_true rfl, Nat.le_of_ble_eq_true rfl⟩) hw hS hA hK hZ hN 4 192 rfl kg192 rfl hl.1 rfl (Nat.le_of_ble_eq_true rfl) dX4_readWhole_3 6 rfl (fun u23 H locs pu23 hw hS => ?_)
  obtain ⟨v24, r25, q26⟩ := u23
  have hv24 : zI 0 1 v24 := pu23.1
  have ju23 : kJ r25 := pu23.2.1
  have fu23 : zFr [196, 192, 193] r r25 := pu23.2.2.1
  have xu23 : (v24, r25, q26) = (Gk_readTest3 r q) := pu23.2.2.2.1
  have hE := zc_vrqE xu23 hE
  have hw : zPD D A (kW ct E y r25 q26) H := hw
  refine zfr 6 [.int v24] rfl rfl ?_
  refine lv_if_ne (tgt := 11) hx hb dX4_readWhole_6 (by decide) (fun c27 => ?_) (fun c27 => ?_)
  · have hE := zifnT c27 hE
    have k28 : zI 1 1 (v24) := zI.neD c27 hv24 (zI.lit (a := 0) (b := 0) (c := 0) (by decide)) (by decide)
    refine lv_iconst (v := 0) hx hb dX4_readWhole_11 (by decide) ?_
    refine lv_istore_n (lv' := [(3, .int 0), (0, .ref (y 192)), (1, .ref (y 196)), (2, .int 3)]) hx hb dX4_readWhole_12 rfl hl (by decide) rfl (fun ls hl => ?_)
    exact cut13 1001 0 r25 q26 ((zI.lit (a := 0) (b := 0) (c := 0) (by decide)).w (c := 0) (d := 1000) (by decide)) ju23 ((zFr.refl).tr fu23 rfl) hE (zI.m0 (zI.lit (a := 0) (b := 0) (c := 0) (by decide)) (by decide)) H locs ls hw hS (lv_sub hl [1, 2, 3, 0] rfl)
  · have hE := zifnF c27 hE
    have k29 : zI 0 0 (v24) := zI.eqq c27 (zI.lit (a := 0) (b := 0) (c := 0) (by decide))
    refine lv_iconst (v := 0) hx hb dX4_readWhole_9 (by decide) ?_
    exact ziretQ hQ hx hb hr rfl hlocks ((0 : Int32), r25, q26) rfl ⟨((zI.lit (a := 0) (b := 0) (c := 0) (by decide)).w (c := 0) (d := 1) (by decide)), ju23, ((zFr.refl).tr fu23 rfl), (hE.symm.trans hX), trivial⟩ hw hS dX4_readWhole_10

set_option maxHeartbeats 4000000 in
set_option maxRecDepth 100000 in
theorem kc_readPart2 (l : Launch) (D : va_G) (ct : Nat → ClassId) (E : Nat → Nat) (y : Nat → Nat) (r : zRr) (q : zRq) (hJ0 : kJ r) (hEi : kEi E) : cC l yX4_readPart (.code yX4_readPart cX4_readPart 6 (some .boolean) :: wsL_law0) ({ frames := 22, cells := 0, slots := 0, locals := 920 }) D ct E [.ref (y 192), .ref (y 196), .int 2] (kW ct E y r q) (S := Int32 × zRr × zRq) (fun u => some (.int u.1)) (fun u => zI 0 1 u.1 ∧ kJ u.2.1 ∧ zFr [196, 192, 193] r u.2.1 ∧ u = (Gk_readPart2 r q) ∧ True) (fun u => kW ct E y u.2.1 u.2.2) := by
  refine cofQ cX4_readPart 6 (some .boolean) (by decide) rfl (Nat.le_of_ble_eq_true rfl) ?_
  intro p e s m below meth c A a9 Q ha9 hx hb hr hml hts hown hlocks hname hK hA hZ hN hQ
  have hown : s.vm.findClass RX4 = some m.cls := hown
  have hiX9 : ∀ w ∈ wsX90, w ∈ .code yX4_readPart cX4_readPart 6 (some .boolean) :: wsL_law0 := fun _ h => ki (zs_wsX90 _ h)
  have lf36 := hts (.fieldLink RX4 36 "BeardPass$Tape" "sort" "LBeardPass$Sort;") (ki (zr18 17 rfl))
  have lf77 := hts (.fieldLink RX4 77 "BeardPass$Sort" "OPEN" "LBeardPass$Sort;") (ki (zr19 1 rfl))
  have lf80 := hts (.fieldLink RX4 80 "BeardPass$Sort" "NOT" "LBeardPass$Sort;") (ki (zr19 2 rfl))
  have lf94 := hts (.fieldLink RX4 94 "BeardPass$Sort" "CLOSE" "LBeardPass$Sort;") (ki (zr19 3 rfl))
  obtain ⟨X, hX⟩ : ∃ X, X = (Gk_readPart2 r q) := ⟨_, rfl⟩
  have cut130 : ∀ (w130_5 : Int32) (rw130 : zRr) (qw130 : zRq) (jw130 : kJ rw130) (fw130 : zFr [196, 192, 193] r rw130) (hE : X = Gk_readPart2_130 w130_5 rw130 qw130), zKf p l e ({ frames := 22, cells := 0, slots := 0, locals := 920 }) s m a9 below meth c Q D A 130 6 [] (kW ct E y rw130 qw130) [(0, .ref (y 192)), (5, .int w130_5)] := by
    intro w130_5 rw130 qw130 jw130 fw130 hE H locs ls hw hS hl
    unfold Gk_readPart2_130 at hE
    refine lv_aload_n hx hb dX4_readPart_130 rfl (lv_at hl 0 rfl) ?_
    refine lv_iload hx hb dX4_readPart_131 (lv_at hl 1 rfl) ?_
    refine kcallV (As := [.int w130_5]) (rest := []) ⟨hx, hb, hml, hown, hts⟩ (kc_add l D ct E y w130_5 rw130 qw130 jw130 hEi) (wqX4_22_kc_add hts ⟨Nat.le_of_ble_eq_true rfl, Nat.le_of_ble_eq_true rfl⟩) hw hS hA hK hZ hN 4 192 rfl kg192 rfl hl.1 rfl (Nat.le_of_ble_eq_true rfl) dX4_readPart_133 136 rfl (fun u1 H locs pu1 hw hS => ?_)
    have ju1 : kJ u1 := pu1.1
    have fu1 : zFr [192, 193] rw130 u1 := pu1.2.1
    have xu1 : u1 = (Gk_add w130_5 rw130 qw130) := pu1.2.2.1
    have hE := zletE xu1 hE
    have hw : zPD D A (kW ct E y u1 qw130) H := hw
    refine zfr 136 [] rfl rfl ?_
    refine lv_iconst (v := 1) hx hb dX4_readPart_136 (by decide) ?_
    exact ziretQ hQ hx hb hr rfl hlocks ((1 : Int32), u1, qw130) rfl ⟨((zI.lit (a := 1) (b := 1) (c := 1) (by decide)).w (c := 0) (d := 1) (by decide)), ju1, (fw130.tr fu1 rfl), (hE.symm.trans hX), trivial⟩ hw hS dX4_readPart_137
  have cut66 : ∀ (w66_3 : Int32) (w66_4 : Int32) (w66_5 : Int32) (hw66_3 : zI 0 1 w66_3) (hw66_4 : zI 0 1 w66_4) (hE : X = Gk_readPart2_66 r q w66_3 w66_4 w66_5), zKf p l e ({ frames := 22, cells := 0, slots := 0, locals := 920 }) s m a9 below meth c Q D A 66 6 [] (kW ct E y r q) [(0, .ref (y 192)), (1, .ref (y 196)), (2, .int 2), (3, .int w66_3), (4, .int w66_4), (5, .int w66_5)] := by
    intro w66_3 w66_4 w66_5 hw66_3 hw66_4 hE H locs ls hw hS hl
    unfold Gk_readPart2_66 at hE
    refine lv_iload_n hx hb dX4_readPart_66 rfl (lv_at hl 2 rfl) ?_
    refine lv_iconst (v := 5) hx hb dX4_readPart_67 (by decide) ?_
    refine lv_icmp_lt (tgt := 77) hx hb dX4_readPart_68 (by decide) (fun _ => ?_) (fun h => absurd (by decide) h)
    refine lv_aload_n hx hb dX4_readPart_77 rfl (lv_at hl 1 rfl) ?_
    refine kcallV (As := []) (rest := []) ⟨hx, hb, hml, hown, hts⟩ (kc_step l D ct E y r q hJ0 hEi) (wqX4_50_kc_step hts ⟨Nat.le_of_ble_eq_true rfl, Nat.le_of_ble_eq_true rfl⟩) hw hS hA hK hZ hN 8 196 rfl kg196 rfl hl.1 rfl (Nat.le_of_ble_eq_true rfl) dX4_readPart_78 81 rfl (fun u4 H locs pu4 hw hS => ?_)
    obtain ⟨r5, q6⟩ := u4
    have ju4 : kJ r5 := pu4.1
    have fu4 : zFr [196] r r5 := pu4.2.1
    have xu4 : (r5, q6) = (Gk_step r q) := pu4.2.2.1
    have hE := zc_rqE xu4 hE
    have hw : zPD D A (kW ct E y r5 q6) H := hw
    refine zfr 81 [] rfl rfl ?_
    refine lv_iload_n hx hb dX4_readPart_81 rfl (lv_at hl 3 rfl) ?_
    refine lv_if_eq (tgt := 112) hx hb dX4_readPart_82 (by decide) (fun c7 => ?_) (fun c7 => ?_)
    · have hE := zifT c7 hE
      have k8 : zI 0 0 (w66_3) := zI.eqq c7 (zI.lit (a := 0) (b := 0) (c := 0) (by decide))
      refine lv_iload hx hb dX4_readPart_112 (lv_at hl 4 rfl) ?_
      refine lv_if_eq (tgt := 130) hx hb dX4_readPart_114 (by decide) (fun c9 => ?_) (fun c9 => ?_)
      · have hE := zifT c9 hE
        have k10 : zI 0 0 (w66_4) := zI.eqq c9 (zI.lit (a := 0) (b := 0) (c := 0) (by decide))
        exact cut130 w66_5 r5 q6 ju4 ((zFr.refl).tr fu4 rfl) hE H locs ls hw hS (lv_sub hl [0, 5] rfl)
      · have hE := zifF c9 hE
        have k11 : zI 1 1 (w66_4) := zI.neD c9 hw66_4 (zI.lit (a := 0) (b := 0) (c := 0) (by decide)) (by decide)
        refine lv_aload_n hx hb dX4_readPart_117 rfl (lv_at hl 0 rfl) ?_
        refine lv_aload_n hx hb dX4_readPart_118 rfl (lv_at hl 1 rfl) ?_
        refine lv_iload_n hx hb dX4_readPart_119 rfl (lv_at hl 2 rfl) ?_
        refine lv_iconst (v := 1) hx hb dX4_readPart_120 (by decide) ?_
        refine lv_iadd hx hb dX4_readPart_121 (ztop (.int 3) (congrArg Value.int (by decide)) ?_)
        refine kcallV (As := [.ref (y 196), .int 3]) (rest := []) ⟨hx, hb, hml, hown, hts⟩ (kc_readPart3 l D ct E y r5 q6 ju4 hEi) (wqX4_71_kc_readPart3 hts ⟨Nat.le_of_ble_eq_true rfl, Nat.le_of_ble_eq_true rfl⟩) hw hS hA hK hZ hN 4 192 rfl kg192 rfl hl.1 rfl (Nat.le_of_ble_eq_true rfl) dX4_readPart_122 125 rfl (fun u12 H locs pu12 hw hS => ?_)
        obtain ⟨v13, r14, q15⟩ := u12
        have hv13 : zI 0 1 v13 := pu12.1
        have ju12 : kJ r14 := pu12.2.1
        have fu12 : zFr [196, 192, 193] r5 r14 := pu12.2.2.1
        have xu12 : (v13, r14, q15) = (Gk_readPart3 r5 q6) := pu12.2.2.2.1
        have hE := zc_vrqE xu12 hE
        have hw : zPD D A (kW ct E y r14 q15) H := hw
        refine zfr 125 [.int v13] rfl rfl ?_
        refine lv_if_ne (tgt := 130) hx hb dX4_readPart_125 (by decide) (fun c16 => ?_) (fun c16 => ?_)
        · have hE := zifnT c16 hE
          have k17 : zI 1 1 (v13) := zI.neD c16 hv13 (zI.lit (a := 0) (b := 0) (c := 0) (by decide)) (by decide)
          exact cut130 w66_5 r14 q15 ju12 (((zFr.refl).tr fu4 rfl).tr fu12 rfl) hE H locs ls hw hS (lv_sub hl [0, 5] rfl)
        · have hE := zifnF c16 hE
          have k18 : zI 0 0 (v13) := zI.eqq c16 (zI.lit (a := 0) (b := 0) (c := 0) (by decide))
          refine lv_iconst (v := 0) hx hb dX4_readPart_128 (by decide) ?_
          exact ziretQ hQ hx hb hr rfl hlocks ((0 : Int32), r14, q15) rfl ⟨((zI.lit (a := 0) (b := 0) (c := 0) (by decide)).w (c := 0) (d := 1) (by decide)), ju12, (((zFr.refl).tr fu4 rfl).tr fu12 rfl), (hE.symm.trans hX), trivial⟩ hw hS dX4_readPart_129
    · have hE := zifF c7 hE
      have k19 : zI 1 1 (w66_3) := zI.neD c7 hw66_3 (zI.lit (a := 0) (b := 0) (c := 0) (by decide)) (by decide)
      refine lv_aload_n hx hb dX4_readPart_85 rfl (lv_at hl 0 rfl) ?_
      refine lv_aload_n hx hb dX4_readPart_86 rfl (lv_at hl 1 rfl) ?_
      refine lv_iload_n hx hb dX4_readPart_87 rfl (lv_at hl 2 rfl) ?_
      refine lv_iconst (v := 1) hx hb dX4_readPart_88 (by decide) ?_
      refine lv_iadd hx hb dX4_readPart_89 (ztop (.int 3) (congrArg Value.int (by decide)) ?_)
      refine kcallV (As := [.ref (y 196), .int 3]) (rest := []) ⟨hx, hb, hml, hown, hts⟩ (kc_readWhole3 l D ct E y r5 q6 ju4 hEi) (wqX4_91_kc_readWhole3 hts ⟨Nat.le_of_ble_eq_true rfl, Nat.le_of_ble_eq_true rfl⟩) hw hS hA hK hZ hN 4 192 rfl kg192 rfl hl.1 rfl (Nat.le_of_ble_eq_true rfl) dX4_readPart_90 93 rfl (fun u20 H locs pu20 hw hS => ?_)
      obtain ⟨v21, r22, q23⟩ := u20
      have hv21 : zI 0 1 v21 := pu20.1
      have ju20 : kJ r22 := pu20.2.1
      have fu20 : zFr [196, 192, 193] r5 r22 := pu20.2.2.1
      have xu20 : (v21, r22, q23) = (Gk_readWhole3 r5 q6) := pu20.2.2.2.1
      have hE := zc_vrqE xu20 hE
      have hw : zPD D A (kW ct E y r22 q23) H := hw
      refine zfr 93 [.int v21] rfl rfl ?_
      refine lv_if_eq (tgt := 110) hx hb dX4_readPart_93 (by decide) (fun c24 => ?_) (fun c24 => ?_)
      · have hE := zifT c24 hE
        have k25 : zI 0 0 (v21) := zI.eqq c24 (zI.lit (a := 0) (b := 0) (c := 0) (by decide))
        refine lv_iconst (v := 0) hx hb dX4_readPart_110 (by decide) ?_
        exact ziretQ hQ hx hb hr rfl hlocks ((0 : Int32), r22, q23) rfl ⟨((zI.lit (a := 0) (b := 0) (c := 0) (by decide)).w (c := 0) (d := 1) (by decide)), ju20, (((zFr.refl).tr fu4 rfl).tr fu20 rfl), (hE.symm.trans hX), trivial⟩ hw hS dX4_readPart_111
      · have hE := zifF c24 hE
        have k26 : zI 1 1 (v21) := zI.neD c24 hv21 (zI.lit (a := 0) (b := 0) (c := 0) (by decide)) (by decide)
        refine lv_aload_n hx hb dX4_readPart_96 rfl (lv_at hl 1 rfl) ?_
        refine cgets 22 (by decide) hx hb hZ hS hown lf94 dX4_readPart_97 (ztop (.ref (E (zn 22))) rfl ?_)
        refine kcallV (As := [.ref (E (zn 22))]) (rest := []) ⟨hx, hb, hml, hown, hts⟩ (kc_take l D ct E y 22 r22 q23 ((zI.lit (a := 22) (b := 22) (c := 22) (by decide)).w (c := 0) (d := 32) (by decide)) ju20 hEi) (wqX4_97_kc_take hts ⟨Nat.le_of_ble_eq_true rfl, Nat.le_of_ble_eq_true rfl⟩) hw hS hA hK hZ hN 8 196 rfl kg196 rfl hl.1 rfl (Nat.le_of_ble_eq_true rfl) dX4_readPart_100 103 rfl (fun u27 H locs pu27 hw hS => ?_)
        obtain ⟨v28, r29, q30⟩ := u27
        have hv28 : zI 0 1 v28 := pu27.1
        have ju27 : kJ r29 := pu27.2.1
        have fu27 : zFr [196] r22 r29 := pu27.2.2.1
        have xu27 : (v28, r29, q30) = (Gk_take 22 r22 q23) := pu27.2.2.2.1
        have hE := zc_vrqE xu27 hE
        have hw : zPD D A (kW ct E y r29 q30) H := hw
        refine zfr 103 [.int v28] rfl rfl ?_
        refine lv_if_eq (tgt := 110) hx hb dX4_readPart_103 (by decide) (fun c31 => ?_) (fun c31 => ?_)
        · have hE := zifT c31 hE
          have k32 : zI 0 0 (v28) := zI.eqq c31 (zI.lit (a := 0) (b := 0) (c := 0) (by decide))
          refine lv_iconst (v := 0) hx hb dX4_readPart_110 (by decide) ?_
          exact ziretQ hQ hx hb hr rfl hlocks ((0 : Int32), r29, q30) rfl ⟨((zI.lit (a := 0) (b := 0) (c := 0) (by decide)).w (c := 0) (d := 1) (by decide)), ju27, ((((zFr.refl).tr fu4 rfl).tr fu20 rfl).tr fu27 rfl), (hE.symm.trans hX), trivial⟩ hw hS dX4_readPart_111
        · have hE := zifF c31 hE
          have k33 : zI 1 1 (v28) := zI.neD c31 hv28 (zI.lit (a := 0) (b := 0) (c := 0) (by decide)) (by decide)
          refine lv_iconst (v := 1) hx hb dX4_readPart_106 (by decide) ?_
          refine lv_goto (tgt := 111) hx hb dX4_readPart_107 (by decide) ?_
          exact ziretQ hQ hx hb hr rfl hlocks ((1 : Int32), r29, q30) rfl ⟨((zI.lit (a := 1) (b := 1) (c := 1) (by decide)).w (c := 0) (d := 1) (by decide)), ju27, ((((zFr.refl).tr fu4 rfl).tr fu20 rfl).tr fu27 rfl), (hE.symm.trans hX), trivial⟩ hw hS dX4_readPart_111
  have cut47 : ∀ (w47_3 : Int32) (w47_4 : Int32) (w47_s0 : Int32) (hw47_3 : zI 0 1 w47_3) (hw47_4 : zI 0 1 w47_4) (hE : X = Gk_readPart2_47 r q w47_3 w47_4 w47_s0), zKf p l e ({ frames := 22, cells := 0, slots := 0, locals := 920 }) s m a9 below meth c Q D A 47 6 [.int w47_s0] (kW ct E y r q) [(0, .ref (y 192)), (1, .ref (y 196)), (2, .int 2), (3, .int w47_3), (4, .int w47_4)] := by
    intro w47_3 w47_4 w47_s0 hw47_3 hw47_4 hE H locs ls hw hS hl
    unfold Gk_readPart2_47 at hE
    refine lv_istore (lv' := [(5, .int w47_s0), (0, .ref (y 192)), (1, .ref (y 196)), (2, .int 2), (3, .int w47_3), (4, .int w47_4)]) hx hb dX4_readPart_47 hl (by decide) rfl (fun ls hl => ?_)
    refine lv_iload_n hx hb dX4_readPart_49 rfl (lv_at hl 4 rfl) ?_
    refine lv_if_ne (tgt := 66) hx hb dX4_readPart_50 (by decide) (fun c34 => ?_) (fun c34 => ?_)
    · have hE := zifnT c34 hE
      have k35 : zI 1 1 (w47_3) := zI.neD c34 hw47_3 (zI.lit (a := 0) (b := 0) (c := 0) (by decide)) (by decide)
      exact cut66 w47_3 w47_4 w47_s0 (k35.w (c := 0) (d := 1) (by decide)) hw47_4 hE H locs ls hw hS (lv_sub hl [1, 2, 3, 4, 5, 0] rfl)
    · have hE := zifnF c34 hE
      have k36 : zI 0 0 (w47_3) := zI.eqq c34 (zI.lit (a := 0) (b := 0) (c := 0) (by decide))
      refine lv_iload hx hb dX4_readPart_53 (lv_at hl 0 rfl) ?_
      refine lv_bipush (v := (-13)) hx hb dX4_readPart_55 (by decide) ?_
      refine lv_icmp_ne (tgt := 66) hx hb dX4_readPart_57 (by decide) (fun c37 => ?_) (fun c37 => ?_)
      · have hE := zifnT c37 hE
        exact cut66 w47_3 w47_4 w47_s0 (k36.w (c := 0) (d := 1) (by decide)) hw47_4 hE H locs ls hw hS (lv_sub hl [1, 2, 3, 4, 5, 0] rfl)
      · have hE := zifnF c37 hE
        have k38 : zI (-13) (-13) (w47_s0) := zI.eqq c37 (zI.lit (a := (-13)) (b := (-13)) (c := (-13)) (by decide))
        refine lv_aload_n hx hb dX4_readPart_60 rfl (lv_at hl 2 rfl) ?_
        refine lv_iconst (v := 1) hx hb dX4_readPart_61 (by decide) ?_
        refine kcallV (As := [.int 1]) (rest := []) ⟨hx, hb, hml, hown, hts⟩ (kc_wrong l D ct E y (1 : Int32) r q hJ0 hEi) (wqX4_87_kc_wrong hts ⟨Nat.le_of_ble_eq_true rfl, Nat.le_of_ble_eq_true rfl⟩) hw hS hA hK hZ hN 8 196 rfl kg196 rfl hl.1 rfl (Nat.le_of_ble_eq_true rfl) dX4_readPart_62 65 rfl (fun u39 H locs pu39 hw hS => ?_)
        obtain ⟨v40, r41⟩ := u39
        have hv40 : zI 0 0 v40 := pu39.1
        have ju39 : kJ r41 := pu39.2.1
        have fu39 : zFr [196] r r41 := pu39.2.2.1
        have xu39 : (v40, r41) = (Gk_wrong (1 : Int32) r q) := pu39.2.2.2.1
        have hE := zc_vrE xu39 hE
        have hw : zPD D A (kW ct E y r41 q) H := hw
        refine zfr 65 [.int v40] rfl rfl ?_
        exact ziretQ hQ hx hb hr ((hv40.w (c := 0) (d := 1) (by decide)).rn) hlocks (v40, r41, q) rfl ⟨(hv40.w (c := 0) (d := 1) (by decide)), ju39, ((zFr.refl).tr fu39 rfl), (hE.symm.trans hX), trivial⟩ hw hS dX4_readPart_65
  have cut31 : ∀ (w31_3 : Int32) (w31_s0 : Int32) (hw31_3 : zI 0 1 w31_3) (hw31_s0 : zI 0 1 w31_s0) (hE : X = Gk_readPart2_31 r q w31_3 w31_s0), zKf p l e ({ frames := 22, cells := 0, slots := 0, locals := 920 }) s m a9 below meth c Q D A 31 6 [.int w31_s0] (kW ct E y r q) [(0, .ref (y 192)), (1, .ref (y 196)), (2, .int 2), (3, .int w31_3)] := by
    intro w31_3 w31_s0 hw31_3 hw31_s0 hE H locs ls hw hS hl
    unfold Gk_readPart2_31 at hE
    refine lv_istore (lv' := [(4, .int w31_s0), (0, .ref (y 192)), (1, .ref (y 196)), (2, .int 2), (3, .int w31_3)]) hx hb dX4_readPart_31 hl (by decide) rfl (fun ls hl => ?_)
    refine lv_iload hx hb dX4_readPart_33 (lv_at hl 0 rfl) ?_
    refine lv_if_eq (tgt := 43) hx hb dX4_readPart_35 (by decide) (fun c42 => ?_) (fun c42 => ?_)
    · have hE := zifT c42 hE
      have k43 : zI 0 0 (w31_s0) := zI.eqq c42 (zI.lit (a := 0) (b := 0) (c := 0) (by decide))
      refine lv_aload_n hx hb dX4_readPart_43 rfl (lv_at hl 2 rfl) ?_
      refine zcallW (va_runS (As := [.ref (y 196)]) (rest := []) ⟨hx, hb, hml, hown, hts⟩ (kc_valueHere l D ct E y r q hJ0 hEi H.size) (va_cwS 1 hts (kgS (zr19 4 rfl) (zr19 5 rfl) (zr4 12 rfl) (zr19 6 rfl)) rfl rfl rfl (by decide +kernel) ⟨Nat.le_of_ble_eq_true rfl, Nat.le_of_ble_eq_true rfl⟩) (cpreS hK hw hS hA hZ hN (List.range (kW ct E y r q).length) kWn (zrange _)) rfl rfl hl.1 rfl (lv_room (Nat.le_of_ble_eq_true rfl)) dX4_readPart_44 ⟨Nat.le_of_ble_eq_true rfl, Nat.le_of_ble_eq_true rfl⟩) hw hS hA 47 rfl (fun u44 H locs pu44 hw hS => ?_)
      have hu44 : zI (-2147483648) 2147483647 u44 := pu44.1
      have xu44 : u44 = (Gk_valueHere r q) := pu44.2.1
      have hE := zletE xu44 hE
      have hw : zPD D A (kW ct E y r q) H := hw
      refine zfr 47 [.int u44] rfl rfl ?_
      exact cut47 w31_3 w31_s0 u44 hw31_3 (k43.w (c := 0) (d := 1) (by decide)) hE H locs ls hw hS (lv_sub hl [1, 2, 3, 4, 0] rfl)
    · have hE := zifF c42 hE
      have k46 : zI 1 1 (w31_s0) := zI.neD c42 hw31_s0 (zI.lit (a := 0) (b := 0) (c := 0) (by decide)) (by decide)
      refine lv_bipush (v := (-5)) hx hb dX4_readPart_38 (by decide) ?_
      refine lv_goto (tgt := 47) hx hb dX4_readPart_40 (by decide) ?_
      exact cut47 w31_3 w31_s0 (-5) hw31_3 (k46.w (c := 0) (d := 1) (by decide)) hE H locs ls hw hS (lv_sub hl [1, 2, 3, 4, 0] rfl)
  have cut15 : ∀ (w15_s0 : Int32) (hw15_s0 : zI 0 1 w15_s0) (hE : X = Gk_readPart2_15 r q w15_s0), zKf p l e ({ frames := 22, cells := 0, slots := 0, locals := 920 }) s m a9 below meth c Q D A 15 6 [.int w15_s0] (kW ct E y r q) [(0, .ref (y 192)), (1, .ref (y 196)), (2, .int 2)] := by
    intro w15_s0 hw15_s0 hE H locs ls hw hS hl
    unfold Gk_readPart2_15 at hE
    refine lv_istore_n (lv' := [(3, .int w15_s0), (0, .ref (y 192)), (1, .ref (y 196)), (2, .int 2)]) hx hb dX4_readPart_15 rfl hl (by decide) rfl (fun ls hl => ?_)
    refine lv_aload_n hx hb dX4_readPart_16 rfl (lv_at hl 2 rfl) ?_
    refine va_get (D := D) (ci := 8) (v := .ref (E (zn (r 196 4)))) hx hb hts hiX9 hown hK hw.1 196 kg196 rfl 4 (by decide) lf36 (fun _ h9 => h9) rfl dX4_readPart_17 (cgenSE (show zI 0 32 (r 196 4) from hJ0.i 196 4) (fun v47 ev47 hv47 => ?_))
    have hE := zletE ev47 hE
    refine cgets 18 (by decide) hx hb hZ hS hown lf80 dX4_readPart_20 (ztop (.ref (E (zn 18))) rfl ?_)
    refine cxacmp_ne (a := v47) (b := (18 : Int32)) (tgt := 30) hEi hv47 ((zI.lit (a := 18) (b := 18) (c := 18) (by decide)).w (c := 0) (d := 32) (by decide)) hx hb dX4_readPart_23 (by decide) (fun c48 => ?_) (fun c48 => ?_)
    · have hE := zifnT c48 hE
      refine lv_iconst (v := 0) hx hb dX4_readPart_30 (by decide) ?_
      exact cut31 w15_s0 0 hw15_s0 ((zI.lit (a := 0) (b := 0) (c := 0) (by decide)).w (c := 0) (d := 1) (by decide)) hE H locs ls hw hS (lv_sub hl [1, 2, 3, 0] rfl)
    · have hE := zifnF c48 hE
      refine lv_iconst (v := 1) hx hb dX4_readPart_26 (by decide) ?_
      refine lv_goto (tgt := 31) hx hb dX4_readPart_27 (by decide) ?_
      exact cut31 w15_s0 1 hw15_s0 ((zI.lit (a := 1) (b := 1) (c := 1) (by decide)).w (c := 0) (d := 1) (by decide)) hE H locs ls hw hS (lv_sub hl [1, 2, 3, 0] rfl)
  intro H locs hw hS ls hl
  have hl : lv_has ls 6 [(0, .ref (y 192)), (1, .ref (y 196)), (2, .int 2)] := hl
  have hE := hX
  unfold Gk_readPart2 at hE
  refine lv_aload_n hx hb dX4_readPart_0 rfl (lv_at hl 1 rfl) ?_
  refine va_get (D := D) (ci := 8) (v := .ref (E (zn (r 196 4)))) hx hb hts hiX9 hown hK hw.1 196 kg196 rfl 4 (by decide) lf36 (fun _ h9 => h9) rfl dX4_readPart_1 (cgenSE (show zI 0 32 (r 196 4) from hJ0.i 196 4) (fun v49 ev49 hv49 => ?_))
  have hE := zletE ev49 hE
  refine cgets 21 (by decide) hx hb hZ hS hown lf77 dX4_readPart_4 (ztop (.ref (E (zn 21))) rfl ?_)
  refine cxacmp_ne (a := v49) (b := (21 : Int32)) (tgt := 14) hEi hv49 ((zI.lit (a := 21) (b := 21) (c := 21) (by decide)).w (c := 0) (d := 32) (by decide)) hx hb dX4_readPart_7 (by decide) (fun c50 => ?_) (fun c50 => ?_)
  · have hE := zifnT c50 hE
    refine lv_iconst (v := 0) hx hb dX4_readPart_14 (by decide) ?_
    exact cut15 0 ((zI.lit (a := 0) (b := 0) (c := 0) (by decide)).w (c := 0) (d := 1) (by decide)) hE H locs ls hw hS (lv_sub hl [0, 1, 2] rfl)
  · have hE := zifnF c50 hE
    refine lv_iconst (v := 1) hx hb dX4_readPart_10 (by decide) ?_
    refine lv_goto (tgt := 15) hx hb dX4_readPart_11 (by decide) ?_
    exact cut15 1 ((zI.lit (a := 1) (b := 1) (c := 1) (by decide)).w (c := 0) (d := 1) (by decide)) hE H locs ls hw hS (lv_sub hl [0, 1, 2] rfl)

set_option maxHeartbeats 4000000 in
set_option maxRecDepth 100000 in
theorem kc_readProduct2 (l : Launch) (D : va_G) (ct : Nat → ClassId) (E : Nat → Nat) (y : Nat → Nat) (r : zRr) (q : zRq) (hJ0 : kJ r) (hEi : kEi E) : cC l yX4_readProduct (.code yX4_readProduct cX4_readProduct 4 (some .boolean) :: wsL_law0) ({ frames := 23, cells := 0, slots := 0, locals := 960 }) D ct E [.ref (y 192), .ref (y 196), .int 2] (kW ct E y r q) (S := Int32 × zRr × zRq) (fun u => some (.int u.1)) (fun u => zI 0 1 u.1 ∧ kJ u.2.1 ∧ zFr [196, 192, 193] r u.2.1 ∧ u = (Gk_readProduct2 r q) ∧ True) (fun u => kW ct E y u.2.1 u.2.2) := by
  refine cofQ cX4_readProduct 4 (some .boolean) (by decide) rfl (Nat.le_of_ble_eq_true rfl) ?_
  intro p e s m below meth c A a9 Q ha9 hx hb hr hml hts hown hlocks hname hK hA hZ hN hQ
  have hown : s.vm.findClass RX4 = some m.cls := hown
  have hiX9 : ∀ w ∈ wsX90, w ∈ .code yX4_readProduct cX4_readProduct 4 (some .boolean) :: wsL_law0 := fun _ h => ki (zs_wsX90 _ h)
  have lf36 := hts (.fieldLink RX4 36 "BeardPass$Tape" "sort" "LBeardPass$Sort;") (ki (zr18 17 rfl))
  have lf74 := hts (.fieldLink RX4 74 "BeardPass$Sort" "TIMES" "LBeardPass$Sort;") (ki (zr19 18 rfl))
  obtain ⟨X, hX⟩ : ∃ X, X = (Gk_readProduct2 r q) := ⟨_, rfl⟩
  have cut13 : ∀ (n13 : Nat) (w13_3 : Int32) (rw13 : zRr) (qw13 : zRq) (hw13_3 : zI 0 1000 w13_3) (jw13 : kJ rw13) (fw13 : zFr [196, 192, 193] r rw13) (hE : X = Gk_readProduct2_13 n13 w13_3 rw13 qw13), 1000 - w13_3.toInt < (n13 : Int) → zKf p l e ({ frames := 23, cells := 0, slots := 0, locals := 960 }) s m a9 below meth c Q D A 13 4 [] (kW ct E y rw13 qw13) [(0, .ref (y 192)), (1, .ref (y 196)), (2, .int 2), (3, .int w13_3)] := by
    intro n13
    induction n13 with
    | zero => intro w13_3 rw13 qw13 hw13_3 jw13 fw13 hE hm13; exact zI.no hw13_3 (by decide) hm13
    | succ n13 ih13 =>
      intro w13_3 rw13 qw13 hw13_3 jw13 fw13 hE hm13
      have hE : X = Bk_readProduct2_13 (Gk_readProduct2_13 n13) w13_3 rw13 qw13 := hE
      unfold Bk_readProduct2_13 at hE
      intro H locs ls hw hS hl
      refine lv_iload_n hx hb dX4_readProduct_13 rfl (lv_at hl 3 rfl) ?_
      refine lv_sipush (v := 1000) hx hb dX4_readProduct_14 (by decide) ?_
      refine lv_icmp_ge (tgt := 57) hx hb dX4_readProduct_17 (by decide) (fun c1 => ?_) (fun c1 => ?_)
      · have hE := zifT c1 hE
        have k2 : zI 1000 1000 (w13_3) := zI.leD c1 (zI.lit (a := 1000) (b := 1000) (c := 1000) (by decide)) hw13_3 (by decide)
        refine lv_iconst (v := 1) hx hb dX4_readProduct_57 (by decide) ?_
        exact ziretQ hQ hx hb hr rfl hlocks ((1 : Int32), rw13, qw13) rfl ⟨((zI.lit (a := 1) (b := 1) (c := 1) (by decide)).w (c := 0) (d := 1) (by decide)), jw13, fw13, (hE.symm.trans hX), trivial⟩ hw hS dX4_readProduct_58
      · have hE := zifF c1 hE
        have k3 : zI 0 999 (w13_3) := zI.ltU (zI.nle c1) hw13_3 (zI.lit (a := 1000) (b := 1000) (c := 1000) (by decide)) (by decide)
        refine lv_aload_n hx hb dX4_readProduct_20 rfl (lv_at hl 1 rfl) ?_
        refine va_get (D := D) (ci := 8) (v := .ref (E (zn (rw13 196 4)))) hx hb hts hiX9 hown hK hw.1 196 kg196 rfl 4 (by decide) lf36 (fun _ h9 => h9) rfl dX4_readProduct_21 (cgenSE (show zI 0 32 (rw13 196 4) from jw13.i 196 4) (fun v4 ev4 hv4 => ?_))
        have hE := zletE ev4 hE
        refine cgets 27 (by decide) hx hb hZ hS hown lf74 dX4_readProduct_24 (ztop (.ref (E (zn 27))) rfl ?_)
        refine cxacmp_ne (a := v4) (b := (27 : Int32)) (tgt := 57) hEi hv4 ((zI.lit (a := 27) (b := 27) (c := 27) (by decide)).w (c := 0) (d := 32) (by decide)) hx hb dX4_readProduct_27 (by decide) (fun c5 => ?_) (fun c5 => ?_)
        · have hE := zifnT c5 hE
          refine lv_iconst (v := 1) hx hb dX4_readProduct_57 (by decide) ?_
          exact ziretQ hQ hx hb hr rfl hlocks ((1 : Int32), rw13, qw13) rfl ⟨((zI.lit (a := 1) (b := 1) (c := 1) (by decide)).w (c := 0) (d := 1) (by decide)), jw13, fw13, (hE.symm.trans hX), trivial⟩ hw hS dX4_readProduct_58
        · have hE := zifnF c5 hE
          refine lv_aload_n hx hb dX4_readProduct_30 rfl (lv_at hl 1 rfl) ?_
          refine kcallV (As := []) (rest := []) ⟨hx, hb, hml, hown, hts⟩ (kc_step l D ct E y rw13 qw13 jw13 hEi) (wqX4_50_kc_step hts ⟨Nat.le_of_ble_eq_true rfl, Nat.le_of_ble_eq_true rfl⟩) hw hS hA hK hZ hN 8 196 rfl kg196 rfl hl.1 rfl (Nat.le_of_ble_eq_true rfl) dX4_readProduct_31 34 rfl (fun u6 H locs pu6 hw hS => ?_)
          obtain ⟨r7, q8⟩ := u6
          have ju6 : kJ r7 := pu6.1
          have fu6 : zFr [196] rw13 r7 := pu6.2.1
          have xu6 : (r7, q8) = (Gk_step rw13 qw13) := pu6.2.2.1
          have hE := zc_rqE xu6 hE
          have hw : zPD D A (kW ct E y r7 q8) H := hw
          refine zfr 34 [] rfl rfl ?_
          refine lv_aload_n hx hb dX4_readProduct_34 rfl (lv_at hl 0 rfl) ?_
          refine lv_aload_n hx hb dX4_readProduct_35 rfl (lv_at hl 1 rfl) ?_
          refine lv_iload_n hx hb dX4_readProduct_36 rfl (lv_at hl 2 rfl) ?_
          refine kcallV (As := [.ref (y 196), .int 2]) (rest := []) ⟨hx, hb, hml, hown, hts⟩ (kc_readPart2 l D ct E y r7 q8 ju6 hEi) (wqX4_71_kc_readPart2 hts ⟨Nat.le_of_ble_eq_true rfl, Nat.le_of_ble_eq_true rfl⟩) hw hS hA hK hZ hN 4 192 rfl kg192 rfl hl.1 rfl (Nat.le_of_ble_eq_true rfl) dX4_readProduct_37 40 rfl (fun u9 H locs pu9 hw hS => ?_)
          obtain ⟨v10, r11, q12⟩ := u9
          have hv10 : zI 0 1 v10 := pu9.1
          have ju9 : kJ r11 := pu9.2.1
          have fu9 : zFr [196, 192, 193] r7 r11 := pu9.2.2.1
          have xu9 : (v10, r11, q12) = (Gk_readPart2 r7 q8) := pu9.2.2.2.1
          have hE := zc_vrqE xu9 hE
          have hw : zPD D A (kW ct E y r11 q12) H := hw
          refine zfr 40 [.int v10] rfl rfl ?_
          refine lv_if_ne (tgt := 45) hx hb dX4_readProduct_40 (by decide) (fun c13 => ?_) (fun c13 => ?_)
          · have hE := zifnT c13 hE
            have k14 : zI 1 1 (v10) := zI.neD c13 hv10 (zI.lit (a := 0) (b := 0) (c := 0) (by decide)) (by decide)
            refine lv_aload_n hx hb dX4_readProduct_45 rfl (lv_at hl 0 rfl) ?_
            refine lv_bipush (v := (-12)) hx hb dX4_readProduct_46 (by decide) ?_
            refine kcallV (As := [.int (-12)]) (rest := []) ⟨hx, hb, hml, hown, hts⟩ (kc_add l D ct E y ((-12) : Int32) r11 q12 ju9 hEi) (wqX4_22_kc_add hts ⟨Nat.le_of_ble_eq_true rfl, Nat.le_of_ble_eq_true rfl⟩) hw hS hA hK hZ hN 4 192 rfl kg192 rfl hl.1 rfl (Nat.le_of_ble_eq_true rfl) dX4_readProduct_48 51 rfl (fun u15 H locs pu15 hw hS => ?_)
            have ju15 : kJ u15 := pu15.1
            have fu15 : zFr [192, 193] r11 u15 := pu15.2.1
            have xu15 : u15 = (Gk_add ((-12) : Int32) r11 q12) := pu15.2.2.1
            have hE := zletE xu15 hE
            have hw : zPD D A (kW ct E y u15 q12) H := hw
            refine zfr 51 [] rfl rfl ?_
            refine lv_iinc (v := w13_3 + 1) (lv' := [(3, .int (w13_3 + 1)), (0, .ref (y 192)), (1, .ref (y 196)), (2, .int 2)]) hx hb dX4_readProduct_51 hl (k := 3) rfl (rfl) (by decide) rfl (fun ls hl => ?_)
            have k17 : zI 1 1000 (w13_3 + 1) := zI.add k3 (zI.lit (a := 1) (b := 1) (by decide)) (by decide)
            refine lv_goto (tgt := 13) hx hb dX4_readProduct_54 (by decide) ?_
            exact ih13 (w13_3 + 1) u15 q12 (k17.w (c := 0) (d := 1000) (by decide)) ju15 (((fw13.tr fu6 rfl).tr fu9 rfl).tr fu15 rfl) hE (zI.up k3 (by decide) hm13) H locs ls hw hS (lv_sub hl [1, 2, 3, 0] rfl)
          · have hE := zifnF c13 hE
            have k18 : zI 0 0 (v10) := zI.eqq c13 (zI.lit (a := 0) (b := 0) (c := 0) (by decide))
            refine lv_iconst (v := 0) hx hb dX4_readProduct_43 (by decide) ?_
            exact ziretQ hQ hx hb hr rfl hlocks ((0 : Int32), r11, q12) rfl ⟨((zI.lit (a := 0) (b := 0) (c := 0) (by decide)).w (c := 0) (d := 1) (by decide)), ju9, ((fw13.tr fu6 rfl).tr fu9 rfl), (hE.symm.trans hX), trivial⟩ hw hS dX4_readProduct_44
  intro H locs hw hS ls hl
  have hl : lv_has ls 4 [(0, .ref (y 192)), (1, .ref (y 196)), (2, .int 2)] := hl
  have hE := hX
  unfold Gk_readProduct2 at hE
  refine lv_aload_n hx hb dX4_readProduct_0 rfl (lv_at hl 0 rfl) ?_
  refine lv_aload_n hx hb dX4_readProduct_1 rfl (lv_at hl 1 rfl) ?_
  refine lv_iload_n hx hb dX4_readProduct_2 rfl (lv_at hl 2 rfl) ?_
  refine kcallV (As := [.ref (y 196), .int 2]) (rest := []) ⟨hx, hb, hml, hown, hts⟩ (kc_readPart2 l D ct E y r q hJ0 hEi) (wqX4_71_kc_readPart2 hts ⟨Nat.le_of_ble_eq_true rfl, Nat.le_of_ble_eq_true rfl⟩) hw hS hA hK hZ hN 4 192 rfl kg192 rfl hl.1 rfl (Nat.le_of_ble_eq_true rfl) dX4_readProduct_3 6 rfl (fun u19 H locs pu19 hw hS => ?_)
  obtain ⟨v20, r21, q22⟩ := u19
  have hv20 : zI 0 1 v20 := pu19.1
  have ju19 : kJ r21 := pu19.2.1
  have fu19 : zFr [196, 192, 193] r r21 := pu19.2.2.1
  have xu19 : (v20, r21, q22) = (Gk_readPart2 r q) := pu19.2.2.2.1
  have hE := zc_vrqE xu19 hE
  have hw : zPD D A (kW ct E y r21 q22) H := hw
  refine zfr 6 [.int v20] rfl rfl ?_
  refine lv_if_ne (tgt := 11) hx hb dX4_readProduct_6 (by decide) (fun c23 => ?_) (fun c23 => ?_)
  · have hE := zifnT c23 hE
    have k24 : zI 1 1 (v20) := zI.neD c23 hv20 (zI.lit (a := 0) (b := 0) (c := 0) (by decide)) (by decide)
    refine lv_iconst (v := 0) hx hb dX4_readProduct_11 (by decide) ?_
    refine lv_istore_n (lv' := [(3, .int 0), (0, .ref (y 192)), (1, .ref (y 196)), (2, .int 2)]) hx hb dX4_readProduct_12 rfl hl (by decide) rfl (fun ls hl => ?_)
    exact cut13 1001 0 r21 q22 ((zI.lit (a := 0) (b := 0) (c := 0) (by decide)).w (c := 0) (d := 1000) (by decide)) ju19 ((zFr.refl).tr fu19 rfl) hE (zI.m0 (zI.lit (a := 0) (b := 0) (c := 0) (by decide)) (by decide)) H locs ls hw hS (lv_sub hl [1, 2, 3, 0] rfl)
  · have hE := zifnF c23 hE
    have k25 : zI 0 0 (v20) := zI.eqq c23 (zI.lit (a := 0) (b := 0) (c := 0) (by decide))
    refine lv_iconst (v := 0) hx hb dX4_readProduct_9 (by decide) ?_
    exact ziretQ hQ hx hb hr rfl hlocks ((0 : Int32), r21, q22) rfl ⟨((zI.lit (a := 0) (b := 0) (c := 0) (by decide)).w (c := 0) (d := 1) (by decide)), ju19, ((zFr.refl).tr fu19 rfl), (hE.symm.trans hX), trivial⟩ hw hS dX4_readProduct_10

set_option maxHeartbeats 4000000 in
set_option maxRecDepth 100000 in
theorem kc_readSum2 (l : Launch) (D : va_G) (ct : Nat → ClassId) (E : Nat → Nat) (y : Nat → Nat) (r : zRr) (q : zRq) (hJ0 : kJ r) (hEi : kEi E) : cC l yX4_readSum (.code yX4_readSum cX4_readSum 5 (some .boolean) :: wsL_law0) ({ frames := 24, cells := 0, slots := 0, locals := 1000 }) D ct E [.ref (y 192), .ref (y 196), .int 2] (kW ct E y r q) (S := Int32 × zRr × zRq) (fun u => some (.int u.1)) (fun u => zI 0 1 u.1 ∧ kJ u.2.1 ∧ zFr [196, 192, 193] r u.2.1 ∧ u = (Gk_readSum2 r q) ∧ True) (fun u => kW ct E y u.2.1 u.2.2) := by
  refine cofQ cX4_readSum 5 (some .boolean) (by decide) rfl (Nat.le_of_ble_eq_true rfl) ?_
  intro p e s m below meth c A a9 Q ha9 hx hb hr hml hts hown hlocks hname hK hA hZ hN hQ
  have hown : s.vm.findClass RX4 = some m.cls := hown
  have hiX9 : ∀ w ∈ wsX90, w ∈ .code yX4_readSum cX4_readSum 5 (some .boolean) :: wsL_law0 := fun _ h => ki (zs_wsX90 _ h)
  have lf36 := hts (.fieldLink RX4 36 "BeardPass$Tape" "sort" "LBeardPass$Sort;") (ki (zr18 17 rfl))
  have lf65 := hts (.fieldLink RX4 65 "BeardPass$Sort" "PLUS" "LBeardPass$Sort;") (ki (zr19 20 rfl))
  have lf68 := hts (.fieldLink RX4 68 "BeardPass$Sort" "MINUS" "LBeardPass$Sort;") (ki (zr19 21 rfl))
  obtain ⟨X, hX⟩ : ∃ X, X = (Gk_readSum2 r q) := ⟨_, rfl⟩
  have cut13 : ∀ (n13 : Nat) (w13_3 : Int32) (rw13 : zRr) (qw13 : zRq) (hw13_3 : zI 0 1000 w13_3) (jw13 : kJ rw13) (fw13 : zFr [196, 192, 193] r rw13) (hE : X = Gk_readSum2_13 n13 w13_3 rw13 qw13), 1000 - w13_3.toInt < (n13 : Int) → zKf p l e ({ frames := 24, cells := 0, slots := 0, locals := 1000 }) s m a9 below meth c Q D A 13 5 [] (kW ct E y rw13 qw13) [(0, .ref (y 192)), (1, .ref (y 196)), (2, .int 2), (3, .int w13_3)] := by
    intro n13
    induction n13 with
    | zero => intro w13_3 rw13 qw13 hw13_3 jw13 fw13 hE hm13; exact zI.no hw13_3 (by decide) hm13
    | succ n13 ih13 =>
      intro w13_3 rw13 qw13 hw13_3 jw13 fw13 hE hm13
      have hE : X = Bk_readSum2_13 (Gk_readSum2_13 n13) w13_3 rw13 qw13 := hE
      unfold Bk_readSum2_13 at hE
      have cut57 : ∀ (w57_s0 : Int32) (hw57_3 : zI 0 999 w13_3) (hw57_s0 : zI (-11) (-2) w57_s0) (hE : X = Gk_readSum2_57 w13_3 rw13 qw13 (Gk_readSum2_13 n13) w57_s0), zKf p l e ({ frames := 24, cells := 0, slots := 0, locals := 1000 }) s m a9 below meth c Q D A 57 5 [.int w57_s0] (kW ct E y rw13 qw13) [(0, .ref (y 192)), (1, .ref (y 196)), (2, .int 2), (3, .int w13_3)] := by
        intro w57_s0 hw57_3 hw57_s0 hE H locs ls hw hS hl
        unfold Gk_readSum2_57 at hE
        refine lv_istore (lv' := [(4, .int w57_s0), (0, .ref (y 192)), (1, .ref (y 196)), (2, .int 2), (3, .int w13_3)]) hx hb dX4_readSum_57 hl (by decide) rfl (fun ls hl => ?_)
        refine lv_aload_n hx hb dX4_readSum_59 rfl (lv_at hl 2 rfl) ?_
        refine kcallV (As := []) (rest := []) ⟨hx, hb, hml, hown, hts⟩ (kc_step l D ct E y rw13 qw13 jw13 hEi) (wqX4_50_kc_step hts ⟨Nat.le_of_ble_eq_true rfl, Nat.le_of_ble_eq_true rfl⟩) hw hS hA hK hZ hN 8 196 rfl kg196 rfl hl.1 rfl (Nat.le_of_ble_eq_true rfl) dX4_readSum_60 63 rfl (fun u1 H locs pu1 hw hS => ?_)
        obtain ⟨r2, q3⟩ := u1
        have ju1 : kJ r2 := pu1.1
        have fu1 : zFr [196] rw13 r2 := pu1.2.1
        have xu1 : (r2, q3) = (Gk_step rw13 qw13) := pu1.2.2.1
        have hE := zc_rqE xu1 hE
        have hw : zPD D A (kW ct E y r2 q3) H := hw
        refine zfr 63 [] rfl rfl ?_
        refine lv_aload_n hx hb dX4_readSum_63 rfl (lv_at hl 1 rfl) ?_
        refine lv_aload_n hx hb dX4_readSum_64 rfl (lv_at hl 2 rfl) ?_
        refine lv_iload_n hx hb dX4_readSum_65 rfl (lv_at hl 3 rfl) ?_
        refine kcallV (As := [.ref (y 196), .int 2]) (rest := []) ⟨hx, hb, hml, hown, hts⟩ (kc_readProduct2 l D ct E y r2 q3 ju1 hEi) (wqX4_62_kc_readProduct2 hts ⟨Nat.le_of_ble_eq_true rfl, Nat.le_of_ble_eq_true rfl⟩) hw hS hA hK hZ hN 4 192 rfl kg192 rfl hl.1 rfl (Nat.le_of_ble_eq_true rfl) dX4_readSum_66 69 rfl (fun u4 H locs pu4 hw hS => ?_)
        obtain ⟨v5, r6, q7⟩ := u4
        have hv5 : zI 0 1 v5 := pu4.1
        have ju4 : kJ r6 := pu4.2.1
        have fu4 : zFr [196, 192, 193] r2 r6 := pu4.2.2.1
        have xu4 : (v5, r6, q7) = (Gk_readProduct2 r2 q3) := pu4.2.2.2.1
        have hE := zc_vrqE xu4 hE
        have hw : zPD D A (kW ct E y r6 q7) H := hw
        refine zfr 69 [.int v5] rfl rfl ?_
        refine lv_if_ne (tgt := 74) hx hb dX4_readSum_69 (by decide) (fun c8 => ?_) (fun c8 => ?_)
        · have hE := zifnT c8 hE
          have k9 : zI 1 1 (v5) := zI.neD c8 hv5 (zI.lit (a := 0) (b := 0) (c := 0) (by decide)) (by decide)
          refine lv_aload_n hx hb dX4_readSum_74 rfl (lv_at hl 1 rfl) ?_
          refine lv_iload hx hb dX4_readSum_75 (lv_at hl 0 rfl) ?_
          refine kcallV (As := [.int w57_s0]) (rest := []) ⟨hx, hb, hml, hown, hts⟩ (kc_add l D ct E y w57_s0 r6 q7 ju4 hEi) (wqX4_22_kc_add hts ⟨Nat.le_of_ble_eq_true rfl, Nat.le_of_ble_eq_true rfl⟩) hw hS hA hK hZ hN 4 192 rfl kg192 rfl hl.1 rfl (Nat.le_of_ble_eq_true rfl) dX4_readSum_77 80 rfl (fun u10 H locs pu10 hw hS => ?_)
          have ju10 : kJ u10 := pu10.1
          have fu10 : zFr [192, 193] r6 u10 := pu10.2.1
          have xu10 : u10 = (Gk_add w57_s0 r6 q7) := pu10.2.2.1
          have hE := zletE xu10 hE
          have hw : zPD D A (kW ct E y u10 q7) H := hw
          refine zfr 80 [] rfl rfl ?_
          refine lv_iinc (v := w13_3 + 1) (lv' := [(3, .int (w13_3 + 1)), (4, .int w57_s0), (0, .ref (y 192)), (1, .ref (y 196)), (2, .int 2)]) hx hb dX4_readSum_80 hl (k := 4) rfl (rfl) (by decide) rfl (fun ls hl => ?_)
          have k12 : zI 1 1000 (w13_3 + 1) := zI.add hw57_3 (zI.lit (a := 1) (b := 1) (by decide)) (by decide)
          refine lv_goto (tgt := 13) hx hb dX4_readSum_83 (by decide) ?_
          exact ih13 (w13_3 + 1) u10 q7 (k12.w (c := 0) (d := 1000) (by decide)) ju10 (((fw13.tr fu1 rfl).tr fu4 rfl).tr fu10 rfl) hE (zI.up hw57_3 (by decide) hm13) H locs ls hw hS (lv_sub hl [2, 3, 4, 0] rfl)
        · have hE := zifnF c8 hE
          have k13 : zI 0 0 (v5) := zI.eqq c8 (zI.lit (a := 0) (b := 0) (c := 0) (by decide))
          refine lv_iconst (v := 0) hx hb dX4_readSum_72 (by decide) ?_
          exact ziretQ hQ hx hb hr rfl hlocks ((0 : Int32), r6, q7) rfl ⟨((zI.lit (a := 0) (b := 0) (c := 0) (by decide)).w (c := 0) (d := 1) (by decide)), ju4, ((fw13.tr fu1 rfl).tr fu4 rfl), (hE.symm.trans hX), trivial⟩ hw hS dX4_readSum_73
      have cut40 : ∀ (hw40_3 : zI 0 999 w13_3) (hE : X = Gk_readSum2_40 w13_3 rw13 qw13 (Gk_readSum2_13 n13) ), zKf p l e ({ frames := 24, cells := 0, slots := 0, locals := 1000 }) s m a9 below meth c Q D A 40 5 [] (kW ct E y rw13 qw13) [(0, .ref (y 192)), (1, .ref (y 196)), (2, .int 2), (3, .int w13_3)] := by
        intro hw40_3 hE H locs ls hw hS hl
        unfold Gk_readSum2_40 at hE
        refine lv_aload_n hx hb dX4_readSum_40 rfl (lv_at hl 1 rfl) ?_
        refine va_get (D := D) (ci := 8) (v := .ref (E (zn (rw13 196 4)))) hx hb hts hiX9 hown hK hw.1 196 kg196 rfl 4 (by decide) lf36 (fun _ h9 => h9) rfl dX4_readSum_41 (cgenSE (show zI 0 32 (rw13 196 4) from jw13.i 196 4) (fun v14 ev14 hv14 => ?_))
        have hE := zletE ev14 hE
        refine cgets 25 (by decide) hx hb hZ hS hown lf65 dX4_readSum_44 (ztop (.ref (E (zn 25))) rfl ?_)
        refine cxacmp_ne (a := v14) (b := (25 : Int32)) (tgt := 55) hEi hv14 ((zI.lit (a := 25) (b := 25) (c := 25) (by decide)).w (c := 0) (d := 32) (by decide)) hx hb dX4_readSum_47 (by decide) (fun c15 => ?_) (fun c15 => ?_)
        · have hE := zifnT c15 hE
          refine lv_bipush (v := (-11)) hx hb dX4_readSum_55 (by decide) ?_
          exact cut57 (-11) hw40_3 ((zI.lit (a := (-11)) (b := (-11)) (c := (-11)) (by decide)).w (c := (-11)) (d := (-2)) (by decide)) hE H locs ls hw hS (lv_sub hl [0, 1, 2, 3] rfl)
        · have hE := zifnF c15 hE
          refine lv_bipush (v := (-10)) hx hb dX4_readSum_50 (by decide) ?_
          refine lv_goto (tgt := 57) hx hb dX4_readSum_52 (by decide) ?_
          exact cut57 (-10) hw40_3 ((zI.lit (a := (-10)) (b := (-10)) (c := (-10)) (by decide)).w (c := (-11)) (d := (-2)) (by decide)) hE H locs ls hw hS (lv_sub hl [0, 1, 2, 3] rfl)
      intro H locs ls hw hS hl
      refine lv_iload_n hx hb dX4_readSum_13 rfl (lv_at hl 3 rfl) ?_
      refine lv_sipush (v := 1000) hx hb dX4_readSum_14 (by decide) ?_
      refine lv_icmp_ge (tgt := 86) hx hb dX4_readSum_17 (by decide) (fun c16 => ?_) (fun c16 => ?_)
      · have hE := zifT c16 hE
        have k17 : zI 1000 1000 (w13_3) := zI.leD c16 (zI.lit (a := 1000) (b := 1000) (c := 1000) (by decide)) hw13_3 (by decide)
        refine lv_iconst (v := 1) hx hb dX4_readSum_86 (by decide) ?_
        exact ziretQ hQ hx hb hr rfl hlocks ((1 : Int32), rw13, qw13) rfl ⟨((zI.lit (a := 1) (b := 1) (c := 1) (by decide)).w (c := 0) (d := 1) (by decide)), jw13, fw13, (hE.symm.trans hX), trivial⟩ hw hS dX4_readSum_87
      · have hE := zifF c16 hE
        have k18 : zI 0 999 (w13_3) := zI.ltU (zI.nle c16) hw13_3 (zI.lit (a := 1000) (b := 1000) (c := 1000) (by decide)) (by decide)
        refine lv_aload_n hx hb dX4_readSum_20 rfl (lv_at hl 1 rfl) ?_
        refine va_get (D := D) (ci := 8) (v := .ref (E (zn (rw13 196 4)))) hx hb hts hiX9 hown hK hw.1 196 kg196 rfl 4 (by decide) lf36 (fun _ h9 => h9) rfl dX4_readSum_21 (cgenSE (show zI 0 32 (rw13 196 4) from jw13.i 196 4) (fun v19 ev19 hv19 => ?_))
        have hE := zletE ev19 hE
        refine cgets 25 (by decide) hx hb hZ hS hown lf65 dX4_readSum_24 (ztop (.ref (E (zn 25))) rfl ?_)
        refine cxacmp_eq (a := v19) (b := (25 : Int32)) (tgt := 40) hEi hv19 ((zI.lit (a := 25) (b := 25) (c := 25) (by decide)).w (c := 0) (d := 32) (by decide)) hx hb dX4_readSum_27 (by decide) (fun c20 => ?_) (fun c20 => ?_)
        · have hE := zifT c20 hE
          exact cut40 k18 hE H locs ls hw hS (lv_sub hl [0, 1, 2, 3] rfl)
        · have hE := zifF c20 hE
          refine lv_aload_n hx hb dX4_readSum_30 rfl (lv_at hl 1 rfl) ?_
          refine va_get (D := D) (ci := 8) (v := .ref (E (zn (rw13 196 4)))) hx hb hts hiX9 hown hK hw.1 196 kg196 rfl 4 (by decide) lf36 (fun _ h9 => h9) rfl dX4_readSum_31 (cgenSE (show zI 0 32 (rw13 196 4) from jw13.i 196 4) (fun v21 ev21 hv21 => ?_))
          have hE := zletE ev21 hE
          refine cgets 26 (by decide) hx hb hZ hS hown lf68 dX4_readSum_34 (ztop (.ref (E (zn 26))) rfl ?_)
          refine cxacmp_ne (a := v21) (b := (26 : Int32)) (tgt := 86) hEi hv21 ((zI.lit (a := 26) (b := 26) (c := 26) (by decide)).w (c := 0) (d := 32) (by decide)) hx hb dX4_readSum_37 (by decide) (fun c22 => ?_) (fun c22 => ?_)
          · have hE := zifnT c22 hE
            refine lv_iconst (v := 1) hx hb dX4_readSum_86 (by decide) ?_
            exact ziretQ hQ hx hb hr rfl hlocks ((1 : Int32), rw13, qw13) rfl ⟨((zI.lit (a := 1) (b := 1) (c := 1) (by decide)).w (c := 0) (d := 1) (by decide)), jw13, fw13, (hE.symm.trans hX), trivial⟩ hw hS dX4_readSum_87
          · have hE := zifnF c22 hE
            exact cut40 k18 hE H locs ls hw hS (lv_sub hl [0, 1, 2, 3] rfl)
  intro H locs hw hS ls hl
  have hl : lv_has ls 5 [(0, .ref (y 192)), (1, .ref (y 196)), (2, .int 2)] := hl
  have hE := hX
  unfold Gk_readSum2 at hE
  refine lv_aload_n hx hb dX4_readSum_0 rfl (lv_at hl 0 rfl) ?_
  refine lv_aload_n hx hb dX4_readSum_1 rfl (lv_at hl 1 rfl) ?_
  refine lv_iload_n hx hb dX4_readSum_2 rfl (lv_at hl 2 rfl) ?_
  refine kcallV (As := [.ref (y 196), .int 2]) (rest := []) ⟨hx, hb, hml, hown, hts⟩ (kc_readProduct2 l D ct E y r q hJ0 hEi) (wqX4_62_kc_readProduct2 hts ⟨Nat.le_of_ble_eq_true rfl, Nat.le_of_ble_eq_true rfl⟩) hw hS hA hK hZ hN 4 192 rfl kg192 rfl hl.1 rfl (Nat.le_of_ble_eq_true rfl) dX4_readSum_3 6 rfl (fun u23 H locs pu23 hw hS => ?_)
  obtain ⟨v24, r25, q26⟩ := u23
  have hv24 : zI 0 1 v24 := pu23.1
  have ju23 : kJ r25 := pu23.2.1
  have fu23 : zFr [196, 192, 193] r r25 := pu23.2.2.1
  have xu23 : (v24, r25, q26) = (Gk_readProduct2 r q) := pu23.2.2.2.1
  have hE := zc_vrqE xu23 hE
  have hw : zPD D A (kW ct E y r25 q26) H := hw
  refine zfr 6 [.int v24] rfl rfl ?_
  refine lv_if_ne (tgt := 11) hx hb dX4_readSum_6 (by decide) (fun c27 => ?_) (fun c27 => ?_)
  · have hE := zifnT c27 hE
    have k28 : zI 1 1 (v24) := zI.neD c27 hv24 (zI.lit (a := 0) (b := 0) (c := 0) (by decide)) (by decide)
    refine lv_iconst (v := 0) hx hb dX4_readSum_11 (by decide) ?_
    refine lv_istore_n (lv' := [(3, .int 0), (0, .ref (y 192)), (1, .ref (y 196)), (2, .int 2)]) hx hb dX4_readSum_12 rfl hl (by decide) rfl (fun ls hl => ?_)
    exact cut13 1001 0 r25 q26 ((zI.lit (a := 0) (b := 0) (c := 0) (by decide)).w (c := 0) (d := 1000) (by decide)) ju23 ((zFr.refl).tr fu23 rfl) hE (zI.m0 (zI.lit (a := 0) (b := 0) (c := 0) (by decide)) (by decide)) H locs ls hw hS (lv_sub hl [1, 2, 3, 0] rfl)
  · have hE := zifnF c27 hE
    have k29 : zI 0 0 (v24) := zI.eqq c27 (zI.lit (a := 0) (b := 0) (c := 0) (by decide))
    refine lv_iconst (v := 0) hx hb dX4_readSum_9 (by decide) ?_
    exact ziretQ hQ hx hb hr rfl hlocks ((0 : Int32), r25, q26) rfl ⟨((zI.lit (a := 0) (b := 0) (c := 0) (by decide)).w (c := 0) (d := 1) (by decide)), ju23, ((zFr.refl).tr fu23 rfl), (hE.symm.trans hX), trivial⟩ hw hS dX4_readSum_10

set_option maxHeartbeats 4000000 in
set_option maxRecDepth 100000 in
theorem kc_readTest2 (l : Launch) (D : va_G) (ct : Nat → ClassId) (E : Nat → Nat) (y : Nat → Nat) (r : zRr) (q : zRq) (hJ0 : kJ r) (hEi : kEi E) : cC l yX4_readTest (.code yX4_readTest cX4_readTest 4 (some .boolean) :: wsL_law0) ({ frames := 25, cells := 0, slots := 0, locals := 1040 }) D ct E [.ref (y 192), .ref (y 196), .int 2] (kW ct E y r q) (S := Int32 × zRr × zRq) (fun u => some (.int u.1)) (fun u => zI 0 1 u.1 ∧ kJ u.2.1 ∧ zFr [196, 192, 193] r u.2.1 ∧ u = (Gk_readTest2 r q) ∧ True) (fun u => kW ct E y u.2.1 u.2.2) := by
  refine cofQ cX4_readTest 4 (some .boolean) (by decide) rfl (Nat.le_of_ble_eq_true rfl) ?_
  intro p e s m below meth c A a9 Q ha9 hx hb hr hml hts hown hlocks hname hK hA hZ hN hQ
  have hown : s.vm.findClass RX4 = some m.cls := hown
  have hiX9 : ∀ w ∈ wsX90, w ∈ .code yX4_readTest cX4_readTest 4 (some .boolean) :: wsL_law0 := fun _ h => ki (zs_wsX90 _ h)
  have lf36 := hts (.fieldLink RX4 36 "BeardPass$Tape" "sort" "LBeardPass$Sort;") (ki (zr18 17 rfl))
  have lf56 := hts (.fieldLink RX4 56 "BeardPass$Sort" "LESS" "LBeardPass$Sort;") (ki (zr20 2 rfl))
  have lf59 := hts (.fieldLink RX4 59 "BeardPass$Sort" "SAME" "LBeardPass$Sort;") (ki (zr20 3 rfl))
  obtain ⟨X, hX⟩ : ∃ X, X = (Gk_readTest2 r q) := ⟨_, rfl⟩
  have cut50 : ∀ (w50_s0 : Int32) (rw50 : zRr) (qw50 : zRq) (hw50_s0 : zI (-9) (-2) w50_s0) (jw50 : kJ rw50) (fw50 : zFr [196, 192, 193] r rw50) (hE : X = Gk_readTest2_50 w50_s0 rw50 qw50), zKf p l e ({ frames := 25, cells := 0, slots := 0, locals := 1040 }) s m a9 below meth c Q D A 50 4 [.int w50_s0] (kW ct E y rw50 qw50) [(0, .ref (y 192)), (1, .ref (y 196)), (2, .int 2)] := by
    intro w50_s0 rw50 qw50 hw50_s0 jw50 fw50 hE H locs ls hw hS hl
    unfold Gk_readTest2_50 at hE
    refine lv_istore_n (lv' := [(3, .int w50_s0), (0, .ref (y 192)), (1, .ref (y 196)), (2, .int 2)]) hx hb dX4_readTest_50 rfl hl (by decide) rfl (fun ls hl => ?_)
    refine lv_aload_n hx hb dX4_readTest_51 rfl (lv_at hl 2 rfl) ?_
    refine kcallV (As := []) (rest := []) ⟨hx, hb, hml, hown, hts⟩ (kc_step l D ct E y rw50 qw50 jw50 hEi) (wqX4_50_kc_step hts ⟨Nat.le_of_ble_eq_true rfl, Nat.le_of_ble_eq_true rfl⟩) hw hS hA hK hZ hN 8 196 rfl kg196 rfl hl.1 rfl (Nat.le_of_ble_eq_true rfl) dX4_readTest_52 55 rfl (fun u1 H locs pu1 hw hS => ?_)
    obtain ⟨r2, q3⟩ := u1
    have ju1 : kJ r2 := pu1.1
    have fu1 : zFr [196] rw50 r2 := pu1.2.1
    have xu1 : (r2, q3) = (Gk_step rw50 qw50) := pu1.2.2.1
    have hE := zc_rqE xu1 hE
    have hw : zPD D A (kW ct E y r2 q3) H := hw
    refine zfr 55 [] rfl rfl ?_
    refine lv_aload_n hx hb dX4_readTest_55 rfl (lv_at hl 1 rfl) ?_
    refine lv_aload_n hx hb dX4_readTest_56 rfl (lv_at hl 2 rfl) ?_
    refine lv_iload_n hx hb dX4_readTest_57 rfl (lv_at hl 3 rfl) ?_
    refine kcallV (As := [.ref (y 196), .int 2]) (rest := []) ⟨hx, hb, hml, hown, hts⟩ (kc_readSum2 l D ct E y r2 q3 ju1 hEi) (wqX4_53_kc_readSum2 hts ⟨Nat.le_of_ble_eq_true rfl, Nat.le_of_ble_eq_true rfl⟩) hw hS hA hK hZ hN 4 192 rfl kg192 rfl hl.1 rfl (Nat.le_of_ble_eq_true rfl) dX4_readTest_58 61 rfl (fun u4 H locs pu4 hw hS => ?_)
    obtain ⟨v5, r6, q7⟩ := u4
    have hv5 : zI 0 1 v5 := pu4.1
    have ju4 : kJ r6 := pu4.2.1
    have fu4 : zFr [196, 192, 193] r2 r6 := pu4.2.2.1
    have xu4 : (v5, r6, q7) = (Gk_readSum2 r2 q3) := pu4.2.2.2.1
    have hE := zc_vrqE xu4 hE
    have hw : zPD D A (kW ct E y r6 q7) H := hw
    refine zfr 61 [.int v5] rfl rfl ?_
    refine lv_if_ne (tgt := 66) hx hb dX4_readTest_61 (by decide) (fun c8 => ?_) (fun c8 => ?_)
    · have hE := zifnT c8 hE
      have k9 : zI 1 1 (v5) := zI.neD c8 hv5 (zI.lit (a := 0) (b := 0) (c := 0) (by decide)) (by decide)
      refine lv_aload_n hx hb dX4_readTest_66 rfl (lv_at hl 1 rfl) ?_
      refine lv_iload_n hx hb dX4_readTest_67 rfl (lv_at hl 0 rfl) ?_
      refine kcallV (As := [.int w50_s0]) (rest := []) ⟨hx, hb, hml, hown, hts⟩ (kc_add l D ct E y w50_s0 r6 q7 ju4 hEi) (wqX4_22_kc_add hts ⟨Nat.le_of_ble_eq_true rfl, Nat.le_of_ble_eq_true rfl⟩) hw hS hA hK hZ hN 4 192 rfl kg192 rfl hl.1 rfl (Nat.le_of_ble_eq_true rfl) dX4_readTest_68 71 rfl (fun u10 H locs pu10 hw hS => ?_)
      have ju10 : kJ u10 := pu10.1
      have fu10 : zFr [192, 193] r6 u10 := pu10.2.1
      have xu10 : u10 = (Gk_add w50_s0 r6 q7) := pu10.2.2.1
      have hE := zletE xu10 hE
      have hw : zPD D A (kW ct E y u10 q7) H := hw
      refine zfr 71 [] rfl rfl ?_
      refine lv_iconst (v := 1) hx hb dX4_readTest_71 (by decide) ?_
      exact ziretQ hQ hx hb hr rfl hlocks ((1 : Int32), u10, q7) rfl ⟨((zI.lit (a := 1) (b := 1) (c := 1) (by decide)).w (c := 0) (d := 1) (by decide)), ju10, (((fw50.tr fu1 rfl).tr fu4 rfl).tr fu10 rfl), (hE.symm.trans hX), trivial⟩ hw hS dX4_readTest_72
    · have hE := zifnF c8 hE
      have k12 : zI 0 0 (v5) := zI.eqq c8 (zI.lit (a := 0) (b := 0) (c := 0) (by decide))
      refine lv_iconst (v := 0) hx hb dX4_readTest_64 (by decide) ?_
      exact ziretQ hQ hx hb hr rfl hlocks ((0 : Int32), r6, q7) rfl ⟨((zI.lit (a := 0) (b := 0) (c := 0) (by decide)).w (c := 0) (d := 1) (by decide)), ju4, ((fw50.tr fu1 rfl).tr fu4 rfl), (hE.symm.trans hX), trivial⟩ hw hS dX4_readTest_65
  have cut33 : ∀ (rw33 : zRr) (qw33 : zRq) (jw33 : kJ rw33) (fw33 : zFr [196, 192, 193] r rw33) (hE : X = Gk_readTest2_33 rw33 qw33), zKf p l e ({ frames := 25, cells := 0, slots := 0, locals := 1040 }) s m a9 below meth c Q D A 33 4 [] (kW ct E y rw33 qw33) [(0, .ref (y 192)), (1, .ref (y 196)), (2, .int 2)] := by
    intro rw33 qw33 jw33 fw33 hE H locs ls hw hS hl
    unfold Gk_readTest2_33 at hE
    refine lv_aload_n hx hb dX4_readTest_33 rfl (lv_at hl 1 rfl) ?_
    refine va_get (D := D) (ci := 8) (v := .ref (E (zn (rw33 196 4)))) hx hb hts hiX9 hown hK hw.1 196 kg196 rfl 4 (by decide) lf36 (fun _ h9 => h9) rfl dX4_readTest_34 (cgenSE (show zI 0 32 (rw33 196 4) from jw33.i 196 4) (fun v13 ev13 hv13 => ?_))
    have hE := zletE ev13 hE
    refine cgets 23 (by decide) hx hb hZ hS hown lf56 dX4_readTest_37 (ztop (.ref (E (zn 23))) rfl ?_)
    refine cxacmp_ne (a := v13) (b := (23 : Int32)) (tgt := 48) hEi hv13 ((zI.lit (a := 23) (b := 23) (c := 23) (by decide)).w (c := 0) (d := 32) (by decide)) hx hb dX4_readTest_40 (by decide) (fun c14 => ?_) (fun c14 => ?_)
    · have hE := zifnT c14 hE
      refine lv_bipush (v := (-9)) hx hb dX4_readTest_48 (by decide) ?_
      exact cut50 (-9) rw33 qw33 ((zI.lit (a := (-9)) (b := (-9)) (c := (-9)) (by decide)).w (c := (-9)) (d := (-2)) (by decide)) jw33 fw33 hE H locs ls hw hS (lv_sub hl [0, 1, 2] rfl)
    · have hE := zifnF c14 hE
      refine lv_bipush (v := (-8)) hx hb dX4_readTest_43 (by decide) ?_
      refine lv_goto (tgt := 50) hx hb dX4_readTest_45 (by decide) ?_
      exact cut50 (-8) rw33 qw33 ((zI.lit (a := (-8)) (b := (-8)) (c := (-8)) (by decide)).w (c := (-9)) (d := (-2)) (by decide)) jw33 fw33 hE H locs ls hw hS (lv_sub hl [0, 1, 2] rfl)
  intro H locs hw hS ls hl
  have hl : lv_has ls 4 [(0, .ref (y 192)), (1, .ref (y 196)), (2, .int 2)] := hl
  have hE := hX
  unfold Gk_readTest2 at hE
  refine lv_aload_n hx hb dX4_readTest_0 rfl (lv_at hl 0 rfl) ?_
  refine lv_aload_n hx hb dX4_readTest_1 rfl (lv_at hl 1 rfl) ?_
  refine lv_iload_n hx hb dX4_readTest_2 rfl (lv_at hl 2 rfl) ?_
  refine kcallV (As := [.ref (y 196), .int 2]) (rest := []) ⟨hx, hb, hml, hown, hts⟩ (kc_readSum2 l D ct E y r q hJ0 hEi) (wqX4_53_kc_readSum2 hts ⟨Nat.le_of_ble_eq_true rfl, Nat.le_of_ble_eq_true rfl⟩) hw hS hA hK hZ hN 4 192 rfl kg192 rfl hl.1 rfl (Nat.le_of_ble_eq_true rfl) dX4_readTest_3 6 rfl (fun u15 H locs pu15 hw hS => ?_)
  obtain ⟨v16, r17, q18⟩ := u15
  have hv16 : zI 0 1 v16 := pu15.1
  have ju15 : kJ r17 := pu15.2.1
  have fu15 : zFr [196, 192, 193] r r17 := pu15.2.2.1
  have xu15 : (v16, r17, q18) = (Gk_readSum2 r q) := pu15.2.2.2.1
  have hE := zc_vrqE xu15 hE
  have hw : zPD D A (kW ct E y r17 q18) H := hw
  refine zfr 6 [.int v16] rfl rfl ?_
  refine lv_if_ne (tgt := 11) hx hb dX4_readTest_6 (by decide) (fun c19 => ?_) (fun c19 => ?_)
  · have hE := zifnT c19 hE
    have k20 : zI 1 1 (v16) := zI.neD c19 hv16 (zI.lit (a := 0) (b := 0) (c := 0) (by decide)) (by decide)
    refine lv_aload_n hx hb dX4_readTest_11 rfl (lv_at hl 1 rfl) ?_
    refine va_get (D := D) (ci := 8) (v := .ref (E (zn (r17 196 4)))) hx hb hts hiX9 hown hK hw.1 196 kg196 rfl 4 (by decide) lf36 (fun _ h9 => h9) rfl dX4_readTest_12 (cgenSE (show zI 0 32 (r17 196 4) from ju15.i 196 4) (fun v21 ev21 hv21 => ?_))
    have hE := zletE ev21 hE
    refine cgets 23 (by decide) hx hb hZ hS hown lf56 dX4_readTest_15 (ztop (.ref (E (zn 23))) rfl ?_)
    refine cxacmp_eq (a := v21) (b := (23 : Int32)) (tgt := 33) hEi hv21 ((zI.lit (a := 23) (b := 23) (c := 23) (by decide)).w (c := 0) (d := 32) (by decide)) hx hb dX4_readTest_18 (by decide) (fun c22 => ?_) (fun c22 => ?_)
    · have hE := zifT c22 hE
      exact cut33 r17 q18 ju15 ((zFr.refl).tr fu15 rfl) hE H locs ls hw hS (lv_sub hl [0, 1, 2] rfl)
    · have hE := zifF c22 hE
      refine lv_aload_n hx hb dX4_readTest_21 rfl (lv_at hl 1 rfl) ?_
      refine va_get (D := D) (ci := 8) (v := .ref (E (zn (r17 196 4)))) hx hb hts hiX9 hown hK hw.1 196 kg196 rfl 4 (by decide) lf36 (fun _ h9 => h9) rfl dX4_readTest_22 (cgenSE (show zI 0 32 (r17 196 4) from ju15.i 196 4) (fun v23 ev23 hv23 => ?_))
      have hE := zletE ev23 hE
      refine cgets 24 (by decide) hx hb hZ hS hown lf59 dX4_readTest_25 (ztop (.ref (E (zn 24))) rfl ?_)
      refine cxacmp_eq (a := v23) (b := (24 : Int32)) (tgt := 33) hEi hv23 ((zI.lit (a := 24) (b := 24) (c := 24) (by decide)).w (c := 0) (d := 32) (by decide)) hx hb dX4_readTest_28 (by decide) (fun c24 => ?_) (fun c24 => ?_)
      · have hE := zifT c24 hE
        exact cut33 r17 q18 ju15 ((zFr.refl).tr fu15 rfl) hE H locs ls hw hS (lv_sub hl [0, 1, 2] rfl)
      · have hE := zifF c24 hE
        refine lv_iconst (v := 1) hx hb dX4_readTest_31 (by decide) ?_
        exact ziretQ hQ hx hb hr rfl hlocks ((1 : Int32), r17, q18) rfl ⟨((zI.lit (a := 1) (b := 1) (c := 1) (by decide)).w (c := 0) (d := 1) (by decide)), ju15, ((zFr.refl).tr fu15 rfl), (hE.symm.trans hX), trivial⟩ hw hS dX4_readTest_32
  · have hE := zifnF c19 hE
    have k25 : zI 0 0 (v16) := zI.eqq c19 (zI.lit (a := 0) (b := 0) (c := 0) (by decide))
    refine lv_iconst (v := 0) hx hb dX4_readTest_9 (by decide) ?_
    exact ziretQ hQ hx hb hr rfl hlocks ((0 : Int32), r17, q18) rfl ⟨((zI.lit (a := 0) (b := 0) (c := 0) (by decide)).w (c := 0) (d := 1) (by decide)), ju15, ((zFr.refl).tr fu15 rfl), (hE.symm.trans hX), trivial⟩ hw hS dX4_readTest_10

set_option maxHeartbeats 4000000 in
set_option maxRecDepth 100000 in
theorem kc_readWhole2 (l : Launch) (D : va_G) (ct : Nat → ClassId) (E : Nat → Nat) (y : Nat → Nat) (r : zRr) (q : zRq) (hJ0 : kJ r) (hEi : kEi E) : cC l yX4_readWhole (.code yX4_readWhole cX4_readWhole 5 (some .boolean) :: wsL_law0) ({ frames := 26, cells := 0, slots := 0, locals := 1080 }) D ct E [.ref (y 192), .ref (y 196), .int 2] (kW ct E y r q) (S := Int32 × zRr × zRq) (fun u => some (.int u.1)) (fun u => zI 0 1 u.1 ∧ kJ u.2.1 ∧ zFr [196, 192, 193] r u.2.1 ∧ u = (Gk_readWhole2 r q) ∧ True) (fun u => kW ct E y u.2.1 u.2.2) := by
  refine cofQ cX4_readWhole 5 (some .boolean) (by decide) rfl (Nat.le_of_ble_eq_true rfl) ?_
  intro p e s m below meth c A a9 Q ha9 hx hb hr hml hts hown hlocks hname hK hA hZ hN hQ
  have hown : s.vm.findClass RX4 = some m.cls := hown
  have hiX9 : ∀ w ∈ wsX90, w ∈ .code yX4_readWhole cX4_readWhole 5 (some .boolean) :: wsL_law0 := fun _ h => ki (zs_wsX90 _ h)
  have lf36 := hts (.fieldLink RX4 36 "BeardPass$Tape" "sort" "LBeardPass$Sort;") (ki (zr18 17 rfl))
  have lf42 := hts (.fieldLink RX4 42 "BeardPass$Sort" "AND" "LBeardPass$Sort;") (ki (zr18 18 rfl))
  have lf47 := hts (.fieldLink RX4 47 "BeardPass$Sort" "OR" "LBeardPass$Sort;") (ki (zr18 19 rfl))
  obtain ⟨X, hX⟩ : ∃ X, X = (Gk_readWhole2 r q) := ⟨_, rfl⟩
  have cut13 : ∀ (n13 : Nat) (w13_3 : Int32) (rw13 : zRr) (qw13 : zRq) (hw13_3 : zI 0 1000 w13_3) (jw13 : kJ rw13) (fw13 : zFr [196, 192, 193] r rw13) (hE : X = Gk_readWhole2_13 n13 w13_3 rw13 qw13), 1000 - w13_3.toInt < (n13 : Int) → zKf p l e ({ frames := 26, cells := 0, slots := 0, locals := 1080 }) s m a9 below meth c Q D A 13 5 [] (kW ct E y rw13 qw13) [(0, .ref (y 192)), (1, .ref (y 196)), (2, .int 2), (3, .int w13_3)] := by
    intro n13
    induction n13 with
    | zero => intro w13_3 rw13 qw13 hw13_3 jw13 fw13 hE hm13; exact zI.no hw13_3 (by decide) hm13
    | succ n13 ih13 =>
      intro w13_3 rw13 qw13 hw13_3 jw13 fw13 hE hm13
      have hE : X = Bk_readWhole2_13 (Gk_readWhole2_13 n13) w13_3 rw13 qw13 := hE
      unfold Bk_readWhole2_13 at hE
      have cut57 : ∀ (w57_s0 : Int32) (hw57_3 : zI 0 999 w13_3) (hw57_s0 : zI (-7) (-2) w57_s0) (hE : X = Gk_readWhole2_57 w13_3 rw13 qw13 (Gk_readWhole2_13 n13) w57_s0), zKf p l e ({ frames := 26, cells := 0, slots := 0, locals := 1080 }) s m a9 below meth c Q D A 57 5 [.int w57_s0] (kW ct E y rw13 qw13) [(0, .ref (y 192)), (1, .ref (y 196)), (2, .int 2), (3, .int w13_3)] := by
        intro w57_s0 hw57_3 hw57_s0 hE H locs ls hw hS hl
        unfold Gk_readWhole2_57 at hE
        refine lv_istore (lv' := [(4, .int w57_s0), (0, .ref (y 192)), (1, .ref (y 196)), (2, .int 2), (3, .int w13_3)]) hx hb dX4_readWhole_57 hl (by decide) rfl (fun ls hl => ?_)
        refine lv_aload_n hx hb dX4_readWhole_59 rfl (lv_at hl 2 rfl) ?_
        refine kcallV (As := []) (rest := []) ⟨hx, hb, hml, hown, hts⟩ (kc_step l D ct E y rw13 qw13 jw13 hEi) (wqX4_50_kc_step hts ⟨Nat.le_of_ble_eq_true rfl, Nat.le_of_ble_eq_true rfl⟩) hw hS hA hK hZ hN 8 196 rfl kg196 rfl hl.1 rfl (Nat.le_of_ble_eq_true rfl) dX4_readWhole_60 63 rfl (fun u1 H locs pu1 hw hS => ?_)
        obtain ⟨r2, q3⟩ := u1
        have ju1 : kJ r2 := pu1.1
        have fu1 : zFr [196] rw13 r2 := pu1.2.1
        have xu1 : (r2, q3) = (Gk_step rw13 qw13) := pu1.2.2.1
        have hE := zc_rqE xu1 hE
        have hw : zPD D A (kW ct E y r2 q3) H := hw
        refine zfr 63 [] rfl rfl ?_
        refine lv_aload_n hx hb dX4_readWhole_63 rfl (lv_at hl 1 rfl) ?_
        refine lv_aload_n hx hb dX4_readWhole_64 rfl (lv_at hl 2 rfl) ?_
        refine lv_iload_n hx hb dX4_readWhole_65 rfl (lv_at hl 3 rfl) ?_
        refine kcallV (As := [.ref (y 196), .int 2]) (rest := []) ⟨hx, hb, hml, hown, hts⟩ (kc_readTest2 l D ct E y r2 q3 ju1 hEi) (wqX4_32_kc_readTest2 hts ⟨Nat.le_of_ble_eq_true rfl, Nat.le_of_ble_eq_true rfl⟩) hw hS hA hK hZ hN 4 192 rfl kg192 rfl hl.1 rfl (Nat.le_of_ble_eq_true rfl) dX4_readWhole_66 69 rfl (fun u4 H locs pu4 hw hS => ?_)
        obtain ⟨v5, r6, q7⟩ := u4
        have hv5 : zI 0 1 v5 := pu4.1
        have ju4 : kJ r6 := pu4.2.1
        have fu4 : zFr [196, 192, 193] r2 r6 := pu4.2.2.1
        have xu4 : (v5, r6, q7) = (Gk_readTest2 r2 q3) := pu4.2.2.2.1
        have hE := zc_vrqE xu4 hE
        have hw : zPD D A (kW ct E y r6 q7) H := hw
        refine zfr 69 [.int v5] rfl rfl ?_
        refine lv_if_ne (tgt := 74) hx hb dX4_readWhole_69 (by decide) (fun c8 => ?_) (fun c8 => ?_)
        · have hE := zifnT c8 hE
          have k9 : zI 1 1 (v5) := zI.neD c8 hv5 (zI.lit (a := 0) (b := 0) (c := 0) (by decide)) (by decide)
          refine lv_aload_n hx hb dX4_readWhole_74 rfl (lv_at hl 1 rfl) ?_
          refine lv_iload hx hb dX4_readWhole_75 (lv_at hl 0 rfl) ?_
          refine kcallV (As := [.int w57_s0]) (rest := []) ⟨hx, hb, hml, hown, hts⟩ (kc_add l D ct E y w57_s0 r6 q7 ju4 hEi) (wqX4_22_kc_add hts ⟨Nat.le_of_ble_eq_true rfl, Nat.le_of_ble_eq_true rfl⟩) hw hS hA hK hZ hN 4 192 rfl kg192 rfl hl.1 rfl (Nat.le_of_ble_eq_true rfl) dX4_readWhole_77 80 rfl (fun u10 H locs pu10 hw hS => ?_)
          have ju10 : kJ u10 := pu10.1
          have fu10 : zFr [192, 193] r6 u10 := pu10.2.1
          have xu10 : u10 = (Gk_add w57_s0 r6 q7) := pu10.2.2.1
          have hE := zletE xu10 hE
          have hw : zPD D A (kW ct E y u10 q7) H := hw
          refine zfr 80 [] rfl rfl ?_
          refine lv_iinc (v := w13_3 + 1) (lv' := [(3, .int (w13_3 + 1)), (4, .int w57_s0), (0, .ref (y 192)), (1, .ref (y 196)), (2, .int 2)]) hx hb dX4_readWhole_80 hl (k := 4) rfl (rfl) (by decide) rfl (fun ls hl => ?_)
          have k12 : zI 1 1000 (w13_3 + 1) := zI.add hw57_3 (zI.lit (a := 1) (b := 1) (by decide)) (by decide)
          refine lv_goto (tgt := 13) hx hb dX4_readWhole_83 (by decide) ?_
          exact ih13 (w13_3 + 1) u10 q7 (k12.w (c := 0) (d := 1000) (by decide)) ju10 (((fw13.tr fu1 rfl).tr fu4 rfl).tr fu10 rfl) hE (zI.up hw57_3 (by decide) hm13) H locs ls hw hS (lv_sub hl [2, 3, 4, 0] rfl)
        · have hE := zifnF c8 hE
          have k13 : zI 0 0 (v5) := zI.eqq c8 (zI.lit (a := 0) (b := 0) (c := 0) (by decide))
          refine lv_iconst (v := 0) hx hb dX4_readWhole_72 (by decide) ?_
          exact ziretQ hQ hx hb hr rfl hlocks ((0 : Int32), r6, q7) rfl ⟨((zI.lit (a := 0) (b := 0) (c := 0) (by decide)).w (c := 0) (d := 1) (by decide)), ju4, ((fw13.tr fu1 rfl).tr fu4 rfl), (hE.symm.trans hX), trivial⟩ hw hS dX4_readWhole_73
      have cut40 : ∀ (hw40_3 : zI 0 999 w13_3) (hE : X = Gk_readWhole2_40 w13_3 rw13 qw13 (Gk_readWhole2_13 n13) ), zKf p l e ({ frames := 26, cells := 0, slots := 0, locals := 1080 }) s m a9 below meth c Q D A 40 5 [] (kW ct E y rw13 qw13) [(0, .ref (y 192)), (1, .ref (y 196)), (2, .int 2), (3, .int w13_3)] := by
        intro hw40_3 hE H locs ls hw hS hl
        unfold Gk_readWhole2_40 at hE
        refine lv_aload_n hx hb dX4_readWhole_40 rfl (lv_at hl 1 rfl) ?_
        refine va_get (D := D) (ci := 8) (v := .ref (E (zn (rw13 196 4)))) hx hb hts hiX9 hown hK hw.1 196 kg196 rfl 4 (by decide) lf36 (fun _ h9 => h9) rfl dX4_readWhole_41 (cgenSE (show zI 0 32 (rw13 196 4) from jw13.i 196 4) (fun v14 ev14 hv14 => ?_))
        have hE := zletE ev14 hE
        refine cgets 19 (by decide) hx hb hZ hS hown lf42 dX4_readWhole_44 (ztop (.ref (E (zn 19))) rfl ?_)
        refine cxacmp_ne (a := v14) (b := (19 : Int32)) (tgt := 55) hEi hv14 ((zI.lit (a := 19) (b := 19) (c := 19) (by decide)).w (c := 0) (d := 32) (by decide)) hx hb dX4_readWhole_47 (by decide) (fun c15 => ?_) (fun c15 => ?_)
        · have hE := zifnT c15 hE
          refine lv_bipush (v := (-7)) hx hb dX4_readWhole_55 (by decide) ?_
          exact cut57 (-7) hw40_3 ((zI.lit (a := (-7)) (b := (-7)) (c := (-7)) (by decide)).w (c := (-7)) (d := (-2)) (by decide)) hE H locs ls hw hS (lv_sub hl [0, 1, 2, 3] rfl)
        · have hE := zifnF c15 hE
          refine lv_bipush (v := (-6)) hx hb dX4_readWhole_50 (by decide) ?_
          refine lv_goto (tgt := 57) hx hb dX4_readWhole_52 (by decide) ?_
          exact cut57 (-6) hw40_3 ((zI.lit (a := (-6)) (b := (-6)) (c := (-6)) (by decide)).w (c := (-7)) (d := (-2)) (by decide)) hE H locs ls hw hS (lv_sub hl [0, 1, 2, 3] rfl)
      intro H locs ls hw hS hl
      refine lv_iload_n hx hb dX4_readWhole_13 rfl (lv_at hl 3 rfl) ?_
      refine lv_sipush (v := 1000) hx hb dX4_readWhole_14 (by decide) ?_
      refine lv_icmp_ge (tgt := 86) hx hb dX4_readWhole_17 (by decide) (fun c16 => ?_) (fun c16 => ?_)
      · have hE := zifT c16 hE
        have k17 : zI 1000 1000 (w13_3) := zI.leD c16 (zI.lit (a := 1000) (b := 1000) (c := 1000) (by decide)) hw13_3 (by decide)
        refine lv_iconst (v := 1) hx hb dX4_readWhole_86 (by decide) ?_
        exact ziretQ hQ hx hb hr rfl hlocks ((1 : Int32), rw13, qw13) rfl ⟨((zI.lit (a := 1) (b := 1) (c := 1) (by decide)).w (c := 0) (d := 1) (by decide)), jw13, fw13, (hE.symm.trans hX), trivial⟩ hw hS dX4_readWhole_87
      · have hE := zifF c16 hE
        have k18 : zI 0 999 (w13_3) := zI.ltU (zI.nle c16) hw13_3 (zI.lit (a := 1000) (b := 1000) (c := 1000) (by decide)) (by decide)
        refine lv_aload_n hx hb dX4_readWhole_20 rfl (lv_at hl 1 rfl) ?_
        refine va_get (D := D) (ci := 8) (v := .ref (E (zn (rw13 196 4)))) hx hb hts hiX9 hown hK hw.1 196 kg196 rfl 4 (by decide) lf36 (fun _ h9 => h9) rfl dX4_readWhole_21 (cgenSE (show zI 0 32 (rw13 196 4) from jw13.i 196 4) (fun v19 ev19 hv19 => ?_))
        have hE := zletE ev19 hE
        refine cgets 19 (by decide) hx hb hZ hS hown lf42 dX4_readWhole_24 (ztop (.ref (E (zn 19))) rfl ?_)
        refine cxacmp_eq (a := v19) (b := (19 : Int32)) (tgt := 40) hEi hv19 ((zI.lit (a := 19) (b := 19) (c := 19) (by decide)).w (c := 0) (d := 32) (by decide)) hx hb dX4_readWhole_27 (by decide) (fun c20 => ?_) (fun c20 => ?_)
        · have hE := zifT c20 hE
          exact cut40 k18 hE H locs ls hw hS (lv_sub hl [0, 1, 2, 3] rfl)
        · have hE := zifF c20 hE
          refine lv_aload_n hx hb dX4_readWhole_30 rfl (lv_at hl 1 rfl) ?_
          refine va_get (D := D) (ci := 8) (v := .ref (E (zn (rw13 196 4)))) hx hb hts hiX9 hown hK hw.1 196 kg196 rfl 4 (by decide) lf36 (fun _ h9 => h9) rfl dX4_readWhole_31 (cgenSE (show zI 0 32 (rw13 196 4) from jw13.i 196 4) (fun v21 ev21 hv21 => ?_))
          have hE := zletE ev21 hE
          refine cgets 20 (by decide) hx hb hZ hS hown lf47 dX4_readWhole_34 (ztop (.ref (E (zn 20))) rfl ?_)
          refine cxacmp_ne (a := v21) (b := (20 : Int32)) (tgt := 86) hEi hv21 ((zI.lit (a := 20) (b := 20) (c := 20) (by decide)).w (c := 0) (d := 32) (by decide)) hx hb dX4_readWhole_37 (by decide) (fun c22 => ?_) (fun c22 => ?_)
          · have hE := zifnT c22 hE
            refine lv_iconst (v := 1) hx hb dX4_readWhole_86 (by decide) ?_
            exact ziretQ hQ hx hb hr rfl hlocks ((1 : Int32), rw13, qw13) rfl ⟨((zI.lit (a := 1) (b := 1) (c := 1) (by decide)).w (c := 0) (d := 1) (by decide)), jw13, fw13, (hE.symm.trans hX), trivial⟩ hw hS dX4_readWhole_87
          · have hE := zifnF c22 hE
            exact cut40 k18 hE H locs ls hw hS (lv_sub hl [0, 1, 2, 3] rfl)
  intro H locs hw hS ls hl
  have hl : lv_has ls 5 [(0, .ref (y 192)), (1, .ref (y 196)), (2, .int 2)] := hl
  have hE := hX
  unfold Gk_readWhole2 at hE
  refine lv_aload_n hx hb dX4_readWhole_0 rfl (lv_at hl 0 rfl) ?_
  refine lv_aload_n hx hb dX4_readWhole_1 rfl (lv_at hl 1 rfl) ?_
  refine lv_iload_n hx hb dX4_readWhole_2 rfl (lv_at hl 2 rfl) ?_
  refine kcallV (As := [.ref (y 196), .int 2]) (rest := []) ⟨hx, hb, hml, hown, hts⟩ (kc_readTest2 l D ct E y r q hJ0 hEi) (wqX4_32_kc_readTest2 hts ⟨Nat.le_of_ble_eq_true rfl, Nat.le_of_ble_eq_true rfl⟩) hw hS hA hK hZ hN 4 192 rfl kg192 rfl hl.1 rfl (Nat.le_of_ble_eq_true rfl) dX4_readWhole_3 6 rfl (fun u23 H locs pu23 hw hS => ?_)
  obtain ⟨v24, r25, q26⟩ := u23
  have hv24 : zI 0 1 v24 := pu23.1
  have ju23 : kJ r25 := pu23.2.1
  have fu23 : zFr [196, 192, 193] r r25 := pu23.2.2.1
  have xu23 : (v24, r25, q26) = (Gk_readTest2 r q) := pu23.2.2.2.1
  have hE := zc_vrqE xu23 hE
  have hw : zPD D A (kW ct E y r25 q26) H := hw
  refine zfr 6 [.int v24] rfl rfl ?_
  refine lv_if_ne (tgt := 11) hx hb dX4_readWhole_6 (by decide) (fun c27 => ?_) (fun c27 => ?_)
  · have hE := zifnT c27 hE
    have k28 : zI 1 1 (v24) := zI.neD c27 hv24 (zI.lit (a := 0) (b := 0) (c := 0) (by decide)) (by decide)
    refine lv_iconst (v := 0) hx hb dX4_readWhole_11 (by decide) ?_
    refine lv_istore_n (lv' := [(3, .int 0), (0, .ref (y 192)), (1, .ref (y 196)), (2, .int 2)]) hx hb dX4_readWhole_12 rfl hl (by decide) rfl (fun ls hl => ?_)
    exact cut13 1001 0 r25 q26 ((zI.lit (a := 0) (b := 0) (c := 0) (by decide)).w (c := 0) (d := 1000) (by decide)) ju23 ((zFr.refl).tr fu23 rfl) hE (zI.m0 (zI.lit (a := 0) (b := 0) (c := 0) (by decide)) (by decide)) H locs ls hw hS (lv_sub hl [1, 2, 3, 0] rfl)
  · have hE := zifnF c27 hE
    have k29 : zI 0 0 (v24) := zI.eqq c27 (zI.lit (a := 0) (b := 0) (c := 0) (by decide))
    refine lv_iconst (v := 0) hx hb dX4_readWhole_9 (by decide) ?_
    exact ziretQ hQ hx hb hr rfl hlocks ((0 : Int32), r25, q26) rfl ⟨((zI.lit (a := 0) (b := 0) (c := 0) (by decide)).w (c := 0) (d := 1) (by decide)), ju23, ((zFr.refl).tr fu23 rfl), (hE.symm.trans hX), trivial⟩ hw hS dX4_readWhole_10

set_option maxHeartbeats 4000000 in
set_option maxRecDepth 100000 in
theorem kc_readPart1 (l : Launch) (D : va_G) (ct : Nat → ClassId) (E : Nat → Nat) (y : Nat → Nat) (r : zRr) (q : zRq) (hJ0 : kJ r) (hEi : kEi E) : cC l yX4_readPart (.code yX4_readPart cX4_readPart 6 (some .boolean) :: wsL_law0) ({ frames := 27, cells := 0, slots := 0, locals := 1120 }) D ct E [.ref (y 192), .ref (y 196), .int 1] (kW ct E y r q) (S := Int32 × zRr × zRq) (fun u => some (.int u.1)) (fun u => zI 0 1 u.1 ∧ kJ u.2.1 ∧ zFr [196, 192, 193] r u.2.1 ∧ u = (Gk_readPart1 r q) ∧ True) (fun u => kW ct E y u.2.1 u.2.2) := by
  refine cofQ cX4_readPart 6 (some .boolean) (by decide) rfl (Nat.le_of_ble_eq_true rfl) ?_
  intro p e s m below meth c A a9 Q ha9 hx hb hr hml hts hown hlocks hname hK hA hZ hN hQ
  have hown : s.vm.findClass RX4 = some m.cls := hown
  have hiX9 : ∀ w ∈ wsX90, w ∈ .code yX4_readPart cX4_readPart 6 (some .boolean) :: wsL_law0 := fun _ h => ki (zs_wsX90 _ h)
  have lf36 := hts (.fieldLink RX4 36 "BeardPass$Tape" "sort" "LBeardPass$Sort;") (ki (zr18 17 rfl))
  have lf77 := hts (.fieldLink RX4 77 "BeardPass$Sort" "OPEN" "LBeardPass$Sort;") (ki (zr19 1 rfl))
  have lf80 := hts (.fieldLink RX4 80 "BeardPass$Sort" "NOT" "LBeardPass$Sort;") (ki (zr19 2 rfl))
  have lf94 := hts (.fieldLink RX4 94 "BeardPass$Sort" "CLOSE" "LBeardPass$Sort;") (ki (zr19 3 rfl))
  obtain ⟨X, hX⟩ : ∃ X, X = (Gk_readPart1 r q) := ⟨_, rfl⟩
  have cut130 : ∀ (w130_5 : Int32) (rw130 : zRr) (qw130 : zRq) (jw130 : kJ rw130) (fw130 : zFr [196, 192, 193] r rw130) (hE : X = Gk_readPart1_130 w130_5 rw130 qw130), zKf p l e ({ frames := 27, cells := 0, slots := 0, locals := 1120 }) s m a9 below meth c Q D A 130 6 [] (kW ct E y rw130 qw130) [(0, .ref (y 192)), (5, .int w130_5)] := by
    intro w130_5 rw130 qw130 jw130 fw130 hE H locs ls hw hS hl
    unfold Gk_readPart1_130 at hE
    refine lv_aload_n hx hb dX4_readPart_130 rfl (lv_at hl 0 rfl) ?_
    refine lv_iload hx hb dX4_readPart_131 (lv_at hl 1 rfl) ?_
    refine kcallV (As := [.int w130_5]) (rest := []) ⟨hx, hb, hml, hown, hts⟩ (kc_add l D ct E y w130_5 rw130 qw130 jw130 hEi) (wqX4_22_kc_add hts ⟨Nat.le_of_ble_eq_true rfl, Nat.le_of_ble_eq_true rfl⟩) hw hS hA hK hZ hN 4 192 rfl kg192 rfl hl.1 rfl (Nat.le_of_ble_eq_true rfl) dX4_readPart_133 136 rfl (fun u1 H locs pu1 hw hS => ?_)
    have ju1 : kJ u1 := pu1.1
    have fu1 : zFr [192, 193] rw130 u1 := pu1.2.1
    have xu1 : u1 = (Gk_add w130_5 rw130 qw130) := pu1.2.2.1
    have hE := zletE xu1 hE
    have hw : zPD D A (kW ct E y u1 qw130) H := hw
    refine zfr 136 [] rfl rfl ?_
    refine lv_iconst (v := 1) hx hb dX4_readPart_136 (by decide) ?_
    exact ziretQ hQ hx hb hr rfl hlocks ((1 : Int32), u1, qw130) rfl ⟨((zI.lit (a := 1) (b := 1) (c := 1) (by decide)).w (c := 0) (d := 1) (by decide)), ju1, (fw130.tr fu1 rfl), (hE.symm.trans hX), trivial⟩ hw hS dX4_readPart_137
  have cut66 : ∀ (w66_3 : Int32) (w66_4 : Int32) (w66_5 : Int32) (hw66_3 : zI 0 1 w66_3) (hw66_4 : zI 0 1 w66_4) (hE : X = Gk_readPart1_66 r q w66_3 w66_4 w66_5), zKf p l e ({ frames := 27, cells := 0, slots := 0, locals := 1120 }) s m a9 below meth c Q D A 66 6 [] (kW ct E y r q) [(0, .ref (y 192)), (1, .ref (y 196)), (2, .int 1), (3, .int w66_3), (4, .int w66_4), (5, .int w66_5)] := by
    intro w66_3 w66_4 w66_5 hw66_3 hw66_4 hE H locs ls hw hS hl
    unfold Gk_readPart1_66 at hE
    refine lv_iload_n hx hb dX4_readPart_66 rfl (lv_at hl 2 rfl) ?_
    refine lv_iconst (v := 5) hx hb dX4_readPart_67 (by decide) ?_
    refine lv_icmp_lt (tgt := 77) hx hb dX4_readPart_68 (by decide) (fun _ => ?_) (fun h => absurd (by decide) h)
    refine lv_aload_n hx hb dX4_readPart_77 rfl (lv_at hl 1 rfl) ?_
    refine kcallV (As := []) (rest := []) ⟨hx, hb, hml, hown, hts⟩ (kc_step l D ct E y r q hJ0 hEi) (wqX4_50_kc_step hts ⟨Nat.le_of_ble_eq_true rfl, Nat.le_of_ble_eq_true rfl⟩) hw hS hA hK hZ hN 8 196 rfl kg196 rfl hl.1 rfl (Nat.le_of_ble_eq_true rfl) dX4_readPart_78 81 rfl (fun u4 H locs pu4 hw hS => ?_)
    obtain ⟨r5, q6⟩ := u4
    have ju4 : kJ r5 := pu4.1
    have fu4 : zFr [196] r r5 := pu4.2.1
    have xu4 : (r5, q6) = (Gk_step r q) := pu4.2.2.1
    have hE := zc_rqE xu4 hE
    have hw : zPD D A (kW ct E y r5 q6) H := hw
    refine zfr 81 [] rfl rfl ?_
    refine lv_iload_n hx hb dX4_readPart_81 rfl (lv_at hl 3 rfl) ?_
    refine lv_if_eq (tgt := 112) hx hb dX4_readPart_82 (by decide) (fun c7 => ?_) (fun c7 => ?_)
    · have hE := zifT c7 hE
      have k8 : zI 0 0 (w66_3) := zI.eqq c7 (zI.lit (a := 0) (b := 0) (c := 0) (by decide))
      refine lv_iload hx hb dX4_readPart_112 (lv_at hl 4 rfl) ?_
      refine lv_if_eq (tgt := 130) hx hb dX4_readPart_114 (by decide) (fun c9 => ?_) (fun c9 => ?_)
      · have hE := zifT c9 hE
        have k10 : zI 0 0 (w66_4) := zI.eqq c9 (zI.lit (a := 0) (b := 0) (c := 0) (by decide))
        exact cut130 w66_5 r5 q6 ju4 ((zFr.refl).tr fu4 rfl) hE H locs ls hw hS (lv_sub hl [0, 5] rfl)
      · have hE := zifF c9 hE
        have k11 : zI 1 1 (w66_4) := zI.neD c9 hw66_4 (zI.lit (a := 0) (b := 0) (c := 0) (by decide)) (by decide)
        refine lv_aload_n hx hb dX4_readPart_117 rfl (lv_at hl 0 rfl) ?_
        refine lv_aload_n hx hb dX4_readPart_118 rfl (lv_at hl 1 rfl) ?_
        refine lv_iload_n hx hb dX4_readPart_119 rfl (lv_at hl 2 rfl) ?_
        refine lv_iconst (v := 1) hx hb dX4_readPart_120 (by decide) ?_
        refine lv_iadd hx hb dX4_readPart_121 (ztop (.int 2) (congrArg Value.int (by decide)) ?_)
        refine kcallV (As := [.ref (y 196), .int 2]) (rest := []) ⟨hx, hb, hml, hown, hts⟩ (kc_readPart2 l D ct E y r5 q6 ju4 hEi) (wqX4_71_kc_readPart2 hts ⟨Nat.le_of_ble_eq_true rfl, Nat.le_of_ble_eq_true rfl⟩) hw hS hA hK hZ hN 4 192 rfl kg192 rfl hl.1 rfl (Nat.le_of_ble_eq_true rfl) dX4_readPart_122 125 rfl (fun u12 H locs pu12 hw hS => ?_)
        obtain ⟨v13, r14, q15⟩ := u12
        have hv13 : zI 0 1 v13 := pu12.1
        have ju12 : kJ r14 := pu12.2.1
        have fu12 : zFr [196, 192, 193] r5 r14 := pu12.2.2.1
        have xu12 : (v13, r14, q15) = (Gk_readPart2 r5 q6) := pu12.2.2.2.1
        have hE := zc_vrqE xu12 hE
        have hw : zPD D A (kW ct E y r14 q15) H := hw
        refine zfr 125 [.int v13] rfl rfl ?_
        refine lv_if_ne (tgt := 130) hx hb dX4_readPart_125 (by decide) (fun c16 => ?_) (fun c16 => ?_)
        · have hE := zifnT c16 hE
          have k17 : zI 1 1 (v13) := zI.neD c16 hv13 (zI.lit (a := 0) (b := 0) (c := 0) (by decide)) (by decide)
          exact cut130 w66_5 r14 q15 ju12 (((zFr.refl).tr fu4 rfl).tr fu12 rfl) hE H locs ls hw hS (lv_sub hl [0, 5] rfl)
        · have hE := zifnF c16 hE
          have k18 : zI 0 0 (v13) := zI.eqq c16 (zI.lit (a := 0) (b := 0) (c := 0) (by decide))
          refine lv_iconst (v := 0) hx hb dX4_readPart_128 (by decide) ?_
          exact ziretQ hQ hx hb hr rfl hlocks ((0 : Int32), r14, q15) rfl ⟨((zI.lit (a := 0) (b := 0) (c := 0) (by decide)).w (c := 0) (d := 1) (by decide)), ju12, (((zFr.refl).tr fu4 rfl).tr fu12 rfl), (hE.symm.trans hX), trivial⟩ hw hS dX4_readPart_129
    · have hE := zifF c7 hE
      have k19 : zI 1 1 (w66_3) := zI.neD c7 hw66_3 (zI.lit (a := 0) (b := 0) (c := 0) (by decide)) (by decide)
      refine lv_aload_n hx hb dX4_readPart_85 rfl (lv_at hl 0 rfl) ?_
      refine lv_aload_n hx hb dX4_readPart_86 rfl (lv_at hl 1 rfl) ?_
      refine lv_iload_n hx hb dX4_readPart_87 rfl (lv_at hl 2 rfl) ?_
      refine lv_iconst (v := 1) hx hb dX4_readPart_88 (by decide) ?_
      refine lv_iadd hx hb dX4_readPart_89 (ztop (.int 2) (congrArg Value.int (by decide)) ?_)
      refine kcallV (As := [.ref (y 196), .int 2]) (rest := []) ⟨hx, hb, hml, hown, hts⟩ (kc_readWhole2 l D ct E y r5 q6 ju4 hEi) (wqX4_91_kc_readWhole2 hts ⟨Nat.le_of_ble_eq_true rfl, Nat.le_of_ble_eq_true rfl⟩) hw hS hA hK hZ hN 4 192 rfl kg192 rfl hl.1 rfl (Nat.le_of_ble_eq_true rfl) dX4_readPart_90 93 rfl (fun u20 H locs pu20 hw hS => ?_)
      obtain ⟨v21, r22, q23⟩ := u20
      have hv21 : zI 0 1 v21 := pu20.1
      have ju20 : kJ r22 := pu20.2.1
      have fu20 : zFr [196, 192, 193] r5 r22 := pu20.2.2.1
      have xu20 : (v21, r22, q23) = (Gk_readWhole2 r5 q6) := pu20.2.2.2.1
      have hE := zc_vrqE xu20 hE
      have hw : zPD D A (kW ct E y r22 q23) H := hw
      refine zfr 93 [.int v21] rfl rfl ?_
      refine lv_if_eq (tgt := 110) hx hb dX4_readPart_93 (by decide) (fun c24 => ?_) (fun c24 => ?_)
      · have hE := zifT c24 hE
        have k25 : zI 0 0 (v21) := zI.eqq c24 (zI.lit (a := 0) (b := 0) (c := 0) (by decide))
        refine lv_iconst (v := 0) hx hb dX4_readPart_110 (by decide) ?_
        exact ziretQ hQ hx hb hr rfl hlocks ((0 : Int32), r22, q23) rfl ⟨((zI.lit (a := 0) (b := 0) (c := 0) (by decide)).w (c := 0) (d := 1) (by decide)), ju20, (((zFr.refl).tr fu4 rfl).tr fu20 rfl), (hE.symm.trans hX), trivial⟩ hw hS dX4_readPart_111
      · have hE := zifF c24 hE
        have k26 : zI 1 1 (v21) := zI.neD c24 hv21 (zI.lit (a := 0) (b := 0) (c := 0) (by decide)) (by decide)
        refine lv_aload_n hx hb dX4_readPart_96 rfl (lv_at hl 1 rfl) ?_
        refine cgets 22 (by decide) hx hb hZ hS hown lf94 dX4_readPart_97 (ztop (.ref (E (zn 22))) rfl ?_)
        refine kcallV (As := [.ref (E (zn 22))]) (rest := []) ⟨hx, hb, hml, hown, hts⟩ (kc_take l D ct E y 22 r22 q23 ((zI.lit (a := 22) (b := 22) (c := 22) (by decide)).w (c := 0) (d := 32) (by decide)) ju20 hEi) (wqX4_97_kc_take hts ⟨Nat.le_of_ble_eq_true rfl, Nat.le_of_ble_eq_true rfl⟩) hw hS hA hK hZ hN 8 196 rfl kg196 rfl hl.1 rfl (Nat.le_of_ble_eq_true rfl) dX4_readPart_100 103 rfl (fun u27 H locs pu27 hw hS => ?_)
        obtain ⟨v28, r29, q30⟩ := u27
        have hv28 : zI 0 1 v28 := pu27.1
        have ju27 : kJ r29 := pu27.2.1
        have fu27 : zFr [196] r22 r29 := pu27.2.2.1
        have xu27 : (v28, r29, q30) = (Gk_take 22 r22 q23) := pu27.2.2.2.1
        have hE := zc_vrqE xu27 hE
        have hw : zPD D A (kW ct E y r29 q30) H := hw
        refine zfr 103 [.int v28] rfl rfl ?_
        refine lv_if_eq (tgt := 110) hx hb dX4_readPart_103 (by decide) (fun c31 => ?_) (fun c31 => ?_)
        · have hE := zifT c31 hE
          have k32 : zI 0 0 (v28) := zI.eqq c31 (zI.lit (a := 0) (b := 0) (c := 0) (by decide))
          refine lv_iconst (v := 0) hx hb dX4_readPart_110 (by decide) ?_
          exact ziretQ hQ hx hb hr rfl hlocks ((0 : Int32), r29, q30) rfl ⟨((zI.lit (a := 0) (b := 0) (c := 0) (by decide)).w (c := 0) (d := 1) (by decide)), ju27, ((((zFr.refl).tr fu4 rfl).tr fu20 rfl).tr fu27 rfl), (hE.symm.trans hX), trivial⟩ hw hS dX4_readPart_111
        · have hE := zifF c31 hE
          have k33 : zI 1 1 (v28) := zI.neD c31 hv28 (zI.lit (a := 0) (b := 0) (c := 0) (by decide)) (by decide)
          refine lv_iconst (v := 1) hx hb dX4_readPart_106 (by decide) ?_
          refine lv_goto (tgt := 111) hx hb dX4_readPart_107 (by decide) ?_
          exact ziretQ hQ hx hb hr rfl hlocks ((1 : Int32), r29, q30) rfl ⟨((zI.lit (a := 1) (b := 1) (c := 1) (by decide)).w (c := 0) (d := 1) (by decide)), ju27, ((((zFr.refl).tr fu4 rfl).tr fu20 rfl).tr fu27 rfl), (hE.symm.trans hX), trivial⟩ hw hS dX4_readPart_111
  have cut47 : ∀ (w47_3 : Int32) (w47_4 : Int32) (w47_s0 : Int32) (hw47_3 : zI 0 1 w47_3) (hw47_4 : zI 0 1 w47_4) (hE : X = Gk_readPart1_47 r q w47_3 w47_4 w47_s0), zKf p l e ({ frames := 27, cells := 0, slots := 0, locals := 1120 }) s m a9 below meth c Q D A 47 6 [.int w47_s0] (kW ct E y r q) [(0, .ref (y 192)), (1, .ref (y 196)), (2, .int 1), (3, .int w47_3), (4, .int w47_4)] := by
    intro w47_3 w47_4 w47_s0 hw47_3 hw47_4 hE H locs ls hw hS hl
    unfold Gk_readPart1_47 at hE
    refine lv_istore (lv' := [(5, .int w47_s0), (0, .ref (y 192)), (1, .ref (y 196)), (2, .int 1), (3, .int w47_3), (4, .int w47_4)]) hx hb dX4_readPart_47 hl (by decide) rfl (fun ls hl => ?_)
    refine lv_iload_n hx hb dX4_readPart_49 rfl (lv_at hl 4 rfl) ?_
    refine lv_if_ne (tgt := 66) hx hb dX4_readPart_50 (by decide) (fun c34 => ?_) (fun c34 => ?_)
    · have hE := zifnT c34 hE
      have k35 : zI 1 1 (w47_3) := zI.neD c34 hw47_3 (zI.lit (a := 0) (b := 0) (c := 0) (by decide)) (by decide)
      exact cut66 w47_3 w47_4 w47_s0 (k35.w (c := 0) (d := 1) (by decide)) hw47_4 hE H locs ls hw hS (lv_sub hl [1, 2, 3, 4, 5, 0] rfl)
    · have hE := zifnF c34 hE
      have k36 : zI 0 0 (w47_3) := zI.eqq c34 (zI.lit (a := 0) (b := 0) (c := 0) (by decide))
      refine lv_iload hx hb dX4_readPart_53 (lv_at hl 0 rfl) ?_
      refine lv_bipush (v := (-13)) hx hb dX4_readPart_55 (by decide) ?_
      refine lv_icmp_ne (tgt := 66) hx hb dX4_readPart_57 (by decide) (fun c37 => ?_) (fun c37 => ?_)
      · have hE := zifnT c37 hE
        exact cut66 w47_3 w47_4 w47_s0 (k36.w (c := 0) (d := 1) (by decide)) hw47_4 hE H locs ls hw hS (lv_sub hl [1, 2, 3, 4, 5, 0] rfl)
      · have hE := zifnF c37 hE
        have k38 : zI (-13) (-13) (w47_s0) := zI.eqq c37 (zI.lit (a := (-13)) (b := (-13)) (c := (-13)) (by decide))
        refine lv_aload_n hx hb dX4_readPart_60 rfl (lv_at hl 2 rfl) ?_
        refine lv_iconst (v := 1) hx hb dX4_readPart_61 (by decide) ?_
        refine kcallV (As := [.int 1]) (rest := []) ⟨hx, hb, hml, hown, hts⟩ (kc_wrong l D ct E y (1 : Int32) r q hJ0 hEi) (wqX4_87_kc_wrong hts ⟨Nat.le_of_ble_eq_true rfl, Nat.le_of_ble_eq_true rfl⟩) hw hS hA hK hZ hN 8 196 rfl kg196 rfl hl.1 rfl (Nat.le_of_ble_eq_true rfl) dX4_readPart_62 65 rfl (fun u39 H locs pu39 hw hS => ?_)
        obtain ⟨v40, r41⟩ := u39
        have hv40 : zI 0 0 v40 := pu39.1
        have ju39 : kJ r41 := pu39.2.1
        have fu39 : zFr [196] r r41 := pu39.2.2.1
        have xu39 : (v40, r41) = (Gk_wrong (1 : Int32) r q) := pu39.2.2.2.1
        have hE := zc_vrE xu39 hE
        have hw : zPD D A (kW ct E y r41 q) H := hw
        refine zfr 65 [.int v40] rfl rfl ?_
        exact ziretQ hQ hx hb hr ((hv40.w (c := 0) (d := 1) (by decide)).rn) hlocks (v40, r41, q) rfl ⟨(hv40.w (c := 0) (d := 1) (by decide)), ju39, ((zFr.refl).tr fu39 rfl), (hE.symm.trans hX), trivial⟩ hw hS dX4_readPart_65
  have cut31 : ∀ (w31_3 : Int32) (w31_s0 : Int32) (hw31_3 : zI 0 1 w31_3) (hw31_s0 : zI 0 1 w31_s0) (hE : X = Gk_readPart1_31 r q w31_3 w31_s0), zKf p l e ({ frames := 27, cells := 0, slots := 0, locals := 1120 }) s m a9 below meth c Q D A 31 6 [.int w31_s0] (kW ct E y r q) [(0, .ref (y 192)), (1, .ref (y 196)), (2, .int 1), (3, .int w31_3)] := by
    intro w31_3 w31_s0 hw31_3 hw31_s0 hE H locs ls hw hS hl
    unfold Gk_readPart1_31 at hE
    refine lv_istore (lv' := [(4, .int w31_s0), (0, .ref (y 192)), (1, .ref (y 196)), (2, .int 1), (3, .int w31_3)]) hx hb dX4_readPart_31 hl (by decide) rfl (fun ls hl => ?_)
    refine lv_iload hx hb dX4_readPart_33 (lv_at hl 0 rfl) ?_
    refine lv_if_eq (tgt := 43) hx hb dX4_readPart_35 (by decide) (fun c42 => ?_) (fun c42 => ?_)
    · have hE := zifT c42 hE
      have k43 : zI 0 0 (w31_s0) := zI.eqq c42 (zI.lit (a := 0) (b := 0) (c := 0) (by decide))
      refine lv_aload_n hx hb dX4_readPart_43 rfl (lv_at hl 2 rfl) ?_
      refine zcallW (va_runS (As := [.ref (y 196)]) (rest := []) ⟨hx, hb, hml, hown, hts⟩ (kc_valueHere l D ct E y r q hJ0 hEi H.size) (va_cwS 1 hts (kgS (zr19 4 rfl) (zr19 5 rfl) (zr4 12 rfl) (zr19 6 rfl)) rfl rfl rfl (by decide +kernel) ⟨Nat.le_of_ble_eq_true rfl, Nat.le_of_ble_eq_true rfl⟩) (cpreS hK hw hS hA hZ hN (List.range (kW ct E y r q).length) kWn (zrange _)) rfl rfl hl.1 rfl (lv_room (Nat.le_of_ble_eq_true rfl)) dX4_readPart_44 ⟨Nat.le_of_ble_eq_true rfl, Nat.le_of_ble_eq_true rfl⟩) hw hS hA 47 rfl (fun u44 H locs pu44 hw hS => ?_)
      have hu44 : zI (-2147483648) 2147483647 u44 := pu44.1
      have xu44 : u44 = (Gk_valueHere r q) := pu44.2.1
      have hE := zletE xu44 hE
      have hw : zPD D A (kW ct E y r q) H := hw
      refine zfr 47 [.int u44] rfl rfl ?_
      exact cut47 w31_3 w31_s0 u44 hw31_3 (k43.w (c := 0) (d := 1) (by decide)) hE H locs ls hw hS (lv_sub hl [1, 2, 3, 4, 0] rfl)
    · have hE := zifF c42 hE
      have k46 : zI 1 1 (w31_s0) := zI.neD c42 hw31_s0 (zI.lit (a := 0) (b := 0) (c := 0) (by decide)) (by decide)
      refine lv_bipush (v := (-5)) hx hb dX4_readPart_38 (by decide) ?_
      refine lv_goto (tgt := 47) hx hb dX4_readPart_40 (by decide) ?_
      exact cut47 w31_3 w31_s0 (-5) hw31_3 (k46.w (c := 0) (d := 1) (by decide)) hE H locs ls hw hS (lv_sub hl [1, 2, 3, 4, 0] rfl)
  have cut15 : ∀ (w15_s0 : Int32) (hw15_s0 : zI 0 1 w15_s0) (hE : X = Gk_readPart1_15 r q w15_s0), zKf p l e ({ frames := 27, cells := 0, slots := 0, locals := 1120 }) s m a9 below meth c Q D A 15 6 [.int w15_s0] (kW ct E y r q) [(0, .ref (y 192)), (1, .ref (y 196)), (2, .int 1)] := by
    intro w15_s0 hw15_s0 hE H locs ls hw hS hl
    unfold Gk_readPart1_15 at hE
    refine lv_istore_n (lv' := [(3, .int w15_s0), (0, .ref (y 192)), (1, .ref (y 196)), (2, .int 1)]) hx hb dX4_readPart_15 rfl hl (by decide) rfl (fun ls hl => ?_)
    refine lv_aload_n hx hb dX4_readPart_16 rfl (lv_at hl 2 rfl) ?_
    refine va_get (D := D) (ci := 8) (v := .ref (E (zn (r 196 4)))) hx hb hts hiX9 hown hK hw.1 196 kg196 rfl 4 (by decide) lf36 (fun _ h9 => h9) rfl dX4_readPart_17 (cgenSE (show zI 0 32 (r 196 4) from hJ0.i 196 4) (fun v47 ev47 hv47 => ?_))
    have hE := zletE ev47 hE
    refine cgets 18 (by decide) hx hb hZ hS hown lf80 dX4_readPart_20 (ztop (.ref (E (zn 18))) rfl ?_)
    refine cxacmp_ne (a := v47) (b := (18 : Int32)) (tgt := 30) hEi hv47 ((zI.lit (a := 18) (b := 18) (c := 18) (by decide)).w (c := 0) (d := 32) (by decide)) hx hb dX4_readPart_23 (by decide) (fun c48 => ?_) (fun c48 => ?_)
    · have hE := zifnT c48 hE
      refine lv_iconst (v := 0) hx hb dX4_readPart_30 (by decide) ?_
      exact cut31 w15_s0 0 hw15_s0 ((zI.lit (a := 0) (b := 0) (c := 0) (by decide)).w (c := 0) (d := 1) (by decide)) hE H locs ls hw hS (lv_sub hl [1, 2, 3, 0] rfl)
    · have hE := zifnF c48 hE
      refine lv_iconst (v := 1) hx hb dX4_readPart_26 (by decide) ?_
      refine lv_goto (tgt := 31) hx hb dX4_readPart_27 (by decide) ?_
      exact cut31 w15_s0 1 hw15_s0 ((zI.lit (a := 1) (b := 1) (c := 1) (by decide)).w (c := 0) (d := 1) (by decide)) hE H locs ls hw hS (lv_sub hl [1, 2, 3, 0] rfl)
  intro H locs hw hS ls hl
  have hl : lv_has ls 6 [(0, .ref (y 192)), (1, .ref (y 196)), (2, .int 1)] := hl
  have hE := hX
  unfold Gk_readPart1 at hE
  refine lv_aload_n hx hb dX4_readPart_0 rfl (lv_at hl 1 rfl) ?_
  refine va_get (D := D) (ci := 8) (v := .ref (E (zn (r 196 4)))) hx hb hts hiX9 hown hK hw.1 196 kg196 rfl 4 (by decide) lf36 (fun _ h9 => h9) rfl dX4_readPart_1 (cgenSE (show zI 0 32 (r 196 4) from hJ0.i 196 4) (fun v49 ev49 hv49 => ?_))
  have hE := zletE ev49 hE
  refine cgets 21 (by decide) hx hb hZ hS hown lf77 dX4_readPart_4 (ztop (.ref (E (zn 21))) rfl ?_)
  refine cxacmp_ne (a := v49) (b := (21 : Int32)) (tgt := 14) hEi hv49 ((zI.lit (a := 21) (b := 21) (c := 21) (by decide)).w (c := 0) (d := 32) (by decide)) hx hb dX4_readPart_7 (by decide) (fun c50 => ?_) (fun c50 => ?_)
  · have hE := zifnT c50 hE
    refine lv_iconst (v := 0) hx hb dX4_readPart_14 (by decide) ?_
    exact cut15 0 ((zI.lit (a := 0) (b := 0) (c := 0) (by decide)).w (c := 0) (d := 1) (by decide)) hE H locs ls hw hS (lv_sub hl [0, 1, 2] rfl)
  · have hE := zifnF c50 hE
    refine lv_iconst (v := 1) hx hb dX4_readPart_10 (by decide) ?_
    refine lv_goto (tgt := 15) hx hb dX4_readPart_11 (by decide) ?_
    exact cut15 1 ((zI.lit (a := 1) (b := 1) (c := 1) (by decide)).w (c := 0) (d := 1) (by decide)) hE H locs ls hw hS (lv_sub hl [0, 1, 2] rfl)

set_option maxHeartbeats 4000000 in
set_option maxRecDepth 100000 in
theorem kc_readProduct1 (l : Launch) (D : va_G) (ct : Nat → ClassId) (E : Nat → Nat) (y : Nat → Nat) (r : zRr) (q : zRq) (hJ0 : kJ r) (hEi : kEi E) : cC l yX4_readProduct (.code yX4_readProduct cX4_readProduct 4 (some .boolean) :: wsL_law0) ({ frames := 28, cells := 0, slots := 0, locals := 1160 }) D ct E [.ref (y 192), .ref (y 196), .int 1] (kW ct E y r q) (S := Int32 × zRr × zRq) (fun u => some (.int u.1)) (fun u => zI 0 1 u.1 ∧ kJ u.2.1 ∧ zFr [196, 192, 193] r u.2.1 ∧ u = (Gk_readProduct1 r q) ∧ True) (fun u => kW ct E y u.2.1 u.2.2) := by
  refine cofQ cX4_readProduct 4 (some .boolean) (by decide) rfl (Nat.le_of_ble_eq_true rfl) ?_
  intro p e s m below meth c A a9 Q ha9 hx hb hr hml hts hown hlocks hname hK hA hZ hN hQ
  have hown : s.vm.findClass RX4 = some m.cls := hown
  have hiX9 : ∀ w ∈ wsX90, w ∈ .code yX4_readProduct cX4_readProduct 4 (some .boolean) :: wsL_law0 := fun _ h => ki (zs_wsX90 _ h)
  have lf36 := hts (.fieldLink RX4 36 "BeardPass$Tape" "sort" "LBeardPass$Sort;") (ki (zr18 17 rfl))
  have lf74 := hts (.fieldLink RX4 74 "BeardPass$Sort" "TIMES" "LBeardPass$Sort;") (ki (zr19 18 rfl))
  obtain ⟨X, hX⟩ : ∃ X, X = (Gk_readProduct1 r q) := ⟨_, rfl⟩
  have cut13 : ∀ (n13 : Nat) (w13_3 : Int32) (rw13 : zRr) (qw13 : zRq) (hw13_3 : zI 0 1000 w13_3) (jw13 : kJ rw13) (fw13 : zFr [196, 192, 193] r rw13) (hE : X = Gk_readProduct1_13 n13 w13_3 rw13 qw13), 1000 - w13_3.toInt < (n13 : Int) → zKf p l e ({ frames := 28, cells := 0, slots := 0, locals := 1160 }) s m a9 below meth c Q D A 13 4 [] (kW ct E y rw13 qw13) [(0, .ref (y 192)), (1, .ref (y 196)), (2, .int 1), (3, .int w13_3)] := by
    intro n13
    induction n13 with
    | zero => intro w13_3 rw13 qw13 hw13_3 jw13 fw13 hE hm13; exact zI.no hw13_3 (by decide) hm13
    | succ n13 ih13 =>
      intro w13_3 rw13 qw13 hw13_3 jw13 fw13 hE hm13
      have hE : X = Bk_readProduct1_13 (Gk_readProduct1_13 n13) w13_3 rw13 qw13 := hE
      unfold Bk_readProduct1_13 at hE
      intro H locs ls hw hS hl
      refine lv_iload_n hx hb dX4_readProduct_13 rfl (lv_at hl 3 rfl) ?_
      refine lv_sipush (v := 1000) hx hb dX4_readProduct_14 (by decide) ?_
      refine lv_icmp_ge (tgt := 57) hx hb dX4_readProduct_17 (by decide) (fun c1 => ?_) (fun c1 => ?_)
      · have hE := zifT c1 hE
        have k2 : zI 1000 1000 (w13_3) := zI.leD c1 (zI.lit (a := 1000) (b := 1000) (c := 1000) (by decide)) hw13_3 (by decide)
        refine lv_iconst (v := 1) hx hb dX4_readProduct_57 (by decide) ?_
        exact ziretQ hQ hx hb hr rfl hlocks ((1 : Int32), rw13, qw13) rfl ⟨((zI.lit (a := 1) (b := 1) (c := 1) (by decide)).w (c := 0) (d := 1) (by decide)), jw13, fw13, (hE.symm.trans hX), trivial⟩ hw hS dX4_readProduct_58
      · have hE := zifF c1 hE
        have k3 : zI 0 999 (w13_3) := zI.ltU (zI.nle c1) hw13_3 (zI.lit (a := 1000) (b := 1000) (c := 1000) (by decide)) (by decide)
        refine lv_aload_n hx hb dX4_readProduct_20 rfl (lv_at hl 1 rfl) ?_
        refine va_get (D := D) (ci := 8) (v := .ref (E (zn (rw13 196 4)))) hx hb hts hiX9 hown hK hw.1 196 kg196 rfl 4 (by decide) lf36 (fun _ h9 => h9) rfl dX4_readProduct_21 (cgenSE (show zI 0 32 (rw13 196 4) from jw13.i 196 4) (fun v4 ev4 hv4 => ?_))
        have hE := zletE ev4 hE
        refine cgets 27 (by decide) hx hb hZ hS hown lf74 dX4_readProduct_24 (ztop (.ref (E (zn 27))) rfl ?_)
        refine cxacmp_ne (a := v4) (b := (27 : Int32)) (tgt := 57) hEi hv4 ((zI.lit (a := 27) (b := 27) (c := 27) (by decide)).w (c := 0) (d := 32) (by decide)) hx hb dX4_readProduct_27 (by decide) (fun c5 => ?_) (fun c5 => ?_)
        · have hE := zifnT c5 hE
          refine lv_iconst (v := 1) hx hb dX4_readProduct_57 (by decide) ?_
          exact ziretQ hQ hx hb hr rfl hlocks ((1 : Int32), rw13, qw13) rfl ⟨((zI.lit (a := 1) (b := 1) (c := 1) (by decide)).w (c := 0) (d := 1) (by decide)), jw13, fw13, (hE.symm.trans hX), trivial⟩ hw hS dX4_readProduct_58
        · have hE := zifnF c5 hE
          refine lv_aload_n hx hb dX4_readProduct_30 rfl (lv_at hl 1 rfl) ?_
          refine kcallV (As := []) (rest := []) ⟨hx, hb, hml, hown, hts⟩ (kc_step l D ct E y rw13 qw13 jw13 hEi) (wqX4_50_kc_step hts ⟨Nat.le_of_ble_eq_true rfl, Nat.le_of_ble_eq_true rfl⟩) hw hS hA hK hZ hN 8 196 rfl kg196 rfl hl.1 rfl (Nat.le_of_ble_eq_true rfl) dX4_readProduct_31 34 rfl (fun u6 H locs pu6 hw hS => ?_)
          obtain ⟨r7, q8⟩ := u6
          have ju6 : kJ r7 := pu6.1
          have fu6 : zFr [196] rw13 r7 := pu6.2.1
          have xu6 : (r7, q8) = (Gk_step rw13 qw13) := pu6.2.2.1
          have hE := zc_rqE xu6 hE
          have hw : zPD D A (kW ct E y r7 q8) H := hw
          refine zfr 34 [] rfl rfl ?_
          refine lv_aload_n hx hb dX4_readProduct_34 rfl (lv_at hl 0 rfl) ?_
          refine lv_aload_n hx hb dX4_readProduct_35 rfl (lv_at hl 1 rfl) ?_
          refine lv_iload_n hx hb dX4_readProduct_36 rfl (lv_at hl 2 rfl) ?_
          refine kcallV (As := [.ref (y 196), .int 1]) (rest := []) ⟨hx, hb, hml, hown, hts⟩ (kc_readPart1 l D ct E y r7 q8 ju6 hEi) (wqX4_71_kc_readPart1 hts ⟨Nat.le_of_ble_eq_true rfl, Nat.le_of_ble_eq_true rfl⟩) hw hS hA hK hZ hN 4 192 rfl kg192 rfl hl.1 rfl (Nat.le_of_ble_eq_true rfl) dX4_readProduct_37 40 rfl (fun u9 H locs pu9 hw hS => ?_)
          obtain ⟨v10, r11, q12⟩ := u9
          have hv10 : zI 0 1 v10 := pu9.1
          have ju9 : kJ r11 := pu9.2.1
          have fu9 : zFr [196, 192, 193] r7 r11 := pu9.2.2.1
          have xu9 : (v10, r11, q12) = (Gk_readPart1 r7 q8) := pu9.2.2.2.1
          have hE := zc_vrqE xu9 hE
          have hw : zPD D A (kW ct E y r11 q12) H := hw
          refine zfr 40 [.int v10] rfl rfl ?_
          refine lv_if_ne (tgt := 45) hx hb dX4_readProduct_40 (by decide) (fun c13 => ?_) (fun c13 => ?_)
          · have hE := zifnT c13 hE
            have k14 : zI 1 1 (v10) := zI.neD c13 hv10 (zI.lit (a := 0) (b := 0) (c := 0) (by decide)) (by decide)
            refine lv_aload_n hx hb dX4_readProduct_45 rfl (lv_at hl 0 rfl) ?_
            refine lv_bipush (v := (-12)) hx hb dX4_readProduct_46 (by decide) ?_
            refine kcallV (As := [.int (-12)]) (rest := []) ⟨hx, hb, hml, hown, hts⟩ (kc_add l D ct E y ((-12) : Int32) r11 q12 ju9 hEi) (wqX4_22_kc_add hts ⟨Nat.le_of_ble_eq_true rfl, Nat.le_of_ble_eq_true rfl⟩) hw hS hA hK hZ hN 4 192 rfl kg192 rfl hl.1 rfl (Nat.le_of_ble_eq_true rfl) dX4_readProduct_48 51 rfl (fun u15 H locs pu15 hw hS => ?_)
            have ju15 : kJ u15 := pu15.1
            have fu15 : zFr [192, 193] r11 u15 := pu15.2.1
            have xu15 : u15 = (Gk_add ((-12) : Int32) r11 q12) := pu15.2.2.1
            have hE := zletE xu15 hE
            have hw : zPD D A (kW ct E y u15 q12) H := hw
            refine zfr 51 [] rfl rfl ?_
            refine lv_iinc (v := w13_3 + 1) (lv' := [(3, .int (w13_3 + 1)), (0, .ref (y 192)), (1, .ref (y 196)), (2, .int 1)]) hx hb dX4_readProduct_51 hl (k := 3) rfl (rfl) (by decide) rfl (fun ls hl => ?_)
            have k17 : zI 1 1000 (w13_3 + 1) := zI.add k3 (zI.lit (a := 1) (b := 1) (by decide)) (by decide)
            refine lv_goto (tgt := 13) hx hb dX4_readProduct_54 (by decide) ?_
            exact ih13 (w13_3 + 1) u15 q12 (k17.w (c := 0) (d := 1000) (by decide)) ju15 (((fw13.tr fu6 rfl).tr fu9 rfl).tr fu15 rfl) hE (zI.up k3 (by decide) hm13) H locs ls hw hS (lv_sub hl [1, 2, 3, 0] rfl)
          · have hE := zifnF c13 hE
            have k18 : zI 0 0 (v10) := zI.eqq c13 (zI.lit (a := 0) (b := 0) (c := 0) (by decide))
            refine lv_iconst (v := 0) hx hb dX4_readProduct_43 (by decide) ?_
            exact ziretQ hQ hx hb hr rfl hlocks ((0 : Int32), r11, q12) rfl ⟨((zI.lit (a := 0) (b := 0) (c := 0) (by decide)).w (c := 0) (d := 1) (by decide)), ju9, ((fw13.tr fu6 rfl).tr fu9 rfl), (hE.symm.trans hX), trivial⟩ hw hS dX4_readProduct_44
  intro H locs hw hS ls hl
  have hl : lv_has ls 4 [(0, .ref (y 192)), (1, .ref (y 196)), (2, .int 1)] := hl
  have hE := hX
  unfold Gk_readProduct1 at hE
  refine lv_aload_n hx hb dX4_readProduct_0 rfl (lv_at hl 0 rfl) ?_
  refine lv_aload_n hx hb dX4_readProduct_1 rfl (lv_at hl 1 rfl) ?_
  refine lv_iload_n hx hb dX4_readProduct_2 rfl (lv_at hl 2 rfl) ?_
  refine kcallV (As := [.ref (y 196), .int 1]) (rest := []) ⟨hx, hb, hml, hown, hts⟩ (kc_readPart1 l D ct E y r q hJ0 hEi) (wqX4_71_kc_readPart1 hts ⟨Nat.le_of_ble_eq_true rfl, Nat.le_of_ble_eq_true rfl⟩) hw hS hA hK hZ hN 4 192 rfl kg192 rfl hl.1 rfl (Nat.le_of_ble_eq_true rfl) dX4_readProduct_3 6 rfl (fun u19 H locs pu19 hw hS => ?_)
  obtain ⟨v20, r21, q22⟩ := u19
  have hv20 : zI 0 1 v20 := pu19.1
  have ju19 : kJ r21 := pu19.2.1
  have fu19 : zFr [196, 192, 193] r r21 := pu19.2.2.1
  have xu19 : (v20, r21, q22) = (Gk_readPart1 r q) := pu19.2.2.2.1
  have hE := zc_vrqE xu19 hE
  have hw : zPD D A (kW ct E y r21 q22) H := hw
  refine zfr 6 [.int v20] rfl rfl ?_
  refine lv_if_ne (tgt := 11) hx hb dX4_readProduct_6 (by decide) (fun c23 => ?_) (fun c23 => ?_)
  · have hE := zifnT c23 hE
    have k24 : zI 1 1 (v20) := zI.neD c23 hv20 (zI.lit (a := 0) (b := 0) (c := 0) (by decide)) (by decide)
    refine lv_iconst (v := 0) hx hb dX4_readProduct_11 (by decide) ?_
    refine lv_istore_n (lv' := [(3, .int 0), (0, .ref (y 192)), (1, .ref (y 196)), (2, .int 1)]) hx hb dX4_readProduct_12 rfl hl (by decide) rfl (fun ls hl => ?_)
    exact cut13 1001 0 r21 q22 ((zI.lit (a := 0) (b := 0) (c := 0) (by decide)).w (c := 0) (d := 1000) (by decide)) ju19 ((zFr.refl).tr fu19 rfl) hE (zI.m0 (zI.lit (a := 0) (b := 0) (c := 0) (by decide)) (by decide)) H locs ls hw hS (lv_sub hl [1, 2, 3, 0] rfl)
  · have hE := zifnF c23 hE
    have k25 : zI 0 0 (v20) := zI.eqq c23 (zI.lit (a := 0) (b := 0) (c := 0) (by decide))
    refine lv_iconst (v := 0) hx hb dX4_readProduct_9 (by decide) ?_
    exact ziretQ hQ hx hb hr rfl hlocks ((0 : Int32), r21, q22) rfl ⟨((zI.lit (a := 0) (b := 0) (c := 0) (by decide)).w (c := 0) (d := 1) (by decide)), ju19, ((zFr.refl).tr fu19 rfl), (hE.symm.trans hX), trivial⟩ hw hS dX4_readProduct_10

set_option maxHeartbeats 4000000 in
set_option maxRecDepth 100000 in
theorem kc_readSum1 (l : Launch) (D : va_G) (ct : Nat → ClassId) (E : Nat → Nat) (y : Nat → Nat) (r : zRr) (q : zRq) (hJ0 : kJ r) (hEi : kEi E) : cC l yX4_readSum (.code yX4_readSum cX4_readSum 5 (some .boolean) :: wsL_law0) ({ frames := 29, cells := 0, slots := 0, locals := 1200 }) D ct E [.ref (y 192), .ref (y 196), .int 1] (kW ct E y r q) (S := Int32 × zRr × zRq) (fun u => some (.int u.1)) (fun u => zI 0 1 u.1 ∧ kJ u.2.1 ∧ zFr [196, 192, 193] r u.2.1 ∧ u = (Gk_readSum1 r q) ∧ True) (fun u => kW ct E y u.2.1 u.2.2) := by
  refine cofQ cX4_readSum 5 (some .boolean) (by decide) rfl (Nat.le_of_ble_eq_true rfl) ?_
  intro p e s m below meth c A a9 Q ha9 hx hb hr hml hts hown hlocks hname hK hA hZ hN hQ
  have hown : s.vm.findClass RX4 = some m.cls := hown
  have hiX9 : ∀ w ∈ wsX90, w ∈ .code yX4_readSum cX4_readSum 5 (some .boolean) :: wsL_law0 := fun _ h => ki (zs_wsX90 _ h)
  have lf36 := hts (.fieldLink RX4 36 "BeardPass$Tape" "sort" "LBeardPass$Sort;") (ki (zr18 17 rfl))
  have lf65 := hts (.fieldLink RX4 65 "BeardPass$Sort" "PLUS" "LBeardPass$Sort;") (ki (zr19 20 rfl))
  have lf68 := hts (.fieldLink RX4 68 "BeardPass$Sort" "MINUS" "LBeardPass$Sort;") (ki (zr19 21 rfl))
  obtain ⟨X, hX⟩ : ∃ X, X = (Gk_readSum1 r q) := ⟨_, rfl⟩
  have cut13 : ∀ (n13 : Nat) (w13_3 : Int32) (rw13 : zRr) (qw13 : zRq) (hw13_3 : zI 0 1000 w13_3) (jw13 : kJ rw13) (fw13 : zFr [196, 192, 193] r rw13) (hE : X = Gk_readSum1_13 n13 w13_3 rw13 qw13), 1000 - w13_3.toInt < (n13 : Int) → zKf p l e ({ frames := 29, cells := 0, slots := 0, locals := 1200 }) s m a9 below meth c Q D A 13 5 [] (kW ct E y rw13 qw13) [(0, .ref (y 192)), (1, .ref (y 196)), (2, .int 1), (3, .int w13_3)] := by
    intro n13
    induction n13 with
    | zero => intro w13_3 rw13 qw13 hw13_3 jw13 fw13 hE hm13; exact zI.no hw13_3 (by decide) hm13
    | succ n13 ih13 =>
      intro w13_3 rw13 qw13 hw13_3 jw13 fw13 hE hm13
      have hE : X = Bk_readSum1_13 (Gk_readSum1_13 n13) w13_3 rw13 qw13 := hE
      unfold Bk_readSum1_13 at hE
      have cut57 : ∀ (w57_s0 : Int32) (hw57_3 : zI 0 999 w13_3) (hw57_s0 : zI (-11) (-2) w57_s0) (hE : X = Gk_readSum1_57 w13_3 rw13 qw13 (Gk_readSum1_13 n13) w57_s0), zKf p l e ({ frames := 29, cells := 0, slots := 0, locals := 1200 }) s m a9 below meth c Q D A 57 5 [.int w57_s0] (kW ct E y rw13 qw13) [(0, .ref (y 192)), (1, .ref (y 196)), (2, .int 1), (3, .int w13_3)] := by
        intro w57_s0 hw57_3 hw57_s0 hE H locs ls hw hS hl
        unfold Gk_readSum1_57 at hE
        refine lv_istore (lv' := [(4, .int w57_s0), (0, .ref (y 192)), (1, .ref (y 196)), (2, .int 1), (3, .int w13_3)]) hx hb dX4_readSum_57 hl (by decide) rfl (fun ls hl => ?_)
        refine lv_aload_n hx hb dX4_readSum_59 rfl (lv_at hl 2 rfl) ?_
        refine kcallV (As := []) (rest := []) ⟨hx, hb, hml, hown, hts⟩ (kc_step l D ct E y rw13 qw13 jw13 hEi) (wqX4_50_kc_step hts ⟨Nat.le_of_ble_eq_true rfl, Nat.le_of_ble_eq_true rfl⟩) hw hS hA hK hZ hN 8 196 rfl kg196 rfl hl.1 rfl (Nat.le_of_ble_eq_true rfl) dX4_readSum_60 63 rfl (fun u1 H locs pu1 hw hS => ?_)
        obtain ⟨r2, q3⟩ := u1
        have ju1 : kJ r2 := pu1.1
        have fu1 : zFr [196] rw13 r2 := pu1.2.1
        have xu1 : (r2, q3) = (Gk_step rw13 qw13) := pu1.2.2.1
        have hE := zc_rqE xu1 hE
        have hw : zPD D A (kW ct E y r2 q3) H := hw
        refine zfr 63 [] rfl rfl ?_
        refine lv_aload_n hx hb dX4_readSum_63 rfl (lv_at hl 1 rfl) ?_
        refine lv_aload_n hx hb dX4_readSum_64 rfl (lv_at hl 2 rfl) ?_
        refine lv_iload_n hx hb dX4_readSum_65 rfl (lv_at hl 3 rfl) ?_
        refine kcallV (As := [.ref (y 196), .int 1]) (rest := []) ⟨hx, hb, hml, hown, hts⟩ (kc_readProduct1 l D ct E y r2 q3 ju1 hEi) (wqX4_62_kc_readProduct1 hts ⟨Nat.le_of_ble_eq_true rfl, Nat.le_of_ble_eq_true rfl⟩) hw hS hA hK hZ hN 4 192 rfl kg192 rfl hl.1 rfl (Nat.le_of_ble_eq_true rfl) dX4_readSum_66 69 rfl (fun u4 H locs pu4 hw hS => ?_)
        obtain ⟨v5, r6, q7⟩ := u4
        have hv5 : zI 0 1 v5 := pu4.1
        have ju4 : kJ r6 := pu4.2.1
        have fu4 : zFr [196, 192, 193] r2 r6 := pu4.2.2.1
        have xu4 : (v5, r6, q7) = (Gk_readProduct1 r2 q3) := pu4.2.2.2.1
        have hE := zc_vrqE xu4 hE
        have hw : zPD D A (kW ct E y r6 q7) H := hw
        refine zfr 69 [.int v5] rfl rfl ?_
        refine lv_if_ne (tgt := 74) hx hb dX4_readSum_69 (by decide) (fun c8 => ?_) (fun c8 => ?_)
        · have hE := zifnT c8 hE
          have k9 : zI 1 1 (v5) := zI.neD c8 hv5 (zI.lit (a := 0) (b := 0) (c := 0) (by decide)) (by decide)
          refine lv_aload_n hx hb dX4_readSum_74 rfl (lv_at hl 1 rfl) ?_
          refine lv_iload hx hb dX4_readSum_75 (lv_at hl 0 rfl) ?_
          refine kcallV (As := [.int w57_s0]) (rest := []) ⟨hx, hb, hml, hown, hts⟩ (kc_add l D ct E y w57_s0 r6 q7 ju4 hEi) (wqX4_22_kc_add hts ⟨Nat.le_of_ble_eq_true rfl, Nat.le_of_ble_eq_true rfl⟩) hw hS hA hK hZ hN 4 192 rfl kg192 rfl hl.1 rfl (Nat.le_of_ble_eq_true rfl) dX4_readSum_77 80 rfl (fun u10 H locs pu10 hw hS => ?_)
          have ju10 : kJ u10 := pu10.1
          have fu10 : zFr [192, 193] r6 u10 := pu10.2.1
          have xu10 : u10 = (Gk_add w57_s0 r6 q7) := pu10.2.2.1
          have hE := zletE xu10 hE
          have hw : zPD D A (kW ct E y u10 q7) H := hw
          refine zfr 80 [] rfl rfl ?_
          refine lv_iinc (v := w13_3 + 1) (lv' := [(3, .int (w13_3 + 1)), (4, .int w57_s0), (0, .ref (y 192)), (1, .ref (y 196)), (2, .int 1)]) hx hb dX4_readSum_80 hl (k := 4) rfl (rfl) (by decide) rfl (fun ls hl => ?_)
          have k12 : zI 1 1000 (w13_3 + 1) := zI.add hw57_3 (zI.lit (a := 1) (b := 1) (by decide)) (by decide)
          refine lv_goto (tgt := 13) hx hb dX4_readSum_83 (by decide) ?_
          exact ih13 (w13_3 + 1) u10 q7 (k12.w (c := 0) (d := 1000) (by decide)) ju10 (((fw13.tr fu1 rfl).tr fu4 rfl).tr fu10 rfl) hE (zI.up hw57_3 (by decide) hm13) H locs ls hw hS (lv_sub hl [2, 3, 4, 0] rfl)
        · have hE := zifnF c8 hE
          have k13 : zI 0 0 (v5) := zI.eqq c8 (zI.lit (a := 0) (b := 0) (c := 0) (by decide))
          refine lv_iconst (v := 0) hx hb dX4_readSum_72 (by decide) ?_
          exact ziretQ hQ hx hb hr rfl hlocks ((0 : Int32), r6, q7) rfl ⟨((zI.lit (a := 0) (b := 0) (c := 0) (by decide)).w (c := 0) (d := 1) (by decide)), ju4, ((fw13.tr fu1 rfl).tr fu4 rfl), (hE.symm.trans hX), trivial⟩ hw hS dX4_readSum_73
      have cut40 : ∀ (hw40_3 : zI 0 999 w13_3) (hE : X = Gk_readSum1_40 w13_3 rw13 qw13 (Gk_readSum1_13 n13) ), zKf p l e ({ frames := 29, cells := 0, slots := 0, locals := 1200 }) s m a9 below meth c Q D A 40 5 [] (kW ct E y rw13 qw13) [(0, .ref (y 192)), (1, .ref (y 196)), (2, .int 1), (3, .int w13_3)] := by
        intro hw40_3 hE H locs ls hw hS hl
        unfold Gk_readSum1_40 at hE
        refine lv_aload_n hx hb dX4_readSum_40 rfl (lv_at hl 1 rfl) ?_
        refine va_get (D := D) (ci := 8) (v := .ref (E (zn (rw13 196 4)))) hx hb hts hiX9 hown hK hw.1 196 kg196 rfl 4 (by decide) lf36 (fun _ h9 => h9) rfl dX4_readSum_41 (cgenSE (show zI 0 32 (rw13 196 4) from jw13.i 196 4) (fun v14 ev14 hv14 => ?_))
        have hE := zletE ev14 hE
        refine cgets 25 (by decide) hx hb hZ hS hown lf65 dX4_readSum_44 (ztop (.ref (E (zn 25))) rfl ?_)
        refine cxacmp_ne (a := v14) (b := (25 : Int32)) (tgt := 55) hEi hv14 ((zI.lit (a := 25) (b := 25) (c := 25) (by decide)).w (c := 0) (d := 32) (by decide)) hx hb dX4_readSum_47 (by decide) (fun c15 => ?_) (fun c15 => ?_)
        · have hE := zifnT c15 hE
          refine lv_bipush (v := (-11)) hx hb dX4_readSum_55 (by decide) ?_
          exact cut57 (-11) hw40_3 ((zI.lit (a := (-11)) (b := (-11)) (c := (-11)) (by decide)).w (c := (-11)) (d := (-2)) (by decide)) hE H locs ls hw hS (lv_sub hl [0, 1, 2, 3] rfl)
        · have hE := zifnF c15 hE
          refine lv_bipush (v := (-10)) hx hb dX4_readSum_50 (by decide) ?_
          refine lv_goto (tgt := 57) hx hb dX4_readSum_52 (by decide) ?_
          exact cut57 (-10) hw40_3 ((zI.lit (a := (-10)) (b := (-10)) (c := (-10)) (by decide)).w (c := (-11)) (d := (-2)) (by decide)) hE H locs ls hw hS (lv_sub hl [0, 1, 2, 3] rfl)
      intro H locs ls hw hS hl
      refine lv_iload_n hx hb dX4_readSum_13 rfl (lv_at hl 3 rfl) ?_
      refine lv_sipush (v := 1000) hx hb dX4_readSum_14 (by decide) ?_
      refine lv_icmp_ge (tgt := 86) hx hb dX4_readSum_17 (by decide) (fun c16 => ?_) (fun c16 => ?_)
      · have hE := zifT c16 hE
        have k17 : zI 1000 1000 (w13_3) := zI.leD c16 (zI.lit (a := 1000) (b := 1000) (c := 1000) (by decide)) hw13_3 (by decide)
        refine lv_iconst (v := 1) hx hb dX4_readSum_86 (by decide) ?_
        exact ziretQ hQ hx hb hr rfl hlocks ((1 : Int32), rw13, qw13) rfl ⟨((zI.lit (a := 1) (b := 1) (c := 1) (by decide)).w (c := 0) (d := 1) (by decide)), jw13, fw13, (hE.symm.trans hX), trivial⟩ hw hS dX4_readSum_87
      · have hE := zifF c16 hE
        have k18 : zI 0 999 (w13_3) := zI.ltU (zI.nle c16) hw13_3 (zI.lit (a := 1000) (b := 1000) (c := 1000) (by decide)) (by decide)
        refine lv_aload_n hx hb dX4_readSum_20 rfl (lv_at hl 1 rfl) ?_
        refine va_get (D := D) (ci := 8) (v := .ref (E (zn (rw13 196 4)))) hx hb hts hiX9 hown hK hw.1 196 kg196 rfl 4 (by decide) lf36 (fun _ h9 => h9) rfl dX4_readSum_21 (cgenSE (show zI 0 32 (rw13 196 4) from jw13.i 196 4) (fun v19 ev19 hv19 => ?_))
        have hE := zletE ev19 hE
        refine cgets 25 (by decide) hx hb hZ hS hown lf65 dX4_readSum_24 (ztop (.ref (E (zn 25))) rfl ?_)
        refine cxacmp_eq (a := v19) (b := (25 : Int32)) (tgt := 40) hEi hv19 ((zI.lit (a := 25) (b := 25) (c := 25) (by decide)).w (c := 0) (d := 32) (by decide)) hx hb dX4_readSum_27 (by decide) (fun c20 => ?_) (fun c20 => ?_)
        · have hE := zifT c20 hE
          exact cut40 k18 hE H locs ls hw hS (lv_sub hl [0, 1, 2, 3] rfl)
        · have hE := zifF c20 hE
          refine lv_aload_n hx hb dX4_readSum_30 rfl (lv_at hl 1 rfl) ?_
          refine va_get (D := D) (ci := 8) (v := .ref (E (zn (rw13 196 4)))) hx hb hts hiX9 hown hK hw.1 196 kg196 rfl 4 (by decide) lf36 (fun _ h9 => h9) rfl dX4_readSum_31 (cgenSE (show zI 0 32 (rw13 196 4) from jw13.i 196 4) (fun v21 ev21 hv21 => ?_))
          have hE := zletE ev21 hE
          refine cgets 26 (by decide) hx hb hZ hS hown lf68 dX4_readSum_34 (ztop (.ref (E (zn 26))) rfl ?_)
          refine cxacmp_ne (a := v21) (b := (26 : Int32)) (tgt := 86) hEi hv21 ((zI.lit (a := 26) (b := 26) (c := 26) (by decide)).w (c := 0) (d := 32) (by decide)) hx hb dX4_readSum_37 (by decide) (fun c22 => ?_) (fun c22 => ?_)
          · have hE := zifnT c22 hE
            refine lv_iconst (v := 1) hx hb dX4_readSum_86 (by decide) ?_
            exact ziretQ hQ hx hb hr rfl hlocks ((1 : Int32), rw13, qw13) rfl ⟨((zI.lit (a := 1) (b := 1) (c := 1) (by decide)).w (c := 0) (d := 1) (by decide)), jw13, fw13, (hE.symm.trans hX), trivial⟩ hw hS dX4_readSum_87
          · have hE := zifnF c22 hE
            exact cut40 k18 hE H locs ls hw hS (lv_sub hl [0, 1, 2, 3] rfl)
  intro H locs hw hS ls hl
  have hl : lv_has ls 5 [(0, .ref (y 192)), (1, .ref (y 196)), (2, .int 1)] := hl
  have hE := hX
  unfold Gk_readSum1 at hE
  refine lv_aload_n hx hb dX4_readSum_0 rfl (lv_at hl 0 rfl) ?_
  refine lv_aload_n hx hb dX4_readSum_1 rfl (lv_at hl 1 rfl) ?_
  refine lv_iload_n hx hb dX4_readSum_2 rfl (lv_at hl 2 rfl) ?_
  refine kcallV (As := [.ref (y 196), .int 1]) (rest := []) ⟨hx, hb, hml, hown, hts⟩ (kc_readProduct1 l D ct E y r q hJ0 hEi) (wqX4_62_kc_readProduct1 hts ⟨Nat.le_of_ble_eq_true rfl, Nat.le_of_ble_eq_true rfl⟩) hw hS hA hK hZ hN 4 192 rfl kg192 rfl hl.1 rfl (Nat.le_of_ble_eq_true rfl) dX4_readSum_3 6 rfl (fun u23 H locs pu23 hw hS => ?_)
  obtain ⟨v24, r25, q26⟩ := u23
  have hv24 : zI 0 1 v24 := pu23.1
  have ju23 : kJ r25 := pu23.2.1
  have fu23 : zFr [196, 192, 193] r r25 := pu23.2.2.1
  have xu23 : (v24, r25, q26) = (Gk_readProduct1 r q) := pu23.2.2.2.1
  have hE := zc_vrqE xu23 hE
  have hw : zPD D A (kW ct E y r25 q26) H := hw
  refine zfr 6 [.int v24] rfl rfl ?_
  refine lv_if_ne (tgt := 11) hx hb dX4_readSum_6 (by decide) (fun c27 => ?_) (fun c27 => ?_)
  · have hE := zifnT c27 hE
    have k28 : zI 1 1 (v24) := zI.neD c27 hv24 (zI.lit (a := 0) (b := 0) (c := 0) (by decide)) (by decide)
    refine lv_iconst (v := 0) hx hb dX4_readSum_11 (by decide) ?_
    refine lv_istore_n (lv' := [(3, .int 0), (0, .ref (y 192)), (1, .ref (y 196)), (2, .int 1)]) hx hb dX4_readSum_12 rfl hl (by decide) rfl (fun ls hl => ?_)
    exact cut13 1001 0 r25 q26 ((zI.lit (a := 0) (b := 0) (c := 0) (by decide)).w (c := 0) (d := 1000) (by decide)) ju23 ((zFr.refl).tr fu23 rfl) hE (zI.m0 (zI.lit (a := 0) (b := 0) (c := 0) (by decide)) (by decide)) H locs ls hw hS (lv_sub hl [1, 2, 3, 0] rfl)
  · have hE := zifnF c27 hE
    have k29 : zI 0 0 (v24) := zI.eqq c27 (zI.lit (a := 0) (b := 0) (c := 0) (by decide))
    refine lv_iconst (v := 0) hx hb dX4_readSum_9 (by decide) ?_
    exact ziretQ hQ hx hb hr rfl hlocks ((0 : Int32), r25, q26) rfl ⟨((zI.lit (a := 0) (b := 0) (c := 0) (by decide)).w (c := 0) (d := 1) (by decide)), ju23, ((zFr.refl).tr fu23 rfl), (hE.symm.trans hX), trivial⟩ hw hS dX4_readSum_10

set_option maxHeartbeats 4000000 in
set_option maxRecDepth 100000 in
theorem kc_readTest1 (l : Launch) (D : va_G) (ct : Nat → ClassId) (E : Nat → Nat) (y : Nat → Nat) (r : zRr) (q : zRq) (hJ0 : kJ r) (hEi : kEi E) : cC l yX4_readTest (.code yX4_readTest cX4_readTest 4 (some .boolean) :: wsL_law0) ({ frames := 30, cells := 0, slots := 0, locals := 1240 }) D ct E [.ref (y 192), .ref (y 196), .int 1] (kW ct E y r q) (S := Int32 × zRr × zRq) (fun u => some (.int u.1)) (fun u => zI 0 1 u.1 ∧ kJ u.2.1 ∧ zFr [196, 192, 193] r u.2.1 ∧ u = (Gk_readTest1 r q) ∧ True) (fun u => kW ct E y u.2.1 u.2.2) := by
  refine cofQ cX4_readTest 4 (some .boolean) (by decide) rfl (Nat.le_of_ble_eq_true rfl) ?_
  intro p e s m below meth c A a9 Q ha9 hx hb hr hml hts hown hlocks hname hK hA hZ hN hQ
  have hown : s.vm.findClass RX4 = some m.cls := hown
  have hiX9 : ∀ w ∈ wsX90, w ∈ .code yX4_readTest cX4_readTest 4 (some .boolean) :: wsL_law0 := fun _ h => ki (zs_wsX90 _ h)
  have lf36 := hts (.fieldLink RX4 36 "BeardPass$Tape" "sort" "LBeardPass$Sort;") (ki (zr18 17 rfl))
  have lf56 := hts (.fieldLink RX4 56 "BeardPass$Sort" "LESS" "LBeardPass$Sort;") (ki (zr20 2 rfl))
  have lf59 := hts (.fieldLink RX4 59 "BeardPass$Sort" "SAME" "LBeardPass$Sort;") (ki (zr20 3 rfl))
  obtain ⟨X, hX⟩ : ∃ X, X = (Gk_readTest1 r q) := ⟨_, rfl⟩
  have cut50 : ∀ (w50_s0 : Int32) (rw50 : zRr) (qw50 : zRq) (hw50_s0 : zI (-9) (-2) w50_s0) (jw50 : kJ rw50) (fw50 : zFr [196, 192, 193] r rw50) (hE : X = Gk_readTest1_50 w50_s0 rw50 qw50), zKf p l e ({ frames := 30, cells := 0, slots := 0, locals := 1240 }) s m a9 below meth c Q D A 50 4 [.int w50_s0] (kW ct E y rw50 qw50) [(0, .ref (y 192)), (1, .ref (y 196)), (2, .int 1)] := by
    intro w50_s0 rw50 qw50 hw50_s0 jw50 fw50 hE H locs ls hw hS hl
    unfold Gk_readTest1_50 at hE
    refine lv_istore_n (lv' := [(3, .int w50_s0), (0, .ref (y 192)), (1, .ref (y 196)), (2, .int 1)]) hx hb dX4_readTest_50 rfl hl (by decide) rfl (fun ls hl => ?_)
    refine lv_aload_n hx hb dX4_readTest_51 rfl (lv_at hl 2 rfl) ?_
    refine kcallV (As := []) (rest := []) ⟨hx, hb, hml, hown, hts⟩ (kc_step l D ct E y rw50 qw50 jw50 hEi) (wqX4_50_kc_step hts ⟨Nat.le_of_ble_eq_true rfl, Nat.le_of_ble_eq_true rfl⟩) hw hS hA hK hZ hN 8 196 rfl kg196 rfl hl.1 rfl (Nat.le_of_ble_eq_true rfl) dX4_readTest_52 55 rfl (fun u1 H locs pu1 hw hS => ?_)
    obtain ⟨r2, q3⟩ := u1
    have ju1 : kJ r2 := pu1.1
    have fu1 : zFr [196] rw50 r2 := pu1.2.1
    have xu1 : (r2, q3) = (Gk_step rw50 qw50) := pu1.2.2.1
    have hE := zc_rqE xu1 hE
    have hw : zPD D A (kW ct E y r2 q3) H := hw
    refine zfr 55 [] rfl rfl ?_
    refine lv_aload_n hx hb dX4_readTest_55 rfl (lv_at hl 1 rfl) ?_
    refine lv_aload_n hx hb dX4_readTest_56 rfl (lv_at hl 2 rfl) ?_
    refine lv_iload_n hx hb dX4_readTest_57 rfl (lv_at hl 3 rfl) ?_
    refine kcallV (As := [.ref (y 196), .int 1]) (rest := []) ⟨hx, hb, hml, hown, hts⟩ (kc_readSum1 l D ct E y r2 q3 ju1 hEi) (wqX4_53_kc_readSum1 hts ⟨Nat.le_of_ble_eq_true rfl, Nat.le_of_ble_eq_true rfl⟩) hw hS hA hK hZ hN 4 192 rfl kg192 rfl hl.1 rfl (Nat.le_of_ble_eq_true rfl) dX4_readTest_58 61 rfl (fun u4 H locs pu4 hw hS => ?_)
    obtain ⟨v5, r6, q7⟩ := u4
    have hv5 : zI 0 1 v5 := pu4.1
    have ju4 : kJ r6 := pu4.2.1
    have fu4 : zFr [196, 192, 193] r2 r6 := pu4.2.2.1
    have xu4 : (v5, r6, q7) = (Gk_readSum1 r2 q3) := pu4.2.2.2.1
    have hE := zc_vrqE xu4 hE
    have hw : zPD D A (kW ct E y r6 q7) H := hw
    refine zfr 61 [.int v5] rfl rfl ?_
    refine lv_if_ne (tgt := 66) hx hb dX4_readTest_61 (by decide) (fun c8 => ?_) (fun c8 => ?_)
    · have hE := zifnT c8 hE
      have k9 : zI 1 1 (v5) := zI.neD c8 hv5 (zI.lit (a := 0) (b := 0) (c := 0) (by decide)) (by decide)
      refine lv_aload_n hx hb dX4_readTest_66 rfl (lv_at hl 1 rfl) ?_
      refine lv_iload_n hx hb dX4_readTest_67 rfl (lv_at hl 0 rfl) ?_
      refine kcallV (As := [.int w50_s0]) (rest := []) ⟨hx, hb, hml, hown, hts⟩ (kc_add l D ct E y w50_s0 r6 q7 ju4 hEi) (wqX4_22_kc_add hts ⟨Nat.le_of_ble_eq_true rfl, Nat.le_of_ble_eq_true rfl⟩) hw hS hA hK hZ hN 4 192 rfl kg192 rfl hl.1 rfl (Nat.le_of_ble_eq_true rfl) dX4_readTest_68 71 rfl (fun u10 H locs pu10 hw hS => ?_)
      have ju10 : kJ u10 := pu10.1
      have fu10 : zFr [192, 193] r6 u10 := pu10.2.1
      have xu10 : u10 = (Gk_add w50_s0 r6 q7) := pu10.2.2.1
      have hE := zletE xu10 hE
      have hw : zPD D A (kW ct E y u10 q7) H := hw
      refine zfr 71 [] rfl rfl ?_
      refine lv_iconst (v := 1) hx hb dX4_readTest_71 (by decide) ?_
      exact ziretQ hQ hx hb hr rfl hlocks ((1 : Int32), u10, q7) rfl ⟨((zI.lit (a := 1) (b := 1) (c := 1) (by decide)).w (c := 0) (d := 1) (by decide)), ju10, (((fw50.tr fu1 rfl).tr fu4 rfl).tr fu10 rfl), (hE.symm.trans hX), trivial⟩ hw hS dX4_readTest_72
    · have hE := zifnF c8 hE
      have k12 : zI 0 0 (v5) := zI.eqq c8 (zI.lit (a := 0) (b := 0) (c := 0) (by decide))
      refine lv_iconst (v := 0) hx hb dX4_readTest_64 (by decide) ?_
      exact ziretQ hQ hx hb hr rfl hlocks ((0 : Int32), r6, q7) rfl ⟨((zI.lit (a := 0) (b := 0) (c := 0) (by decide)).w (c := 0) (d := 1) (by decide)), ju4, ((fw50.tr fu1 rfl).tr fu4 rfl), (hE.symm.trans hX), trivial⟩ hw hS dX4_readTest_65
  have cut33 : ∀ (rw33 : zRr) (qw33 : zRq) (jw33 : kJ rw33) (fw33 : zFr [196, 192, 193] r rw33) (hE : X = Gk_readTest1_33 rw33 qw33), zKf p l e ({ frames := 30, cells := 0, slots := 0, locals := 1240 }) s m a9 below meth c Q D A 33 4 [] (kW ct E y rw33 qw33) [(0, .ref (y 192)), (1, .ref (y 196)), (2, .int 1)] := by
    intro rw33 qw33 jw33 fw33 hE H locs ls hw hS hl
    unfold Gk_readTest1_33 at hE
    refine lv_aload_n hx hb dX4_readTest_33 rfl (lv_at hl 1 rfl) ?_
    refine va_get (D := D) (ci := 8) (v := .ref (E (zn (rw33 196 4)))) hx hb hts hiX9 hown hK hw.1 196 kg196 rfl 4 (by decide) lf36 (fun _ h9 => h9) rfl dX4_readTest_34 (cgenSE (show zI 0 32 (rw33 196 4) from jw33.i 196 4) (fun v13 ev13 hv13 => ?_))
    have hE := zletE ev13 hE
    refine cgets 23 (by decide) hx hb hZ hS hown lf56 dX4_readTest_37 (ztop (.ref (E (zn 23))) rfl ?_)
    refine cxacmp_ne (a := v13) (b := (23 : Int32)) (tgt := 48) hEi hv13 ((zI.lit (a := 23) (b := 23) (c := 23) (by decide)).w (c := 0) (d := 32) (by decide)) hx hb dX4_readTest_40 (by decide) (fun c14 => ?_) (fun c14 => ?_)
    · have hE := zifnT c14 hE
      refine lv_bipush (v := (-9)) hx hb dX4_readTest_48 (by decide) ?_
      exact cut50 (-9) rw33 qw33 ((zI.lit (a := (-9)) (b := (-9)) (c := (-9)) (by decide)).w (c := (-9)) (d := (-2)) (by decide)) jw33 fw33 hE H locs ls hw hS (lv_sub hl [0, 1, 2] rfl)
    · have hE := zifnF c14 hE
      refine lv_bipush (v := (-8)) hx hb dX4_readTest_43 (by decide) ?_
      refine lv_goto (tgt := 50) hx hb dX4_readTest_45 (by decide) ?_
      exact cut50 (-8) rw33 qw33 ((zI.lit (a := (-8)) (b := (-8)) (c := (-8)) (by decide)).w (c := (-9)) (d := (-2)) (by decide)) jw33 fw33 hE H locs ls hw hS (lv_sub hl [0, 1, 2] rfl)
  intro H locs hw hS ls hl
  have hl : lv_has ls 4 [(0, .ref (y 192)), (1, .ref (y 196)), (2, .int 1)] := hl
  have hE := hX
  unfold Gk_readTest1 at hE
  refine lv_aload_n hx hb dX4_readTest_0 rfl (lv_at hl 0 rfl) ?_
  refine lv_aload_n hx hb dX4_readTest_1 rfl (lv_at hl 1 rfl) ?_
  refine lv_iload_n hx hb dX4_readTest_2 rfl (lv_at hl 2 rfl) ?_
  refine kcallV (As := [.ref (y 196), .int 1]) (rest := []) ⟨hx, hb, hml, hown, hts⟩ (kc_readSum1 l D ct E y r q hJ0 hEi) (wqX4_53_kc_readSum1 hts ⟨Nat.le_of_ble_eq_true rfl, Nat.le_of_ble_eq_true rfl⟩) hw hS hA hK hZ hN 4 192 rfl kg192 rfl hl.1 rfl (Nat.le_of_ble_eq_true rfl) dX4_readTest_3 6 rfl (fun u15 H locs pu15 hw hS => ?_)
  obtain ⟨v16, r17, q18⟩ := u15
  have hv16 : zI 0 1 v16 := pu15.1
  have ju15 : kJ r17 := pu15.2.1
  have fu15 : zFr [196, 192, 193] r r17 := pu15.2.2.1
  have xu15 : (v16, r17, q18) = (Gk_readSum1 r q) := pu15.2.2.2.1
  have hE := zc_vrqE xu15 hE
  have hw : zPD D A (kW ct E y r17 q18) H := hw
  refine zfr 6 [.int v16] rfl rfl ?_
  refine lv_if_ne (tgt := 11) hx hb dX4_readTest_6 (by decide) (fun c19 => ?_) (fun c19 => ?_)
  · have hE := zifnT c19 hE
    have k20 : zI 1 1 (v16) := zI.neD c19 hv16 (zI.lit (a := 0) (b := 0) (c := 0) (by decide)) (by decide)
    refine lv_aload_n hx hb dX4_readTest_11 rfl (lv_at hl 1 rfl) ?_
    refine va_get (D := D) (ci := 8) (v := .ref (E (zn (r17 196 4)))) hx hb hts hiX9 hown hK hw.1 196 kg196 rfl 4 (by decide) lf36 (fun _ h9 => h9) rfl dX4_readTest_12 (cgenSE (show zI 0 32 (r17 196 4) from ju15.i 196 4) (fun v21 ev21 hv21 => ?_))
    have hE := zletE ev21 hE
    refine cgets 23 (by decide) hx hb hZ hS hown lf56 dX4_readTest_15 (ztop (.ref (E (zn 23))) rfl ?_)
    refine cxacmp_eq (a := v21) (b := (23 : Int32)) (tgt := 33) hEi hv21 ((zI.lit (a := 23) (b := 23) (c := 23) (by decide)).w (c := 0) (d := 32) (by decide)) hx hb dX4_readTest_18 (by decide) (fun c22 => ?_) (fun c22 => ?_)
    · have hE := zifT c22 hE
      exact cut33 r17 q18 ju15 ((zFr.refl).tr fu15 rfl) hE H locs ls hw hS (lv_sub hl [0, 1, 2] rfl)
    · have hE := zifF c22 hE
      refine lv_aload_n hx hb dX4_readTest_21 rfl (lv_at hl 1 rfl) ?_
      refine va_get (D := D) (ci := 8) (v := .ref (E (zn (r17 196 4)))) hx hb hts hiX9 hown hK hw.1 196 kg196 rfl 4 (by decide) lf36 (fun _ h9 => h9) rfl dX4_readTest_22 (cgenSE (show zI 0 32 (r17 196 4) from ju15.i 196 4) (fun v23 ev23 hv23 => ?_))
      have hE := zletE ev23 hE
      refine cgets 24 (by decide) hx hb hZ hS hown lf59 dX4_readTest_25 (ztop (.ref (E (zn 24))) rfl ?_)
      refine cxacmp_eq (a := v23) (b := (24 : Int32)) (tgt := 33) hEi hv23 ((zI.lit (a := 24) (b := 24) (c := 24) (by decide)).w (c := 0) (d := 32) (by decide)) hx hb dX4_readTest_28 (by decide) (fun c24 => ?_) (fun c24 => ?_)
      · have hE := zifT c24 hE
        exact cut33 r17 q18 ju15 ((zFr.refl).tr fu15 rfl) hE H locs ls hw hS (lv_sub hl [0, 1, 2] rfl)
      · have hE := zifF c24 hE
        refine lv_iconst (v := 1) hx hb dX4_readTest_31 (by decide) ?_
        exact ziretQ hQ hx hb hr rfl hlocks ((1 : Int32), r17, q18) rfl ⟨((zI.lit (a := 1) (b := 1) (c := 1) (by decide)).w (c := 0) (d := 1) (by decide)), ju15, ((zFr.refl).tr fu15 rfl), (hE.symm.trans hX), trivial⟩ hw hS dX4_readTest_32
  · have hE := zifnF c19 hE
    have k25 : zI 0 0 (v16) := zI.eqq c19 (zI.lit (a := 0) (b := 0) (c := 0) (by decide))
    refine lv_iconst (v := 0) hx hb dX4_readTest_9 (by decide) ?_
    exact ziretQ hQ hx hb hr rfl hlocks ((0 : Int32), r17, q18) rfl ⟨((zI.lit (a := 0) (b := 0) (c := 0) (by decide)).w (c := 0) (d := 1) (by decide)), ju15, ((zFr.refl).tr fu15 rfl), (hE.symm.trans hX), trivial⟩ hw hS dX4_readTest_10

set_option maxHeartbeats 4000000 in
set_option maxRecDepth 100000 in
theorem kc_readWhole1 (l : Launch) (D : va_G) (ct : Nat → ClassId) (E : Nat → Nat) (y : Nat → Nat) (r : zRr) (q : zRq) (hJ0 : kJ r) (hEi : kEi E) : cC l yX4_readWhole (.code yX4_readWhole cX4_readWhole 5 (some .boolean) :: wsL_law0) ({ frames := 31, cells := 0, slots := 0, locals := 1280 }) D ct E [.ref (y 192), .ref (y 196), .int 1] (kW ct E y r q) (S := Int32 × zRr × zRq) (fun u => some (.int u.1)) (fun u => zI 0 1 u.1 ∧ kJ u.2.1 ∧ zFr [196, 192, 193] r u.2.1 ∧ u = (Gk_readWhole1 r q) ∧ True) (fun u => kW ct E y u.2.1 u.2.2) := by
  refine cofQ cX4_readWhole 5 (some .boolean) (by decide) rfl (Nat.le_of_ble_eq_true rfl) ?_
  intro p e s m below meth c A a9 Q ha9 hx hb hr hml hts hown hlocks hname hK hA hZ hN hQ
  have hown : s.vm.findClass RX4 = some m.cls := hown
  have hiX9 : ∀ w ∈ wsX90, w ∈ .code yX4_readWhole cX4_readWhole 5 (some .boolean) :: wsL_law0 := fun _ h => ki (zs_wsX90 _ h)
  have lf36 := hts (.fieldLink RX4 36 "BeardPass$Tape" "sort" "LBeardPass$Sort;") (ki (zr18 17 rfl))
  have lf42 := hts (.fieldLink RX4 42 "BeardPass$Sort" "AND" "LBeardPass$Sort;") (ki (zr18 18 rfl))
  have lf47 := hts (.fieldLink RX4 47 "BeardPass$Sort" "OR" "LBeardPass$Sort;") (ki (zr18 19 rfl))
  obtain ⟨X, hX⟩ : ∃ X, X = (Gk_readWhole1 r q) := ⟨_, rfl⟩
  have cut13 : ∀ (n13 : Nat) (w13_3 : Int32) (rw13 : zRr) (qw13 : zRq) (hw13_3 : zI 0 1000 w13_3) (jw13 : kJ rw13) (fw13 : zFr [196, 192, 193] r rw13) (hE : X = Gk_readWhole1_13 n13 w13_3 rw13 qw13), 1000 - w13_3.toInt < (n13 : Int) → zKf p l e ({ frames := 31, cells := 0, slots := 0, locals := 1280 }) s m a9 below meth c Q D A 13 5 [] (kW ct E y rw13 qw13) [(0, .ref (y 192)), (1, .ref (y 196)), (2, .int 1), (3, .int w13_3)] := by
    intro n13
    induction n13 with
    | zero => intro w13_3 rw13 qw13 hw13_3 jw13 fw13 hE hm13; exact zI.no hw13_3 (by decide) hm13
    | succ n13 ih13 =>
      intro w13_3 rw13 qw13 hw13_3 jw13 fw13 hE hm13
      have hE : X = Bk_readWhole1_13 (Gk_readWhole1_13 n13) w13_3 rw13 qw13 := hE
      unfold Bk_readWhole1_13 at hE
      have cut57 : ∀ (w57_s0 : Int32) (hw57_3 : zI 0 999 w13_3) (hw57_s0 : zI (-7) (-2) w57_s0) (hE : X = Gk_readWhole1_57 w13_3 rw13 qw13 (Gk_readWhole1_13 n13) w57_s0), zKf p l e ({ frames := 31, cells := 0, slots := 0, locals := 1280 }) s m a9 below meth c Q D A 57 5 [.int w57_s0] (kW ct E y rw13 qw13) [(0, .ref (y 192)), (1, .ref (y 196)), (2, .int 1), (3, .int w13_3)] := by
        intro w57_s0 hw57_3 hw57_s0 hE H locs ls hw hS hl
        unfold Gk_readWhole1_57 at hE
        refine lv_istore (lv' := [(4, .int w57_s0), (0, .ref (y 192)), (1, .ref (y 196)), (2, .int 1), (3, .int w13_3)]) hx hb dX4_readWhole_57 hl (by decide) rfl (fun ls hl => ?_)
        refine lv_aload_n hx hb dX4_readWhole_59 rfl (lv_at hl 2 rfl) ?_
        refine kcallV (As := []) (rest := []) ⟨hx, hb, hml, hown, hts⟩ (kc_step l D ct E y rw13 qw13 jw13 hEi) (wqX4_50_kc_step hts ⟨Nat.le_of_ble_eq_true rfl, Nat.le_of_ble_eq_true rfl⟩) hw hS hA hK hZ hN 8 196 rfl kg196 rfl hl.1 rfl (Nat.le_of_ble_eq_true rfl) dX4_readWhole_60 63 rfl (fun u1 H locs pu1 hw hS => ?_)
        obtain ⟨r2, q3⟩ := u1
        have ju1 : kJ r2 := pu1.1
        have fu1 : zFr [196] rw13 r2 := pu1.2.1
        have xu1 : (r2, q3) = (Gk_step rw13 qw13) := pu1.2.2.1
        have hE := zc_rqE xu1 hE
        have hw : zPD D A (kW ct E y r2 q3) H := hw
        refine zfr 63 [] rfl rfl ?_
        refine lv_aload_n hx hb dX4_readWhole_63 rfl (lv_at hl 1 rfl) ?_
        refine lv_aload_n hx hb dX4_readWhole_64 rfl (lv_at hl 2 rfl) ?_
        refine lv_iload_n hx hb dX4_readWhole_65 rfl (lv_at hl 3 rfl) ?_
        refine kcallV (As := [.ref (y 196), .int 1]) (rest := []) ⟨hx, hb, hml, hown, hts⟩ (kc_readTest1 l D ct E y r2 q3 ju1 hEi) (wqX4_32_kc_readTest1 hts ⟨Nat.le_of_ble_eq_true rfl, Nat.le_of_ble_eq_true rfl⟩) hw hS hA hK hZ hN 4 192 rfl kg192 rfl hl.1 rfl (Nat.le_of_ble_eq_true rfl) dX4_readWhole_66 69 rfl (fun u4 H locs pu4 hw hS => ?_)
        obtain ⟨v5, r6, q7⟩ := u4
        have hv5 : zI 0 1 v5 := pu4.1
        have ju4 : kJ r6 := pu4.2.1
        have fu4 : zFr [196, 192, 193] r2 r6 := pu4.2.2.1
        have xu4 : (v5, r6, q7) = (Gk_readTest1 r2 q3) := pu4.2.2.2.1
        have hE := zc_vrqE xu4 hE
        have hw : zPD D A (kW ct E y r6 q7) H := hw
        refine zfr 69 [.int v5] rfl rfl ?_
        refine lv_if_ne (tgt := 74) hx hb dX4_readWhole_69 (by decide) (fun c8 => ?_) (fun c8 => ?_)
        · have hE := zifnT c8 hE
          have k9 : zI 1 1 (v5) := zI.neD c8 hv5 (zI.lit (a := 0) (b := 0) (c := 0) (by decide)) (by decide)
          refine lv_aload_n hx hb dX4_readWhole_74 rfl (lv_at hl 1 rfl) ?_
          refine lv_iload hx hb dX4_readWhole_75 (lv_at hl 0 rfl) ?_
          refine kcallV (As := [.int w57_s0]) (rest := []) ⟨hx, hb, hml, hown, hts⟩ (kc_add l D ct E y w57_s0 r6 q7 ju4 hEi) (wqX4_22_kc_add hts ⟨Nat.le_of_ble_eq_true rfl, Nat.le_of_ble_eq_true rfl⟩) hw hS hA hK hZ hN 4 192 rfl kg192 rfl hl.1 rfl (Nat.le_of_ble_eq_true rfl) dX4_readWhole_77 80 rfl (fun u10 H locs pu10 hw hS => ?_)
          have ju10 : kJ u10 := pu10.1
          have fu10 : zFr [192, 193] r6 u10 := pu10.2.1
          have xu10 : u10 = (Gk_add w57_s0 r6 q7) := pu10.2.2.1
          have hE := zletE xu10 hE
          have hw : zPD D A (kW ct E y u10 q7) H := hw
          refine zfr 80 [] rfl rfl ?_
          refine lv_iinc (v := w13_3 + 1) (lv' := [(3, .int (w13_3 + 1)), (4, .int w57_s0), (0, .ref (y 192)), (1, .ref (y 196)), (2, .int 1)]) hx hb dX4_readWhole_80 hl (k := 4) rfl (rfl) (by decide) rfl (fun ls hl => ?_)
          have k12 : zI 1 1000 (w13_3 + 1) := zI.add hw57_3 (zI.lit (a := 1) (b := 1) (by decide)) (by decide)
          refine lv_goto (tgt := 13) hx hb dX4_readWhole_83 (by decide) ?_
          exact ih13 (w13_3 + 1) u10 q7 (k12.w (c := 0) (d := 1000) (by decide)) ju10 (((fw13.tr fu1 rfl).tr fu4 rfl).tr fu10 rfl) hE (zI.up hw57_3 (by decide) hm13) H locs ls hw hS (lv_sub hl [2, 3, 4, 0] rfl)
        · have hE := zifnF c8 hE
          have k13 : zI 0 0 (v5) := zI.eqq c8 (zI.lit (a := 0) (b := 0) (c := 0) (by decide))
          refine lv_iconst (v := 0) hx hb dX4_readWhole_72 (by decide) ?_
          exact ziretQ hQ hx hb hr rfl hlocks ((0 : Int32), r6, q7) rfl ⟨((zI.lit (a := 0) (b := 0) (c := 0) (by decide)).w (c := 0) (d := 1) (by decide)), ju4, ((fw13.tr fu1 rfl).tr fu4 rfl), (hE.symm.trans hX), trivial⟩ hw hS dX4_readWhole_73
      have cut40 : ∀ (hw40_3 : zI 0 999 w13_3) (hE : X = Gk_readWhole1_40 w13_3 rw13 qw13 (Gk_readWhole1_13 n13) ), zKf p l e ({ frames := 31, cells := 0, slots := 0, locals := 1280 }) s m a9 below meth c Q D A 40 5 [] (kW ct E y rw13 qw13) [(0, .ref (y 192)), (1, .ref (y 196)), (2, .int 1), (3, .int w13_3)] := by
        intro hw40_3 hE H locs ls hw hS hl
        unfold Gk_readWhole1_40 at hE
        refine lv_aload_n hx hb dX4_readWhole_40 rfl (lv_at hl 1 rfl) ?_
        refine va_get (D := D) (ci := 8) (v := .ref (E (zn (rw13 196 4)))) hx hb hts hiX9 hown hK hw.1 196 kg196 rfl 4 (by decide) lf36 (fun _ h9 => h9) rfl dX4_readWhole_41 (cgenSE (show zI 0 32 (rw13 196 4) from jw13.i 196 4) (fun v14 ev14 hv14 => ?_))
        have hE := zletE ev14 hE
        refine cgets 19 (by decide) hx hb hZ hS hown lf42 dX4_readWhole_44 (ztop (.ref (E (zn 19))) rfl ?_)
        refine cxacmp_ne (a := v14) (b := (19 : Int32)) (tgt := 55) hEi hv14 ((zI.lit (a := 19) (b := 19) (c := 19) (by decide)).w (c := 0) (d := 32) (by decide)) hx hb dX4_readWhole_47 (by decide) (fun c15 => ?_) (fun c15 => ?_)
        · have hE := zifnT c15 hE
          refine lv_bipush (v := (-7)) hx hb dX4_readWhole_55 (by decide) ?_
          exact cut57 (-7) hw40_3 ((zI.lit (a := (-7)) (b := (-7)) (c := (-7)) (by decide)).w (c := (-7)) (d := (-2)) (by decide)) hE H locs ls hw hS (lv_sub hl [0, 1, 2, 3] rfl)
        · have hE := zifnF c15 hE
          refine lv_bipush (v := (-6)) hx hb dX4_readWhole_50 (by decide) ?_
          refine lv_goto (tgt := 57) hx hb dX4_readWhole_52 (by decide) ?_
          exact cut57 (-6) hw40_3 ((zI.lit (a := (-6)) (b := (-6)) (c := (-6)) (by decide)).w (c := (-7)) (d := (-2)) (by decide)) hE H locs ls hw hS (lv_sub hl [0, 1, 2, 3] rfl)
      intro H locs ls hw hS hl
      refine lv_iload_n hx hb dX4_readWhole_13 rfl (lv_at hl 3 rfl) ?_
      refine lv_sipush (v := 1000) hx hb dX4_readWhole_14 (by decide) ?_
      refine lv_icmp_ge (tgt := 86) hx hb dX4_readWhole_17 (by decide) (fun c16 => ?_) (fun c16 => ?_)
      · have hE := zifT c16 hE
        have k17 : zI 1000 1000 (w13_3) := zI.leD c16 (zI.lit (a := 1000) (b := 1000) (c := 1000) (by decide)) hw13_3 (by decide)
        refine lv_iconst (v := 1) hx hb dX4_readWhole_86 (by decide) ?_
        exact ziretQ hQ hx hb hr rfl hlocks ((1 : Int32), rw13, qw13) rfl ⟨((zI.lit (a := 1) (b := 1) (c := 1) (by decide)).w (c := 0) (d := 1) (by decide)), jw13, fw13, (hE.symm.trans hX), trivial⟩ hw hS dX4_readWhole_87
      · have hE := zifF c16 hE
        have k18 : zI 0 999 (w13_3) := zI.ltU (zI.nle c16) hw13_3 (zI.lit (a := 1000) (b := 1000) (c := 1000) (by decide)) (by decide)
        refine lv_aload_n hx hb dX4_readWhole_20 rfl (lv_at hl 1 rfl) ?_
        refine va_get (D := D) (ci := 8) (v := .ref (E (zn (rw13 196 4)))) hx hb hts hiX9 hown hK hw.1 196 kg196 rfl 4 (by decide) lf36 (fun _ h9 => h9) rfl dX4_readWhole_21 (cgenSE (show zI 0 32 (rw13 196 4) from jw13.i 196 4) (fun v19 ev19 hv19 => ?_))
        have hE := zletE ev19 hE
        refine cgets 19 (by decide) hx hb hZ hS hown lf42 dX4_readWhole_24 (ztop (.ref (E (zn 19))) rfl ?_)
        refine cxacmp_eq (a := v19) (b := (19 : Int32)) (tgt := 40) hEi hv19 ((zI.lit (a := 19) (b := 19) (c := 19) (by decide)).w (c := 0) (d := 32) (by decide)) hx hb dX4_readWhole_27 (by decide) (fun c20 => ?_) (fun c20 => ?_)
        · have hE := zifT c20 hE
          exact cut40 k18 hE H locs ls hw hS (lv_sub hl [0, 1, 2, 3] rfl)
        · have hE := zifF c20 hE
          refine lv_aload_n hx hb dX4_readWhole_30 rfl (lv_at hl 1 rfl) ?_
          refine va_get (D := D) (ci := 8) (v := .ref (E (zn (rw13 196 4)))) hx hb hts hiX9 hown hK hw.1 196 kg196 rfl 4 (by decide) lf36 (fun _ h9 => h9) rfl dX4_readWhole_31 (cgenSE (show zI 0 32 (rw13 196 4) from jw13.i 196 4) (fun v21 ev21 hv21 => ?_))
          have hE := zletE ev21 hE
          refine cgets 20 (by decide) hx hb hZ hS hown lf47 dX4_readWhole_34 (ztop (.ref (E (zn 20))) rfl ?_)
          refine cxacmp_ne (a := v21) (b := (20 : Int32)) (tgt := 86) hEi hv21 ((zI.lit (a := 20) (b := 20) (c := 20) (by decide)).w (c := 0) (d := 32) (by decide)) hx hb dX4_readWhole_37 (by decide) (fun c22 => ?_) (fun c22 => ?_)
          · have hE := zifnT c22 hE
            refine lv_iconst (v := 1) hx hb dX4_readWhole_86 (by decide) ?_
            exact ziretQ hQ hx hb hr rfl hlocks ((1 : Int32), rw13, qw13) rfl ⟨((zI.lit (a := 1) (b := 1) (c := 1) (by decide)).w (c := 0) (d := 1) (by decide)), jw13, fw13, (hE.symm.trans hX), trivial⟩ hw hS dX4_readWhole_87
          · have hE := zifnF c22 hE
            exact cut40 k18 hE H locs ls hw hS (lv_sub hl [0, 1, 2, 3] rfl)
  intro H locs hw hS ls hl
  have hl : lv_has ls 5 [(0, .ref (y 192)), (1, .ref (y 196)), (2, .int 1)] := hl
  have hE := hX
  unfold Gk_readWhole1 at hE
  refine lv_aload_n hx hb dX4_readWhole_0 rfl (lv_at hl 0 rfl) ?_
  refine lv_aload_n hx hb dX4_readWhole_1 rfl (lv_at hl 1 rfl) ?_
  refine lv_iload_n hx hb dX4_readWhole_2 rfl (lv_at hl 2 rfl) ?_
  refine kcallV (As := [.ref (y 196), .int 1]) (rest := []) ⟨hx, hb, hml, hown, hts⟩ (kc_readTest1 l D ct E y r q hJ0 hEi) (wqX4_32_kc_readTest1 hts ⟨Nat.le_of_ble_eq_true rfl, Nat.le_of_ble_eq_true rfl⟩) hw hS hA hK hZ hN 4 192 rfl kg192 rfl hl.1 rfl (Nat.le_of_ble_eq_true rfl) dX4_readWhole_3 6 rfl (fun u23 H locs pu23 hw hS => ?_)
  obtain ⟨v24, r25, q26⟩ := u23
  have hv24 : zI 0 1 v24 := pu23.1
  have ju23 : kJ r25 := pu23.2.1
  have fu23 : zFr [196, 192, 193] r r25 := pu23.2.2.1
  have xu23 : (v24, r25, q26) = (Gk_readTest1 r q) := pu23.2.2.2.1
  have hE := zc_vrqE xu23 hE
  have hw : zPD D A (kW ct E y r25 q26) H := hw
  refine zfr 6 [.int v24] rfl rfl ?_
  refine lv_if_ne (tgt := 11) hx hb dX4_readWhole_6 (by decide) (fun c27 => ?_) (fun c27 => ?_)
  · have hE := zifnT c27 hE
    have k28 : zI 1 1 (v24) := zI.neD c27 hv24 (zI.lit (a := 0) (b := 0) (c := 0) (by decide)) (by decide)
    refine lv_iconst (v := 0) hx hb dX4_readWhole_11 (by decide) ?_
    refine lv_istore_n (lv' := [(3, .int 0), (0, .ref (y 192)), (1, .ref (y 196)), (2, .int 1)]) hx hb dX4_readWhole_12 rfl hl (by decide) rfl (fun ls hl => ?_)
    exact cut13 1001 0 r25 q26 ((zI.lit (a := 0) (b := 0) (c := 0) (by decide)).w (c := 0) (d := 1000) (by decide)) ju23 ((zFr.refl).tr fu23 rfl) hE (zI.m0 (zI.lit (a := 0) (b := 0) (c := 0) (by decide)) (by decide)) H locs ls hw hS (lv_sub hl [1, 2, 3, 0] rfl)
  · have hE := zifnF c27 hE
    have k29 : zI 0 0 (v24) := zI.eqq c27 (zI.lit (a := 0) (b := 0) (c := 0) (by decide))
    refine lv_iconst (v := 0) hx hb dX4_readWhole_9 (by decide) ?_
    exact ziretQ hQ hx hb hr rfl hlocks ((0 : Int32), r25, q26) rfl ⟨((zI.lit (a := 0) (b := 0) (c := 0) (by decide)).w (c := 0) (d := 1) (by decide)), ju23, ((zFr.refl).tr fu23 rfl), (hE.symm.trans hX), trivial⟩ hw hS dX4_readWhole_10

set_option maxHeartbeats 4000000 in
set_option maxRecDepth 100000 in
theorem kc_readPart0 (l : Launch) (D : va_G) (ct : Nat → ClassId) (E : Nat → Nat) (y : Nat → Nat) (r : zRr) (q : zRq) (hJ0 : kJ r) (hEi : kEi E) : cC l yX4_readPart (.code yX4_readPart cX4_readPart 6 (some .boolean) :: wsL_law0) ({ frames := 32, cells := 0, slots := 0, locals := 1320 }) D ct E [.ref (y 192), .ref (y 196), .int 0] (kW ct E y r q) (S := Int32 × zRr × zRq) (fun u => some (.int u.1)) (fun u => zI 0 1 u.1 ∧ kJ u.2.1 ∧ zFr [196, 192, 193] r u.2.1 ∧ u = (Gk_readPart0 r q) ∧ True) (fun u => kW ct E y u.2.1 u.2.2) := by
  refine cofQ cX4_readPart 6 (some .boolean) (by decide) rfl (Nat.le_of_ble_eq_true rfl) ?_
  intro p e s m below meth c A a9 Q ha9 hx hb hr hml hts hown hlocks hname hK hA hZ hN hQ
  have hown : s.vm.findClass RX4 = some m.cls := hown
  have hiX9 : ∀ w ∈ wsX90, w ∈ .code yX4_readPart cX4_readPart 6 (some .boolean) :: wsL_law0 := fun _ h => ki (zs_wsX90 _ h)
  have lf36 := hts (.fieldLink RX4 36 "BeardPass$Tape" "sort" "LBeardPass$Sort;") (ki (zr18 17 rfl))
  have lf77 := hts (.fieldLink RX4 77 "BeardPass$Sort" "OPEN" "LBeardPass$Sort;") (ki (zr19 1 rfl))
  have lf80 := hts (.fieldLink RX4 80 "BeardPass$Sort" "NOT" "LBeardPass$Sort;") (ki (zr19 2 rfl))
  have lf94 := hts (.fieldLink RX4 94 "BeardPass$Sort" "CLOSE" "LBeardPass$Sort;") (ki (zr19 3 rfl))
  obtain ⟨X, hX⟩ : ∃ X, X = (Gk_readPart0 r q) := ⟨_, rfl⟩
  have cut130 : ∀ (w130_5 : Int32) (rw130 : zRr) (qw130 : zRq) (jw130 : kJ rw130) (fw130 : zFr [196, 192, 193] r rw130) (hE : X = Gk_readPart0_130 w130_5 rw130 qw130), zKf p l e ({ frames := 32, cells := 0, slots := 0, locals := 1320 }) s m a9 below meth c Q D A 130 6 [] (kW ct E y rw130 qw130) [(0, .ref (y 192)), (5, .int w130_5)] := by
    intro w130_5 rw130 qw130 jw130 fw130 hE H locs ls hw hS hl
    unfold Gk_readPart0_130 at hE
    refine lv_aload_n hx hb dX4_readPart_130 rfl (lv_at hl 0 rfl) ?_
    refine lv_iload hx hb dX4_readPart_131 (lv_at hl 1 rfl) ?_
    refine kcallV (As := [.int w130_5]) (rest := []) ⟨hx, hb, hml, hown, hts⟩ (kc_add l D ct E y w130_5 rw130 qw130 jw130 hEi) (wqX4_22_kc_add hts ⟨Nat.le_of_ble_eq_true rfl, Nat.le_of_ble_eq_true rfl⟩) hw hS hA hK hZ hN 4 192 rfl kg192 rfl hl.1 rfl (Nat.le_of_ble_eq_true rfl) dX4_readPart_133 136 rfl (fun u1 H locs pu1 hw hS => ?_)
    have ju1 : kJ u1 := pu1.1
    have fu1 : zFr [192, 193] rw130 u1 := pu1.2.1
    have xu1 : u1 = (Gk_add w130_5 rw130 qw130) := pu1.2.2.1
    have hE := zletE xu1 hE
    have hw : zPD D A (kW ct E y u1 qw130) H := hw
    refine zfr 136 [] rfl rfl ?_
    refine lv_iconst (v := 1) hx hb dX4_readPart_136 (by decide) ?_
    exact ziretQ hQ hx hb hr rfl hlocks ((1 : Int32), u1, qw130) rfl ⟨((zI.lit (a := 1) (b := 1) (c := 1) (by decide)).w (c := 0) (d := 1) (by decide)), ju1, (fw130.tr fu1 rfl), (hE.symm.trans hX), trivial⟩ hw hS dX4_readPart_137
  have cut66 : ∀ (w66_3 : Int32) (w66_4 : Int32) (w66_5 : Int32) (hw66_3 : zI 0 1 w66_3) (hw66_4 : zI 0 1 w66_4) (hE : X = Gk_readPart0_66 r q w66_3 w66_4 w66_5), zKf p l e ({ frames := 32, cells := 0, slots := 0, locals := 1320 }) s m a9 below meth c Q D A 66 6 [] (kW ct E y r q) [(0, .ref (y 192)), (1, .ref (y 196)), (2, .int 0), (3, .int w66_3), (4, .int w66_4), (5, .int w66_5)] := by
    intro w66_3 w66_4 w66_5 hw66_3 hw66_4 hE H locs ls hw hS hl
    unfold Gk_readPart0_66 at hE
    refine lv_iload_n hx hb dX4_readPart_66 rfl (lv_at hl 2 rfl) ?_
    refine lv_iconst (v := 5) hx hb dX4_readPart_67 (by decide) ?_
    refine lv_icmp_lt (tgt := 77) hx hb dX4_readPart_68 (by decide) (fun _ => ?_) (fun h => absurd (by decide) h)
    refine lv_aload_n hx hb dX4_readPart_77 rfl (lv_at hl 1 rfl) ?_
    refine kcallV (As := []) (rest := []) ⟨hx, hb, hml, hown, hts⟩ (kc_step l D ct E y r q hJ0 hEi) (wqX4_50_kc_step hts ⟨Nat.le_of_ble_eq_true rfl, Nat.le_of_ble_eq_true rfl⟩) hw hS hA hK hZ hN 8 196 rfl kg196 rfl hl.1 rfl (Nat.le_of_ble_eq_true rfl) dX4_readPart_78 81 rfl (fun u4 H locs pu4 hw hS => ?_)
    obtain ⟨r5, q6⟩ := u4
    have ju4 : kJ r5 := pu4.1
    have fu4 : zFr [196] r r5 := pu4.2.1
    have xu4 : (r5, q6) = (Gk_step r q) := pu4.2.2.1
    have hE := zc_rqE xu4 hE
    have hw : zPD D A (kW ct E y r5 q6) H := hw
    refine zfr 81 [] rfl rfl ?_
    refine lv_iload_n hx hb dX4_readPart_81 rfl (lv_at hl 3 rfl) ?_
    refine lv_if_eq (tgt := 112) hx hb dX4_readPart_82 (by decide) (fun c7 => ?_) (fun c7 => ?_)
    · have hE := zifT c7 hE
      have k8 : zI 0 0 (w66_3) := zI.eqq c7 (zI.lit (a := 0) (b := 0) (c := 0) (by decide))
      refine lv_iload hx hb dX4_readPart_112 (lv_at hl 4 rfl) ?_
      refine lv_if_eq (tgt := 130) hx hb dX4_readPart_114 (by decide) (fun c9 => ?_) (fun c9 => ?_)
      · have hE := zifT c9 hE
        have k10 : zI 0 0 (w66_4) := zI.eqq c9 (zI.lit (a := 0) (b := 0) (c := 0) (by decide))
        exact cut130 w66_5 r5 q6 ju4 ((zFr.refl).tr fu4 rfl) hE H locs ls hw hS (lv_sub hl [0, 5] rfl)
      · have hE := zifF c9 hE
        have k11 : zI 1 1 (w66_4) := zI.neD c9 hw66_4 (zI.lit (a := 0) (b := 0) (c := 0) (by decide)) (by decide)
        refine lv_aload_n hx hb dX4_readPart_117 rfl (lv_at hl 0 rfl) ?_
        refine lv_aload_n hx hb dX4_readPart_118 rfl (lv_at hl 1 rfl) ?_
        refine lv_iload_n hx hb dX4_readPart_119 rfl (lv_at hl 2 rfl) ?_
        refine lv_iconst (v := 1) hx hb dX4_readPart_120 (by decide) ?_
        refine lv_iadd hx hb dX4_readPart_121 (ztop (.int 1) (congrArg Value.int (by decide)) ?_)
        refine kcallV (As := [.ref (y 196), .int 1]) (rest := []) ⟨hx, hb, hml, hown, hts⟩ (kc_readPart1 l D ct E y r5 q6 ju4 hEi) (wqX4_71_kc_readPart1 hts ⟨Nat.le_of_ble_eq_true rfl, Nat.le_of_ble_eq_true rfl⟩) hw hS hA hK hZ hN 4 192 rfl kg192 rfl hl.1 rfl (Nat.le_of_ble_eq_true rfl) dX4_readPart_122 125 rfl (fun u12 H locs pu12 hw hS => ?_)
        obtain ⟨v13, r14, q15⟩ := u12
        have hv13 : zI 0 1 v13 := pu12.1
        have ju12 : kJ r14 := pu12.2.1
        have fu12 : zFr [196, 192, 193] r5 r14 := pu12.2.2.1
        have xu12 : (v13, r14, q15) = (Gk_readPart1 r5 q6) := pu12.2.2.2.1
        have hE := zc_vrqE xu12 hE
        have hw : zPD D A (kW ct E y r14 q15) H := hw
        refine zfr 125 [.int v13] rfl rfl ?_
        refine lv_if_ne (tgt := 130) hx hb dX4_readPart_125 (by decide) (fun c16 => ?_) (fun c16 => ?_)
        · have hE := zifnT c16 hE
          have k17 : zI 1 1 (v13) := zI.neD c16 hv13 (zI.lit (a := 0) (b := 0) (c := 0) (by decide)) (by decide)
          exact cut130 w66_5 r14 q15 ju12 (((zFr.refl).tr fu4 rfl).tr fu12 rfl) hE H locs ls hw hS (lv_sub hl [0, 5] rfl)
        · have hE := zifnF c16 hE
          have k18 : zI 0 0 (v13) := zI.eqq c16 (zI.lit (a := 0) (b := 0) (c := 0) (by decide))
          refine lv_iconst (v := 0) hx hb dX4_readPart_128 (by decide) ?_
          exact ziretQ hQ hx hb hr rfl hlocks ((0 : Int32), r14, q15) rfl ⟨((zI.lit (a := 0) (b := 0) (c := 0) (by decide)).w (c := 0) (d := 1) (by decide)), ju12, (((zFr.refl).tr fu4 rfl).tr fu12 rfl), (hE.symm.trans hX), trivial⟩ hw hS dX4_readPart_129
    · have hE := zifF c7 hE
      have k19 : zI 1 1 (w66_3) := zI.neD c7 hw66_3 (zI.lit (a := 0) (b := 0) (c := 0) (by decide)) (by decide)
      refine lv_aload_n hx hb dX4_readPart_85 rfl (lv_at hl 0 rfl) ?_
      refine lv_aload_n hx hb dX4_readPart_86 rfl (lv_at hl 1 rfl) ?_
      refine lv_iload_n hx hb dX4_readPart_87 rfl (lv_at hl 2 rfl) ?_
      refine lv_iconst (v := 1) hx hb dX4_readPart_88 (by decide) ?_
      refine lv_iadd hx hb dX4_readPart_89 (ztop (.int 1) (congrArg Value.int (by decide)) ?_)
      refine kcallV (As := [.ref (y 196), .int 1]) (rest := []) ⟨hx, hb, hml, hown, hts⟩ (kc_readWhole1 l D ct E y r5 q6 ju4 hEi) (wqX4_91_kc_readWhole1 hts ⟨Nat.le_of_ble_eq_true rfl, Nat.le_of_ble_eq_true rfl⟩) hw hS hA hK hZ hN 4 192 rfl kg192 rfl hl.1 rfl (Nat.le_of_ble_eq_true rfl) dX4_readPart_90 93 rfl (fun u20 H locs pu20 hw hS => ?_)
      obtain ⟨v21, r22, q23⟩ := u20
      have hv21 : zI 0 1 v21 := pu20.1
      have ju20 : kJ r22 := pu20.2.1
      have fu20 : zFr [196, 192, 193] r5 r22 := pu20.2.2.1
      have xu20 : (v21, r22, q23) = (Gk_readWhole1 r5 q6) := pu20.2.2.2.1
      have hE := zc_vrqE xu20 hE
      have hw : zPD D A (kW ct E y r22 q23) H := hw
      refine zfr 93 [.int v21] rfl rfl ?_
      refine lv_if_eq (tgt := 110) hx hb dX4_readPart_93 (by decide) (fun c24 => ?_) (fun c24 => ?_)
      · have hE := zifT c24 hE
        have k25 : zI 0 0 (v21) := zI.eqq c24 (zI.lit (a := 0) (b := 0) (c := 0) (by decide))
        refine lv_iconst (v := 0) hx hb dX4_readPart_110 (by decide) ?_
        exact ziretQ hQ hx hb hr rfl hlocks ((0 : Int32), r22, q23) rfl ⟨((zI.lit (a := 0) (b := 0) (c := 0) (by decide)).w (c := 0) (d := 1) (by decide)), ju20, (((zFr.refl).tr fu4 rfl).tr fu20 rfl), (hE.symm.trans hX), trivial⟩ hw hS dX4_readPart_111
      · have hE := zifF c24 hE
        have k26 : zI 1 1 (v21) := zI.neD c24 hv21 (zI.lit (a := 0) (b := 0) (c := 0) (by decide)) (by decide)
        refine lv_aload_n hx hb dX4_readPart_96 rfl (lv_at hl 1 rfl) ?_
        refine cgets 22 (by decide) hx hb hZ hS hown lf94 dX4_readPart_97 (ztop (.ref (E (zn 22))) rfl ?_)
        refine kcallV (As := [.ref (E (zn 22))]) (rest := []) ⟨hx, hb, hml, hown, hts⟩ (kc_take l D ct E y 22 r22 q23 ((zI.lit (a := 22) (b := 22) (c := 22) (by decide)).w (c := 0) (d := 32) (by decide)) ju20 hEi) (wqX4_97_kc_take hts ⟨Nat.le_of_ble_eq_true rfl, Nat.le_of_ble_eq_true rfl⟩) hw hS hA hK hZ hN 8 196 rfl kg196 rfl hl.1 rfl (Nat.le_of_ble_eq_true rfl) dX4_readPart_100 103 rfl (fun u27 H locs pu27 hw hS => ?_)
        obtain ⟨v28, r29, q30⟩ := u27
        have hv28 : zI 0 1 v28 := pu27.1
        have ju27 : kJ r29 := pu27.2.1
        have fu27 : zFr [196] r22 r29 := pu27.2.2.1
        have xu27 : (v28, r29, q30) = (Gk_take 22 r22 q23) := pu27.2.2.2.1
        have hE := zc_vrqE xu27 hE
        have hw : zPD D A (kW ct E y r29 q30) H := hw
        refine zfr 103 [.int v28] rfl rfl ?_
        refine lv_if_eq (tgt := 110) hx hb dX4_readPart_103 (by decide) (fun c31 => ?_) (fun c31 => ?_)
        · have hE := zifT c31 hE
          have k32 : zI 0 0 (v28) := zI.eqq c31 (zI.lit (a := 0) (b := 0) (c := 0) (by decide))
          refine lv_iconst (v := 0) hx hb dX4_readPart_110 (by decide) ?_
          exact ziretQ hQ hx hb hr rfl hlocks ((0 : Int32), r29, q30) rfl ⟨((zI.lit (a := 0) (b := 0) (c := 0) (by decide)).w (c := 0) (d := 1) (by decide)), ju27, ((((zFr.refl).tr fu4 rfl).tr fu20 rfl).tr fu27 rfl), (hE.symm.trans hX), trivial⟩ hw hS dX4_readPart_111
        · have hE := zifF c31 hE
          have k33 : zI 1 1 (v28) := zI.neD c31 hv28 (zI.lit (a := 0) (b := 0) (c := 0) (by decide)) (by decide)
          refine lv_iconst (v := 1) hx hb dX4_readPart_106 (by decide) ?_
          refine lv_goto (tgt := 111) hx hb dX4_readPart_107 (by decide) ?_
          exact ziretQ hQ hx hb hr rfl hlocks ((1 : Int32), r29, q30) rfl ⟨((zI.lit (a := 1) (b := 1) (c := 1) (by decide)).w (c := 0) (d := 1) (by decide)), ju27, ((((zFr.refl).tr fu4 rfl).tr fu20 rfl).tr fu27 rfl), (hE.symm.trans hX), trivial⟩ hw hS dX4_readPart_111
  have cut47 : ∀ (w47_3 : Int32) (w47_4 : Int32) (w47_s0 : Int32) (hw47_3 : zI 0 1 w47_3) (hw47_4 : zI 0 1 w47_4) (hE : X = Gk_readPart0_47 r q w47_3 w47_4 w47_s0), zKf p l e ({ frames := 32, cells := 0, slots := 0, locals := 1320 }) s m a9 below meth c Q D A 47 6 [.int w47_s0] (kW ct E y r q) [(0, .ref (y 192)), (1, .ref (y 196)), (2, .int 0), (3, .int w47_3), (4, .int w47_4)] := by
    intro w47_3 w47_4 w47_s0 hw47_3 hw47_4 hE H locs ls hw hS hl
    unfold Gk_readPart0_47 at hE
    refine lv_istore (lv' := [(5, .int w47_s0), (0, .ref (y 192)), (1, .ref (y 196)), (2, .int 0), (3, .int w47_3), (4, .int w47_4)]) hx hb dX4_readPart_47 hl (by decide) rfl (fun ls hl => ?_)
    refine lv_iload_n hx hb dX4_readPart_49 rfl (lv_at hl 4 rfl) ?_
    refine lv_if_ne (tgt := 66) hx hb dX4_readPart_50 (by decide) (fun c34 => ?_) (fun c34 => ?_)
    · have hE := zifnT c34 hE
      have k35 : zI 1 1 (w47_3) := zI.neD c34 hw47_3 (zI.lit (a := 0) (b := 0) (c := 0) (by decide)) (by decide)
      exact cut66 w47_3 w47_4 w47_s0 (k35.w (c := 0) (d := 1) (by decide)) hw47_4 hE H locs ls hw hS (lv_sub hl [1, 2, 3, 4, 5, 0] rfl)
    · have hE := zifnF c34 hE
      have k36 : zI 0 0 (w47_3) := zI.eqq c34 (zI.lit (a := 0) (b := 0) (c := 0) (by decide))
      refine lv_iload hx hb dX4_readPart_53 (lv_at hl 0 rfl) ?_
      refine lv_bipush (v := (-13)) hx hb dX4_readPart_55 (by decide) ?_
      refine lv_icmp_ne (tgt := 66) hx hb dX4_readPart_57 (by decide) (fun c37 => ?_) (fun c37 => ?_)
      · have hE := zifnT c37 hE
        exact cut66 w47_3 w47_4 w47_s0 (k36.w (c := 0) (d := 1) (by decide)) hw47_4 hE H locs ls hw hS (lv_sub hl [1, 2, 3, 4, 5, 0] rfl)
      · have hE := zifnF c37 hE
        have k38 : zI (-13) (-13) (w47_s0) := zI.eqq c37 (zI.lit (a := (-13)) (b := (-13)) (c := (-13)) (by decide))
        refine lv_aload_n hx hb dX4_readPart_60 rfl (lv_at hl 2 rfl) ?_
        refine lv_iconst (v := 1) hx hb dX4_readPart_61 (by decide) ?_
        refine kcallV (As := [.int 1]) (rest := []) ⟨hx, hb, hml, hown, hts⟩ (kc_wrong l D ct E y (1 : Int32) r q hJ0 hEi) (wqX4_87_kc_wrong hts ⟨Nat.le_of_ble_eq_true rfl, Nat.le_of_ble_eq_true rfl⟩) hw hS hA hK hZ hN 8 196 rfl kg196 rfl hl.1 rfl (Nat.le_of_ble_eq_true rfl) dX4_readPart_62 65 rfl (fun u39 H locs pu39 hw hS => ?_)
        obtain ⟨v40, r41⟩ := u39
        have hv40 : zI 0 0 v40 := pu39.1
        have ju39 : kJ r41 := pu39.2.1
        have fu39 : zFr [196] r r41 := pu39.2.2.1
        have xu39 : (v40, r41) = (Gk_wrong (1 : Int32) r q) := pu39.2.2.2.1
        have hE := zc_vrE xu39 hE
        have hw : zPD D A (kW ct E y r41 q) H := hw
        refine zfr 65 [.int v40] rfl rfl ?_
        exact ziretQ hQ hx hb hr ((hv40.w (c := 0) (d := 1) (by decide)).rn) hlocks (v40, r41, q) rfl ⟨(hv40.w (c := 0) (d := 1) (by decide)), ju39, ((zFr.refl).tr fu39 rfl), (hE.symm.trans hX), trivial⟩ hw hS dX4_readPart_65
  have cut31 : ∀ (w31_3 : Int32) (w31_s0 : Int32) (hw31_3 : zI 0 1 w31_3) (hw31_s0 : zI 0 1 w31_s0) (hE : X = Gk_readPart0_31 r q w31_3 w31_s0), zKf p l e ({ frames := 32, cells := 0, slots := 0, locals := 1320 }) s m a9 below meth c Q D A 31 6 [.int w31_s0] (kW ct E y r q) [(0, .ref (y 192)), (1, .ref (y 196)), (2, .int 0), (3, .int w31_3)] := by
    intro w31_3 w31_s0 hw31_3 hw31_s0 hE H locs ls hw hS hl
    unfold Gk_readPart0_31 at hE
    refine lv_istore (lv' := [(4, .int w31_s0), (0, .ref (y 192)), (1, .ref (y 196)), (2, .int 0), (3, .int w31_3)]) hx hb dX4_readPart_31 hl (by decide) rfl (fun ls hl => ?_)
    refine lv_iload hx hb dX4_readPart_33 (lv_at hl 0 rfl) ?_
    refine lv_if_eq (tgt := 43) hx hb dX4_readPart_35 (by decide) (fun c42 => ?_) (fun c42 => ?_)
    · have hE := zifT c42 hE
      have k43 : zI 0 0 (w31_s0) := zI.eqq c42 (zI.lit (a := 0) (b := 0) (c := 0) (by decide))
      refine lv_aload_n hx hb dX4_readPart_43 rfl (lv_at hl 2 rfl) ?_
      refine zcallW (va_runS (As := [.ref (y 196)]) (rest := []) ⟨hx, hb, hml, hown, hts⟩ (kc_valueHere l D ct E y r q hJ0 hEi H.size) (va_cwS 1 hts (kgS (zr19 4 rfl) (zr19 5 rfl) (zr4 12 rfl) (zr19 6 rfl)) rfl rfl rfl (by decide +kernel) ⟨Nat.le_of_ble_eq_true rfl, Nat.le_of_ble_eq_true rfl⟩) (cpreS hK hw hS hA hZ hN (List.range (kW ct E y r q).length) kWn (zrange _)) rfl rfl hl.1 rfl (lv_room (Nat.le_of_ble_eq_true rfl)) dX4_readPart_44 ⟨Nat.le_of_ble_eq_true rfl, Nat.le_of_ble_eq_true rfl⟩) hw hS hA 47 rfl (fun u44 H locs pu44 hw hS => ?_)
      have hu44 : zI (-2147483648) 2147483647 u44 := pu44.1
      have xu44 : u44 = (Gk_valueHere r q) := pu44.2.1
      have hE := zletE xu44 hE
      have hw : zPD D A (kW ct E y r q) H := hw
      refine zfr 47 [.int u44] rfl rfl ?_
      exact cut47 w31_3 w31_s0 u44 hw31_3 (k43.w (c := 0) (d := 1) (by decide)) hE H locs ls hw hS (lv_sub hl [1, 2, 3, 4, 0] rfl)
    · have hE := zifF c42 hE
      have k46 : zI 1 1 (w31_s0) := zI.neD c42 hw31_s0 (zI.lit (a := 0) (b := 0) (c := 0) (by decide)) (by decide)
      refine lv_bipush (v := (-5)) hx hb dX4_readPart_38 (by decide) ?_
      refine lv_goto (tgt := 47) hx hb dX4_readPart_40 (by decide) ?_
      exact cut47 w31_3 w31_s0 (-5) hw31_3 (k46.w (c := 0) (d := 1) (by decide)) hE H locs ls hw hS (lv_sub hl [1, 2, 3, 4, 0] rfl)
  have cut15 : ∀ (w15_s0 : Int32) (hw15_s0 : zI 0 1 w15_s0) (hE : X = Gk_readPart0_15 r q w15_s0), zKf p l e ({ frames := 32, cells := 0, slots := 0, locals := 1320 }) s m a9 below meth c Q D A 15 6 [.int w15_s0] (kW ct E y r q) [(0, .ref (y 192)), (1, .ref (y 196)), (2, .int 0)] := by
    intro w15_s0 hw15_s0 hE H locs ls hw hS hl
    unfold Gk_readPart0_15 at hE
    refine lv_istore_n (lv' := [(3, .int w15_s0), (0, .ref (y 192)), (1, .ref (y 196)), (2, .int 0)]) hx hb dX4_readPart_15 rfl hl (by decide) rfl (fun ls hl => ?_)
    refine lv_aload_n hx hb dX4_readPart_16 rfl (lv_at hl 2 rfl) ?_
    refine va_get (D := D) (ci := 8) (v := .ref (E (zn (r 196 4)))) hx hb hts hiX9 hown hK hw.1 196 kg196 rfl 4 (by decide) lf36 (fun _ h9 => h9) rfl dX4_readPart_17 (cgenSE (show zI 0 32 (r 196 4) from hJ0.i 196 4) (fun v47 ev47 hv47 => ?_))
    have hE := zletE ev47 hE
    refine cgets 18 (by decide) hx hb hZ hS hown lf80 dX4_readPart_20 (ztop (.ref (E (zn 18))) rfl ?_)
    refine cxacmp_ne (a := v47) (b := (18 : Int32)) (tgt := 30) hEi hv47 ((zI.lit (a := 18) (b := 18) (c := 18) (by decide)).w (c := 0) (d := 32) (by decide)) hx hb dX4_readPart_23 (by decide) (fun c48 => ?_) (fun c48 => ?_)
    · have hE := zifnT c48 hE
      refine lv_iconst (v := 0) hx hb dX4_readPart_30 (by decide) ?_
      exact cut31 w15_s0 0 hw15_s0 ((zI.lit (a := 0) (b := 0) (c := 0) (by decide)).w (c := 0) (d := 1) (by decide)) hE H locs ls hw hS (lv_sub hl [1, 2, 3, 0] rfl)
    · have hE := zifnF c48 hE
      refine lv_iconst (v := 1) hx hb dX4_readPart_26 (by decide) ?_
      refine lv_goto (tgt := 31) hx hb dX4_readPart_27 (by decide) ?_
      exact cut31 w15_s0 1 hw15_s0 ((zI.lit (a := 1) (b := 1) (c := 1) (by decide)).w (c := 0) (d := 1) (by decide)) hE H locs ls hw hS (lv_sub hl [1, 2, 3, 0] rfl)
  intro H locs hw hS ls hl
  have hl : lv_has ls 6 [(0, .ref (y 192)), (1, .ref (y 196)), (2, .int 0)] := hl
  have hE := hX
  unfold Gk_readPart0 at hE
  refine lv_aload_n hx hb dX4_readPart_0 rfl (lv_at hl 1 rfl) ?_
  refine va_get (D := D) (ci := 8) (v := .ref (E (zn (r 196 4)))) hx hb hts hiX9 hown hK hw.1 196 kg196 rfl 4 (by decide) lf36 (fun _ h9 => h9) rfl dX4_readPart_1 (cgenSE (show zI 0 32 (r 196 4) from hJ0.i 196 4) (fun v49 ev49 hv49 => ?_))
  have hE := zletE ev49 hE
  refine cgets 21 (by decide) hx hb hZ hS hown lf77 dX4_readPart_4 (ztop (.ref (E (zn 21))) rfl ?_)
  refine cxacmp_ne (a := v49) (b := (21 : Int32)) (tgt := 14) hEi hv49 ((zI.lit (a := 21) (b := 21) (c := 21) (by decide)).w (c := 0) (d := 32) (by decide)) hx hb dX4_readPart_7 (by decide) (fun c50 => ?_) (fun c50 => ?_)
  · have hE := zifnT c50 hE
    refine lv_iconst (v := 0) hx hb dX4_readPart_14 (by decide) ?_
    exact cut15 0 ((zI.lit (a := 0) (b := 0) (c := 0) (by decide)).w (c := 0) (d := 1) (by decide)) hE H locs ls hw hS (lv_sub hl [0, 1, 2] rfl)
  · have hE := zifnF c50 hE
    refine lv_iconst (v := 1) hx hb dX4_readPart_10 (by decide) ?_
    refine lv_goto (tgt := 15) hx hb dX4_readPart_11 (by decide) ?_
    exact cut15 1 ((zI.lit (a := 1) (b := 1) (c := 1) (by decide)).w (c := 0) (d := 1) (by decide)) hE H locs ls hw hS (lv_sub hl [0, 1, 2] rfl)

set_option maxHeartbeats 4000000 in
set_option maxRecDepth 100000 in
theorem kc_readProduct0 (l : Launch) (D : va_G) (ct : Nat → ClassId) (E : Nat → Nat) (y : Nat → Nat) (r : zRr) (q : zRq) (hJ0 : kJ r) (hEi : kEi E) : cC l yX4_readProduct (.code yX4_readProduct cX4_readProduct 4 (some .boolean) :: wsL_law0) ({ frames := 33, cells := 0, slots := 0, locals := 1360 }) D ct E [.ref (y 192), .ref (y 196), .int 0] (kW ct E y r q) (S := Int32 × zRr × zRq) (fun u => some (.int u.1)) (fun u => zI 0 1 u.1 ∧ kJ u.2.1 ∧ zFr [196, 192, 193] r u.2.1 ∧ u = (Gk_readProduct0 r q) ∧ True) (fun u => kW ct E y u.2.1 u.2.2) := by
  refine cofQ cX4_readProduct 4 (some .boolean) (by decide) rfl (Nat.le_of_ble_eq_true rfl) ?_
  intro p e s m below meth c A a9 Q ha9 hx hb hr hml hts hown hlocks hname hK hA hZ hN hQ
  have hown : s.vm.findClass RX4 = some m.cls := hown
  have hiX9 : ∀ w ∈ wsX90, w ∈ .code yX4_readProduct cX4_readProduct 4 (some .boolean) :: wsL_law0 := fun _ h => ki (zs_wsX90 _ h)
  have lf36 := hts (.fieldLink RX4 36 "BeardPass$Tape" "sort" "LBeardPass$Sort;") (ki (zr18 17 rfl))
  have lf74 := hts (.fieldLink RX4 74 "BeardPass$Sort" "TIMES" "LBeardPass$Sort;") (ki (zr19 18 rfl))
  obtain ⟨X, hX⟩ : ∃ X, X = (Gk_readProduct0 r q) := ⟨_, rfl⟩
  have cut13 : ∀ (n13 : Nat) (w13_3 : Int32) (rw13 : zRr) (qw13 : zRq) (hw13_3 : zI 0 1000 w13_3) (jw13 : kJ rw13) (fw13 : zFr [196, 192, 193] r rw13) (hE : X = Gk_readProduct0_13 n13 w13_3 rw13 qw13), 1000 - w13_3.toInt < (n13 : Int) → zKf p l e ({ frames := 33, cells := 0, slots := 0, locals := 1360 }) s m a9 below meth c Q D A 13 4 [] (kW ct E y rw13 qw13) [(0, .ref (y 192)), (1, .ref (y 196)), (2, .int 0), (3, .int w13_3)] := by
    intro n13
    induction n13 with
    | zero => intro w13_3 rw13 qw13 hw13_3 jw13 fw13 hE hm13; exact zI.no hw13_3 (by decide) hm13
    | succ n13 ih13 =>
      intro w13_3 rw13 qw13 hw13_3 jw13 fw13 hE hm13
      have hE : X = Bk_readProduct0_13 (Gk_readProduct0_13 n13) w13_3 rw13 qw13 := hE
      unfold Bk_readProduct0_13 at hE
      intro H locs ls hw hS hl
      refine lv_iload_n hx hb dX4_readProduct_13 rfl (lv_at hl 3 rfl) ?_
      refine lv_sipush (v := 1000) hx hb dX4_readProduct_14 (by decide) ?_
      refine lv_icmp_ge (tgt := 57) hx hb dX4_readProduct_17 (by decide) (fun c1 => ?_) (fun c1 => ?_)
      · have hE := zifT c1 hE
        have k2 : zI 1000 1000 (w13_3) := zI.leD c1 (zI.lit (a := 1000) (b := 1000) (c := 1000) (by decide)) hw13_3 (by decide)
        refine lv_iconst (v := 1) hx hb dX4_readProduct_57 (by decide) ?_
        exact ziretQ hQ hx hb hr rfl hlocks ((1 : Int32), rw13, qw13) rfl ⟨((zI.lit (a := 1) (b := 1) (c := 1) (by decide)).w (c := 0) (d := 1) (by decide)), jw13, fw13, (hE.symm.trans hX), trivial⟩ hw hS dX4_readProduct_58
      · have hE := zifF c1 hE
        have k3 : zI 0 999 (w13_3) := zI.ltU (zI.nle c1) hw13_3 (zI.lit (a := 1000) (b := 1000) (c := 1000) (by decide)) (by decide)
        refine lv_aload_n hx hb dX4_readProduct_20 rfl (lv_at hl 1 rfl) ?_
        refine va_get (D := D) (ci := 8) (v := .ref (E (zn (rw13 196 4)))) hx hb hts hiX9 hown hK hw.1 196 kg196 rfl 4 (by decide) lf36 (fun _ h9 => h9) rfl dX4_readProduct_21 (cgenSE (show zI 0 32 (rw13 196 4) from jw13.i 196 4) (fun v4 ev4 hv4 => ?_))
        have hE := zletE ev4 hE
        refine cgets 27 (by decide) hx hb hZ hS hown lf74 dX4_readProduct_24 (ztop (.ref (E (zn 27))) rfl ?_)
        refine cxacmp_ne (a := v4) (b := (27 : Int32)) (tgt := 57) hEi hv4 ((zI.lit (a := 27) (b := 27) (c := 27) (by decide)).w (c := 0) (d := 32) (by decide)) hx hb dX4_readProduct_27 (by decide) (fun c5 => ?_) (fun c5 => ?_)
        · have hE := zifnT c5 hE
          refine lv_iconst (v := 1) hx hb dX4_readProduct_57 (by decide) ?_
          exact ziretQ hQ hx hb hr rfl hlocks ((1 : Int32), rw13, qw13) rfl ⟨((zI.lit (a := 1) (b := 1) (c := 1) (by decide)).w (c := 0) (d := 1) (by decide)), jw13, fw13, (hE.symm.trans hX), trivial⟩ hw hS dX4_readProduct_58
        · have hE := zifnF c5 hE
          refine lv_aload_n hx hb dX4_readProduct_30 rfl (lv_at hl 1 rfl) ?_
          refine kcallV (As := []) (rest := []) ⟨hx, hb, hml, hown, hts⟩ (kc_step l D ct E y rw13 qw13 jw13 hEi) (wqX4_50_kc_step hts ⟨Nat.le_of_ble_eq_true rfl, Nat.le_of_ble_eq_true rfl⟩) hw hS hA hK hZ hN 8 196 rfl kg196 rfl hl.1 rfl (Nat.le_of_ble_eq_true rfl) dX4_readProduct_31 34 rfl (fun u6 H locs pu6 hw hS => ?_)
          obtain ⟨r7, q8⟩ := u6
          have ju6 : kJ r7 := pu6.1
          have fu6 : zFr [196] rw13 r7 := pu6.2.1
          have xu6 : (r7, q8) = (Gk_step rw13 qw13) := pu6.2.2.1
          have hE := zc_rqE xu6 hE
          have hw : zPD D A (kW ct E y r7 q8) H := hw
          refine zfr 34 [] rfl rfl ?_
          refine lv_aload_n hx hb dX4_readProduct_34 rfl (lv_at hl 0 rfl) ?_
          refine lv_aload_n hx hb dX4_readProduct_35 rfl (lv_at hl 1 rfl) ?_
          refine lv_iload_n hx hb dX4_readProduct_36 rfl (lv_at hl 2 rfl) ?_
          refine kcallV (As := [.ref (y 196), .int 0]) (rest := []) ⟨hx, hb, hml, hown, hts⟩ (kc_readPart0 l D ct E y r7 q8 ju6 hEi) (wqX4_71_kc_readPart0 hts ⟨Nat.le_of_ble_eq_true rfl, Nat.le_of_ble_eq_true rfl⟩) hw hS hA hK hZ hN 4 192 rfl kg192 rfl hl.1 rfl (Nat.le_of_ble_eq_true rfl) dX4_readProduct_37 40 rfl (fun u9 H locs pu9 hw hS => ?_)
          obtain ⟨v10, r11, q12⟩ := u9
          have hv10 : zI 0 1 v10 := pu9.1
          have ju9 : kJ r11 := pu9.2.1
          have fu9 : zFr [196, 192, 193] r7 r11 := pu9.2.2.1
          have xu9 : (v10, r11, q12) = (Gk_readPart0 r7 q8) := pu9.2.2.2.1
          have hE := zc_vrqE xu9 hE
          have hw : zPD D A (kW ct E y r11 q12) H := hw
          refine zfr 40 [.int v10] rfl rfl ?_
          refine lv_if_ne (tgt := 45) hx hb dX4_readProduct_40 (by decide) (fun c13 => ?_) (fun c13 => ?_)
          · have hE := zifnT c13 hE
            have k14 : zI 1 1 (v10) := zI.neD c13 hv10 (zI.lit (a := 0) (b := 0) (c := 0) (by decide)) (by decide)
            refine lv_aload_n hx hb dX4_readProduct_45 rfl (lv_at hl 0 rfl) ?_
            refine lv_bipush (v := (-12)) hx hb dX4_readProduct_46 (by decide) ?_
            refine kcallV (As := [.int (-12)]) (rest := []) ⟨hx, hb, hml, hown, hts⟩ (kc_add l D ct E y ((-12) : Int32) r11 q12 ju9 hEi) (wqX4_22_kc_add hts ⟨Nat.le_of_ble_eq_true rfl, Nat.le_of_ble_eq_true rfl⟩) hw hS hA hK hZ hN 4 192 rfl kg192 rfl hl.1 rfl (Nat.le_of_ble_eq_true rfl) dX4_readProduct_48 51 rfl (fun u15 H locs pu15 hw hS => ?_)
            have ju15 : kJ u15 := pu15.1
            have fu15 : zFr [192, 193] r11 u15 := pu15.2.1
            have xu15 : u15 = (Gk_add ((-12) : Int32) r11 q12) := pu15.2.2.1
            have hE := zletE xu15 hE
            have hw : zPD D A (kW ct E y u15 q12) H := hw
            refine zfr 51 [] rfl rfl ?_
            refine lv_iinc (v := w13_3 + 1) (lv' := [(3, .int (w13_3 + 1)), (0, .ref (y 192)), (1, .ref (y 196)), (2, .int 0)]) hx hb dX4_readProduct_51 hl (k := 3) rfl (rfl) (by decide) rfl (fun ls hl => ?_)
            have k17 : zI 1 1000 (w13_3 + 1) := zI.add k3 (zI.lit (a := 1) (b := 1) (by decide)) (by decide)
            refine lv_goto (tgt := 13) hx hb dX4_readProduct_54 (by decide) ?_
            exact ih13 (w13_3 + 1) u15 q12 (k17.w (c := 0) (d := 1000) (by decide)) ju15 (((fw13.tr fu6 rfl).tr fu9 rfl).tr fu15 rfl) hE (zI.up k3 (by decide) hm13) H locs ls hw hS (lv_sub hl [1, 2, 3, 0] rfl)
          · have hE := zifnF c13 hE
            have k18 : zI 0 0 (v10) := zI.eqq c13 (zI.lit (a := 0) (b := 0) (c := 0) (by decide))
            refine lv_iconst (v := 0) hx hb dX4_readProduct_43 (by decide) ?_
            exact ziretQ hQ hx hb hr rfl hlocks ((0 : Int32), r11, q12) rfl ⟨((zI.lit (a := 0) (b := 0) (c := 0) (by decide)).w (c := 0) (d := 1) (by decide)), ju9, ((fw13.tr fu6 rfl).tr fu9 rfl), (hE.symm.trans hX), trivial⟩ hw hS dX4_readProduct_44
  intro H locs hw hS ls hl
  have hl : lv_has ls 4 [(0, .ref (y 192)), (1, .ref (y 196)), (2, .int 0)] := hl
  have hE := hX
  unfold Gk_readProduct0 at hE
  refine lv_aload_n hx hb dX4_readProduct_0 rfl (lv_at hl 0 rfl) ?_
  refine lv_aload_n hx hb dX4_readProduct_1 rfl (lv_at hl 1 rfl) ?_
  refine lv_iload_n hx hb dX4_readProduct_2 rfl (lv_at hl 2 rfl) ?_
  refine kcallV (As := [.ref (y 196), .int 0]) (rest := []) ⟨hx, hb, hml, hown, hts⟩ (kc_readPart0 l D ct E y r q hJ0 hEi) (wqX4_71_kc_readPart0 hts ⟨Nat.le_of_ble_eq_true rfl, Nat.le_of_ble_eq_true rfl⟩) hw hS hA hK hZ hN 4 192 rfl kg192 rfl hl.1 rfl (Nat.le_of_ble_eq_true rfl) dX4_readProduct_3 6 rfl (fun u19 H locs pu19 hw hS => ?_)
  obtain ⟨v20, r21, q22⟩ := u19
  have hv20 : zI 0 1 v20 := pu19.1
  have ju19 : kJ r21 := pu19.2.1
  have fu19 : zFr [196, 192, 193] r r21 := pu19.2.2.1
  have xu19 : (v20, r21, q22) = (Gk_readPart0 r q) := pu19.2.2.2.1
  have hE := zc_vrqE xu19 hE
  have hw : zPD D A (kW ct E y r21 q22) H := hw
  refine zfr 6 [.int v20] rfl rfl ?_
  refine lv_if_ne (tgt := 11) hx hb dX4_readProduct_6 (by decide) (fun c23 => ?_) (fun c23 => ?_)
  · have hE := zifnT c23 hE
    have k24 : zI 1 1 (v20) := zI.neD c23 hv20 (zI.lit (a := 0) (b := 0) (c := 0) (by decide)) (by decide)
    refine lv_iconst (v := 0) hx hb dX4_readProduct_11 (by decide) ?_
    refine lv_istore_n (lv' := [(3, .int 0), (0, .ref (y 192)), (1, .ref (y 196)), (2, .int 0)]) hx hb dX4_readProduct_12 rfl hl (by decide) rfl (fun ls hl => ?_)
    exact cut13 1001 0 r21 q22 ((zI.lit (a := 0) (b := 0) (c := 0) (by decide)).w (c := 0) (d := 1000) (by decide)) ju19 ((zFr.refl).tr fu19 rfl) hE (zI.m0 (zI.lit (a := 0) (b := 0) (c := 0) (by decide)) (by decide)) H locs ls hw hS (lv_sub hl [1, 2, 3, 0] rfl)
  · have hE := zifnF c23 hE
    have k25 : zI 0 0 (v20) := zI.eqq c23 (zI.lit (a := 0) (b := 0) (c := 0) (by decide))
    refine lv_iconst (v := 0) hx hb dX4_readProduct_9 (by decide) ?_
    exact ziretQ hQ hx hb hr rfl hlocks ((0 : Int32), r21, q22) rfl ⟨((zI.lit (a := 0) (b := 0) (c := 0) (by decide)).w (c := 0) (d := 1) (by decide)), ju19, ((zFr.refl).tr fu19 rfl), (hE.symm.trans hX), trivial⟩ hw hS dX4_readProduct_10

set_option maxHeartbeats 4000000 in
set_option maxRecDepth 100000 in
theorem kc_readSum0 (l : Launch) (D : va_G) (ct : Nat → ClassId) (E : Nat → Nat) (y : Nat → Nat) (r : zRr) (q : zRq) (hJ0 : kJ r) (hEi : kEi E) : cC l yX4_readSum (.code yX4_readSum cX4_readSum 5 (some .boolean) :: wsL_law0) ({ frames := 34, cells := 0, slots := 0, locals := 1400 }) D ct E [.ref (y 192), .ref (y 196), .int 0] (kW ct E y r q) (S := Int32 × zRr × zRq) (fun u => some (.int u.1)) (fun u => zI 0 1 u.1 ∧ kJ u.2.1 ∧ zFr [196, 192, 193] r u.2.1 ∧ u = (Gk_readSum0 r q) ∧ True) (fun u => kW ct E y u.2.1 u.2.2) := by
  refine cofQ cX4_readSum 5 (some .boolean) (by decide) rfl (Nat.le_of_ble_eq_true rfl) ?_
  intro p e s m below meth c A a9 Q ha9 hx hb hr hml hts hown hlocks hname hK hA hZ hN hQ
  have hown : s.vm.findClass RX4 = some m.cls := hown
  have hiX9 : ∀ w ∈ wsX90, w ∈ .code yX4_readSum cX4_readSum 5 (some .boolean) :: wsL_law0 := fun _ h => ki (zs_wsX90 _ h)
  have lf36 := hts (.fieldLink RX4 36 "BeardPass$Tape" "sort" "LBeardPass$Sort;") (ki (zr18 17 rfl))
  have lf65 := hts (.fieldLink RX4 65 "BeardPass$Sort" "PLUS" "LBeardPass$Sort;") (ki (zr19 20 rfl))
  have lf68 := hts (.fieldLink RX4 68 "BeardPass$Sort" "MINUS" "LBeardPass$Sort;") (ki (zr19 21 rfl))
  obtain ⟨X, hX⟩ : ∃ X, X = (Gk_readSum0 r q) := ⟨_, rfl⟩
  have cut13 : ∀ (n13 : Nat) (w13_3 : Int32) (rw13 : zRr) (qw13 : zRq) (hw13_3 : zI 0 1000 w13_3) (jw13 : kJ rw13) (fw13 : zFr [196, 192, 193] r rw13) (hE : X = Gk_readSum0_13 n13 w13_3 rw13 qw13), 1000 - w13_3.toInt < (n13 : Int) → zKf p l e ({ frames := 34, cells := 0, slots := 0, locals := 1400 }) s m a9 below meth c Q D A 13 5 [] (kW ct E y rw13 qw13) [(0, .ref (y 192)), (1, .ref (y 196)), (2, .int 0), (3, .int w13_3)] := by
    intro n13
    induction n13 with
    | zero => intro w13_3 rw13 qw13 hw13_3 jw13 fw13 hE hm13; exact zI.no hw13_3 (by decide) hm13
    | succ n13 ih13 =>
      intro w13_3 rw13 qw13 hw13_3 jw13 fw13 hE hm13
      have hE : X = Bk_readSum0_13 (Gk_readSum0_13 n13) w13_3 rw13 qw13 := hE
      unfold Bk_readSum0_13 at hE
      have cut57 : ∀ (w57_s0 : Int32) (hw57_3 : zI 0 999 w13_3) (hw57_s0 : zI (-11) (-2) w57_s0) (hE : X = Gk_readSum0_57 w13_3 rw13 qw13 (Gk_readSum0_13 n13) w57_s0), zKf p l e ({ frames := 34, cells := 0, slots := 0, locals := 1400 }) s m a9 below meth c Q D A 57 5 [.int w57_s0] (kW ct E y rw13 qw13) [(0, .ref (y 192)), (1, .ref (y 196)), (2, .int 0), (3, .int w13_3)] := by
        intro w57_s0 hw57_3 hw57_s0 hE H locs ls hw hS hl
        unfold Gk_readSum0_57 at hE
        refine lv_istore (lv' := [(4, .int w57_s0), (0, .ref (y 192)), (1, .ref (y 196)), (2, .int 0), (3, .int w13_3)]) hx hb dX4_readSum_57 hl (by decide) rfl (fun ls hl => ?_)
        refine lv_aload_n hx hb dX4_readSum_59 rfl (lv_at hl 2 rfl) ?_
        refine kcallV (As := []) (rest := []) ⟨hx, hb, hml, hown, hts⟩ (kc_step l D ct E y rw13 qw13 jw13 hEi) (wqX4_50_kc_step hts ⟨Nat.le_of_ble_eq_true rfl, Nat.le_of_ble_eq_true rfl⟩) hw hS hA hK hZ hN 8 196 rfl kg196 rfl hl.1 rfl (Nat.le_of_ble_eq_true rfl) dX4_readSum_60 63 rfl (fun u1 H locs pu1 hw hS => ?_)
        obtain ⟨r2, q3⟩ := u1
        have ju1 : kJ r2 := pu1.1
        have fu1 : zFr [196] rw13 r2 := pu1.2.1
        have xu1 : (r2, q3) = (Gk_step rw13 qw13) := pu1.2.2.1
        have hE := zc_rqE xu1 hE
        have hw : zPD D A (kW ct E y r2 q3) H := hw
        refine zfr 63 [] rfl rfl ?_
        refine lv_aload_n hx hb dX4_readSum_63 rfl (lv_at hl 1 rfl) ?_
        refine lv_aload_n hx hb dX4_readSum_64 rfl (lv_at hl 2 rfl) ?_
        refine lv_iload_n hx hb dX4_readSum_65 rfl (lv_at hl 3 rfl) ?_
        refine kcallV (As := [.ref (y 196), .int 0]) (rest := []) ⟨hx, hb, hml, hown, hts⟩ (kc_readProduct0 l D ct E y r2 q3 ju1 hEi) (wqX4_62_kc_readProduct0 hts ⟨Nat.le_of_ble_eq_true rfl, Nat.le_of_ble_eq_true rfl⟩) hw hS hA hK hZ hN 4 192 rfl kg192 rfl hl.1 rfl (Nat.le_of_ble_eq_true rfl) dX4_readSum_66 69 rfl (fun u4 H locs pu4 hw hS => ?_)
        obtain ⟨v5, r6, q7⟩ := u4
        have hv5 : zI 0 1 v5 := pu4.1
        have ju4 : kJ r6 := pu4.2.1
        have fu4 : zFr [196, 192, 193] r2 r6 := pu4.2.2.1
        have xu4 : (v5, r6, q7) = (Gk_readProduct0 r2 q3) := pu4.2.2.2.1
        have hE := zc_vrqE xu4 hE
        have hw : zPD D A (kW ct E y r6 q7) H := hw
        refine zfr 69 [.int v5] rfl rfl ?_
        refine lv_if_ne (tgt := 74) hx hb dX4_readSum_69 (by decide) (fun c8 => ?_) (fun c8 => ?_)
        · have hE := zifnT c8 hE
          have k9 : zI 1 1 (v5) := zI.neD c8 hv5 (zI.lit (a := 0) (b := 0) (c := 0) (by decide)) (by decide)
          refine lv_aload_n hx hb dX4_readSum_74 rfl (lv_at hl 1 rfl) ?_
          refine lv_iload hx hb dX4_readSum_75 (lv_at hl 0 rfl) ?_
          refine kcallV (As := [.int w57_s0]) (rest := []) ⟨hx, hb, hml, hown, hts⟩ (kc_add l D ct E y w57_s0 r6 q7 ju4 hEi) (wqX4_22_kc_add hts ⟨Nat.le_of_ble_eq_true rfl, Nat.le_of_ble_eq_true rfl⟩) hw hS hA hK hZ hN 4 192 rfl kg192 rfl hl.1 rfl (Nat.le_of_ble_eq_true rfl) dX4_readSum_77 80 rfl (fun u10 H locs pu10 hw hS => ?_)
          have ju10 : kJ u10 := pu10.1
          have fu10 : zFr [192, 193] r6 u10 := pu10.2.1
          have xu10 : u10 = (Gk_add w57_s0 r6 q7) := pu10.2.2.1
          have hE := zletE xu10 hE
          have hw : zPD D A (kW ct E y u10 q7) H := hw
          refine zfr 80 [] rfl rfl ?_
          refine lv_iinc (v := w13_3 + 1) (lv' := [(3, .int (w13_3 + 1)), (4, .int w57_s0), (0, .ref (y 192)), (1, .ref (y 196)), (2, .int 0)]) hx hb dX4_readSum_80 hl (k := 4) rfl (rfl) (by decide) rfl (fun ls hl => ?_)
          have k12 : zI 1 1000 (w13_3 + 1) := zI.add hw57_3 (zI.lit (a := 1) (b := 1) (by decide)) (by decide)
          refine lv_goto (tgt := 13) hx hb dX4_readSum_83 (by decide) ?_
          exact ih13 (w13_3 + 1) u10 q7 (k12.w (c := 0) (d := 1000) (by decide)) ju10 (((fw13.tr fu1 rfl).tr fu4 rfl).tr fu10 rfl) hE (zI.up hw57_3 (by decide) hm13) H locs ls hw hS (lv_sub hl [2, 3, 4, 0] rfl)
        · have hE := zifnF c8 hE
          have k13 : zI 0 0 (v5) := zI.eqq c8 (zI.lit (a := 0) (b := 0) (c := 0) (by decide))
          refine lv_iconst (v := 0) hx hb dX4_readSum_72 (by decide) ?_
          exact ziretQ hQ hx hb hr rfl hlocks ((0 : Int32), r6, q7) rfl ⟨((zI.lit (a := 0) (b := 0) (c := 0) (by decide)).w (c := 0) (d := 1) (by decide)), ju4, ((fw13.tr fu1 rfl).tr fu4 rfl), (hE.symm.trans hX), trivial⟩ hw hS dX4_readSum_73
      have cut40 : ∀ (hw40_3 : zI 0 999 w13_3) (hE : X = Gk_readSum0_40 w13_3 rw13 qw13 (Gk_readSum0_13 n13) ), zKf p l e ({ frames := 34, cells := 0, slots := 0, locals := 1400 }) s m a9 below meth c Q D A 40 5 [] (kW ct E y rw13 qw13) [(0, .ref (y 192)), (1, .ref (y 196)), (2, .int 0), (3, .int w13_3)] := by
        intro hw40_3 hE H locs ls hw hS hl
        unfold Gk_readSum0_40 at hE
        refine lv_aload_n hx hb dX4_readSum_40 rfl (lv_at hl 1 rfl) ?_
        refine va_get (D := D) (ci := 8) (v := .ref (E (zn (rw13 196 4)))) hx hb hts hiX9 hown hK hw.1 196 kg196 rfl 4 (by decide) lf36 (fun _ h9 => h9) rfl dX4_readSum_41 (cgenSE (show zI 0 32 (rw13 196 4) from jw13.i 196 4) (fun v14 ev14 hv14 => ?_))
        have hE := zletE ev14 hE
        refine cgets 25 (by decide) hx hb hZ hS hown lf65 dX4_readSum_44 (ztop (.ref (E (zn 25))) rfl ?_)
        refine cxacmp_ne (a := v14) (b := (25 : Int32)) (tgt := 55) hEi hv14 ((zI.lit (a := 25) (b := 25) (c := 25) (by decide)).w (c := 0) (d := 32) (by decide)) hx hb dX4_readSum_47 (by decide) (fun c15 => ?_) (fun c15 => ?_)
        · have hE := zifnT c15 hE
          refine lv_bipush (v := (-11)) hx hb dX4_readSum_55 (by decide) ?_
          exact cut57 (-11) hw40_3 ((zI.lit (a := (-11)) (b := (-11)) (c := (-11)) (by decide)).w (c := (-11)) (d := (-2)) (by decide)) hE H locs ls hw hS (lv_sub hl [0, 1, 2, 3] rfl)
        · have hE := zifnF c15 hE
          refine lv_bipush (v := (-10)) hx hb dX4_readSum_50 (by decide) ?_
          refine lv_goto (tgt := 57) hx hb dX4_readSum_52 (by decide) ?_
          exact cut57 (-10) hw40_3 ((zI.lit (a := (-10)) (b := (-10)) (c := (-10)) (by decide)).w (c := (-11)) (d := (-2)) (by decide)) hE H locs ls hw hS (lv_sub hl [0, 1, 2, 3] rfl)
      intro H locs ls hw hS hl
      refine lv_iload_n hx hb dX4_readSum_13 rfl (lv_at hl 3 rfl) ?_
      refine lv_sipush (v := 1000) hx hb dX4_readSum_14 (by decide) ?_
      refine lv_icmp_ge (tgt := 86) hx hb dX4_readSum_17 (by decide) (fun c16 => ?_) (fun c16 => ?_)
      · have hE := zifT c16 hE
        have k17 : zI 1000 1000 (w13_3) := zI.leD c16 (zI.lit (a := 1000) (b := 1000) (c := 1000) (by decide)) hw13_3 (by decide)
        refine lv_iconst (v := 1) hx hb dX4_readSum_86 (by decide) ?_
        exact ziretQ hQ hx hb hr rfl hlocks ((1 : Int32), rw13, qw13) rfl ⟨((zI.lit (a := 1) (b := 1) (c := 1) (by decide)).w (c := 0) (d := 1) (by decide)), jw13, fw13, (hE.symm.trans hX), trivial⟩ hw hS dX4_readSum_87
      · have hE := zifF c16 hE
        have k18 : zI 0 999 (w13_3) := zI.ltU (zI.nle c16) hw13_3 (zI.lit (a := 1000) (b := 1000) (c := 1000) (by decide)) (by decide)
        refine lv_aload_n hx hb dX4_readSum_20 rfl (lv_at hl 1 rfl) ?_
        refine va_get (D := D) (ci := 8) (v := .ref (E (zn (rw13 196 4)))) hx hb hts hiX9 hown hK hw.1 196 kg196 rfl 4 (by decide) lf36 (fun _ h9 => h9) rfl dX4_readSum_21 (cgenSE (show zI 0 32 (rw13 196 4) from jw13.i 196 4) (fun v19 ev19 hv19 => ?_))
        have hE := zletE ev19 hE
        refine cgets 25 (by decide) hx hb hZ hS hown lf65 dX4_readSum_24 (ztop (.ref (E (zn 25))) rfl ?_)
        refine cxacmp_eq (a := v19) (b := (25 : Int32)) (tgt := 40) hEi hv19 ((zI.lit (a := 25) (b := 25) (c := 25) (by decide)).w (c := 0) (d := 32) (by decide)) hx hb dX4_readSum_27 (by decide) (fun c20 => ?_) (fun c20 => ?_)
        · have hE := zifT c20 hE
          exact cut40 k18 hE H locs ls hw hS (lv_sub hl [0, 1, 2, 3] rfl)
        · have hE := zifF c20 hE
          refine lv_aload_n hx hb dX4_readSum_30 rfl (lv_at hl 1 rfl) ?_
          refine va_get (D := D) (ci := 8) (v := .ref (E (zn (rw13 196 4)))) hx hb hts hiX9 hown hK hw.1 196 kg196 rfl 4 (by decide) lf36 (fun _ h9 => h9) rfl dX4_readSum_31 (cgenSE (show zI 0 32 (rw13 196 4) from jw13.i 196 4) (fun v21 ev21 hv21 => ?_))
          have hE := zletE ev21 hE
          refine cgets 26 (by decide) hx hb hZ hS hown lf68 dX4_readSum_34 (ztop (.ref (E (zn 26))) rfl ?_)
          refine cxacmp_ne (a := v21) (b := (26 : Int32)) (tgt := 86) hEi hv21 ((zI.lit (a := 26) (b := 26) (c := 26) (by decide)).w (c := 0) (d := 32) (by decide)) hx hb dX4_readSum_37 (by decide) (fun c22 => ?_) (fun c22 => ?_)
          · have hE := zifnT c22 hE
            refine lv_iconst (v := 1) hx hb dX4_readSum_86 (by decide) ?_
            exact ziretQ hQ hx hb hr rfl hlocks ((1 : Int32), rw13, qw13) rfl ⟨((zI.lit (a := 1) (b := 1) (c := 1) (by decide)).w (c := 0) (d := 1) (by decide)), jw13, fw13, (hE.symm.trans hX), trivial⟩ hw hS dX4_readSum_87
          · have hE := zifnF c22 hE
            exact cut40 k18 hE H locs ls hw hS (lv_sub hl [0, 1, 2, 3] rfl)
  intro H locs hw hS ls hl
  have hl : lv_has ls 5 [(0, .ref (y 192)), (1, .ref (y 196)), (2, .int 0)] := hl
  have hE := hX
  unfold Gk_readSum0 at hE
  refine lv_aload_n hx hb dX4_readSum_0 rfl (lv_at hl 0 rfl) ?_
  refine lv_aload_n hx hb dX4_readSum_1 rfl (lv_at hl 1 rfl) ?_
  refine lv_iload_n hx hb dX4_readSum_2 rfl (lv_at hl 2 rfl) ?_
  refine kcallV (As := [.ref (y 196), .int 0]) (rest := []) ⟨hx, hb, hml, hown, hts⟩ (kc_readProduct0 l D ct E y r q hJ0 hEi) (wqX4_62_kc_readProduct0 hts ⟨Nat.le_of_ble_eq_true rfl, Nat.le_of_ble_eq_true rfl⟩) hw hS hA hK hZ hN 4 192 rfl kg192 rfl hl.1 rfl (Nat.le_of_ble_eq_true rfl) dX4_readSum_3 6 rfl (fun u23 H locs pu23 hw hS => ?_)
  obtain ⟨v24, r25, q26⟩ := u23
  have hv24 : zI 0 1 v24 := pu23.1
  have ju23 : kJ r25 := pu23.2.1
  have fu23 : zFr [196, 192, 193] r r25 := pu23.2.2.1
  have xu23 : (v24, r25, q26) = (Gk_readProduct0 r q) := pu23.2.2.2.1
  have hE := zc_vrqE xu23 hE
  have hw : zPD D A (kW ct E y r25 q26) H := hw
  refine zfr 6 [.int v24] rfl rfl ?_
  refine lv_if_ne (tgt := 11) hx hb dX4_readSum_6 (by decide) (fun c27 => ?_) (fun c27 => ?_)
  · have hE := zifnT c27 hE
    have k28 : zI 1 1 (v24) := zI.neD c27 hv24 (zI.lit (a := 0) (b := 0) (c := 0) (by decide)) (by decide)
    refine lv_iconst (v := 0) hx hb dX4_readSum_11 (by decide) ?_
    refine lv_istore_n (lv' := [(3, .int 0), (0, .ref (y 192)), (1, .ref (y 196)), (2, .int 0)]) hx hb dX4_readSum_12 rfl hl (by decide) rfl (fun ls hl => ?_)
    exact cut13 1001 0 r25 q26 ((zI.lit (a := 0) (b := 0) (c := 0) (by decide)).w (c := 0) (d := 1000) (by decide)) ju23 ((zFr.refl).tr fu23 rfl) hE (zI.m0 (zI.lit (a := 0) (b := 0) (c := 0) (by decide)) (by decide)) H locs ls hw hS (lv_sub hl [1, 2, 3, 0] rfl)
  · have hE := zifnF c27 hE
    have k29 : zI 0 0 (v24) := zI.eqq c27 (zI.lit (a := 0) (b := 0) (c := 0) (by decide))
    refine lv_iconst (v := 0) hx hb dX4_readSum_9 (by decide) ?_
    exact ziretQ hQ hx hb hr rfl hlocks ((0 : Int32), r25, q26) rfl ⟨((zI.lit (a := 0) (b := 0) (c := 0) (by decide)).w (c := 0) (d := 1) (by decide)), ju23, ((zFr.refl).tr fu23 rfl), (hE.symm.trans hX), trivial⟩ hw hS dX4_readSum_10

set_option maxHeartbeats 4000000 in
set_option maxRecDepth 100000 in
theorem kc_readTest0 (l : Launch) (D : va_G) (ct : Nat → ClassId) (E : Nat → Nat) (y : Nat → Nat) (r : zRr) (q : zRq) (hJ0 : kJ r) (hEi : kEi E) : cC l yX4_readTest (.code yX4_readTest cX4_readTest 4 (some .boolean) :: wsL_law0) ({ frames := 35, cells := 0, slots := 0, locals := 1440 }) D ct E [.ref (y 192), .ref (y 196), .int 0] (kW ct E y r q) (S := Int32 × zRr × zRq) (fun u => some (.int u.1)) (fun u => zI 0 1 u.1 ∧ kJ u.2.1 ∧ zFr [196, 192, 193] r u.2.1 ∧ u = (Gk_readTest0 r q) ∧ True) (fun u => kW ct E y u.2.1 u.2.2) := by
  refine cofQ cX4_readTest 4 (some .boolean) (by decide) rfl (Nat.le_of_ble_eq_true rfl) ?_
  intro p e s m below meth c A a9 Q ha9 hx hb hr hml hts hown hlocks hname hK hA hZ hN hQ
  have hown : s.vm.findClass RX4 = some m.cls := hown
  have hiX9 : ∀ w ∈ wsX90, w ∈ .code yX4_readTest cX4_readTest 4 (some .boolean) :: wsL_law0 := fun _ h => ki (zs_wsX90 _ h)
  have lf36 := hts (.fieldLink RX4 36 "BeardPass$Tape" "sort" "LBeardPass$Sort;") (ki (zr18 17 rfl))
  have lf56 := hts (.fieldLink RX4 56 "BeardPass$Sort" "LESS" "LBeardPass$Sort;") (ki (zr20 2 rfl))
  have lf59 := hts (.fieldLink RX4 59 "BeardPass$Sort" "SAME" "LBeardPass$Sort;") (ki (zr20 3 rfl))
  obtain ⟨X, hX⟩ : ∃ X, X = (Gk_readTest0 r q) := ⟨_, rfl⟩
  have cut50 : ∀ (w50_s0 : Int32) (rw50 : zRr) (qw50 : zRq) (hw50_s0 : zI (-9) (-2) w50_s0) (jw50 : kJ rw50) (fw50 : zFr [196, 192, 193] r rw50) (hE : X = Gk_readTest0_50 w50_s0 rw50 qw50), zKf p l e ({ frames := 35, cells := 0, slots := 0, locals := 1440 }) s m a9 below meth c Q D A 50 4 [.int w50_s0] (kW ct E y rw50 qw50) [(0, .ref (y 192)), (1, .ref (y 196)), (2, .int 0)] := by
    intro w50_s0 rw50 qw50 hw50_s0 jw50 fw50 hE H locs ls hw hS hl
    unfold Gk_readTest0_50 at hE
    refine lv_istore_n (lv' := [(3, .int w50_s0), (0, .ref (y 192)), (1, .ref (y 196)), (2, .int 0)]) hx hb dX4_readTest_50 rfl hl (by decide) rfl (fun ls hl => ?_)
    refine lv_aload_n hx hb dX4_readTest_51 rfl (lv_at hl 2 rfl) ?_
    refine kcallV (As := []) (rest := []) ⟨hx, hb, hml, hown, hts⟩ (kc_step l D ct E y rw50 qw50 jw50 hEi) (wqX4_50_kc_step hts ⟨Nat.le_of_ble_eq_true rfl, Nat.le_of_ble_eq_true rfl⟩) hw hS hA hK hZ hN 8 196 rfl kg196 rfl hl.1 rfl (Nat.le_of_ble_eq_true rfl) dX4_readTest_52 55 rfl (fun u1 H locs pu1 hw hS => ?_)
    obtain ⟨r2, q3⟩ := u1
    have ju1 : kJ r2 := pu1.1
    have fu1 : zFr [196] rw50 r2 := pu1.2.1
    have xu1 : (r2, q3) = (Gk_step rw50 qw50) := pu1.2.2.1
    have hE := zc_rqE xu1 hE
    have hw : zPD D A (kW ct E y r2 q3) H := hw
    refine zfr 55 [] rfl rfl ?_
    refine lv_aload_n hx hb dX4_readTest_55 rfl (lv_at hl 1 rfl) ?_
    refine lv_aload_n hx hb dX4_readTest_56 rfl (lv_at hl 2 rfl) ?_
    refine lv_iload_n hx hb dX4_readTest_57 rfl (lv_at hl 3 rfl) ?_
    refine kcallV (As := [.ref (y 196), .int 0]) (rest := []) ⟨hx, hb, hml, hown, hts⟩ (kc_readSum0 l D ct E y r2 q3 ju1 hEi) (wqX4_53_kc_readSum0 hts ⟨Nat.le_of_ble_eq_true rfl, Nat.le_of_ble_eq_true rfl⟩) hw hS hA hK hZ hN 4 192 rfl kg192 rfl hl.1 rfl (Nat.le_of_ble_eq_true rfl) dX4_readTest_58 61 rfl (fun u4 H locs pu4 hw hS => ?_)
    obtain ⟨v5, r6, q7⟩ := u4
    have hv5 : zI 0 1 v5 := pu4.1
    have ju4 : kJ r6 := pu4.2.1
    have fu4 : zFr [196, 192, 193] r2 r6 := pu4.2.2.1
    have xu4 : (v5, r6, q7) = (Gk_readSum0 r2 q3) := pu4.2.2.2.1
    have hE := zc_vrqE xu4 hE
    have hw : zPD D A (kW ct E y r6 q7) H := hw
    refine zfr 61 [.int v5] rfl rfl ?_
    refine lv_if_ne (tgt := 66) hx hb dX4_readTest_61 (by decide) (fun c8 => ?_) (fun c8 => ?_)
    · have hE := zifnT c8 hE
      have k9 : zI 1 1 (v5) := zI.neD c8 hv5 (zI.lit (a := 0) (b := 0) (c := 0) (by decide)) (by decide)
      refine lv_aload_n hx hb dX4_readTest_66 rfl (lv_at hl 1 rfl) ?_
      refine lv_iload_n hx hb dX4_readTest_67 rfl (lv_at hl 0 rfl) ?_
      refine kcallV (As := [.int w50_s0]) (rest := []) ⟨hx, hb, hml, hown, hts⟩ (kc_add l D ct E y w50_s0 r6 q7 ju4 hEi) (wqX4_22_kc_add hts ⟨Nat.le_of_ble_eq_true rfl, Nat.le_of_ble_eq_true rfl⟩) hw hS hA hK hZ hN 4 192 rfl kg192 rfl hl.1 rfl (Nat.le_of_ble_eq_true rfl) dX4_readTest_68 71 rfl (fun u10 H locs pu10 hw hS => ?_)
      have ju10 : kJ u10 := pu10.1
      have fu10 : zFr [192, 193] r6 u10 := pu10.2.1
      have xu10 : u10 = (Gk_add w50_s0 r6 q7) := pu10.2.2.1
      have hE := zletE xu10 hE
      have hw : zPD D A (kW ct E y u10 q7) H := hw
      refine zfr 71 [] rfl rfl ?_
      refine lv_iconst (v := 1) hx hb dX4_readTest_71 (by decide) ?_
      exact ziretQ hQ hx hb hr rfl hlocks ((1 : Int32), u10, q7) rfl ⟨((zI.lit (a := 1) (b := 1) (c := 1) (by decide)).w (c := 0) (d := 1) (by decide)), ju10, (((fw50.tr fu1 rfl).tr fu4 rfl).tr fu10 rfl), (hE.symm.trans hX), trivial⟩ hw hS dX4_readTest_72
    · have hE := zifnF c8 hE
      have k12 : zI 0 0 (v5) := zI.eqq c8 (zI.lit (a := 0) (b := 0) (c := 0) (by decide))
      refine lv_iconst (v := 0) hx hb dX4_readTest_64 (by decide) ?_
      exact ziretQ hQ hx hb hr rfl hlocks ((0 : Int32), r6, q7) rfl ⟨((zI.lit (a := 0) (b := 0) (c := 0) (by decide)).w (c := 0) (d := 1) (by decide)), ju4, ((fw50.tr fu1 rfl).tr fu4 rfl), (hE.symm.trans hX), trivial⟩ hw hS dX4_readTest_65
  have cut33 : ∀ (rw33 : zRr) (qw33 : zRq) (jw33 : kJ rw33) (fw33 : zFr [196, 192, 193] r rw33) (hE : X = Gk_readTest0_33 rw33 qw33), zKf p l e ({ frames := 35, cells := 0, slots := 0, locals := 1440 }) s m a9 below meth c Q D A 33 4 [] (kW ct E y rw33 qw33) [(0, .ref (y 192)), (1, .ref (y 196)), (2, .int 0)] := by
    intro rw33 qw33 jw33 fw33 hE H locs ls hw hS hl
    unfold Gk_readTest0_33 at hE
    refine lv_aload_n hx hb dX4_readTest_33 rfl (lv_at hl 1 rfl) ?_
    refine va_get (D := D) (ci := 8) (v := .ref (E (zn (rw33 196 4)))) hx hb hts hiX9 hown hK hw.1 196 kg196 rfl 4 (by decide) lf36 (fun _ h9 => h9) rfl dX4_readTest_34 (cgenSE (show zI 0 32 (rw33 196 4) from jw33.i 196 4) (fun v13 ev13 hv13 => ?_))
    have hE := zletE ev13 hE
    refine cgets 23 (by decide) hx hb hZ hS hown lf56 dX4_readTest_37 (ztop (.ref (E (zn 23))) rfl ?_)
    refine cxacmp_ne (a := v13) (b := (23 : Int32)) (tgt := 48) hEi hv13 ((zI.lit (a := 23) (b := 23) (c := 23) (by decide)).w (c := 0) (d := 32) (by decide)) hx hb dX4_readTest_40 (by decide) (fun c14 => ?_) (fun c14 => ?_)
    · have hE := zifnT c14 hE
      refine lv_bipush (v := (-9)) hx hb dX4_readTest_48 (by decide) ?_
      exact cut50 (-9) rw33 qw33 ((zI.lit (a := (-9)) (b := (-9)) (c := (-9)) (by decide)).w (c := (-9)) (d := (-2)) (by decide)) jw33 fw33 hE H locs ls hw hS (lv_sub hl [0, 1, 2] rfl)
    · have hE := zifnF c14 hE
      refine lv_bipush (v := (-8)) hx hb dX4_readTest_43 (by decide) ?_
      refine lv_goto (tgt := 50) hx hb dX4_readTest_45 (by decide) ?_
      exact cut50 (-8) rw33 qw33 ((zI.lit (a := (-8)) (b := (-8)) (c := (-8)) (by decide)).w (c := (-9)) (d := (-2)) (by decide)) jw33 fw33 hE H locs ls hw hS (lv_sub hl [0, 1, 2] rfl)
  intro H locs hw hS ls hl
  have hl : lv_has ls 4 [(0, .ref (y 192)), (1, .ref (y 196)), (2, .int 0)] := hl
  have hE := hX
  unfold Gk_readTest0 at hE
  refine lv_aload_n hx hb dX4_readTest_0 rfl (lv_at hl 0 rfl) ?_
  refine lv_aload_n hx hb dX4_readTest_1 rfl (lv_at hl 1 rfl) ?_
  refine lv_iload_n hx hb dX4_readTest_2 rfl (lv_at hl 2 rfl) ?_
  refine kcallV (As := [.ref (y 196), .int 0]) (rest := []) ⟨hx, hb, hml, hown, hts⟩ (kc_readSum0 l D ct E y r q hJ0 hEi) (wqX4_53_kc_readSum0 hts ⟨Nat.le_of_ble_eq_true rfl, Nat.le_of_ble_eq_true rfl⟩) hw hS hA hK hZ hN 4 192 rfl kg192 rfl hl.1 rfl (Nat.le_of_ble_eq_true rfl) dX4_readTest_3 6 rfl (fun u15 H locs pu15 hw hS => ?_)
  obtain ⟨v16, r17, q18⟩ := u15
  have hv16 : zI 0 1 v16 := pu15.1
  have ju15 : kJ r17 := pu15.2.1
  have fu15 : zFr [196, 192, 193] r r17 := pu15.2.2.1
  have xu15 : (v16, r17, q18) = (Gk_readSum0 r q) := pu15.2.2.2.1
  have hE := zc_vrqE xu15 hE
  have hw : zPD D A (kW ct E y r17 q18) H := hw
  refine zfr 6 [.int v16] rfl rfl ?_
  refine lv_if_ne (tgt := 11) hx hb dX4_readTest_6 (by decide) (fun c19 => ?_) (fun c19 => ?_)
  · have hE := zifnT c19 hE
    have k20 : zI 1 1 (v16) := zI.neD c19 hv16 (zI.lit (a := 0) (b := 0) (c := 0) (by decide)) (by decide)
    refine lv_aload_n hx hb dX4_readTest_11 rfl (lv_at hl 1 rfl) ?_
    refine va_get (D := D) (ci := 8) (v := .ref (E (zn (r17 196 4)))) hx hb hts hiX9 hown hK hw.1 196 kg196 rfl 4 (by decide) lf36 (fun _ h9 => h9) rfl dX4_readTest_12 (cgenSE (show zI 0 32 (r17 196 4) from ju15.i 196 4) (fun v21 ev21 hv21 => ?_))
    have hE := zletE ev21 hE
    refine cgets 23 (by decide) hx hb hZ hS hown lf56 dX4_readTest_15 (ztop (.ref (E (zn 23))) rfl ?_)
    refine cxacmp_eq (a := v21) (b := (23 : Int32)) (tgt := 33) hEi hv21 ((zI.lit (a := 23) (b := 23) (c := 23) (by decide)).w (c := 0) (d := 32) (by decide)) hx hb dX4_readTest_18 (by decide) (fun c22 => ?_) (fun c22 => ?_)
    · have hE := zifT c22 hE
      exact cut33 r17 q18 ju15 ((zFr.refl).tr fu15 rfl) hE H locs ls hw hS (lv_sub hl [0, 1, 2] rfl)
    · have hE := zifF c22 hE
      refine lv_aload_n hx hb dX4_readTest_21 rfl (lv_at hl 1 rfl) ?_
      refine va_get (D := D) (ci := 8) (v := .ref (E (zn (r17 196 4)))) hx hb hts hiX9 hown hK hw.1 196 kg196 rfl 4 (by decide) lf36 (fun _ h9 => h9) rfl dX4_readTest_22 (cgenSE (show zI 0 32 (r17 196 4) from ju15.i 196 4) (fun v23 ev23 hv23 => ?_))
      have hE := zletE ev23 hE
      refine cgets 24 (by decide) hx hb hZ hS hown lf59 dX4_readTest_25 (ztop (.ref (E (zn 24))) rfl ?_)
      refine cxacmp_eq (a := v23) (b := (24 : Int32)) (tgt := 33) hEi hv23 ((zI.lit (a := 24) (b := 24) (c := 24) (by decide)).w (c := 0) (d := 32) (by decide)) hx hb dX4_readTest_28 (by decide) (fun c24 => ?_) (fun c24 => ?_)
      · have hE := zifT c24 hE
        exact cut33 r17 q18 ju15 ((zFr.refl).tr fu15 rfl) hE H locs ls hw hS (lv_sub hl [0, 1, 2] rfl)
      · have hE := zifF c24 hE
        refine lv_iconst (v := 1) hx hb dX4_readTest_31 (by decide) ?_
        exact ziretQ hQ hx hb hr rfl hlocks ((1 : Int32), r17, q18) rfl ⟨((zI.lit (a := 1) (b := 1) (c := 1) (by decide)).w (c := 0) (d := 1) (by decide)), ju15, ((zFr.refl).tr fu15 rfl), (hE.symm.trans hX), trivial⟩ hw hS dX4_readTest_32
  · have hE := zifnF c19 hE
    have k25 : zI 0 0 (v16) := zI.eqq c19 (zI.lit (a := 0) (b := 0) (c := 0) (by decide))
    refine lv_iconst (v := 0) hx hb dX4_readTest_9 (by decide) ?_
    exact ziretQ hQ hx hb hr rfl hlocks ((0 : Int32), r17, q18) rfl ⟨((zI.lit (a := 0) (b := 0) (c := 0) (by decide)).w (c := 0) (d := 1) (by decide)), ju15, ((zFr.refl).tr fu15 rfl), (hE.symm.trans hX), trivial⟩ hw hS dX4_readTest_10

set_option maxHeartbeats 4000000 in
set_option maxRecDepth 100000 in
theorem kc_readWhole0 (l : Launch) (D : va_G) (ct : Nat → ClassId) (E : Nat → Nat) (y : Nat → Nat) (r : zRr) (q : zRq) (hJ0 : kJ r) (hEi : kEi E) : cC l yX4_readWhole (.code yX4_readWhole cX4_readWhole 5 (some .boolean) :: wsL_law0) ({ frames := 36, cells := 0, slots := 0, locals := 1480 }) D ct E [.ref (y 192), .ref (y 196), .int 0] (kW ct E y r q) (S := Int32 × zRr × zRq) (fun u => some (.int u.1)) (fun u => zI 0 1 u.1 ∧ kJ u.2.1 ∧ zFr [196, 192, 193] r u.2.1 ∧ u = (Gk_readWhole0 r q) ∧ True) (fun u => kW ct E y u.2.1 u.2.2) := by
  refine cofQ cX4_readWhole 5 (some .boolean) (by decide) rfl (Nat.le_of_ble_eq_true rfl) ?_
  intro p e s m below meth c A a9 Q ha9 hx hb hr hml hts hown hlocks hname hK hA hZ hN hQ
  have hown : s.vm.findClass RX4 = some m.cls := hown
  have hiX9 : ∀ w ∈ wsX90, w ∈ .code yX4_readWhole cX4_readWhole 5 (some .boolean) :: wsL_law0 := fun _ h => ki (zs_wsX90 _ h)
  have lf36 := hts (.fieldLink RX4 36 "BeardPass$Tape" "sort" "LBeardPass$Sort;") (ki (zr18 17 rfl))
  have lf42 := hts (.fieldLink RX4 42 "BeardPass$Sort" "AND" "LBeardPass$Sort;") (ki (zr18 18 rfl))
  have lf47 := hts (.fieldLink RX4 47 "BeardPass$Sort" "OR" "LBeardPass$Sort;") (ki (zr18 19 rfl))
  obtain ⟨X, hX⟩ : ∃ X, X = (Gk_readWhole0 r q) := ⟨_, rfl⟩
  have cut13 : ∀ (n13 : Nat) (w13_3 : Int32) (rw13 : zRr) (qw13 : zRq) (hw13_3 : zI 0 1000 w13_3) (jw13 : kJ rw13) (fw13 : zFr [196, 192, 193] r rw13) (hE : X = Gk_readWhole0_13 n13 w13_3 rw13 qw13), 1000 - w13_3.toInt < (n13 : Int) → zKf p l e ({ frames := 36, cells := 0, slots := 0, locals := 1480 }) s m a9 below meth c Q D A 13 5 [] (kW ct E y rw13 qw13) [(0, .ref (y 192)), (1, .ref (y 196)), (2, .int 0), (3, .int w13_3)] := by
    intro n13
    induction n13 with
    | zero => intro w13_3 rw13 qw13 hw13_3 jw13 fw13 hE hm13; exact zI.no hw13_3 (by decide) hm13
    | succ n13 ih13 =>
      intro w13_3 rw13 qw13 hw13_3 jw13 fw13 hE hm13
      have hE : X = Bk_readWhole0_13 (Gk_readWhole0_13 n13) w13_3 rw13 qw13 := hE
      unfold Bk_readWhole0_13 at hE
      have cut57 : ∀ (w57_s0 : Int32) (hw57_3 : zI 0 999 w13_3) (hw57_s0 : zI (-7) (-2) w57_s0) (hE : X = Gk_readWhole0_57 w13_3 rw13 qw13 (Gk_readWhole0_13 n13) w57_s0), zKf p l e ({ frames := 36, cells := 0, slots := 0, locals := 1480 }) s m a9 below meth c Q D A 57 5 [.int w57_s0] (kW ct E y rw13 qw13) [(0, .ref (y 192)), (1, .ref (y 196)), (2, .int 0), (3, .int w13_3)] := by
        intro w57_s0 hw57_3 hw57_s0 hE H locs ls hw hS hl
        unfold Gk_readWhole0_57 at hE
        refine lv_istore (lv' := [(4, .int w57_s0), (0, .ref (y 192)), (1, .ref (y 196)), (2, .int 0), (3, .int w13_3)]) hx hb dX4_readWhole_57 hl (by decide) rfl (fun ls hl => ?_)
        refine lv_aload_n hx hb dX4_readWhole_59 rfl (lv_at hl 2 rfl) ?_
        refine kcallV (As := []) (rest := []) ⟨hx, hb, hml, hown, hts⟩ (kc_step l D ct E y rw13 qw13 jw13 hEi) (wqX4_50_kc_step hts ⟨Nat.le_of_ble_eq_true rfl, Nat.le_of_ble_eq_true rfl⟩) hw hS hA hK hZ hN 8 196 rfl kg196 rfl hl.1 rfl (Nat.le_of_ble_eq_true rfl) dX4_readWhole_60 63 rfl (fun u1 H locs pu1 hw hS => ?_)
        obtain ⟨r2, q3⟩ := u1
        have ju1 : kJ r2 := pu1.1
        have fu1 : zFr [196] rw13 r2 := pu1.2.1
        have xu1 : (r2, q3) = (Gk_step rw13 qw13) := pu1.2.2.1
        have hE := zc_rqE xu1 hE
        have hw : zPD D A (kW ct E y r2 q3) H := hw
        refine zfr 63 [] rfl rfl ?_
        refine lv_aload_n hx hb dX4_readWhole_63 rfl (lv_at hl 1 rfl) ?_
        refine lv_aload_n hx hb dX4_readWhole_64 rfl (lv_at hl 2 rfl) ?_
        refine lv_iload_n hx hb dX4_readWhole_65 rfl (lv_at hl 3 rfl) ?_
        refine kcallV (As := [.ref (y 196), .int 0]) (rest := []) ⟨hx, hb, hml, hown, hts⟩ (kc_readTest0 l D ct E y r2 q3 ju1 hEi) (wqX4_32_kc_readTest0 hts ⟨Nat.le_of_ble_eq_true rfl, Nat.le_of_ble_eq_true rfl⟩) hw hS hA hK hZ hN 4 192 rfl kg192 rfl hl.1 rfl (Nat.le_of_ble_eq_true rfl) dX4_readWhole_66 69 rfl (fun u4 H locs pu4 hw hS => ?_)
        obtain ⟨v5, r6, q7⟩ := u4
        have hv5 : zI 0 1 v5 := pu4.1
        have ju4 : kJ r6 := pu4.2.1
        have fu4 : zFr [196, 192, 193] r2 r6 := pu4.2.2.1
        have xu4 : (v5, r6, q7) = (Gk_readTest0 r2 q3) := pu4.2.2.2.1
        have hE := zc_vrqE xu4 hE
        have hw : zPD D A (kW ct E y r6 q7) H := hw
        refine zfr 69 [.int v5] rfl rfl ?_
        refine lv_if_ne (tgt := 74) hx hb dX4_readWhole_69 (by decide) (fun c8 => ?_) (fun c8 => ?_)
        · have hE := zifnT c8 hE
          have k9 : zI 1 1 (v5) := zI.neD c8 hv5 (zI.lit (a := 0) (b := 0) (c := 0) (by decide)) (by decide)
          refine lv_aload_n hx hb dX4_readWhole_74 rfl (lv_at hl 1 rfl) ?_
          refine lv_iload hx hb dX4_readWhole_75 (lv_at hl 0 rfl) ?_
          refine kcallV (As := [.int w57_s0]) (rest := []) ⟨hx, hb, hml, hown, hts⟩ (kc_add l D ct E y w57_s0 r6 q7 ju4 hEi) (wqX4_22_kc_add hts ⟨Nat.le_of_ble_eq_true rfl, Nat.le_of_ble_eq_true rfl⟩) hw hS hA hK hZ hN 4 192 rfl kg192 rfl hl.1 rfl (Nat.le_of_ble_eq_true rfl) dX4_readWhole_77 80 rfl (fun u10 H locs pu10 hw hS => ?_)
          have ju10 : kJ u10 := pu10.1
          have fu10 : zFr [192, 193] r6 u10 := pu10.2.1
          have xu10 : u10 = (Gk_add w57_s0 r6 q7) := pu10.2.2.1
          have hE := zletE xu10 hE
          have hw : zPD D A (kW ct E y u10 q7) H := hw
          refine zfr 80 [] rfl rfl ?_
          refine lv_iinc (v := w13_3 + 1) (lv' := [(3, .int (w13_3 + 1)), (4, .int w57_s0), (0, .ref (y 192)), (1, .ref (y 196)), (2, .int 0)]) hx hb dX4_readWhole_80 hl (k := 4) rfl (rfl) (by decide) rfl (fun ls hl => ?_)
          have k12 : zI 1 1000 (w13_3 + 1) := zI.add hw57_3 (zI.lit (a := 1) (b := 1) (by decide)) (by decide)
          refine lv_goto (tgt := 13) hx hb dX4_readWhole_83 (by decide) ?_
          exact ih13 (w13_3 + 1) u10 q7 (k12.w (c := 0) (d := 1000) (by decide)) ju10 (((fw13.tr fu1 rfl).tr fu4 rfl).tr fu10 rfl) hE (zI.up hw57_3 (by decide) hm13) H locs ls hw hS (lv_sub hl [2, 3, 4, 0] rfl)
        · have hE := zifnF c8 hE
          have k13 : zI 0 0 (v5) := zI.eqq c8 (zI.lit (a := 0) (b := 0) (c := 0) (by decide))
          refine lv_iconst (v := 0) hx hb dX4_readWhole_72 (by decide) ?_
          exact ziretQ hQ hx hb hr rfl hlocks ((0 : Int32), r6, q7) rfl ⟨((zI.lit (a := 0) (b := 0) (c := 0) (by decide)).w (c := 0) (d := 1) (by decide)), ju4, ((fw13.tr fu1 rfl).tr fu4 rfl), (hE.symm.trans hX), trivial⟩ hw hS dX4_readWhole_73
      have cut40 : ∀ (hw40_3 : zI 0 999 w13_3) (hE : X = Gk_readWhole0_40 w13_3 rw13 qw13 (Gk_readWhole0_13 n13) ), zKf p l e ({ frames := 36, cells := 0, slots := 0, locals := 1480 }) s m a9 below meth c Q D A 40 5 [] (kW ct E y rw13 qw13) [(0, .ref (y 192)), (1, .ref (y 196)), (2, .int 0), (3, .int w13_3)] := by
        intro hw40_3 hE H locs ls hw hS hl
        unfold Gk_readWhole0_40 at hE
        refine lv_aload_n hx hb dX4_readWhole_40 rfl (lv_at hl 1 rfl) ?_
        refine va_get (D := D) (ci := 8) (v := .ref (E (zn (rw13 196 4)))) hx hb hts hiX9 hown hK hw.1 196 kg196 rfl 4 (by decide) lf36 (fun _ h9 => h9) rfl dX4_readWhole_41 (cgenSE (show zI 0 32 (rw13 196 4) from jw13.i 196 4) (fun v14 ev14 hv14 => ?_))
        have hE := zletE ev14 hE
        refine cgets 19 (by decide) hx hb hZ hS hown lf42 dX4_readWhole_44 (ztop (.ref (E (zn 19))) rfl ?_)
        refine cxacmp_ne (a := v14) (b := (19 : Int32)) (tgt := 55) hEi hv14 ((zI.lit (a := 19) (b := 19) (c := 19) (by decide)).w (c := 0) (d := 32) (by decide)) hx hb dX4_readWhole_47 (by decide) (fun c15 => ?_) (fun c15 => ?_)
        · have hE := zifnT c15 hE
          refine lv_bipush (v := (-7)) hx hb dX4_readWhole_55 (by decide) ?_
          exact cut57 (-7) hw40_3 ((zI.lit (a := (-7)) (b := (-7)) (c := (-7)) (by decide)).w (c := (-7)) (d := (-2)) (by decide)) hE H locs ls hw hS (lv_sub hl [0, 1, 2, 3] rfl)
        · have hE := zifnF c15 hE
          refine lv_bipush (v := (-6)) hx hb dX4_readWhole_50 (by decide) ?_
          refine lv_goto (tgt := 57) hx hb dX4_readWhole_52 (by decide) ?_
          exact cut57 (-6) hw40_3 ((zI.lit (a := (-6)) (b := (-6)) (c := (-6)) (by decide)).w (c := (-7)) (d := (-2)) (by decide)) hE H locs ls hw hS (lv_sub hl [0, 1, 2, 3] rfl)
      intro H locs ls hw hS hl
      refine lv_iload_n hx hb dX4_readWhole_13 rfl (lv_at hl 3 rfl) ?_
      refine lv_sipush (v := 1000) hx hb dX4_readWhole_14 (by decide) ?_
      refine lv_icmp_ge (tgt := 86) hx hb dX4_readWhole_17 (by decide) (fun c16 => ?_) (fun c16 => ?_)
      · have hE := zifT c16 hE
        have k17 : zI 1000 1000 (w13_3) := zI.leD c16 (zI.lit (a := 1000) (b := 1000) (c := 1000) (by decide)) hw13_3 (by decide)
        refine lv_iconst (v := 1) hx hb dX4_readWhole_86 (by decide) ?_
        exact ziretQ hQ hx hb hr rfl hlocks ((1 : Int32), rw13, qw13) rfl ⟨((zI.lit (a := 1) (b := 1) (c := 1) (by decide)).w (c := 0) (d := 1) (by decide)), jw13, fw13, (hE.symm.trans hX), trivial⟩ hw hS dX4_readWhole_87
      · have hE := zifF c16 hE
        have k18 : zI 0 999 (w13_3) := zI.ltU (zI.nle c16) hw13_3 (zI.lit (a := 1000) (b := 1000) (c := 1000) (by decide)) (by decide)
        refine lv_aload_n hx hb dX4_readWhole_20 rfl (lv_at hl 1 rfl) ?_
        refine va_get (D := D) (ci := 8) (v := .ref (E (zn (rw13 196 4)))) hx hb hts hiX9 hown hK hw.1 196 kg196 rfl 4 (by decide) lf36 (fun _ h9 => h9) rfl dX4_readWhole_21 (cgenSE (show zI 0 32 (rw13 196 4) from jw13.i 196 4) (fun v19 ev19 hv19 => ?_))
        have hE := zletE ev19 hE
        refine cgets 19 (by decide) hx hb hZ hS hown lf42 dX4_readWhole_24 (ztop (.ref (E (zn 19))) rfl ?_)
        refine cxacmp_eq (a := v19) (b := (19 : Int32)) (tgt := 40) hEi hv19 ((zI.lit (a := 19) (b := 19) (c := 19) (by decide)).w (c := 0) (d := 32) (by decide)) hx hb dX4_readWhole_27 (by decide) (fun c20 => ?_) (fun c20 => ?_)
        · have hE := zifT c20 hE
          exact cut40 k18 hE H locs ls hw hS (lv_sub hl [0, 1, 2, 3] rfl)
        · have hE := zifF c20 hE
          refine lv_aload_n hx hb dX4_readWhole_30 rfl (lv_at hl 1 rfl) ?_
          refine va_get (D := D) (ci := 8) (v := .ref (E (zn (rw13 196 4)))) hx hb hts hiX9 hown hK hw.1 196 kg196 rfl 4 (by decide) lf36 (fun _ h9 => h9) rfl dX4_readWhole_31 (cgenSE (show zI 0 32 (rw13 196 4) from jw13.i 196 4) (fun v21 ev21 hv21 => ?_))
          have hE := zletE ev21 hE
          refine cgets 20 (by decide) hx hb hZ hS hown lf47 dX4_readWhole_34 (ztop (.ref (E (zn 20))) rfl ?_)
          refine cxacmp_ne (a := v21) (b := (20 : Int32)) (tgt := 86) hEi hv21 ((zI.lit (a := 20) (b := 20) (c := 20) (by decide)).w (c := 0) (d := 32) (by decide)) hx hb dX4_readWhole_37 (by decide) (fun c22 => ?_) (fun c22 => ?_)
          · have hE := zifnT c22 hE
            refine lv_iconst (v := 1) hx hb dX4_readWhole_86 (by decide) ?_
            exact ziretQ hQ hx hb hr rfl hlocks ((1 : Int32), rw13, qw13) rfl ⟨((zI.lit (a := 1) (b := 1) (c := 1) (by decide)).w (c := 0) (d := 1) (by decide)), jw13, fw13, (hE.symm.trans hX), trivial⟩ hw hS dX4_readWhole_87
          · have hE := zifnF c22 hE
            exact cut40 k18 hE H locs ls hw hS (lv_sub hl [0, 1, 2, 3] rfl)
  intro H locs hw hS ls hl
  have hl : lv_has ls 5 [(0, .ref (y 192)), (1, .ref (y 196)), (2, .int 0)] := hl
  have hE := hX
  unfold Gk_readWhole0 at hE
  refine lv_aload_n hx hb dX4_readWhole_0 rfl (lv_at hl 0 rfl) ?_
  refine lv_aload_n hx hb dX4_readWhole_1 rfl (lv_at hl 1 rfl) ?_
  refine lv_iload_n hx hb dX4_readWhole_2 rfl (lv_at hl 2 rfl) ?_
  refine kcallV (As := [.ref (y 196), .int 0]) (rest := []) ⟨hx, hb, hml, hown, hts⟩ (kc_readTest0 l D ct E y r q hJ0 hEi) (wqX4_32_kc_readTest0 hts ⟨Nat.le_of_ble_eq_true rfl, Nat.le_of_ble_eq_true rfl⟩) hw hS hA hK hZ hN 4 192 rfl kg192 rfl hl.1 rfl (Nat.le_of_ble_eq_true rfl) dX4_readWhole_3 6 rfl (fun u23 H locs pu23 hw hS => ?_)
  obtain ⟨v24, r25, q26⟩ := u23
  have hv24 : zI 0 1 v24 := pu23.1
  have ju23 : kJ r25 := pu23.2.1
  have fu23 : zFr [196, 192, 193] r r25 := pu23.2.2.1
  have xu23 : (v24, r25, q26) = (Gk_readTest0 r q) := pu23.2.2.2.1
  have hE := zc_vrqE xu23 hE
  have hw : zPD D A (kW ct E y r25 q26) H := hw
  refine zfr 6 [.int v24] rfl rfl ?_
  refine lv_if_ne (tgt := 11) hx hb dX4_readWhole_6 (by decide) (fun c27 => ?_) (fun c27 => ?_)
  · have hE := zifnT c27 hE
    have k28 : zI 1 1 (v24) := zI.neD c27 hv24 (zI.lit (a := 0) (b := 0) (c := 0) (by decide)) (by decide)
    refine lv_iconst (v := 0) hx hb dX4_readWhole_11 (by decide) ?_
    refine lv_istore_n (lv' := [(3, .int 0), (0, .ref (y 192)), (1, .ref (y 196)), (2, .int 0)]) hx hb dX4_readWhole_12 rfl hl (by decide) rfl (fun ls hl => ?_)
    exact cut13 1001 0 r25 q26 ((zI.lit (a := 0) (b := 0) (c := 0) (by decide)).w (c := 0) (d := 1000) (by decide)) ju23 ((zFr.refl).tr fu23 rfl) hE (zI.m0 (zI.lit (a := 0) (b := 0) (c := 0) (by decide)) (by decide)) H locs ls hw hS (lv_sub hl [1, 2, 3, 0] rfl)
  · have hE := zifnF c27 hE
    have k29 : zI 0 0 (v24) := zI.eqq c27 (zI.lit (a := 0) (b := 0) (c := 0) (by decide))
    refine lv_iconst (v := 0) hx hb dX4_readWhole_9 (by decide) ?_
    exact ziretQ hQ hx hb hr rfl hlocks ((0 : Int32), r25, q26) rfl ⟨((zI.lit (a := 0) (b := 0) (c := 0) (by decide)).w (c := 0) (d := 1) (by decide)), ju23, ((zFr.refl).tr fu23 rfl), (hE.symm.trans hX), trivial⟩ hw hS dX4_readWhole_10
