set_option maxHeartbeats 4000000 in
set_option maxRecDepth 100000 in
theorem kc_spells (l : Launch) (D : va_G) (ct : Nat → ClassId) (E : Nat → Nat) (y : Nat → Nat) (a1 : Nat) (r : zRr) (q : zRq) (g1 : a1 < 37) (hJ0 : kJ r) (hEi : kEi E) : cC l yX9_spells (.code yX9_spells cX9_spells 3 (some .boolean) :: wsL_law0) ({ frames := 5, cells := 0, slots := 0, locals := 240 }) D ct E [.ref (y 196), .ref (E (40 + a1))] (kW ct E y r q) (S := Int32) (fun u => some (.int u)) (fun u => zI 0 1 u ∧ u = (Gk_spells a1 r q) ∧ True) (fun u => kW ct E y r q) := by
  refine cofQ cX9_spells 3 (some .boolean) (by decide) rfl (Nat.le_of_ble_eq_true rfl) ?_
  intro p e s m below meth c A a9 Q ha9 hx hb hr hml hts hown hlocks hname hK hA hZ hN hQ
  have hown : s.vm.findClass RX9 = some m.cls := hown
  have hiX9 : ∀ w ∈ wsX90, w ∈ .code yX9_spells cX9_spells 3 (some .boolean) :: wsL_law0 := fun _ h => ki (zs_wsX90 _ h)
  have lf9 := hts (.fieldLink RX9 9 "BeardPass$Tape" "signs" "[C") (ki (zr3 12 rfl))
  have lf15 := hts (.fieldLink RX9 15 "BeardPass$Tape" "length" "I") (ki (zr3 13 rfl))
  have lf19 := hts (.fieldLink RX9 19 "BeardPass$Tape" "place" "I") (ki (zr3 14 rfl))
  have lf22 := hts (.fieldLink RX9 22 "BeardPass$Tape" "next" "I") (ki (zr3 15 rfl))
  obtain ⟨X, hX⟩ : ∃ X, X = (Gk_spells a1 r q) := ⟨_, rfl⟩
  have cut20 : ∀ (n20 : Nat) (w20_2 : Int32) (hw20_2 : zI 0 8 w20_2) (hE : X = Gk_spells_20 a1 r n20 w20_2), 8 - w20_2.toInt < (n20 : Int) → zKf p l e ({ frames := 5, cells := 0, slots := 0, locals := 240 }) s m a9 below meth c Q D A 20 3 [] (kW ct E y r q) [(0, .ref (y 196)), (1, .ref (E (40 + a1))), (2, .int w20_2)] := by
    intro n20
    induction n20 with
    | zero => intro w20_2 hw20_2 hE hm20; exact zI.no hw20_2 (by decide) hm20
    | succ n20 ih20 =>
      intro w20_2 hw20_2 hE hm20
      have hE : X = Bk_spells_20 a1 r (Gk_spells_20 a1 r n20) w20_2 := hE
      unfold Bk_spells_20 at hE
      intro H locs ls hw hS hl
      refine lv_iload_n hx hb dX9_spells_20 rfl (lv_at hl 2 rfl) ?_
      refine lv_aload_n hx hb dX9_spells_21 rfl (lv_at hl 1 rfl) ?_
      refine zcallE (va_runV (As := []) (rest := [.int w20_2]) ⟨hx, hb, hml, hown, hts⟩ (kc_length l D ct E a1 g1 hEi H.size) (cwV 0 hts (kgV (zr12 5 rfl) (zr12 6 rfl) (zr12 7 rfl) (zr12 8 rfl) (zr12 9 rfl)) rfl rfl rfl (by decide +kernel) ⟨Nat.le_of_ble_eq_true rfl, Nat.le_of_ble_eq_true rfl⟩) (cpreT hK hw hS hA hZ hN g1) rfl rfl hl.1 rfl (lv_room (Nat.le_of_ble_eq_true rfl)) dX9_spells_22 ⟨Nat.le_of_ble_eq_true rfl, Nat.le_of_ble_eq_true rfl⟩) hw hS hA kWn 25 rfl (fun u1 H locs pu1 hw hS => ?_)
      have hu1 : zI 0 8 u1 := pu1.1
      have yu1_0 : (u1 = nI (eL.getD a1 0)) := pu1.2.1
      have xu1 : u1 = (Gk_length a1) := pu1.2.2.1
      have hE := zletE xu1 hE
      refine zfr 25 [.int u1, .int w20_2] rfl rfl ?_
      refine lv_icmp_ge (tgt := 68) hx hb dX9_spells_25 (by decide) (fun c3 => ?_) (fun c3 => ?_)
      · have hE := zifT c3 hE
        refine lv_iconst (v := 1) hx hb dX9_spells_68 (by decide) ?_
        exact ziretQ hQ hx hb hr rfl hlocks (1 : Int32) rfl ⟨((zI.lit (a := 1) (b := 1) (c := 1) (by decide)).w (c := 0) (d := 1) (by decide)), (hE.symm.trans hX), trivial⟩ hw hS dX9_spells_69
      · have hE := zifF c3 hE
        have k4 : zI 0 7 (w20_2) := zI.ltU (zI.nle c3) hw20_2 hu1 (by decide)
        have k5 : zI 1 8 (u1) := zI.ltD (zI.nle c3) hw20_2 hu1 (by decide)
        refine lv_aload_n hx hb dX9_spells_28 rfl (lv_at hl 0 rfl) ?_
        refine va_get (D := D) (ci := 8) (v := .int (r 196 2)) hx hb hts hiX9 hown hK hw.1 196 kg196 rfl 2 (by decide) lf19 (fun _ h9 => h9) rfl dX9_spells_29 ?_
        refine lv_iload_n hx hb dX9_spells_32 rfl (lv_at hl 2 rfl) ?_
        refine lv_iadd hx hb dX9_spells_33 ?_
        have k6 : zI 0 1007 ((r 196 2) + w20_2) := zI.add (show zI 0 1000 (r 196 2) from hJ0.i 196 2) k4 (by decide)
        refine lv_aload_n hx hb dX9_spells_34 rfl (lv_at hl 0 rfl) ?_
        refine va_get (D := D) (ci := 8) (v := .int (r 196 1)) hx hb hts hiX9 hown hK hw.1 196 kg196 rfl 1 (by decide) lf15 (fun _ h9 => h9) rfl dX9_spells_35 ?_
        refine lv_icmp_ge (tgt := 68) hx hb dX9_spells_38 (by decide) (fun c7 => ?_) (fun c7 => ?_)
        · have hE := zifT c7 hE
          refine lv_iconst (v := 1) hx hb dX9_spells_68 (by decide) ?_
          exact ziretQ hQ hx hb hr rfl hlocks (1 : Int32) rfl ⟨((zI.lit (a := 1) (b := 1) (c := 1) (by decide)).w (c := 0) (d := 1) (by decide)), (hE.symm.trans hX), trivial⟩ hw hS dX9_spells_69
        · have hE := zifF c7 hE
          have k8 : zI 0 999 ((r 196 2) + w20_2) := zI.ltU (zI.nle c7) k6 (show zI 0 1000 (r 196 1) from hJ0.i 196 1) (by decide)
          have k9 : zI 1 1000 (r 196 1) := zI.ltD (zI.nle c7) k6 (show zI 0 1000 (r 196 1) from hJ0.i 196 1) (by decide)
          refine lv_aload_n hx hb dX9_spells_41 rfl (lv_at hl 0 rfl) ?_
          refine va_get (D := D) (ci := 8) (v := .ref (y 197)) hx hb hts hiX9 hown hK hw.1 196 kg196 rfl 0 (by decide) lf9 (fun _ h9 => h9) rfl dX9_spells_42 ?_
          refine lv_aload_n hx hb dX9_spells_45 rfl (lv_at hl 0 rfl) ?_
          refine va_get (D := D) (ci := 8) (v := .int (r 196 2)) hx hb hts hiX9 hown hK hw.1 196 kg196 rfl 2 (by decide) lf19 (fun _ h9 => h9) rfl dX9_spells_46 ?_
          refine lv_iload_n hx hb dX9_spells_49 rfl (lv_at hl 2 rfl) ?_
          refine lv_iadd hx hb dX9_spells_50 ?_
          refine mcald hx hb hK hw 197 kg197 k8 (by decide) dX9_spells_51 (zgenE (zI.top _) (fun v10 ev10 _ => ?_))
          have hE := zletE ev10 hE
          refine lv_aload_n hx hb dX9_spells_52 rfl (lv_at hl 1 rfl) ?_
          refine lv_iload_n hx hb dX9_spells_53 rfl (lv_at hl 2 rfl) ?_
          refine zcallE (va_runV (As := [.int w20_2]) (rest := [.int v10]) ⟨hx, hb, hml, hown, hts⟩ (kc_charAt l D ct E a1 w20_2 g1 k4 hEi (by rw [← yu1_0]; exact (zI.nle c3)) H.size) (cwV 1 hts (kgV (zr12 17 rfl) (zr12 18 rfl) (zr12 19 rfl) (zr12 8 rfl) (zr12 20 rfl)) rfl rfl rfl (by decide +kernel) ⟨Nat.le_of_ble_eq_true rfl, Nat.le_of_ble_eq_true rfl⟩) (cpreT hK hw hS hA hZ hN g1) rfl rfl hl.1 rfl (lv_room (Nat.le_of_ble_eq_true rfl)) dX9_spells_54 ⟨Nat.le_of_ble_eq_true rfl, Nat.le_of_ble_eq_true rfl⟩) hw hS hA kWn 57 rfl (fun u11 H locs pu11 hw hS => ?_)
          have hu11 : zI (-2147483648) 2147483647 u11 := pu11.1
          have xu11 : u11 = (Gk_charAt a1 w20_2) := pu11.2.1
          have hE := zletE xu11 hE
          refine zfr 57 [.int u11, .int v10] rfl rfl ?_
          refine lv_icmp_eq (tgt := 62) hx hb dX9_spells_57 (by decide) (fun c13 => ?_) (fun c13 => ?_)
          · have hE := zifT c13 hE
            refine lv_iinc (v := w20_2 + 1) (lv' := [(2, .int (w20_2 + 1)), (0, .ref (y 196)), (1, .ref (E (40 + a1)))]) hx hb dX9_spells_62 hl (k := 2) rfl (rfl) (by decide) rfl (fun ls hl => ?_)
            have k14 : zI 1 8 (w20_2 + 1) := zI.add k4 (zI.lit (a := 1) (b := 1) (by decide)) (by decide)
            refine lv_goto (tgt := 20) hx hb dX9_spells_65 (by decide) ?_
            exact ih20 (w20_2 + 1) (k14.w (c := 0) (d := 8) (by decide)) hE (zI.up k4 (by decide) hm20) H locs ls hw hS (lv_sub hl [1, 2, 0] rfl)
          · have hE := zifF c13 hE
            refine lv_iconst (v := 0) hx hb dX9_spells_60 (by decide) ?_
            exact ziretQ hQ hx hb hr rfl hlocks (0 : Int32) rfl ⟨((zI.lit (a := 0) (b := 0) (c := 0) (by decide)).w (c := 0) (d := 1) (by decide)), (hE.symm.trans hX), trivial⟩ hw hS dX9_spells_61
  intro H locs hw hS ls hl
  have hl : lv_has ls 3 [(0, .ref (y 196)), (1, .ref (E (40 + a1)))] := hl
  have hE := hX
  unfold Gk_spells at hE
  refine lv_aload_n hx hb dX9_spells_0 rfl (lv_at hl 0 rfl) ?_
  refine va_get (D := D) (ci := 8) (v := .int (r 196 3)) hx hb hts hiX9 hown hK hw.1 196 kg196 rfl 3 (by decide) lf22 (fun _ h9 => h9) rfl dX9_spells_1 ?_
  refine lv_aload_n hx hb dX9_spells_4 rfl (lv_at hl 0 rfl) ?_
  refine va_get (D := D) (ci := 8) (v := .int (r 196 2)) hx hb hts hiX9 hown hK hw.1 196 kg196 rfl 2 (by decide) lf19 (fun _ h9 => h9) rfl dX9_spells_5 ?_
  refine lv_isub hx hb dX9_spells_8 (zgenE (lo := (-1000)) (hi := 1000) (zI.sub (show zI 0 1000 (r 196 3) from hJ0.i 196 3) (show zI 0 1000 (r 196 2) from hJ0.i 196 2) (by decide)) (fun v15 ev15 hv15 => ?_))
  have hE := zletE ev15 hE
  refine lv_aload_n hx hb dX9_spells_9 rfl (lv_at hl 1 rfl) ?_
  refine zcallE (va_runV (As := []) (rest := [.int v15]) ⟨hx, hb, hml, hown, hts⟩ (kc_length l D ct E a1 g1 hEi H.size) (cwV 0 hts (kgV (zr12 5 rfl) (zr12 6 rfl) (zr12 7 rfl) (zr12 8 rfl) (zr12 9 rfl)) rfl rfl rfl (by decide +kernel) ⟨Nat.le_of_ble_eq_true rfl, Nat.le_of_ble_eq_true rfl⟩) (cpreT hK hw hS hA hZ hN g1) rfl rfl hl.1 rfl (lv_room (Nat.le_of_ble_eq_true rfl)) dX9_spells_10 ⟨Nat.le_of_ble_eq_true rfl, Nat.le_of_ble_eq_true rfl⟩) hw hS hA kWn 13 rfl (fun u16 H locs pu16 hw hS => ?_)
  have hu16 : zI 0 8 u16 := pu16.1
  have yu16_0 : (u16 = nI (eL.getD a1 0)) := pu16.2.1
  have xu16 : u16 = (Gk_length a1) := pu16.2.2.1
  have hE := zletE xu16 hE
  refine zfr 13 [.int u16, .int v15] rfl rfl ?_
  refine lv_icmp_eq (tgt := 18) hx hb dX9_spells_13 (by decide) (fun c18 => ?_) (fun c18 => ?_)
  · have hE := zifT c18 hE
    have k19 : zI 0 8 (v15) := zI.eqq c18 hu16
    refine lv_iconst (v := 0) hx hb dX9_spells_18 (by decide) ?_
    refine lv_istore_n (lv' := [(2, .int 0), (0, .ref (y 196)), (1, .ref (E (40 + a1)))]) hx hb dX9_spells_19 rfl hl (by decide) rfl (fun ls hl => ?_)
    exact cut20 9 0 ((zI.lit (a := 0) (b := 0) (c := 0) (by decide)).w (c := 0) (d := 8) (by decide)) hE (zI.m0 (zI.lit (a := 0) (b := 0) (c := 0) (by decide)) (by decide)) H locs ls hw hS (lv_sub hl [1, 2, 0] rfl)
  · have hE := zifF c18 hE
    refine lv_iconst (v := 0) hx hb dX9_spells_16 (by decide) ?_
    exact ziretQ hQ hx hb hr rfl hlocks (0 : Int32) rfl ⟨((zI.lit (a := 0) (b := 0) (c := 0) (by decide)).w (c := 0) (d := 1) (by decide)), (hE.symm.trans hX), trivial⟩ hw hS dX9_spells_17

set_option maxHeartbeats 4000000 in
set_option maxRecDepth 100000 in
theorem kc_sortAs (l : Launch) (D : va_G) (ct : Nat → ClassId) (E : Nat → Nat) (y : Nat → Nat) (a1 : Int32) (r : zRr) (q : zRq) (g1 : zI 0 32 a1) (hJ0 : kJ r) (hEi : kEi E) : cC l yX9_sortAs (.code yX9_sortAs cX9_sortAs 3 (some (.object "BeardPass$Sort")) :: wsL_law0) ({ frames := 6, cells := 0, slots := 0, locals := 280 }) D ct E [.ref (y 196), .ref (E (zn a1))] (kW ct E y r q) (S := Int32) (fun u => some (.ref (E (zn u)))) (fun u => zI 0 32 u ∧ u = (Gk_sortAs a1 r q) ∧ True) (fun u => kW ct E y r q) := by
  refine cofQ cX9_sortAs 3 (some (.object "BeardPass$Sort")) (by decide) rfl (Nat.le_of_ble_eq_true rfl) ?_
  intro p e s m below meth c A a9 Q ha9 hx hb hr hml hts hown hlocks hname hK hA hZ hN hQ
  have hown : s.vm.findClass RX9 = some m.cls := hown
  have lf79 := hts (.fieldLink RX9 79 "BeardPass$Sort" "text" "Ljava/lang/String;") (ki (zr12 0 rfl))
  obtain ⟨X, hX⟩ : ∃ X, X = (Gk_sortAs a1 r q) := ⟨_, rfl⟩
  have cut2 : ∀ (n2 : Nat) (w2_1 : Int32) (w2_2 : Int32) (hw2_1 : zI 0 32 w2_1) (hw2_2 : zI 0 33 w2_2) (hE : X = Gk_sortAs_2 r q n2 w2_1 w2_2), 33 - w2_2.toInt < (n2 : Int) → zKf p l e ({ frames := 6, cells := 0, slots := 0, locals := 280 }) s m a9 below meth c Q D A 2 3 [] (kW ct E y r q) [(0, .ref (y 196)), (1, .ref (E (zn w2_1))), (2, .int w2_2)] := by
    intro n2
    induction n2 with
    | zero => intro w2_1 w2_2 hw2_1 hw2_2 hE hm2; exact zI.no hw2_2 (by decide) hm2
    | succ n2 ih2 =>
      intro w2_1 w2_2 hw2_1 hw2_2 hE hm2
      have hE : X = Bk_sortAs_2 r q (Gk_sortAs_2 r q n2) w2_1 w2_2 := hE
      unfold Bk_sortAs_2 at hE
      intro H locs ls hw hS hl
      refine lv_iload_n hx hb dX9_sortAs_2 rfl (lv_at hl 2 rfl) ?_
      refine va_getsN (C := RX7) (v := .ref (E 33)) hx hb hZ.2.1 hS hown (va_Nw.use rfl hZ.2.2.2.2.2.2.2.2) (fun _ h9 => h9) dX9_sortAs_3 ?_
      refine va_tlen (v := 33) hx hb hZ.2.2.1 hS (by decide) dX9_sortAs_6 ?_
      refine lv_icmp_ge (tgt := 37) hx hb dX9_sortAs_7 (by decide) (fun c1 => ?_) (fun c1 => ?_)
      · have hE := zifT c1 hE
        have k2 : zI 33 33 (w2_2) := zI.leD c1 (zI.lit (a := 33) (b := 33) (c := 33) (by decide)) hw2_2 (by decide)
        refine lv_aload_n hx hb dX9_sortAs_37 rfl (lv_at hl 1 rfl) ?_
        exact caretQ hQ hx hb hr hlocks w2_1 rfl ⟨hw2_1, (hE.symm.trans hX), trivial⟩ hw hS dX9_sortAs_38
      · have hE := zifF c1 hE
        have k3 : zI 0 32 (w2_2) := zI.ltU (zI.nle c1) hw2_2 (zI.lit (a := 33) (b := 33) (c := 33) (by decide)) (by decide)
        refine lv_aload_n hx hb dX9_sortAs_10 rfl (lv_at hl 0 rfl) ?_
        refine va_getsN (C := RX7) (v := .ref (E 33)) hx hb hZ.2.1 hS hown (va_Nw.use rfl hZ.2.2.2.2.2.2.2.2) (fun _ h9 => h9) dX9_sortAs_11 ?_
        refine lv_iload_n hx hb dX9_sortAs_14 rfl (lv_at hl 2 rfl) ?_
        refine vb_tq hx hb hZ.2.2.1 hS (v := .ref (E (zn w2_2))) (zI.vin k3 (by decide)) rfl dX9_sortAs_15 ?_
        refine vk_getf (o := RX7) hx hb (hZ.2.2.2.1 (zn w2_2) (k3.t33 (by decide))) hS hown lf79 (fun _ h9 => h9) dX9_sortAs_16 ?_
        refine kcallV (As := [.ref (E (40 + zn w2_2))]) (rest := []) ⟨hx, hb, hml, hown, hts⟩ (kc_spells l D ct E y (zn w2_2) r q (k3.t37 (by decide)) hJ0 hEi) (wqX9_83_kc_spells hts ⟨Nat.le_of_ble_eq_true rfl, Nat.le_of_ble_eq_true rfl⟩) hw hS hA hK hZ hN 8 196 rfl kg196 rfl hl.1 rfl (Nat.le_of_ble_eq_true rfl) dX9_sortAs_19 22 rfl (fun u4 H locs pu4 hw hS => ?_)
        have hu4 : zI 0 1 u4 := pu4.1
        have xu4 : u4 = (Gk_spells (zn w2_2) r q) := pu4.2.1
        have hE := zletE xu4 hE
        have hw : zPD D A (kW ct E y r q) H := hw
        refine zfr 22 [.int u4] rfl rfl ?_
        refine lv_if_eq (tgt := 31) hx hb dX9_sortAs_22 (by decide) (fun c6 => ?_) (fun c6 => ?_)
        · have hE := zifT c6 hE
          have k7 : zI 0 0 (u4) := zI.eqq c6 (zI.lit (a := 0) (b := 0) (c := 0) (by decide))
          refine lv_iinc (v := w2_2 + 1) (lv' := [(2, .int (w2_2 + 1)), (0, .ref (y 196)), (1, .ref (E (zn w2_1)))]) hx hb dX9_sortAs_31 hl (k := 2) rfl (rfl) (by decide) rfl (fun ls hl => ?_)
          have k8 : zI 1 33 (w2_2 + 1) := zI.add k3 (zI.lit (a := 1) (b := 1) (by decide)) (by decide)
          refine lv_goto (tgt := 2) hx hb dX9_sortAs_34 (by decide) ?_
          exact ih2 w2_1 (w2_2 + 1) hw2_1 (k8.w (c := 0) (d := 33) (by decide)) hE (zI.up k3 (by decide) hm2) H locs ls hw hS (lv_sub hl [1, 2, 0] rfl)
        · have hE := zifF c6 hE
          have k9 : zI 1 1 (u4) := zI.neD c6 hu4 (zI.lit (a := 0) (b := 0) (c := 0) (by decide)) (by decide)
          refine va_getsN (C := RX7) (v := .ref (E 33)) hx hb hZ.2.1 hS hown (va_Nw.use rfl hZ.2.2.2.2.2.2.2.2) (fun _ h9 => h9) dX9_sortAs_25 ?_
          refine lv_iload_n hx hb dX9_sortAs_28 rfl (lv_at hl 2 rfl) ?_
          refine vb_tq hx hb hZ.2.2.1 hS (v := .ref (E (zn w2_2))) (zI.vin k3 (by decide)) rfl dX9_sortAs_29 ?_
          exact caretQ hQ hx hb hr hlocks w2_2 rfl ⟨k3, (hE.symm.trans hX), trivial⟩ hw hS dX9_sortAs_30
  intro H locs hw hS ls hl
  have hl : lv_has ls 3 [(0, .ref (y 196)), (1, .ref (E (zn a1)))] := hl
  have hE := hX
  unfold Gk_sortAs at hE
  refine lv_iconst (v := 0) hx hb dX9_sortAs_0 (by decide) ?_
  refine lv_istore_n (lv' := [(2, .int 0), (0, .ref (y 196)), (1, .ref (E (zn a1)))]) hx hb dX9_sortAs_1 rfl hl (by decide) rfl (fun ls hl => ?_)
  exact cut2 34 a1 0 g1 ((zI.lit (a := 0) (b := 0) (c := 0) (by decide)).w (c := 0) (d := 33) (by decide)) hE (zI.m0 (zI.lit (a := 0) (b := 0) (c := 0) (by decide)) (by decide)) H locs ls hw hS (lv_sub hl [1, 2, 0] rfl)

set_option maxHeartbeats 4000000 in
set_option maxRecDepth 100000 in
theorem kc_wrong (l : Launch) (D : va_G) (ct : Nat → ClassId) (E : Nat → Nat) (y : Nat → Nat) (a1 : Int32) (r : zRr) (q : zRq) (hJ0 : kJ r) (hEi : kEi E) : cC l yX9_wrong (.code yX9_wrong cX9_wrong 2 (some .boolean) :: wsL_law0) ({ frames := 1, cells := 0, slots := 0, locals := 80 }) D ct E [.ref (y 196), .int a1] (kW ct E y r q) (S := Int32 × zRr) (fun u => some (.int u.1)) (fun u => zI 0 0 u.1 ∧ kJ u.2 ∧ zFr [196] r u.2 ∧ u = (Gk_wrong a1 r q) ∧ True) (fun u => kW ct E y u.2 q) := by
  refine cofQ cX9_wrong 2 (some .boolean) (by decide) rfl (Nat.le_of_ble_eq_true rfl) ?_
  intro p e s m below meth c A a9 Q ha9 hx hb hr hml hts hown hlocks hname hK hA hZ hN hQ
  have hown : s.vm.findClass RX9 = some m.cls := hown
  have hiX9 : ∀ w ∈ wsX90, w ∈ .code yX9_wrong cX9_wrong 2 (some .boolean) :: wsL_law0 := fun _ h => ki (zs_wsX90 _ h)
  have lf19 := hts (.fieldLink RX9 19 "BeardPass$Tape" "place" "I") (ki (zr3 14 rfl))
  have lf41 := hts (.fieldLink RX9 41 "BeardPass$Tape" "fault" "I") (ki (zr3 20 rfl))
  obtain ⟨X, hX⟩ : ∃ X, X = (Gk_wrong a1 r q) := ⟨_, rfl⟩
  intro H locs hw hS ls hl
  have hl : lv_has ls 2 [(0, .ref (y 196)), (1, .int a1)] := hl
  have hE := hX
  unfold Gk_wrong at hE
  refine lv_aload_n hx hb dX9_wrong_0 rfl (lv_at hl 0 rfl) ?_
  refine lv_iload_n hx hb dX9_wrong_1 rfl (lv_at hl 1 rfl) ?_
  refine lv_bipush (v := 16) hx hb dX9_wrong_2 (by decide) ?_
  refine lv_aload_n hx hb dX9_wrong_4 rfl (lv_at hl 0 rfl) ?_
  refine va_get (D := D) (ci := 8) (v := .int (r 196 2)) hx hb hts hiX9 hown hK hw.1 196 kg196 rfl 2 (by decide) lf19 (fun _ h9 => h9) rfl dX9_wrong_5 (zgenE (lo := 0) (hi := 1000) ((show zI 0 1000 (r 196 2) from hJ0.i 196 2)) (fun v1 ev1 hv1 => ?_))
  have hE := zletE ev1 hE
  refine lv_imul hx hb dX9_wrong_8 (zgenE (lo := 0) (hi := 16000) (zI.mul (zI.lit (a := 16) (b := 16) (c := 16) (by decide)) hv1 (by decide)) (fun v2 ev2 hv2 => ?_))
  have hE := zletE ev2 hE
  refine lv_iadd hx hb dX9_wrong_9 (zgenE (zI.top _) (fun v3 ev3 _ => ?_))
  have hE := zletE ev3 hE
  refine zput (D := D) (ci := 8) (v := .int v3) (ty := .int) hx hb hts hiX9 tyX9 tyX9_ok nmX9 hown hK hw hS 196 kg196 rfl 7 (by decide) lf41 (fun _ h9 => h9) rfl (by decide +kernel) rfl rfl (Nat.le_of_ble_eq_true rfl) dX9_wrong_10 (kW ct E y (zset r 196 (upd (r 196) 7 v3)) q) ks196_7 (fun H locs hw hS => ?_)
  refine cmgen (P := fun x => kJ x ∧ zFr [196] r x) hw ⟨hJ0.set rfl (zI.top _), (zFr.refl).set rfl⟩ (fun r4 er4 hw pr4 => ?_)
  have hE := zletE er4 hE
  refine lv_iconst (v := 0) hx hb dX9_wrong_13 (by decide) ?_
  exact ziretQ hQ hx hb hr rfl hlocks ((0 : Int32), r4) rfl ⟨(zI.lit (a := 0) (b := 0) (c := 0) (by decide)), pr4.1, pr4.2, (hE.symm.trans hX), trivial⟩ hw hS dX9_wrong_14

set_option maxHeartbeats 4000000 in
set_option maxRecDepth 100000 in
theorem kc_stepOverWord (l : Launch) (D : va_G) (ct : Nat → ClassId) (E : Nat → Nat) (y : Nat → Nat) (r : zRr) (q : zRq) (hJ0 : kJ r) (hEi : kEi E) : cC l yX9_stepOverWord (.code yX9_stepOverWord cX9_stepOverWord 1 none :: wsL_law0) ({ frames := 2, cells := 0, slots := 0, locals := 120 }) D ct E [.ref (y 196)] (kW ct E y r q) (S := zRr × zRq) (fun u => none) (fun u => kJ u.1 ∧ zFr [196] r u.1 ∧ u = (Gk_stepOverWord r q) ∧ True) (fun u => kW ct E y u.1 u.2) := by
  refine cofQ cX9_stepOverWord 1 none (by decide) rfl (Nat.le_of_ble_eq_true rfl) ?_
  intro p e s m below meth c A a9 Q ha9 hx hb hr hml hts hown hlocks hname hK hA hZ hN hQ
  have hown : s.vm.findClass RX9 = some m.cls := hown
  have hiX9 : ∀ w ∈ wsX90, w ∈ .code yX9_stepOverWord cX9_stepOverWord 1 none :: wsL_law0 := fun _ h => ki (zs_wsX90 _ h)
  have lf9 := hts (.fieldLink RX9 9 "BeardPass$Tape" "signs" "[C") (ki (zr3 12 rfl))
  have lf15 := hts (.fieldLink RX9 15 "BeardPass$Tape" "length" "I") (ki (zr3 13 rfl))
  have lf22 := hts (.fieldLink RX9 22 "BeardPass$Tape" "next" "I") (ki (zr3 15 rfl))
  have lf37 := hts (.fieldLink RX9 37 "BeardPass$Tape" "word" "J") (ki (zr3 19 rfl))
  obtain ⟨X, hX⟩ : ∃ X, X = (Gk_stepOverWord r q) := ⟨_, rfl⟩
  have cut5 : ∀ (n5 : Nat) (rw5 : zRr) (qw5 : zRq) (jw5 : kJ rw5) (fw5 : zFr [196] r rw5) (hE : X = Gk_stepOverWord_5 n5 rw5 qw5), 1000 - (rw5 196 3).toInt < (n5 : Int) → zKf p l e ({ frames := 2, cells := 0, slots := 0, locals := 120 }) s m a9 below meth c Q D A 5 1 [] (kW ct E y rw5 qw5) [(0, .ref (y 196))] := by
    intro n5
    induction n5 with
    | zero => intro rw5 qw5 jw5 fw5 hE hm5; exact zI.no (show zI 0 1000 _ from jw5.i 196 3) (by decide) hm5
    | succ n5 ih5 =>
      intro rw5 qw5 jw5 fw5 hE hm5
      have hE : X = Bk_stepOverWord_5 (Gk_stepOverWord_5 n5) rw5 qw5 := hE
      unfold Bk_stepOverWord_5 at hE
      intro H locs ls hw hS hl
      refine lv_aload_n hx hb dX9_stepOverWord_5 rfl (lv_at hl 0 rfl) ?_
      refine va_get (D := D) (ci := 8) (v := .int (rw5 196 3)) hx hb hts hiX9 hown hK hw.1 196 kg196 rfl 3 (by decide) lf22 (fun _ h9 => h9) rfl dX9_stepOverWord_6 ?_
      refine lv_aload_n hx hb dX9_stepOverWord_9 rfl (lv_at hl 0 rfl) ?_
      refine va_get (D := D) (ci := 8) (v := .int (rw5 196 1)) hx hb hts hiX9 hown hK hw.1 196 kg196 rfl 1 (by decide) lf15 (fun _ h9 => h9) rfl dX9_stepOverWord_10 ?_
      refine lv_icmp_ge (tgt := 70) hx hb dX9_stepOverWord_13 (by decide) (fun c1 => ?_) (fun c1 => ?_)
      · have hE := zifT c1 hE
        exact zvretQ hQ hx hb hr hlocks (rw5, qw5) rfl ⟨jw5, fw5, (hE.symm.trans hX), trivial⟩ hw hS dX9_stepOverWord_70
      · have hE := zifF c1 hE
        have k2 : zI 0 999 (rw5 196 3) := zI.ltU (zI.nle c1) (show zI 0 1000 (rw5 196 3) from jw5.i 196 3) (show zI 0 1000 (rw5 196 1) from jw5.i 196 1) (by decide)
        have k3 : zI 1 1000 (rw5 196 1) := zI.ltD (zI.nle c1) (show zI 0 1000 (rw5 196 3) from jw5.i 196 3) (show zI 0 1000 (rw5 196 1) from jw5.i 196 1) (by decide)
        refine lv_aload_n hx hb dX9_stepOverWord_16 rfl (lv_at hl 0 rfl) ?_
        refine va_get (D := D) (ci := 8) (v := .ref (y 197)) hx hb hts hiX9 hown hK hw.1 196 kg196 rfl 0 (by decide) lf9 (fun _ h9 => h9) rfl dX9_stepOverWord_17 ?_
        refine lv_aload_n hx hb dX9_stepOverWord_20 rfl (lv_at hl 0 rfl) ?_
        refine va_get (D := D) (ci := 8) (v := .int (rw5 196 3)) hx hb hts hiX9 hown hK hw.1 196 kg196 rfl 3 (by decide) lf22 (fun _ h9 => h9) rfl dX9_stepOverWord_21 ?_
        refine mcald hx hb hK hw 197 kg197 k2 (by decide) dX9_stepOverWord_24 (zgenE (zI.top _) (fun v4 ev4 _ => ?_))
        have hE := zletE ev4 hE
        refine scallE (As := [.int v4]) (rest := []) ⟨hx, hb, hml, hown, hts⟩ (kc_isLetter l D ct v4) (va_cwS 1 hts (kgS (zr11 13 rfl) (zr11 14 rfl) (zr1 16 rfl) (zr11 15 rfl)) rfl rfl rfl (by decide +kernel) ⟨Nat.le_of_ble_eq_true rfl, Nat.le_of_ble_eq_true rfl⟩) hw hS hA hK hN kWn rfl hl.1 rfl (Nat.le_of_ble_eq_true rfl) dX9_stepOverWord_25 28 rfl (fun u5 H locs pu5 hw hS => ?_)
        have hu5 : zI 0 1 u5 := pu5.1
        have xu5 : u5 = (Gk_isLetter v4) := pu5.2.1
        have hE := zletE xu5 hE
        refine zfr 28 [.int u5] rfl rfl ?_
        refine lv_if_eq (tgt := 70) hx hb dX9_stepOverWord_28 (by decide) (fun c7 => ?_) (fun c7 => ?_)
        · have hE := zifT c7 hE
          have k8 : zI 0 0 (u5) := zI.eqq c7 (zI.lit (a := 0) (b := 0) (c := 0) (by decide))
          exact zvretQ hQ hx hb hr hlocks (rw5, qw5) rfl ⟨jw5, fw5, (hE.symm.trans hX), trivial⟩ hw hS dX9_stepOverWord_70
        · have hE := zifF c7 hE
          have k9 : zI 1 1 (u5) := zI.neD c7 hu5 (zI.lit (a := 0) (b := 0) (c := 0) (by decide)) (by decide)
          refine lv_aload_n hx hb dX9_stepOverWord_31 rfl (lv_at hl 0 rfl) ?_
          refine lv_aload_n hx hb dX9_stepOverWord_32 rfl (lv_at hl 0 rfl) ?_
          refine va_get (D := D) (ci := 8) (v := .long (qw5 196 6)) hx hb hts hiX9 hown hK hw.1 196 kg196 rfl 6 (by decide) lf37 (fun _ h9 => h9) rfl dX9_stepOverWord_33 (zgenLE (fun v10 ev10 => ?_))
          have hE := zletE ev10 hE
          refine lv_iconst (v := 5) hx hb dX9_stepOverWord_36 (by decide) ?_
          refine lv_lshl (v := v10 <<< ((5 : Int32).toInt64 &&& 63)) hx hb dX9_stepOverWord_37 rfl (zgenLE (fun v11 ev11 => ?_))
          have hE := zletE ev11 hE
          refine lv_aload_n hx hb dX9_stepOverWord_38 rfl (lv_at hl 0 rfl) ?_
          refine va_get (D := D) (ci := 8) (v := .ref (y 197)) hx hb hts hiX9 hown hK hw.1 196 kg196 rfl 0 (by decide) lf9 (fun _ h9 => h9) rfl dX9_stepOverWord_39 ?_
          refine lv_aload_n hx hb dX9_stepOverWord_42 rfl (lv_at hl 0 rfl) ?_
          refine va_get (D := D) (ci := 8) (v := .int (rw5 196 3)) hx hb hts hiX9 hown hK hw.1 196 kg196 rfl 3 (by decide) lf22 (fun _ h9 => h9) rfl dX9_stepOverWord_43 ?_
          refine mcald hx hb hK hw 197 kg197 k2 (by decide) dX9_stepOverWord_46 (zgenE (zI.top _) (fun v12 ev12 _ => ?_))
          have hE := zletE ev12 hE
          refine lv_bipush (v := 97) hx hb dX9_stepOverWord_47 (by decide) ?_
          refine lv_isub hx hb dX9_stepOverWord_49 (zgenE (zI.top _) (fun v13 ev13 _ => ?_))
          have hE := zletE ev13 hE
          refine lv_iconst (v := 1) hx hb dX9_stepOverWord_50 (by decide) ?_
          refine lv_iadd hx hb dX9_stepOverWord_51 (zgenE (zI.top _) (fun v14 ev14 _ => ?_))
          have hE := zletE ev14 hE
          refine lv_i2l (v := v14.toInt64) hx hb dX9_stepOverWord_52 rfl (zgenLE (fun v15 ev15 => ?_))
          have hE := zletE ev15 hE
          refine lv_lor hx hb dX9_stepOverWord_53 (zgenLE (fun v16 ev16 => ?_))
          have hE := zletE ev16 hE
          refine zput (D := D) (ci := 8) (v := .long v16) (ty := .long) hx hb hts hiX9 tyX9 tyX9_ok nmX9 hown hK hw hS 196 kg196 rfl 6 (by decide) lf37 (fun _ h9 => h9) rfl (by decide +kernel) rfl rfl (Nat.le_of_ble_eq_true rfl) dX9_stepOverWord_54 (kW ct E y rw5 (zset qw5 196 (vp_updL (qw5 196) 6 v16))) ks196_6 (fun H locs hw hS => ?_)
          refine cqgen hw (fun q17 eq17 hw => ?_)
          have hE := zletE eq17 hE
          refine lv_aload_n hx hb dX9_stepOverWord_57 rfl (lv_at hl 0 rfl) ?_
          refine lv_dup hx hb dX9_stepOverWord_58 rfl ?_
          refine va_get (D := D) (ci := 8) (v := .int (rw5 196 3)) hx hb hts hiX9 hown hK hw.1 196 kg196 rfl 3 (by decide) lf22 (fun _ h9 => h9) rfl dX9_stepOverWord_59 ?_
          refine lv_iconst (v := 1) hx hb dX9_stepOverWord_62 (by decide) ?_
          refine lv_iadd hx hb dX9_stepOverWord_63 ?_
          have k18 : zI 1 1000 ((rw5 196 3) + 1) := zI.add k2 (zI.lit (a := 1) (b := 1) (c := 1) (by decide)) (by decide)
          refine zput (D := D) (ci := 8) (v := .int ((rw5 196 3) + 1)) (ty := .int) hx hb hts hiX9 tyX9 tyX9_ok nmX9 hown hK hw hS 196 kg196 rfl 3 (by decide) lf22 (fun _ h9 => h9) rfl (by decide +kernel) rfl rfl (Nat.le_of_ble_eq_true rfl) dX9_stepOverWord_64 (kW ct E y (zset rw5 196 (upd (rw5 196) 3 ((rw5 196 3) + 1))) q17) ks196_3 (fun H locs hw hS => ?_)
          refine cmgen (P := fun x => kJ x ∧ zFr [196] r x) hw ⟨jw5.set rfl (k18.w (c := 0) (d := 1000) (by decide)), fw5.set rfl⟩ (fun r19 er19 hw pr19 => ?_)
          have hE := zletE er19 hE
          refine lv_goto (tgt := 5) hx hb dX9_stepOverWord_67 (by decide) ?_
          exact ih5 r19 q17 pr19.1 pr19.2 hE (by rw [((congrFun (zs_self er19) 3).trans pk_us)]; exact zI.up k2 (by decide) hm5) H locs ls hw hS (lv_sub hl [0] rfl)
  intro H locs hw hS ls hl
  have hl : lv_has ls 1 [(0, .ref (y 196))] := hl
  have hE := hX
  unfold Gk_stepOverWord at hE
  refine lv_aload_n hx hb dX9_stepOverWord_0 rfl (lv_at hl 0 rfl) ?_
  refine lv_lconst (v := 0) hx hb dX9_stepOverWord_1 (by decide) ?_
  refine zput (D := D) (ci := 8) (v := .long 0) (ty := .long) hx hb hts hiX9 tyX9 tyX9_ok nmX9 hown hK hw hS 196 kg196 rfl 6 (by decide) lf37 (fun _ h9 => h9) rfl (by decide +kernel) rfl rfl (Nat.le_of_ble_eq_true rfl) dX9_stepOverWord_2 (kW ct E y r (zset q 196 (vp_updL (q 196) 6 (0 : Int64)))) ks196_6 (fun H locs hw hS => ?_)
  refine cqgen hw (fun q20 eq20 hw => ?_)
  have hE := zletE eq20 hE
  exact cut5 1001 r q20 hJ0 (zFr.refl) hE (zI.m0 (show zI 0 1000 (r 196 3) from hJ0.i 196 3) (by decide)) H locs ls hw hS (lv_sub hl [0] rfl)

set_option maxHeartbeats 4000000 in
set_option maxRecDepth 100000 in
theorem kc_stepOverNumber (l : Launch) (D : va_G) (ct : Nat → ClassId) (E : Nat → Nat) (y : Nat → Nat) (r : zRr) (q : zRq) (hJ0 : kJ r) (hEi : kEi E) : cC l yX9_stepOverNumber (.code yX9_stepOverNumber cX9_stepOverNumber 1 none :: wsL_law0) ({ frames := 2, cells := 0, slots := 0, locals := 120 }) D ct E [.ref (y 196)] (kW ct E y r q) (S := zRr) (fun u => none) (fun u => kJ u ∧ zFr [196] r u ∧ u = (Gk_stepOverNumber r q) ∧ True) (fun u => kW ct E y u q) := by
  refine cofQ cX9_stepOverNumber 1 none (by decide) rfl (Nat.le_of_ble_eq_true rfl) ?_
  intro p e s m below meth c A a9 Q ha9 hx hb hr hml hts hown hlocks hname hK hA hZ hN hQ
  have hown : s.vm.findClass RX9 = some m.cls := hown
  have hiX9 : ∀ w ∈ wsX90, w ∈ .code yX9_stepOverNumber cX9_stepOverNumber 1 none :: wsL_law0 := fun _ h => ki (zs_wsX90 _ h)
  have lf9 := hts (.fieldLink RX9 9 "BeardPass$Tape" "signs" "[C") (ki (zr3 12 rfl))
  have lf15 := hts (.fieldLink RX9 15 "BeardPass$Tape" "length" "I") (ki (zr3 13 rfl))
  have lf22 := hts (.fieldLink RX9 22 "BeardPass$Tape" "next" "I") (ki (zr3 15 rfl))
  have lf34 := hts (.fieldLink RX9 34 "BeardPass$Tape" "number" "I") (ki (zr3 18 rfl))
  obtain ⟨X, hX⟩ : ∃ X, X = (Gk_stepOverNumber r q) := ⟨_, rfl⟩
  have cut5 : ∀ (n5 : Nat) (rw5 : zRr) (jw5 : kJ rw5) (fw5 : zFr [196] r rw5) (hE : X = Gk_stepOverNumber_5 n5 rw5), 1000 - (rw5 196 3).toInt < (n5 : Int) → zKf p l e ({ frames := 2, cells := 0, slots := 0, locals := 120 }) s m a9 below meth c Q D A 5 1 [] (kW ct E y rw5 q) [(0, .ref (y 196))] := by
    intro n5
    induction n5 with
    | zero => intro rw5 jw5 fw5 hE hm5; exact zI.no (show zI 0 1000 _ from jw5.i 196 3) (by decide) hm5
    | succ n5 ih5 =>
      intro rw5 jw5 fw5 hE hm5
      have hE : X = Bk_stepOverNumber_5 (Gk_stepOverNumber_5 n5) rw5 := hE
      unfold Bk_stepOverNumber_5 at hE
      intro H locs ls hw hS hl
      refine lv_aload_n hx hb dX9_stepOverNumber_5 rfl (lv_at hl 0 rfl) ?_
      refine va_get (D := D) (ci := 8) (v := .int (rw5 196 3)) hx hb hts hiX9 hown hK hw.1 196 kg196 rfl 3 (by decide) lf22 (fun _ h9 => h9) rfl dX9_stepOverNumber_6 ?_
      refine lv_aload_n hx hb dX9_stepOverNumber_9 rfl (lv_at hl 0 rfl) ?_
      refine va_get (D := D) (ci := 8) (v := .int (rw5 196 1)) hx hb hts hiX9 hown hK hw.1 196 kg196 rfl 1 (by decide) lf15 (fun _ h9 => h9) rfl dX9_stepOverNumber_10 ?_
      refine lv_icmp_ge (tgt := 68) hx hb dX9_stepOverNumber_13 (by decide) (fun c1 => ?_) (fun c1 => ?_)
      · have hE := zifT c1 hE
        exact zvretQ hQ hx hb hr hlocks rw5 rfl ⟨jw5, fw5, (hE.symm.trans hX), trivial⟩ hw hS dX9_stepOverNumber_68
      · have hE := zifF c1 hE
        have k2 : zI 0 999 (rw5 196 3) := zI.ltU (zI.nle c1) (show zI 0 1000 (rw5 196 3) from jw5.i 196 3) (show zI 0 1000 (rw5 196 1) from jw5.i 196 1) (by decide)
        have k3 : zI 1 1000 (rw5 196 1) := zI.ltD (zI.nle c1) (show zI 0 1000 (rw5 196 3) from jw5.i 196 3) (show zI 0 1000 (rw5 196 1) from jw5.i 196 1) (by decide)
        refine lv_aload_n hx hb dX9_stepOverNumber_16 rfl (lv_at hl 0 rfl) ?_
        refine va_get (D := D) (ci := 8) (v := .ref (y 197)) hx hb hts hiX9 hown hK hw.1 196 kg196 rfl 0 (by decide) lf9 (fun _ h9 => h9) rfl dX9_stepOverNumber_17 ?_
        refine lv_aload_n hx hb dX9_stepOverNumber_20 rfl (lv_at hl 0 rfl) ?_
        refine va_get (D := D) (ci := 8) (v := .int (rw5 196 3)) hx hb hts hiX9 hown hK hw.1 196 kg196 rfl 3 (by decide) lf22 (fun _ h9 => h9) rfl dX9_stepOverNumber_21 ?_
        refine mcald hx hb hK hw 197 kg197 k2 (by decide) dX9_stepOverNumber_24 (zgenE (zI.top _) (fun v4 ev4 _ => ?_))
        have hE := zletE ev4 hE
        refine scallE (As := [.int v4]) (rest := []) ⟨hx, hb, hml, hown, hts⟩ (kc_isDigit l D ct v4) (va_cwS 1 hts (kgS (zr14 6 rfl) (zr14 7 rfl) (zr1 16 rfl) (zr14 8 rfl)) rfl rfl rfl (by decide +kernel) ⟨Nat.le_of_ble_eq_true rfl, Nat.le_of_ble_eq_true rfl⟩) hw hS hA hK hN kWn rfl hl.1 rfl (Nat.le_of_ble_eq_true rfl) dX9_stepOverNumber_25 28 rfl (fun u5 H locs pu5 hw hS => ?_)
        have hu5 : zI 0 1 u5 := pu5.1
        have xu5 : u5 = (Gk_isDigit v4) := pu5.2.1
        have hE := zletE xu5 hE
        refine zfr 28 [.int u5] rfl rfl ?_
        refine lv_if_eq (tgt := 68) hx hb dX9_stepOverNumber_28 (by decide) (fun c7 => ?_) (fun c7 => ?_)
        · have hE := zifT c7 hE
          have k8 : zI 0 0 (u5) := zI.eqq c7 (zI.lit (a := 0) (b := 0) (c := 0) (by decide))
          exact zvretQ hQ hx hb hr hlocks rw5 rfl ⟨jw5, fw5, (hE.symm.trans hX), trivial⟩ hw hS dX9_stepOverNumber_68
        · have hE := zifF c7 hE
          have k9 : zI 1 1 (u5) := zI.neD c7 hu5 (zI.lit (a := 0) (b := 0) (c := 0) (by decide)) (by decide)
          refine lv_aload_n hx hb dX9_stepOverNumber_31 rfl (lv_at hl 0 rfl) ?_
          refine lv_aload_n hx hb dX9_stepOverNumber_32 rfl (lv_at hl 0 rfl) ?_
          refine va_get (D := D) (ci := 8) (v := .int (rw5 196 5)) hx hb hts hiX9 hown hK hw.1 196 kg196 rfl 5 (by decide) lf34 (fun _ h9 => h9) rfl dX9_stepOverNumber_33 (zgenE (zI.top _) (fun v10 ev10 _ => ?_))
          have hE := zletE ev10 hE
          refine lv_bipush (v := 10) hx hb dX9_stepOverNumber_36 (by decide) ?_
          refine lv_imul hx hb dX9_stepOverNumber_38 (zgenE (zI.top _) (fun v11 ev11 _ => ?_))
          have hE := zletE ev11 hE
          refine lv_aload_n hx hb dX9_stepOverNumber_39 rfl (lv_at hl 0 rfl) ?_
          refine va_get (D := D) (ci := 8) (v := .ref (y 197)) hx hb hts hiX9 hown hK hw.1 196 kg196 rfl 0 (by decide) lf9 (fun _ h9 => h9) rfl dX9_stepOverNumber_40 ?_
          refine lv_aload_n hx hb dX9_stepOverNumber_43 rfl (lv_at hl 0 rfl) ?_
          refine va_get (D := D) (ci := 8) (v := .int (rw5 196 3)) hx hb hts hiX9 hown hK hw.1 196 kg196 rfl 3 (by decide) lf22 (fun _ h9 => h9) rfl dX9_stepOverNumber_44 ?_
          refine mcald hx hb hK hw 197 kg197 k2 (by decide) dX9_stepOverNumber_47 (zgenE (zI.top _) (fun v12 ev12 _ => ?_))
          have hE := zletE ev12 hE
          refine lv_bipush (v := 48) hx hb dX9_stepOverNumber_48 (by decide) ?_
          refine lv_isub hx hb dX9_stepOverNumber_50 (zgenE (zI.top _) (fun v13 ev13 _ => ?_))
          have hE := zletE ev13 hE
          refine lv_iadd hx hb dX9_stepOverNumber_51 (zgenE (zI.top _) (fun v14 ev14 _ => ?_))
          have hE := zletE ev14 hE
          refine zput (D := D) (ci := 8) (v := .int v14) (ty := .int) hx hb hts hiX9 tyX9 tyX9_ok nmX9 hown hK hw hS 196 kg196 rfl 5 (by decide) lf34 (fun _ h9 => h9) rfl (by decide +kernel) rfl rfl (Nat.le_of_ble_eq_true rfl) dX9_stepOverNumber_52 (kW ct E y (zset rw5 196 (upd (rw5 196) 5 v14)) q) ks196_5 (fun H locs hw hS => ?_)
          refine cmgen (P := fun x => kJ x ∧ zFr [196] r x) hw ⟨jw5.set rfl (zI.top _), fw5.set rfl⟩ (fun r15 er15 hw pr15 => ?_)
          have hE := zletE er15 hE
          refine lv_aload_n hx hb dX9_stepOverNumber_55 rfl (lv_at hl 0 rfl) ?_
          refine lv_dup hx hb dX9_stepOverNumber_56 rfl ?_
          refine va_get (D := D) (ci := 8) (v := .int (r15 196 3)) hx hb hts hiX9 hown hK hw.1 196 kg196 rfl 3 (by decide) lf22 (fun _ h9 => h9) rfl dX9_stepOverNumber_57 ?_
          refine lv_iconst (v := 1) hx hb dX9_stepOverNumber_60 (by decide) ?_
          refine lv_iadd hx hb dX9_stepOverNumber_61 ?_
          have k16 : zI 1 1000 ((r15 196 3) + 1) := zI.add (zs_in er15 (zu_at k2 (by decide))) (zI.lit (a := 1) (b := 1) (c := 1) (by decide)) (by decide)
          refine zput (D := D) (ci := 8) (v := .int ((r15 196 3) + 1)) (ty := .int) hx hb hts hiX9 tyX9 tyX9_ok nmX9 hown hK hw hS 196 kg196 rfl 3 (by decide) lf22 (fun _ h9 => h9) rfl (by decide +kernel) rfl rfl (Nat.le_of_ble_eq_true rfl) dX9_stepOverNumber_62 (kW ct E y (zset r15 196 (upd (r15 196) 3 ((r15 196 3) + 1))) q) ks196_3 (fun H locs hw hS => ?_)
          refine cmgen (P := fun x => kJ x ∧ zFr [196] r x) hw ⟨pr15.1.set rfl (k16.w (c := 0) (d := 1000) (by decide)), pr15.2.set rfl⟩ (fun r17 er17 hw pr17 => ?_)
          have hE := zletE er17 hE
          refine lv_goto (tgt := 5) hx hb dX9_stepOverNumber_65 (by decide) ?_
          exact ih5 r17 pr17.1 pr17.2 hE (by rw [((congrFun (zs_self er17) 3).trans pk_us), ((congrFun (zs_self er15) 3).trans (pk_un (by decide)))]; exact zI.up k2 (by decide) hm5) H locs ls hw hS (lv_sub hl [0] rfl)
  intro H locs hw hS ls hl
  have hl : lv_has ls 1 [(0, .ref (y 196))] := hl
  have hE := hX
  unfold Gk_stepOverNumber at hE
  refine lv_aload_n hx hb dX9_stepOverNumber_0 rfl (lv_at hl 0 rfl) ?_
  refine lv_iconst (v := 0) hx hb dX9_stepOverNumber_1 (by decide) ?_
  refine zput (D := D) (ci := 8) (v := .int 0) (ty := .int) hx hb hts hiX9 tyX9 tyX9_ok nmX9 hown hK hw hS 196 kg196 rfl 5 (by decide) lf34 (fun _ h9 => h9) rfl (by decide +kernel) rfl rfl (Nat.le_of_ble_eq_true rfl) dX9_stepOverNumber_2 (kW ct E y (zset r 196 (upd (r 196) 5 (0 : Int32))) q) ks196_5 (fun H locs hw hS => ?_)
  refine cmgen (P := fun x => kJ x ∧ zFr [196] r x) hw ⟨hJ0.set rfl (zI.top _), (zFr.refl).set rfl⟩ (fun r18 er18 hw pr18 => ?_)
  have hE := zletE er18 hE
  exact cut5 1001 r18 pr18.1 pr18.2 hE (zI.m0 (show zI 0 1000 (r18 196 3) from pr18.1.i 196 3) (by decide)) H locs ls hw hS (lv_sub hl [0] rfl)

set_option maxHeartbeats 4000000 in
set_option maxRecDepth 100000 in
theorem kc_step (l : Launch) (D : va_G) (ct : Nat → ClassId) (E : Nat → Nat) (y : Nat → Nat) (r : zRr) (q : zRq) (hJ0 : kJ r) (hEi : kEi E) : cC l yX9_step (.code yX9_step cX9_step 1 none :: wsL_law0) ({ frames := 7, cells := 0, slots := 0, locals := 320 }) D ct E [.ref (y 196)] (kW ct E y r q) (S := zRr × zRq) (fun u => none) (fun u => kJ u.1 ∧ zFr [196] r u.1 ∧ u = (Gk_step r q) ∧ True) (fun u => kW ct E y u.1 u.2) := by
  refine cofQ cX9_step 1 none (by decide) rfl (Nat.le_of_ble_eq_true rfl) ?_
  intro p e s m below meth c A a9 Q ha9 hx hb hr hml hts hown hlocks hname hK hA hZ hN hQ
  have hown : s.vm.findClass RX9 = some m.cls := hown
  have hiX9 : ∀ w ∈ wsX90, w ∈ .code yX9_step cX9_step 1 none :: wsL_law0 := fun _ h => ki (zs_wsX90 _ h)
  have lf9 := hts (.fieldLink RX9 9 "BeardPass$Tape" "signs" "[C") (ki (zr3 12 rfl))
  have lf15 := hts (.fieldLink RX9 15 "BeardPass$Tape" "length" "I") (ki (zr3 13 rfl))
  have lf19 := hts (.fieldLink RX9 19 "BeardPass$Tape" "place" "I") (ki (zr3 14 rfl))
  have lf22 := hts (.fieldLink RX9 22 "BeardPass$Tape" "next" "I") (ki (zr3 15 rfl))
  have lf25 := hts (.fieldLink RX9 25 "BeardPass$Sort" "END" "LBeardPass$Sort;") (ki (zr3 16 rfl))
  have lf31 := hts (.fieldLink RX9 31 "BeardPass$Tape" "sort" "LBeardPass$Sort;") (ki (zr3 17 rfl))
  have lf56 := hts (.fieldLink RX9 56 "BeardPass$Sort" "NO_TOKEN" "LBeardPass$Sort;") (ki (zr11 10 rfl))
  have lf59 := hts (.fieldLink RX9 59 "BeardPass$Sort" "NAME" "LBeardPass$Sort;") (ki (zr11 11 rfl))
  have lf72 := hts (.fieldLink RX9 72 "BeardPass$Sort" "NUMBER" "LBeardPass$Sort;") (ki (zr11 12 rfl))
  obtain ⟨X, hX⟩ : ∃ X, X = (Gk_step r q) := ⟨_, rfl⟩
  have cut176 : ∀ (w176_s0 : Int32) (rw176 : zRr) (hw176_s0 : zI 0 32 w176_s0) (jw176 : kJ rw176) (fw176 : zFr [196] r rw176) (hE : X = Gk_step_176 q w176_s0 rw176), zKf p l e ({ frames := 7, cells := 0, slots := 0, locals := 320 }) s m a9 below meth c Q D A 176 1 [.ref (E (zn w176_s0)), .ref (y 196)] (kW ct E y rw176 q) [] := by
    intro w176_s0 rw176 hw176_s0 jw176 fw176 hE H locs ls hw hS hl
    unfold Gk_step_176 at hE
    refine zput (D := D) (ci := 8) (v := .ref (E (zn w176_s0))) (ty := (.object "BeardPass$Sort")) hx hb hts hiX9 tyX9 tyX9_ok nmX9 hown hK hw hS 196 kg196 rfl 4 (by decide) lf31 (fun _ h9 => h9) rfl (by decide +kernel) rfl rfl (Nat.le_of_ble_eq_true rfl) dX9_step_176 (kW ct E y (zset rw176 196 (upd (rw176 196) 4 w176_s0)) q) ks196_4 (fun H locs hw hS => ?_)
    refine cmgen (P := fun x => kJ x ∧ zFr [196] r x) hw ⟨jw176.set rfl hw176_s0, fw176.set rfl⟩ (fun r1 er1 hw pr1 => ?_)
    have hE := zletE er1 hE
    refine lv_goto (tgt := 203) hx hb dX9_step_179 (by decide) ?_
    exact zvretQ hQ hx hb hr hlocks (r1, q) rfl ⟨pr1.1, pr1.2, (hE.symm.trans hX), trivial⟩ hw hS dX9_step_203
  have cut128 : ∀ (w128_s0 : Int32) (rw128 : zRr) (qw128 : zRq) (hw128_s0 : zI 0 32 w128_s0) (jw128 : kJ rw128) (fw128 : zFr [196] r rw128) (hE : X = Gk_step_128 w128_s0 rw128 qw128), zKf p l e ({ frames := 7, cells := 0, slots := 0, locals := 320 }) s m a9 below meth c Q D A 128 1 [.ref (E (zn w128_s0)), .ref (y 196)] (kW ct E y rw128 qw128) [] := by
    intro w128_s0 rw128 qw128 hw128_s0 jw128 fw128 hE H locs ls hw hS hl
    unfold Gk_step_128 at hE
    refine zput (D := D) (ci := 8) (v := .ref (E (zn w128_s0))) (ty := (.object "BeardPass$Sort")) hx hb hts hiX9 tyX9 tyX9_ok nmX9 hown hK hw hS 196 kg196 rfl 4 (by decide) lf31 (fun _ h9 => h9) rfl (by decide +kernel) rfl rfl (Nat.le_of_ble_eq_true rfl) dX9_step_128 (kW ct E y (zset rw128 196 (upd (rw128 196) 4 w128_s0)) qw128) ks196_4 (fun H locs hw hS => ?_)
    refine cmgen (P := fun x => kJ x ∧ zFr [196] r x) hw ⟨jw128.set rfl hw128_s0, fw128.set rfl⟩ (fun r2 er2 hw pr2 => ?_)
    have hE := zletE er2 hE
    refine lv_goto (tgt := 203) hx hb dX9_step_131 (by decide) ?_
    exact zvretQ hQ hx hb hr hlocks (r2, qw128) rfl ⟨pr2.1, pr2.2, (hE.symm.trans hX), trivial⟩ hw hS dX9_step_203
  have cut52 : ∀ (rw52 : zRr) (jw52 : kJ rw52) (fw52 : zFr [196] r rw52) (hE : X = Gk_step_52 q rw52), zKf p l e ({ frames := 7, cells := 0, slots := 0, locals := 320 }) s m a9 below meth c Q D A 52 1 [] (kW ct E y rw52 q) [(0, .ref (y 196))] := by
    intro rw52 jw52 fw52 hE H locs ls hw hS hl
    unfold Gk_step_52 at hE
    refine lv_aload_n hx hb dX9_step_52 rfl (lv_at hl 0 rfl) ?_
    refine lv_aload_n hx hb dX9_step_53 rfl (lv_at hl 0 rfl) ?_
    refine va_get (D := D) (ci := 8) (v := .int (rw52 196 3)) hx hb hts hiX9 hown hK hw.1 196 kg196 rfl 3 (by decide) lf22 (fun _ h9 => h9) rfl dX9_step_54 ?_
    refine zput (D := D) (ci := 8) (v := .int (rw52 196 3)) (ty := .int) hx hb hts hiX9 tyX9 tyX9_ok nmX9 hown hK hw hS 196 kg196 rfl 2 (by decide) lf19 (fun _ h9 => h9) rfl (by decide +kernel) rfl rfl (Nat.le_of_ble_eq_true rfl) dX9_step_57 (kW ct E y (zset rw52 196 (upd (rw52 196) 2 (rw52 196 3))) q) ks196_2 (fun H locs hw hS => ?_)
    refine cmgen (P := fun x => kJ x ∧ zFr [196] r x) hw ⟨jw52.set rfl (show zI 0 1000 (rw52 196 3) from jw52.i 196 3), fw52.set rfl⟩ (fun r3 er3 hw pr3 => ?_)
    have hE := zletE er3 hE
    refine lv_aload_n hx hb dX9_step_60 rfl (lv_at hl 0 rfl) ?_
    refine va_get (D := D) (ci := 8) (v := .int (r3 196 3)) hx hb hts hiX9 hown hK hw.1 196 kg196 rfl 3 (by decide) lf22 (fun _ h9 => h9) rfl dX9_step_61 ?_
    refine lv_aload_n hx hb dX9_step_64 rfl (lv_at hl 0 rfl) ?_
    refine va_get (D := D) (ci := 8) (v := .int (r3 196 1)) hx hb hts hiX9 hown hK hw.1 196 kg196 rfl 1 (by decide) lf15 (fun _ h9 => h9) rfl dX9_step_65 ?_
    refine lv_icmp_lt (tgt := 81) hx hb dX9_step_68 (by decide) (fun c4 => ?_) (fun c4 => ?_)
    · have hE := zifT c4 hE
      have k5 : zI 0 999 (r3 196 3) := zI.ltU c4 (show zI 0 1000 (r3 196 3) from pr3.1.i 196 3) (show zI 0 1000 (r3 196 1) from pr3.1.i 196 1) (by decide)
      have k6 : zI 1 1000 (r3 196 1) := zI.ltD c4 (show zI 0 1000 (r3 196 3) from pr3.1.i 196 3) (show zI 0 1000 (r3 196 1) from pr3.1.i 196 1) (by decide)
      refine lv_aload_n hx hb dX9_step_81 rfl (lv_at hl 0 rfl) ?_
      refine va_get (D := D) (ci := 8) (v := .ref (y 197)) hx hb hts hiX9 hown hK hw.1 196 kg196 rfl 0 (by decide) lf9 (fun _ h9 => h9) rfl dX9_step_82 ?_
      refine lv_aload_n hx hb dX9_step_85 rfl (lv_at hl 0 rfl) ?_
      refine va_get (D := D) (ci := 8) (v := .int (r3 196 3)) hx hb hts hiX9 hown hK hw.1 196 kg196 rfl 3 (by decide) lf22 (fun _ h9 => h9) rfl dX9_step_86 ?_
      refine mcald hx hb hK hw 197 kg197 k5 (by decide) dX9_step_89 (zgenE (zI.top _) (fun v7 ev7 _ => ?_))
      have hE := zletE ev7 hE
      refine scallE (As := [.int v7]) (rest := []) ⟨hx, hb, hml, hown, hts⟩ (kc_isLetter l D ct v7) (va_cwS 1 hts (kgS (zr11 13 rfl) (zr11 14 rfl) (zr1 16 rfl) (zr11 15 rfl)) rfl rfl rfl (by decide +kernel) ⟨Nat.le_of_ble_eq_true rfl, Nat.le_of_ble_eq_true rfl⟩) hw hS hA hK hN kWn rfl hl.1 rfl (Nat.le_of_ble_eq_true rfl) dX9_step_90 93 rfl (fun u8 H locs pu8 hw hS => ?_)
      have hu8 : zI 0 1 u8 := pu8.1
      have xu8 : u8 = (Gk_isLetter v7) := pu8.2.1
      have hE := zletE xu8 hE
      refine zfr 93 [.int u8] rfl rfl ?_
      refine lv_if_eq (tgt := 134) hx hb dX9_step_93 (by decide) (fun c10 => ?_) (fun c10 => ?_)
      · have hE := zifT c10 hE
        have k11 : zI 0 0 (u8) := zI.eqq c10 (zI.lit (a := 0) (b := 0) (c := 0) (by decide))
        refine lv_aload_n hx hb dX9_step_134 rfl (lv_at hl 0 rfl) ?_
        refine va_get (D := D) (ci := 8) (v := .ref (y 197)) hx hb hts hiX9 hown hK hw.1 196 kg196 rfl 0 (by decide) lf9 (fun _ h9 => h9) rfl dX9_step_135 ?_
        refine lv_aload_n hx hb dX9_step_138 rfl (lv_at hl 0 rfl) ?_
        refine va_get (D := D) (ci := 8) (v := .int (r3 196 3)) hx hb hts hiX9 hown hK hw.1 196 kg196 rfl 3 (by decide) lf22 (fun _ h9 => h9) rfl dX9_step_139 ?_
        refine mcald hx hb hK hw 197 kg197 k5 (by decide) dX9_step_142 (zgenE (zI.top _) (fun v12 ev12 _ => ?_))
        have hE := zletE ev12 hE
        refine scallE (As := [.int v12]) (rest := []) ⟨hx, hb, hml, hown, hts⟩ (kc_isDigit l D ct v12) (va_cwS 1 hts (kgS (zr14 6 rfl) (zr14 7 rfl) (zr1 16 rfl) (zr14 8 rfl)) rfl rfl rfl (by decide +kernel) ⟨Nat.le_of_ble_eq_true rfl, Nat.le_of_ble_eq_true rfl⟩) hw hS hA hK hN kWn rfl hl.1 rfl (Nat.le_of_ble_eq_true rfl) dX9_step_143 146 rfl (fun u13 H locs pu13 hw hS => ?_)
        have hu13 : zI 0 1 u13 := pu13.1
        have xu13 : u13 = (Gk_isDigit v12) := pu13.2.1
        have hE := zletE xu13 hE
        refine zfr 146 [.int u13] rfl rfl ?_
        refine lv_if_eq (tgt := 182) hx hb dX9_step_146 (by decide) (fun c15 => ?_) (fun c15 => ?_)
        · have hE := zifT c15 hE
          have k16 : zI 0 0 (u13) := zI.eqq c15 (zI.lit (a := 0) (b := 0) (c := 0) (by decide))
          refine lv_aload_n hx hb dX9_step_182 rfl (lv_at hl 0 rfl) ?_
          refine lv_dup hx hb dX9_step_183 rfl ?_
          refine va_get (D := D) (ci := 8) (v := .int (r3 196 3)) hx hb hts hiX9 hown hK hw.1 196 kg196 rfl 3 (by decide) lf22 (fun _ h9 => h9) rfl dX9_step_184 ?_
          refine lv_iconst (v := 1) hx hb dX9_step_187 (by decide) ?_
          refine lv_iadd hx hb dX9_step_188 ?_
          have k17 : zI 1 1000 ((r3 196 3) + 1) := zI.add k5 (zI.lit (a := 1) (b := 1) (c := 1) (by decide)) (by decide)
          refine zput (D := D) (ci := 8) (v := .int ((r3 196 3) + 1)) (ty := .int) hx hb hts hiX9 tyX9 tyX9_ok nmX9 hown hK hw hS 196 kg196 rfl 3 (by decide) lf22 (fun _ h9 => h9) rfl (by decide +kernel) rfl rfl (Nat.le_of_ble_eq_true rfl) dX9_step_189 (kW ct E y (zset r3 196 (upd (r3 196) 3 ((r3 196 3) + 1))) q) ks196_3 (fun H locs hw hS => ?_)
          refine cmgen (P := fun x => kJ x ∧ zFr [196] r x) hw ⟨pr3.1.set rfl (k17.w (c := 0) (d := 1000) (by decide)), pr3.2.set rfl⟩ (fun r18 er18 hw pr18 => ?_)
          have hE := zletE er18 hE
          refine lv_aload_n hx hb dX9_step_192 rfl (lv_at hl 0 rfl) ?_
          refine lv_aload_n hx hb dX9_step_193 rfl (lv_at hl 0 rfl) ?_
          refine cgets 32 (by decide) hx hb hZ hS hown lf56 dX9_step_194 (ztop (.ref (E (zn 32))) rfl ?_)
          refine kcallV (As := [.ref (E (zn 32))]) (rest := [.ref (y 196)]) ⟨hx, hb, hml, hown, hts⟩ (kc_sortAs l D ct E y 32 r18 q ((zI.lit (a := 32) (b := 32) (c := 32) (by decide)).w (c := 0) (d := 32) (by decide)) pr18.1 hEi) (wqX9_62_kc_sortAs hts ⟨Nat.le_of_ble_eq_true rfl, Nat.le_of_ble_eq_true rfl⟩) hw hS hA hK hZ hN 8 196 rfl kg196 rfl hl.1 rfl (Nat.le_of_ble_eq_true rfl) dX9_step_197 200 rfl (fun u19 H locs pu19 hw hS => ?_)
          have hu19 : zI 0 32 u19 := pu19.1
          have xu19 : u19 = (Gk_sortAs 32 r18 q) := pu19.2.1
          have hE := zletE xu19 hE
          have hw : zPD D A (kW ct E y r18 q) H := hw
          refine zfr 200 [.ref (E (zn u19)), .ref (y 196)] rfl rfl ?_
          refine zput (D := D) (ci := 8) (v := .ref (E (zn u19))) (ty := (.object "BeardPass$Sort")) hx hb hts hiX9 tyX9 tyX9_ok nmX9 hown hK hw hS 196 kg196 rfl 4 (by decide) lf31 (fun _ h9 => h9) rfl (by decide +kernel) rfl rfl (Nat.le_of_ble_eq_true rfl) dX9_step_200 (kW ct E y (zset r18 196 (upd (r18 196) 4 u19)) q) ks196_4 (fun H locs hw hS => ?_)
          refine cmgen (P := fun x => kJ x ∧ zFr [196] r x) hw ⟨pr18.1.set rfl hu19, pr18.2.set rfl⟩ (fun r21 er21 hw pr21 => ?_)
          have hE := zletE er21 hE
          exact zvretQ hQ hx hb hr hlocks (r21, q) rfl ⟨pr21.1, pr21.2, (hE.symm.trans hX), trivial⟩ hw hS dX9_step_203
        · have hE := zifF c15 hE
          have k22 : zI 1 1 (u13) := zI.neD c15 hu13 (zI.lit (a := 0) (b := 0) (c := 0) (by decide)) (by decide)
          refine lv_aload_n hx hb dX9_step_149 rfl (lv_at hl 0 rfl) ?_
          refine kcallV (As := []) (rest := []) ⟨hx, hb, hml, hown, hts⟩ (kc_stepOverNumber l D ct E y r3 q pr3.1 hEi) (wqX9_69_kc_stepOverNumber hts ⟨Nat.le_of_ble_eq_true rfl, Nat.le_of_ble_eq_true rfl⟩) hw hS hA hK hZ hN 8 196 rfl kg196 rfl hl.1 rfl (Nat.le_of_ble_eq_true rfl) dX9_step_150 153 rfl (fun u23 H locs pu23 hw hS => ?_)
          have ju23 : kJ u23 := pu23.1
          have fu23 : zFr [196] r3 u23 := pu23.2.1
          have xu23 : u23 = (Gk_stepOverNumber r3 q) := pu23.2.2.1
          have hE := zletE xu23 hE
          have hw : zPD D A (kW ct E y u23 q) H := hw
          refine zfr 153 [] rfl rfl ?_
          refine lv_aload_n hx hb dX9_step_153 rfl (lv_at hl 0 rfl) ?_
          refine lv_aload_n hx hb dX9_step_154 rfl (lv_at hl 0 rfl) ?_
          refine va_get (D := D) (ci := 8) (v := .int (u23 196 3)) hx hb hts hiX9 hown hK hw.1 196 kg196 rfl 3 (by decide) lf22 (fun _ h9 => h9) rfl dX9_step_155 ?_
          refine lv_aload_n hx hb dX9_step_158 rfl (lv_at hl 0 rfl) ?_
          refine va_get (D := D) (ci := 8) (v := .int (u23 196 2)) hx hb hts hiX9 hown hK hw.1 196 kg196 rfl 2 (by decide) lf19 (fun _ h9 => h9) rfl dX9_step_159 (zgenE (lo := 0) (hi := 1000) ((show zI 0 1000 (u23 196 2) from ju23.i 196 2)) (fun v25 ev25 hv25 => ?_))
          have hE := zletE ev25 hE
          refine lv_isub hx hb dX9_step_162 (zgenE (lo := (-1000)) (hi := 1000) (zI.sub (show zI 0 1000 (u23 196 3) from ju23.i 196 3) hv25 (by decide)) (fun v26 ev26 hv26 => ?_))
          have hE := zletE ev26 hE
          refine lv_iconst (v := 4) hx hb dX9_step_163 (by decide) ?_
          refine lv_icmp_le (tgt := 173) hx hb dX9_step_164 (by decide) (fun c27 => ?_) (fun c27 => ?_)
          · have hE := zifT c27 hE
            have k28 : zI (-1000) 4 (v26) := zI.leU c27 hv26 (zI.lit (a := 4) (b := 4) (c := 4) (by decide)) (by decide)
            refine cgets 30 (by decide) hx hb hZ hS hown lf72 dX9_step_173 (ztop (.ref (E (zn 30))) rfl ?_)
            exact cut176 30 u23 ((zI.lit (a := 30) (b := 30) (c := 30) (by decide)).w (c := 0) (d := 32) (by decide)) ju23 (pr3.2.tr fu23 rfl) hE H locs ls hw hS (lv_sub hl [] rfl)
          · have hE := zifF c27 hE
            have k29 : zI 5 1000 (v26) := zI.ltD (zI.nle c27) (zI.lit (a := 4) (b := 4) (c := 4) (by decide)) hv26 (by decide)
            refine cgets 32 (by decide) hx hb hZ hS hown lf56 dX9_step_167 (ztop (.ref (E (zn 32))) rfl ?_)
            refine lv_goto (tgt := 176) hx hb dX9_step_170 (by decide) ?_
            exact cut176 32 u23 ((zI.lit (a := 32) (b := 32) (c := 32) (by decide)).w (c := 0) (d := 32) (by decide)) ju23 (pr3.2.tr fu23 rfl) hE H locs ls hw hS (lv_sub hl [] rfl)
      · have hE := zifF c10 hE
        have k30 : zI 1 1 (u8) := zI.neD c10 hu8 (zI.lit (a := 0) (b := 0) (c := 0) (by decide)) (by decide)
        refine lv_aload_n hx hb dX9_step_96 rfl (lv_at hl 0 rfl) ?_
        refine kcallV (As := []) (rest := []) ⟨hx, hb, hml, hown, hts⟩ (kc_stepOverWord l D ct E y r3 q pr3.1 hEi) (wqX9_53_kc_stepOverWord hts ⟨Nat.le_of_ble_eq_true rfl, Nat.le_of_ble_eq_true rfl⟩) hw hS hA hK hZ hN 8 196 rfl kg196 rfl hl.1 rfl (Nat.le_of_ble_eq_true rfl) dX9_step_97 100 rfl (fun u31 H locs pu31 hw hS => ?_)
        obtain ⟨r32, q33⟩ := u31
        have ju31 : kJ r32 := pu31.1
        have fu31 : zFr [196] r3 r32 := pu31.2.1
        have xu31 : (r32, q33) = (Gk_stepOverWord r3 q) := pu31.2.2.1
        have hE := zc_rqE xu31 hE
        have hw : zPD D A (kW ct E y r32 q33) H := hw
        refine zfr 100 [] rfl rfl ?_
        refine lv_aload_n hx hb dX9_step_100 rfl (lv_at hl 0 rfl) ?_
        refine lv_aload_n hx hb dX9_step_101 rfl (lv_at hl 0 rfl) ?_
        refine va_get (D := D) (ci := 8) (v := .int (r32 196 3)) hx hb hts hiX9 hown hK hw.1 196 kg196 rfl 3 (by decide) lf22 (fun _ h9 => h9) rfl dX9_step_102 ?_
        refine lv_aload_n hx hb dX9_step_105 rfl (lv_at hl 0 rfl) ?_
        refine va_get (D := D) (ci := 8) (v := .int (r32 196 2)) hx hb hts hiX9 hown hK hw.1 196 kg196 rfl 2 (by decide) lf19 (fun _ h9 => h9) rfl dX9_step_106 (zgenE (lo := 0) (hi := 1000) ((show zI 0 1000 (r32 196 2) from ju31.i 196 2)) (fun v34 ev34 hv34 => ?_))
        have hE := zletE ev34 hE
        refine lv_isub hx hb dX9_step_109 (zgenE (lo := (-1000)) (hi := 1000) (zI.sub (show zI 0 1000 (r32 196 3) from ju31.i 196 3) hv34 (by decide)) (fun v35 ev35 hv35 => ?_))
        have hE := zletE ev35 hE
        refine lv_bipush (v := 8) hx hb dX9_step_110 (by decide) ?_
        refine lv_icmp_le (tgt := 121) hx hb dX9_step_112 (by decide) (fun c36 => ?_) (fun c36 => ?_)
        · have hE := zifT c36 hE
          have k37 : zI (-1000) 8 (v35) := zI.leU c36 hv35 (zI.lit (a := 8) (b := 8) (c := 8) (by decide)) (by decide)
          refine lv_aload_n hx hb dX9_step_121 rfl (lv_at hl 0 rfl) ?_
          refine cgets 29 (by decide) hx hb hZ hS hown lf59 dX9_step_122 (ztop (.ref (E (zn 29))) rfl ?_)
          refine kcallV (As := [.ref (E (zn 29))]) (rest := [.ref (y 196)]) ⟨hx, hb, hml, hown, hts⟩ (kc_sortAs l D ct E y 29 r32 q33 ((zI.lit (a := 29) (b := 29) (c := 29) (by decide)).w (c := 0) (d := 32) (by decide)) ju31 hEi) (wqX9_62_kc_sortAs hts ⟨Nat.le_of_ble_eq_true rfl, Nat.le_of_ble_eq_true rfl⟩) hw hS hA hK hZ hN 8 196 rfl kg196 rfl hl.1 rfl (Nat.le_of_ble_eq_true rfl) dX9_step_125 128 rfl (fun u38 H locs pu38 hw hS => ?_)
          have hu38 : zI 0 32 u38 := pu38.1
          have xu38 : u38 = (Gk_sortAs 29 r32 q33) := pu38.2.1
          have hE := zletE xu38 hE
          have hw : zPD D A (kW ct E y r32 q33) H := hw
          refine zfr 128 [.ref (E (zn u38)), .ref (y 196)] rfl rfl ?_
          exact cut128 u38 r32 q33 hu38 ju31 (pr3.2.tr fu31 rfl) hE H locs ls hw hS (lv_sub hl [] rfl)
        · have hE := zifF c36 hE
          have k40 : zI 9 1000 (v35) := zI.ltD (zI.nle c36) (zI.lit (a := 8) (b := 8) (c := 8) (by decide)) hv35 (by decide)
          refine cgets 32 (by decide) hx hb hZ hS hown lf56 dX9_step_115 (ztop (.ref (E (zn 32))) rfl ?_)
          refine lv_goto (tgt := 128) hx hb dX9_step_118 (by decide) ?_
          exact cut128 32 r32 q33 ((zI.lit (a := 32) (b := 32) (c := 32) (by decide)).w (c := 0) (d := 32) (by decide)) ju31 (pr3.2.tr fu31 rfl) hE H locs ls hw hS (lv_sub hl [] rfl)
    · have hE := zifF c4 hE
      refine lv_aload_n hx hb dX9_step_71 rfl (lv_at hl 0 rfl) ?_
      refine cgets 31 (by decide) hx hb hZ hS hown lf25 dX9_step_72 (ztop (.ref (E (zn 31))) rfl ?_)
      refine zput (D := D) (ci := 8) (v := .ref (E (zn 31))) (ty := (.object "BeardPass$Sort")) hx hb hts hiX9 tyX9 tyX9_ok nmX9 hown hK hw hS 196 kg196 rfl 4 (by decide) lf31 (fun _ h9 => h9) rfl (by decide +kernel) rfl rfl (Nat.le_of_ble_eq_true rfl) dX9_step_75 (kW ct E y (zset r3 196 (upd (r3 196) 4 (31 : Int32))) q) ks196_4 (fun H locs hw hS => ?_)
      refine cmgen (P := fun x => kJ x ∧ zFr [196] r x) hw ⟨pr3.1.set rfl ((zI.lit (a := 31) (b := 31) (c := 31) (by decide)).w (c := 0) (d := 32) (by decide)), pr3.2.set rfl⟩ (fun r41 er41 hw pr41 => ?_)
      have hE := zletE er41 hE
      refine lv_goto (tgt := 203) hx hb dX9_step_78 (by decide) ?_
      exact zvretQ hQ hx hb hr hlocks (r41, q) rfl ⟨pr41.1, pr41.2, (hE.symm.trans hX), trivial⟩ hw hS dX9_step_203
  have cut0 : ∀ (n0 : Nat) (rw0 : zRr) (jw0 : kJ rw0) (fw0 : zFr [196] r rw0) (hE : X = Gk_step_0 q n0 rw0), 1000 - (rw0 196 3).toInt < (n0 : Int) → zKf p l e ({ frames := 7, cells := 0, slots := 0, locals := 320 }) s m a9 below meth c Q D A 0 1 [] (kW ct E y rw0 q) [(0, .ref (y 196))] := by
    intro n0
    induction n0 with
    | zero => intro rw0 jw0 fw0 hE hm0; exact zI.no (show zI 0 1000 _ from jw0.i 196 3) (by decide) hm0
    | succ n0 ih0 =>
      intro rw0 jw0 fw0 hE hm0
      have hE : X = Bk_step_0 q (Gk_step_0 q n0) rw0 := hE
      unfold Bk_step_0 at hE
      have cut39 : ∀ (mw39_196_1 : zI 1 1000 (rw0 196 1)) (mw39_196_3 : zI 0 999 (rw0 196 3)) (hE : X = Gk_step_39 rw0 (Gk_step_0 q n0) ), zKf p l e ({ frames := 7, cells := 0, slots := 0, locals := 320 }) s m a9 below meth c Q D A 39 1 [] (kW ct E y rw0 q) [(0, .ref (y 196))] := by
        intro mw39_196_1 mw39_196_3 hE H locs ls hw hS hl
        unfold Gk_step_39 at hE
        refine lv_aload_n hx hb dX9_step_39 rfl (lv_at hl 0 rfl) ?_
        refine lv_dup hx hb dX9_step_40 rfl ?_
        refine va_get (D := D) (ci := 8) (v := .int (rw0 196 3)) hx hb hts hiX9 hown hK hw.1 196 kg196 rfl 3 (by decide) lf22 (fun _ h9 => h9) rfl dX9_step_41 ?_
        refine lv_iconst (v := 1) hx hb dX9_step_44 (by decide) ?_
        refine lv_iadd hx hb dX9_step_45 ?_
        have k42 : zI 1 1000 ((rw0 196 3) + 1) := zI.add mw39_196_3 (zI.lit (a := 1) (b := 1) (c := 1) (by decide)) (by decide)
        refine zput (D := D) (ci := 8) (v := .int ((rw0 196 3) + 1)) (ty := .int) hx hb hts hiX9 tyX9 tyX9_ok nmX9 hown hK hw hS 196 kg196 rfl 3 (by decide) lf22 (fun _ h9 => h9) rfl (by decide +kernel) rfl rfl (Nat.le_of_ble_eq_true rfl) dX9_step_46 (kW ct E y (zset rw0 196 (upd (rw0 196) 3 ((rw0 196 3) + 1))) q) ks196_3 (fun H locs hw hS => ?_)
        refine cmgen (P := fun x => kJ x ∧ zFr [196] r x) hw ⟨jw0.set rfl (k42.w (c := 0) (d := 1000) (by decide)), fw0.set rfl⟩ (fun r43 er43 hw pr43 => ?_)
        have hE := zletE er43 hE
        refine lv_goto (tgt := 0) hx hb dX9_step_49 (by decide) ?_
        exact ih0 r43 pr43.1 pr43.2 hE (by rw [((congrFun (zs_self er43) 3).trans pk_us)]; exact zI.up mw39_196_3 (by decide) hm0) H locs ls hw hS (lv_sub hl [0] rfl)
      intro H locs ls hw hS hl
      refine lv_aload_n hx hb dX9_step_0 rfl (lv_at hl 0 rfl) ?_
      refine va_get (D := D) (ci := 8) (v := .int (rw0 196 3)) hx hb hts hiX9 hown hK hw.1 196 kg196 rfl 3 (by decide) lf22 (fun _ h9 => h9) rfl dX9_step_1 ?_
      refine lv_aload_n hx hb dX9_step_4 rfl (lv_at hl 0 rfl) ?_
      refine va_get (D := D) (ci := 8) (v := .int (rw0 196 1)) hx hb hts hiX9 hown hK hw.1 196 kg196 rfl 1 (by decide) lf15 (fun _ h9 => h9) rfl dX9_step_5 ?_
      refine lv_icmp_ge (tgt := 52) hx hb dX9_step_8 (by decide) (fun c44 => ?_) (fun c44 => ?_)
      · have hE := zifT c44 hE
        exact cut52 rw0 jw0 fw0 hE H locs ls hw hS (lv_sub hl [0] rfl)
      · have hE := zifF c44 hE
        have k45 : zI 0 999 (rw0 196 3) := zI.ltU (zI.nle c44) (show zI 0 1000 (rw0 196 3) from jw0.i 196 3) (show zI 0 1000 (rw0 196 1) from jw0.i 196 1) (by decide)
        have k46 : zI 1 1000 (rw0 196 1) := zI.ltD (zI.nle c44) (show zI 0 1000 (rw0 196 3) from jw0.i 196 3) (show zI 0 1000 (rw0 196 1) from jw0.i 196 1) (by decide)
        refine lv_aload_n hx hb dX9_step_11 rfl (lv_at hl 0 rfl) ?_
        refine va_get (D := D) (ci := 8) (v := .ref (y 197)) hx hb hts hiX9 hown hK hw.1 196 kg196 rfl 0 (by decide) lf9 (fun _ h9 => h9) rfl dX9_step_12 ?_
        refine lv_aload_n hx hb dX9_step_15 rfl (lv_at hl 0 rfl) ?_
        refine va_get (D := D) (ci := 8) (v := .int (rw0 196 3)) hx hb hts hiX9 hown hK hw.1 196 kg196 rfl 3 (by decide) lf22 (fun _ h9 => h9) rfl dX9_step_16 ?_
        refine mcald hx hb hK hw 197 kg197 k45 (by decide) dX9_step_19 (zgenE (zI.top _) (fun v47 ev47 _ => ?_))
        have hE := zletE ev47 hE
        refine lv_bipush (v := 32) hx hb dX9_step_20 (by decide) ?_
        refine lv_icmp_eq (tgt := 39) hx hb dX9_step_22 (by decide) (fun c48 => ?_) (fun c48 => ?_)
        · have hE := zifT c48 hE
          have k49 : zI 32 32 (v47) := zI.eqq c48 (zI.lit (a := 32) (b := 32) (c := 32) (by decide))
          exact cut39 k46 k45 hE H locs ls hw hS (lv_sub hl [0] rfl)
        · have hE := zifF c48 hE
          refine lv_aload_n hx hb dX9_step_25 rfl (lv_at hl 0 rfl) ?_
          refine va_get (D := D) (ci := 8) (v := .ref (y 197)) hx hb hts hiX9 hown hK hw.1 196 kg196 rfl 0 (by decide) lf9 (fun _ h9 => h9) rfl dX9_step_26 ?_
          refine lv_aload_n hx hb dX9_step_29 rfl (lv_at hl 0 rfl) ?_
          refine va_get (D := D) (ci := 8) (v := .int (rw0 196 3)) hx hb hts hiX9 hown hK hw.1 196 kg196 rfl 3 (by decide) lf22 (fun _ h9 => h9) rfl dX9_step_30 ?_
          refine mcald hx hb hK hw 197 kg197 k45 (by decide) dX9_step_33 (zgenE (zI.top _) (fun v50 ev50 _ => ?_))
          have hE := zletE ev50 hE
          refine lv_bipush (v := 10) hx hb dX9_step_34 (by decide) ?_
          refine lv_icmp_ne (tgt := 52) hx hb dX9_step_36 (by decide) (fun c51 => ?_) (fun c51 => ?_)
          · have hE := zifnT c51 hE
            exact cut52 rw0 jw0 fw0 hE H locs ls hw hS (lv_sub hl [0] rfl)
          · have hE := zifnF c51 hE
            have k52 : zI 10 10 (v50) := zI.eqq c51 (zI.lit (a := 10) (b := 10) (c := 10) (by decide))
            exact cut39 k46 k45 hE H locs ls hw hS (lv_sub hl [0] rfl)
  intro H locs hw hS ls hl
  have hl : lv_has ls 1 [(0, .ref (y 196))] := hl
  have hE := hX
  unfold Gk_step at hE
  exact cut0 1001 r hJ0 (zFr.refl) hE (zI.m0 (show zI 0 1000 (r 196 3) from hJ0.i 196 3) (by decide)) H locs ls hw hS (lv_sub hl [0] rfl)

set_option maxHeartbeats 4000000 in
set_option maxRecDepth 100000 in
theorem kc_begin (l : Launch) (D : va_G) (ct : Nat → ClassId) (E : Nat → Nat) (y : Nat → Nat) (r : zRr) (q : zRq) (hJ0 : kJ r) (hEi : kEi E) : cC l yX9_begin (.code yX9_begin cX9_begin 1 none :: wsL_law0) ({ frames := 8, cells := 0, slots := 0, locals := 360 }) D ct E [.ref (y 196)] (kW ct E y r q) (S := zRr × zRq) (fun u => none) (fun u => kJ u.1 ∧ zFr [196] r u.1 ∧ u = (Gk_begin r q) ∧ True) (fun u => kW ct E y u.1 u.2) := by
  refine cofQ cX9_begin 1 none (by decide) rfl (Nat.le_of_ble_eq_true rfl) ?_
  intro p e s m below meth c A a9 Q ha9 hx hb hr hml hts hown hlocks hname hK hA hZ hN hQ
  have hown : s.vm.findClass RX9 = some m.cls := hown
  have hiX9 : ∀ w ∈ wsX90, w ∈ .code yX9_begin cX9_begin 1 none :: wsL_law0 := fun _ h => ki (zs_wsX90 _ h)
  have lf22 := hts (.fieldLink RX9 22 "BeardPass$Tape" "next" "I") (ki (zr3 15 rfl))
  have lf41 := hts (.fieldLink RX9 41 "BeardPass$Tape" "fault" "I") (ki (zr3 20 rfl))
  obtain ⟨X, hX⟩ : ∃ X, X = (Gk_begin r q) := ⟨_, rfl⟩
  intro H locs hw hS ls hl
  have hl : lv_has ls 1 [(0, .ref (y 196))] := hl
  have hE := hX
  unfold Gk_begin at hE
  refine lv_aload_n hx hb dX9_begin_0 rfl (lv_at hl 0 rfl) ?_
  refine lv_iconst (v := 0) hx hb dX9_begin_1 (by decide) ?_
  refine zput (D := D) (ci := 8) (v := .int 0) (ty := .int) hx hb hts hiX9 tyX9 tyX9_ok nmX9 hown hK hw hS 196 kg196 rfl 3 (by decide) lf22 (fun _ h9 => h9) rfl (by decide +kernel) rfl rfl (Nat.le_of_ble_eq_true rfl) dX9_begin_2 (kW ct E y (zset r 196 (upd (r 196) 3 (0 : Int32))) q) ks196_3 (fun H locs hw hS => ?_)
  refine cmgen (P := fun x => kJ x ∧ zFr [196] r x) hw ⟨hJ0.set rfl ((zI.lit (a := 0) (b := 0) (c := 0) (by decide)).w (c := 0) (d := 1000) (by decide)), (zFr.refl).set rfl⟩ (fun r1 er1 hw pr1 => ?_)
  have hE := zletE er1 hE
  refine lv_aload_n hx hb dX9_begin_5 rfl (lv_at hl 0 rfl) ?_
  refine lv_iconst (v := 0) hx hb dX9_begin_6 (by decide) ?_
  refine zput (D := D) (ci := 8) (v := .int 0) (ty := .int) hx hb hts hiX9 tyX9 tyX9_ok nmX9 hown hK hw hS 196 kg196 rfl 7 (by decide) lf41 (fun _ h9 => h9) rfl (by decide +kernel) rfl rfl (Nat.le_of_ble_eq_true rfl) dX9_begin_7 (kW ct E y (zset r1 196 (upd (r1 196) 7 (0 : Int32))) q) ks196_7 (fun H locs hw hS => ?_)
  refine cmgen (P := fun x => kJ x ∧ zFr [196] r x) hw ⟨pr1.1.set rfl (zI.top _), pr1.2.set rfl⟩ (fun r2 er2 hw pr2 => ?_)
  have hE := zletE er2 hE
  refine lv_aload_n hx hb dX9_begin_10 rfl (lv_at hl 0 rfl) ?_
  refine kcallV (As := []) (rest := []) ⟨hx, hb, hml, hown, hts⟩ (kc_step l D ct E y r2 q pr2.1 hEi) (wqX9_46_kc_step hts ⟨Nat.le_of_ble_eq_true rfl, Nat.le_of_ble_eq_true rfl⟩) hw hS hA hK hZ hN 8 196 rfl kg196 rfl hl.1 rfl (Nat.le_of_ble_eq_true rfl) dX9_begin_11 14 rfl (fun u3 H locs pu3 hw hS => ?_)
  obtain ⟨r4, q5⟩ := u3
  have ju3 : kJ r4 := pu3.1
  have fu3 : zFr [196] r2 r4 := pu3.2.1
  have xu3 : (r4, q5) = (Gk_step r2 q) := pu3.2.2.1
  have hE := zc_rqE xu3 hE
  have hw : zPD D A (kW ct E y r4 q5) H := hw
  refine zfr 14 [] rfl rfl ?_
  exact zvretQ hQ hx hb hr hlocks (r4, q5) rfl ⟨ju3, (pr2.2.tr fu3 rfl), (hE.symm.trans hX), trivial⟩ hw hS dX9_begin_14

set_option maxHeartbeats 4000000 in
set_option maxRecDepth 100000 in
theorem kc_take (l : Launch) (D : va_G) (ct : Nat → ClassId) (E : Nat → Nat) (y : Nat → Nat) (a1 : Int32) (r : zRr) (q : zRq) (g1 : zI 0 32 a1) (hJ0 : kJ r) (hEi : kEi E) : cC l yX9_take (.code yX9_take cX9_take 2 (some .boolean) :: wsL_law0) ({ frames := 8, cells := 0, slots := 0, locals := 360 }) D ct E [.ref (y 196), .ref (E (zn a1))] (kW ct E y r q) (S := Int32 × zRr × zRq) (fun u => some (.int u.1)) (fun u => zI 0 1 u.1 ∧ kJ u.2.1 ∧ zFr [196] r u.2.1 ∧ u = (Gk_take a1 r q) ∧ True) (fun u => kW ct E y u.2.1 u.2.2) := by
  refine cofQ cX9_take 2 (some .boolean) (by decide) rfl (Nat.le_of_ble_eq_true rfl) ?_
  intro p e s m below meth c A a9 Q ha9 hx hb hr hml hts hown hlocks hname hK hA hZ hN hQ
  have hown : s.vm.findClass RX9 = some m.cls := hown
  have hiX9 : ∀ w ∈ wsX90, w ∈ .code yX9_take cX9_take 2 (some .boolean) :: wsL_law0 := fun _ h => ki (zs_wsX90 _ h)
  have lf31 := hts (.fieldLink RX9 31 "BeardPass$Tape" "sort" "LBeardPass$Sort;") (ki (zr3 17 rfl))
  obtain ⟨X, hX⟩ : ∃ X, X = (Gk_take a1 r q) := ⟨_, rfl⟩
  intro H locs hw hS ls hl
  have hl : lv_has ls 2 [(0, .ref (y 196)), (1, .ref (E (zn a1)))] := hl
  have hE := hX
  unfold Gk_take at hE
  refine lv_aload_n hx hb dX9_take_0 rfl (lv_at hl 0 rfl) ?_
  refine va_get (D := D) (ci := 8) (v := .ref (E (zn (r 196 4)))) hx hb hts hiX9 hown hK hw.1 196 kg196 rfl 4 (by decide) lf31 (fun _ h9 => h9) rfl dX9_take_1 (cgenSE (show zI 0 32 (r 196 4) from hJ0.i 196 4) (fun v1 ev1 hv1 => ?_))
  have hE := zletE ev1 hE
  refine lv_aload_n hx hb dX9_take_4 rfl (lv_at hl 1 rfl) ?_
  refine cxacmp_eq (a := v1) (b := a1) (tgt := 14) hEi hv1 g1 hx hb dX9_take_5 (by decide) (fun c2 => ?_) (fun c2 => ?_)
  · have hE := zifT c2 hE
    refine lv_aload_n hx hb dX9_take_14 rfl (lv_at hl 0 rfl) ?_
    refine kcallV (As := []) (rest := []) ⟨hx, hb, hml, hown, hts⟩ (kc_step l D ct E y r q hJ0 hEi) (wqX9_46_kc_step hts ⟨Nat.le_of_ble_eq_true rfl, Nat.le_of_ble_eq_true rfl⟩) hw hS hA hK hZ hN 8 196 rfl kg196 rfl hl.1 rfl (Nat.le_of_ble_eq_true rfl) dX9_take_15 18 rfl (fun u3 H locs pu3 hw hS => ?_)
    obtain ⟨r4, q5⟩ := u3
    have ju3 : kJ r4 := pu3.1
    have fu3 : zFr [196] r r4 := pu3.2.1
    have xu3 : (r4, q5) = (Gk_step r q) := pu3.2.2.1
    have hE := zc_rqE xu3 hE
    have hw : zPD D A (kW ct E y r4 q5) H := hw
    refine zfr 18 [] rfl rfl ?_
    refine lv_iconst (v := 1) hx hb dX9_take_18 (by decide) ?_
    exact ziretQ hQ hx hb hr rfl hlocks ((1 : Int32), r4, q5) rfl ⟨((zI.lit (a := 1) (b := 1) (c := 1) (by decide)).w (c := 0) (d := 1) (by decide)), ju3, ((zFr.refl).tr fu3 rfl), (hE.symm.trans hX), trivial⟩ hw hS dX9_take_19
  · have hE := zifF c2 hE
    refine lv_aload_n hx hb dX9_take_8 rfl (lv_at hl 0 rfl) ?_
    refine lv_iconst (v := 1) hx hb dX9_take_9 (by decide) ?_
    refine kcallV (As := [.int 1]) (rest := []) ⟨hx, hb, hml, hown, hts⟩ (kc_wrong l D ct E y (1 : Int32) r q hJ0 hEi) (wqX9_96_kc_wrong hts ⟨Nat.le_of_ble_eq_true rfl, Nat.le_of_ble_eq_true rfl⟩) hw hS hA hK hZ hN 8 196 rfl kg196 rfl hl.1 rfl (Nat.le_of_ble_eq_true rfl) dX9_take_10 13 rfl (fun u6 H locs pu6 hw hS => ?_)
    obtain ⟨v7, r8⟩ := u6
    have hv7 : zI 0 0 v7 := pu6.1
    have ju6 : kJ r8 := pu6.2.1
    have fu6 : zFr [196] r r8 := pu6.2.2.1
    have xu6 : (v7, r8) = (Gk_wrong (1 : Int32) r q) := pu6.2.2.2.1
    have hE := zc_vrE xu6 hE
    have hw : zPD D A (kW ct E y r8 q) H := hw
    refine zfr 13 [.int v7] rfl rfl ?_
    exact ziretQ hQ hx hb hr ((hv7.w (c := 0) (d := 1) (by decide)).rn) hlocks (v7, r8, q) rfl ⟨(hv7.w (c := 0) (d := 1) (by decide)), ju6, ((zFr.refl).tr fu6 rfl), (hE.symm.trans hX), trivial⟩ hw hS dX9_take_13

set_option maxHeartbeats 4000000 in
set_option maxRecDepth 100000 in
theorem kc_takeNumber (l : Launch) (D : va_G) (ct : Nat → ClassId) (E : Nat → Nat) (y : Nat → Nat) (a1 : Int32) (a2 : Int32) (r : zRr) (q : zRq) (hJ0 : kJ r) (hEi : kEi E) : cC l yX9_takeNumber (.code yX9_takeNumber cX9_takeNumber 4 (some .int) :: wsL_law0) ({ frames := 8, cells := 0, slots := 0, locals := 360 }) D ct E [.ref (y 196), .int a1, .int a2] (kW ct E y r q) (S := Int32 × zRr × zRq) (fun u => some (.int u.1)) (fun u => zI (-2147483648) 2147483647 u.1 ∧ kJ u.2.1 ∧ zFr [196] r u.2.1 ∧ u = (Gk_takeNumber a1 a2 r q) ∧ True) (fun u => kW ct E y u.2.1 u.2.2) := by
  refine cofQ cX9_takeNumber 4 (some .int) (by decide) rfl (Nat.le_of_ble_eq_true rfl) ?_
  intro p e s m below meth c A a9 Q ha9 hx hb hr hml hts hown hlocks hname hK hA hZ hN hQ
  have hown : s.vm.findClass RX9 = some m.cls := hown
  have hiX9 : ∀ w ∈ wsX90, w ∈ .code yX9_takeNumber cX9_takeNumber 4 (some .int) :: wsL_law0 := fun _ h => ki (zs_wsX90 _ h)
  have lf31 := hts (.fieldLink RX9 31 "BeardPass$Tape" "sort" "LBeardPass$Sort;") (ki (zr3 17 rfl))
  have lf34 := hts (.fieldLink RX9 34 "BeardPass$Tape" "number" "I") (ki (zr3 18 rfl))
  have lf72 := hts (.fieldLink RX9 72 "BeardPass$Sort" "NUMBER" "LBeardPass$Sort;") (ki (zr11 12 rfl))
  obtain ⟨X, hX⟩ : ∃ X, X = (Gk_takeNumber a1 a2 r q) := ⟨_, rfl⟩
  have cut26 : ∀ (hE : X = Gk_takeNumber_26 r q ), zKf p l e ({ frames := 8, cells := 0, slots := 0, locals := 360 }) s m a9 below meth c Q D A 26 4 [] (kW ct E y r q) [(0, .ref (y 196))] := by
    intro hE H locs ls hw hS hl
    unfold Gk_takeNumber_26 at hE
    refine lv_aload_n hx hb dX9_takeNumber_26 rfl (lv_at hl 0 rfl) ?_
    refine lv_aload_n hx hb dX9_takeNumber_27 rfl (lv_at hl 0 rfl) ?_
    refine va_get (D := D) (ci := 8) (v := .ref (E (zn (r 196 4)))) hx hb hts hiX9 hown hK hw.1 196 kg196 rfl 4 (by decide) lf31 (fun _ h9 => h9) rfl dX9_takeNumber_28 (cgenSE (show zI 0 32 (r 196 4) from hJ0.i 196 4) (fun v1 ev1 hv1 => ?_))
    have hE := zletE ev1 hE
    refine cgets 30 (by decide) hx hb hZ hS hown lf72 dX9_takeNumber_31 (ztop (.ref (E (zn 30))) rfl ?_)
    refine cxacmp_eq (a := v1) (b := (30 : Int32)) (tgt := 41) hEi hv1 ((zI.lit (a := 30) (b := 30) (c := 30) (by decide)).w (c := 0) (d := 32) (by decide)) hx hb dX9_takeNumber_34 (by decide) (fun c2 => ?_) (fun c2 => ?_)
    · have hE := zifT c2 hE
      refine lv_iconst (v := 4) hx hb dX9_takeNumber_41 (by decide) ?_
      refine kcallV (As := [.int 4]) (rest := []) ⟨hx, hb, hml, hown, hts⟩ (kc_wrong l D ct E y (4 : Int32) r q hJ0 hEi) (wqX9_96_kc_wrong hts ⟨Nat.le_of_ble_eq_true rfl, Nat.le_of_ble_eq_true rfl⟩) hw hS hA hK hZ hN 8 196 rfl kg196 rfl hl.1 rfl (Nat.le_of_ble_eq_true rfl) dX9_takeNumber_42 45 rfl (fun u3 H locs pu3 hw hS => ?_)
      obtain ⟨v4, r5⟩ := u3
      have hv4 : zI 0 0 v4 := pu3.1
      have ju3 : kJ r5 := pu3.2.1
      have fu3 : zFr [196] r r5 := pu3.2.2.1
      have xu3 : (v4, r5) = (Gk_wrong (4 : Int32) r q) := pu3.2.2.2.1
      have hE := zc_vrE xu3 hE
      have hw : zPD D A (kW ct E y r5 q) H := hw
      refine zfr 45 [.int v4] rfl rfl ?_
      refine lv_pop hx hb dX9_takeNumber_45 rfl ?_
      refine lv_iconst (v := (-1)) hx hb dX9_takeNumber_46 (by decide) ?_
      exact ziretQ hQ hx hb hr rfl hlocks (((-1) : Int32), r5, q) rfl ⟨(zI.top _), ju3, ((zFr.refl).tr fu3 rfl), (hE.symm.trans hX), trivial⟩ hw hS dX9_takeNumber_47
    · have hE := zifF c2 hE
      refine lv_iconst (v := 1) hx hb dX9_takeNumber_37 (by decide) ?_
      refine lv_goto (tgt := 42) hx hb dX9_takeNumber_38 (by decide) ?_
      refine kcallV (As := [.int 1]) (rest := []) ⟨hx, hb, hml, hown, hts⟩ (kc_wrong l D ct E y (1 : Int32) r q hJ0 hEi) (wqX9_96_kc_wrong hts ⟨Nat.le_of_ble_eq_true rfl, Nat.le_of_ble_eq_true rfl⟩) hw hS hA hK hZ hN 8 196 rfl kg196 rfl hl.1 rfl (Nat.le_of_ble_eq_true rfl) dX9_takeNumber_42 45 rfl (fun u6 H locs pu6 hw hS => ?_)
      obtain ⟨v7, r8⟩ := u6
      have hv7 : zI 0 0 v7 := pu6.1
      have ju6 : kJ r8 := pu6.2.1
      have fu6 : zFr [196] r r8 := pu6.2.2.1
      have xu6 : (v7, r8) = (Gk_wrong (1 : Int32) r q) := pu6.2.2.2.1
      have hE := zc_vrE xu6 hE
      have hw : zPD D A (kW ct E y r8 q) H := hw
      refine zfr 45 [.int v7] rfl rfl ?_
      refine lv_pop hx hb dX9_takeNumber_45 rfl ?_
      refine lv_iconst (v := (-1)) hx hb dX9_takeNumber_46 (by decide) ?_
      exact ziretQ hQ hx hb hr rfl hlocks (((-1) : Int32), r8, q) rfl ⟨(zI.top _), ju6, ((zFr.refl).tr fu6 rfl), (hE.symm.trans hX), trivial⟩ hw hS dX9_takeNumber_47
  intro H locs hw hS ls hl
  have hl : lv_has ls 4 [(0, .ref (y 196)), (1, .int a1), (2, .int a2)] := hl
  have hE := hX
  unfold Gk_takeNumber at hE
  refine lv_aload_n hx hb dX9_takeNumber_0 rfl (lv_at hl 0 rfl) ?_
  refine va_get (D := D) (ci := 8) (v := .ref (E (zn (r 196 4)))) hx hb hts hiX9 hown hK hw.1 196 kg196 rfl 4 (by decide) lf31 (fun _ h9 => h9) rfl dX9_takeNumber_1 (cgenSE (show zI 0 32 (r 196 4) from hJ0.i 196 4) (fun v9 ev9 hv9 => ?_))
  have hE := zletE ev9 hE
  refine cgets 30 (by decide) hx hb hZ hS hown lf72 dX9_takeNumber_4 (ztop (.ref (E (zn 30))) rfl ?_)
  refine cxacmp_ne (a := v9) (b := (30 : Int32)) (tgt := 26) hEi hv9 ((zI.lit (a := 30) (b := 30) (c := 30) (by decide)).w (c := 0) (d := 32) (by decide)) hx hb dX9_takeNumber_7 (by decide) (fun c10 => ?_) (fun c10 => ?_)
  · have hE := zifnT c10 hE
    exact cut26 hE H locs ls hw hS (lv_sub hl [0] rfl)
  · have hE := zifnF c10 hE
    refine lv_aload_n hx hb dX9_takeNumber_10 rfl (lv_at hl 0 rfl) ?_
    refine va_get (D := D) (ci := 8) (v := .int (r 196 5)) hx hb hts hiX9 hown hK hw.1 196 kg196 rfl 5 (by decide) lf34 (fun _ h9 => h9) rfl dX9_takeNumber_11 (zgenE (zI.top _) (fun v11 ev11 _ => ?_))
    have hE := zletE ev11 hE
    refine lv_iload_n hx hb dX9_takeNumber_14 rfl (lv_at hl 1 rfl) ?_
    refine lv_icmp_lt (tgt := 26) hx hb dX9_takeNumber_15 (by decide) (fun c12 => ?_) (fun c12 => ?_)
    · have hE := zifT c12 hE
      exact cut26 hE H locs ls hw hS (lv_sub hl [0] rfl)
    · have hE := zifF c12 hE
      refine lv_aload_n hx hb dX9_takeNumber_18 rfl (lv_at hl 0 rfl) ?_
      refine va_get (D := D) (ci := 8) (v := .int (r 196 5)) hx hb hts hiX9 hown hK hw.1 196 kg196 rfl 5 (by decide) lf34 (fun _ h9 => h9) rfl dX9_takeNumber_19 (zgenE (zI.top _) (fun v13 ev13 _ => ?_))
      have hE := zletE ev13 hE
      refine lv_iload_n hx hb dX9_takeNumber_22 rfl (lv_at hl 2 rfl) ?_
      refine lv_icmp_le (tgt := 48) hx hb dX9_takeNumber_23 (by decide) (fun c14 => ?_) (fun c14 => ?_)
      · have hE := zifT c14 hE
        refine lv_aload_n hx hb dX9_takeNumber_48 rfl (lv_at hl 0 rfl) ?_
        refine va_get (D := D) (ci := 8) (v := .int (r 196 5)) hx hb hts hiX9 hown hK hw.1 196 kg196 rfl 5 (by decide) lf34 (fun _ h9 => h9) rfl dX9_takeNumber_49 (zgenE (zI.top _) (fun v15 ev15 _ => ?_))
        have hE := zletE ev15 hE
        refine lv_istore_n (lv' := [(3, .int v15), (0, .ref (y 196)), (1, .int a1), (2, .int a2)]) hx hb dX9_takeNumber_52 rfl hl (by decide) rfl (fun ls hl => ?_)
        refine lv_aload_n hx hb dX9_takeNumber_53 rfl (lv_at hl 1 rfl) ?_
        refine kcallV (As := []) (rest := []) ⟨hx, hb, hml, hown, hts⟩ (kc_step l D ct E y r q hJ0 hEi) (wqX9_46_kc_step hts ⟨Nat.le_of_ble_eq_true rfl, Nat.le_of_ble_eq_true rfl⟩) hw hS hA hK hZ hN 8 196 rfl kg196 rfl hl.1 rfl (Nat.le_of_ble_eq_true rfl) dX9_takeNumber_54 57 rfl (fun u16 H locs pu16 hw hS => ?_)
        obtain ⟨r17, q18⟩ := u16
        have ju16 : kJ r17 := pu16.1
        have fu16 : zFr [196] r r17 := pu16.2.1
        have xu16 : (r17, q18) = (Gk_step r q) := pu16.2.2.1
        have hE := zc_rqE xu16 hE
        have hw : zPD D A (kW ct E y r17 q18) H := hw
        refine zfr 57 [] rfl rfl ?_
        refine lv_iload_n hx hb dX9_takeNumber_57 rfl (lv_at hl 0 rfl) ?_
        exact ziretQ hQ hx hb hr rfl hlocks (v15, r17, q18) rfl ⟨(zI.top _), ju16, ((zFr.refl).tr fu16 rfl), (hE.symm.trans hX), trivial⟩ hw hS dX9_takeNumber_58
      · have hE := zifF c14 hE
        exact cut26 hE H locs ls hw hS (lv_sub hl [0] rfl)

set_option maxHeartbeats 4000000 in
set_option maxRecDepth 100000 in
theorem kc_townNamed (l : Launch) (D : va_G) (ct : Nat → ClassId) (E : Nat → Nat) (y : Nat → Nat) (a1 : Int64) (r : zRr) (q : zRq) (hJ0 : kJ r) (hEi : kEi E) : cC l yX2_townNamed (.code yX2_townNamed cX2_townNamed 4 (some .int) :: wsL_law0) ({ frames := 1, cells := 0, slots := 0, locals := 80 }) D ct E [.ref (y 171), .long a1] (kW ct E y r q) (S := Int32) (fun u => some (.int u)) (fun u => zI (-1) 5 u ∧ u = (Gk_townNamed a1 r q) ∧ True) (fun u => kW ct E y r q) := by
  refine cofQ cX2_townNamed 4 (some .int) (by decide) rfl (Nat.le_of_ble_eq_true rfl) ?_
  intro p e s m below meth c A a9 Q ha9 hx hb hr hml hts hown hlocks hname hK hA hZ hN hQ
  have hown : s.vm.findClass RX2 = some m.cls := hown
  have hiX2 : ∀ w ∈ wsX20, w ∈ .code yX2_townNamed cX2_townNamed 4 (some .int) :: wsL_law0 := fun _ h => ki (zs_wsX20 _ h)
  have lf18 := hts (.fieldLink RX2 18 "BeardPass$Land" "townNames" "[J") (ki (zr4 4 rfl))
  have lf44 := hts (.fieldLink RX2 44 "BeardPass$Land" "towns" "I") (ki (zr4 14 rfl))
  obtain ⟨X, hX⟩ : ∃ X, X = (Gk_townNamed a1 r q) := ⟨_, rfl⟩
  have cut2 : ∀ (n2 : Nat) (w2_3 : Int32) (hw2_3 : zI 0 6 w2_3) (hE : X = Gk_townNamed_2 a1 r q n2 w2_3), 6 - w2_3.toInt < (n2 : Int) → zKf p l e ({ frames := 1, cells := 0, slots := 0, locals := 80 }) s m a9 below meth c Q D A 2 4 [] (kW ct E y r q) [(0, .ref (y 171)), (1, .long a1), (3, .int w2_3)] := by
    intro n2
    induction n2 with
    | zero => intro w2_3 hw2_3 hE hm2; exact zI.no hw2_3 (by decide) hm2
    | succ n2 ih2 =>
      intro w2_3 hw2_3 hE hm2
      have hE : X = Bk_townNamed_2 a1 r q (Gk_townNamed_2 a1 r q n2) w2_3 := hE
      unfold Bk_townNamed_2 at hE
      intro H locs ls hw hS hl
      refine lv_iload_n hx hb dX2_townNamed_2 rfl (lv_at hl 2 rfl) ?_
      refine lv_aload_n hx hb dX2_townNamed_3 rfl (lv_at hl 0 rfl) ?_
      refine va_get (D := D) (ci := 2) (v := .int (r 171 9)) hx hb hts hiX2 hown hK hw.1 171 kg171 rfl 9 (by decide) lf44 (fun _ h9 => h9) rfl dX2_townNamed_4 (zgenE (lo := 0) (hi := 6) ((show zI 0 6 (r 171 9) from hJ0.i 171 9)) (fun v1 ev1 hv1 => ?_))
      have hE := zletE ev1 hE
      refine lv_icmp_ge (tgt := 29) hx hb dX2_townNamed_7 (by decide) (fun c2 => ?_) (fun c2 => ?_)
      · have hE := zifT c2 hE
        refine lv_iconst (v := (-1)) hx hb dX2_townNamed_29 (by decide) ?_
        exact ziretQ hQ hx hb hr rfl hlocks ((-1) : Int32) rfl ⟨((zI.lit (a := (-1)) (b := (-1)) (c := (-1)) (by decide)).w (c := (-1)) (d := 5) (by decide)), (hE.symm.trans hX), trivial⟩ hw hS dX2_townNamed_30
      · have hE := zifF c2 hE
        have k3 : zI 0 5 (w2_3) := zI.ltU (zI.nle c2) hw2_3 hv1 (by decide)
        have k4 : zI 1 6 (v1) := zI.ltD (zI.nle c2) hw2_3 hv1 (by decide)
        refine lv_aload_n hx hb dX2_townNamed_10 rfl (lv_at hl 0 rfl) ?_
        refine va_get (D := D) (ci := 2) (v := .ref (y 174)) hx hb hts hiX2 hown hK hw.1 171 kg171 rfl 2 (by decide) lf18 (fun _ h9 => h9) rfl dX2_townNamed_11 ?_
        refine lv_iload_n hx hb dX2_townNamed_14 rfl (lv_at hl 2 rfl) ?_
        refine mlald hx hb hK hw 174 kg174 k3 (by decide) dX2_townNamed_15 (zgenLE (fun v5 ev5 => ?_))
        have hE := zletE ev5 hE
        refine lv_lload_n hx hb dX2_townNamed_16 rfl (lv_at hl 1 rfl) ?_
        refine W.lcmp hx hb dX2_townNamed_17 (zgenE (zI.top _) (fun v6 ev6 _ => ?_))
        have hE := zletE ev6 hE
        refine lv_if_ne (tgt := 23) hx hb dX2_townNamed_18 (by decide) (fun c7 => ?_) (fun c7 => ?_)
        · have hE := zifnT c7 hE
          refine lv_iinc (v := w2_3 + 1) (lv' := [(3, .int (w2_3 + 1)), (0, .ref (y 171)), (1, .long a1)]) hx hb dX2_townNamed_23 hl (k := 2) rfl (rfl) (by decide) rfl (fun ls hl => ?_)
          have k8 : zI 1 6 (w2_3 + 1) := zI.add k3 (zI.lit (a := 1) (b := 1) (by decide)) (by decide)
          refine lv_goto (tgt := 2) hx hb dX2_townNamed_26 (by decide) ?_
          exact ih2 (w2_3 + 1) (k8.w (c := 0) (d := 6) (by decide)) hE (zI.up k3 (by decide) hm2) H locs ls hw hS (lv_sub hl [1, 2, 0] rfl)
        · have hE := zifnF c7 hE
          have k9 : zI 0 0 (v6) := zI.eqq c7 (zI.lit (a := 0) (b := 0) (c := 0) (by decide))
          refine lv_iload_n hx hb dX2_townNamed_21 rfl (lv_at hl 2 rfl) ?_
          exact ziretQ hQ hx hb hr rfl hlocks w2_3 rfl ⟨(k3.w (c := (-1)) (d := 5) (by decide)), (hE.symm.trans hX), trivial⟩ hw hS dX2_townNamed_22
  intro H locs hw hS ls hl
  have hl : lv_has ls 4 [(0, .ref (y 171)), (1, .long a1)] := hl
  have hE := hX
  unfold Gk_townNamed at hE
  refine lv_iconst (v := 0) hx hb dX2_townNamed_0 (by decide) ?_
  refine lv_istore_n (lv' := [(3, .int 0), (0, .ref (y 171)), (1, .long a1)]) hx hb dX2_townNamed_1 rfl hl (by decide) rfl (fun ls hl => ?_)
  exact cut2 7 0 ((zI.lit (a := 0) (b := 0) (c := 0) (by decide)).w (c := 0) (d := 6) (by decide)) hE (zI.m0 (zI.lit (a := 0) (b := 0) (c := 0) (by decide)) (by decide)) H locs ls hw hS (lv_sub hl [1, 2, 0] rfl)

set_option maxHeartbeats 4000000 in
set_option maxRecDepth 100000 in
theorem kc_townHere (l : Launch) (D : va_G) (ct : Nat → ClassId) (E : Nat → Nat) (y : Nat → Nat) (r : zRr) (q : zRq) (hJ0 : kJ r) (hEi : kEi E) : cC l yX9_townHere (.code yX9_townHere cX9_townHere 3 (some .int) :: wsL_law0) ({ frames := 2, cells := 0, slots := 0, locals := 120 }) D ct E [.ref (y 196), .ref (y 171)] (kW ct E y r q) (S := Int32 × zRr) (fun u => some (.int u.1)) (fun u => zI (-1) 5 u.1 ∧ kJ u.2 ∧ zFr [196] r u.2 ∧ u = (Gk_townHere r q) ∧ True) (fun u => kW ct E y u.2 q) := by
  refine cofQ cX9_townHere 3 (some .int) (by decide) rfl (Nat.le_of_ble_eq_true rfl) ?_
  intro p e s m below meth c A a9 Q ha9 hx hb hr hml hts hown hlocks hname hK hA hZ hN hQ
  have hown : s.vm.findClass RX9 = some m.cls := hown
  have hiX9 : ∀ w ∈ wsX90, w ∈ .code yX9_townHere cX9_townHere 3 (some .int) :: wsL_law0 := fun _ h => ki (zs_wsX90 _ h)
  have lf31 := hts (.fieldLink RX9 31 "BeardPass$Tape" "sort" "LBeardPass$Sort;") (ki (zr3 17 rfl))
  have lf37 := hts (.fieldLink RX9 37 "BeardPass$Tape" "word" "J") (ki (zr3 19 rfl))
  have lf59 := hts (.fieldLink RX9 59 "BeardPass$Sort" "NAME" "LBeardPass$Sort;") (ki (zr11 11 rfl))
  obtain ⟨X, hX⟩ : ∃ X, X = (Gk_townHere r q) := ⟨_, rfl⟩
  have cut44 : ∀ (w44_2 : Int32) (w44_s0 : Int32) (hw44_2 : zI (-1) (-1) w44_2) (hw44_s0 : zI 1 2 w44_s0) (hE : X = Gk_townHere_44 r q w44_2 w44_s0), zKf p l e ({ frames := 2, cells := 0, slots := 0, locals := 120 }) s m a9 below meth c Q D A 44 3 [.int w44_s0, .ref (y 196)] (kW ct E y r q) [(2, .int w44_2)] := by
    intro w44_2 w44_s0 hw44_2 hw44_s0 hE H locs ls hw hS hl
    unfold Gk_townHere_44 at hE
    refine kcallV (As := [.int w44_s0]) (rest := []) ⟨hx, hb, hml, hown, hts⟩ (kc_wrong l D ct E y w44_s0 r q hJ0 hEi) (wqX9_96_kc_wrong hts ⟨Nat.le_of_ble_eq_true rfl, Nat.le_of_ble_eq_true rfl⟩) hw hS hA hK hZ hN 8 196 rfl kg196 rfl hl.1 rfl (Nat.le_of_ble_eq_true rfl) dX9_townHere_44 47 rfl (fun u1 H locs pu1 hw hS => ?_)
    obtain ⟨v2, r3⟩ := u1
    have hv2 : zI 0 0 v2 := pu1.1
    have ju1 : kJ r3 := pu1.2.1
    have fu1 : zFr [196] r r3 := pu1.2.2.1
    have xu1 : (v2, r3) = (Gk_wrong w44_s0 r q) := pu1.2.2.2.1
    have hE := zc_vrE xu1 hE
    have hw : zPD D A (kW ct E y r3 q) H := hw
    refine zfr 47 [.int v2] rfl rfl ?_
    refine lv_pop hx hb dX9_townHere_47 rfl ?_
    refine lv_iload_n hx hb dX9_townHere_48 rfl (lv_at hl 0 rfl) ?_
    exact ziretQ hQ hx hb hr rfl hlocks (w44_2, r3) rfl ⟨(hw44_2.w (c := (-1)) (d := 5) (by decide)), ju1, ((zFr.refl).tr fu1 rfl), (hE.symm.trans hX), trivial⟩ hw hS dX9_townHere_49
  have cut22 : ∀ (w22_s0 : Int32) (hw22_s0 : zI (-1) 5 w22_s0) (hE : X = Gk_townHere_22 r q w22_s0), zKf p l e ({ frames := 2, cells := 0, slots := 0, locals := 120 }) s m a9 below meth c Q D A 22 3 [.int w22_s0] (kW ct E y r q) [(0, .ref (y 196))] := by
    intro w22_s0 hw22_s0 hE H locs ls hw hS hl
    unfold Gk_townHere_22 at hE
    refine lv_istore_n (lv' := [(2, .int w22_s0), (0, .ref (y 196))]) hx hb dX9_townHere_22 rfl hl (by decide) rfl (fun ls hl => ?_)
    refine lv_iload_n hx hb dX9_townHere_23 rfl (lv_at hl 0 rfl) ?_
    refine lv_iconst (v := (-1)) hx hb dX9_townHere_24 (by decide) ?_
    refine lv_icmp_ne (tgt := 48) hx hb dX9_townHere_25 (by decide) (fun c4 => ?_) (fun c4 => ?_)
    · have hE := zifnT c4 hE
      have k5 : zI 0 5 (w22_s0) := zI.neD c4 hw22_s0 (zI.lit (a := (-1)) (b := (-1)) (c := (-1)) (by decide)) (by decide)
      refine lv_iload_n hx hb dX9_townHere_48 rfl (lv_at hl 0 rfl) ?_
      exact ziretQ hQ hx hb hr rfl hlocks (w22_s0, r) rfl ⟨(k5.w (c := (-1)) (d := 5) (by decide)), hJ0, (zFr.refl), (hE.symm.trans hX), trivial⟩ hw hS dX9_townHere_49
    · have hE := zifnF c4 hE
      have k6 : zI (-1) (-1) (w22_s0) := zI.eqq c4 (zI.lit (a := (-1)) (b := (-1)) (c := (-1)) (by decide))
      refine lv_aload_n hx hb dX9_townHere_28 rfl (lv_at hl 1 rfl) ?_
      refine lv_aload_n hx hb dX9_townHere_29 rfl (lv_at hl 1 rfl) ?_
      refine va_get (D := D) (ci := 8) (v := .ref (E (zn (r 196 4)))) hx hb hts hiX9 hown hK hw.1 196 kg196 rfl 4 (by decide) lf31 (fun _ h9 => h9) rfl dX9_townHere_30 (cgenSE (show zI 0 32 (r 196 4) from hJ0.i 196 4) (fun v7 ev7 hv7 => ?_))
      have hE := zletE ev7 hE
      refine cgets 29 (by decide) hx hb hZ hS hown lf59 dX9_townHere_33 (ztop (.ref (E (zn 29))) rfl ?_)
      refine cxacmp_ne (a := v7) (b := (29 : Int32)) (tgt := 43) hEi hv7 ((zI.lit (a := 29) (b := 29) (c := 29) (by decide)).w (c := 0) (d := 32) (by decide)) hx hb dX9_townHere_36 (by decide) (fun c8 => ?_) (fun c8 => ?_)
      · have hE := zifnT c8 hE
        refine lv_iconst (v := 1) hx hb dX9_townHere_43 (by decide) ?_
        exact cut44 w22_s0 1 k6 ((zI.lit (a := 1) (b := 1) (c := 1) (by decide)).w (c := 1) (d := 2) (by decide)) hE H locs ls hw hS (lv_sub hl [0] rfl)
      · have hE := zifnF c8 hE
        refine lv_iconst (v := 2) hx hb dX9_townHere_39 (by decide) ?_
        refine lv_goto (tgt := 44) hx hb dX9_townHere_40 (by decide) ?_
        exact cut44 w22_s0 2 k6 ((zI.lit (a := 2) (b := 2) (c := 2) (by decide)).w (c := 1) (d := 2) (by decide)) hE H locs ls hw hS (lv_sub hl [0] rfl)
  intro H locs hw hS ls hl
  have hl : lv_has ls 3 [(0, .ref (y 196)), (1, .ref (y 171))] := hl
  have hE := hX
  unfold Gk_townHere at hE
  refine lv_aload_n hx hb dX9_townHere_0 rfl (lv_at hl 0 rfl) ?_
  refine va_get (D := D) (ci := 8) (v := .ref (E (zn (r 196 4)))) hx hb hts hiX9 hown hK hw.1 196 kg196 rfl 4 (by decide) lf31 (fun _ h9 => h9) rfl dX9_townHere_1 (cgenSE (show zI 0 32 (r 196 4) from hJ0.i 196 4) (fun v9 ev9 hv9 => ?_))
  have hE := zletE ev9 hE
  refine cgets 29 (by decide) hx hb hZ hS hown lf59 dX9_townHere_4 (ztop (.ref (E (zn 29))) rfl ?_)
  refine cxacmp_ne (a := v9) (b := (29 : Int32)) (tgt := 21) hEi hv9 ((zI.lit (a := 29) (b := 29) (c := 29) (by decide)).w (c := 0) (d := 32) (by decide)) hx hb dX9_townHere_7 (by decide) (fun c10 => ?_) (fun c10 => ?_)
  · have hE := zifnT c10 hE
    refine lv_iconst (v := (-1)) hx hb dX9_townHere_21 (by decide) ?_
    exact cut22 (-1) ((zI.lit (a := (-1)) (b := (-1)) (c := (-1)) (by decide)).w (c := (-1)) (d := 5) (by decide)) hE H locs ls hw hS (lv_sub hl [0] rfl)
  · have hE := zifnF c10 hE
    refine lv_aload_n hx hb dX9_townHere_10 rfl (lv_at hl 1 rfl) ?_
    refine lv_aload_n hx hb dX9_townHere_11 rfl (lv_at hl 0 rfl) ?_
    refine va_get (D := D) (ci := 8) (v := .long (q 196 6)) hx hb hts hiX9 hown hK hw.1 196 kg196 rfl 6 (by decide) lf37 (fun _ h9 => h9) rfl dX9_townHere_12 (zgenLE (fun v11 ev11 => ?_))
    have hE := zletE ev11 hE
    refine kcallV (As := [.long v11]) (rest := []) ⟨hx, hb, hml, hown, hts⟩ (kc_townNamed l D ct E y v11 r q hJ0 hEi) (wqX9_100_kc_townNamed hts ⟨Nat.le_of_ble_eq_true rfl, Nat.le_of_ble_eq_true rfl⟩) hw hS hA hK hZ hN 2 171 rfl kg171 rfl hl.1 rfl (Nat.le_of_ble_eq_true rfl) dX9_townHere_15 18 rfl (fun u12 H locs pu12 hw hS => ?_)
    have hu12 : zI (-1) 5 u12 := pu12.1
    have xu12 : u12 = (Gk_townNamed v11 r q) := pu12.2.1
    have hE := zletE xu12 hE
    have hw : zPD D A (kW ct E y r q) H := hw
    refine zfr 18 [.int u12] rfl rfl ?_
    refine lv_goto (tgt := 22) hx hb dX9_townHere_18 (by decide) ?_
    exact cut22 u12 hu12 hE H locs ls hw hS (lv_sub hl [0] rfl)

set_option maxHeartbeats 4000000 in
set_option maxRecDepth 100000 in
theorem kc_personNamed (l : Launch) (D : va_G) (ct : Nat → ClassId) (E : Nat → Nat) (y : Nat → Nat) (a1 : Int64) (r : zRr) (q : zRq) (hJ0 : kJ r) (hEi : kEi E) : cC l yX2_personNamed (.code yX2_personNamed cX2_personNamed 4 (some .int) :: wsL_law0) ({ frames := 1, cells := 0, slots := 0, locals := 80 }) D ct E [.ref (y 171), .long a1] (kW ct E y r q) (S := Int32) (fun u => some (.int u)) (fun u => zI (-1) 5 u ∧ u = (Gk_personNamed a1 r q) ∧ True) (fun u => kW ct E y r q) := by
  refine cofQ cX2_personNamed 4 (some .int) (by decide) rfl (Nat.le_of_ble_eq_true rfl) ?_
  intro p e s m below meth c A a9 Q ha9 hx hb hr hml hts hown hlocks hname hK hA hZ hN hQ
  have hown : s.vm.findClass RX2 = some m.cls := hown
  have hiX2 : ∀ w ∈ wsX20, w ∈ .code yX2_personNamed cX2_personNamed 4 (some .int) :: wsL_law0 := fun _ h => ki (zs_wsX20 _ h)
  have lf34 := hts (.fieldLink RX2 34 "BeardPass$Land" "personNames" "[J") (ki (zr4 9 rfl))
  have lf48 := hts (.fieldLink RX2 48 "BeardPass$Land" "persons" "I") (ki (zr4 15 rfl))
  obtain ⟨X, hX⟩ : ∃ X, X = (Gk_personNamed a1 r q) := ⟨_, rfl⟩
  have cut2 : ∀ (n2 : Nat) (w2_3 : Int32) (hw2_3 : zI 0 6 w2_3) (hE : X = Gk_personNamed_2 a1 r q n2 w2_3), 6 - w2_3.toInt < (n2 : Int) → zKf p l e ({ frames := 1, cells := 0, slots := 0, locals := 80 }) s m a9 below meth c Q D A 2 4 [] (kW ct E y r q) [(0, .ref (y 171)), (1, .long a1), (3, .int w2_3)] := by
    intro n2
    induction n2 with
    | zero => intro w2_3 hw2_3 hE hm2; exact zI.no hw2_3 (by decide) hm2
    | succ n2 ih2 =>
      intro w2_3 hw2_3 hE hm2
      have hE : X = Bk_personNamed_2 a1 r q (Gk_personNamed_2 a1 r q n2) w2_3 := hE
      unfold Bk_personNamed_2 at hE
      intro H locs ls hw hS hl
      refine lv_iload_n hx hb dX2_personNamed_2 rfl (lv_at hl 2 rfl) ?_
      refine lv_aload_n hx hb dX2_personNamed_3 rfl (lv_at hl 0 rfl) ?_
      refine va_get (D := D) (ci := 2) (v := .int (r 171 10)) hx hb hts hiX2 hown hK hw.1 171 kg171 rfl 10 (by decide) lf48 (fun _ h9 => h9) rfl dX2_personNamed_4 (zgenE (lo := 0) (hi := 6) ((show zI 0 6 (r 171 10) from hJ0.i 171 10)) (fun v1 ev1 hv1 => ?_))
      have hE := zletE ev1 hE
      refine lv_icmp_ge (tgt := 29) hx hb dX2_personNamed_7 (by decide) (fun c2 => ?_) (fun c2 => ?_)
      · have hE := zifT c2 hE
        refine lv_iconst (v := (-1)) hx hb dX2_personNamed_29 (by decide) ?_
        exact ziretQ hQ hx hb hr rfl hlocks ((-1) : Int32) rfl ⟨((zI.lit (a := (-1)) (b := (-1)) (c := (-1)) (by decide)).w (c := (-1)) (d := 5) (by decide)), (hE.symm.trans hX), trivial⟩ hw hS dX2_personNamed_30
      · have hE := zifF c2 hE
        have k3 : zI 0 5 (w2_3) := zI.ltU (zI.nle c2) hw2_3 hv1 (by decide)
        have k4 : zI 1 6 (v1) := zI.ltD (zI.nle c2) hw2_3 hv1 (by decide)
        refine lv_aload_n hx hb dX2_personNamed_10 rfl (lv_at hl 0 rfl) ?_
        refine va_get (D := D) (ci := 2) (v := .ref (y 179)) hx hb hts hiX2 hown hK hw.1 171 kg171 rfl 7 (by decide) lf34 (fun _ h9 => h9) rfl dX2_personNamed_11 ?_
        refine lv_iload_n hx hb dX2_personNamed_14 rfl (lv_at hl 2 rfl) ?_
        refine mlald hx hb hK hw 179 kg179 k3 (by decide) dX2_personNamed_15 (zgenLE (fun v5 ev5 => ?_))
        have hE := zletE ev5 hE
        refine lv_lload_n hx hb dX2_personNamed_16 rfl (lv_at hl 1 rfl) ?_
        refine W.lcmp hx hb dX2_personNamed_17 (zgenE (zI.top _) (fun v6 ev6 _ => ?_))
        have hE := zletE ev6 hE
        refine lv_if_ne (tgt := 23) hx hb dX2_personNamed_18 (by decide) (fun c7 => ?_) (fun c7 => ?_)
        · have hE := zifnT c7 hE
          refine lv_iinc (v := w2_3 + 1) (lv' := [(3, .int (w2_3 + 1)), (0, .ref (y 171)), (1, .long a1)]) hx hb dX2_personNamed_23 hl (k := 2) rfl (rfl) (by decide) rfl (fun ls hl => ?_)
          have k8 : zI 1 6 (w2_3 + 1) := zI.add k3 (zI.lit (a := 1) (b := 1) (by decide)) (by decide)
          refine lv_goto (tgt := 2) hx hb dX2_personNamed_26 (by decide) ?_
          exact ih2 (w2_3 + 1) (k8.w (c := 0) (d := 6) (by decide)) hE (zI.up k3 (by decide) hm2) H locs ls hw hS (lv_sub hl [1, 2, 0] rfl)
        · have hE := zifnF c7 hE
          have k9 : zI 0 0 (v6) := zI.eqq c7 (zI.lit (a := 0) (b := 0) (c := 0) (by decide))
          refine lv_iload_n hx hb dX2_personNamed_21 rfl (lv_at hl 2 rfl) ?_
          exact ziretQ hQ hx hb hr rfl hlocks w2_3 rfl ⟨(k3.w (c := (-1)) (d := 5) (by decide)), (hE.symm.trans hX), trivial⟩ hw hS dX2_personNamed_22
  intro H locs hw hS ls hl
  have hl : lv_has ls 4 [(0, .ref (y 171)), (1, .long a1)] := hl
  have hE := hX
  unfold Gk_personNamed at hE
  refine lv_iconst (v := 0) hx hb dX2_personNamed_0 (by decide) ?_
  refine lv_istore_n (lv' := [(3, .int 0), (0, .ref (y 171)), (1, .long a1)]) hx hb dX2_personNamed_1 rfl hl (by decide) rfl (fun ls hl => ?_)
  exact cut2 7 0 ((zI.lit (a := 0) (b := 0) (c := 0) (by decide)).w (c := 0) (d := 6) (by decide)) hE (zI.m0 (zI.lit (a := 0) (b := 0) (c := 0) (by decide)) (by decide)) H locs ls hw hS (lv_sub hl [1, 2, 0] rfl)

set_option maxHeartbeats 4000000 in
set_option maxRecDepth 100000 in
theorem kc_personHere (l : Launch) (D : va_G) (ct : Nat → ClassId) (E : Nat → Nat) (y : Nat → Nat) (r : zRr) (q : zRq) (hJ0 : kJ r) (hEi : kEi E) : cC l yX9_personHere (.code yX9_personHere cX9_personHere 3 (some .int) :: wsL_law0) ({ frames := 2, cells := 0, slots := 0, locals := 120 }) D ct E [.ref (y 196), .ref (y 171)] (kW ct E y r q) (S := Int32 × zRr) (fun u => some (.int u.1)) (fun u => zI (-1) 5 u.1 ∧ kJ u.2 ∧ zFr [196] r u.2 ∧ u = (Gk_personHere r q) ∧ True) (fun u => kW ct E y u.2 q) := by
  refine cofQ cX9_personHere 3 (some .int) (by decide) rfl (Nat.le_of_ble_eq_true rfl) ?_
  intro p e s m below meth c A a9 Q ha9 hx hb hr hml hts hown hlocks hname hK hA hZ hN hQ
  have hown : s.vm.findClass RX9 = some m.cls := hown
  have hiX9 : ∀ w ∈ wsX90, w ∈ .code yX9_personHere cX9_personHere 3 (some .int) :: wsL_law0 := fun _ h => ki (zs_wsX90 _ h)
  have lf31 := hts (.fieldLink RX9 31 "BeardPass$Tape" "sort" "LBeardPass$Sort;") (ki (zr3 17 rfl))
  have lf37 := hts (.fieldLink RX9 37 "BeardPass$Tape" "word" "J") (ki (zr3 19 rfl))
  have lf59 := hts (.fieldLink RX9 59 "BeardPass$Sort" "NAME" "LBeardPass$Sort;") (ki (zr11 11 rfl))
  obtain ⟨X, hX⟩ : ∃ X, X = (Gk_personHere r q) := ⟨_, rfl⟩
  have cut44 : ∀ (w44_2 : Int32) (w44_s0 : Int32) (hw44_2 : zI (-1) (-1) w44_2) (hw44_s0 : zI 1 2 w44_s0) (hE : X = Gk_personHere_44 r q w44_2 w44_s0), zKf p l e ({ frames := 2, cells := 0, slots := 0, locals := 120 }) s m a9 below meth c Q D A 44 3 [.int w44_s0, .ref (y 196)] (kW ct E y r q) [(2, .int w44_2)] := by
    intro w44_2 w44_s0 hw44_2 hw44_s0 hE H locs ls hw hS hl
    unfold Gk_personHere_44 at hE
    refine kcallV (As := [.int w44_s0]) (rest := []) ⟨hx, hb, hml, hown, hts⟩ (kc_wrong l D ct E y w44_s0 r q hJ0 hEi) (wqX9_96_kc_wrong hts ⟨Nat.le_of_ble_eq_true rfl, Nat.le_of_ble_eq_true rfl⟩) hw hS hA hK hZ hN 8 196 rfl kg196 rfl hl.1 rfl (Nat.le_of_ble_eq_true rfl) dX9_personHere_44 47 rfl (fun u1 H locs pu1 hw hS => ?_)
    obtain ⟨v2, r3⟩ := u1
    have hv2 : zI 0 0 v2 := pu1.1
    have ju1 : kJ r3 := pu1.2.1
    have fu1 : zFr [196] r r3 := pu1.2.2.1
    have xu1 : (v2, r3) = (Gk_wrong w44_s0 r q) := pu1.2.2.2.1
    have hE := zc_vrE xu1 hE
    have hw : zPD D A (kW ct E y r3 q) H := hw
    refine zfr 47 [.int v2] rfl rfl ?_
    refine lv_pop hx hb dX9_personHere_47 rfl ?_
    refine lv_iload_n hx hb dX9_personHere_48 rfl (lv_at hl 0 rfl) ?_
    exact ziretQ hQ hx hb hr rfl hlocks (w44_2, r3) rfl ⟨(hw44_2.w (c := (-1)) (d := 5) (by decide)), ju1, ((zFr.refl).tr fu1 rfl), (hE.symm.trans hX), trivial⟩ hw hS dX9_personHere_49
  have cut22 : ∀ (w22_s0 : Int32) (hw22_s0 : zI (-1) 5 w22_s0) (hE : X = Gk_personHere_22 r q w22_s0), zKf p l e ({ frames := 2, cells := 0, slots := 0, locals := 120 }) s m a9 below meth c Q D A 22 3 [.int w22_s0] (kW ct E y r q) [(0, .ref (y 196))] := by
    intro w22_s0 hw22_s0 hE H locs ls hw hS hl
    unfold Gk_personHere_22 at hE
    refine lv_istore_n (lv' := [(2, .int w22_s0), (0, .ref (y 196))]) hx hb dX9_personHere_22 rfl hl (by decide) rfl (fun ls hl => ?_)
    refine lv_iload_n hx hb dX9_personHere_23 rfl (lv_at hl 0 rfl) ?_
    refine lv_iconst (v := (-1)) hx hb dX9_personHere_24 (by decide) ?_
    refine lv_icmp_ne (tgt := 48) hx hb dX9_personHere_25 (by decide) (fun c4 => ?_) (fun c4 => ?_)
    · have hE := zifnT c4 hE
      have k5 : zI 0 5 (w22_s0) := zI.neD c4 hw22_s0 (zI.lit (a := (-1)) (b := (-1)) (c := (-1)) (by decide)) (by decide)
      refine lv_iload_n hx hb dX9_personHere_48 rfl (lv_at hl 0 rfl) ?_
      exact ziretQ hQ hx hb hr rfl hlocks (w22_s0, r) rfl ⟨(k5.w (c := (-1)) (d := 5) (by decide)), hJ0, (zFr.refl), (hE.symm.trans hX), trivial⟩ hw hS dX9_personHere_49
    · have hE := zifnF c4 hE
      have k6 : zI (-1) (-1) (w22_s0) := zI.eqq c4 (zI.lit (a := (-1)) (b := (-1)) (c := (-1)) (by decide))
      refine lv_aload_n hx hb dX9_personHere_28 rfl (lv_at hl 1 rfl) ?_
      refine lv_aload_n hx hb dX9_personHere_29 rfl (lv_at hl 1 rfl) ?_
      refine va_get (D := D) (ci := 8) (v := .ref (E (zn (r 196 4)))) hx hb hts hiX9 hown hK hw.1 196 kg196 rfl 4 (by decide) lf31 (fun _ h9 => h9) rfl dX9_personHere_30 (cgenSE (show zI 0 32 (r 196 4) from hJ0.i 196 4) (fun v7 ev7 hv7 => ?_))
      have hE := zletE ev7 hE
      refine cgets 29 (by decide) hx hb hZ hS hown lf59 dX9_personHere_33 (ztop (.ref (E (zn 29))) rfl ?_)
      refine cxacmp_ne (a := v7) (b := (29 : Int32)) (tgt := 43) hEi hv7 ((zI.lit (a := 29) (b := 29) (c := 29) (by decide)).w (c := 0) (d := 32) (by decide)) hx hb dX9_personHere_36 (by decide) (fun c8 => ?_) (fun c8 => ?_)
      · have hE := zifnT c8 hE
        refine lv_iconst (v := 1) hx hb dX9_personHere_43 (by decide) ?_
        exact cut44 w22_s0 1 k6 ((zI.lit (a := 1) (b := 1) (c := 1) (by decide)).w (c := 1) (d := 2) (by decide)) hE H locs ls hw hS (lv_sub hl [0] rfl)
      · have hE := zifnF c8 hE
        refine lv_iconst (v := 2) hx hb dX9_personHere_39 (by decide) ?_
        refine lv_goto (tgt := 44) hx hb dX9_personHere_40 (by decide) ?_
        exact cut44 w22_s0 2 k6 ((zI.lit (a := 2) (b := 2) (c := 2) (by decide)).w (c := 1) (d := 2) (by decide)) hE H locs ls hw hS (lv_sub hl [0] rfl)
  intro H locs hw hS ls hl
  have hl : lv_has ls 3 [(0, .ref (y 196)), (1, .ref (y 171))] := hl
  have hE := hX
  unfold Gk_personHere at hE
  refine lv_aload_n hx hb dX9_personHere_0 rfl (lv_at hl 0 rfl) ?_
  refine va_get (D := D) (ci := 8) (v := .ref (E (zn (r 196 4)))) hx hb hts hiX9 hown hK hw.1 196 kg196 rfl 4 (by decide) lf31 (fun _ h9 => h9) rfl dX9_personHere_1 (cgenSE (show zI 0 32 (r 196 4) from hJ0.i 196 4) (fun v9 ev9 hv9 => ?_))
  have hE := zletE ev9 hE
  refine cgets 29 (by decide) hx hb hZ hS hown lf59 dX9_personHere_4 (ztop (.ref (E (zn 29))) rfl ?_)
  refine cxacmp_ne (a := v9) (b := (29 : Int32)) (tgt := 21) hEi hv9 ((zI.lit (a := 29) (b := 29) (c := 29) (by decide)).w (c := 0) (d := 32) (by decide)) hx hb dX9_personHere_7 (by decide) (fun c10 => ?_) (fun c10 => ?_)
  · have hE := zifnT c10 hE
    refine lv_iconst (v := (-1)) hx hb dX9_personHere_21 (by decide) ?_
    exact cut22 (-1) ((zI.lit (a := (-1)) (b := (-1)) (c := (-1)) (by decide)).w (c := (-1)) (d := 5) (by decide)) hE H locs ls hw hS (lv_sub hl [0] rfl)
  · have hE := zifnF c10 hE
    refine lv_aload_n hx hb dX9_personHere_10 rfl (lv_at hl 1 rfl) ?_
    refine lv_aload_n hx hb dX9_personHere_11 rfl (lv_at hl 0 rfl) ?_
    refine va_get (D := D) (ci := 8) (v := .long (q 196 6)) hx hb hts hiX9 hown hK hw.1 196 kg196 rfl 6 (by decide) lf37 (fun _ h9 => h9) rfl dX9_personHere_12 (zgenLE (fun v11 ev11 => ?_))
    have hE := zletE ev11 hE
    refine kcallV (As := [.long v11]) (rest := []) ⟨hx, hb, hml, hown, hts⟩ (kc_personNamed l D ct E y v11 r q hJ0 hEi) (wqX9_106_kc_personNamed hts ⟨Nat.le_of_ble_eq_true rfl, Nat.le_of_ble_eq_true rfl⟩) hw hS hA hK hZ hN 2 171 rfl kg171 rfl hl.1 rfl (Nat.le_of_ble_eq_true rfl) dX9_personHere_15 18 rfl (fun u12 H locs pu12 hw hS => ?_)
    have hu12 : zI (-1) 5 u12 := pu12.1
    have xu12 : u12 = (Gk_personNamed v11 r q) := pu12.2.1
    have hE := zletE xu12 hE
    have hw : zPD D A (kW ct E y r q) H := hw
    refine zfr 18 [.int u12] rfl rfl ?_
    refine lv_goto (tgt := 22) hx hb dX9_personHere_18 (by decide) ?_
    exact cut22 u12 hu12 hE H locs ls hw hS (lv_sub hl [0] rfl)

set_option maxHeartbeats 4000000 in
set_option maxRecDepth 100000 in
theorem kc_townNamedD (l : Launch) (D : va_G) (ct : Nat → ClassId) (E : Nat → Nat) (y : Nat → Nat) (a1 : Int64) (r : zRr) (q : zRq) (hJ0 : kJ r) (hEi : kEi E) : cC l yX2_townNamed (.code yX2_townNamed cX2_townNamed 4 (some .int) :: wsL_law0) ({ frames := 1, cells := 0, slots := 0, locals := 80 }) D ct E [.ref (y 183), .long a1] (kW ct E y r q) (S := Int32) (fun u => some (.int u)) (fun u => zI (-1) 5 u ∧ u = (Gk_townNamedD a1 r q) ∧ True) (fun u => kW ct E y r q) := by
  refine cofQ cX2_townNamed 4 (some .int) (by decide) rfl (Nat.le_of_ble_eq_true rfl) ?_
  intro p e s m below meth c A a9 Q ha9 hx hb hr hml hts hown hlocks hname hK hA hZ hN hQ
  have hown : s.vm.findClass RX2 = some m.cls := hown
  have hiX2 : ∀ w ∈ wsX20, w ∈ .code yX2_townNamed cX2_townNamed 4 (some .int) :: wsL_law0 := fun _ h => ki (zs_wsX20 _ h)
  have lf18 := hts (.fieldLink RX2 18 "BeardPass$Land" "townNames" "[J") (ki (zr4 4 rfl))
  have lf44 := hts (.fieldLink RX2 44 "BeardPass$Land" "towns" "I") (ki (zr4 14 rfl))
  obtain ⟨X, hX⟩ : ∃ X, X = (Gk_townNamedD a1 r q) := ⟨_, rfl⟩
  have cut2 : ∀ (n2 : Nat) (w2_3 : Int32) (hw2_3 : zI 0 6 w2_3) (hE : X = Gk_townNamedD_2 a1 r q n2 w2_3), 6 - w2_3.toInt < (n2 : Int) → zKf p l e ({ frames := 1, cells := 0, slots := 0, locals := 80 }) s m a9 below meth c Q D A 2 4 [] (kW ct E y r q) [(0, .ref (y 183)), (1, .long a1), (3, .int w2_3)] := by
    intro n2
    induction n2 with
    | zero => intro w2_3 hw2_3 hE hm2; exact zI.no hw2_3 (by decide) hm2
    | succ n2 ih2 =>
      intro w2_3 hw2_3 hE hm2
      have hE : X = Bk_townNamedD_2 a1 r q (Gk_townNamedD_2 a1 r q n2) w2_3 := hE
      unfold Bk_townNamedD_2 at hE
      intro H locs ls hw hS hl
      refine lv_iload_n hx hb dX2_townNamed_2 rfl (lv_at hl 2 rfl) ?_
      refine lv_aload_n hx hb dX2_townNamed_3 rfl (lv_at hl 0 rfl) ?_
      refine va_get (D := D) (ci := 2) (v := .int (r 183 9)) hx hb hts hiX2 hown hK hw.1 183 kg183 rfl 9 (by decide) lf44 (fun _ h9 => h9) rfl dX2_townNamed_4 (zgenE (lo := 0) (hi := 6) ((show zI 0 6 (r 183 9) from hJ0.i 183 9)) (fun v1 ev1 hv1 => ?_))
      have hE := zletE ev1 hE
      refine lv_icmp_ge (tgt := 29) hx hb dX2_townNamed_7 (by decide) (fun c2 => ?_) (fun c2 => ?_)
      · have hE := zifT c2 hE
        refine lv_iconst (v := (-1)) hx hb dX2_townNamed_29 (by decide) ?_
        exact ziretQ hQ hx hb hr rfl hlocks ((-1) : Int32) rfl ⟨((zI.lit (a := (-1)) (b := (-1)) (c := (-1)) (by decide)).w (c := (-1)) (d := 5) (by decide)), (hE.symm.trans hX), trivial⟩ hw hS dX2_townNamed_30
      · have hE := zifF c2 hE
        have k3 : zI 0 5 (w2_3) := zI.ltU (zI.nle c2) hw2_3 hv1 (by decide)
        have k4 : zI 1 6 (v1) := zI.ltD (zI.nle c2) hw2_3 hv1 (by decide)
        refine lv_aload_n hx hb dX2_townNamed_10 rfl (lv_at hl 0 rfl) ?_
        refine va_get (D := D) (ci := 2) (v := .ref (y 186)) hx hb hts hiX2 hown hK hw.1 183 kg183 rfl 2 (by decide) lf18 (fun _ h9 => h9) rfl dX2_townNamed_11 ?_
        refine lv_iload_n hx hb dX2_townNamed_14 rfl (lv_at hl 2 rfl) ?_
        refine mlald hx hb hK hw 186 kg186 k3 (by decide) dX2_townNamed_15 (zgenLE (fun v5 ev5 => ?_))
        have hE := zletE ev5 hE
        refine lv_lload_n hx hb dX2_townNamed_16 rfl (lv_at hl 1 rfl) ?_
        refine W.lcmp hx hb dX2_townNamed_17 (zgenE (zI.top _) (fun v6 ev6 _ => ?_))
        have hE := zletE ev6 hE
        refine lv_if_ne (tgt := 23) hx hb dX2_townNamed_18 (by decide) (fun c7 => ?_) (fun c7 => ?_)
        · have hE := zifnT c7 hE
          refine lv_iinc (v := w2_3 + 1) (lv' := [(3, .int (w2_3 + 1)), (0, .ref (y 183)), (1, .long a1)]) hx hb dX2_townNamed_23 hl (k := 2) rfl (rfl) (by decide) rfl (fun ls hl => ?_)
          have k8 : zI 1 6 (w2_3 + 1) := zI.add k3 (zI.lit (a := 1) (b := 1) (by decide)) (by decide)
          refine lv_goto (tgt := 2) hx hb dX2_townNamed_26 (by decide) ?_
          exact ih2 (w2_3 + 1) (k8.w (c := 0) (d := 6) (by decide)) hE (zI.up k3 (by decide) hm2) H locs ls hw hS (lv_sub hl [1, 2, 0] rfl)
        · have hE := zifnF c7 hE
          have k9 : zI 0 0 (v6) := zI.eqq c7 (zI.lit (a := 0) (b := 0) (c := 0) (by decide))
          refine lv_iload_n hx hb dX2_townNamed_21 rfl (lv_at hl 2 rfl) ?_
          exact ziretQ hQ hx hb hr rfl hlocks w2_3 rfl ⟨(k3.w (c := (-1)) (d := 5) (by decide)), (hE.symm.trans hX), trivial⟩ hw hS dX2_townNamed_22
  intro H locs hw hS ls hl
  have hl : lv_has ls 4 [(0, .ref (y 183)), (1, .long a1)] := hl
  have hE := hX
  unfold Gk_townNamedD at hE
  refine lv_iconst (v := 0) hx hb dX2_townNamed_0 (by decide) ?_
  refine lv_istore_n (lv' := [(3, .int 0), (0, .ref (y 183)), (1, .long a1)]) hx hb dX2_townNamed_1 rfl hl (by decide) rfl (fun ls hl => ?_)
  exact cut2 7 0 ((zI.lit (a := 0) (b := 0) (c := 0) (by decide)).w (c := 0) (d := 6) (by decide)) hE (zI.m0 (zI.lit (a := 0) (b := 0) (c := 0) (by decide)) (by decide)) H locs ls hw hS (lv_sub hl [1, 2, 0] rfl)

set_option maxHeartbeats 4000000 in
set_option maxRecDepth 100000 in
theorem kc_townHereD (l : Launch) (D : va_G) (ct : Nat → ClassId) (E : Nat → Nat) (y : Nat → Nat) (r : zRr) (q : zRq) (hJ0 : kJ r) (hEi : kEi E) : cC l yX9_townHere (.code yX9_townHere cX9_townHere 3 (some .int) :: wsL_law0) ({ frames := 2, cells := 0, slots := 0, locals := 120 }) D ct E [.ref (y 196), .ref (y 183)] (kW ct E y r q) (S := Int32 × zRr) (fun u => some (.int u.1)) (fun u => zI (-1) 5 u.1 ∧ kJ u.2 ∧ zFr [196] r u.2 ∧ u = (Gk_townHereD r q) ∧ True) (fun u => kW ct E y u.2 q) := by
  refine cofQ cX9_townHere 3 (some .int) (by decide) rfl (Nat.le_of_ble_eq_true rfl) ?_
  intro p e s m below meth c A a9 Q ha9 hx hb hr hml hts hown hlocks hname hK hA hZ hN hQ
  have hown : s.vm.findClass RX9 = some m.cls := hown
  have hiX9 : ∀ w ∈ wsX90, w ∈ .code yX9_townHere cX9_townHere 3 (some .int) :: wsL_law0 := fun _ h => ki (zs_wsX90 _ h)
  have lf31 := hts (.fieldLink RX9 31 "BeardPass$Tape" "sort" "LBeardPass$Sort;") (ki (zr3 17 rfl))
  have lf37 := hts (.fieldLink RX9 37 "BeardPass$Tape" "word" "J") (ki (zr3 19 rfl))
  have lf59 := hts (.fieldLink RX9 59 "BeardPass$Sort" "NAME" "LBeardPass$Sort;") (ki (zr11 11 rfl))
  obtain ⟨X, hX⟩ : ∃ X, X = (Gk_townHereD r q) := ⟨_, rfl⟩
  have cut44 : ∀ (w44_2 : Int32) (w44_s0 : Int32) (hw44_2 : zI (-1) (-1) w44_2) (hw44_s0 : zI 1 2 w44_s0) (hE : X = Gk_townHereD_44 r q w44_2 w44_s0), zKf p l e ({ frames := 2, cells := 0, slots := 0, locals := 120 }) s m a9 below meth c Q D A 44 3 [.int w44_s0, .ref (y 196)] (kW ct E y r q) [(2, .int w44_2)] := by
    intro w44_2 w44_s0 hw44_2 hw44_s0 hE H locs ls hw hS hl
    unfold Gk_townHereD_44 at hE
    refine kcallV (As := [.int w44_s0]) (rest := []) ⟨hx, hb, hml, hown, hts⟩ (kc_wrong l D ct E y w44_s0 r q hJ0 hEi) (wqX9_96_kc_wrong hts ⟨Nat.le_of_ble_eq_true rfl, Nat.le_of_ble_eq_true rfl⟩) hw hS hA hK hZ hN 8 196 rfl kg196 rfl hl.1 rfl (Nat.le_of_ble_eq_true rfl) dX9_townHere_44 47 rfl (fun u1 H locs pu1 hw hS => ?_)
    obtain ⟨v2, r3⟩ := u1
    have hv2 : zI 0 0 v2 := pu1.1
    have ju1 : kJ r3 := pu1.2.1
    have fu1 : zFr [196] r r3 := pu1.2.2.1
    have xu1 : (v2, r3) = (Gk_wrong w44_s0 r q) := pu1.2.2.2.1
    have hE := zc_vrE xu1 hE
    have hw : zPD D A (kW ct E y r3 q) H := hw
    refine zfr 47 [.int v2] rfl rfl ?_
    refine lv_pop hx hb dX9_townHere_47 rfl ?_
    refine lv_iload_n hx hb dX9_townHere_48 rfl (lv_at hl 0 rfl) ?_
    exact ziretQ hQ hx hb hr rfl hlocks (w44_2, r3) rfl ⟨(hw44_2.w (c := (-1)) (d := 5) (by decide)), ju1, ((zFr.refl).tr fu1 rfl), (hE.symm.trans hX), trivial⟩ hw hS dX9_townHere_49
  have cut22 : ∀ (w22_s0 : Int32) (hw22_s0 : zI (-1) 5 w22_s0) (hE : X = Gk_townHereD_22 r q w22_s0), zKf p l e ({ frames := 2, cells := 0, slots := 0, locals := 120 }) s m a9 below meth c Q D A 22 3 [.int w22_s0] (kW ct E y r q) [(0, .ref (y 196))] := by
    intro w22_s0 hw22_s0 hE H locs ls hw hS hl
    unfold Gk_townHereD_22 at hE
    refine lv_istore_n (lv' := [(2, .int w22_s0), (0, .ref (y 196))]) hx hb dX9_townHere_22 rfl hl (by decide) rfl (fun ls hl => ?_)
    refine lv_iload_n hx hb dX9_townHere_23 rfl (lv_at hl 0 rfl) ?_
    refine lv_iconst (v := (-1)) hx hb dX9_townHere_24 (by decide) ?_
    refine lv_icmp_ne (tgt := 48) hx hb dX9_townHere_25 (by decide) (fun c4 => ?_) (fun c4 => ?_)
    · have hE := zifnT c4 hE
      have k5 : zI 0 5 (w22_s0) := zI.neD c4 hw22_s0 (zI.lit (a := (-1)) (b := (-1)) (c := (-1)) (by decide)) (by decide)
      refine lv_iload_n hx hb dX9_townHere_48 rfl (lv_at hl 0 rfl) ?_
      exact ziretQ hQ hx hb hr rfl hlocks (w22_s0, r) rfl ⟨(k5.w (c := (-1)) (d := 5) (by decide)), hJ0, (zFr.refl), (hE.symm.trans hX), trivial⟩ hw hS dX9_townHere_49
    · have hE := zifnF c4 hE
      have k6 : zI (-1) (-1) (w22_s0) := zI.eqq c4 (zI.lit (a := (-1)) (b := (-1)) (c := (-1)) (by decide))
      refine lv_aload_n hx hb dX9_townHere_28 rfl (lv_at hl 1 rfl) ?_
      refine lv_aload_n hx hb dX9_townHere_29 rfl (lv_at hl 1 rfl) ?_
      refine va_get (D := D) (ci := 8) (v := .ref (E (zn (r 196 4)))) hx hb hts hiX9 hown hK hw.1 196 kg196 rfl 4 (by decide) lf31 (fun _ h9 => h9) rfl dX9_townHere_30 (cgenSE (show zI 0 32 (r 196 4) from hJ0.i 196 4) (fun v7 ev7 hv7 => ?_))
      have hE := zletE ev7 hE
      refine cgets 29 (by decide) hx hb hZ hS hown lf59 dX9_townHere_33 (ztop (.ref (E (zn 29))) rfl ?_)
      refine cxacmp_ne (a := v7) (b := (29 : Int32)) (tgt := 43) hEi hv7 ((zI.lit (a := 29) (b := 29) (c := 29) (by decide)).w (c := 0) (d := 32) (by decide)) hx hb dX9_townHere_36 (by decide) (fun c8 => ?_) (fun c8 => ?_)
      · have hE := zifnT c8 hE
        refine lv_iconst (v := 1) hx hb dX9_townHere_43 (by decide) ?_
        exact cut44 w22_s0 1 k6 ((zI.lit (a := 1) (b := 1) (c := 1) (by decide)).w (c := 1) (d := 2) (by decide)) hE H locs ls hw hS (lv_sub hl [0] rfl)
      · have hE := zifnF c8 hE
        refine lv_iconst (v := 2) hx hb dX9_townHere_39 (by decide) ?_
        refine lv_goto (tgt := 44) hx hb dX9_townHere_40 (by decide) ?_
        exact cut44 w22_s0 2 k6 ((zI.lit (a := 2) (b := 2) (c := 2) (by decide)).w (c := 1) (d := 2) (by decide)) hE H locs ls hw hS (lv_sub hl [0] rfl)
  intro H locs hw hS ls hl
  have hl : lv_has ls 3 [(0, .ref (y 196)), (1, .ref (y 183))] := hl
  have hE := hX
  unfold Gk_townHereD at hE
  refine lv_aload_n hx hb dX9_townHere_0 rfl (lv_at hl 0 rfl) ?_
  refine va_get (D := D) (ci := 8) (v := .ref (E (zn (r 196 4)))) hx hb hts hiX9 hown hK hw.1 196 kg196 rfl 4 (by decide) lf31 (fun _ h9 => h9) rfl dX9_townHere_1 (cgenSE (show zI 0 32 (r 196 4) from hJ0.i 196 4) (fun v9 ev9 hv9 => ?_))
  have hE := zletE ev9 hE
  refine cgets 29 (by decide) hx hb hZ hS hown lf59 dX9_townHere_4 (ztop (.ref (E (zn 29))) rfl ?_)
  refine cxacmp_ne (a := v9) (b := (29 : Int32)) (tgt := 21) hEi hv9 ((zI.lit (a := 29) (b := 29) (c := 29) (by decide)).w (c := 0) (d := 32) (by decide)) hx hb dX9_townHere_7 (by decide) (fun c10 => ?_) (fun c10 => ?_)
  · have hE := zifnT c10 hE
    refine lv_iconst (v := (-1)) hx hb dX9_townHere_21 (by decide) ?_
    exact cut22 (-1) ((zI.lit (a := (-1)) (b := (-1)) (c := (-1)) (by decide)).w (c := (-1)) (d := 5) (by decide)) hE H locs ls hw hS (lv_sub hl [0] rfl)
  · have hE := zifnF c10 hE
    refine lv_aload_n hx hb dX9_townHere_10 rfl (lv_at hl 1 rfl) ?_
    refine lv_aload_n hx hb dX9_townHere_11 rfl (lv_at hl 0 rfl) ?_
    refine va_get (D := D) (ci := 8) (v := .long (q 196 6)) hx hb hts hiX9 hown hK hw.1 196 kg196 rfl 6 (by decide) lf37 (fun _ h9 => h9) rfl dX9_townHere_12 (zgenLE (fun v11 ev11 => ?_))
    have hE := zletE ev11 hE
    refine kcallV (As := [.long v11]) (rest := []) ⟨hx, hb, hml, hown, hts⟩ (kc_townNamedD l D ct E y v11 r q hJ0 hEi) (wqX9_100_kc_townNamedD hts ⟨Nat.le_of_ble_eq_true rfl, Nat.le_of_ble_eq_true rfl⟩) hw hS hA hK hZ hN 2 183 rfl kg183 rfl hl.1 rfl (Nat.le_of_ble_eq_true rfl) dX9_townHere_15 18 rfl (fun u12 H locs pu12 hw hS => ?_)
    have hu12 : zI (-1) 5 u12 := pu12.1
    have xu12 : u12 = (Gk_townNamedD v11 r q) := pu12.2.1
    have hE := zletE xu12 hE
    have hw : zPD D A (kW ct E y r q) H := hw
    refine zfr 18 [.int u12] rfl rfl ?_
    refine lv_goto (tgt := 22) hx hb dX9_townHere_18 (by decide) ?_
    exact cut22 u12 hu12 hE H locs ls hw hS (lv_sub hl [0] rfl)

set_option maxHeartbeats 4000000 in
set_option maxRecDepth 100000 in
theorem kc_personNamedD (l : Launch) (D : va_G) (ct : Nat → ClassId) (E : Nat → Nat) (y : Nat → Nat) (a1 : Int64) (r : zRr) (q : zRq) (hJ0 : kJ r) (hEi : kEi E) : cC l yX2_personNamed (.code yX2_personNamed cX2_personNamed 4 (some .int) :: wsL_law0) ({ frames := 1, cells := 0, slots := 0, locals := 80 }) D ct E [.ref (y 183), .long a1] (kW ct E y r q) (S := Int32) (fun u => some (.int u)) (fun u => zI (-1) 5 u ∧ u = (Gk_personNamedD a1 r q) ∧ True) (fun u => kW ct E y r q) := by
  refine cofQ cX2_personNamed 4 (some .int) (by decide) rfl (Nat.le_of_ble_eq_true rfl) ?_
  intro p e s m below meth c A a9 Q ha9 hx hb hr hml hts hown hlocks hname hK hA hZ hN hQ
  have hown : s.vm.findClass RX2 = some m.cls := hown
  have hiX2 : ∀ w ∈ wsX20, w ∈ .code yX2_personNamed cX2_personNamed 4 (some .int) :: wsL_law0 := fun _ h => ki (zs_wsX20 _ h)
  have lf34 := hts (.fieldLink RX2 34 "BeardPass$Land" "personNames" "[J") (ki (zr4 9 rfl))
  have lf48 := hts (.fieldLink RX2 48 "BeardPass$Land" "persons" "I") (ki (zr4 15 rfl))
  obtain ⟨X, hX⟩ : ∃ X, X = (Gk_personNamedD a1 r q) := ⟨_, rfl⟩
  have cut2 : ∀ (n2 : Nat) (w2_3 : Int32) (hw2_3 : zI 0 6 w2_3) (hE : X = Gk_personNamedD_2 a1 r q n2 w2_3), 6 - w2_3.toInt < (n2 : Int) → zKf p l e ({ frames := 1, cells := 0, slots := 0, locals := 80 }) s m a9 below meth c Q D A 2 4 [] (kW ct E y r q) [(0, .ref (y 183)), (1, .long a1), (3, .int w2_3)] := by
    intro n2
    induction n2 with
    | zero => intro w2_3 hw2_3 hE hm2; exact zI.no hw2_3 (by decide) hm2
    | succ n2 ih2 =>
      intro w2_3 hw2_3 hE hm2
      have hE : X = Bk_personNamedD_2 a1 r q (Gk_personNamedD_2 a1 r q n2) w2_3 := hE
      unfold Bk_personNamedD_2 at hE
      intro H locs ls hw hS hl
      refine lv_iload_n hx hb dX2_personNamed_2 rfl (lv_at hl 2 rfl) ?_
      refine lv_aload_n hx hb dX2_personNamed_3 rfl (lv_at hl 0 rfl) ?_
      refine va_get (D := D) (ci := 2) (v := .int (r 183 10)) hx hb hts hiX2 hown hK hw.1 183 kg183 rfl 10 (by decide) lf48 (fun _ h9 => h9) rfl dX2_personNamed_4 (zgenE (lo := 0) (hi := 6) ((show zI 0 6 (r 183 10) from hJ0.i 183 10)) (fun v1 ev1 hv1 => ?_))
      have hE := zletE ev1 hE
      refine lv_icmp_ge (tgt := 29) hx hb dX2_personNamed_7 (by decide) (fun c2 => ?_) (fun c2 => ?_)
      · have hE := zifT c2 hE
        refine lv_iconst (v := (-1)) hx hb dX2_personNamed_29 (by decide) ?_
        exact ziretQ hQ hx hb hr rfl hlocks ((-1) : Int32) rfl ⟨((zI.lit (a := (-1)) (b := (-1)) (c := (-1)) (by decide)).w (c := (-1)) (d := 5) (by decide)), (hE.symm.trans hX), trivial⟩ hw hS dX2_personNamed_30
      · have hE := zifF c2 hE
        have k3 : zI 0 5 (w2_3) := zI.ltU (zI.nle c2) hw2_3 hv1 (by decide)
        have k4 : zI 1 6 (v1) := zI.ltD (zI.nle c2) hw2_3 hv1 (by decide)
        refine lv_aload_n hx hb dX2_personNamed_10 rfl (lv_at hl 0 rfl) ?_
        refine va_get (D := D) (ci := 2) (v := .ref (y 191)) hx hb hts hiX2 hown hK hw.1 183 kg183 rfl 7 (by decide) lf34 (fun _ h9 => h9) rfl dX2_personNamed_11 ?_
        refine lv_iload_n hx hb dX2_personNamed_14 rfl (lv_at hl 2 rfl) ?_
        refine mlald hx hb hK hw 191 kg191 k3 (by decide) dX2_personNamed_15 (zgenLE (fun v5 ev5 => ?_))
        have hE := zletE ev5 hE
        refine lv_lload_n hx hb dX2_personNamed_16 rfl (lv_at hl 1 rfl) ?_
        refine W.lcmp hx hb dX2_personNamed_17 (zgenE (zI.top _) (fun v6 ev6 _ => ?_))
        have hE := zletE ev6 hE
        refine lv_if_ne (tgt := 23) hx hb dX2_personNamed_18 (by decide) (fun c7 => ?_) (fun c7 => ?_)
        · have hE := zifnT c7 hE
          refine lv_iinc (v := w2_3 + 1) (lv' := [(3, .int (w2_3 + 1)), (0, .ref (y 183)), (1, .long a1)]) hx hb dX2_personNamed_23 hl (k := 2) rfl (rfl) (by decide) rfl (fun ls hl => ?_)
          have k8 : zI 1 6 (w2_3 + 1) := zI.add k3 (zI.lit (a := 1) (b := 1) (by decide)) (by decide)
          refine lv_goto (tgt := 2) hx hb dX2_personNamed_26 (by decide) ?_
          exact ih2 (w2_3 + 1) (k8.w (c := 0) (d := 6) (by decide)) hE (zI.up k3 (by decide) hm2) H locs ls hw hS (lv_sub hl [1, 2, 0] rfl)
        · have hE := zifnF c7 hE
          have k9 : zI 0 0 (v6) := zI.eqq c7 (zI.lit (a := 0) (b := 0) (c := 0) (by decide))
          refine lv_iload_n hx hb dX2_personNamed_21 rfl (lv_at hl 2 rfl) ?_
          exact ziretQ hQ hx hb hr rfl hlocks w2_3 rfl ⟨(k3.w (c := (-1)) (d := 5) (by decide)), (hE.symm.trans hX), trivial⟩ hw hS dX2_personNamed_22
  intro H locs hw hS ls hl
  have hl : lv_has ls 4 [(0, .ref (y 183)), (1, .long a1)] := hl
  have hE := hX
  unfold Gk_personNamedD at hE
  refine lv_iconst (v := 0) hx hb dX2_personNamed_0 (by decide) ?_
  refine lv_istore_n (lv' := [(3, .int 0), (0, .ref (y 183)), (1, .long a1)]) hx hb dX2_personNamed_1 rfl hl (by decide) rfl (fun ls hl => ?_)
  exact cut2 7 0 ((zI.lit (a := 0) (b := 0) (c := 0) (by decide)).w (c := 0) (d := 6) (by decide)) hE (zI.m0 (zI.lit (a := 0) (b := 0) (c := 0) (by decide)) (by decide)) H locs ls hw hS (lv_sub hl [1, 2, 0] rfl)

set_option maxHeartbeats 4000000 in
set_option maxRecDepth 100000 in
theorem kc_add (l : Launch) (D : va_G) (ct : Nat → ClassId) (E : Nat → Nat) (y : Nat → Nat) (a1 : Int32) (r : zRr) (q : zRq) (hJ0 : kJ r) (hEi : kEi E) : cC l yX4_add (.code yX4_add cX4_add 2 none :: wsL_law0) ({ frames := 1, cells := 0, slots := 0, locals := 80 }) D ct E [.ref (y 192), .int a1] (kW ct E y r q) (S := zRr) (fun u => none) (fun u => kJ u ∧ zFr [192, 193] r u ∧ u = (Gk_add a1 r q) ∧ True) (fun u => kW ct E y u q) := by
  refine cofQ cX4_add 2 none (by decide) rfl (Nat.le_of_ble_eq_true rfl) ?_
  intro p e s m below meth c A a9 Q ha9 hx hb hr hml hts hown hlocks hname hK hA hZ hN hQ
  have hown : s.vm.findClass RX4 = some m.cls := hown
  have hiX4 : ∀ w ∈ wsX40, w ∈ .code yX4_add cX4_add 2 none :: wsL_law0 := fun _ h => ki (zs_wsX40 _ h)
  have lf9 := hts (.fieldLink RX4 9 "BeardPass$Law" "code" "[I") (ki (zr4 21 rfl))
  have lf18 := hts (.fieldLink RX4 18 "BeardPass$Law" "size" "I") (ki (zr4 23 rfl))
  obtain ⟨X, hX⟩ : ∃ X, X = (Gk_add a1 r q) := ⟨_, rfl⟩
  intro H locs hw hS ls hl
  have hl : lv_has ls 2 [(0, .ref (y 192)), (1, .int a1)] := hl
  have hE := hX
  unfold Gk_add at hE
  refine lv_aload_n hx hb dX4_add_0 rfl (lv_at hl 0 rfl) ?_
  refine va_get (D := D) (ci := 4) (v := .int (r 192 2)) hx hb hts hiX4 hown hK hw.1 192 kg192 rfl 2 (by decide) lf18 (fun _ h9 => h9) rfl dX4_add_1 ?_
  refine lv_aload_n hx hb dX4_add_4 rfl (lv_at hl 0 rfl) ?_
  refine va_get (D := D) (ci := 4) (v := .ref (y 193)) hx hb hts hiX4 hown hK hw.1 192 kg192 rfl 0 (by decide) lf9 (fun _ h9 => h9) rfl dX4_add_5 ?_
  refine va_alen hx hb hK hw.1 193 0 kg193 rfl (v := 1000) rfl dX4_add_8 ?_
  refine lv_icmp_ge (tgt := 32) hx hb dX4_add_9 (by decide) (fun c1 => ?_) (fun c1 => ?_)
  · have hE := zifT c1 hE
    have k2 : zI 1000 1000 (r 192 2) := zI.leD c1 (zI.lit (a := 1000) (b := 1000) (c := 1000) (by decide)) (show zI 0 1000 (r 192 2) from hJ0.i 192 2) (by decide)
    exact zvretQ hQ hx hb hr hlocks r rfl ⟨hJ0, (zFr.refl), (hE.symm.trans hX), trivial⟩ hw hS dX4_add_32
  · have hE := zifF c1 hE
    have k3 : zI 0 999 (r 192 2) := zI.ltU (zI.nle c1) (show zI 0 1000 (r 192 2) from hJ0.i 192 2) (zI.lit (a := 1000) (b := 1000) (c := 1000) (by decide)) (by decide)
    refine lv_aload_n hx hb dX4_add_12 rfl (lv_at hl 0 rfl) ?_
    refine va_get (D := D) (ci := 4) (v := .ref (y 193)) hx hb hts hiX4 hown hK hw.1 192 kg192 rfl 0 (by decide) lf9 (fun _ h9 => h9) rfl dX4_add_13 ?_
    refine lv_aload_n hx hb dX4_add_16 rfl (lv_at hl 0 rfl) ?_
    refine va_get (D := D) (ci := 4) (v := .int (r 192 2)) hx hb hts hiX4 hown hK hw.1 192 kg192 rfl 2 (by decide) lf18 (fun _ h9 => h9) rfl dX4_add_17 ?_
    refine lv_iload_n hx hb dX4_add_20 rfl (lv_at hl 1 rfl) ?_
    refine miast hx hb hK hw hS 193 kg193 k3 (by decide) dX4_add_21 (kW ct E y (zset r 193 (upd (r 193) (zn (r 192 2)) a1)) q) ks193 (fun H locs hw hS => ?_)
    refine cmgen (P := fun x => kJ x ∧ zFr [192, 193] r x) hw ⟨hJ0.set rfl (zI.top _), (zFr.refl).set rfl⟩ (fun r4 er4 hw pr4 => ?_)
    have hE := zletE er4 hE
    refine lv_aload_n hx hb dX4_add_22 rfl (lv_at hl 0 rfl) ?_
    refine lv_dup hx hb dX4_add_23 rfl ?_
    refine va_get (D := D) (ci := 4) (v := .int (r4 192 2)) hx hb hts hiX4 hown hK hw.1 192 kg192 rfl 2 (by decide) lf18 (fun _ h9 => h9) rfl dX4_add_24 ?_
    refine lv_iconst (v := 1) hx hb dX4_add_27 (by decide) ?_
    refine lv_iadd hx hb dX4_add_28 ?_
    have k5 : zI 1 1000 ((r4 192 2) + 1) := zI.add (zs_at er4 k3 (by decide)) (zI.lit (a := 1) (b := 1) (c := 1) (by decide)) (by decide)
    refine zput (D := D) (ci := 4) (v := .int ((r4 192 2) + 1)) (ty := .int) hx hb hts hiX4 tyX4 tyX4_ok nmX4 hown hK hw hS 192 kg192 rfl 2 (by decide) lf18 (fun _ h9 => h9) rfl (by decide +kernel) rfl rfl (Nat.le_of_ble_eq_true rfl) dX4_add_29 (kW ct E y (zset r4 192 (upd (r4 192) 2 ((r4 192 2) + 1))) q) ks192_2 (fun H locs hw hS => ?_)
    refine cmgen (P := fun x => kJ x ∧ zFr [192, 193] r x) hw ⟨pr4.1.set rfl (k5.w (c := 0) (d := 1000) (by decide)), pr4.2.set rfl⟩ (fun r6 er6 hw pr6 => ?_)
    have hE := zletE er6 hE
    exact zvretQ hQ hx hb hr hlocks r6 rfl ⟨pr6.1, pr6.2, (hE.symm.trans hX), trivial⟩ hw hS dX4_add_32

set_option maxHeartbeats 4000000 in
set_option maxRecDepth 100000 in
theorem kc_untold (l : Launch) (D : va_G) (ct : Nat → ClassId) (E : Nat → Nat) (y : Nat → Nat) (r : zRr) (q : zRq) (hJ0 : kJ r) (hEi : kEi E) : cC l yX4_beAsUntold (.code yX4_beAsUntold cX4_beAsUntold 1 none :: wsL_law0) ({ frames := 2, cells := 0, slots := 0, locals := 120 }) D ct E [.ref (y 192)] (kW ct E y r q) (S := zRr) (fun u => none) (fun u => kJ u ∧ zFr [192, 193] r u ∧ u = (Gk_untold r q) ∧ True) (fun u => kW ct E y u q) := by
  refine cofQ cX4_beAsUntold 1 none (by decide) rfl (Nat.le_of_ble_eq_true rfl) ?_
  intro p e s m below meth c A a9 Q ha9 hx hb hr hml hts hown hlocks hname hK hA hZ hN hQ
  have hown : s.vm.findClass RX4 = some m.cls := hown
  have hiX4 : ∀ w ∈ wsX40, w ∈ .code yX4_beAsUntold cX4_beAsUntold 1 none :: wsL_law0 := fun _ h => ki (zs_wsX40 _ h)
  have lf18 := hts (.fieldLink RX4 18 "BeardPass$Law" "size" "I") (ki (zr4 23 rfl))
  obtain ⟨X, hX⟩ : ∃ X, X = (Gk_untold r q) := ⟨_, rfl⟩
  intro H locs hw hS ls hl
  have hl : lv_has ls 1 [(0, .ref (y 192))] := hl
  have hE := hX
  unfold Gk_untold at hE
  refine lv_aload_n hx hb dX4_beAsUntold_0 rfl (lv_at hl 0 rfl) ?_
  refine lv_iconst (v := 0) hx hb dX4_beAsUntold_1 (by decide) ?_
  refine zput (D := D) (ci := 4) (v := .int 0) (ty := .int) hx hb hts hiX4 tyX4 tyX4_ok nmX4 hown hK hw hS 192 kg192 rfl 2 (by decide) lf18 (fun _ h9 => h9) rfl (by decide +kernel) rfl rfl (Nat.le_of_ble_eq_true rfl) dX4_beAsUntold_2 (kW ct E y (zset r 192 (upd (r 192) 2 (0 : Int32))) q) ks192_2 (fun H locs hw hS => ?_)
  refine cmgen (P := fun x => kJ x ∧ zFr [192, 193] r x) hw ⟨hJ0.set rfl ((zI.lit (a := 0) (b := 0) (c := 0) (by decide)).w (c := 0) (d := 1000) (by decide)), (zFr.refl).set rfl⟩ (fun r1 er1 hw pr1 => ?_)
  have hE := zletE er1 hE
  refine lv_aload_n hx hb dX4_beAsUntold_5 rfl (lv_at hl 0 rfl) ?_
  refine lv_iconst (v := (-1)) hx hb dX4_beAsUntold_6 (by decide) ?_
  refine kcallV (As := [.int (-1)]) (rest := []) ⟨hx, hb, hml, hown, hts⟩ (kc_add l D ct E y ((-1) : Int32) r1 q pr1.1 hEi) (wqX4_22_kc_add hts ⟨Nat.le_of_ble_eq_true rfl, Nat.le_of_ble_eq_true rfl⟩) hw hS hA hK hZ hN 4 192 rfl kg192 rfl hl.1 rfl (Nat.le_of_ble_eq_true rfl) dX4_beAsUntold_7 10 rfl (fun u2 H locs pu2 hw hS => ?_)
  have ju2 : kJ u2 := pu2.1
  have fu2 : zFr [192, 193] r1 u2 := pu2.2.1
  have xu2 : u2 = (Gk_add ((-1) : Int32) r1 q) := pu2.2.2.1
  have hE := zletE xu2 hE
  have hw : zPD D A (kW ct E y u2 q) H := hw
  refine zfr 10 [] rfl rfl ?_
  refine lv_aload_n hx hb dX4_beAsUntold_10 rfl (lv_at hl 0 rfl) ?_
  refine lv_bipush (v := (-3)) hx hb dX4_beAsUntold_11 (by decide) ?_
  refine kcallV (As := [.int (-3)]) (rest := []) ⟨hx, hb, hml, hown, hts⟩ (kc_add l D ct E y ((-3) : Int32) u2 q ju2 hEi) (wqX4_22_kc_add hts ⟨Nat.le_of_ble_eq_true rfl, Nat.le_of_ble_eq_true rfl⟩) hw hS hA hK hZ hN 4 192 rfl kg192 rfl hl.1 rfl (Nat.le_of_ble_eq_true rfl) dX4_beAsUntold_13 16 rfl (fun u4 H locs pu4 hw hS => ?_)
  have ju4 : kJ u4 := pu4.1
  have fu4 : zFr [192, 193] u2 u4 := pu4.2.1
  have xu4 : u4 = (Gk_add ((-3) : Int32) u2 q) := pu4.2.2.1
  have hE := zletE xu4 hE
  have hw : zPD D A (kW ct E y u4 q) H := hw
  refine zfr 16 [] rfl rfl ?_
  refine lv_aload_n hx hb dX4_beAsUntold_16 rfl (lv_at hl 0 rfl) ?_
  refine lv_bipush (v := (-8)) hx hb dX4_beAsUntold_17 (by decide) ?_
  refine kcallV (As := [.int (-8)]) (rest := []) ⟨hx, hb, hml, hown, hts⟩ (kc_add l D ct E y ((-8) : Int32) u4 q ju4 hEi) (wqX4_22_kc_add hts ⟨Nat.le_of_ble_eq_true rfl, Nat.le_of_ble_eq_true rfl⟩) hw hS hA hK hZ hN 4 192 rfl kg192 rfl hl.1 rfl (Nat.le_of_ble_eq_true rfl) dX4_beAsUntold_19 22 rfl (fun u6 H locs pu6 hw hS => ?_)
  have ju6 : kJ u6 := pu6.1
  have fu6 : zFr [192, 193] u4 u6 := pu6.2.1
  have xu6 : u6 = (Gk_add ((-8) : Int32) u4 q) := pu6.2.2.1
  have hE := zletE xu6 hE
  have hw : zPD D A (kW ct E y u6 q) H := hw
  refine zfr 22 [] rfl rfl ?_
  refine lv_aload_n hx hb dX4_beAsUntold_22 rfl (lv_at hl 0 rfl) ?_
  refine lv_bipush (v := (-5)) hx hb dX4_beAsUntold_23 (by decide) ?_
  refine kcallV (As := [.int (-5)]) (rest := []) ⟨hx, hb, hml, hown, hts⟩ (kc_add l D ct E y ((-5) : Int32) u6 q ju6 hEi) (wqX4_22_kc_add hts ⟨Nat.le_of_ble_eq_true rfl, Nat.le_of_ble_eq_true rfl⟩) hw hS hA hK hZ hN 4 192 rfl kg192 rfl hl.1 rfl (Nat.le_of_ble_eq_true rfl) dX4_beAsUntold_25 28 rfl (fun u8 H locs pu8 hw hS => ?_)
  have ju8 : kJ u8 := pu8.1
  have fu8 : zFr [192, 193] u6 u8 := pu8.2.1
  have xu8 : u8 = (Gk_add ((-5) : Int32) u6 q) := pu8.2.2.1
  have hE := zletE xu8 hE
  have hw : zPD D A (kW ct E y u8 q) H := hw
  refine zfr 28 [] rfl rfl ?_
  exact zvretQ hQ hx hb hr hlocks u8 rfl ⟨ju8, ((((pr1.2.tr fu2 rfl).tr fu4 rfl).tr fu6 rfl).tr fu8 rfl), (hE.symm.trans hX), trivial⟩ hw hS dX4_beAsUntold_28

set_option maxHeartbeats 4000000 in
set_option maxRecDepth 100000 in
theorem kc_valueHere (l : Launch) (D : va_G) (ct : Nat → ClassId) (E : Nat → Nat) (y : Nat → Nat) (r : zRr) (q : zRq) (hJ0 : kJ r) (hEi : kEi E) : cC l yX4_valueHere (.code yX4_valueHere cX4_valueHere 1 (some .int) :: wsL_law0) ({ frames := 6, cells := 0, slots := 0, locals := 280 }) D ct E [.ref (y 196)] (kW ct E y r q) (S := Int32) (fun u => some (.int u)) (fun u => zI (-2147483648) 2147483647 u ∧ u = (Gk_valueHere r q) ∧ True) (fun u => kW ct E y r q) := by
  refine cofQ cX4_valueHere 1 (some .int) (by decide) rfl (Nat.le_of_ble_eq_true rfl) ?_
  intro p e s m below meth c A a9 Q ha9 hx hb hr hml hts hown hlocks hname hK hA hZ hN hQ
  have hown : s.vm.findClass RX4 = some m.cls := hown
  have hiX9 : ∀ w ∈ wsX90, w ∈ .code yX4_valueHere cX4_valueHere 1 (some .int) :: wsL_law0 := fun _ h => ki (zs_wsX90 _ h)
  have lf36 := hts (.fieldLink RX4 36 "BeardPass$Tape" "sort" "LBeardPass$Sort;") (ki (zr18 17 rfl))
  have lf101 := hts (.fieldLink RX4 101 "BeardPass$Sort" "NUMBER" "LBeardPass$Sort;") (ki (zr19 7 rfl))
  have lf104 := hts (.fieldLink RX4 104 "BeardPass$Tape" "number" "I") (ki (zr19 8 rfl))
  have lf107 := hts (.fieldLink RX4 107 "BeardPass$Sort" "NAME" "LBeardPass$Sort;") (ki (zr19 9 rfl))
  obtain ⟨X, hX⟩ : ∃ X, X = (Gk_valueHere r q) := ⟨_, rfl⟩
  intro H locs hw hS ls hl
  have hl : lv_has ls 1 [(0, .ref (y 196))] := hl
  have hE := hX
  unfold Gk_valueHere at hE
  refine lv_aload_n hx hb dX4_valueHere_0 rfl (lv_at hl 0 rfl) ?_
  refine va_get (D := D) (ci := 8) (v := .ref (E (zn (r 196 4)))) hx hb hts hiX9 hown hK hw.1 196 kg196 rfl 4 (by decide) lf36 (fun _ h9 => h9) rfl dX4_valueHere_1 (cgenSE (show zI 0 32 (r 196 4) from hJ0.i 196 4) (fun v1 ev1 hv1 => ?_))
  have hE := zletE ev1 hE
  refine cgets 30 (by decide) hx hb hZ hS hown lf101 dX4_valueHere_4 (ztop (.ref (E (zn 30))) rfl ?_)
  refine cxacmp_ne (a := v1) (b := (30 : Int32)) (tgt := 15) hEi hv1 ((zI.lit (a := 30) (b := 30) (c := 30) (by decide)).w (c := 0) (d := 32) (by decide)) hx hb dX4_valueHere_7 (by decide) (fun c2 => ?_) (fun c2 => ?_)
  · have hE := zifnT c2 hE
    refine lv_aload_n hx hb dX4_valueHere_15 rfl (lv_at hl 0 rfl) ?_
    refine va_get (D := D) (ci := 8) (v := .ref (E (zn (r 196 4)))) hx hb hts hiX9 hown hK hw.1 196 kg196 rfl 4 (by decide) lf36 (fun _ h9 => h9) rfl dX4_valueHere_16 (cgenSE (show zI 0 32 (r 196 4) from hJ0.i 196 4) (fun v3 ev3 hv3 => ?_))
    have hE := zletE ev3 hE
    refine cgets 29 (by decide) hx hb hZ hS hown lf107 dX4_valueHere_19 (ztop (.ref (E (zn 29))) rfl ?_)
    refine cxacmp_eq (a := v3) (b := (29 : Int32)) (tgt := 28) hEi hv3 ((zI.lit (a := 29) (b := 29) (c := 29) (by decide)).w (c := 0) (d := 32) (by decide)) hx hb dX4_valueHere_22 (by decide) (fun c4 => ?_) (fun c4 => ?_)
    · have hE := zifT c4 hE
      refine lv_aload_n hx hb dX4_valueHere_28 rfl (lv_at hl 0 rfl) ?_
      refine va_ldcS (q := E (40 + 33)) hx hb hown (hZ.2.2.2.2.2.1 (110, "long", 73) (by decide)) dX4_valueHere_29 ?_
      refine kcallV (As := [.ref (E (40 + 33))]) (rest := []) ⟨hx, hb, hml, hown, hts⟩ (kc_spells l D ct E y 33 r q (by decide) hJ0 hEi) (wqX4_112_kc_spells hts ⟨Nat.le_of_ble_eq_true rfl, Nat.le_of_ble_eq_true rfl⟩) hw hS hA hK hZ hN 8 196 rfl kg196 rfl hl.1 rfl (Nat.le_of_ble_eq_true rfl) dX4_valueHere_31 34 rfl (fun u5 H locs pu5 hw hS => ?_)
      have hu5 : zI 0 1 u5 := pu5.1
      have xu5 : u5 = (Gk_spells 33 r q) := pu5.2.1
      have hE := zletE xu5 hE
      have hw : zPD D A (kW ct E y r q) H := hw
      refine zfr 34 [.int u5] rfl rfl ?_
      refine lv_if_eq (tgt := 39) hx hb dX4_valueHere_34 (by decide) (fun c7 => ?_) (fun c7 => ?_)
      · have hE := zifT c7 hE
        have k8 : zI 0 0 (u5) := zI.eqq c7 (zI.lit (a := 0) (b := 0) (c := 0) (by decide))
        refine lv_aload_n hx hb dX4_valueHere_39 rfl (lv_at hl 0 rfl) ?_
        refine va_ldcS (q := E (40 + 34)) hx hb hown (hZ.2.2.2.2.2.1 (116, "false", 74) (by decide)) dX4_valueHere_40 ?_
        refine kcallV (As := [.ref (E (40 + 34))]) (rest := []) ⟨hx, hb, hml, hown, hts⟩ (kc_spells l D ct E y 34 r q (by decide) hJ0 hEi) (wqX4_112_kc_spells hts ⟨Nat.le_of_ble_eq_true rfl, Nat.le_of_ble_eq_true rfl⟩) hw hS hA hK hZ hN 8 196 rfl kg196 rfl hl.1 rfl (Nat.le_of_ble_eq_true rfl) dX4_valueHere_42 45 rfl (fun u9 H locs pu9 hw hS => ?_)
        have hu9 : zI 0 1 u9 := pu9.1
        have xu9 : u9 = (Gk_spells 34 r q) := pu9.2.1
        have hE := zletE xu9 hE
        have hw : zPD D A (kW ct E y r q) H := hw
        refine zfr 45 [.int u9] rfl rfl ?_
        refine lv_if_eq (tgt := 51) hx hb dX4_valueHere_45 (by decide) (fun c11 => ?_) (fun c11 => ?_)
        · have hE := zifT c11 hE
          have k12 : zI 0 0 (u9) := zI.eqq c11 (zI.lit (a := 0) (b := 0) (c := 0) (by decide))
          refine lv_aload_n hx hb dX4_valueHere_51 rfl (lv_at hl 0 rfl) ?_
          refine va_ldcS (q := E (40 + 35)) hx hb hown (hZ.2.2.2.2.2.1 (118, "asked", 75) (by decide)) dX4_valueHere_52 ?_
          refine kcallV (As := [.ref (E (40 + 35))]) (rest := []) ⟨hx, hb, hml, hown, hts⟩ (kc_spells l D ct E y 35 r q (by decide) hJ0 hEi) (wqX4_112_kc_spells hts ⟨Nat.le_of_ble_eq_true rfl, Nat.le_of_ble_eq_true rfl⟩) hw hS hA hK hZ hN 8 196 rfl kg196 rfl hl.1 rfl (Nat.le_of_ble_eq_true rfl) dX4_valueHere_54 57 rfl (fun u13 H locs pu13 hw hS => ?_)
          have hu13 : zI 0 1 u13 := pu13.1
          have xu13 : u13 = (Gk_spells 35 r q) := pu13.2.1
          have hE := zletE xu13 hE
          have hw : zPD D A (kW ct E y r q) H := hw
          refine zfr 57 [.int u13] rfl rfl ?_
          refine lv_if_eq (tgt := 63) hx hb dX4_valueHere_57 (by decide) (fun c15 => ?_) (fun c15 => ?_)
          · have hE := zifT c15 hE
            have k16 : zI 0 0 (u13) := zI.eqq c15 (zI.lit (a := 0) (b := 0) (c := 0) (by decide))
            refine lv_aload_n hx hb dX4_valueHere_63 rfl (lv_at hl 0 rfl) ?_
            refine va_ldcS (q := E (40 + 36)) hx hb hown (hZ.2.2.2.2.2.1 (120, "weeks", 76) (by decide)) dX4_valueHere_64 ?_
            refine kcallV (As := [.ref (E (40 + 36))]) (rest := []) ⟨hx, hb, hml, hown, hts⟩ (kc_spells l D ct E y 36 r q (by decide) hJ0 hEi) (wqX4_112_kc_spells hts ⟨Nat.le_of_ble_eq_true rfl, Nat.le_of_ble_eq_true rfl⟩) hw hS hA hK hZ hN 8 196 rfl kg196 rfl hl.1 rfl (Nat.le_of_ble_eq_true rfl) dX4_valueHere_66 69 rfl (fun u17 H locs pu17 hw hS => ?_)
            have hu17 : zI 0 1 u17 := pu17.1
            have xu17 : u17 = (Gk_spells 36 r q) := pu17.2.1
            have hE := zletE xu17 hE
            have hw : zPD D A (kW ct E y r q) H := hw
            refine zfr 69 [.int u17] rfl rfl ?_
            refine lv_if_eq (tgt := 77) hx hb dX4_valueHere_69 (by decide) (fun c19 => ?_) (fun c19 => ?_)
            · have hE := zifT c19 hE
              have k20 : zI 0 0 (u17) := zI.eqq c19 (zI.lit (a := 0) (b := 0) (c := 0) (by decide))
              refine lv_bipush (v := (-13)) hx hb dX4_valueHere_77 (by decide) ?_
              exact ziretQ hQ hx hb hr rfl hlocks ((-13) : Int32) rfl ⟨(zI.top _), (hE.symm.trans hX), trivial⟩ hw hS dX4_valueHere_79
            · have hE := zifF c19 hE
              have k21 : zI 1 1 (u17) := zI.neD c19 hu17 (zI.lit (a := 0) (b := 0) (c := 0) (by decide)) (by decide)
              refine lv_bipush (v := (-4)) hx hb dX4_valueHere_72 (by decide) ?_
              refine lv_goto (tgt := 79) hx hb dX4_valueHere_74 (by decide) ?_
              exact ziretQ hQ hx hb hr rfl hlocks ((-4) : Int32) rfl ⟨(zI.top _), (hE.symm.trans hX), trivial⟩ hw hS dX4_valueHere_79
          · have hE := zifF c15 hE
            have k22 : zI 1 1 (u13) := zI.neD c15 hu13 (zI.lit (a := 0) (b := 0) (c := 0) (by decide)) (by decide)
            refine lv_bipush (v := (-3)) hx hb dX4_valueHere_60 (by decide) ?_
            exact ziretQ hQ hx hb hr rfl hlocks ((-3) : Int32) rfl ⟨(zI.top _), (hE.symm.trans hX), trivial⟩ hw hS dX4_valueHere_62
        · have hE := zifF c11 hE
          have k23 : zI 1 1 (u9) := zI.neD c11 hu9 (zI.lit (a := 0) (b := 0) (c := 0) (by decide)) (by decide)
          refine lv_bipush (v := (-2)) hx hb dX4_valueHere_48 (by decide) ?_
          exact ziretQ hQ hx hb hr rfl hlocks ((-2) : Int32) rfl ⟨(zI.top _), (hE.symm.trans hX), trivial⟩ hw hS dX4_valueHere_50
      · have hE := zifF c7 hE
        have k24 : zI 1 1 (u5) := zI.neD c7 hu5 (zI.lit (a := 0) (b := 0) (c := 0) (by decide)) (by decide)
        refine lv_iconst (v := (-1)) hx hb dX4_valueHere_37 (by decide) ?_
        exact ziretQ hQ hx hb hr rfl hlocks ((-1) : Int32) rfl ⟨(zI.top _), (hE.symm.trans hX), trivial⟩ hw hS dX4_valueHere_38
    · have hE := zifF c4 hE
      refine lv_bipush (v := (-13)) hx hb dX4_valueHere_25 (by decide) ?_
      exact ziretQ hQ hx hb hr rfl hlocks ((-13) : Int32) rfl ⟨(zI.top _), (hE.symm.trans hX), trivial⟩ hw hS dX4_valueHere_27
  · have hE := zifnF c2 hE
    refine lv_aload_n hx hb dX4_valueHere_10 rfl (lv_at hl 0 rfl) ?_
    refine va_get (D := D) (ci := 8) (v := .int (r 196 5)) hx hb hts hiX9 hown hK hw.1 196 kg196 rfl 5 (by decide) lf104 (fun _ h9 => h9) rfl dX4_valueHere_11 (zgenE (zI.top _) (fun v25 ev25 _ => ?_))
    have hE := zletE ev25 hE
    exact ziretQ hQ hx hb hr rfl hlocks v25 rfl ⟨(zI.top _), (hE.symm.trans hX), trivial⟩ hw hS dX4_valueHere_14
