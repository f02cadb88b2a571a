set_option maxHeartbeats 4000000 in
set_option maxRecDepth 100000 in
theorem kc_clear (l : Launch) (D : va_G) (ct : Nat → ClassId) (E : Nat → Nat) (y : Nat → Nat) (r : zRr) (q : zRq) (hJ0 : kJ r) (hEi : kEi E) : cC l yX2_clear (.code yX2_clear cX2_clear 1 none :: wsL_law0) ({ frames := 3, cells := 0, slots := 0, locals := 160 }) D ct E [.ref (y 183)] (kW ct E y r q) (S := zRr) (fun u => none) (fun u => kJ u ∧ u = (Gk_clear r q) ∧ True) (fun u => kW ct E y u q) := by
  refine cofQ cX2_clear 1 none (by decide) rfl (Nat.le_of_ble_eq_true rfl) ?_
  intro p e s m below meth c A a9 Q ha9 hx hb hr hml hts hown hlocks hname hK hA hZ hN hQ
  have hown : s.vm.findClass RX2 = some m.cls := hown
  have hiX2 : ∀ w ∈ wsX20, w ∈ .code yX2_clear cX2_clear 1 none :: wsL_law0 := fun _ h => ki (zs_wsX20 _ h)
  have lf15 := hts (.fieldLink RX2 15 "BeardPass$Land" "roads" "[I") (ki (zr4 3 rfl))
  have lf40 := hts (.fieldLink RX2 40 "BeardPass$Land" "law" "LBeardPass$Law;") (ki (zr4 13 rfl))
  have lf44 := hts (.fieldLink RX2 44 "BeardPass$Land" "towns" "I") (ki (zr4 14 rfl))
  have lf48 := hts (.fieldLink RX2 48 "BeardPass$Land" "persons" "I") (ki (zr4 15 rfl))
  have lf51 := hts (.fieldLink RX2 51 "BeardPass$Land" "grows" "I") (ki (zr4 16 rfl))
  have lf54 := hts (.fieldLink RX2 54 "BeardPass$Land" "inch" "I") (ki (zr4 17 rfl))
  obtain ⟨X, hX⟩ : ∃ X, X = (Gk_clear r q) := ⟨_, rfl⟩
  intro H locs hw hS ls hl
  have hl : lv_has ls 1 [(0, .ref (y 183))] := hl
  have hE := hX
  unfold Gk_clear at hE
  refine lv_aload_n hx hb dX2_clear_0 rfl (lv_at hl 0 rfl) ?_
  refine lv_iconst (v := 0) hx hb dX2_clear_1 (by decide) ?_
  refine zput (D := D) (ci := 2) (v := .int 0) (ty := .int) hx hb hts hiX2 tyX2 tyX2_ok nmX2 hown hK hw hS 183 kg183 rfl 9 (by decide) lf44 (fun _ h9 => h9) rfl (by decide +kernel) rfl rfl (Nat.le_of_ble_eq_true rfl) dX2_clear_2 (kW ct E y (zset r 183 (upd (r 183) 9 (0 : Int32))) q) ks183_9 (fun H locs hw hS => ?_)
  refine cmgen (P := fun x => kJ x) hw (hJ0.setl (by decide) (by decide) ((zI.lit (a := 0) (b := 0) (c := 0) (by decide)).w (c := 0) (d := 6) (by decide))) (fun r1 er1 hw pr1 => ?_)
  have hE := zletE er1 hE
  refine lv_aload_n hx hb dX2_clear_5 rfl (lv_at hl 0 rfl) ?_
  refine lv_iconst (v := 0) hx hb dX2_clear_6 (by decide) ?_
  refine zput (D := D) (ci := 2) (v := .int 0) (ty := .int) hx hb hts hiX2 tyX2 tyX2_ok nmX2 hown hK hw hS 183 kg183 rfl 10 (by decide) lf48 (fun _ h9 => h9) rfl (by decide +kernel) rfl rfl (Nat.le_of_ble_eq_true rfl) dX2_clear_7 (kW ct E y (zset r1 183 (upd (r1 183) 10 (0 : Int32))) q) ks183_10 (fun H locs hw hS => ?_)
  refine cmgen (P := fun x => kJ x) hw (pr1.pers0 rfl) (fun r2 er2 hw pr2 => ?_)
  have hE := zletE er2 hE
  refine lv_aload_n hx hb dX2_clear_10 rfl (lv_at hl 0 rfl) ?_
  refine lv_iconst (v := 1) hx hb dX2_clear_11 (by decide) ?_
  refine zput (D := D) (ci := 2) (v := .int 1) (ty := .int) hx hb hts hiX2 tyX2 tyX2_ok nmX2 hown hK hw hS 183 kg183 rfl 11 (by decide) lf51 (fun _ h9 => h9) rfl (by decide +kernel) rfl rfl (Nat.le_of_ble_eq_true rfl) dX2_clear_12 (kW ct E y (zset r2 183 (upd (r2 183) 11 (1 : Int32))) q) ks183_11 (fun H locs hw hS => ?_)
  refine cmgen (P := fun x => kJ x) hw (pr2.setl (by decide) (by decide) (zI.top _)) (fun r3 er3 hw pr3 => ?_)
  have hE := zletE er3 hE
  refine lv_aload_n hx hb dX2_clear_15 rfl (lv_at hl 0 rfl) ?_
  refine lv_iconst (v := 2) hx hb dX2_clear_16 (by decide) ?_
  refine zput (D := D) (ci := 2) (v := .int 2) (ty := .int) hx hb hts hiX2 tyX2 tyX2_ok nmX2 hown hK hw hS 183 kg183 rfl 12 (by decide) lf54 (fun _ h9 => h9) rfl (by decide +kernel) rfl rfl (Nat.le_of_ble_eq_true rfl) dX2_clear_17 (kW ct E y (zset r3 183 (upd (r3 183) 12 (2 : Int32))) q) ks183_12 (fun H locs hw hS => ?_)
  refine cmgen (P := fun x => kJ x) hw (pr3.setl (by decide) (by decide) (zI.top _)) (fun r4 er4 hw pr4 => ?_)
  have hE := zletE er4 hE
  refine lv_aload_n hx hb dX2_clear_20 rfl (lv_at hl 0 rfl) ?_
  refine va_get (D := D) (ci := 2) (v := .ref (y 185)) hx hb hts hiX2 hown hK hw.1 183 kg183 rfl 1 (by decide) lf15 (fun _ h9 => h9) rfl dX2_clear_21 ?_
  refine lv_iconst (v := 0) hx hb dX2_clear_24 (by decide) ?_
  refine kcallZS (As := [.ref (y 185), .int 0]) (rest := []) [185] (by decide) rfl ⟨hx, hb, hml, hown, hts⟩ (c_fill l D ct (y 185) (0 : Int32) 6 (r4 185) (by decide)) (va_cwS 2 hts (kgSm (zr10 22 rfl) (zr10 23 rfl) (zr11 0 rfl) mL_J7_fill_53178) rfl rfl rfl (by decide +kernel) ⟨Nat.le_of_ble_eq_true rfl, Nat.le_of_ble_eq_true rfl⟩) hw hS hA hK hN rfl rfl hl.1 rfl (Nat.le_of_ble_eq_true rfl) dX2_clear_25 28 rfl (zset r4 185 (zfl (r4 185) (0 : Int32) 6)) q (fun _ => rfl) kset1x (fun _ H locs _ hw hS => ?_)
  refine zfr 28 [] rfl rfl ?_
  refine cmgen (P := fun x => kJ x) hw (pr4.fill rfl (fun _ => zI.top _)) (fun r5 er5 hw pr5 => ?_)
  have hE := zletE er5 hE
  refine lv_aload_n hx hb dX2_clear_28 rfl (lv_at hl 0 rfl) ?_
  refine va_get (D := D) (ci := 2) (v := .ref (y 192)) hx hb hts hiX2 hown hK hw.1 183 kg183 rfl 8 (by decide) lf40 (fun _ h9 => h9) rfl dX2_clear_29 ?_
  refine kcallV (As := []) (rest := []) ⟨hx, hb, hml, hown, hts⟩ (kc_untold l D ct E y r5 q pr5 hEi) (wqX2_57_kc_untold hts ⟨Nat.le_of_ble_eq_true rfl, Nat.le_of_ble_eq_true rfl⟩) hw hS hA hK hZ hN 4 192 rfl kg192 rfl hl.1 rfl (Nat.le_of_ble_eq_true rfl) dX2_clear_32 35 rfl (fun u6 H locs pu6 hw hS => ?_)
  have ju6 : kJ u6 := pu6.1
  have fu6 : zFr [192, 193] r5 u6 := pu6.2.1
  have xu6 : u6 = (Gk_untold r5 q) := pu6.2.2.1
  have hE := zletE xu6 hE
  have hw : zPD D A (kW ct E y u6 q) H := hw
  refine zfr 35 [] rfl rfl ?_
  exact zvretQ hQ hx hb hr hlocks u6 rfl ⟨ju6, (hE.symm.trans hX), trivial⟩ hw hS dX2_clear_35

set_option maxHeartbeats 4000000 in
set_option maxRecDepth 100000 in
theorem kc_kindHere (l : Launch) (D : va_G) (ct : Nat → ClassId) (E : Nat → Nat) (y : Nat → Nat) (r : zRr) (q : zRq) (hJ0 : kJ r) (hEi : kEi E) : cC l yX3_kindHere (.code yX3_kindHere cX3_kindHere 1 (some .int) :: wsL_law0) ({ frames := 1, cells := 0, slots := 0, locals := 80 }) D ct E [.ref (y 196)] (kW ct E y r q) (S := Int32) (fun u => some (.int u)) (fun u => zI (-1) 3 u ∧ u = (Gk_kindHere r q) ∧ True) (fun u => kW ct E y r q) := by
  refine cofQ cX3_kindHere 1 (some .int) (by decide) rfl (Nat.le_of_ble_eq_true rfl) ?_
  intro p e s m below meth c A a9 Q ha9 hx hb hr hml hts hown hlocks hname hK hA hZ hN hQ
  have hown : s.vm.findClass RX3 = some m.cls := hown
  have hiX9 : ∀ w ∈ wsX90, w ∈ .code yX3_kindHere cX3_kindHere 1 (some .int) :: wsL_law0 := fun _ h => ki (zs_wsX90 _ h)
  have lf31 := hts (.fieldLink RX3 31 "BeardPass$Tape" "sort" "LBeardPass$Sort;") (ki (zr10 15 rfl))
  have lf176 := hts (.fieldLink RX3 176 "BeardPass$Sort" "PLAIN" "LBeardPass$Sort;") (ki (zr17 11 rfl))
  have lf179 := hts (.fieldLink RX3 179 "BeardPass$Sort" "SMOOTH" "LBeardPass$Sort;") (ki (zr17 12 rfl))
  have lf182 := hts (.fieldLink RX3 182 "BeardPass$Sort" "BISHOP" "LBeardPass$Sort;") (ki (zr17 13 rfl))
  have lf185 := hts (.fieldLink RX3 185 "BeardPass$Sort" "GREY" "LBeardPass$Sort;") (ki (zr17 14 rfl))
  obtain ⟨X, hX⟩ : ∃ X, X = (Gk_kindHere r q) := ⟨_, rfl⟩
  intro H locs hw hS ls hl
  have hl : lv_has ls 1 [(0, .ref (y 196))] := hl
  have hE := hX
  unfold Gk_kindHere at hE
  refine lv_aload_n hx hb dX3_kindHere_0 rfl (lv_at hl 0 rfl) ?_
  refine va_get (D := D) (ci := 8) (v := .ref (E (zn (r 196 4)))) hx hb hts hiX9 hown hK hw.1 196 kg196 rfl 4 (by decide) lf31 (fun _ h9 => h9) rfl dX3_kindHere_1 (cgenSE (show zI 0 32 (r 196 4) from hJ0.i 196 4) (fun v1 ev1 hv1 => ?_))
  have hE := zletE ev1 hE
  refine cgets 14 (by decide) hx hb hZ hS hown lf176 dX3_kindHere_4 (ztop (.ref (E (zn 14))) rfl ?_)
  refine cxacmp_ne (a := v1) (b := (14 : Int32)) (tgt := 12) hEi hv1 ((zI.lit (a := 14) (b := 14) (c := 14) (by decide)).w (c := 0) (d := 32) (by decide)) hx hb dX3_kindHere_7 (by decide) (fun c2 => ?_) (fun c2 => ?_)
  · have hE := zifnT c2 hE
    refine lv_aload_n hx hb dX3_kindHere_12 rfl (lv_at hl 0 rfl) ?_
    refine va_get (D := D) (ci := 8) (v := .ref (E (zn (r 196 4)))) hx hb hts hiX9 hown hK hw.1 196 kg196 rfl 4 (by decide) lf31 (fun _ h9 => h9) rfl dX3_kindHere_13 (cgenSE (show zI 0 32 (r 196 4) from hJ0.i 196 4) (fun v3 ev3 hv3 => ?_))
    have hE := zletE ev3 hE
    refine cgets 15 (by decide) hx hb hZ hS hown lf179 dX3_kindHere_16 (ztop (.ref (E (zn 15))) rfl ?_)
    refine cxacmp_ne (a := v3) (b := (15 : Int32)) (tgt := 24) hEi hv3 ((zI.lit (a := 15) (b := 15) (c := 15) (by decide)).w (c := 0) (d := 32) (by decide)) hx hb dX3_kindHere_19 (by decide) (fun c4 => ?_) (fun c4 => ?_)
    · have hE := zifnT c4 hE
      refine lv_aload_n hx hb dX3_kindHere_24 rfl (lv_at hl 0 rfl) ?_
      refine va_get (D := D) (ci := 8) (v := .ref (E (zn (r 196 4)))) hx hb hts hiX9 hown hK hw.1 196 kg196 rfl 4 (by decide) lf31 (fun _ h9 => h9) rfl dX3_kindHere_25 (cgenSE (show zI 0 32 (r 196 4) from hJ0.i 196 4) (fun v5 ev5 hv5 => ?_))
      have hE := zletE ev5 hE
      refine cgets 16 (by decide) hx hb hZ hS hown lf182 dX3_kindHere_28 (ztop (.ref (E (zn 16))) rfl ?_)
      refine cxacmp_ne (a := v5) (b := (16 : Int32)) (tgt := 36) hEi hv5 ((zI.lit (a := 16) (b := 16) (c := 16) (by decide)).w (c := 0) (d := 32) (by decide)) hx hb dX3_kindHere_31 (by decide) (fun c6 => ?_) (fun c6 => ?_)
      · have hE := zifnT c6 hE
        refine lv_aload_n hx hb dX3_kindHere_36 rfl (lv_at hl 0 rfl) ?_
        refine va_get (D := D) (ci := 8) (v := .ref (E (zn (r 196 4)))) hx hb hts hiX9 hown hK hw.1 196 kg196 rfl 4 (by decide) lf31 (fun _ h9 => h9) rfl dX3_kindHere_37 (cgenSE (show zI 0 32 (r 196 4) from hJ0.i 196 4) (fun v7 ev7 hv7 => ?_))
        have hE := zletE ev7 hE
        refine cgets 17 (by decide) hx hb hZ hS hown lf185 dX3_kindHere_40 (ztop (.ref (E (zn 17))) rfl ?_)
        refine cxacmp_ne (a := v7) (b := (17 : Int32)) (tgt := 50) hEi hv7 ((zI.lit (a := 17) (b := 17) (c := 17) (by decide)).w (c := 0) (d := 32) (by decide)) hx hb dX3_kindHere_43 (by decide) (fun c8 => ?_) (fun c8 => ?_)
        · have hE := zifnT c8 hE
          refine lv_iconst (v := (-1)) hx hb dX3_kindHere_50 (by decide) ?_
          exact ziretQ hQ hx hb hr rfl hlocks ((-1) : Int32) rfl ⟨((zI.lit (a := (-1)) (b := (-1)) (c := (-1)) (by decide)).w (c := (-1)) (d := 3) (by decide)), (hE.symm.trans hX), trivial⟩ hw hS dX3_kindHere_51
        · have hE := zifnF c8 hE
          refine lv_iconst (v := 3) hx hb dX3_kindHere_46 (by decide) ?_
          refine lv_goto (tgt := 51) hx hb dX3_kindHere_47 (by decide) ?_
          exact ziretQ hQ hx hb hr rfl hlocks (3 : Int32) rfl ⟨((zI.lit (a := 3) (b := 3) (c := 3) (by decide)).w (c := (-1)) (d := 3) (by decide)), (hE.symm.trans hX), trivial⟩ hw hS dX3_kindHere_51
      · have hE := zifnF c6 hE
        refine lv_iconst (v := 2) hx hb dX3_kindHere_34 (by decide) ?_
        exact ziretQ hQ hx hb hr rfl hlocks (2 : Int32) rfl ⟨((zI.lit (a := 2) (b := 2) (c := 2) (by decide)).w (c := (-1)) (d := 3) (by decide)), (hE.symm.trans hX), trivial⟩ hw hS dX3_kindHere_35
    · have hE := zifnF c4 hE
      refine lv_iconst (v := 1) hx hb dX3_kindHere_22 (by decide) ?_
      exact ziretQ hQ hx hb hr rfl hlocks (1 : Int32) rfl ⟨((zI.lit (a := 1) (b := 1) (c := 1) (by decide)).w (c := (-1)) (d := 3) (by decide)), (hE.symm.trans hX), trivial⟩ hw hS dX3_kindHere_23
  · have hE := zifnF c2 hE
    refine lv_iconst (v := 0) hx hb dX3_kindHere_10 (by decide) ?_
    exact ziretQ hQ hx hb hr rfl hlocks (0 : Int32) rfl ⟨((zI.lit (a := 0) (b := 0) (c := 0) (by decide)).w (c := (-1)) (d := 3) (by decide)), (hE.symm.trans hX), trivial⟩ hw hS dX3_kindHere_11

set_option maxHeartbeats 4000000 in
set_option maxRecDepth 100000 in
theorem kc_isNewName (l : Launch) (D : va_G) (ct : Nat → ClassId) (E : Nat → Nat) (y : Nat → Nat) (r : zRr) (q : zRq) (hJ0 : kJ r) (hEi : kEi E) : cC l yX3_isNewName (.code yX3_isNewName cX3_isNewName 2 (some .boolean) :: wsL_law0) ({ frames := 2, cells := 0, slots := 0, locals := 120 }) D ct E [.ref (y 196), .ref (y 183)] (kW ct E y r q) (S := Int32 × zRr) (fun u => some (.int u.1)) (fun u => zI 0 1 u.1 ∧ kJ u.2 ∧ zFr [196] r u.2 ∧ u = (Gk_isNewName r q) ∧ True) (fun u => kW ct E y u.2 q) := by
  refine cofQ cX3_isNewName 2 (some .boolean) (by decide) rfl (Nat.le_of_ble_eq_true rfl) ?_
  intro p e s m below meth c A a9 Q ha9 hx hb hr hml hts hown hlocks hname hK hA hZ hN hQ
  have hown : s.vm.findClass RX3 = some m.cls := hown
  have hiX9 : ∀ w ∈ wsX90, w ∈ .code yX3_isNewName cX3_isNewName 2 (some .boolean) :: wsL_law0 := fun _ h => ki (zs_wsX90 _ h)
  have lf31 := hts (.fieldLink RX3 31 "BeardPass$Tape" "sort" "LBeardPass$Sort;") (ki (zr10 15 rfl))
  have lf122 := hts (.fieldLink RX3 122 "BeardPass$Tape" "word" "J") (ki (zr15 7 rfl))
  have lf188 := hts (.fieldLink RX3 188 "BeardPass$Sort" "NAME" "LBeardPass$Sort;") (ki (zr15 18 rfl))
  obtain ⟨X, hX⟩ : ∃ X, X = (Gk_isNewName r q) := ⟨_, rfl⟩
  have cut40 : ∀ (hE : X = Gk_isNewName_40 r q ), zKf p l e ({ frames := 2, cells := 0, slots := 0, locals := 120 }) s m a9 below meth c Q D A 40 2 [] (kW ct E y r q) [(0, .ref (y 196))] := by
    intro hE H locs ls hw hS hl
    unfold Gk_isNewName_40 at hE
    refine lv_aload_n hx hb dX3_isNewName_40 rfl (lv_at hl 0 rfl) ?_
    refine lv_iconst (v := 3) hx hb dX3_isNewName_41 (by decide) ?_
    refine kcallV (As := [.int 3]) (rest := []) ⟨hx, hb, hml, hown, hts⟩ (kc_wrong l D ct E y (3 : Int32) r q hJ0 hEi) (wqX3_105_kc_wrong hts ⟨Nat.le_of_ble_eq_true rfl, Nat.le_of_ble_eq_true rfl⟩) hw hS hA hK hZ hN 8 196 rfl kg196 rfl hl.1 rfl (Nat.le_of_ble_eq_true rfl) dX3_isNewName_42 45 rfl (fun u1 H locs pu1 hw hS => ?_)
    obtain ⟨v2, r3⟩ := u1
    have hv2 : zI 0 0 v2 := pu1.1
    have ju1 : kJ r3 := pu1.2.1
    have fu1 : zFr [196] r r3 := pu1.2.2.1
    have xu1 : (v2, r3) = (Gk_wrong (3 : Int32) r q) := pu1.2.2.2.1
    have hE := zc_vrE xu1 hE
    have hw : zPD D A (kW ct E y r3 q) H := hw
    refine zfr 45 [.int v2] rfl rfl ?_
    exact ziretQ hQ hx hb hr ((hv2.w (c := 0) (d := 1) (by decide)).rn) hlocks (v2, r3) rfl ⟨(hv2.w (c := 0) (d := 1) (by decide)), ju1, ((zFr.refl).tr fu1 rfl), (hE.symm.trans hX), trivial⟩ hw hS dX3_isNewName_45
  intro H locs hw hS ls hl
  have hl : lv_has ls 2 [(0, .ref (y 196)), (1, .ref (y 183))] := hl
  have hE := hX
  unfold Gk_isNewName at hE
  refine lv_aload_n hx hb dX3_isNewName_0 rfl (lv_at hl 0 rfl) ?_
  refine va_get (D := D) (ci := 8) (v := .ref (E (zn (r 196 4)))) hx hb hts hiX9 hown hK hw.1 196 kg196 rfl 4 (by decide) lf31 (fun _ h9 => h9) rfl dX3_isNewName_1 (cgenSE (show zI 0 32 (r 196 4) from hJ0.i 196 4) (fun v4 ev4 hv4 => ?_))
  have hE := zletE ev4 hE
  refine cgets 29 (by decide) hx hb hZ hS hown lf188 dX3_isNewName_4 (ztop (.ref (E (zn 29))) rfl ?_)
  refine cxacmp_eq (a := v4) (b := (29 : Int32)) (tgt := 16) hEi hv4 ((zI.lit (a := 29) (b := 29) (c := 29) (by decide)).w (c := 0) (d := 32) (by decide)) hx hb dX3_isNewName_7 (by decide) (fun c5 => ?_) (fun c5 => ?_)
  · have hE := zifT c5 hE
    refine lv_aload_n hx hb dX3_isNewName_16 rfl (lv_at hl 1 rfl) ?_
    refine lv_aload_n hx hb dX3_isNewName_17 rfl (lv_at hl 0 rfl) ?_
    refine va_get (D := D) (ci := 8) (v := .long (q 196 6)) hx hb hts hiX9 hown hK hw.1 196 kg196 rfl 6 (by decide) lf122 (fun _ h9 => h9) rfl dX3_isNewName_18 (zgenLE (fun v6 ev6 => ?_))
    have hE := zletE ev6 hE
    refine kcallV (As := [.long v6]) (rest := []) ⟨hx, hb, hml, hown, hts⟩ (kc_townNamedD l D ct E y v6 r q hJ0 hEi) (wqX3_191_kc_townNamedD hts ⟨Nat.le_of_ble_eq_true rfl, Nat.le_of_ble_eq_true rfl⟩) hw hS hA hK hZ hN 2 183 rfl kg183 rfl hl.1 rfl (Nat.le_of_ble_eq_true rfl) dX3_isNewName_21 24 rfl (fun u7 H locs pu7 hw hS => ?_)
    have hu7 : zI (-1) 5 u7 := pu7.1
    have xu7 : u7 = (Gk_townNamedD v6 r q) := pu7.2.1
    have hE := zletE xu7 hE
    have hw : zPD D A (kW ct E y r q) H := hw
    refine zfr 24 [.int u7] rfl rfl ?_
    refine lv_iconst (v := (-1)) hx hb dX3_isNewName_24 (by decide) ?_
    refine lv_icmp_ne (tgt := 40) hx hb dX3_isNewName_25 (by decide) (fun c9 => ?_) (fun c9 => ?_)
    · have hE := zifnT c9 hE
      have k10 : zI 0 5 (u7) := zI.neD c9 hu7 (zI.lit (a := (-1)) (b := (-1)) (c := (-1)) (by decide)) (by decide)
      exact cut40 hE H locs ls hw hS (lv_sub hl [0] rfl)
    · have hE := zifnF c9 hE
      have k11 : zI (-1) (-1) (u7) := zI.eqq c9 (zI.lit (a := (-1)) (b := (-1)) (c := (-1)) (by decide))
      refine lv_aload_n hx hb dX3_isNewName_28 rfl (lv_at hl 1 rfl) ?_
      refine lv_aload_n hx hb dX3_isNewName_29 rfl (lv_at hl 0 rfl) ?_
      refine va_get (D := D) (ci := 8) (v := .long (q 196 6)) hx hb hts hiX9 hown hK hw.1 196 kg196 rfl 6 (by decide) lf122 (fun _ h9 => h9) rfl dX3_isNewName_30 (zgenLE (fun v12 ev12 => ?_))
      have hE := zletE ev12 hE
      refine kcallV (As := [.long v12]) (rest := []) ⟨hx, hb, hml, hown, hts⟩ (kc_personNamedD l D ct E y v12 r q hJ0 hEi) (wqX3_195_kc_personNamedD hts ⟨Nat.le_of_ble_eq_true rfl, Nat.le_of_ble_eq_true rfl⟩) hw hS hA hK hZ hN 2 183 rfl kg183 rfl hl.1 rfl (Nat.le_of_ble_eq_true rfl) dX3_isNewName_33 36 rfl (fun u13 H locs pu13 hw hS => ?_)
      have hu13 : zI (-1) 5 u13 := pu13.1
      have xu13 : u13 = (Gk_personNamedD v12 r q) := pu13.2.1
      have hE := zletE xu13 hE
      have hw : zPD D A (kW ct E y r q) H := hw
      refine zfr 36 [.int u13] rfl rfl ?_
      refine lv_iconst (v := (-1)) hx hb dX3_isNewName_36 (by decide) ?_
      refine lv_icmp_eq (tgt := 46) hx hb dX3_isNewName_37 (by decide) (fun c15 => ?_) (fun c15 => ?_)
      · have hE := zifT c15 hE
        have k16 : zI (-1) (-1) (u13) := zI.eqq c15 (zI.lit (a := (-1)) (b := (-1)) (c := (-1)) (by decide))
        refine lv_iconst (v := 1) hx hb dX3_isNewName_46 (by decide) ?_
        exact ziretQ hQ hx hb hr rfl hlocks ((1 : Int32), r) rfl ⟨((zI.lit (a := 1) (b := 1) (c := 1) (by decide)).w (c := 0) (d := 1) (by decide)), hJ0, (zFr.refl), (hE.symm.trans hX), trivial⟩ hw hS dX3_isNewName_47
      · have hE := zifF c15 hE
        have k17 : zI 0 5 (u13) := zI.neD c15 hu13 (zI.lit (a := (-1)) (b := (-1)) (c := (-1)) (by decide)) (by decide)
        exact cut40 hE H locs ls hw hS (lv_sub hl [0] rfl)
  · have hE := zifF c5 hE
    refine lv_aload_n hx hb dX3_isNewName_10 rfl (lv_at hl 0 rfl) ?_
    refine lv_iconst (v := 1) hx hb dX3_isNewName_11 (by decide) ?_
    refine kcallV (As := [.int 1]) (rest := []) ⟨hx, hb, hml, hown, hts⟩ (kc_wrong l D ct E y (1 : Int32) r q hJ0 hEi) (wqX3_105_kc_wrong hts ⟨Nat.le_of_ble_eq_true rfl, Nat.le_of_ble_eq_true rfl⟩) hw hS hA hK hZ hN 8 196 rfl kg196 rfl hl.1 rfl (Nat.le_of_ble_eq_true rfl) dX3_isNewName_12 15 rfl (fun u18 H locs pu18 hw hS => ?_)
    obtain ⟨v19, r20⟩ := u18
    have hv19 : zI 0 0 v19 := pu18.1
    have ju18 : kJ r20 := pu18.2.1
    have fu18 : zFr [196] r r20 := pu18.2.2.1
    have xu18 : (v19, r20) = (Gk_wrong (1 : Int32) r q) := pu18.2.2.2.1
    have hE := zc_vrE xu18 hE
    have hw : zPD D A (kW ct E y r20 q) H := hw
    refine zfr 15 [.int v19] rfl rfl ?_
    exact ziretQ hQ hx hb hr ((hv19.w (c := 0) (d := 1) (by decide)).rn) hlocks (v19, r20) rfl ⟨(hv19.w (c := 0) (d := 1) (by decide)), ju18, ((zFr.refl).tr fu18 rfl), (hE.symm.trans hX), trivial⟩ hw hS dX3_isNewName_15

set_option maxHeartbeats 4000000 in
set_option maxRecDepth 100000 in
theorem kc_readTown (l : Launch) (D : va_G) (ct : Nat → ClassId) (E : Nat → Nat) (y : Nat → Nat) (r : zRr) (q : zRq) (hJ0 : kJ r) (hEi : kEi E) : cC l yX3_readTown (.code yX3_readTown cX3_readTown 4 (some .boolean) :: wsL_law0) ({ frames := 9, cells := 0, slots := 0, locals := 400 }) D ct E [.ref (y 198), .ref (y 196), .ref (y 183)] (kW ct E y r q) (S := Int32 × zRr × zRq) (fun u => some (.int u.1)) (fun u => zI 0 1 u.1 ∧ kJ u.2.1 ∧ u = (Gk_readTown r q) ∧ True) (fun u => kW ct E y u.2.1 u.2.2) := by
  refine cofQ cX3_readTown 4 (some .boolean) (by decide) rfl (Nat.le_of_ble_eq_true rfl) ?_
  intro p e s m below meth c A a9 Q ha9 hx hb hr hml hts hown hlocks hname hK hA hZ hN hQ
  have hown : s.vm.findClass RX3 = some m.cls := hown
  have hiX2 : ∀ w ∈ wsX20, w ∈ .code yX3_readTown cX3_readTown 4 (some .boolean) :: wsL_law0 := fun _ h => ki (zs_wsX20 _ h)
  have hiX9 : ∀ w ∈ wsX90, w ∈ .code yX3_readTown cX3_readTown 4 (some .boolean) :: wsL_law0 := fun _ h => ki (zs_wsX90 _ h)
  have lf109 := hts (.fieldLink RX3 109 "BeardPass$Land" "towns" "I") (ki (zr15 5 rfl))
  have lf118 := hts (.fieldLink RX3 118 "BeardPass$Land" "townNames" "[J") (ki (zr15 6 rfl))
  have lf122 := hts (.fieldLink RX3 122 "BeardPass$Tape" "word" "J") (ki (zr15 7 rfl))
  have lf126 := hts (.fieldLink RX3 126 "BeardPass$Sort" "ASKS" "LBeardPass$Sort;") (ki (zr15 8 rfl))
  have lf129 := hts (.fieldLink RX3 129 "BeardPass$Land" "asks" "[I") (ki (zr15 9 rfl))
  obtain ⟨X, hX⟩ : ∃ X, X = (Gk_readTown r q) := ⟨_, rfl⟩
  intro H locs hw hS ls hl
  have hl : lv_has ls 4 [(0, .ref (y 198)), (1, .ref (y 196)), (2, .ref (y 183))] := hl
  have hE := hX
  unfold Gk_readTown at hE
  refine lv_aload_n hx hb dX3_readTown_0 rfl (lv_at hl 2 rfl) ?_
  refine va_get (D := D) (ci := 2) (v := .int (r 183 9)) hx hb hts hiX2 hown hK hw.1 183 kg183 rfl 9 (by decide) lf109 (fun _ h9 => h9) rfl dX3_readTown_1 ?_
  refine lv_istore_n (lv' := [(3, .int (r 183 9)), (0, .ref (y 198)), (1, .ref (y 196)), (2, .ref (y 183))]) hx hb dX3_readTown_4 rfl hl (by decide) rfl (fun ls hl => ?_)
  refine lv_iload_n hx hb dX3_readTown_5 rfl (lv_at hl 0 rfl) ?_
  refine lv_bipush (v := 6) hx hb dX3_readTown_6 (by decide) ?_
  refine lv_icmp_lt (tgt := 17) hx hb dX3_readTown_8 (by decide) (fun c1 => ?_) (fun c1 => ?_)
  · have hE := zifT c1 hE
    have k2 : zI 0 5 (r 183 9) := zI.ltU c1 (show zI 0 6 (r 183 9) from hJ0.i 183 9) (zI.lit (a := 6) (b := 6) (c := 6) (by decide)) (by decide)
    refine lv_aload_n hx hb dX3_readTown_17 rfl (lv_at hl 2 rfl) ?_
    refine kcallV (As := []) (rest := []) ⟨hx, hb, hml, hown, hts⟩ (kc_step l D ct E y r q hJ0 hEi) (wqX3_112_kc_step hts ⟨Nat.le_of_ble_eq_true rfl, Nat.le_of_ble_eq_true rfl⟩) hw hS hA hK hZ hN 8 196 rfl kg196 rfl hl.1 rfl (Nat.le_of_ble_eq_true rfl) dX3_readTown_18 21 rfl (fun u3 H locs pu3 hw hS => ?_)
    obtain ⟨r4, q5⟩ := u3
    have ju3 : kJ r4 := pu3.1
    have fu3 : zFr [196] r r4 := pu3.2.1
    have xu3 : (r4, q5) = (Gk_step r q) := pu3.2.2.1
    have hE := zc_rqE xu3 hE
    have hw : zPD D A (kW ct E y r4 q5) H := hw
    refine zfr 21 [] rfl rfl ?_
    refine lv_aload_n hx hb dX3_readTown_21 rfl (lv_at hl 2 rfl) ?_
    refine lv_aload_n hx hb dX3_readTown_22 rfl (lv_at hl 3 rfl) ?_
    refine zcallW (va_runS (As := [.ref (y 196), .ref (y 183)]) (rest := []) ⟨hx, hb, hml, hown, hts⟩ (kc_isNewName l D ct E y r4 q5 ju3 hEi H.size) (va_cwS 2 hts (kgS (zr15 15 rfl) (zr15 16 rfl) (zr2 1 rfl) (zr15 17 rfl)) rfl rfl rfl (by decide +kernel) ⟨Nat.le_of_ble_eq_true rfl, Nat.le_of_ble_eq_true rfl⟩) (cpreS hK hw hS hA hZ hN (List.range (kW ct E y r4 q5).length) kWn (zrange _)) rfl rfl hl.1 rfl (lv_room (Nat.le_of_ble_eq_true rfl)) dX3_readTown_23 ⟨Nat.le_of_ble_eq_true rfl, Nat.le_of_ble_eq_true rfl⟩) hw hS hA 26 rfl (fun u6 H locs pu6 hw hS => ?_)
    obtain ⟨v7, r8⟩ := u6
    have hv7 : zI 0 1 v7 := pu6.1
    have ju6 : kJ r8 := pu6.2.1
    have fu6 : zFr [196] r4 r8 := pu6.2.2.1
    have xu6 : (v7, r8) = (Gk_isNewName r4 q5) := pu6.2.2.2.1
    have hE := zc_vrE xu6 hE
    have hw : zPD D A (kW ct E y r8 q5) H := hw
    refine zfr 26 [.int v7] rfl rfl ?_
    refine lv_if_ne (tgt := 31) hx hb dX3_readTown_26 (by decide) (fun c9 => ?_) (fun c9 => ?_)
    · have hE := zifnT c9 hE
      have k10 : zI 1 1 (v7) := zI.neD c9 hv7 (zI.lit (a := 0) (b := 0) (c := 0) (by decide)) (by decide)
      refine lv_aload_n hx hb dX3_readTown_31 rfl (lv_at hl 3 rfl) ?_
      refine va_get (D := D) (ci := 2) (v := .ref (y 186)) hx hb hts hiX2 hown hK hw.1 183 kg183 rfl 2 (by decide) lf118 (fun _ h9 => h9) rfl dX3_readTown_32 ?_
      refine lv_iload_n hx hb dX3_readTown_35 rfl (lv_at hl 0 rfl) ?_
      refine lv_aload_n hx hb dX3_readTown_36 rfl (lv_at hl 2 rfl) ?_
      refine va_get (D := D) (ci := 8) (v := .long (q5 196 6)) hx hb hts hiX9 hown hK hw.1 196 kg196 rfl 6 (by decide) lf122 (fun _ h9 => h9) rfl dX3_readTown_37 (zgenLE (fun v11 ev11 => ?_))
      have hE := zletE ev11 hE
      refine mlast hx hb hK hw hS 186 kg186 k2 (by decide) dX3_readTown_40 (kW ct E y r8 (zset q5 186 (vp_updL (q5 186) (zn (r 183 9)) v11))) ks186 (fun H locs hw hS => ?_)
      refine cqgen hw (fun q12 eq12 hw => ?_)
      have hE := zletE eq12 hE
      refine lv_aload_n hx hb dX3_readTown_41 rfl (lv_at hl 2 rfl) ?_
      refine kcallV (As := []) (rest := []) ⟨hx, hb, hml, hown, hts⟩ (kc_step l D ct E y r8 q12 ju6 hEi) (wqX3_112_kc_step hts ⟨Nat.le_of_ble_eq_true rfl, Nat.le_of_ble_eq_true rfl⟩) hw hS hA hK hZ hN 8 196 rfl kg196 rfl hl.1 rfl (Nat.le_of_ble_eq_true rfl) dX3_readTown_42 45 rfl (fun u13 H locs pu13 hw hS => ?_)
      obtain ⟨r14, q15⟩ := u13
      have ju13 : kJ r14 := pu13.1
      have fu13 : zFr [196] r8 r14 := pu13.2.1
      have xu13 : (r14, q15) = (Gk_step r8 q12) := pu13.2.2.1
      have hE := zc_rqE xu13 hE
      have hw : zPD D A (kW ct E y r14 q15) H := hw
      refine zfr 45 [] rfl rfl ?_
      refine lv_aload_n hx hb dX3_readTown_45 rfl (lv_at hl 2 rfl) ?_
      refine cgets 1 (by decide) hx hb hZ hS hown lf126 dX3_readTown_46 (ztop (.ref (E (zn 1))) rfl ?_)
      refine kcallV (As := [.ref (E (zn 1))]) (rest := []) ⟨hx, hb, hml, hown, hts⟩ (kc_take l D ct E y 1 r14 q15 ((zI.lit (a := 1) (b := 1) (c := 1) (by decide)).w (c := 0) (d := 32) (by decide)) ju13 hEi) (wqX3_47_kc_take hts ⟨Nat.le_of_ble_eq_true rfl, Nat.le_of_ble_eq_true rfl⟩) hw hS hA hK hZ hN 8 196 rfl kg196 rfl hl.1 rfl (Nat.le_of_ble_eq_true rfl) dX3_readTown_49 52 rfl (fun u16 H locs pu16 hw hS => ?_)
      obtain ⟨v17, r18, q19⟩ := u16
      have hv17 : zI 0 1 v17 := pu16.1
      have ju16 : kJ r18 := pu16.2.1
      have fu16 : zFr [196] r14 r18 := pu16.2.2.1
      have xu16 : (v17, r18, q19) = (Gk_take 1 r14 q15) := pu16.2.2.2.1
      have hE := zc_vrqE xu16 hE
      have hw : zPD D A (kW ct E y r18 q19) H := hw
      refine zfr 52 [.int v17] rfl rfl ?_
      refine lv_if_ne (tgt := 57) hx hb dX3_readTown_52 (by decide) (fun c20 => ?_) (fun c20 => ?_)
      · have hE := zifnT c20 hE
        have k21 : zI 1 1 (v17) := zI.neD c20 hv17 (zI.lit (a := 0) (b := 0) (c := 0) (by decide)) (by decide)
        refine lv_aload_n hx hb dX3_readTown_57 rfl (lv_at hl 3 rfl) ?_
        refine va_get (D := D) (ci := 2) (v := .ref (y 184)) hx hb hts hiX2 hown hK hw.1 183 kg183 rfl 0 (by decide) lf129 (fun _ h9 => h9) rfl dX3_readTown_58 ?_
        refine lv_iload_n hx hb dX3_readTown_61 rfl (lv_at hl 0 rfl) ?_
        refine lv_aload_n hx hb dX3_readTown_62 rfl (lv_at hl 2 rfl) ?_
        refine lv_iconst (v := 0) hx hb dX3_readTown_63 (by decide) ?_
        refine lv_bipush (v := 30) hx hb dX3_readTown_64 (by decide) ?_
        refine kcallV (As := [.int 0, .int 30]) (rest := [.int (r 183 9), .ref (y 184)]) ⟨hx, hb, hml, hown, hts⟩ (kc_takeNumber l D ct E y (0 : Int32) (30 : Int32) r18 q19 ju16 hEi) (wqX3_133_kc_takeNumber hts ⟨Nat.le_of_ble_eq_true rfl, Nat.le_of_ble_eq_true rfl⟩) hw hS hA hK hZ hN 8 196 rfl kg196 rfl hl.1 rfl (Nat.le_of_ble_eq_true rfl) dX3_readTown_66 69 rfl (fun u22 H locs pu22 hw hS => ?_)
        obtain ⟨v23, r24, q25⟩ := u22
        have hv23 : zI (-2147483648) 2147483647 v23 := pu22.1
        have ju22 : kJ r24 := pu22.2.1
        have fu22 : zFr [196] r18 r24 := pu22.2.2.1
        have xu22 : (v23, r24, q25) = (Gk_takeNumber (0 : Int32) (30 : Int32) r18 q19) := pu22.2.2.2.1
        have hE := zc_vrqE xu22 hE
        have hw : zPD D A (kW ct E y r24 q25) H := hw
        refine zfr 69 [.int v23, .int (r 183 9), .ref (y 184)] rfl rfl ?_
        refine miast hx hb hK hw hS 184 kg184 k2 (by decide) dX3_readTown_69 (kW ct E y (zset r24 184 (upd (r24 184) (zn (r 183 9)) v23)) q25) ks184 (fun H locs hw hS => ?_)
        refine cmgen (P := fun x => kJ x) hw (ju22.set rfl (zI.top _)) (fun r26 er26 hw pr26 => ?_)
        have hE := zletE er26 hE
        refine lv_aload_n hx hb dX3_readTown_70 rfl (lv_at hl 3 rfl) ?_
        refine lv_dup hx hb dX3_readTown_71 rfl ?_
        refine va_get (D := D) (ci := 2) (v := .int (r26 183 9)) hx hb hts hiX2 hown hK hw.1 183 kg183 rfl 9 (by decide) lf109 (fun _ h9 => h9) rfl dX3_readTown_72 ?_
        refine lv_iconst (v := 1) hx hb dX3_readTown_75 (by decide) ?_
        refine lv_iadd hx hb dX3_readTown_76 ?_
        have k27 : zI 1 6 ((r26 183 9) + 1) := zI.add (zs_at er26 (fu22.at (fu16.at (fu13.at (fu6.at (fu3.at k2 rfl) rfl) rfl) rfl) rfl) (by decide)) (zI.lit (a := 1) (b := 1) (c := 1) (by decide)) (by decide)
        refine zput (D := D) (ci := 2) (v := .int ((r26 183 9) + 1)) (ty := .int) hx hb hts hiX2 tyX2 tyX2_ok nmX2 hown hK hw hS 183 kg183 rfl 9 (by decide) lf109 (fun _ h9 => h9) rfl (by decide +kernel) rfl rfl (Nat.le_of_ble_eq_true rfl) dX3_readTown_77 (kW ct E y (zset r26 183 (upd (r26 183) 9 ((r26 183 9) + 1))) q25) ks183_9 (fun H locs hw hS => ?_)
        refine cmgen (P := fun x => kJ x) hw (pr26.setl (by decide) (by decide) (k27.w (c := 0) (d := 6) (by decide))) (fun r28 er28 hw pr28 => ?_)
        have hE := zletE er28 hE
        refine lv_aload_n hx hb dX3_readTown_80 rfl (lv_at hl 3 rfl) ?_
        refine va_get (D := D) (ci := 2) (v := .ref (y 184)) hx hb hts hiX2 hown hK hw.1 183 kg183 rfl 0 (by decide) lf129 (fun _ h9 => h9) rfl dX3_readTown_81 ?_
        refine lv_iload_n hx hb dX3_readTown_84 rfl (lv_at hl 0 rfl) ?_
        refine miald hx hb hK hw 184 kg184 k2 (by decide) dX3_readTown_85 (zgenE (zI.top _) (fun v29 ev29 _ => ?_))
        have hE := zletE ev29 hE
        refine lv_iconst (v := (-1)) hx hb dX3_readTown_86 (by decide) ?_
        refine lv_icmp_eq (tgt := 94) hx hb dX3_readTown_87 (by decide) (fun c30 => ?_) (fun c30 => ?_)
        · have hE := zifT c30 hE
          have k31 : zI (-1) (-1) (v29) := zI.eqq c30 (zI.lit (a := (-1)) (b := (-1)) (c := (-1)) (by decide))
          refine lv_iconst (v := 0) hx hb dX3_readTown_94 (by decide) ?_
          exact ziretQ hQ hx hb hr rfl hlocks ((0 : Int32), r28, q25) rfl ⟨((zI.lit (a := 0) (b := 0) (c := 0) (by decide)).w (c := 0) (d := 1) (by decide)), pr28, (hE.symm.trans hX), trivial⟩ hw hS dX3_readTown_95
        · have hE := zifF c30 hE
          refine lv_iconst (v := 1) hx hb dX3_readTown_90 (by decide) ?_
          refine lv_goto (tgt := 95) hx hb dX3_readTown_91 (by decide) ?_
          exact ziretQ hQ hx hb hr rfl hlocks ((1 : Int32), r28, q25) rfl ⟨((zI.lit (a := 1) (b := 1) (c := 1) (by decide)).w (c := 0) (d := 1) (by decide)), pr28, (hE.symm.trans hX), trivial⟩ hw hS dX3_readTown_95
      · have hE := zifnF c20 hE
        have k32 : zI 0 0 (v17) := zI.eqq c20 (zI.lit (a := 0) (b := 0) (c := 0) (by decide))
        refine lv_iconst (v := 0) hx hb dX3_readTown_55 (by decide) ?_
        exact ziretQ hQ hx hb hr rfl hlocks ((0 : Int32), r18, q19) rfl ⟨((zI.lit (a := 0) (b := 0) (c := 0) (by decide)).w (c := 0) (d := 1) (by decide)), ju16, (hE.symm.trans hX), trivial⟩ hw hS dX3_readTown_56
    · have hE := zifnF c9 hE
      have k33 : zI 0 0 (v7) := zI.eqq c9 (zI.lit (a := 0) (b := 0) (c := 0) (by decide))
      refine lv_iconst (v := 0) hx hb dX3_readTown_29 (by decide) ?_
      exact ziretQ hQ hx hb hr rfl hlocks ((0 : Int32), r8, q5) rfl ⟨((zI.lit (a := 0) (b := 0) (c := 0) (by decide)).w (c := 0) (d := 1) (by decide)), ju6, (hE.symm.trans hX), trivial⟩ hw hS dX3_readTown_30
  · have hE := zifF c1 hE
    have k34 : zI 6 6 (r 183 9) := zI.leD (zI.nlt c1) (zI.lit (a := 6) (b := 6) (c := 6) (by decide)) (show zI 0 6 (r 183 9) from hJ0.i 183 9) (by decide)
    refine lv_aload_n hx hb dX3_readTown_11 rfl (lv_at hl 2 rfl) ?_
    refine lv_iconst (v := 5) hx hb dX3_readTown_12 (by decide) ?_
    refine kcallV (As := [.int 5]) (rest := []) ⟨hx, hb, hml, hown, hts⟩ (kc_wrong l D ct E y (5 : Int32) r q hJ0 hEi) (wqX3_105_kc_wrong hts ⟨Nat.le_of_ble_eq_true rfl, Nat.le_of_ble_eq_true rfl⟩) hw hS hA hK hZ hN 8 196 rfl kg196 rfl hl.1 rfl (Nat.le_of_ble_eq_true rfl) dX3_readTown_13 16 rfl (fun u35 H locs pu35 hw hS => ?_)
    obtain ⟨v36, r37⟩ := u35
    have hv36 : zI 0 0 v36 := pu35.1
    have ju35 : kJ r37 := pu35.2.1
    have fu35 : zFr [196] r r37 := pu35.2.2.1
    have xu35 : (v36, r37) = (Gk_wrong (5 : Int32) r q) := pu35.2.2.2.1
    have hE := zc_vrE xu35 hE
    have hw : zPD D A (kW ct E y r37 q) H := hw
    refine zfr 16 [.int v36] rfl rfl ?_
    exact ziretQ hQ hx hb hr ((hv36.w (c := 0) (d := 1) (by decide)).rn) hlocks (v36, r37, q) rfl ⟨(hv36.w (c := 0) (d := 1) (by decide)), ju35, (hE.symm.trans hX), trivial⟩ hw hS dX3_readTown_16

set_option maxHeartbeats 4000000 in
set_option maxRecDepth 100000 in
theorem kc_readRoad (l : Launch) (D : va_G) (ct : Nat → ClassId) (E : Nat → Nat) (y : Nat → Nat) (r : zRr) (q : zRq) (hJ0 : kJ r) (hEi : kEi E) : cC l yX3_readRoad (.code yX3_readRoad cX3_readRoad 5 (some .boolean) :: wsL_law0) ({ frames := 8, cells := 0, slots := 0, locals := 360 }) D ct E [.ref (y 198), .ref (y 196), .ref (y 183)] (kW ct E y r q) (S := Int32 × zRr × zRq) (fun u => some (.int u.1)) (fun u => zI 0 1 u.1 ∧ kJ u.2.1 ∧ u = (Gk_readRoad r q) ∧ True) (fun u => kW ct E y u.2.1 u.2.2) := by
  refine cofQ cX3_readRoad 5 (some .boolean) (by decide) rfl (Nat.le_of_ble_eq_true rfl) ?_
  intro p e s m below meth c A a9 Q ha9 hx hb hr hml hts hown hlocks hname hK hA hZ hN hQ
  have hown : s.vm.findClass RX3 = some m.cls := hown
  have hiX2 : ∀ w ∈ wsX20, w ∈ .code yX3_readRoad cX3_readRoad 5 (some .boolean) :: wsL_law0 := fun _ h => ki (zs_wsX20 _ h)
  have lf141 := hts (.fieldLink RX3 141 "BeardPass$Land" "roads" "[I") (ki (zr16 16 rfl))
  obtain ⟨X, hX⟩ : ∃ X, X = (Gk_readRoad r q) := ⟨_, rfl⟩
  have cut56 : ∀ (rw56 : zRr) (qw56 : zRq) (jw56 : kJ rw56) (hE : X = Gk_readRoad_56 rw56 qw56), zKf p l e ({ frames := 8, cells := 0, slots := 0, locals := 360 }) s m a9 below meth c Q D A 56 5 [] (kW ct E y rw56 qw56) [(1, .ref (y 196))] := by
    intro rw56 qw56 jw56 hE H locs ls hw hS hl
    unfold Gk_readRoad_56 at hE
    refine lv_aload_n hx hb dX3_readRoad_56 rfl (lv_at hl 0 rfl) ?_
    refine lv_iconst (v := 3) hx hb dX3_readRoad_57 (by decide) ?_
    refine kcallV (As := [.int 3]) (rest := []) ⟨hx, hb, hml, hown, hts⟩ (kc_wrong l D ct E y (3 : Int32) rw56 qw56 jw56 hEi) (wqX3_105_kc_wrong hts ⟨Nat.le_of_ble_eq_true rfl, Nat.le_of_ble_eq_true rfl⟩) hw hS hA hK hZ hN 8 196 rfl kg196 rfl hl.1 rfl (Nat.le_of_ble_eq_true rfl) dX3_readRoad_58 61 rfl (fun u1 H locs pu1 hw hS => ?_)
    obtain ⟨v2, r3⟩ := u1
    have hv2 : zI 0 0 v2 := pu1.1
    have ju1 : kJ r3 := pu1.2.1
    have fu1 : zFr [196] rw56 r3 := pu1.2.2.1
    have xu1 : (v2, r3) = (Gk_wrong (3 : Int32) rw56 qw56) := pu1.2.2.2.1
    have hE := zc_vrE xu1 hE
    have hw : zPD D A (kW ct E y r3 qw56) H := hw
    refine zfr 61 [.int v2] rfl rfl ?_
    exact ziretQ hQ hx hb hr ((hv2.w (c := 0) (d := 1) (by decide)).rn) hlocks (v2, r3, qw56) rfl ⟨(hv2.w (c := 0) (d := 1) (by decide)), ju1, (hE.symm.trans hX), trivial⟩ hw hS dX3_readRoad_61
  intro H locs hw hS ls hl
  have hl : lv_has ls 5 [(0, .ref (y 198)), (1, .ref (y 196)), (2, .ref (y 183))] := hl
  have hE := hX
  unfold Gk_readRoad at hE
  refine lv_aload_n hx hb dX3_readRoad_0 rfl (lv_at hl 1 rfl) ?_
  refine kcallV (As := []) (rest := []) ⟨hx, hb, hml, hown, hts⟩ (kc_step l D ct E y r q hJ0 hEi) (wqX3_112_kc_step hts ⟨Nat.le_of_ble_eq_true rfl, Nat.le_of_ble_eq_true rfl⟩) hw hS hA hK hZ hN 8 196 rfl kg196 rfl hl.1 rfl (Nat.le_of_ble_eq_true rfl) dX3_readRoad_1 4 rfl (fun u4 H locs pu4 hw hS => ?_)
  obtain ⟨r5, q6⟩ := u4
  have ju4 : kJ r5 := pu4.1
  have fu4 : zFr [196] r r5 := pu4.2.1
  have xu4 : (r5, q6) = (Gk_step r q) := pu4.2.2.1
  have hE := zc_rqE xu4 hE
  have hw : zPD D A (kW ct E y r5 q6) H := hw
  refine zfr 4 [] rfl rfl ?_
  refine lv_aload_n hx hb dX3_readRoad_4 rfl (lv_at hl 1 rfl) ?_
  refine lv_aload_n hx hb dX3_readRoad_5 rfl (lv_at hl 2 rfl) ?_
  refine kcallV (As := [.ref (y 183)]) (rest := []) ⟨hx, hb, hml, hown, hts⟩ (kc_townHereD l D ct E y r5 q6 ju4 hEi) (wqX3_137_kc_townHereD hts ⟨Nat.le_of_ble_eq_true rfl, Nat.le_of_ble_eq_true rfl⟩) hw hS hA hK hZ hN 8 196 rfl kg196 rfl hl.1 rfl (Nat.le_of_ble_eq_true rfl) dX3_readRoad_6 9 rfl (fun u7 H locs pu7 hw hS => ?_)
  obtain ⟨v8, r9⟩ := u7
  have hv8 : zI (-1) 5 v8 := pu7.1
  have ju7 : kJ r9 := pu7.2.1
  have fu7 : zFr [196] r5 r9 := pu7.2.2.1
  have xu7 : (v8, r9) = (Gk_townHereD r5 q6) := pu7.2.2.2.1
  have hE := zc_vrE xu7 hE
  have hw : zPD D A (kW ct E y r9 q6) H := hw
  refine zfr 9 [.int v8] rfl rfl ?_
  refine lv_istore_n (lv' := [(3, .int v8), (0, .ref (y 198)), (1, .ref (y 196)), (2, .ref (y 183))]) hx hb dX3_readRoad_9 rfl hl (by decide) rfl (fun ls hl => ?_)
  refine lv_iload_n hx hb dX3_readRoad_10 rfl (lv_at hl 0 rfl) ?_
  refine lv_iconst (v := (-1)) hx hb dX3_readRoad_11 (by decide) ?_
  refine lv_icmp_ne (tgt := 17) hx hb dX3_readRoad_12 (by decide) (fun c10 => ?_) (fun c10 => ?_)
  · have hE := zifnT c10 hE
    have k11 : zI 0 5 (v8) := zI.neD c10 hv8 (zI.lit (a := (-1)) (b := (-1)) (c := (-1)) (by decide)) (by decide)
    refine lv_aload_n hx hb dX3_readRoad_17 rfl (lv_at hl 2 rfl) ?_
    refine kcallV (As := []) (rest := []) ⟨hx, hb, hml, hown, hts⟩ (kc_step l D ct E y r9 q6 ju7 hEi) (wqX3_112_kc_step hts ⟨Nat.le_of_ble_eq_true rfl, Nat.le_of_ble_eq_true rfl⟩) hw hS hA hK hZ hN 8 196 rfl kg196 rfl hl.1 rfl (Nat.le_of_ble_eq_true rfl) dX3_readRoad_18 21 rfl (fun u12 H locs pu12 hw hS => ?_)
    obtain ⟨r13, q14⟩ := u12
    have ju12 : kJ r13 := pu12.1
    have fu12 : zFr [196] r9 r13 := pu12.2.1
    have xu12 : (r13, q14) = (Gk_step r9 q6) := pu12.2.2.1
    have hE := zc_rqE xu12 hE
    have hw : zPD D A (kW ct E y r13 q14) H := hw
    refine zfr 21 [] rfl rfl ?_
    refine lv_aload_n hx hb dX3_readRoad_21 rfl (lv_at hl 2 rfl) ?_
    refine lv_aload_n hx hb dX3_readRoad_22 rfl (lv_at hl 3 rfl) ?_
    refine kcallV (As := [.ref (y 183)]) (rest := []) ⟨hx, hb, hml, hown, hts⟩ (kc_townHereD l D ct E y r13 q14 ju12 hEi) (wqX3_137_kc_townHereD hts ⟨Nat.le_of_ble_eq_true rfl, Nat.le_of_ble_eq_true rfl⟩) hw hS hA hK hZ hN 8 196 rfl kg196 rfl hl.1 rfl (Nat.le_of_ble_eq_true rfl) dX3_readRoad_23 26 rfl (fun u15 H locs pu15 hw hS => ?_)
    obtain ⟨v16, r17⟩ := u15
    have hv16 : zI (-1) 5 v16 := pu15.1
    have ju15 : kJ r17 := pu15.2.1
    have fu15 : zFr [196] r13 r17 := pu15.2.2.1
    have xu15 : (v16, r17) = (Gk_townHereD r13 q14) := pu15.2.2.2.1
    have hE := zc_vrE xu15 hE
    have hw : zPD D A (kW ct E y r17 q14) H := hw
    refine zfr 26 [.int v16] rfl rfl ?_
    refine lv_istore (lv' := [(4, .int v16), (3, .int v8), (0, .ref (y 198)), (1, .ref (y 196)), (2, .ref (y 183))]) hx hb dX3_readRoad_26 hl (by decide) rfl (fun ls hl => ?_)
    refine lv_iload hx hb dX3_readRoad_28 (lv_at hl 0 rfl) ?_
    refine lv_iconst (v := (-1)) hx hb dX3_readRoad_30 (by decide) ?_
    refine lv_icmp_ne (tgt := 36) hx hb dX3_readRoad_31 (by decide) (fun c18 => ?_) (fun c18 => ?_)
    · have hE := zifnT c18 hE
      have k19 : zI 0 5 (v16) := zI.neD c18 hv16 (zI.lit (a := (-1)) (b := (-1)) (c := (-1)) (by decide)) (by decide)
      refine lv_iload_n hx hb dX3_readRoad_36 rfl (lv_at hl 1 rfl) ?_
      refine lv_iload hx hb dX3_readRoad_37 (lv_at hl 0 rfl) ?_
      refine lv_icmp_eq (tgt := 56) hx hb dX3_readRoad_39 (by decide) (fun c20 => ?_) (fun c20 => ?_)
      · have hE := zifT c20 hE
        exact cut56 r17 q14 ju15 hE H locs ls hw hS (lv_sub hl [3] rfl)
      · have hE := zifF c20 hE
        refine lv_aload_n hx hb dX3_readRoad_42 rfl (lv_at hl 4 rfl) ?_
        refine va_get (D := D) (ci := 2) (v := .ref (y 185)) hx hb hts hiX2 hown hK hw.1 183 kg183 rfl 1 (by decide) lf141 (fun _ h9 => h9) rfl dX3_readRoad_43 ?_
        refine lv_iload_n hx hb dX3_readRoad_46 rfl (lv_at hl 1 rfl) ?_
        refine miald hx hb hK hw 185 kg185 k11 (by decide) dX3_readRoad_47 (zgenE (zI.top _) (fun v21 ev21 _ => ?_))
        have hE := zletE ev21 hE
        refine lv_iload hx hb dX3_readRoad_48 (lv_at hl 0 rfl) ?_
        refine zcallE (va_runSN (As := [.int v21, .int v16]) (rest := []) ⟨hx, hb, hml, hown, hts⟩ (kc_has l D ct v21 v16 H.size) ⟨va_cnB 2 hts (kgN (zr16 23 rfl)) rfl rfl rfl (hN.1 (RX3, 144, yX11_has, RX11) (List.mem_of_getElem? (i := 11) rfl)) (hts (.initialized RX11) (ki (zr1 2 rfl))) (by decide +kernel) ⟨Nat.le_of_ble_eq_true rfl, Nat.le_of_ble_eq_true rfl⟩, hts (.static yX11_has) (ki (zr16 22 rfl)), trivial⟩ (zpreS hK hw hS hA zZ.nil hN [] rfl rfl) rfl rfl hl.1 rfl (lv_room (Nat.le_of_ble_eq_true rfl)) dX3_readRoad_50 ⟨Nat.le_of_ble_eq_true rfl, Nat.le_of_ble_eq_true rfl⟩) hw hS hA kWn 53 rfl (fun u22 H locs pu22 hw hS => ?_)
        have hu22 : zI 0 1 u22 := pu22.1
        have xu22 : u22 = (Gk_has v21 v16) := pu22.2.1
        have hE := zletE xu22 hE
        refine zfr 53 [.int u22] rfl rfl ?_
        refine lv_if_eq (tgt := 62) hx hb dX3_readRoad_53 (by decide) (fun c24 => ?_) (fun c24 => ?_)
        · have hE := zifT c24 hE
          have k25 : zI 0 0 (u22) := zI.eqq c24 (zI.lit (a := 0) (b := 0) (c := 0) (by decide))
          refine lv_aload_n hx hb dX3_readRoad_62 rfl (lv_at hl 3 rfl) ?_
          refine kcallV (As := []) (rest := []) ⟨hx, hb, hml, hown, hts⟩ (kc_step l D ct E y r17 q14 ju15 hEi) (wqX3_112_kc_step hts ⟨Nat.le_of_ble_eq_true rfl, Nat.le_of_ble_eq_true rfl⟩) hw hS hA hK hZ hN 8 196 rfl kg196 rfl hl.1 rfl (Nat.le_of_ble_eq_true rfl) dX3_readRoad_63 66 rfl (fun u26 H locs pu26 hw hS => ?_)
          obtain ⟨r27, q28⟩ := u26
          have ju26 : kJ r27 := pu26.1
          have fu26 : zFr [196] r17 r27 := pu26.2.1
          have xu26 : (r27, q28) = (Gk_step r17 q14) := pu26.2.2.1
          have hE := zc_rqE xu26 hE
          have hw : zPD D A (kW ct E y r27 q28) H := hw
          refine zfr 66 [] rfl rfl ?_
          refine lv_aload_n hx hb dX3_readRoad_66 rfl (lv_at hl 4 rfl) ?_
          refine va_get (D := D) (ci := 2) (v := .ref (y 185)) hx hb hts hiX2 hown hK hw.1 183 kg183 rfl 1 (by decide) lf141 (fun _ h9 => h9) rfl dX3_readRoad_67 ?_
          refine lv_iload_n hx hb dX3_readRoad_70 rfl (lv_at hl 1 rfl) ?_
          refine lv_dup2_11 hx hb dX3_readRoad_71 rfl rfl ?_
          refine miald hx hb hK hw 185 kg185 k11 (by decide) dX3_readRoad_72 (zgenE (zI.top _) (fun v29 ev29 _ => ?_))
          have hE := zletE ev29 hE
          refine lv_iconst (v := 1) hx hb dX3_readRoad_73 (by decide) ?_
          refine lv_iload hx hb dX3_readRoad_74 (lv_at hl 0 rfl) ?_
          refine lv_ishl hx hb dX3_readRoad_76 (zgenE (lo := 1) (hi := 32) (zI.shl k19 5 (by decide)) (fun v30 ev30 hv30 => ?_))
          have hE := zletE ev30 hE
          refine lv_ior hx hb dX3_readRoad_77 (zgenE (zI.top _) (fun v31 ev31 _ => ?_))
          have hE := zletE ev31 hE
          refine miast hx hb hK hw hS 185 kg185 k11 (by decide) dX3_readRoad_78 (kW ct E y (zset r27 185 (upd (r27 185) (zn v8) v31)) q28) ks185 (fun H locs hw hS => ?_)
          refine cmgen (P := fun x => kJ x) hw (ju26.set rfl (zI.top _)) (fun r32 er32 hw pr32 => ?_)
          have hE := zletE er32 hE
          refine lv_aload_n hx hb dX3_readRoad_79 rfl (lv_at hl 4 rfl) ?_
          refine va_get (D := D) (ci := 2) (v := .ref (y 185)) hx hb hts hiX2 hown hK hw.1 183 kg183 rfl 1 (by decide) lf141 (fun _ h9 => h9) rfl dX3_readRoad_80 ?_
          refine lv_iload hx hb dX3_readRoad_83 (lv_at hl 0 rfl) ?_
          refine lv_dup2_11 hx hb dX3_readRoad_85 rfl rfl ?_
          refine miald hx hb hK hw 185 kg185 k19 (by decide) dX3_readRoad_86 (zgenE (zI.top _) (fun v33 ev33 _ => ?_))
          have hE := zletE ev33 hE
          refine lv_iconst (v := 1) hx hb dX3_readRoad_87 (by decide) ?_
          refine lv_iload_n hx hb dX3_readRoad_88 rfl (lv_at hl 1 rfl) ?_
          refine lv_ishl hx hb dX3_readRoad_89 (zgenE (lo := 1) (hi := 32) (zI.shl k11 5 (by decide)) (fun v34 ev34 hv34 => ?_))
          have hE := zletE ev34 hE
          refine lv_ior hx hb dX3_readRoad_90 (zgenE (zI.top _) (fun v35 ev35 _ => ?_))
          have hE := zletE ev35 hE
          refine miast hx hb hK hw hS 185 kg185 k19 (by decide) dX3_readRoad_91 (kW ct E y (zset r32 185 (upd (r32 185) (zn v16) v35)) q28) ks185 (fun H locs hw hS => ?_)
          refine cmgen (P := fun x => kJ x) hw (pr32.set rfl (zI.top _)) (fun r36 er36 hw pr36 => ?_)
          have hE := zletE er36 hE
          refine lv_iconst (v := 1) hx hb dX3_readRoad_92 (by decide) ?_
          exact ziretQ hQ hx hb hr rfl hlocks ((1 : Int32), r36, q28) rfl ⟨((zI.lit (a := 1) (b := 1) (c := 1) (by decide)).w (c := 0) (d := 1) (by decide)), pr36, (hE.symm.trans hX), trivial⟩ hw hS dX3_readRoad_93
        · have hE := zifF c24 hE
          have k37 : zI 1 1 (u22) := zI.neD c24 hu22 (zI.lit (a := 0) (b := 0) (c := 0) (by decide)) (by decide)
          exact cut56 r17 q14 ju15 hE H locs ls hw hS (lv_sub hl [3] rfl)
    · have hE := zifnF c18 hE
      have k38 : zI (-1) (-1) (v16) := zI.eqq c18 (zI.lit (a := (-1)) (b := (-1)) (c := (-1)) (by decide))
      refine lv_iconst (v := 0) hx hb dX3_readRoad_34 (by decide) ?_
      exact ziretQ hQ hx hb hr rfl hlocks ((0 : Int32), r17, q14) rfl ⟨((zI.lit (a := 0) (b := 0) (c := 0) (by decide)).w (c := 0) (d := 1) (by decide)), ju15, (hE.symm.trans hX), trivial⟩ hw hS dX3_readRoad_35
  · have hE := zifnF c10 hE
    have k39 : zI (-1) (-1) (v8) := zI.eqq c10 (zI.lit (a := (-1)) (b := (-1)) (c := (-1)) (by decide))
    refine lv_iconst (v := 0) hx hb dX3_readRoad_15 (by decide) ?_
    exact ziretQ hQ hx hb hr rfl hlocks ((0 : Int32), r9, q6) rfl ⟨((zI.lit (a := 0) (b := 0) (c := 0) (by decide)).w (c := 0) (d := 1) (by decide)), ju7, (hE.symm.trans hX), trivial⟩ hw hS dX3_readRoad_16

set_option maxHeartbeats 4000000 in
set_option maxRecDepth 100000 in
theorem kc_readPerson (l : Launch) (D : va_G) (ct : Nat → ClassId) (E : Nat → Nat) (y : Nat → Nat) (r : zRr) (q : zRq) (hJ0 : kJ r) (hEi : kEi E) : cC l yX3_readPerson (.code yX3_readPerson cX3_readPerson 4 (some .boolean) :: wsL_law0) ({ frames := 9, cells := 0, slots := 0, locals := 400 }) D ct E [.ref (y 198), .ref (y 196), .ref (y 183)] (kW ct E y r q) (S := Int32 × zRr × zRq) (fun u => some (.int u.1)) (fun u => zI 0 1 u.1 ∧ kJ u.2.1 ∧ (¬ u.1 = 0 → zI 1 6 (u.2.1 183 10)) ∧ u = (Gk_readPerson r q) ∧ True) (fun u => kW ct E y u.2.1 u.2.2) := by
  refine cofQ cX3_readPerson 4 (some .boolean) (by decide) rfl (Nat.le_of_ble_eq_true rfl) ?_
  intro p e s m below meth c A a9 Q ha9 hx hb hr hml hts hown hlocks hname hK hA hZ hN hQ
  have hown : s.vm.findClass RX3 = some m.cls := hown
  have hiX2 : ∀ w ∈ wsX20, w ∈ .code yX3_readPerson cX3_readPerson 4 (some .boolean) :: wsL_law0 := fun _ h => ki (zs_wsX20 _ h)
  have hiX9 : ∀ w ∈ wsX90, w ∈ .code yX3_readPerson cX3_readPerson 4 (some .boolean) :: wsL_law0 := fun _ h => ki (zs_wsX90 _ h)
  have lf69 := hts (.fieldLink RX3 69 "BeardPass$Land" "persons" "I") (ki (zr14 20 rfl))
  have lf122 := hts (.fieldLink RX3 122 "BeardPass$Tape" "word" "J") (ki (zr15 7 rfl))
  have lf148 := hts (.fieldLink RX3 148 "BeardPass$Land" "personNames" "[J") (ki (zr17 4 rfl))
  have lf151 := hts (.fieldLink RX3 151 "BeardPass$Land" "kinds" "[I") (ki (zr17 5 rfl))
  have lf158 := hts (.fieldLink RX3 158 "BeardPass$Sort" "AT" "LBeardPass$Sort;") (ki (zr17 6 rfl))
  have lf161 := hts (.fieldLink RX3 161 "BeardPass$Land" "homes" "[I") (ki (zr17 7 rfl))
  obtain ⟨X, hX⟩ : ∃ X, X = (Gk_readPerson r q) := ⟨_, rfl⟩
  intro H locs hw hS ls hl
  have hl : lv_has ls 4 [(0, .ref (y 198)), (1, .ref (y 196)), (2, .ref (y 183))] := hl
  have hE := hX
  unfold Gk_readPerson at hE
  refine lv_aload_n hx hb dX3_readPerson_0 rfl (lv_at hl 2 rfl) ?_
  refine va_get (D := D) (ci := 2) (v := .int (r 183 10)) hx hb hts hiX2 hown hK hw.1 183 kg183 rfl 10 (by decide) lf69 (fun _ h9 => h9) rfl dX3_readPerson_1 ?_
  refine lv_istore_n (lv' := [(3, .int (r 183 10)), (0, .ref (y 198)), (1, .ref (y 196)), (2, .ref (y 183))]) hx hb dX3_readPerson_4 rfl hl (by decide) rfl (fun ls hl => ?_)
  refine lv_iload_n hx hb dX3_readPerson_5 rfl (lv_at hl 0 rfl) ?_
  refine lv_bipush (v := 6) hx hb dX3_readPerson_6 (by decide) ?_
  refine lv_icmp_lt (tgt := 17) hx hb dX3_readPerson_8 (by decide) (fun c1 => ?_) (fun c1 => ?_)
  · have hE := zifT c1 hE
    have k2 : zI 0 5 (r 183 10) := zI.ltU c1 (show zI 0 6 (r 183 10) from hJ0.i 183 10) (zI.lit (a := 6) (b := 6) (c := 6) (by decide)) (by decide)
    refine lv_aload_n hx hb dX3_readPerson_17 rfl (lv_at hl 2 rfl) ?_
    refine kcallV (As := []) (rest := []) ⟨hx, hb, hml, hown, hts⟩ (kc_step l D ct E y r q hJ0 hEi) (wqX3_112_kc_step hts ⟨Nat.le_of_ble_eq_true rfl, Nat.le_of_ble_eq_true rfl⟩) hw hS hA hK hZ hN 8 196 rfl kg196 rfl hl.1 rfl (Nat.le_of_ble_eq_true rfl) dX3_readPerson_18 21 rfl (fun u3 H locs pu3 hw hS => ?_)
    obtain ⟨r4, q5⟩ := u3
    have ju3 : kJ r4 := pu3.1
    have fu3 : zFr [196] r r4 := pu3.2.1
    have xu3 : (r4, q5) = (Gk_step r q) := pu3.2.2.1
    have hE := zc_rqE xu3 hE
    have hw : zPD D A (kW ct E y r4 q5) H := hw
    refine zfr 21 [] rfl rfl ?_
    refine lv_aload_n hx hb dX3_readPerson_21 rfl (lv_at hl 2 rfl) ?_
    refine lv_aload_n hx hb dX3_readPerson_22 rfl (lv_at hl 3 rfl) ?_
    refine zcallW (va_runS (As := [.ref (y 196), .ref (y 183)]) (rest := []) ⟨hx, hb, hml, hown, hts⟩ (kc_isNewName l D ct E y r4 q5 ju3 hEi H.size) (va_cwS 2 hts (kgS (zr15 15 rfl) (zr15 16 rfl) (zr2 1 rfl) (zr15 17 rfl)) rfl rfl rfl (by decide +kernel) ⟨Nat.le_of_ble_eq_true rfl, Nat.le_of_ble_eq_true rfl⟩) (cpreS hK hw hS hA hZ hN (List.range (kW ct E y r4 q5).length) kWn (zrange _)) rfl rfl hl.1 rfl (lv_room (Nat.le_of_ble_eq_true rfl)) dX3_readPerson_23 ⟨Nat.le_of_ble_eq_true rfl, Nat.le_of_ble_eq_true rfl⟩) hw hS hA 26 rfl (fun u6 H locs pu6 hw hS => ?_)
    obtain ⟨v7, r8⟩ := u6
    have hv7 : zI 0 1 v7 := pu6.1
    have ju6 : kJ r8 := pu6.2.1
    have fu6 : zFr [196] r4 r8 := pu6.2.2.1
    have xu6 : (v7, r8) = (Gk_isNewName r4 q5) := pu6.2.2.2.1
    have hE := zc_vrE xu6 hE
    have hw : zPD D A (kW ct E y r8 q5) H := hw
    refine zfr 26 [.int v7] rfl rfl ?_
    refine lv_if_ne (tgt := 31) hx hb dX3_readPerson_26 (by decide) (fun c9 => ?_) (fun c9 => ?_)
    · have hE := zifnT c9 hE
      have k10 : zI 1 1 (v7) := zI.neD c9 hv7 (zI.lit (a := 0) (b := 0) (c := 0) (by decide)) (by decide)
      refine lv_aload_n hx hb dX3_readPerson_31 rfl (lv_at hl 3 rfl) ?_
      refine va_get (D := D) (ci := 2) (v := .ref (y 191)) hx hb hts hiX2 hown hK hw.1 183 kg183 rfl 7 (by decide) lf148 (fun _ h9 => h9) rfl dX3_readPerson_32 ?_
      refine lv_iload_n hx hb dX3_readPerson_35 rfl (lv_at hl 0 rfl) ?_
      refine lv_aload_n hx hb dX3_readPerson_36 rfl (lv_at hl 2 rfl) ?_
      refine va_get (D := D) (ci := 8) (v := .long (q5 196 6)) hx hb hts hiX9 hown hK hw.1 196 kg196 rfl 6 (by decide) lf122 (fun _ h9 => h9) rfl dX3_readPerson_37 (zgenLE (fun v11 ev11 => ?_))
      have hE := zletE ev11 hE
      refine mlast hx hb hK hw hS 191 kg191 k2 (by decide) dX3_readPerson_40 (kW ct E y r8 (zset q5 191 (vp_updL (q5 191) (zn (r 183 10)) v11))) ks191 (fun H locs hw hS => ?_)
      refine cqgen hw (fun q12 eq12 hw => ?_)
      have hE := zletE eq12 hE
      refine lv_aload_n hx hb dX3_readPerson_41 rfl (lv_at hl 2 rfl) ?_
      refine kcallV (As := []) (rest := []) ⟨hx, hb, hml, hown, hts⟩ (kc_step l D ct E y r8 q12 ju6 hEi) (wqX3_112_kc_step hts ⟨Nat.le_of_ble_eq_true rfl, Nat.le_of_ble_eq_true rfl⟩) hw hS hA hK hZ hN 8 196 rfl kg196 rfl hl.1 rfl (Nat.le_of_ble_eq_true rfl) dX3_readPerson_42 45 rfl (fun u13 H locs pu13 hw hS => ?_)
      obtain ⟨r14, q15⟩ := u13
      have ju13 : kJ r14 := pu13.1
      have fu13 : zFr [196] r8 r14 := pu13.2.1
      have xu13 : (r14, q15) = (Gk_step r8 q12) := pu13.2.2.1
      have hE := zc_rqE xu13 hE
      have hw : zPD D A (kW ct E y r14 q15) H := hw
      refine zfr 45 [] rfl rfl ?_
      refine lv_aload_n hx hb dX3_readPerson_45 rfl (lv_at hl 3 rfl) ?_
      refine va_get (D := D) (ci := 2) (v := .ref (y 187)) hx hb hts hiX2 hown hK hw.1 183 kg183 rfl 3 (by decide) lf151 (fun _ h9 => h9) rfl dX3_readPerson_46 ?_
      refine lv_iload_n hx hb dX3_readPerson_49 rfl (lv_at hl 0 rfl) ?_
      refine lv_aload_n hx hb dX3_readPerson_50 rfl (lv_at hl 2 rfl) ?_
      refine zcallW (va_runS (As := [.ref (y 196)]) (rest := [.int (r 183 10), .ref (y 187)]) ⟨hx, hb, hml, hown, hts⟩ (kc_kindHere l D ct E y r14 q15 ju13 hEi H.size) (va_cwS 1 hts (kgS (zr17 8 rfl) (zr17 9 rfl) (zr2 1 rfl) (zr17 10 rfl)) rfl rfl rfl (by decide +kernel) ⟨Nat.le_of_ble_eq_true rfl, Nat.le_of_ble_eq_true rfl⟩) (cpreS hK hw hS hA hZ hN (List.range (kW ct E y r14 q15).length) kWn (zrange _)) rfl rfl hl.1 rfl (lv_room (Nat.le_of_ble_eq_true rfl)) dX3_readPerson_51 ⟨Nat.le_of_ble_eq_true rfl, Nat.le_of_ble_eq_true rfl⟩) hw hS hA 54 rfl (fun u16 H locs pu16 hw hS => ?_)
      have hu16 : zI (-1) 3 u16 := pu16.1
      have xu16 : u16 = (Gk_kindHere r14 q15) := pu16.2.1
      have hE := zletE xu16 hE
      have hw : zPD D A (kW ct E y r14 q15) H := hw
      refine zfr 54 [.int u16, .int (r 183 10), .ref (y 187)] rfl rfl ?_
      refine miast hx hb hK hw hS 187 kg187 k2 (by decide) dX3_readPerson_54 (kW ct E y (zset r14 187 (upd (r14 187) (zn (r 183 10)) u16)) q15) ks187 (fun H locs hw hS => ?_)
      refine cmgen (P := fun x => kJ x) hw (ju13.set rfl (zI.top _)) (fun r18 er18 hw pr18 => ?_)
      have hE := zletE er18 hE
      refine lv_aload_n hx hb dX3_readPerson_55 rfl (lv_at hl 3 rfl) ?_
      refine va_get (D := D) (ci := 2) (v := .ref (y 187)) hx hb hts hiX2 hown hK hw.1 183 kg183 rfl 3 (by decide) lf151 (fun _ h9 => h9) rfl dX3_readPerson_56 ?_
      refine lv_iload_n hx hb dX3_readPerson_59 rfl (lv_at hl 0 rfl) ?_
      refine miald hx hb hK hw 187 kg187 k2 (by decide) dX3_readPerson_60 (zgenE (zI.top _) (fun v19 ev19 _ => ?_))
      have hE := zletE ev19 hE
      refine lv_iconst (v := (-1)) hx hb dX3_readPerson_61 (by decide) ?_
      refine lv_icmp_ne (tgt := 71) hx hb dX3_readPerson_62 (by decide) (fun c20 => ?_) (fun c20 => ?_)
      · have hE := zifnT c20 hE
        refine lv_aload_n hx hb dX3_readPerson_71 rfl (lv_at hl 2 rfl) ?_
        refine kcallV (As := []) (rest := []) ⟨hx, hb, hml, hown, hts⟩ (kc_step l D ct E y r18 q15 pr18 hEi) (wqX3_112_kc_step hts ⟨Nat.le_of_ble_eq_true rfl, Nat.le_of_ble_eq_true rfl⟩) hw hS hA hK hZ hN 8 196 rfl kg196 rfl hl.1 rfl (Nat.le_of_ble_eq_true rfl) dX3_readPerson_72 75 rfl (fun u21 H locs pu21 hw hS => ?_)
        obtain ⟨r22, q23⟩ := u21
        have ju21 : kJ r22 := pu21.1
        have fu21 : zFr [196] r18 r22 := pu21.2.1
        have xu21 : (r22, q23) = (Gk_step r18 q15) := pu21.2.2.1
        have hE := zc_rqE xu21 hE
        have hw : zPD D A (kW ct E y r22 q23) H := hw
        refine zfr 75 [] rfl rfl ?_
        refine lv_aload_n hx hb dX3_readPerson_75 rfl (lv_at hl 2 rfl) ?_
        refine cgets 4 (by decide) hx hb hZ hS hown lf158 dX3_readPerson_76 (ztop (.ref (E (zn 4))) rfl ?_)
        refine kcallV (As := [.ref (E (zn 4))]) (rest := []) ⟨hx, hb, hml, hown, hts⟩ (kc_take l D ct E y 4 r22 q23 ((zI.lit (a := 4) (b := 4) (c := 4) (by decide)).w (c := 0) (d := 32) (by decide)) ju21 hEi) (wqX3_47_kc_take hts ⟨Nat.le_of_ble_eq_true rfl, Nat.le_of_ble_eq_true rfl⟩) hw hS hA hK hZ hN 8 196 rfl kg196 rfl hl.1 rfl (Nat.le_of_ble_eq_true rfl) dX3_readPerson_79 82 rfl (fun u24 H locs pu24 hw hS => ?_)
        obtain ⟨v25, r26, q27⟩ := u24
        have hv25 : zI 0 1 v25 := pu24.1
        have ju24 : kJ r26 := pu24.2.1
        have fu24 : zFr [196] r22 r26 := pu24.2.2.1
        have xu24 : (v25, r26, q27) = (Gk_take 4 r22 q23) := pu24.2.2.2.1
        have hE := zc_vrqE xu24 hE
        have hw : zPD D A (kW ct E y r26 q27) H := hw
        refine zfr 82 [.int v25] rfl rfl ?_
        refine lv_if_ne (tgt := 87) hx hb dX3_readPerson_82 (by decide) (fun c28 => ?_) (fun c28 => ?_)
        · have hE := zifnT c28 hE
          have k29 : zI 1 1 (v25) := zI.neD c28 hv25 (zI.lit (a := 0) (b := 0) (c := 0) (by decide)) (by decide)
          refine lv_aload_n hx hb dX3_readPerson_87 rfl (lv_at hl 3 rfl) ?_
          refine va_get (D := D) (ci := 2) (v := .ref (y 188)) hx hb hts hiX2 hown hK hw.1 183 kg183 rfl 4 (by decide) lf161 (fun _ h9 => h9) rfl dX3_readPerson_88 ?_
          refine lv_iload_n hx hb dX3_readPerson_91 rfl (lv_at hl 0 rfl) ?_
          refine lv_aload_n hx hb dX3_readPerson_92 rfl (lv_at hl 2 rfl) ?_
          refine lv_aload_n hx hb dX3_readPerson_93 rfl (lv_at hl 3 rfl) ?_
          refine kcallV (As := [.ref (y 183)]) (rest := [.int (r 183 10), .ref (y 188)]) ⟨hx, hb, hml, hown, hts⟩ (kc_townHereD l D ct E y r26 q27 ju24 hEi) (wqX3_137_kc_townHereD hts ⟨Nat.le_of_ble_eq_true rfl, Nat.le_of_ble_eq_true rfl⟩) hw hS hA hK hZ hN 8 196 rfl kg196 rfl hl.1 rfl (Nat.le_of_ble_eq_true rfl) dX3_readPerson_94 97 rfl (fun u30 H locs pu30 hw hS => ?_)
          obtain ⟨v31, r32⟩ := u30
          have hv31 : zI (-1) 5 v31 := pu30.1
          have ju30 : kJ r32 := pu30.2.1
          have fu30 : zFr [196] r26 r32 := pu30.2.2.1
          have xu30 : (v31, r32) = (Gk_townHereD r26 q27) := pu30.2.2.2.1
          have hE := zc_vrE xu30 hE
          have hw : zPD D A (kW ct E y r32 q27) H := hw
          refine zfr 97 [.int v31, .int (r 183 10), .ref (y 188)] rfl rfl ?_
          refine miast hx hb hK hw hS 188 kg188 k2 (by decide) dX3_readPerson_97 (kW ct E y (zset r32 188 (upd (r32 188) (zn (r 183 10)) v31)) q27) ks188 (fun H locs hw hS => ?_)
          refine cmgen (P := fun x => kJ x) hw (ju30.home (Int.le_of_eq (congrArg Int32.toInt ((congrFun (fu30 183 rfl) 10).trans ((congrFun (fu24 183 rfl) 10).trans ((congrFun (fu21 183 rfl) 10).trans ((congrFun (zs_row (k := 183) er18 (by decide)) 10).trans ((congrFun (fu13 183 rfl) 10).trans ((congrFun (fu6 183 rfl) 10).trans (congrFun (fu3 183 rfl) 10))))))))) k2 hv31) (fun r33 er33 hw pr33 => ?_)
          have hE := zletE er33 hE
          refine lv_aload_n hx hb dX3_readPerson_98 rfl (lv_at hl 3 rfl) ?_
          refine va_get (D := D) (ci := 2) (v := .ref (y 188)) hx hb hts hiX2 hown hK hw.1 183 kg183 rfl 4 (by decide) lf161 (fun _ h9 => h9) rfl dX3_readPerson_99 ?_
          refine lv_iload_n hx hb dX3_readPerson_102 rfl (lv_at hl 0 rfl) ?_
          refine miald hx hb hK hw 188 kg188 k2 (by decide) dX3_readPerson_103 ?_
          have k34 : zI (-1) 5 (r33 188 (zn (r 183 10))) := (show zI (-1) 5 (r33 188 _) from pr33.i 188 _)
          refine lv_iconst (v := (-1)) hx hb dX3_readPerson_104 (by decide) ?_
          refine lv_icmp_ne (tgt := 110) hx hb dX3_readPerson_105 (by decide) (fun c35 => ?_) (fun c35 => ?_)
          · have hE := zifnT c35 hE
            have k36 : zI 0 5 (r33 188 (zn (r 183 10))) := zI.neD c35 k34 (zI.lit (a := (-1)) (b := (-1)) (c := (-1)) (by decide)) (by decide)
            refine lv_aload_n hx hb dX3_readPerson_110 rfl (lv_at hl 2 rfl) ?_
            refine kcallV (As := []) (rest := []) ⟨hx, hb, hml, hown, hts⟩ (kc_step l D ct E y r33 q27 pr33 hEi) (wqX3_112_kc_step hts ⟨Nat.le_of_ble_eq_true rfl, Nat.le_of_ble_eq_true rfl⟩) hw hS hA hK hZ hN 8 196 rfl kg196 rfl hl.1 rfl (Nat.le_of_ble_eq_true rfl) dX3_readPerson_111 114 rfl (fun u37 H locs pu37 hw hS => ?_)
            obtain ⟨r38, q39⟩ := u37
            have ju37 : kJ r38 := pu37.1
            have fu37 : zFr [196] r33 r38 := pu37.2.1
            have xu37 : (r38, q39) = (Gk_step r33 q27) := pu37.2.2.1
            have hE := zc_rqE xu37 hE
            have hw : zPD D A (kW ct E y r38 q39) H := hw
            refine zfr 114 [] rfl rfl ?_
            refine lv_aload_n hx hb dX3_readPerson_114 rfl (lv_at hl 3 rfl) ?_
            refine lv_dup hx hb dX3_readPerson_115 rfl ?_
            refine va_get (D := D) (ci := 2) (v := .int (r38 183 10)) hx hb hts hiX2 hown hK hw.1 183 kg183 rfl 10 (by decide) lf69 (fun _ h9 => h9) rfl dX3_readPerson_116 ?_
            refine lv_iconst (v := 1) hx hb dX3_readPerson_119 (by decide) ?_
            refine lv_iadd hx hb dX3_readPerson_120 ?_
            have k40 : zI 1 6 ((r38 183 10) + 1) := zI.add (fu37.at (zs_at er33 (fu30.at (fu24.at (fu21.at (zs_at er18 (fu13.at (fu6.at (fu3.at k2 rfl) rfl) rfl) (by decide)) rfl) rfl) rfl) (by decide)) rfl) (zI.lit (a := 1) (b := 1) (c := 1) (by decide)) (by decide)
            refine zput (D := D) (ci := 2) (v := .int ((r38 183 10) + 1)) (ty := .int) hx hb hts hiX2 tyX2 tyX2_ok nmX2 hown hK hw hS 183 kg183 rfl 10 (by decide) lf69 (fun _ h9 => h9) rfl (by decide +kernel) rfl rfl (Nat.le_of_ble_eq_true rfl) dX3_readPerson_121 (kW ct E y (zset r38 183 (upd (r38 183) 10 ((r38 183 10) + 1))) q39) ks183_10 (fun H locs hw hS => ?_)
            refine cmgen (P := fun x => kJ x) hw (ju37.pers1 ((congrFun (fu37 183 rfl) 10).trans ((congrFun (zs_row (k := 183) er33 (by decide)) 10).trans ((congrFun (fu30 183 rfl) 10).trans ((congrFun (fu24 183 rfl) 10).trans ((congrFun (fu21 183 rfl) 10).trans ((congrFun (zs_row (k := 183) er18 (by decide)) 10).trans ((congrFun (fu13 183 rfl) 10).trans ((congrFun (fu6 183 rfl) 10).trans (congrFun (fu3 183 rfl) 10))))))))) k2 (by rw [(fu37 188 rfl)]; exact k36)) (fun r41 er41 hw pr41 => ?_)
            have hE := zletE er41 hE
            refine lv_iconst (v := 1) hx hb dX3_readPerson_124 (by decide) ?_
            exact ziretQ hQ hx hb hr rfl hlocks ((1 : Int32), r41, q39) rfl ⟨((zI.lit (a := 1) (b := 1) (c := 1) (by decide)).w (c := 0) (d := 1) (by decide)), pr41, (fun _ => (zs_in er41 (zu_in k40))), (hE.symm.trans hX), trivial⟩ hw hS dX3_readPerson_125
          · have hE := zifnF c35 hE
            have k42 : zI (-1) (-1) (r33 188 (zn (r 183 10))) := zI.eqq c35 (zI.lit (a := (-1)) (b := (-1)) (c := (-1)) (by decide))
            refine lv_iconst (v := 0) hx hb dX3_readPerson_108 (by decide) ?_
            exact ziretQ hQ hx hb hr rfl hlocks ((0 : Int32), r33, q27) rfl ⟨((zI.lit (a := 0) (b := 0) (c := 0) (by decide)).w (c := 0) (d := 1) (by decide)), pr33, (fun h => absurd rfl h), (hE.symm.trans hX), trivial⟩ hw hS dX3_readPerson_109
        · have hE := zifnF c28 hE
          have k43 : zI 0 0 (v25) := zI.eqq c28 (zI.lit (a := 0) (b := 0) (c := 0) (by decide))
          refine lv_iconst (v := 0) hx hb dX3_readPerson_85 (by decide) ?_
          exact ziretQ hQ hx hb hr rfl hlocks ((0 : Int32), r26, q27) rfl ⟨((zI.lit (a := 0) (b := 0) (c := 0) (by decide)).w (c := 0) (d := 1) (by decide)), ju24, (fun h => absurd rfl h), (hE.symm.trans hX), trivial⟩ hw hS dX3_readPerson_86
      · have hE := zifnF c20 hE
        have k44 : zI (-1) (-1) (v19) := zI.eqq c20 (zI.lit (a := (-1)) (b := (-1)) (c := (-1)) (by decide))
        refine lv_aload_n hx hb dX3_readPerson_65 rfl (lv_at hl 2 rfl) ?_
        refine lv_iconst (v := 1) hx hb dX3_readPerson_66 (by decide) ?_
        refine kcallV (As := [.int 1]) (rest := []) ⟨hx, hb, hml, hown, hts⟩ (kc_wrong l D ct E y (1 : Int32) r18 q15 pr18 hEi) (wqX3_105_kc_wrong hts ⟨Nat.le_of_ble_eq_true rfl, Nat.le_of_ble_eq_true rfl⟩) hw hS hA hK hZ hN 8 196 rfl kg196 rfl hl.1 rfl (Nat.le_of_ble_eq_true rfl) dX3_readPerson_67 70 rfl (fun u45 H locs pu45 hw hS => ?_)
        obtain ⟨v46, r47⟩ := u45
        have hv46 : zI 0 0 v46 := pu45.1
        have ju45 : kJ r47 := pu45.2.1
        have fu45 : zFr [196] r18 r47 := pu45.2.2.1
        have xu45 : (v46, r47) = (Gk_wrong (1 : Int32) r18 q15) := pu45.2.2.2.1
        have hE := zc_vrE xu45 hE
        have hw : zPD D A (kW ct E y r47 q15) H := hw
        refine zfr 70 [.int v46] rfl rfl ?_
        exact ziretQ hQ hx hb hr ((hv46.w (c := 0) (d := 1) (by decide)).rn) hlocks (v46, r47, q15) rfl ⟨(hv46.w (c := 0) (d := 1) (by decide)), ju45, (fun h => absurd (zI.eq0 hv46) h), (hE.symm.trans hX), trivial⟩ hw hS dX3_readPerson_70
    · have hE := zifnF c9 hE
      have k48 : zI 0 0 (v7) := zI.eqq c9 (zI.lit (a := 0) (b := 0) (c := 0) (by decide))
      refine lv_iconst (v := 0) hx hb dX3_readPerson_29 (by decide) ?_
      exact ziretQ hQ hx hb hr rfl hlocks ((0 : Int32), r8, q5) rfl ⟨((zI.lit (a := 0) (b := 0) (c := 0) (by decide)).w (c := 0) (d := 1) (by decide)), ju6, (fun h => absurd rfl h), (hE.symm.trans hX), trivial⟩ hw hS dX3_readPerson_30
  · have hE := zifF c1 hE
    have k49 : zI 6 6 (r 183 10) := zI.leD (zI.nlt c1) (zI.lit (a := 6) (b := 6) (c := 6) (by decide)) (show zI 0 6 (r 183 10) from hJ0.i 183 10) (by decide)
    refine lv_aload_n hx hb dX3_readPerson_11 rfl (lv_at hl 2 rfl) ?_
    refine lv_iconst (v := 5) hx hb dX3_readPerson_12 (by decide) ?_
    refine kcallV (As := [.int 5]) (rest := []) ⟨hx, hb, hml, hown, hts⟩ (kc_wrong l D ct E y (5 : Int32) r q hJ0 hEi) (wqX3_105_kc_wrong hts ⟨Nat.le_of_ble_eq_true rfl, Nat.le_of_ble_eq_true rfl⟩) hw hS hA hK hZ hN 8 196 rfl kg196 rfl hl.1 rfl (Nat.le_of_ble_eq_true rfl) dX3_readPerson_13 16 rfl (fun u50 H locs pu50 hw hS => ?_)
    obtain ⟨v51, r52⟩ := u50
    have hv51 : zI 0 0 v51 := pu50.1
    have ju50 : kJ r52 := pu50.2.1
    have fu50 : zFr [196] r r52 := pu50.2.2.1
    have xu50 : (v51, r52) = (Gk_wrong (5 : Int32) r q) := pu50.2.2.2.1
    have hE := zc_vrE xu50 hE
    have hw : zPD D A (kW ct E y r52 q) H := hw
    refine zfr 16 [.int v51] rfl rfl ?_
    exact ziretQ hQ hx hb hr ((hv51.w (c := 0) (d := 1) (by decide)).rn) hlocks (v51, r52, q) rfl ⟨(hv51.w (c := 0) (d := 1) (by decide)), ju50, (fun h => absurd (zI.eq0 hv51) h), (hE.symm.trans hX), trivial⟩ hw hS dX3_readPerson_16

set_option maxHeartbeats 4000000 in
set_option maxRecDepth 100000 in
theorem kc_readGoods (l : Launch) (D : va_G) (ct : Nat → ClassId) (E : Nat → Nat) (y : Nat → Nat) (a3 : Int32) (r : zRr) (q : zRq) (g3 : zI 0 5 a3) (hJ0 : kJ r) (hEi : kEi E) : cC l yX3_readGoods (.code yX3_readGoods cX3_readGoods 4 (some .boolean) :: wsL_law0) ({ frames := 9, cells := 0, slots := 0, locals := 400 }) D ct E [.ref (y 198), .ref (y 196), .ref (y 183), .int a3] (kW ct E y r q) (S := Int32 × zRr × zRq) (fun u => some (.int u.1)) (fun u => zI 0 1 u.1 ∧ kJ u.2.1 ∧ u = (Gk_readGoods a3 r q) ∧ True) (fun u => kW ct E y u.2.1 u.2.2) := by
  refine cofQ cX3_readGoods 4 (some .boolean) (by decide) rfl (Nat.le_of_ble_eq_true rfl) ?_
  intro p e s m below meth c A a9 Q ha9 hx hb hr hml hts hown hlocks hname hK hA hZ hN hQ
  have hown : s.vm.findClass RX3 = some m.cls := hown
  have hiX2 : ∀ w ∈ wsX20, w ∈ .code yX3_readGoods cX3_readGoods 4 (some .boolean) :: wsL_law0 := fun _ h => ki (zs_wsX20 _ h)
  have lf164 := hts (.fieldLink RX3 164 "BeardPass$Sort" "BEARD" "LBeardPass$Sort;") (ki (zr17 19 rfl))
  have lf167 := hts (.fieldLink RX3 167 "BeardPass$Land" "beards" "[I") (ki (zr17 20 rfl))
  have lf170 := hts (.fieldLink RX3 170 "BeardPass$Sort" "PURSE" "LBeardPass$Sort;") (ki (zr17 21 rfl))
  have lf173 := hts (.fieldLink RX3 173 "BeardPass$Land" "purses" "[I") (ki (zr17 22 rfl))
  obtain ⟨X, hX⟩ : ∃ X, X = (Gk_readGoods a3 r q) := ⟨_, rfl⟩
  intro H locs hw hS ls hl
  have hl : lv_has ls 4 [(0, .ref (y 198)), (1, .ref (y 196)), (2, .ref (y 183)), (3, .int a3)] := hl
  have hE := hX
  unfold Gk_readGoods at hE
  refine lv_aload_n hx hb dX3_readGoods_0 rfl (lv_at hl 1 rfl) ?_
  refine cgets 5 (by decide) hx hb hZ hS hown lf164 dX3_readGoods_1 (ztop (.ref (E (zn 5))) rfl ?_)
  refine kcallV (As := [.ref (E (zn 5))]) (rest := []) ⟨hx, hb, hml, hown, hts⟩ (kc_take l D ct E y 5 r q ((zI.lit (a := 5) (b := 5) (c := 5) (by decide)).w (c := 0) (d := 32) (by decide)) hJ0 hEi) (wqX3_47_kc_take hts ⟨Nat.le_of_ble_eq_true rfl, Nat.le_of_ble_eq_true rfl⟩) hw hS hA hK hZ hN 8 196 rfl kg196 rfl hl.1 rfl (Nat.le_of_ble_eq_true rfl) dX3_readGoods_4 7 rfl (fun u1 H locs pu1 hw hS => ?_)
  obtain ⟨v2, r3, q4⟩ := u1
  have hv2 : zI 0 1 v2 := pu1.1
  have ju1 : kJ r3 := pu1.2.1
  have fu1 : zFr [196] r r3 := pu1.2.2.1
  have xu1 : (v2, r3, q4) = (Gk_take 5 r q) := pu1.2.2.2.1
  have hE := zc_vrqE xu1 hE
  have hw : zPD D A (kW ct E y r3 q4) H := hw
  refine zfr 7 [.int v2] rfl rfl ?_
  refine lv_if_ne (tgt := 12) hx hb dX3_readGoods_7 (by decide) (fun c5 => ?_) (fun c5 => ?_)
  · have hE := zifnT c5 hE
    have k6 : zI 1 1 (v2) := zI.neD c5 hv2 (zI.lit (a := 0) (b := 0) (c := 0) (by decide)) (by decide)
    refine lv_aload_n hx hb dX3_readGoods_12 rfl (lv_at hl 2 rfl) ?_
    refine va_get (D := D) (ci := 2) (v := .ref (y 189)) hx hb hts hiX2 hown hK hw.1 183 kg183 rfl 5 (by decide) lf167 (fun _ h9 => h9) rfl dX3_readGoods_13 ?_
    refine lv_iload_n hx hb dX3_readGoods_16 rfl (lv_at hl 3 rfl) ?_
    refine lv_aload_n hx hb dX3_readGoods_17 rfl (lv_at hl 1 rfl) ?_
    refine lv_iconst (v := 0) hx hb dX3_readGoods_18 (by decide) ?_
    refine lv_bipush (v := 30) hx hb dX3_readGoods_19 (by decide) ?_
    refine kcallV (As := [.int 0, .int 30]) (rest := [.int a3, .ref (y 189)]) ⟨hx, hb, hml, hown, hts⟩ (kc_takeNumber l D ct E y (0 : Int32) (30 : Int32) r3 q4 ju1 hEi) (wqX3_133_kc_takeNumber hts ⟨Nat.le_of_ble_eq_true rfl, Nat.le_of_ble_eq_true rfl⟩) hw hS hA hK hZ hN 8 196 rfl kg196 rfl hl.1 rfl (Nat.le_of_ble_eq_true rfl) dX3_readGoods_21 24 rfl (fun u7 H locs pu7 hw hS => ?_)
    obtain ⟨v8, r9, q10⟩ := u7
    have hv8 : zI (-2147483648) 2147483647 v8 := pu7.1
    have ju7 : kJ r9 := pu7.2.1
    have fu7 : zFr [196] r3 r9 := pu7.2.2.1
    have xu7 : (v8, r9, q10) = (Gk_takeNumber (0 : Int32) (30 : Int32) r3 q4) := pu7.2.2.2.1
    have hE := zc_vrqE xu7 hE
    have hw : zPD D A (kW ct E y r9 q10) H := hw
    refine zfr 24 [.int v8, .int a3, .ref (y 189)] rfl rfl ?_
    refine miast hx hb hK hw hS 189 kg189 g3 (by decide) dX3_readGoods_24 (kW ct E y (zset r9 189 (upd (r9 189) (zn a3) v8)) q10) ks189 (fun H locs hw hS => ?_)
    refine cmgen (P := fun x => kJ x) hw (ju7.set rfl (zI.top _)) (fun r11 er11 hw pr11 => ?_)
    have hE := zletE er11 hE
    refine lv_aload_n hx hb dX3_readGoods_25 rfl (lv_at hl 2 rfl) ?_
    refine va_get (D := D) (ci := 2) (v := .ref (y 189)) hx hb hts hiX2 hown hK hw.1 183 kg183 rfl 5 (by decide) lf167 (fun _ h9 => h9) rfl dX3_readGoods_26 ?_
    refine lv_iload_n hx hb dX3_readGoods_29 rfl (lv_at hl 3 rfl) ?_
    refine miald hx hb hK hw 189 kg189 g3 (by decide) dX3_readGoods_30 (zgenE (zI.top _) (fun v12 ev12 _ => ?_))
    have hE := zletE ev12 hE
    refine lv_iconst (v := (-1)) hx hb dX3_readGoods_31 (by decide) ?_
    refine lv_icmp_eq (tgt := 45) hx hb dX3_readGoods_32 (by decide) (fun c13 => ?_) (fun c13 => ?_)
    · have hE := zifT c13 hE
      have k14 : zI (-1) (-1) (v12) := zI.eqq c13 (zI.lit (a := (-1)) (b := (-1)) (c := (-1)) (by decide))
      refine lv_iconst (v := 0) hx hb dX3_readGoods_45 (by decide) ?_
      exact ziretQ hQ hx hb hr rfl hlocks ((0 : Int32), r11, q10) rfl ⟨((zI.lit (a := 0) (b := 0) (c := 0) (by decide)).w (c := 0) (d := 1) (by decide)), pr11, (hE.symm.trans hX), trivial⟩ hw hS dX3_readGoods_46
    · have hE := zifF c13 hE
      refine lv_aload_n hx hb dX3_readGoods_35 rfl (lv_at hl 1 rfl) ?_
      refine cgets 6 (by decide) hx hb hZ hS hown lf170 dX3_readGoods_36 (ztop (.ref (E (zn 6))) rfl ?_)
      refine kcallV (As := [.ref (E (zn 6))]) (rest := []) ⟨hx, hb, hml, hown, hts⟩ (kc_take l D ct E y 6 r11 q10 ((zI.lit (a := 6) (b := 6) (c := 6) (by decide)).w (c := 0) (d := 32) (by decide)) pr11 hEi) (wqX3_47_kc_take hts ⟨Nat.le_of_ble_eq_true rfl, Nat.le_of_ble_eq_true rfl⟩) hw hS hA hK hZ hN 8 196 rfl kg196 rfl hl.1 rfl (Nat.le_of_ble_eq_true rfl) dX3_readGoods_39 42 rfl (fun u15 H locs pu15 hw hS => ?_)
      obtain ⟨v16, r17, q18⟩ := u15
      have hv16 : zI 0 1 v16 := pu15.1
      have ju15 : kJ r17 := pu15.2.1
      have fu15 : zFr [196] r11 r17 := pu15.2.2.1
      have xu15 : (v16, r17, q18) = (Gk_take 6 r11 q10) := pu15.2.2.2.1
      have hE := zc_vrqE xu15 hE
      have hw : zPD D A (kW ct E y r17 q18) H := hw
      refine zfr 42 [.int v16] rfl rfl ?_
      refine lv_if_ne (tgt := 47) hx hb dX3_readGoods_42 (by decide) (fun c19 => ?_) (fun c19 => ?_)
      · have hE := zifnT c19 hE
        have k20 : zI 1 1 (v16) := zI.neD c19 hv16 (zI.lit (a := 0) (b := 0) (c := 0) (by decide)) (by decide)
        refine lv_aload_n hx hb dX3_readGoods_47 rfl (lv_at hl 2 rfl) ?_
        refine va_get (D := D) (ci := 2) (v := .ref (y 190)) hx hb hts hiX2 hown hK hw.1 183 kg183 rfl 6 (by decide) lf173 (fun _ h9 => h9) rfl dX3_readGoods_48 ?_
        refine lv_iload_n hx hb dX3_readGoods_51 rfl (lv_at hl 3 rfl) ?_
        refine lv_aload_n hx hb dX3_readGoods_52 rfl (lv_at hl 1 rfl) ?_
        refine lv_iconst (v := 0) hx hb dX3_readGoods_53 (by decide) ?_
        refine lv_bipush (v := 99) hx hb dX3_readGoods_54 (by decide) ?_
        refine kcallV (As := [.int 0, .int 99]) (rest := [.int a3, .ref (y 190)]) ⟨hx, hb, hml, hown, hts⟩ (kc_takeNumber l D ct E y (0 : Int32) (99 : Int32) r17 q18 ju15 hEi) (wqX3_133_kc_takeNumber hts ⟨Nat.le_of_ble_eq_true rfl, Nat.le_of_ble_eq_true rfl⟩) hw hS hA hK hZ hN 8 196 rfl kg196 rfl hl.1 rfl (Nat.le_of_ble_eq_true rfl) dX3_readGoods_56 59 rfl (fun u21 H locs pu21 hw hS => ?_)
        obtain ⟨v22, r23, q24⟩ := u21
        have hv22 : zI (-2147483648) 2147483647 v22 := pu21.1
        have ju21 : kJ r23 := pu21.2.1
        have fu21 : zFr [196] r17 r23 := pu21.2.2.1
        have xu21 : (v22, r23, q24) = (Gk_takeNumber (0 : Int32) (99 : Int32) r17 q18) := pu21.2.2.2.1
        have hE := zc_vrqE xu21 hE
        have hw : zPD D A (kW ct E y r23 q24) H := hw
        refine zfr 59 [.int v22, .int a3, .ref (y 190)] rfl rfl ?_
        refine miast hx hb hK hw hS 190 kg190 g3 (by decide) dX3_readGoods_59 (kW ct E y (zset r23 190 (upd (r23 190) (zn a3) v22)) q24) ks190 (fun H locs hw hS => ?_)
        refine cmgen (P := fun x => kJ x) hw (ju21.set rfl (zI.top _)) (fun r25 er25 hw pr25 => ?_)
        have hE := zletE er25 hE
        refine lv_aload_n hx hb dX3_readGoods_60 rfl (lv_at hl 2 rfl) ?_
        refine va_get (D := D) (ci := 2) (v := .ref (y 190)) hx hb hts hiX2 hown hK hw.1 183 kg183 rfl 6 (by decide) lf173 (fun _ h9 => h9) rfl dX3_readGoods_61 ?_
        refine lv_iload_n hx hb dX3_readGoods_64 rfl (lv_at hl 3 rfl) ?_
        refine miald hx hb hK hw 190 kg190 g3 (by decide) dX3_readGoods_65 (zgenE (zI.top _) (fun v26 ev26 _ => ?_))
        have hE := zletE ev26 hE
        refine lv_iconst (v := (-1)) hx hb dX3_readGoods_66 (by decide) ?_
        refine lv_icmp_eq (tgt := 74) hx hb dX3_readGoods_67 (by decide) (fun c27 => ?_) (fun c27 => ?_)
        · have hE := zifT c27 hE
          have k28 : zI (-1) (-1) (v26) := zI.eqq c27 (zI.lit (a := (-1)) (b := (-1)) (c := (-1)) (by decide))
          refine lv_iconst (v := 0) hx hb dX3_readGoods_74 (by decide) ?_
          exact ziretQ hQ hx hb hr rfl hlocks ((0 : Int32), r25, q24) rfl ⟨((zI.lit (a := 0) (b := 0) (c := 0) (by decide)).w (c := 0) (d := 1) (by decide)), pr25, (hE.symm.trans hX), trivial⟩ hw hS dX3_readGoods_75
        · have hE := zifF c27 hE
          refine lv_iconst (v := 1) hx hb dX3_readGoods_70 (by decide) ?_
          refine lv_goto (tgt := 75) hx hb dX3_readGoods_71 (by decide) ?_
          exact ziretQ hQ hx hb hr rfl hlocks ((1 : Int32), r25, q24) rfl ⟨((zI.lit (a := 1) (b := 1) (c := 1) (by decide)).w (c := 0) (d := 1) (by decide)), pr25, (hE.symm.trans hX), trivial⟩ hw hS dX3_readGoods_75
      · have hE := zifnF c19 hE
        have k29 : zI 0 0 (v16) := zI.eqq c19 (zI.lit (a := 0) (b := 0) (c := 0) (by decide))
        refine lv_iconst (v := 0) hx hb dX3_readGoods_45 (by decide) ?_
        exact ziretQ hQ hx hb hr rfl hlocks ((0 : Int32), r17, q18) rfl ⟨((zI.lit (a := 0) (b := 0) (c := 0) (by decide)).w (c := 0) (d := 1) (by decide)), ju15, (hE.symm.trans hX), trivial⟩ hw hS dX3_readGoods_46
  · have hE := zifnF c5 hE
    have k30 : zI 0 0 (v2) := zI.eqq c5 (zI.lit (a := 0) (b := 0) (c := 0) (by decide))
    refine lv_iconst (v := 0) hx hb dX3_readGoods_10 (by decide) ?_
    exact ziretQ hQ hx hb hr rfl hlocks ((0 : Int32), r3, q4) rfl ⟨((zI.lit (a := 0) (b := 0) (c := 0) (by decide)).w (c := 0) (d := 1) (by decide)), ju1, (hE.symm.trans hX), trivial⟩ hw hS dX3_readGoods_11

set_option maxHeartbeats 4000000 in
set_option maxRecDepth 100000 in
theorem kc_readGrows (l : Launch) (D : va_G) (ct : Nat → ClassId) (E : Nat → Nat) (y : Nat → Nat) (r : zRr) (q : zRq) (hJ0 : kJ r) (hEi : kEi E) : cC l yX3_readGrows (.code yX3_readGrows cX3_readGrows 3 (some .boolean) :: wsL_law0) ({ frames := 9, cells := 0, slots := 0, locals := 400 }) D ct E [.ref (y 198), .ref (y 196), .ref (y 183)] (kW ct E y r q) (S := Int32 × zRr × zRq) (fun u => some (.int u.1)) (fun u => zI 0 1 u.1 ∧ kJ u.2.1 ∧ u = (Gk_readGrows r q) ∧ True) (fun u => kW ct E y u.2.1 u.2.2) := by
  refine cofQ cX3_readGrows 3 (some .boolean) (by decide) rfl (Nat.le_of_ble_eq_true rfl) ?_
  intro p e s m below meth c A a9 Q ha9 hx hb hr hml hts hown hlocks hname hK hA hZ hN hQ
  have hown : s.vm.findClass RX3 = some m.cls := hown
  have hiX2 : ∀ w ∈ wsX20, w ∈ .code yX3_readGrows cX3_readGrows 3 (some .boolean) :: wsL_law0 := fun _ h => ki (zs_wsX20 _ h)
  have hiX3 : ∀ w ∈ wsX30, w ∈ .code yX3_readGrows cX3_readGrows 3 (some .boolean) :: wsL_law0 := fun _ h => ki (zs_wsX30 _ h)
  have lf9 := hts (.fieldLink RX3 9 "BeardPass$LandReader" "growsTold" "Z") (ki (zr5 11 rfl))
  have lf198 := hts (.fieldLink RX3 198 "BeardPass$Land" "grows" "I") (ki (zr18 3 rfl))
  obtain ⟨X, hX⟩ : ∃ X, X = (Gk_readGrows r q) := ⟨_, rfl⟩
  intro H locs hw hS ls hl
  have hl : lv_has ls 3 [(0, .ref (y 198)), (1, .ref (y 196)), (2, .ref (y 183))] := hl
  have hE := hX
  unfold Gk_readGrows at hE
  refine lv_aload_n hx hb dX3_readGrows_0 rfl (lv_at hl 0 rfl) ?_
  refine va_get (D := D) (ci := 3) (v := .int (r 198 0)) hx hb hts hiX3 hown hK hw.1 198 kg198 rfl 0 (by decide) lf9 (fun _ h9 => h9) rfl dX3_readGrows_1 (zgenE (lo := 0) (hi := 1) ((show zI 0 1 (r 198 0) from hJ0.i 198 0)) (fun v1 ev1 hv1 => ?_))
  have hE := zletE ev1 hE
  refine lv_if_eq (tgt := 13) hx hb dX3_readGrows_4 (by decide) (fun c2 => ?_) (fun c2 => ?_)
  · have hE := zifT c2 hE
    have k3 : zI 0 0 (v1) := zI.eqq c2 (zI.lit (a := 0) (b := 0) (c := 0) (by decide))
    refine lv_aload_n hx hb dX3_readGrows_13 rfl (lv_at hl 0 rfl) ?_
    refine lv_iconst (v := 1) hx hb dX3_readGrows_14 (by decide) ?_
    refine zput (D := D) (ci := 3) (v := .int 1) (ty := .boolean) hx hb hts hiX3 tyX3 tyX3_ok nmX3 hown hK hw hS 198 kg198 rfl 0 (by decide) lf9 (fun _ h9 => h9) rfl (by decide +kernel) rfl rfl (Nat.le_of_ble_eq_true rfl) dX3_readGrows_15 (kW ct E y (zset r 198 (upd (r 198) 0 (1 : Int32))) q) ks198_0 (fun H locs hw hS => ?_)
    refine cmgen (P := fun x => kJ x) hw (hJ0.set rfl ((zI.lit (a := 1) (b := 1) (c := 1) (by decide)).w (c := 0) (d := 1) (by decide))) (fun r4 er4 hw pr4 => ?_)
    have hE := zletE er4 hE
    refine lv_aload_n hx hb dX3_readGrows_18 rfl (lv_at hl 1 rfl) ?_
    refine kcallV (As := []) (rest := []) ⟨hx, hb, hml, hown, hts⟩ (kc_step l D ct E y r4 q pr4 hEi) (wqX3_112_kc_step hts ⟨Nat.le_of_ble_eq_true rfl, Nat.le_of_ble_eq_true rfl⟩) hw hS hA hK hZ hN 8 196 rfl kg196 rfl hl.1 rfl (Nat.le_of_ble_eq_true rfl) dX3_readGrows_19 22 rfl (fun u5 H locs pu5 hw hS => ?_)
    obtain ⟨r6, q7⟩ := u5
    have ju5 : kJ r6 := pu5.1
    have fu5 : zFr [196] r4 r6 := pu5.2.1
    have xu5 : (r6, q7) = (Gk_step r4 q) := pu5.2.2.1
    have hE := zc_rqE xu5 hE
    have hw : zPD D A (kW ct E y r6 q7) H := hw
    refine zfr 22 [] rfl rfl ?_
    refine lv_aload_n hx hb dX3_readGrows_22 rfl (lv_at hl 2 rfl) ?_
    refine lv_aload_n hx hb dX3_readGrows_23 rfl (lv_at hl 1 rfl) ?_
    refine lv_iconst (v := 0) hx hb dX3_readGrows_24 (by decide) ?_
    refine lv_iconst (v := 5) hx hb dX3_readGrows_25 (by decide) ?_
    refine kcallV (As := [.int 0, .int 5]) (rest := [.ref (y 183)]) ⟨hx, hb, hml, hown, hts⟩ (kc_takeNumber l D ct E y (0 : Int32) (5 : Int32) r6 q7 ju5 hEi) (wqX3_133_kc_takeNumber hts ⟨Nat.le_of_ble_eq_true rfl, Nat.le_of_ble_eq_true rfl⟩) hw hS hA hK hZ hN 8 196 rfl kg196 rfl hl.1 rfl (Nat.le_of_ble_eq_true rfl) dX3_readGrows_26 29 rfl (fun u8 H locs pu8 hw hS => ?_)
    obtain ⟨v9, r10, q11⟩ := u8
    have hv9 : zI (-2147483648) 2147483647 v9 := pu8.1
    have ju8 : kJ r10 := pu8.2.1
    have fu8 : zFr [196] r6 r10 := pu8.2.2.1
    have xu8 : (v9, r10, q11) = (Gk_takeNumber (0 : Int32) (5 : Int32) r6 q7) := pu8.2.2.2.1
    have hE := zc_vrqE xu8 hE
    have hw : zPD D A (kW ct E y r10 q11) H := hw
    refine zfr 29 [.int v9, .ref (y 183)] rfl rfl ?_
    refine zput (D := D) (ci := 2) (v := .int v9) (ty := .int) hx hb hts hiX2 tyX2 tyX2_ok nmX2 hown hK hw hS 183 kg183 rfl 11 (by decide) lf198 (fun _ h9 => h9) rfl (by decide +kernel) rfl rfl (Nat.le_of_ble_eq_true rfl) dX3_readGrows_29 (kW ct E y (zset r10 183 (upd (r10 183) 11 v9)) q11) ks183_11 (fun H locs hw hS => ?_)
    refine cmgen (P := fun x => kJ x) hw (ju8.setl (by decide) (by decide) (zI.top _)) (fun r12 er12 hw pr12 => ?_)
    have hE := zletE er12 hE
    refine lv_aload_n hx hb dX3_readGrows_32 rfl (lv_at hl 2 rfl) ?_
    refine va_get (D := D) (ci := 2) (v := .int (r12 183 11)) hx hb hts hiX2 hown hK hw.1 183 kg183 rfl 11 (by decide) lf198 (fun _ h9 => h9) rfl dX3_readGrows_33 (zgenE (zI.top _) (fun v13 ev13 _ => ?_))
    have hE := zletE ev13 hE
    refine lv_iconst (v := (-1)) hx hb dX3_readGrows_36 (by decide) ?_
    refine lv_icmp_eq (tgt := 44) hx hb dX3_readGrows_37 (by decide) (fun c14 => ?_) (fun c14 => ?_)
    · have hE := zifT c14 hE
      have k15 : zI (-1) (-1) (v13) := zI.eqq c14 (zI.lit (a := (-1)) (b := (-1)) (c := (-1)) (by decide))
      refine lv_iconst (v := 0) hx hb dX3_readGrows_44 (by decide) ?_
      exact ziretQ hQ hx hb hr rfl hlocks ((0 : Int32), r12, q11) rfl ⟨((zI.lit (a := 0) (b := 0) (c := 0) (by decide)).w (c := 0) (d := 1) (by decide)), pr12, (hE.symm.trans hX), trivial⟩ hw hS dX3_readGrows_45
    · have hE := zifF c14 hE
      refine lv_iconst (v := 1) hx hb dX3_readGrows_40 (by decide) ?_
      refine lv_goto (tgt := 45) hx hb dX3_readGrows_41 (by decide) ?_
      exact ziretQ hQ hx hb hr rfl hlocks ((1 : Int32), r12, q11) rfl ⟨((zI.lit (a := 1) (b := 1) (c := 1) (by decide)).w (c := 0) (d := 1) (by decide)), pr12, (hE.symm.trans hX), trivial⟩ hw hS dX3_readGrows_45
  · have hE := zifF c2 hE
    have k16 : zI 1 1 (v1) := zI.neD c2 hv1 (zI.lit (a := 0) (b := 0) (c := 0) (by decide)) (by decide)
    refine lv_aload_n hx hb dX3_readGrows_7 rfl (lv_at hl 1 rfl) ?_
    refine lv_iconst (v := 3) hx hb dX3_readGrows_8 (by decide) ?_
    refine kcallV (As := [.int 3]) (rest := []) ⟨hx, hb, hml, hown, hts⟩ (kc_wrong l D ct E y (3 : Int32) r q hJ0 hEi) (wqX3_105_kc_wrong hts ⟨Nat.le_of_ble_eq_true rfl, Nat.le_of_ble_eq_true rfl⟩) hw hS hA hK hZ hN 8 196 rfl kg196 rfl hl.1 rfl (Nat.le_of_ble_eq_true rfl) dX3_readGrows_9 12 rfl (fun u17 H locs pu17 hw hS => ?_)
    obtain ⟨v18, r19⟩ := u17
    have hv18 : zI 0 0 v18 := pu17.1
    have ju17 : kJ r19 := pu17.2.1
    have fu17 : zFr [196] r r19 := pu17.2.2.1
    have xu17 : (v18, r19) = (Gk_wrong (3 : Int32) r q) := pu17.2.2.2.1
    have hE := zc_vrE xu17 hE
    have hw : zPD D A (kW ct E y r19 q) H := hw
    refine zfr 12 [.int v18] rfl rfl ?_
    exact ziretQ hQ hx hb hr ((hv18.w (c := 0) (d := 1) (by decide)).rn) hlocks (v18, r19, q) rfl ⟨(hv18.w (c := 0) (d := 1) (by decide)), ju17, (hE.symm.trans hX), trivial⟩ hw hS dX3_readGrows_12

set_option maxHeartbeats 4000000 in
set_option maxRecDepth 100000 in
theorem kc_readInch (l : Launch) (D : va_G) (ct : Nat → ClassId) (E : Nat → Nat) (y : Nat → Nat) (r : zRr) (q : zRq) (hJ0 : kJ r) (hEi : kEi E) : cC l yX3_readInch (.code yX3_readInch cX3_readInch 3 (some .boolean) :: wsL_law0) ({ frames := 9, cells := 0, slots := 0, locals := 400 }) D ct E [.ref (y 198), .ref (y 196), .ref (y 183)] (kW ct E y r q) (S := Int32 × zRr × zRq) (fun u => some (.int u.1)) (fun u => zI 0 1 u.1 ∧ kJ u.2.1 ∧ u = (Gk_readInch r q) ∧ True) (fun u => kW ct E y u.2.1 u.2.2) := by
  refine cofQ cX3_readInch 3 (some .boolean) (by decide) rfl (Nat.le_of_ble_eq_true rfl) ?_
  intro p e s m below meth c A a9 Q ha9 hx hb hr hml hts hown hlocks hname hK hA hZ hN hQ
  have hown : s.vm.findClass RX3 = some m.cls := hown
  have hiX2 : ∀ w ∈ wsX20, w ∈ .code yX3_readInch cX3_readInch 3 (some .boolean) :: wsL_law0 := fun _ h => ki (zs_wsX20 _ h)
  have hiX3 : ∀ w ∈ wsX30, w ∈ .code yX3_readInch cX3_readInch 3 (some .boolean) :: wsL_law0 := fun _ h => ki (zs_wsX30 _ h)
  have lf15 := hts (.fieldLink RX3 15 "BeardPass$LandReader" "inchTold" "Z") (ki (zr5 12 rfl))
  have lf201 := hts (.fieldLink RX3 201 "BeardPass$Land" "inch" "I") (ki (zr18 8 rfl))
  obtain ⟨X, hX⟩ : ∃ X, X = (Gk_readInch r q) := ⟨_, rfl⟩
  intro H locs hw hS ls hl
  have hl : lv_has ls 3 [(0, .ref (y 198)), (1, .ref (y 196)), (2, .ref (y 183))] := hl
  have hE := hX
  unfold Gk_readInch at hE
  refine lv_aload_n hx hb dX3_readInch_0 rfl (lv_at hl 0 rfl) ?_
  refine va_get (D := D) (ci := 3) (v := .int (r 198 1)) hx hb hts hiX3 hown hK hw.1 198 kg198 rfl 1 (by decide) lf15 (fun _ h9 => h9) rfl dX3_readInch_1 (zgenE (lo := 0) (hi := 1) ((show zI 0 1 (r 198 1) from hJ0.i 198 1)) (fun v1 ev1 hv1 => ?_))
  have hE := zletE ev1 hE
  refine lv_if_eq (tgt := 13) hx hb dX3_readInch_4 (by decide) (fun c2 => ?_) (fun c2 => ?_)
  · have hE := zifT c2 hE
    have k3 : zI 0 0 (v1) := zI.eqq c2 (zI.lit (a := 0) (b := 0) (c := 0) (by decide))
    refine lv_aload_n hx hb dX3_readInch_13 rfl (lv_at hl 0 rfl) ?_
    refine lv_iconst (v := 1) hx hb dX3_readInch_14 (by decide) ?_
    refine zput (D := D) (ci := 3) (v := .int 1) (ty := .boolean) hx hb hts hiX3 tyX3 tyX3_ok nmX3 hown hK hw hS 198 kg198 rfl 1 (by decide) lf15 (fun _ h9 => h9) rfl (by decide +kernel) rfl rfl (Nat.le_of_ble_eq_true rfl) dX3_readInch_15 (kW ct E y (zset r 198 (upd (r 198) 1 (1 : Int32))) q) ks198_1 (fun H locs hw hS => ?_)
    refine cmgen (P := fun x => kJ x) hw (hJ0.set rfl ((zI.lit (a := 1) (b := 1) (c := 1) (by decide)).w (c := 0) (d := 1) (by decide))) (fun r4 er4 hw pr4 => ?_)
    have hE := zletE er4 hE
    refine lv_aload_n hx hb dX3_readInch_18 rfl (lv_at hl 1 rfl) ?_
    refine kcallV (As := []) (rest := []) ⟨hx, hb, hml, hown, hts⟩ (kc_step l D ct E y r4 q pr4 hEi) (wqX3_112_kc_step hts ⟨Nat.le_of_ble_eq_true rfl, Nat.le_of_ble_eq_true rfl⟩) hw hS hA hK hZ hN 8 196 rfl kg196 rfl hl.1 rfl (Nat.le_of_ble_eq_true rfl) dX3_readInch_19 22 rfl (fun u5 H locs pu5 hw hS => ?_)
    obtain ⟨r6, q7⟩ := u5
    have ju5 : kJ r6 := pu5.1
    have fu5 : zFr [196] r4 r6 := pu5.2.1
    have xu5 : (r6, q7) = (Gk_step r4 q) := pu5.2.2.1
    have hE := zc_rqE xu5 hE
    have hw : zPD D A (kW ct E y r6 q7) H := hw
    refine zfr 22 [] rfl rfl ?_
    refine lv_aload_n hx hb dX3_readInch_22 rfl (lv_at hl 2 rfl) ?_
    refine lv_aload_n hx hb dX3_readInch_23 rfl (lv_at hl 1 rfl) ?_
    refine lv_iconst (v := 1) hx hb dX3_readInch_24 (by decide) ?_
    refine lv_bipush (v := 9) hx hb dX3_readInch_25 (by decide) ?_
    refine kcallV (As := [.int 1, .int 9]) (rest := [.ref (y 183)]) ⟨hx, hb, hml, hown, hts⟩ (kc_takeNumber l D ct E y (1 : Int32) (9 : Int32) r6 q7 ju5 hEi) (wqX3_133_kc_takeNumber hts ⟨Nat.le_of_ble_eq_true rfl, Nat.le_of_ble_eq_true rfl⟩) hw hS hA hK hZ hN 8 196 rfl kg196 rfl hl.1 rfl (Nat.le_of_ble_eq_true rfl) dX3_readInch_27 30 rfl (fun u8 H locs pu8 hw hS => ?_)
    obtain ⟨v9, r10, q11⟩ := u8
    have hv9 : zI (-2147483648) 2147483647 v9 := pu8.1
    have ju8 : kJ r10 := pu8.2.1
    have fu8 : zFr [196] r6 r10 := pu8.2.2.1
    have xu8 : (v9, r10, q11) = (Gk_takeNumber (1 : Int32) (9 : Int32) r6 q7) := pu8.2.2.2.1
    have hE := zc_vrqE xu8 hE
    have hw : zPD D A (kW ct E y r10 q11) H := hw
    refine zfr 30 [.int v9, .ref (y 183)] rfl rfl ?_
    refine zput (D := D) (ci := 2) (v := .int v9) (ty := .int) hx hb hts hiX2 tyX2 tyX2_ok nmX2 hown hK hw hS 183 kg183 rfl 12 (by decide) lf201 (fun _ h9 => h9) rfl (by decide +kernel) rfl rfl (Nat.le_of_ble_eq_true rfl) dX3_readInch_30 (kW ct E y (zset r10 183 (upd (r10 183) 12 v9)) q11) ks183_12 (fun H locs hw hS => ?_)
    refine cmgen (P := fun x => kJ x) hw (ju8.setl (by decide) (by decide) (zI.top _)) (fun r12 er12 hw pr12 => ?_)
    have hE := zletE er12 hE
    refine lv_aload_n hx hb dX3_readInch_33 rfl (lv_at hl 2 rfl) ?_
    refine va_get (D := D) (ci := 2) (v := .int (r12 183 12)) hx hb hts hiX2 hown hK hw.1 183 kg183 rfl 12 (by decide) lf201 (fun _ h9 => h9) rfl dX3_readInch_34 (zgenE (zI.top _) (fun v13 ev13 _ => ?_))
    have hE := zletE ev13 hE
    refine lv_iconst (v := (-1)) hx hb dX3_readInch_37 (by decide) ?_
    refine lv_icmp_eq (tgt := 45) hx hb dX3_readInch_38 (by decide) (fun c14 => ?_) (fun c14 => ?_)
    · have hE := zifT c14 hE
      have k15 : zI (-1) (-1) (v13) := zI.eqq c14 (zI.lit (a := (-1)) (b := (-1)) (c := (-1)) (by decide))
      refine lv_iconst (v := 0) hx hb dX3_readInch_45 (by decide) ?_
      exact ziretQ hQ hx hb hr rfl hlocks ((0 : Int32), r12, q11) rfl ⟨((zI.lit (a := 0) (b := 0) (c := 0) (by decide)).w (c := 0) (d := 1) (by decide)), pr12, (hE.symm.trans hX), trivial⟩ hw hS dX3_readInch_46
    · have hE := zifF c14 hE
      refine lv_iconst (v := 1) hx hb dX3_readInch_41 (by decide) ?_
      refine lv_goto (tgt := 46) hx hb dX3_readInch_42 (by decide) ?_
      exact ziretQ hQ hx hb hr rfl hlocks ((1 : Int32), r12, q11) rfl ⟨((zI.lit (a := 1) (b := 1) (c := 1) (by decide)).w (c := 0) (d := 1) (by decide)), pr12, (hE.symm.trans hX), trivial⟩ hw hS dX3_readInch_46
  · have hE := zifF c2 hE
    have k16 : zI 1 1 (v1) := zI.neD c2 hv1 (zI.lit (a := 0) (b := 0) (c := 0) (by decide)) (by decide)
    refine lv_aload_n hx hb dX3_readInch_7 rfl (lv_at hl 1 rfl) ?_
    refine lv_iconst (v := 3) hx hb dX3_readInch_8 (by decide) ?_
    refine kcallV (As := [.int 3]) (rest := []) ⟨hx, hb, hml, hown, hts⟩ (kc_wrong l D ct E y (3 : Int32) r q hJ0 hEi) (wqX3_105_kc_wrong hts ⟨Nat.le_of_ble_eq_true rfl, Nat.le_of_ble_eq_true rfl⟩) hw hS hA hK hZ hN 8 196 rfl kg196 rfl hl.1 rfl (Nat.le_of_ble_eq_true rfl) dX3_readInch_9 12 rfl (fun u17 H locs pu17 hw hS => ?_)
    obtain ⟨v18, r19⟩ := u17
    have hv18 : zI 0 0 v18 := pu17.1
    have ju17 : kJ r19 := pu17.2.1
    have fu17 : zFr [196] r r19 := pu17.2.2.1
    have xu17 : (v18, r19) = (Gk_wrong (3 : Int32) r q) := pu17.2.2.2.1
    have hE := zc_vrE xu17 hE
    have hw : zPD D A (kW ct E y r19 q) H := hw
    refine zfr 12 [.int v18] rfl rfl ?_
    exact ziretQ hQ hx hb hr ((hv18.w (c := 0) (d := 1) (by decide)).rn) hlocks (v18, r19, q) rfl ⟨(hv18.w (c := 0) (d := 1) (by decide)), ju17, (hE.symm.trans hX), trivial⟩ hw hS dX3_readInch_12

set_option maxHeartbeats 4000000 in
set_option maxRecDepth 100000 in
theorem kc_beginReads (l : Launch) (D : va_G) (ct : Nat → ClassId) (E : Nat → Nat) (y : Nat → Nat) (r : zRr) (q : zRq) (hJ0 : kJ r) (hEi : kEi E) : cC l yX3_beginReads (.code yX3_beginReads cX3_beginReads 3 (some .boolean) :: wsL_law0) ({ frames := 8, cells := 0, slots := 0, locals := 360 }) D ct E [.ref (y 198), .ref (y 196), .ref (y 183)] (kW ct E y r q) (S := Int32 × zRr × zRq) (fun u => some (.int u.1)) (fun u => zI 0 1 u.1 ∧ kJ u.2.1 ∧ u = (Gk_beginReads r q) ∧ True) (fun u => kW ct E y u.2.1 u.2.2) := by
  refine cofQ cX3_beginReads 3 (some .boolean) (by decide) rfl (Nat.le_of_ble_eq_true rfl) ?_
  intro p e s m below meth c A a9 Q ha9 hx hb hr hml hts hown hlocks hname hK hA hZ hN hQ
  have hown : s.vm.findClass RX3 = some m.cls := hown
  have hiX2 : ∀ w ∈ wsX20, w ∈ .code yX3_beginReads cX3_beginReads 3 (some .boolean) :: wsL_law0 := fun _ h => ki (zs_wsX20 _ h)
  have hiX3 : ∀ w ∈ wsX30, w ∈ .code yX3_beginReads cX3_beginReads 3 (some .boolean) :: wsL_law0 := fun _ h => ki (zs_wsX30 _ h)
  have hiX4 : ∀ w ∈ wsX40, w ∈ .code yX3_beginReads cX3_beginReads 3 (some .boolean) :: wsL_law0 := fun _ h => ki (zs_wsX40 _ h)
  have lf18 := hts (.fieldLink RX3 18 "BeardPass$LandReader" "readsTold" "Z") (ki (zr5 13 rfl))
  have lf95 := hts (.fieldLink RX3 95 "BeardPass$Land" "law" "LBeardPass$Law;") (ki (zr15 0 rfl))
  have lf204 := hts (.fieldLink RX3 204 "BeardPass$Law" "size" "I") (ki (zr18 13 rfl))
  obtain ⟨X, hX⟩ : ∃ X, X = (Gk_beginReads r q) := ⟨_, rfl⟩
  intro H locs hw hS ls hl
  have hl : lv_has ls 3 [(0, .ref (y 198)), (1, .ref (y 196)), (2, .ref (y 183))] := hl
  have hE := hX
  unfold Gk_beginReads at hE
  refine lv_aload_n hx hb dX3_beginReads_0 rfl (lv_at hl 0 rfl) ?_
  refine va_get (D := D) (ci := 3) (v := .int (r 198 2)) hx hb hts hiX3 hown hK hw.1 198 kg198 rfl 2 (by decide) lf18 (fun _ h9 => h9) rfl dX3_beginReads_1 (zgenE (lo := 0) (hi := 1) ((show zI 0 1 (r 198 2) from hJ0.i 198 2)) (fun v1 ev1 hv1 => ?_))
  have hE := zletE ev1 hE
  refine lv_if_eq (tgt := 13) hx hb dX3_beginReads_4 (by decide) (fun c2 => ?_) (fun c2 => ?_)
  · have hE := zifT c2 hE
    have k3 : zI 0 0 (v1) := zI.eqq c2 (zI.lit (a := 0) (b := 0) (c := 0) (by decide))
    refine lv_aload_n hx hb dX3_beginReads_13 rfl (lv_at hl 0 rfl) ?_
    refine lv_iconst (v := 1) hx hb dX3_beginReads_14 (by decide) ?_
    refine zput (D := D) (ci := 3) (v := .int 1) (ty := .boolean) hx hb hts hiX3 tyX3 tyX3_ok nmX3 hown hK hw hS 198 kg198 rfl 2 (by decide) lf18 (fun _ h9 => h9) rfl (by decide +kernel) rfl rfl (Nat.le_of_ble_eq_true rfl) dX3_beginReads_15 (kW ct E y (zset r 198 (upd (r 198) 2 (1 : Int32))) q) ks198_2 (fun H locs hw hS => ?_)
    refine cmgen (P := fun x => kJ x) hw (hJ0.set rfl ((zI.lit (a := 1) (b := 1) (c := 1) (by decide)).w (c := 0) (d := 1) (by decide))) (fun r4 er4 hw pr4 => ?_)
    have hE := zletE er4 hE
    refine lv_aload_n hx hb dX3_beginReads_18 rfl (lv_at hl 1 rfl) ?_
    refine kcallV (As := []) (rest := []) ⟨hx, hb, hml, hown, hts⟩ (kc_step l D ct E y r4 q pr4 hEi) (wqX3_112_kc_step hts ⟨Nat.le_of_ble_eq_true rfl, Nat.le_of_ble_eq_true rfl⟩) hw hS hA hK hZ hN 8 196 rfl kg196 rfl hl.1 rfl (Nat.le_of_ble_eq_true rfl) dX3_beginReads_19 22 rfl (fun u5 H locs pu5 hw hS => ?_)
    obtain ⟨r6, q7⟩ := u5
    have ju5 : kJ r6 := pu5.1
    have fu5 : zFr [196] r4 r6 := pu5.2.1
    have xu5 : (r6, q7) = (Gk_step r4 q) := pu5.2.2.1
    have hE := zc_rqE xu5 hE
    have hw : zPD D A (kW ct E y r6 q7) H := hw
    refine zfr 22 [] rfl rfl ?_
    refine lv_aload_n hx hb dX3_beginReads_22 rfl (lv_at hl 2 rfl) ?_
    refine va_get (D := D) (ci := 2) (v := .ref (y 192)) hx hb hts hiX2 hown hK hw.1 183 kg183 rfl 8 (by decide) lf95 (fun _ h9 => h9) rfl dX3_beginReads_23 ?_
    refine lv_iconst (v := 0) hx hb dX3_beginReads_26 (by decide) ?_
    refine zput (D := D) (ci := 4) (v := .int 0) (ty := .int) hx hb hts hiX4 tyX4 tyX4_ok nmX4 hown hK hw hS 192 kg192 rfl 2 (by decide) lf204 (fun _ h9 => h9) rfl (by decide +kernel) rfl rfl (Nat.le_of_ble_eq_true rfl) dX3_beginReads_27 (kW ct E y (zset r6 192 (upd (r6 192) 2 (0 : Int32))) q7) ks192_2 (fun H locs hw hS => ?_)
    refine cmgen (P := fun x => kJ x) hw (ju5.set rfl ((zI.lit (a := 0) (b := 0) (c := 0) (by decide)).w (c := 0) (d := 1000) (by decide))) (fun r8 er8 hw pr8 => ?_)
    have hE := zletE er8 hE
    refine lv_iconst (v := 1) hx hb dX3_beginReads_30 (by decide) ?_
    exact ziretQ hQ hx hb hr rfl hlocks ((1 : Int32), r8, q7) rfl ⟨((zI.lit (a := 1) (b := 1) (c := 1) (by decide)).w (c := 0) (d := 1) (by decide)), pr8, (hE.symm.trans hX), trivial⟩ hw hS dX3_beginReads_31
  · have hE := zifF c2 hE
    have k9 : zI 1 1 (v1) := zI.neD c2 hv1 (zI.lit (a := 0) (b := 0) (c := 0) (by decide)) (by decide)
    refine lv_aload_n hx hb dX3_beginReads_7 rfl (lv_at hl 1 rfl) ?_
    refine lv_iconst (v := 3) hx hb dX3_beginReads_8 (by decide) ?_
    refine kcallV (As := [.int 3]) (rest := []) ⟨hx, hb, hml, hown, hts⟩ (kc_wrong l D ct E y (3 : Int32) r q hJ0 hEi) (wqX3_105_kc_wrong hts ⟨Nat.le_of_ble_eq_true rfl, Nat.le_of_ble_eq_true rfl⟩) hw hS hA hK hZ hN 8 196 rfl kg196 rfl hl.1 rfl (Nat.le_of_ble_eq_true rfl) dX3_beginReads_9 12 rfl (fun u10 H locs pu10 hw hS => ?_)
    obtain ⟨v11, r12⟩ := u10
    have hv11 : zI 0 0 v11 := pu10.1
    have ju10 : kJ r12 := pu10.2.1
    have fu10 : zFr [196] r r12 := pu10.2.2.1
    have xu10 : (v11, r12) = (Gk_wrong (3 : Int32) r q) := pu10.2.2.2.1
    have hE := zc_vrE xu10 hE
    have hw : zPD D A (kW ct E y r12 q) H := hw
    refine zfr 12 [.int v11] rfl rfl ?_
    exact ziretQ hQ hx hb hr ((hv11.w (c := 0) (d := 1) (by decide)).rn) hlocks (v11, r12, q) rfl ⟨(hv11.w (c := 0) (d := 1) (by decide)), ju10, (hE.symm.trans hX), trivial⟩ hw hS dX3_beginReads_12

set_option maxHeartbeats 4000000 in
set_option maxRecDepth 100000 in
theorem kc_readLineL (l : Launch) (D : va_G) (ct : Nat → ClassId) (E : Nat → Nat) (y : Nat → Nat) (r : zRr) (q : zRq) (hJ0 : kJ r) (hEi : kEi E) : cC l yX3_readLine (.code yX3_readLine cX3_readLine 3 (some .boolean) :: wsL_law0) ({ frames := 37, cells := 0, slots := 0, locals := 1520 }) D ct E [.ref (y 198), .ref (y 196), .ref (y 183)] (kW ct E y r q) (S := Int32 × zRr × zRq) (fun u => some (.int u.1)) (fun u => zI 0 1 u.1 ∧ kJ u.2.1 ∧ u = (Gk_readLineL r q) ∧ True) (fun u => kW ct E y u.2.1 u.2.2) := by
  refine cofQ cX3_readLine 3 (some .boolean) (by decide) rfl (Nat.le_of_ble_eq_true rfl) ?_
  intro p e s m below meth c A a9 Q ha9 hx hb hr hml hts hown hlocks hname hK hA hZ hN hQ
  have hown : s.vm.findClass RX3 = some m.cls := hown
  have hiX2 : ∀ w ∈ wsX20, w ∈ .code yX3_readLine cX3_readLine 3 (some .boolean) :: wsL_law0 := fun _ h => ki (zs_wsX20 _ h)
  have hiX9 : ∀ w ∈ wsX90, w ∈ .code yX3_readLine cX3_readLine 3 (some .boolean) :: wsL_law0 := fun _ h => ki (zs_wsX90 _ h)
  have lf31 := hts (.fieldLink RX3 31 "BeardPass$Tape" "sort" "LBeardPass$Sort;") (ki (zr10 15 rfl))
  have lf51 := hts (.fieldLink RX3 51 "BeardPass$Sort" "TOWN" "LBeardPass$Sort;") (ki (zr14 17 rfl))
  have lf57 := hts (.fieldLink RX3 57 "BeardPass$Sort" "ROAD" "LBeardPass$Sort;") (ki (zr14 18 rfl))
  have lf63 := hts (.fieldLink RX3 63 "BeardPass$Sort" "PERSON" "LBeardPass$Sort;") (ki (zr14 19 rfl))
  have lf69 := hts (.fieldLink RX3 69 "BeardPass$Land" "persons" "I") (ki (zr14 20 rfl))
  have lf77 := hts (.fieldLink RX3 77 "BeardPass$Sort" "GROWS" "LBeardPass$Sort;") (ki (zr14 21 rfl))
  have lf83 := hts (.fieldLink RX3 83 "BeardPass$Sort" "INCH" "LBeardPass$Sort;") (ki (zr14 22 rfl))
  have lf89 := hts (.fieldLink RX3 89 "BeardPass$Sort" "READS" "LBeardPass$Sort;") (ki (zr14 23 rfl))
  have lf95 := hts (.fieldLink RX3 95 "BeardPass$Land" "law" "LBeardPass$Law;") (ki (zr15 0 rfl))
  obtain ⟨X, hX⟩ : ∃ X, X = (Gk_readLineL r q) := ⟨_, rfl⟩
  intro H locs hw hS ls hl
  have hl : lv_has ls 3 [(0, .ref (y 198)), (1, .ref (y 196)), (2, .ref (y 183))] := hl
  have hE := hX
  unfold Gk_readLineL at hE
  refine lv_aload_n hx hb dX3_readLine_0 rfl (lv_at hl 1 rfl) ?_
  refine va_get (D := D) (ci := 8) (v := .ref (E (zn (r 196 4)))) hx hb hts hiX9 hown hK hw.1 196 kg196 rfl 4 (by decide) lf31 (fun _ h9 => h9) rfl dX3_readLine_1 (cgenSE (show zI 0 32 (r 196 4) from hJ0.i 196 4) (fun v1 ev1 hv1 => ?_))
  have hE := zletE ev1 hE
  refine cgets 0 (by decide) hx hb hZ hS hown lf51 dX3_readLine_4 (ztop (.ref (E (zn 0))) rfl ?_)
  refine cxacmp_ne (a := v1) (b := (0 : Int32)) (tgt := 17) hEi hv1 ((zI.lit (a := 0) (b := 0) (c := 0) (by decide)).w (c := 0) (d := 32) (by decide)) hx hb dX3_readLine_7 (by decide) (fun c2 => ?_) (fun c2 => ?_)
  · have hE := zifnT c2 hE
    refine lv_aload_n hx hb dX3_readLine_17 rfl (lv_at hl 1 rfl) ?_
    refine va_get (D := D) (ci := 8) (v := .ref (E (zn (r 196 4)))) hx hb hts hiX9 hown hK hw.1 196 kg196 rfl 4 (by decide) lf31 (fun _ h9 => h9) rfl dX3_readLine_18 (cgenSE (show zI 0 32 (r 196 4) from hJ0.i 196 4) (fun v3 ev3 hv3 => ?_))
    have hE := zletE ev3 hE
    refine cgets 2 (by decide) hx hb hZ hS hown lf57 dX3_readLine_21 (ztop (.ref (E (zn 2))) rfl ?_)
    refine cxacmp_ne (a := v3) (b := (2 : Int32)) (tgt := 34) hEi hv3 ((zI.lit (a := 2) (b := 2) (c := 2) (by decide)).w (c := 0) (d := 32) (by decide)) hx hb dX3_readLine_24 (by decide) (fun c4 => ?_) (fun c4 => ?_)
    · have hE := zifnT c4 hE
      refine lv_aload_n hx hb dX3_readLine_34 rfl (lv_at hl 1 rfl) ?_
      refine va_get (D := D) (ci := 8) (v := .ref (E (zn (r 196 4)))) hx hb hts hiX9 hown hK hw.1 196 kg196 rfl 4 (by decide) lf31 (fun _ h9 => h9) rfl dX3_readLine_35 (cgenSE (show zI 0 32 (r 196 4) from hJ0.i 196 4) (fun v5 ev5 hv5 => ?_))
      have hE := zletE ev5 hE
      refine cgets 3 (by decide) hx hb hZ hS hown lf63 dX3_readLine_38 (ztop (.ref (E (zn 3))) rfl ?_)
      refine cxacmp_ne (a := v5) (b := (3 : Int32)) (tgt := 74) hEi hv5 ((zI.lit (a := 3) (b := 3) (c := 3) (by decide)).w (c := 0) (d := 32) (by decide)) hx hb dX3_readLine_41 (by decide) (fun c6 => ?_) (fun c6 => ?_)
      · have hE := zifnT c6 hE
        refine lv_aload_n hx hb dX3_readLine_74 rfl (lv_at hl 1 rfl) ?_
        refine va_get (D := D) (ci := 8) (v := .ref (E (zn (r 196 4)))) hx hb hts hiX9 hown hK hw.1 196 kg196 rfl 4 (by decide) lf31 (fun _ h9 => h9) rfl dX3_readLine_75 (cgenSE (show zI 0 32 (r 196 4) from hJ0.i 196 4) (fun v7 ev7 hv7 => ?_))
        have hE := zletE ev7 hE
        refine cgets 7 (by decide) hx hb hZ hS hown lf77 dX3_readLine_78 (ztop (.ref (E (zn 7))) rfl ?_)
        refine cxacmp_ne (a := v7) (b := (7 : Int32)) (tgt := 91) hEi hv7 ((zI.lit (a := 7) (b := 7) (c := 7) (by decide)).w (c := 0) (d := 32) (by decide)) hx hb dX3_readLine_81 (by decide) (fun c8 => ?_) (fun c8 => ?_)
        · have hE := zifnT c8 hE
          refine lv_aload_n hx hb dX3_readLine_91 rfl (lv_at hl 1 rfl) ?_
          refine va_get (D := D) (ci := 8) (v := .ref (E (zn (r 196 4)))) hx hb hts hiX9 hown hK hw.1 196 kg196 rfl 4 (by decide) lf31 (fun _ h9 => h9) rfl dX3_readLine_92 (cgenSE (show zI 0 32 (r 196 4) from hJ0.i 196 4) (fun v9 ev9 hv9 => ?_))
          have hE := zletE ev9 hE
          refine cgets 8 (by decide) hx hb hZ hS hown lf83 dX3_readLine_95 (ztop (.ref (E (zn 8))) rfl ?_)
          refine cxacmp_ne (a := v9) (b := (8 : Int32)) (tgt := 108) hEi hv9 ((zI.lit (a := 8) (b := 8) (c := 8) (by decide)).w (c := 0) (d := 32) (by decide)) hx hb dX3_readLine_98 (by decide) (fun c10 => ?_) (fun c10 => ?_)
          · have hE := zifnT c10 hE
            refine lv_aload_n hx hb dX3_readLine_108 rfl (lv_at hl 1 rfl) ?_
            refine va_get (D := D) (ci := 8) (v := .ref (E (zn (r 196 4)))) hx hb hts hiX9 hown hK hw.1 196 kg196 rfl 4 (by decide) lf31 (fun _ h9 => h9) rfl dX3_readLine_109 (cgenSE (show zI 0 32 (r 196 4) from hJ0.i 196 4) (fun v11 ev11 hv11 => ?_))
            have hE := zletE ev11 hE
            refine cgets 9 (by decide) hx hb hZ hS hown lf89 dX3_readLine_112 (ztop (.ref (E (zn 9))) rfl ?_)
            refine cxacmp_ne (a := v11) (b := (9 : Int32)) (tgt := 145) hEi hv11 ((zI.lit (a := 9) (b := 9) (c := 9) (by decide)).w (c := 0) (d := 32) (by decide)) hx hb dX3_readLine_115 (by decide) (fun c12 => ?_) (fun c12 => ?_)
            · have hE := zifnT c12 hE
              refine lv_aload_n hx hb dX3_readLine_145 rfl (lv_at hl 1 rfl) ?_
              refine lv_iconst (v := 1) hx hb dX3_readLine_146 (by decide) ?_
              refine kcallV (As := [.int 1]) (rest := []) ⟨hx, hb, hml, hown, hts⟩ (kc_wrong l D ct E y (1 : Int32) r q hJ0 hEi) (wqX3_105_kc_wrong hts ⟨Nat.le_of_ble_eq_true rfl, Nat.le_of_ble_eq_true rfl⟩) hw hS hA hK hZ hN 8 196 rfl kg196 rfl hl.1 rfl (Nat.le_of_ble_eq_true rfl) dX3_readLine_147 150 rfl (fun u13 H locs pu13 hw hS => ?_)
              obtain ⟨v14, r15⟩ := u13
              have hv14 : zI 0 0 v14 := pu13.1
              have ju13 : kJ r15 := pu13.2.1
              have fu13 : zFr [196] r r15 := pu13.2.2.1
              have xu13 : (v14, r15) = (Gk_wrong (1 : Int32) r q) := pu13.2.2.2.1
              have hE := zc_vrE xu13 hE
              have hw : zPD D A (kW ct E y r15 q) H := hw
              refine zfr 150 [.int v14] rfl rfl ?_
              exact ziretQ hQ hx hb hr ((hv14.w (c := 0) (d := 1) (by decide)).rn) hlocks (v14, r15, q) rfl ⟨(hv14.w (c := 0) (d := 1) (by decide)), ju13, (hE.symm.trans hX), trivial⟩ hw hS dX3_readLine_150
            · have hE := zifnF c12 hE
              refine lv_aload_n hx hb dX3_readLine_118 rfl (lv_at hl 0 rfl) ?_
              refine lv_aload_n hx hb dX3_readLine_119 rfl (lv_at hl 1 rfl) ?_
              refine lv_aload_n hx hb dX3_readLine_120 rfl (lv_at hl 2 rfl) ?_
              refine kcallV (As := [.ref (y 196), .ref (y 183)]) (rest := []) ⟨hx, hb, hml, hown, hts⟩ (kc_beginReads l D ct E y r q hJ0 hEi) (wqX3_92_kc_beginReads hts ⟨Nat.le_of_ble_eq_true rfl, Nat.le_of_ble_eq_true rfl⟩) hw hS hA hK hZ hN 3 198 rfl kg198 rfl hl.1 rfl (Nat.le_of_ble_eq_true rfl) dX3_readLine_121 124 rfl (fun u16 H locs pu16 hw hS => ?_)
              obtain ⟨v17, r18, q19⟩ := u16
              have hv17 : zI 0 1 v17 := pu16.1
              have ju16 : kJ r18 := pu16.2.1
              have xu16 : (v17, r18, q19) = (Gk_beginReads r q) := pu16.2.2.1
              have hE := zc_vrqE xu16 hE
              have hw : zPD D A (kW ct E y r18 q19) H := hw
              refine zfr 124 [.int v17] rfl rfl ?_
              refine lv_if_eq (tgt := 143) hx hb dX3_readLine_124 (by decide) (fun c20 => ?_) (fun c20 => ?_)
              · have hE := zifT c20 hE
                have k21 : zI 0 0 (v17) := zI.eqq c20 (zI.lit (a := 0) (b := 0) (c := 0) (by decide))
                refine lv_iconst (v := 0) hx hb dX3_readLine_143 (by decide) ?_
                exact ziretQ hQ hx hb hr rfl hlocks ((0 : Int32), r18, q19) rfl ⟨((zI.lit (a := 0) (b := 0) (c := 0) (by decide)).w (c := 0) (d := 1) (by decide)), ju16, (hE.symm.trans hX), trivial⟩ hw hS dX3_readLine_144
              · have hE := zifF c20 hE
                have k22 : zI 1 1 (v17) := zI.neD c20 hv17 (zI.lit (a := 0) (b := 0) (c := 0) (by decide)) (by decide)
                refine lv_aload_n hx hb dX3_readLine_127 rfl (lv_at hl 2 rfl) ?_
                refine va_get (D := D) (ci := 2) (v := .ref (y 192)) hx hb hts hiX2 hown hK hw.1 183 kg183 rfl 8 (by decide) lf95 (fun _ h9 => h9) rfl dX3_readLine_128 ?_
                refine lv_aload_n hx hb dX3_readLine_131 rfl (lv_at hl 1 rfl) ?_
                refine lv_iconst (v := 0) hx hb dX3_readLine_132 (by decide) ?_
                refine zcallW (va_runVN (C := RX4) (As := [.ref (y 196), .int 0]) (rest := []) ⟨hx, hb, hml, hown, hts⟩ (kc_readWhole0 l D ct E y r18 q19 ju16 hEi H.size) ⟨va_cnB 2 hts (kgN (zr18 16 rfl)) rfl rfl rfl (hN.1 (RX3, 99, yX4_readWhole, RX11) (List.mem_of_getElem? (i := 12) rfl)) (hts (.initialized RX4) (ki (zr4 12 rfl))) (by decide +kernel) ⟨Nat.le_of_ble_eq_true rfl, Nat.le_of_ble_eq_true rfl⟩, hts (.instanceMethod yX4_readWhole) (ki (zr18 14 rfl)), hts (.selects RX4 yX4_readWhole yX4_readWhole) (ki (zr18 15 rfl))⟩ (cpreV hK hw hS hA hZ hN (List.range (kW ct E y r18 q19).length) kWn (zrange _) 4 192 rfl kg192) rfl rfl hl.1 rfl (lv_room (Nat.le_of_ble_eq_true rfl)) dX3_readLine_133 ⟨Nat.le_of_ble_eq_true rfl, Nat.le_of_ble_eq_true rfl⟩) hw hS hA 136 rfl (fun u23 H locs pu23 hw hS => ?_)
                obtain ⟨v24, r25, q26⟩ := u23
                have hv24 : zI 0 1 v24 := pu23.1
                have ju23 : kJ r25 := pu23.2.1
                have fu23 : zFr [196, 192, 193] r18 r25 := pu23.2.2.1
                have xu23 : (v24, r25, q26) = (Gk_readWhole0 r18 q19) := pu23.2.2.2.1
                have hE := zc_vrqE xu23 hE
                have hw : zPD D A (kW ct E y r25 q26) H := hw
                refine zfr 136 [.int v24] rfl rfl ?_
                refine lv_if_eq (tgt := 143) hx hb dX3_readLine_136 (by decide) (fun c27 => ?_) (fun c27 => ?_)
                · have hE := zifT c27 hE
                  have k28 : zI 0 0 (v24) := zI.eqq c27 (zI.lit (a := 0) (b := 0) (c := 0) (by decide))
                  refine lv_iconst (v := 0) hx hb dX3_readLine_143 (by decide) ?_
                  exact ziretQ hQ hx hb hr rfl hlocks ((0 : Int32), r25, q26) rfl ⟨((zI.lit (a := 0) (b := 0) (c := 0) (by decide)).w (c := 0) (d := 1) (by decide)), ju23, (hE.symm.trans hX), trivial⟩ hw hS dX3_readLine_144
                · have hE := zifF c27 hE
                  have k29 : zI 1 1 (v24) := zI.neD c27 hv24 (zI.lit (a := 0) (b := 0) (c := 0) (by decide)) (by decide)
                  refine lv_iconst (v := 1) hx hb dX3_readLine_139 (by decide) ?_
                  refine lv_goto (tgt := 144) hx hb dX3_readLine_140 (by decide) ?_
                  exact ziretQ hQ hx hb hr rfl hlocks ((1 : Int32), r25, q26) rfl ⟨((zI.lit (a := 1) (b := 1) (c := 1) (by decide)).w (c := 0) (d := 1) (by decide)), ju23, (hE.symm.trans hX), trivial⟩ hw hS dX3_readLine_144
          · have hE := zifnF c10 hE
            refine lv_aload_n hx hb dX3_readLine_101 rfl (lv_at hl 0 rfl) ?_
            refine lv_aload_n hx hb dX3_readLine_102 rfl (lv_at hl 1 rfl) ?_
            refine lv_aload_n hx hb dX3_readLine_103 rfl (lv_at hl 2 rfl) ?_
            refine kcallV (As := [.ref (y 196), .ref (y 183)]) (rest := []) ⟨hx, hb, hml, hown, hts⟩ (kc_readInch l D ct E y r q hJ0 hEi) (wqX3_86_kc_readInch hts ⟨Nat.le_of_ble_eq_true rfl, Nat.le_of_ble_eq_true rfl⟩) hw hS hA hK hZ hN 3 198 rfl kg198 rfl hl.1 rfl (Nat.le_of_ble_eq_true rfl) dX3_readLine_104 107 rfl (fun u30 H locs pu30 hw hS => ?_)
            obtain ⟨v31, r32, q33⟩ := u30
            have hv31 : zI 0 1 v31 := pu30.1
            have ju30 : kJ r32 := pu30.2.1
            have xu30 : (v31, r32, q33) = (Gk_readInch r q) := pu30.2.2.1
            have hE := zc_vrqE xu30 hE
            have hw : zPD D A (kW ct E y r32 q33) H := hw
            refine zfr 107 [.int v31] rfl rfl ?_
            exact ziretQ hQ hx hb hr (hv31.rn) hlocks (v31, r32, q33) rfl ⟨hv31, ju30, (hE.symm.trans hX), trivial⟩ hw hS dX3_readLine_107
        · have hE := zifnF c8 hE
          refine lv_aload_n hx hb dX3_readLine_84 rfl (lv_at hl 0 rfl) ?_
          refine lv_aload_n hx hb dX3_readLine_85 rfl (lv_at hl 1 rfl) ?_
          refine lv_aload_n hx hb dX3_readLine_86 rfl (lv_at hl 2 rfl) ?_
          refine kcallV (As := [.ref (y 196), .ref (y 183)]) (rest := []) ⟨hx, hb, hml, hown, hts⟩ (kc_readGrows l D ct E y r q hJ0 hEi) (wqX3_80_kc_readGrows hts ⟨Nat.le_of_ble_eq_true rfl, Nat.le_of_ble_eq_true rfl⟩) hw hS hA hK hZ hN 3 198 rfl kg198 rfl hl.1 rfl (Nat.le_of_ble_eq_true rfl) dX3_readLine_87 90 rfl (fun u34 H locs pu34 hw hS => ?_)
          obtain ⟨v35, r36, q37⟩ := u34
          have hv35 : zI 0 1 v35 := pu34.1
          have ju34 : kJ r36 := pu34.2.1
          have xu34 : (v35, r36, q37) = (Gk_readGrows r q) := pu34.2.2.1
          have hE := zc_vrqE xu34 hE
          have hw : zPD D A (kW ct E y r36 q37) H := hw
          refine zfr 90 [.int v35] rfl rfl ?_
          exact ziretQ hQ hx hb hr (hv35.rn) hlocks (v35, r36, q37) rfl ⟨hv35, ju34, (hE.symm.trans hX), trivial⟩ hw hS dX3_readLine_90
      · have hE := zifnF c6 hE
        refine lv_aload_n hx hb dX3_readLine_44 rfl (lv_at hl 0 rfl) ?_
        refine lv_aload_n hx hb dX3_readLine_45 rfl (lv_at hl 1 rfl) ?_
        refine lv_aload_n hx hb dX3_readLine_46 rfl (lv_at hl 2 rfl) ?_
        refine kcallV (As := [.ref (y 196), .ref (y 183)]) (rest := []) ⟨hx, hb, hml, hown, hts⟩ (kc_readPerson l D ct E y r q hJ0 hEi) (wqX3_66_kc_readPerson hts ⟨Nat.le_of_ble_eq_true rfl, Nat.le_of_ble_eq_true rfl⟩) hw hS hA hK hZ hN 3 198 rfl kg198 rfl hl.1 rfl (Nat.le_of_ble_eq_true rfl) dX3_readLine_47 50 rfl (fun u38 H locs pu38 hw hS => ?_)
        obtain ⟨v39, r40, q41⟩ := u38
        have hv39 : zI 0 1 v39 := pu38.1
        have ju38 : kJ r40 := pu38.2.1
        have yu38_0 : (¬ v39 = 0 → zI 1 6 (r40 183 10)) := pu38.2.2.1
        have xu38 : (v39, r40, q41) = (Gk_readPerson r q) := pu38.2.2.2.1
        have hE := zc_vrqE xu38 hE
        have hw : zPD D A (kW ct E y r40 q41) H := hw
        refine zfr 50 [.int v39] rfl rfl ?_
        refine lv_if_eq (tgt := 72) hx hb dX3_readLine_50 (by decide) (fun c42 => ?_) (fun c42 => ?_)
        · have hE := zifT c42 hE
          have k43 : zI 0 0 (v39) := zI.eqq c42 (zI.lit (a := 0) (b := 0) (c := 0) (by decide))
          refine lv_iconst (v := 0) hx hb dX3_readLine_72 (by decide) ?_
          exact ziretQ hQ hx hb hr rfl hlocks ((0 : Int32), r40, q41) rfl ⟨((zI.lit (a := 0) (b := 0) (c := 0) (by decide)).w (c := 0) (d := 1) (by decide)), ju38, (hE.symm.trans hX), trivial⟩ hw hS dX3_readLine_73
        · have hE := zifF c42 hE
          have k44 : zI 1 1 (v39) := zI.neD c42 hv39 (zI.lit (a := 0) (b := 0) (c := 0) (by decide)) (by decide)
          refine lv_aload_n hx hb dX3_readLine_53 rfl (lv_at hl 0 rfl) ?_
          refine lv_aload_n hx hb dX3_readLine_54 rfl (lv_at hl 1 rfl) ?_
          refine lv_aload_n hx hb dX3_readLine_55 rfl (lv_at hl 2 rfl) ?_
          refine lv_aload_n hx hb dX3_readLine_56 rfl (lv_at hl 2 rfl) ?_
          refine va_get (D := D) (ci := 2) (v := .int (r40 183 10)) hx hb hts hiX2 hown hK hw.1 183 kg183 rfl 10 (by decide) lf69 (fun _ h9 => h9) rfl dX3_readLine_57 ?_
          refine lv_iconst (v := 1) hx hb dX3_readLine_60 (by decide) ?_
          refine lv_isub hx hb dX3_readLine_61 (zgenE (lo := 0) (hi := 5) (zI.sub (yu38_0 c42) (zI.lit (a := 1) (b := 1) (c := 1) (by decide)) (by decide)) (fun v45 ev45 hv45 => ?_))
          have hE := zletE ev45 hE
          refine kcallV (As := [.ref (y 196), .ref (y 183), .int v45]) (rest := []) ⟨hx, hb, hml, hown, hts⟩ (kc_readGoods l D ct E y v45 r40 q41 hv45 ju38 hEi) (wqX3_73_kc_readGoods hts ⟨Nat.le_of_ble_eq_true rfl, Nat.le_of_ble_eq_true rfl⟩) hw hS hA hK hZ hN 3 198 rfl kg198 rfl hl.1 rfl (Nat.le_of_ble_eq_true rfl) dX3_readLine_62 65 rfl (fun u46 H locs pu46 hw hS => ?_)
          obtain ⟨v47, r48, q49⟩ := u46
          have hv47 : zI 0 1 v47 := pu46.1
          have ju46 : kJ r48 := pu46.2.1
          have xu46 : (v47, r48, q49) = (Gk_readGoods v45 r40 q41) := pu46.2.2.1
          have hE := zc_vrqE xu46 hE
          have hw : zPD D A (kW ct E y r48 q49) H := hw
          refine zfr 65 [.int v47] rfl rfl ?_
          refine lv_if_eq (tgt := 72) hx hb dX3_readLine_65 (by decide) (fun c50 => ?_) (fun c50 => ?_)
          · have hE := zifT c50 hE
            have k51 : zI 0 0 (v47) := zI.eqq c50 (zI.lit (a := 0) (b := 0) (c := 0) (by decide))
            refine lv_iconst (v := 0) hx hb dX3_readLine_72 (by decide) ?_
            exact ziretQ hQ hx hb hr rfl hlocks ((0 : Int32), r48, q49) rfl ⟨((zI.lit (a := 0) (b := 0) (c := 0) (by decide)).w (c := 0) (d := 1) (by decide)), ju46, (hE.symm.trans hX), trivial⟩ hw hS dX3_readLine_73
          · have hE := zifF c50 hE
            have k52 : zI 1 1 (v47) := zI.neD c50 hv47 (zI.lit (a := 0) (b := 0) (c := 0) (by decide)) (by decide)
            refine lv_iconst (v := 1) hx hb dX3_readLine_68 (by decide) ?_
            refine lv_goto (tgt := 73) hx hb dX3_readLine_69 (by decide) ?_
            exact ziretQ hQ hx hb hr rfl hlocks ((1 : Int32), r48, q49) rfl ⟨((zI.lit (a := 1) (b := 1) (c := 1) (by decide)).w (c := 0) (d := 1) (by decide)), ju46, (hE.symm.trans hX), trivial⟩ hw hS dX3_readLine_73
    · have hE := zifnF c4 hE
      refine lv_aload_n hx hb dX3_readLine_27 rfl (lv_at hl 0 rfl) ?_
      refine lv_aload_n hx hb dX3_readLine_28 rfl (lv_at hl 1 rfl) ?_
      refine lv_aload_n hx hb dX3_readLine_29 rfl (lv_at hl 2 rfl) ?_
      refine kcallV (As := [.ref (y 196), .ref (y 183)]) (rest := []) ⟨hx, hb, hml, hown, hts⟩ (kc_readRoad l D ct E y r q hJ0 hEi) (wqX3_60_kc_readRoad hts ⟨Nat.le_of_ble_eq_true rfl, Nat.le_of_ble_eq_true rfl⟩) hw hS hA hK hZ hN 3 198 rfl kg198 rfl hl.1 rfl (Nat.le_of_ble_eq_true rfl) dX3_readLine_30 33 rfl (fun u53 H locs pu53 hw hS => ?_)
      obtain ⟨v54, r55, q56⟩ := u53
      have hv54 : zI 0 1 v54 := pu53.1
      have ju53 : kJ r55 := pu53.2.1
      have xu53 : (v54, r55, q56) = (Gk_readRoad r q) := pu53.2.2.1
      have hE := zc_vrqE xu53 hE
      have hw : zPD D A (kW ct E y r55 q56) H := hw
      refine zfr 33 [.int v54] rfl rfl ?_
      exact ziretQ hQ hx hb hr (hv54.rn) hlocks (v54, r55, q56) rfl ⟨hv54, ju53, (hE.symm.trans hX), trivial⟩ hw hS dX3_readLine_33
  · have hE := zifnF c2 hE
    refine lv_aload_n hx hb dX3_readLine_10 rfl (lv_at hl 0 rfl) ?_
    refine lv_aload_n hx hb dX3_readLine_11 rfl (lv_at hl 1 rfl) ?_
    refine lv_aload_n hx hb dX3_readLine_12 rfl (lv_at hl 2 rfl) ?_
    refine kcallV (As := [.ref (y 196), .ref (y 183)]) (rest := []) ⟨hx, hb, hml, hown, hts⟩ (kc_readTown l D ct E y r q hJ0 hEi) (wqX3_54_kc_readTown hts ⟨Nat.le_of_ble_eq_true rfl, Nat.le_of_ble_eq_true rfl⟩) hw hS hA hK hZ hN 3 198 rfl kg198 rfl hl.1 rfl (Nat.le_of_ble_eq_true rfl) dX3_readLine_13 16 rfl (fun u57 H locs pu57 hw hS => ?_)
    obtain ⟨v58, r59, q60⟩ := u57
    have hv58 : zI 0 1 v58 := pu57.1
    have ju57 : kJ r59 := pu57.2.1
    have xu57 : (v58, r59, q60) = (Gk_readTown r q) := pu57.2.2.1
    have hE := zc_vrqE xu57 hE
    have hw : zPD D A (kW ct E y r59 q60) H := hw
    refine zfr 16 [.int v58] rfl rfl ?_
    exact ziretQ hQ hx hb hr (hv58.rn) hlocks (v58, r59, q60) rfl ⟨hv58, ju57, (hE.symm.trans hX), trivial⟩ hw hS dX3_readLine_16

set_option maxHeartbeats 4000000 in
set_option maxRecDepth 100000 in
theorem kc_readL (l : Launch) (D : va_G) (ct : Nat → ClassId) (E : Nat → Nat) (y : Nat → Nat) (r : zRr) (q : zRq) (hJ0 : kJ r) (hEi : kEi E) : cC l yX3_read (.code yX3_read cX3_read 4 (some .boolean) :: wsL_law0) ({ frames := 38, cells := 0, slots := 0, locals := 1560 }) D ct E [.ref (y 198), .ref (y 196), .ref (y 183)] (kW ct E y r q) (S := Int32 × zRr × zRq) (fun u => some (.int u.1)) (fun u => zI 0 1 u.1 ∧ kJ u.2.1 ∧ u = (Gk_readL r q) ∧ True) (fun u => kW ct E y u.2.1 u.2.2) := by
  refine cofQ cX3_read 4 (some .boolean) (by decide) rfl (Nat.le_of_ble_eq_true rfl) ?_
  intro p e s m below meth c A a9 Q ha9 hx hb hr hml hts hown hlocks hname hK hA hZ hN hQ
  have hown : s.vm.findClass RX3 = some m.cls := hown
  have hiX3 : ∀ w ∈ wsX30, w ∈ .code yX3_read cX3_read 4 (some .boolean) :: wsL_law0 := fun _ h => ki (zs_wsX30 _ h)
  have hiX9 : ∀ w ∈ wsX90, w ∈ .code yX3_read cX3_read 4 (some .boolean) :: wsL_law0 := fun _ h => ki (zs_wsX90 _ h)
  have lf9 := hts (.fieldLink RX3 9 "BeardPass$LandReader" "growsTold" "Z") (ki (zr5 11 rfl))
  have lf15 := hts (.fieldLink RX3 15 "BeardPass$LandReader" "inchTold" "Z") (ki (zr5 12 rfl))
  have lf18 := hts (.fieldLink RX3 18 "BeardPass$LandReader" "readsTold" "Z") (ki (zr5 13 rfl))
  have lf31 := hts (.fieldLink RX3 31 "BeardPass$Tape" "sort" "LBeardPass$Sort;") (ki (zr10 15 rfl))
  have lf35 := hts (.fieldLink RX3 35 "BeardPass$Sort" "END" "LBeardPass$Sort;") (ki (zr10 16 rfl))
  have lf44 := hts (.fieldLink RX3 44 "BeardPass$Sort" "STOP" "LBeardPass$Sort;") (ki (zr10 17 rfl))
  obtain ⟨X, hX⟩ : ∃ X, X = (Gk_readL r q) := ⟨_, rfl⟩
  have cut25 : ∀ (n25 : Nat) (w25_3 : Int32) (rw25 : zRr) (qw25 : zRq) (hw25_3 : zI 0 1000 w25_3) (jw25 : kJ rw25) (hE : X = Gk_readL_25 n25 w25_3 rw25 qw25), 1000 - w25_3.toInt < (n25 : Int) → zKf p l e ({ frames := 38, cells := 0, slots := 0, locals := 1560 }) s m a9 below meth c Q D A 25 4 [] (kW ct E y rw25 qw25) [(0, .ref (y 198)), (1, .ref (y 196)), (2, .ref (y 183)), (3, .int w25_3)] := by
    intro n25
    induction n25 with
    | zero => intro w25_3 rw25 qw25 hw25_3 jw25 hE hm25; exact zI.no hw25_3 (by decide) hm25
    | succ n25 ih25 =>
      intro w25_3 rw25 qw25 hw25_3 jw25 hE hm25
      have hE : X = Bk_readL_25 (Gk_readL_25 n25) w25_3 rw25 qw25 := hE
      unfold Bk_readL_25 at hE
      intro H locs ls hw hS hl
      refine lv_iload_n hx hb dX3_read_25 rfl (lv_at hl 3 rfl) ?_
      refine lv_sipush (v := 1000) hx hb dX3_read_26 (by decide) ?_
      refine lv_icmp_ge (tgt := 69) hx hb dX3_read_29 (by decide) (fun c1 => ?_) (fun c1 => ?_)
      · have hE := zifT c1 hE
        have k2 : zI 1000 1000 (w25_3) := zI.leD c1 (zI.lit (a := 1000) (b := 1000) (c := 1000) (by decide)) hw25_3 (by decide)
        refine lv_iconst (v := 1) hx hb dX3_read_69 (by decide) ?_
        exact ziretQ hQ hx hb hr rfl hlocks ((1 : Int32), rw25, qw25) rfl ⟨((zI.lit (a := 1) (b := 1) (c := 1) (by decide)).w (c := 0) (d := 1) (by decide)), jw25, (hE.symm.trans hX), trivial⟩ hw hS dX3_read_70
      · have hE := zifF c1 hE
        have k3 : zI 0 999 (w25_3) := zI.ltU (zI.nle c1) hw25_3 (zI.lit (a := 1000) (b := 1000) (c := 1000) (by decide)) (by decide)
        refine lv_aload_n hx hb dX3_read_32 rfl (lv_at hl 1 rfl) ?_
        refine va_get (D := D) (ci := 8) (v := .ref (E (zn (rw25 196 4)))) hx hb hts hiX9 hown hK hw.1 196 kg196 rfl 4 (by decide) lf31 (fun _ h9 => h9) rfl dX3_read_33 (cgenSE (show zI 0 32 (rw25 196 4) from jw25.i 196 4) (fun v4 ev4 hv4 => ?_))
        have hE := zletE ev4 hE
        refine cgets 31 (by decide) hx hb hZ hS hown lf35 dX3_read_36 (ztop (.ref (E (zn 31))) rfl ?_)
        refine cxacmp_eq (a := v4) (b := (31 : Int32)) (tgt := 69) hEi hv4 ((zI.lit (a := 31) (b := 31) (c := 31) (by decide)).w (c := 0) (d := 32) (by decide)) hx hb dX3_read_39 (by decide) (fun c5 => ?_) (fun c5 => ?_)
        · have hE := zifT c5 hE
          refine lv_iconst (v := 1) hx hb dX3_read_69 (by decide) ?_
          exact ziretQ hQ hx hb hr rfl hlocks ((1 : Int32), rw25, qw25) rfl ⟨((zI.lit (a := 1) (b := 1) (c := 1) (by decide)).w (c := 0) (d := 1) (by decide)), jw25, (hE.symm.trans hX), trivial⟩ hw hS dX3_read_70
        · have hE := zifF c5 hE
          refine lv_aload_n hx hb dX3_read_42 rfl (lv_at hl 0 rfl) ?_
          refine lv_aload_n hx hb dX3_read_43 rfl (lv_at hl 1 rfl) ?_
          refine lv_aload_n hx hb dX3_read_44 rfl (lv_at hl 2 rfl) ?_
          refine kcallV (As := [.ref (y 196), .ref (y 183)]) (rest := []) ⟨hx, hb, hml, hown, hts⟩ (kc_readLineL l D ct E y rw25 qw25 jw25 hEi) (wqX3_40_kc_readLineL hts ⟨Nat.le_of_ble_eq_true rfl, Nat.le_of_ble_eq_true rfl⟩) hw hS hA hK hZ hN 3 198 rfl kg198 rfl hl.1 rfl (Nat.le_of_ble_eq_true rfl) dX3_read_45 48 rfl (fun u6 H locs pu6 hw hS => ?_)
          obtain ⟨v7, r8, q9⟩ := u6
          have hv7 : zI 0 1 v7 := pu6.1
          have ju6 : kJ r8 := pu6.2.1
          have xu6 : (v7, r8, q9) = (Gk_readLineL rw25 qw25) := pu6.2.2.1
          have hE := zc_vrqE xu6 hE
          have hw : zPD D A (kW ct E y r8 q9) H := hw
          refine zfr 48 [.int v7] rfl rfl ?_
          refine lv_if_eq (tgt := 61) hx hb dX3_read_48 (by decide) (fun c10 => ?_) (fun c10 => ?_)
          · have hE := zifT c10 hE
            have k11 : zI 0 0 (v7) := zI.eqq c10 (zI.lit (a := 0) (b := 0) (c := 0) (by decide))
            refine lv_iconst (v := 0) hx hb dX3_read_61 (by decide) ?_
            exact ziretQ hQ hx hb hr rfl hlocks ((0 : Int32), r8, q9) rfl ⟨((zI.lit (a := 0) (b := 0) (c := 0) (by decide)).w (c := 0) (d := 1) (by decide)), ju6, (hE.symm.trans hX), trivial⟩ hw hS dX3_read_62
          · have hE := zifF c10 hE
            have k12 : zI 1 1 (v7) := zI.neD c10 hv7 (zI.lit (a := 0) (b := 0) (c := 0) (by decide)) (by decide)
            refine lv_aload_n hx hb dX3_read_51 rfl (lv_at hl 1 rfl) ?_
            refine cgets 28 (by decide) hx hb hZ hS hown lf44 dX3_read_52 (ztop (.ref (E (zn 28))) rfl ?_)
            refine kcallV (As := [.ref (E (zn 28))]) (rest := []) ⟨hx, hb, hml, hown, hts⟩ (kc_take l D ct E y 28 r8 q9 ((zI.lit (a := 28) (b := 28) (c := 28) (by decide)).w (c := 0) (d := 32) (by decide)) ju6 hEi) (wqX3_47_kc_take hts ⟨Nat.le_of_ble_eq_true rfl, Nat.le_of_ble_eq_true rfl⟩) hw hS hA hK hZ hN 8 196 rfl kg196 rfl hl.1 rfl (Nat.le_of_ble_eq_true rfl) dX3_read_55 58 rfl (fun u13 H locs pu13 hw hS => ?_)
            obtain ⟨v14, r15, q16⟩ := u13
            have hv14 : zI 0 1 v14 := pu13.1
            have ju13 : kJ r15 := pu13.2.1
            have fu13 : zFr [196] r8 r15 := pu13.2.2.1
            have xu13 : (v14, r15, q16) = (Gk_take 28 r8 q9) := pu13.2.2.2.1
            have hE := zc_vrqE xu13 hE
            have hw : zPD D A (kW ct E y r15 q16) H := hw
            refine zfr 58 [.int v14] rfl rfl ?_
            refine lv_if_ne (tgt := 63) hx hb dX3_read_58 (by decide) (fun c17 => ?_) (fun c17 => ?_)
            · have hE := zifnT c17 hE
              have k18 : zI 1 1 (v14) := zI.neD c17 hv14 (zI.lit (a := 0) (b := 0) (c := 0) (by decide)) (by decide)
              refine lv_iinc (v := w25_3 + 1) (lv' := [(3, .int (w25_3 + 1)), (0, .ref (y 198)), (1, .ref (y 196)), (2, .ref (y 183))]) hx hb dX3_read_63 hl (k := 3) rfl (rfl) (by decide) rfl (fun ls hl => ?_)
              have k19 : zI 1 1000 (w25_3 + 1) := zI.add k3 (zI.lit (a := 1) (b := 1) (by decide)) (by decide)
              refine lv_goto (tgt := 25) hx hb dX3_read_66 (by decide) ?_
              exact ih25 (w25_3 + 1) r15 q16 (k19.w (c := 0) (d := 1000) (by decide)) ju13 hE (zI.up k3 (by decide) hm25) H locs ls hw hS (lv_sub hl [1, 2, 3, 0] rfl)
            · have hE := zifnF c17 hE
              have k20 : zI 0 0 (v14) := zI.eqq c17 (zI.lit (a := 0) (b := 0) (c := 0) (by decide))
              refine lv_iconst (v := 0) hx hb dX3_read_61 (by decide) ?_
              exact ziretQ hQ hx hb hr rfl hlocks ((0 : Int32), r15, q16) rfl ⟨((zI.lit (a := 0) (b := 0) (c := 0) (by decide)).w (c := 0) (d := 1) (by decide)), ju13, (hE.symm.trans hX), trivial⟩ hw hS dX3_read_62
  intro H locs hw hS ls hl
  have hl : lv_has ls 4 [(0, .ref (y 198)), (1, .ref (y 196)), (2, .ref (y 183))] := hl
  have hE := hX
  unfold Gk_readL at hE
  refine lv_aload_n hx hb dX3_read_0 rfl (lv_at hl 2 rfl) ?_
  refine kcallV (As := []) (rest := []) ⟨hx, hb, hml, hown, hts⟩ (kc_clear l D ct E y r q hJ0 hEi) (wqX3_21_kc_clear hts ⟨Nat.le_of_ble_eq_true rfl, Nat.le_of_ble_eq_true rfl⟩) hw hS hA hK hZ hN 2 183 rfl kg183 rfl hl.1 rfl (Nat.le_of_ble_eq_true rfl) dX3_read_1 4 rfl (fun u21 H locs pu21 hw hS => ?_)
  have ju21 : kJ u21 := pu21.1
  have xu21 : u21 = (Gk_clear r q) := pu21.2.1
  have hE := zletE xu21 hE
  have hw : zPD D A (kW ct E y u21 q) H := hw
  refine zfr 4 [] rfl rfl ?_
  refine lv_aload_n hx hb dX3_read_4 rfl (lv_at hl 0 rfl) ?_
  refine lv_iconst (v := 0) hx hb dX3_read_5 (by decide) ?_
  refine zput (D := D) (ci := 3) (v := .int 0) (ty := .boolean) hx hb hts hiX3 tyX3 tyX3_ok nmX3 hown hK hw hS 198 kg198 rfl 0 (by decide) lf9 (fun _ h9 => h9) rfl (by decide +kernel) rfl rfl (Nat.le_of_ble_eq_true rfl) dX3_read_6 (kW ct E y (zset u21 198 (upd (u21 198) 0 (0 : Int32))) q) ks198_0 (fun H locs hw hS => ?_)
  refine cmgen (P := fun x => kJ x) hw (ju21.set rfl ((zI.lit (a := 0) (b := 0) (c := 0) (by decide)).w (c := 0) (d := 1) (by decide))) (fun r23 er23 hw pr23 => ?_)
  have hE := zletE er23 hE
  refine lv_aload_n hx hb dX3_read_9 rfl (lv_at hl 0 rfl) ?_
  refine lv_iconst (v := 0) hx hb dX3_read_10 (by decide) ?_
  refine zput (D := D) (ci := 3) (v := .int 0) (ty := .boolean) hx hb hts hiX3 tyX3 tyX3_ok nmX3 hown hK hw hS 198 kg198 rfl 1 (by decide) lf15 (fun _ h9 => h9) rfl (by decide +kernel) rfl rfl (Nat.le_of_ble_eq_true rfl) dX3_read_11 (kW ct E y (zset r23 198 (upd (r23 198) 1 (0 : Int32))) q) ks198_1 (fun H locs hw hS => ?_)
  refine cmgen (P := fun x => kJ x) hw (pr23.set rfl ((zI.lit (a := 0) (b := 0) (c := 0) (by decide)).w (c := 0) (d := 1) (by decide))) (fun r24 er24 hw pr24 => ?_)
  have hE := zletE er24 hE
  refine lv_aload_n hx hb dX3_read_14 rfl (lv_at hl 0 rfl) ?_
  refine lv_iconst (v := 0) hx hb dX3_read_15 (by decide) ?_
  refine zput (D := D) (ci := 3) (v := .int 0) (ty := .boolean) hx hb hts hiX3 tyX3 tyX3_ok nmX3 hown hK hw hS 198 kg198 rfl 2 (by decide) lf18 (fun _ h9 => h9) rfl (by decide +kernel) rfl rfl (Nat.le_of_ble_eq_true rfl) dX3_read_16 (kW ct E y (zset r24 198 (upd (r24 198) 2 (0 : Int32))) q) ks198_2 (fun H locs hw hS => ?_)
  refine cmgen (P := fun x => kJ x) hw (pr24.set rfl ((zI.lit (a := 0) (b := 0) (c := 0) (by decide)).w (c := 0) (d := 1) (by decide))) (fun r25 er25 hw pr25 => ?_)
  have hE := zletE er25 hE
  refine lv_aload_n hx hb dX3_read_19 rfl (lv_at hl 1 rfl) ?_
  refine kcallV (As := []) (rest := []) ⟨hx, hb, hml, hown, hts⟩ (kc_begin l D ct E y r25 q pr25 hEi) (wqX3_26_kc_begin hts ⟨Nat.le_of_ble_eq_true rfl, Nat.le_of_ble_eq_true rfl⟩) hw hS hA hK hZ hN 8 196 rfl kg196 rfl hl.1 rfl (Nat.le_of_ble_eq_true rfl) dX3_read_20 23 rfl (fun u26 H locs pu26 hw hS => ?_)
  obtain ⟨r27, q28⟩ := u26
  have ju26 : kJ r27 := pu26.1
  have fu26 : zFr [196] r25 r27 := pu26.2.1
  have xu26 : (r27, q28) = (Gk_begin r25 q) := pu26.2.2.1
  have hE := zc_rqE xu26 hE
  have hw : zPD D A (kW ct E y r27 q28) H := hw
  refine zfr 23 [] rfl rfl ?_
  refine lv_iconst (v := 0) hx hb dX3_read_23 (by decide) ?_
  refine lv_istore_n (lv' := [(3, .int 0), (0, .ref (y 198)), (1, .ref (y 196)), (2, .ref (y 183))]) hx hb dX3_read_24 rfl hl (by decide) rfl (fun ls hl => ?_)
  exact cut25 1001 0 r27 q28 ((zI.lit (a := 0) (b := 0) (c := 0) (by decide)).w (c := 0) (d := 1000) (by decide)) ju26 hE (zI.m0 (zI.lit (a := 0) (b := 0) (c := 0) (by decide)) (by decide)) H locs ls hw hS (lv_sub hl [1, 2, 3, 0] rfl)

set_option maxHeartbeats 4000000 in
set_option maxRecDepth 100000 in
theorem kc_deedHere (l : Launch) (D : va_G) (ct : Nat → ClassId) (E : Nat → Nat) (y : Nat → Nat) (r : zRr) (q : zRq) (hJ0 : kJ r) (hEi : kEi E) : cC l yX1_deedHere (.code yX1_deedHere cX1_deedHere 1 (some .int) :: wsL_law0) ({ frames := 1, cells := 0, slots := 0, locals := 80 }) D ct E [.ref (y 196)] (kW ct E y r q) (S := Int32) (fun u => some (.int u)) (fun u => zI (-1) 3 u ∧ u = (Gk_deedHere r q) ∧ True) (fun u => kW ct E y r q) := by
  refine cofQ cX1_deedHere 1 (some .int) (by decide) rfl (Nat.le_of_ble_eq_true rfl) ?_
  intro p e s m below meth c A a9 Q ha9 hx hb hr hml hts hown hlocks hname hK hA hZ hN hQ
  have hown : s.vm.findClass RX1 = some m.cls := hown
  have hiX9 : ∀ w ∈ wsX90, w ∈ .code yX1_deedHere cX1_deedHere 1 (some .int) :: wsL_law0 := fun _ h => ki (zs_wsX90 _ h)
  have lf36 := hts (.fieldLink RX1 36 "BeardPass$Tape" "sort" "LBeardPass$Sort;") (ki (zr28 8 rfl))
  have lf82 := hts (.fieldLink RX1 82 "BeardPass$Sort" "GO" "LBeardPass$Sort;") (ki (zr28 19 rfl))
  have lf85 := hts (.fieldLink RX1 85 "BeardPass$Sort" "FORGE" "LBeardPass$Sort;") (ki (zr28 20 rfl))
  have lf88 := hts (.fieldLink RX1 88 "BeardPass$Sort" "SHAVE" "LBeardPass$Sort;") (ki (zr28 21 rfl))
  have lf91 := hts (.fieldLink RX1 91 "BeardPass$Sort" "WEEK" "LBeardPass$Sort;") (ki (zr28 22 rfl))
  obtain ⟨X, hX⟩ : ∃ X, X = (Gk_deedHere r q) := ⟨_, rfl⟩
  intro H locs hw hS ls hl
  have hl : lv_has ls 1 [(0, .ref (y 196))] := hl
  have hE := hX
  unfold Gk_deedHere at hE
  refine lv_aload_n hx hb dX1_deedHere_0 rfl (lv_at hl 0 rfl) ?_
  refine va_get (D := D) (ci := 8) (v := .ref (E (zn (r 196 4)))) hx hb hts hiX9 hown hK hw.1 196 kg196 rfl 4 (by decide) lf36 (fun _ h9 => h9) rfl dX1_deedHere_1 (cgenSE (show zI 0 32 (r 196 4) from hJ0.i 196 4) (fun v1 ev1 hv1 => ?_))
  have hE := zletE ev1 hE
  refine cgets 10 (by decide) hx hb hZ hS hown lf82 dX1_deedHere_4 (ztop (.ref (E (zn 10))) rfl ?_)
  refine cxacmp_ne (a := v1) (b := (10 : Int32)) (tgt := 12) hEi hv1 ((zI.lit (a := 10) (b := 10) (c := 10) (by decide)).w (c := 0) (d := 32) (by decide)) hx hb dX1_deedHere_7 (by decide) (fun c2 => ?_) (fun c2 => ?_)
  · have hE := zifnT c2 hE
    refine lv_aload_n hx hb dX1_deedHere_12 rfl (lv_at hl 0 rfl) ?_
    refine va_get (D := D) (ci := 8) (v := .ref (E (zn (r 196 4)))) hx hb hts hiX9 hown hK hw.1 196 kg196 rfl 4 (by decide) lf36 (fun _ h9 => h9) rfl dX1_deedHere_13 (cgenSE (show zI 0 32 (r 196 4) from hJ0.i 196 4) (fun v3 ev3 hv3 => ?_))
    have hE := zletE ev3 hE
    refine cgets 11 (by decide) hx hb hZ hS hown lf85 dX1_deedHere_16 (ztop (.ref (E (zn 11))) rfl ?_)
    refine cxacmp_ne (a := v3) (b := (11 : Int32)) (tgt := 24) hEi hv3 ((zI.lit (a := 11) (b := 11) (c := 11) (by decide)).w (c := 0) (d := 32) (by decide)) hx hb dX1_deedHere_19 (by decide) (fun c4 => ?_) (fun c4 => ?_)
    · have hE := zifnT c4 hE
      refine lv_aload_n hx hb dX1_deedHere_24 rfl (lv_at hl 0 rfl) ?_
      refine va_get (D := D) (ci := 8) (v := .ref (E (zn (r 196 4)))) hx hb hts hiX9 hown hK hw.1 196 kg196 rfl 4 (by decide) lf36 (fun _ h9 => h9) rfl dX1_deedHere_25 (cgenSE (show zI 0 32 (r 196 4) from hJ0.i 196 4) (fun v5 ev5 hv5 => ?_))
      have hE := zletE ev5 hE
      refine cgets 12 (by decide) hx hb hZ hS hown lf88 dX1_deedHere_28 (ztop (.ref (E (zn 12))) rfl ?_)
      refine cxacmp_ne (a := v5) (b := (12 : Int32)) (tgt := 36) hEi hv5 ((zI.lit (a := 12) (b := 12) (c := 12) (by decide)).w (c := 0) (d := 32) (by decide)) hx hb dX1_deedHere_31 (by decide) (fun c6 => ?_) (fun c6 => ?_)
      · have hE := zifnT c6 hE
        refine lv_aload_n hx hb dX1_deedHere_36 rfl (lv_at hl 0 rfl) ?_
        refine va_get (D := D) (ci := 8) (v := .ref (E (zn (r 196 4)))) hx hb hts hiX9 hown hK hw.1 196 kg196 rfl 4 (by decide) lf36 (fun _ h9 => h9) rfl dX1_deedHere_37 (cgenSE (show zI 0 32 (r 196 4) from hJ0.i 196 4) (fun v7 ev7 hv7 => ?_))
        have hE := zletE ev7 hE
        refine cgets 13 (by decide) hx hb hZ hS hown lf91 dX1_deedHere_40 (ztop (.ref (E (zn 13))) rfl ?_)
        refine cxacmp_ne (a := v7) (b := (13 : Int32)) (tgt := 50) hEi hv7 ((zI.lit (a := 13) (b := 13) (c := 13) (by decide)).w (c := 0) (d := 32) (by decide)) hx hb dX1_deedHere_43 (by decide) (fun c8 => ?_) (fun c8 => ?_)
        · have hE := zifnT c8 hE
          refine lv_iconst (v := (-1)) hx hb dX1_deedHere_50 (by decide) ?_
          exact ziretQ hQ hx hb hr rfl hlocks ((-1) : Int32) rfl ⟨((zI.lit (a := (-1)) (b := (-1)) (c := (-1)) (by decide)).w (c := (-1)) (d := 3) (by decide)), (hE.symm.trans hX), trivial⟩ hw hS dX1_deedHere_51
        · have hE := zifnF c8 hE
          refine lv_iconst (v := 3) hx hb dX1_deedHere_46 (by decide) ?_
          refine lv_goto (tgt := 51) hx hb dX1_deedHere_47 (by decide) ?_
          exact ziretQ hQ hx hb hr rfl hlocks (3 : Int32) rfl ⟨((zI.lit (a := 3) (b := 3) (c := 3) (by decide)).w (c := (-1)) (d := 3) (by decide)), (hE.symm.trans hX), trivial⟩ hw hS dX1_deedHere_51
      · have hE := zifnF c6 hE
        refine lv_iconst (v := 2) hx hb dX1_deedHere_34 (by decide) ?_
        exact ziretQ hQ hx hb hr rfl hlocks (2 : Int32) rfl ⟨((zI.lit (a := 2) (b := 2) (c := 2) (by decide)).w (c := (-1)) (d := 3) (by decide)), (hE.symm.trans hX), trivial⟩ hw hS dX1_deedHere_35
    · have hE := zifnF c4 hE
      refine lv_iconst (v := 1) hx hb dX1_deedHere_22 (by decide) ?_
      exact ziretQ hQ hx hb hr rfl hlocks (1 : Int32) rfl ⟨((zI.lit (a := 1) (b := 1) (c := 1) (by decide)).w (c := (-1)) (d := 3) (by decide)), (hE.symm.trans hX), trivial⟩ hw hS dX1_deedHere_23
  · have hE := zifnF c2 hE
    refine lv_iconst (v := 0) hx hb dX1_deedHere_10 (by decide) ?_
    exact ziretQ hQ hx hb hr rfl hlocks (0 : Int32) rfl ⟨((zI.lit (a := 0) (b := 0) (c := 0) (by decide)).w (c := (-1)) (d := 3) (by decide)), (hE.symm.trans hX), trivial⟩ hw hS dX1_deedHere_11

set_option maxHeartbeats 4000000 in
set_option maxRecDepth 100000 in
theorem kc_readDoer (l : Launch) (D : va_G) (ct : Nat → ClassId) (E : Nat → Nat) (y : Nat → Nat) (a3 : Int32) (r : zRr) (q : zRq) (g3 : zI 0 39 a3) (hJ0 : kJ r) (hEi : kEi E) (x1 : kLb r a3.toInt) : cC l yX1_readDoer (.code yX1_readDoer cX1_readDoer 4 (some .boolean) :: wsL_law0) ({ frames := 9, cells := 0, slots := 0, locals := 400 }) D ct E [.ref (y 142), .ref (y 196), .ref (y 171), .int a3] (kW ct E y r q) (S := Int32 × zRr × zRq) (fun u => some (.int u.1)) (fun u => zI 0 1 u.1 ∧ kJ u.2.1 ∧ zFr [144, 145, 196] r u.2.1 ∧ (kLb u.2.1 a3.toInt) ∧ (¬ u.1 = 0 → kGd u.2.1 (zn a3)) ∧ u = (Gk_readDoer a3 r q) ∧ True) (fun u => kW ct E y u.2.1 u.2.2) := by
  refine cofQ cX1_readDoer 4 (some .boolean) (by decide) rfl (Nat.le_of_ble_eq_true rfl) ?_
  intro p e s m below meth c A a9 Q ha9 hx hb hr hml hts hown hlocks hname hK hA hZ hN hQ
  have hown : s.vm.findClass RX1 = some m.cls := hown
  have hiX1 : ∀ w ∈ wsX10, w ∈ .code yX1_readDoer cX1_readDoer 4 (some .boolean) :: wsL_law0 := fun _ h => ki (zs_wsX10 _ h)
  have lf9 := hts (.fieldLink RX1 9 "BeardPass$Journey" "deeds" "[I") (ki (zr5 17 rfl))
  have lf15 := hts (.fieldLink RX1 15 "BeardPass$Journey" "doers" "[I") (ki (zr5 18 rfl))
  have lf18 := hts (.fieldLink RX1 18 "BeardPass$Journey" "objects" "[I") (ki (zr5 19 rfl))
  obtain ⟨X, hX⟩ : ∃ X, X = (Gk_readDoer a3 r q) := ⟨_, rfl⟩
  have cut87 : ∀ (rw87 : zRr) (qw87 : zRq) (hw87_3 : zI 0 39 a3) (jw87 : kJ rw87) (fw87 : zFr [144, 145, 196] r rw87) (xl87 : kLb rw87 a3.toInt) (xd87 : zI 0 5 (rw87 144 (zn a3))) (xo87 : rw87 143 (zn a3) = 0 → zI (-1) 5 (rw87 145 (zn a3))) (hE : X = Gk_readDoer_87 a3 rw87 qw87), zKf p l e ({ frames := 9, cells := 0, slots := 0, locals := 400 }) s m a9 below meth c Q D A 87 4 [] (kW ct E y rw87 qw87) [(0, .ref (y 142)), (3, .int a3)] := by
    intro rw87 qw87 hw87_3 jw87 fw87 xl87 xd87 xo87 hE H locs ls hw hS hl
    unfold Gk_readDoer_87 at hE
    refine lv_aload_n hx hb dX1_readDoer_87 rfl (lv_at hl 0 rfl) ?_
    refine va_get (D := D) (ci := 1) (v := .ref (y 145)) hx hb hts hiX1 hown hK hw.1 142 kg142 rfl 2 (by decide) lf18 (fun _ h9 => h9) rfl dX1_readDoer_88 ?_
    refine lv_iload_n hx hb dX1_readDoer_91 rfl (lv_at hl 1 rfl) ?_
    refine miald hx hb hK hw 145 kg145 hw87_3 (by decide) dX1_readDoer_92 ?_
    refine lv_iconst (v := (-1)) hx hb dX1_readDoer_93 (by decide) ?_
    refine lv_icmp_eq (tgt := 101) hx hb dX1_readDoer_94 (by decide) (fun c1 => ?_) (fun c1 => ?_)
    · have hE := zifT c1 hE
      have k2 : zI (-1) (-1) (rw87 145 (zn a3)) := zI.eqq c1 (zI.lit (a := (-1)) (b := (-1)) (c := (-1)) (by decide))
      refine lv_iconst (v := 0) hx hb dX1_readDoer_101 (by decide) ?_
      exact ziretQ hQ hx hb hr rfl hlocks ((0 : Int32), rw87, qw87) rfl ⟨((zI.lit (a := 0) (b := 0) (c := 0) (by decide)).w (c := 0) (d := 1) (by decide)), jw87, fw87, (show kLb rw87 a3.toInt from xl87), (fun h => absurd rfl h), (hE.symm.trans hX), trivial⟩ hw hS dX1_readDoer_102
    · have hE := zifF c1 hE
      refine lv_iconst (v := 1) hx hb dX1_readDoer_97 (by decide) ?_
      refine lv_goto (tgt := 102) hx hb dX1_readDoer_98 (by decide) ?_
      exact ziretQ hQ hx hb hr rfl hlocks ((1 : Int32), rw87, qw87) rfl ⟨((zI.lit (a := 1) (b := 1) (c := 1) (by decide)).w (c := 0) (d := 1) (by decide)), jw87, fw87, (show kLb rw87 a3.toInt from xl87), (show ¬ (1 : Int32) = 0 → kGd rw87 (zn a3) from (fun _ => ⟨fun h9 => zI.neD c1 (xo87 h9) (zI.lit (a := -1) (b := -1) (c := -1) (by decide)) (by decide), xd87⟩)), (hE.symm.trans hX), trivial⟩ hw hS dX1_readDoer_102
  intro H locs hw hS ls hl
  have hl : lv_has ls 4 [(0, .ref (y 142)), (1, .ref (y 196)), (2, .ref (y 171)), (3, .int a3)] := hl
  have hE := hX
  unfold Gk_readDoer at hE
  refine lv_aload_n hx hb dX1_readDoer_0 rfl (lv_at hl 0 rfl) ?_
  refine va_get (D := D) (ci := 1) (v := .ref (y 144)) hx hb hts hiX1 hown hK hw.1 142 kg142 rfl 1 (by decide) lf15 (fun _ h9 => h9) rfl dX1_readDoer_1 ?_
  refine lv_iload_n hx hb dX1_readDoer_4 rfl (lv_at hl 3 rfl) ?_
  refine lv_aload_n hx hb dX1_readDoer_5 rfl (lv_at hl 1 rfl) ?_
  refine lv_aload_n hx hb dX1_readDoer_6 rfl (lv_at hl 2 rfl) ?_
  refine kcallV (As := [.ref (y 171)]) (rest := [.int a3, .ref (y 144)]) ⟨hx, hb, hml, hown, hts⟩ (kc_personHere l D ct E y r q hJ0 hEi) (wqX1_71_kc_personHere hts ⟨Nat.le_of_ble_eq_true rfl, Nat.le_of_ble_eq_true rfl⟩) hw hS hA hK hZ hN 8 196 rfl kg196 rfl hl.1 rfl (Nat.le_of_ble_eq_true rfl) dX1_readDoer_7 10 rfl (fun u3 H locs pu3 hw hS => ?_)
  obtain ⟨v4, r5⟩ := u3
  have hv4 : zI (-1) 5 v4 := pu3.1
  have ju3 : kJ r5 := pu3.2.1
  have fu3 : zFr [196] r r5 := pu3.2.2.1
  have xu3 : (v4, r5) = (Gk_personHere r q) := pu3.2.2.2.1
  have hE := zc_vrE xu3 hE
  have hw : zPD D A (kW ct E y r5 q) H := hw
  refine zfr 10 [.int v4, .int a3, .ref (y 144)] rfl rfl ?_
  refine miast hx hb hK hw hS 144 kg144 g3 (by decide) dX1_readDoer_10 (kW ct E y (zset r5 144 (upd (r5 144) (zn a3) v4)) q) ks144 (fun H locs hw hS => ?_)
  refine cmgen (P := fun x => kJ x ∧ zFr [144, 145, 196] r x) hw ⟨ju3.set rfl hv4, ((zFr.refl).tr fu3 rfl).set rfl⟩ (fun r6 er6 hw pr6 => ?_)
  have hE := zletE er6 hE
  refine lv_aload_n hx hb dX1_readDoer_11 rfl (lv_at hl 0 rfl) ?_
  refine va_get (D := D) (ci := 1) (v := .ref (y 144)) hx hb hts hiX1 hown hK hw.1 142 kg142 rfl 1 (by decide) lf15 (fun _ h9 => h9) rfl dX1_readDoer_12 ?_
  refine lv_iload_n hx hb dX1_readDoer_15 rfl (lv_at hl 3 rfl) ?_
  refine miald hx hb hK hw 144 kg144 g3 (by decide) dX1_readDoer_16 ?_
  have k7 : zI (-1) 5 (r6 144 (zn a3)) := (show zI (-1) 5 (r6 144 _) from pr6.1.i 144 _)
  refine lv_iconst (v := (-1)) hx hb dX1_readDoer_17 (by decide) ?_
  refine lv_icmp_ne (tgt := 23) hx hb dX1_readDoer_18 (by decide) (fun c8 => ?_) (fun c8 => ?_)
  · have hE := zifnT c8 hE
    have k9 : zI 0 5 (r6 144 (zn a3)) := zI.neD c8 k7 (zI.lit (a := (-1)) (b := (-1)) (c := (-1)) (by decide)) (by decide)
    refine lv_aload_n hx hb dX1_readDoer_23 rfl (lv_at hl 1 rfl) ?_
    refine kcallV (As := []) (rest := []) ⟨hx, hb, hml, hown, hts⟩ (kc_step l D ct E y r6 q pr6.1 hEi) (wqX1_64_kc_step hts ⟨Nat.le_of_ble_eq_true rfl, Nat.le_of_ble_eq_true rfl⟩) hw hS hA hK hZ hN 8 196 rfl kg196 rfl hl.1 rfl (Nat.le_of_ble_eq_true rfl) dX1_readDoer_24 27 rfl (fun u10 H locs pu10 hw hS => ?_)
    obtain ⟨r11, q12⟩ := u10
    have ju10 : kJ r11 := pu10.1
    have fu10 : zFr [196] r6 r11 := pu10.2.1
    have xu10 : (r11, q12) = (Gk_step r6 q) := pu10.2.2.1
    have hE := zc_rqE xu10 hE
    have hw : zPD D A (kW ct E y r11 q12) H := hw
    refine zfr 27 [] rfl rfl ?_
    refine lv_aload_n hx hb dX1_readDoer_27 rfl (lv_at hl 0 rfl) ?_
    refine va_get (D := D) (ci := 1) (v := .ref (y 143)) hx hb hts hiX1 hown hK hw.1 142 kg142 rfl 0 (by decide) lf9 (fun _ h9 => h9) rfl dX1_readDoer_28 ?_
    refine lv_iload_n hx hb dX1_readDoer_31 rfl (lv_at hl 3 rfl) ?_
    refine miald hx hb hK hw 143 kg143 g3 (by decide) dX1_readDoer_32 ?_
    refine lv_iconst (v := 1) hx hb dX1_readDoer_33 (by decide) ?_
    refine lv_icmp_ne (tgt := 53) hx hb dX1_readDoer_34 (by decide) (fun c13 => ?_) (fun c13 => ?_)
    · have hE := zifnT c13 hE
      refine lv_aload_n hx hb dX1_readDoer_53 rfl (lv_at hl 0 rfl) ?_
      refine va_get (D := D) (ci := 1) (v := .ref (y 143)) hx hb hts hiX1 hown hK hw.1 142 kg142 rfl 0 (by decide) lf9 (fun _ h9 => h9) rfl dX1_readDoer_54 ?_
      refine lv_iload_n hx hb dX1_readDoer_57 rfl (lv_at hl 3 rfl) ?_
      refine miald hx hb hK hw 143 kg143 g3 (by decide) dX1_readDoer_58 ?_
      refine lv_if_ne (tgt := 87) hx hb dX1_readDoer_59 (by decide) (fun c14 => ?_) (fun c14 => ?_)
      · have hE := zifnT c14 hE
        exact cut87 r11 q12 g3 ju10 (pr6.2.tr fu10 rfl) ((kLb.row (kLb.set (kLb.row x1 (fu3 143 rfl) (fu3 144 rfl) (fu3 145 rfl)) (Int.le_refl _) er6) (fu10 143 rfl) (fu10 144 rfl) (fu10 145 rfl))) ((by rw [(fu10 144 rfl)]; exact k9)) (fun h9 => by rw [show r11 143 = r11 143 from rfl] at h9; exact absurd h9 c14) hE H locs ls hw hS (lv_sub hl [0, 3] rfl)
      · have hE := zifnF c14 hE
        have k15 : zI 0 0 (r11 143 (zn a3)) := zI.eqq c14 (zI.lit (a := 0) (b := 0) (c := 0) (by decide))
        refine lv_aload_n hx hb dX1_readDoer_62 rfl (lv_at hl 0 rfl) ?_
        refine va_get (D := D) (ci := 1) (v := .ref (y 145)) hx hb hts hiX1 hown hK hw.1 142 kg142 rfl 2 (by decide) lf18 (fun _ h9 => h9) rfl dX1_readDoer_63 ?_
        refine lv_iload_n hx hb dX1_readDoer_66 rfl (lv_at hl 3 rfl) ?_
        refine lv_aload_n hx hb dX1_readDoer_67 rfl (lv_at hl 1 rfl) ?_
        refine lv_aload_n hx hb dX1_readDoer_68 rfl (lv_at hl 2 rfl) ?_
        refine kcallV (As := [.ref (y 171)]) (rest := [.int a3, .ref (y 145)]) ⟨hx, hb, hml, hown, hts⟩ (kc_townHere l D ct E y r11 q12 ju10 hEi) (wqX1_79_kc_townHere hts ⟨Nat.le_of_ble_eq_true rfl, Nat.le_of_ble_eq_true rfl⟩) hw hS hA hK hZ hN 8 196 rfl kg196 rfl hl.1 rfl (Nat.le_of_ble_eq_true rfl) dX1_readDoer_69 72 rfl (fun u16 H locs pu16 hw hS => ?_)
        obtain ⟨v17, r18⟩ := u16
        have hv17 : zI (-1) 5 v17 := pu16.1
        have ju16 : kJ r18 := pu16.2.1
        have fu16 : zFr [196] r11 r18 := pu16.2.2.1
        have xu16 : (v17, r18) = (Gk_townHere r11 q12) := pu16.2.2.2.1
        have hE := zc_vrE xu16 hE
        have hw : zPD D A (kW ct E y r18 q12) H := hw
        refine zfr 72 [.int v17, .int a3, .ref (y 145)] rfl rfl ?_
        refine miast hx hb hK hw hS 145 kg145 g3 (by decide) dX1_readDoer_72 (kW ct E y (zset r18 145 (upd (r18 145) (zn a3) v17)) q12) ks145 (fun H locs hw hS => ?_)
        refine cmgen (P := fun x => kJ x ∧ zFr [144, 145, 196] r x) hw ⟨ju16.set rfl (zI.top _), ((pr6.2.tr fu10 rfl).tr fu16 rfl).set rfl⟩ (fun r19 er19 hw pr19 => ?_)
        have hE := zletE er19 hE
        refine lv_aload_n hx hb dX1_readDoer_73 rfl (lv_at hl 0 rfl) ?_
        refine va_get (D := D) (ci := 1) (v := .ref (y 145)) hx hb hts hiX1 hown hK hw.1 142 kg142 rfl 2 (by decide) lf18 (fun _ h9 => h9) rfl dX1_readDoer_74 ?_
        refine lv_iload_n hx hb dX1_readDoer_77 rfl (lv_at hl 3 rfl) ?_
        refine miald hx hb hK hw 145 kg145 g3 (by decide) dX1_readDoer_78 ?_
        refine lv_iconst (v := (-1)) hx hb dX1_readDoer_79 (by decide) ?_
        refine lv_icmp_eq (tgt := 87) hx hb dX1_readDoer_80 (by decide) (fun c20 => ?_) (fun c20 => ?_)
        · have hE := zifT c20 hE
          have k21 : zI (-1) (-1) (r19 145 (zn a3)) := zI.eqq c20 (zI.lit (a := (-1)) (b := (-1)) (c := (-1)) (by decide))
          exact cut87 r19 q12 g3 pr19.1 pr19.2 ((kLb.set (kLb.row (kLb.row (kLb.set (kLb.row x1 (fu3 143 rfl) (fu3 144 rfl) (fu3 145 rfl)) (Int.le_refl _) er6) (fu10 143 rfl) (fu10 144 rfl) (fu10 145 rfl)) (fu16 143 rfl) (fu16 144 rfl) (fu16 145 rfl)) (Int.le_refl _) er19)) ((by rw [((zs_row (k := 144) er19 (by decide)).trans ((fu16 144 rfl).trans (fu10 144 rfl)))]; exact k9)) (fun _ => by rw [zs_self er19, pk_us]; exact hv17) hE H locs ls hw hS (lv_sub hl [0, 3] rfl)
        · have hE := zifF c20 hE
          refine lv_aload_n hx hb dX1_readDoer_83 rfl (lv_at hl 1 rfl) ?_
          refine kcallV (As := []) (rest := []) ⟨hx, hb, hml, hown, hts⟩ (kc_step l D ct E y r19 q12 pr19.1 hEi) (wqX1_64_kc_step hts ⟨Nat.le_of_ble_eq_true rfl, Nat.le_of_ble_eq_true rfl⟩) hw hS hA hK hZ hN 8 196 rfl kg196 rfl hl.1 rfl (Nat.le_of_ble_eq_true rfl) dX1_readDoer_84 87 rfl (fun u22 H locs pu22 hw hS => ?_)
          obtain ⟨r23, q24⟩ := u22
          have ju22 : kJ r23 := pu22.1
          have fu22 : zFr [196] r19 r23 := pu22.2.1
          have xu22 : (r23, q24) = (Gk_step r19 q12) := pu22.2.2.1
          have hE := zc_rqE xu22 hE
          have hw : zPD D A (kW ct E y r23 q24) H := hw
          refine zfr 87 [] rfl rfl ?_
          exact cut87 r23 q24 g3 ju22 (pr19.2.tr fu22 rfl) ((kLb.row (kLb.set (kLb.row (kLb.row (kLb.set (kLb.row x1 (fu3 143 rfl) (fu3 144 rfl) (fu3 145 rfl)) (Int.le_refl _) er6) (fu10 143 rfl) (fu10 144 rfl) (fu10 145 rfl)) (fu16 143 rfl) (fu16 144 rfl) (fu16 145 rfl)) (Int.le_refl _) er19) (fu22 143 rfl) (fu22 144 rfl) (fu22 145 rfl))) ((by rw [((fu22 144 rfl).trans ((zs_row (k := 144) er19 (by decide)).trans ((fu16 144 rfl).trans (fu10 144 rfl))))]; exact k9)) (fun _ => by rw [(fu22 145 rfl)]; rw [zs_self er19, pk_us]; exact hv17) hE H locs ls hw hS (lv_sub hl [0, 3] rfl)
    · have hE := zifnF c13 hE
      have k25 : zI 1 1 (r11 143 (zn a3)) := zI.eqq c13 (zI.lit (a := 1) (b := 1) (c := 1) (by decide))
      refine lv_aload_n hx hb dX1_readDoer_37 rfl (lv_at hl 0 rfl) ?_
      refine va_get (D := D) (ci := 1) (v := .ref (y 145)) hx hb hts hiX1 hown hK hw.1 142 kg142 rfl 2 (by decide) lf18 (fun _ h9 => h9) rfl dX1_readDoer_38 ?_
      refine lv_iload_n hx hb dX1_readDoer_41 rfl (lv_at hl 3 rfl) ?_
      refine lv_aload_n hx hb dX1_readDoer_42 rfl (lv_at hl 1 rfl) ?_
      refine lv_iconst (v := 1) hx hb dX1_readDoer_43 (by decide) ?_
      refine lv_bipush (v := 20) hx hb dX1_readDoer_44 (by decide) ?_
      refine kcallV (As := [.int 1, .int 20]) (rest := [.int a3, .ref (y 145)]) ⟨hx, hb, hml, hown, hts⟩ (kc_takeNumber l D ct E y (1 : Int32) (20 : Int32) r11 q12 ju10 hEi) (wqX1_75_kc_takeNumber hts ⟨Nat.le_of_ble_eq_true rfl, Nat.le_of_ble_eq_true rfl⟩) hw hS hA hK hZ hN 8 196 rfl kg196 rfl hl.1 rfl (Nat.le_of_ble_eq_true rfl) dX1_readDoer_46 49 rfl (fun u26 H locs pu26 hw hS => ?_)
      obtain ⟨v27, r28, q29⟩ := u26
      have hv27 : zI (-2147483648) 2147483647 v27 := pu26.1
      have ju26 : kJ r28 := pu26.2.1
      have fu26 : zFr [196] r11 r28 := pu26.2.2.1
      have xu26 : (v27, r28, q29) = (Gk_takeNumber (1 : Int32) (20 : Int32) r11 q12) := pu26.2.2.2.1
      have hE := zc_vrqE xu26 hE
      have hw : zPD D A (kW ct E y r28 q29) H := hw
      refine zfr 49 [.int v27, .int a3, .ref (y 145)] rfl rfl ?_
      refine miast hx hb hK hw hS 145 kg145 g3 (by decide) dX1_readDoer_49 (kW ct E y (zset r28 145 (upd (r28 145) (zn a3) v27)) q29) ks145 (fun H locs hw hS => ?_)
      refine cmgen (P := fun x => kJ x ∧ zFr [144, 145, 196] r x) hw ⟨ju26.set rfl (zI.top _), ((pr6.2.tr fu10 rfl).tr fu26 rfl).set rfl⟩ (fun r30 er30 hw pr30 => ?_)
      have hE := zletE er30 hE
      refine lv_goto (tgt := 87) hx hb dX1_readDoer_50 (by decide) ?_
      exact cut87 r30 q29 g3 pr30.1 pr30.2 ((kLb.set (kLb.row (kLb.row (kLb.set (kLb.row x1 (fu3 143 rfl) (fu3 144 rfl) (fu3 145 rfl)) (Int.le_refl _) er6) (fu10 143 rfl) (fu10 144 rfl) (fu10 145 rfl)) (fu26 143 rfl) (fu26 144 rfl) (fu26 145 rfl)) (Int.le_refl _) er30)) ((by rw [((zs_row (k := 144) er30 (by decide)).trans ((fu26 144 rfl).trans (fu10 144 rfl)))]; exact k9)) (fun h9 => by rw [((zs_row (k := 143) er30 (by decide)).trans (fu26 143 rfl)), c13] at h9; exact absurd h9 (by decide)) hE H locs ls hw hS (lv_sub hl [0, 3] rfl)
  · have hE := zifnF c8 hE
    have k31 : zI (-1) (-1) (r6 144 (zn a3)) := zI.eqq c8 (zI.lit (a := (-1)) (b := (-1)) (c := (-1)) (by decide))
    refine lv_iconst (v := 0) hx hb dX1_readDoer_21 (by decide) ?_
    exact ziretQ hQ hx hb hr rfl hlocks ((0 : Int32), r6, q) rfl ⟨((zI.lit (a := 0) (b := 0) (c := 0) (by decide)).w (c := 0) (d := 1) (by decide)), pr6.1, pr6.2, (show kLb r6 a3.toInt from (kLb.set (kLb.row x1 (fu3 143 rfl) (fu3 144 rfl) (fu3 145 rfl)) (Int.le_refl _) er6)), (fun h => absurd rfl h), (hE.symm.trans hX), trivial⟩ hw hS dX1_readDoer_22

set_option maxHeartbeats 4000000 in
set_option maxRecDepth 100000 in
theorem kc_readLineJ (l : Launch) (D : va_G) (ct : Nat → ClassId) (E : Nat → Nat) (y : Nat → Nat) (r : zRr) (q : zRq) (hJ0 : kJ r) (hEi : kEi E) (x1 : kLb r (r 142 3).toInt) : cC l yX1_readLine (.code yX1_readLine cX1_readLine 5 (some .boolean) :: wsL_law0) ({ frames := 10, cells := 0, slots := 0, locals := 440 }) D ct E [.ref (y 142), .ref (y 196), .ref (y 171)] (kW ct E y r q) (S := Int32 × zRr × zRq) (fun u => some (.int u.1)) (fun u => zI 0 1 u.1 ∧ kJ u.2.1 ∧ zFr [142, 143, 144, 145, 196] r u.2.1 ∧ (¬ u.1 = 0 → kLb u.2.1 (u.2.1 142 3).toInt) ∧ u = (Gk_readLineJ r q) ∧ True) (fun u => kW ct E y u.2.1 u.2.2) := by
  refine cofQ cX1_readLine 5 (some .boolean) (by decide) rfl (Nat.le_of_ble_eq_true rfl) ?_
  intro p e s m below meth c A a9 Q ha9 hx hb hr hml hts hown hlocks hname hK hA hZ hN hQ
  have hown : s.vm.findClass RX1 = some m.cls := hown
  have hiX1 : ∀ w ∈ wsX10, w ∈ .code yX1_readLine cX1_readLine 5 (some .boolean) :: wsL_law0 := fun _ h => ki (zs_wsX10 _ h)
  have lf9 := hts (.fieldLink RX1 9 "BeardPass$Journey" "deeds" "[I") (ki (zr5 17 rfl))
  have lf15 := hts (.fieldLink RX1 15 "BeardPass$Journey" "doers" "[I") (ki (zr5 18 rfl))
  have lf18 := hts (.fieldLink RX1 18 "BeardPass$Journey" "objects" "[I") (ki (zr5 19 rfl))
  have lf21 := hts (.fieldLink RX1 21 "BeardPass$Journey" "lines" "I") (ki (zr5 20 rfl))
  obtain ⟨X, hX⟩ : ∃ X, X = (Gk_readLineJ r q) := ⟨_, rfl⟩
  intro H locs hw hS ls hl
  have hl : lv_has ls 5 [(0, .ref (y 142)), (1, .ref (y 196)), (2, .ref (y 171))] := hl
  have hE := hX
  unfold Gk_readLineJ at hE
  refine lv_aload_n hx hb dX1_readLine_0 rfl (lv_at hl 1 rfl) ?_
  refine zcallW (va_runS (As := [.ref (y 196)]) (rest := []) ⟨hx, hb, hml, hown, hts⟩ (kc_deedHere l D ct E y r q hJ0 hEi H.size) (va_cwS 1 hts (kgS (zr28 16 rfl) (zr28 17 rfl) (zr2 5 rfl) (zr28 18 rfl)) rfl rfl rfl (by decide +kernel) ⟨Nat.le_of_ble_eq_true rfl, Nat.le_of_ble_eq_true rfl⟩) (cpreS hK hw hS hA hZ hN (List.range (kW ct E y r q).length) kWn (zrange _)) rfl rfl hl.1 rfl (lv_room (Nat.le_of_ble_eq_true rfl)) dX1_readLine_1 ⟨Nat.le_of_ble_eq_true rfl, Nat.le_of_ble_eq_true rfl⟩) hw hS hA 4 rfl (fun u1 H locs pu1 hw hS => ?_)
  have hu1 : zI (-1) 3 u1 := pu1.1
  have xu1 : u1 = (Gk_deedHere r q) := pu1.2.1
  have hE := zletE xu1 hE
  have hw : zPD D A (kW ct E y r q) H := hw
  refine zfr 4 [.int u1] rfl rfl ?_
  refine lv_istore_n (lv' := [(3, .int u1), (0, .ref (y 142)), (1, .ref (y 196)), (2, .ref (y 171))]) hx hb dX1_readLine_4 rfl hl (by decide) rfl (fun ls hl => ?_)
  refine lv_iload_n hx hb dX1_readLine_5 rfl (lv_at hl 0 rfl) ?_
  refine lv_iconst (v := (-1)) hx hb dX1_readLine_6 (by decide) ?_
  refine lv_icmp_ne (tgt := 16) hx hb dX1_readLine_7 (by decide) (fun c3 => ?_) (fun c3 => ?_)
  · have hE := zifnT c3 hE
    have k4 : zI 0 3 (u1) := zI.neD c3 hu1 (zI.lit (a := (-1)) (b := (-1)) (c := (-1)) (by decide)) (by decide)
    refine lv_aload_n hx hb dX1_readLine_16 rfl (lv_at hl 1 rfl) ?_
    refine va_get (D := D) (ci := 1) (v := .int (r 142 3)) hx hb hts hiX1 hown hK hw.1 142 kg142 rfl 3 (by decide) lf21 (fun _ h9 => h9) rfl dX1_readLine_17 ?_
    refine lv_bipush (v := 40) hx hb dX1_readLine_20 (by decide) ?_
    refine lv_icmp_lt (tgt := 31) hx hb dX1_readLine_22 (by decide) (fun c5 => ?_) (fun c5 => ?_)
    · have hE := zifT c5 hE
      have k6 : zI 0 39 (r 142 3) := zI.ltU c5 (show zI 0 40 (r 142 3) from hJ0.i 142 3) (zI.lit (a := 40) (b := 40) (c := 40) (by decide)) (by decide)
      refine lv_aload_n hx hb dX1_readLine_31 rfl (lv_at hl 1 rfl) ?_
      refine va_get (D := D) (ci := 1) (v := .int (r 142 3)) hx hb hts hiX1 hown hK hw.1 142 kg142 rfl 3 (by decide) lf21 (fun _ h9 => h9) rfl dX1_readLine_32 ?_
      refine lv_istore (lv' := [(4, .int (r 142 3)), (3, .int u1), (0, .ref (y 142)), (1, .ref (y 196)), (2, .ref (y 171))]) hx hb dX1_readLine_35 hl (by decide) rfl (fun ls hl => ?_)
      refine lv_aload_n hx hb dX1_readLine_37 rfl (lv_at hl 2 rfl) ?_
      refine lv_dup hx hb dX1_readLine_38 rfl ?_
      refine va_get (D := D) (ci := 1) (v := .int (r 142 3)) hx hb hts hiX1 hown hK hw.1 142 kg142 rfl 3 (by decide) lf21 (fun _ h9 => h9) rfl dX1_readLine_39 ?_
      refine lv_iconst (v := 1) hx hb dX1_readLine_42 (by decide) ?_
      refine lv_iadd hx hb dX1_readLine_43 ?_
      have k7 : zI 1 40 ((r 142 3) + 1) := zI.add k6 (zI.lit (a := 1) (b := 1) (c := 1) (by decide)) (by decide)
      refine zput (D := D) (ci := 1) (v := .int ((r 142 3) + 1)) (ty := .int) hx hb hts hiX1 tyX1 tyX1_ok nmX1 hown hK hw hS 142 kg142 rfl 3 (by decide) lf21 (fun _ h9 => h9) rfl (by decide +kernel) rfl rfl (Nat.le_of_ble_eq_true rfl) dX1_readLine_44 (kW ct E y (zset r 142 (upd (r 142) 3 ((r 142 3) + 1))) q) ks142_3 (fun H locs hw hS => ?_)
      refine cmgen (P := fun x => kJ x ∧ zFr [142, 143, 144, 145, 196] r x) hw ⟨hJ0.set rfl (k7.w (c := 0) (d := 40) (by decide)), (zFr.refl).set rfl⟩ (fun r8 er8 hw pr8 => ?_)
      have hE := zletE er8 hE
      refine lv_aload_n hx hb dX1_readLine_47 rfl (lv_at hl 2 rfl) ?_
      refine va_get (D := D) (ci := 1) (v := .ref (y 143)) hx hb hts hiX1 hown hK hw.1 142 kg142 rfl 0 (by decide) lf9 (fun _ h9 => h9) rfl dX1_readLine_48 ?_
      refine lv_iload hx hb dX1_readLine_51 (lv_at hl 0 rfl) ?_
      refine lv_iload_n hx hb dX1_readLine_53 rfl (lv_at hl 1 rfl) ?_
      refine miast hx hb hK hw hS 143 kg143 k6 (by decide) dX1_readLine_54 (kW ct E y (zset r8 143 (upd (r8 143) (zn (r 142 3)) u1)) q) ks143 (fun H locs hw hS => ?_)
      refine cmgen (P := fun x => kJ x ∧ zFr [142, 143, 144, 145, 196] r x) hw ⟨pr8.1.set rfl (zI.top _), pr8.2.set rfl⟩ (fun r9 er9 hw pr9 => ?_)
      have hE := zletE er9 hE
      refine lv_aload_n hx hb dX1_readLine_55 rfl (lv_at hl 2 rfl) ?_
      refine va_get (D := D) (ci := 1) (v := .ref (y 144)) hx hb hts hiX1 hown hK hw.1 142 kg142 rfl 1 (by decide) lf15 (fun _ h9 => h9) rfl dX1_readLine_56 ?_
      refine lv_iload hx hb dX1_readLine_59 (lv_at hl 0 rfl) ?_
      refine lv_iconst (v := 0) hx hb dX1_readLine_61 (by decide) ?_
      refine miast hx hb hK hw hS 144 kg144 k6 (by decide) dX1_readLine_62 (kW ct E y (zset r9 144 (upd (r9 144) (zn (r 142 3)) (0 : Int32))) q) ks144 (fun H locs hw hS => ?_)
      refine cmgen (P := fun x => kJ x ∧ zFr [142, 143, 144, 145, 196] r x) hw ⟨pr9.1.set rfl ((zI.lit (a := 0) (b := 0) (c := 0) (by decide)).w (c := (-1)) (d := 5) (by decide)), pr9.2.set rfl⟩ (fun r10 er10 hw pr10 => ?_)
      have hE := zletE er10 hE
      refine lv_aload_n hx hb dX1_readLine_63 rfl (lv_at hl 2 rfl) ?_
      refine va_get (D := D) (ci := 1) (v := .ref (y 145)) hx hb hts hiX1 hown hK hw.1 142 kg142 rfl 2 (by decide) lf18 (fun _ h9 => h9) rfl dX1_readLine_64 ?_
      refine lv_iload hx hb dX1_readLine_67 (lv_at hl 0 rfl) ?_
      refine lv_iconst (v := 0) hx hb dX1_readLine_69 (by decide) ?_
      refine miast hx hb hK hw hS 145 kg145 k6 (by decide) dX1_readLine_70 (kW ct E y (zset r10 145 (upd (r10 145) (zn (r 142 3)) (0 : Int32))) q) ks145 (fun H locs hw hS => ?_)
      refine cmgen (P := fun x => kJ x ∧ zFr [142, 143, 144, 145, 196] r x) hw ⟨pr10.1.set rfl (zI.top _), pr10.2.set rfl⟩ (fun r11 er11 hw pr11 => ?_)
      have hE := zletE er11 hE
      refine lv_aload_n hx hb dX1_readLine_71 rfl (lv_at hl 3 rfl) ?_
      refine kcallV (As := []) (rest := []) ⟨hx, hb, hml, hown, hts⟩ (kc_step l D ct E y r11 q pr11.1 hEi) (wqX1_64_kc_step hts ⟨Nat.le_of_ble_eq_true rfl, Nat.le_of_ble_eq_true rfl⟩) hw hS hA hK hZ hN 8 196 rfl kg196 rfl hl.1 rfl (Nat.le_of_ble_eq_true rfl) dX1_readLine_72 75 rfl (fun u12 H locs pu12 hw hS => ?_)
      obtain ⟨r13, q14⟩ := u12
      have ju12 : kJ r13 := pu12.1
      have fu12 : zFr [196] r11 r13 := pu12.2.1
      have xu12 : (r13, q14) = (Gk_step r11 q) := pu12.2.2.1
      have hE := zc_rqE xu12 hE
      have hw : zPD D A (kW ct E y r13 q14) H := hw
      refine zfr 75 [] rfl rfl ?_
      refine lv_iload_n hx hb dX1_readLine_75 rfl (lv_at hl 1 rfl) ?_
      refine lv_iconst (v := 3) hx hb dX1_readLine_76 (by decide) ?_
      refine lv_icmp_eq (tgt := 91) hx hb dX1_readLine_77 (by decide) (fun c15 => ?_) (fun c15 => ?_)
      · have hE := zifT c15 hE
        have k16 : zI 3 3 (u1) := zI.eqq c15 (zI.lit (a := 3) (b := 3) (c := 3) (by decide))
        refine lv_iconst (v := 1) hx hb dX1_readLine_91 (by decide) ?_
        refine lv_goto (tgt := 96) hx hb dX1_readLine_92 (by decide) ?_
        exact ziretQ hQ hx hb hr rfl hlocks ((1 : Int32), r13, q14) rfl ⟨((zI.lit (a := 1) (b := 1) (c := 1) (by decide)).w (c := 0) (d := 1) (by decide)), ju12, (pr11.2.tr fu12 rfl), (show ¬ (1 : Int32) = 0 → kLb r13 (r13 142 3).toInt from (fun _ => (kLb.up (kLb.row (kLb.set (kLb.set (kLb.set (kLb.row x1 (zs_row (k := 143) er8 (by decide)) (zs_row (k := 144) er8 (by decide)) (zs_row (k := 145) er8 (by decide))) (Int.le_refl _) er9) (Int.le_refl _) er10) (Int.le_refl _) er11) (fu12 143 rfl) (fu12 144 rfl) (fu12 145 rfl)) (by rw [((congrFun (fu12 142 rfl) 3).trans ((congrFun (zs_row (k := 142) er11 (by decide)) 3).trans ((congrFun (zs_row (k := 142) er10 (by decide)) 3).trans ((congrFun (zs_row (k := 142) er9 (by decide)) 3).trans ((congrFun (zs_self er8) 3).trans pk_us)))))]; exact i32_s k6 (by decide)) rfl ⟨fun h9 => absurd h9 (by rw [((fu12 143 rfl).trans ((zs_row (k := 143) er11 (by decide)).trans (zs_row (k := 143) er10 (by decide))))]; rw [zs_self er9, pk_us]; rw [c15]; decide), by rw [((fu12 144 rfl).trans (zs_row (k := 144) er11 (by decide)))]; rw [zs_self er10, pk_us]; exact ⟨by decide, by decide⟩⟩))), (hE.symm.trans hX), trivial⟩ hw hS dX1_readLine_96
      · have hE := zifF c15 hE
        have k17 : zI 0 2 (u1) := zI.neU c15 k4 (zI.lit (a := 3) (b := 3) (c := 3) (by decide)) (by decide)
        refine lv_aload_n hx hb dX1_readLine_80 rfl (lv_at hl 2 rfl) ?_
        refine lv_aload_n hx hb dX1_readLine_81 rfl (lv_at hl 3 rfl) ?_
        refine lv_aload_n hx hb dX1_readLine_82 rfl (lv_at hl 4 rfl) ?_
        refine lv_iload hx hb dX1_readLine_83 (lv_at hl 0 rfl) ?_
        refine kcallV (As := [.ref (y 196), .ref (y 171), .int (r 142 3)]) (rest := []) ⟨hx, hb, hml, hown, hts⟩ (kc_readDoer l D ct E y (r 142 3) r13 q14 k6 ju12 hEi ((kLb.row (kLb.set (kLb.set (kLb.set (kLb.row x1 (zs_row (k := 143) er8 (by decide)) (zs_row (k := 144) er8 (by decide)) (zs_row (k := 145) er8 (by decide))) (Int.le_refl _) er9) (Int.le_refl _) er10) (Int.le_refl _) er11) (fu12 143 rfl) (fu12 144 rfl) (fu12 145 rfl)))) (wqX1_67_kc_readDoer hts ⟨Nat.le_of_ble_eq_true rfl, Nat.le_of_ble_eq_true rfl⟩) hw hS hA hK hZ hN 1 142 rfl kg142 rfl hl.1 rfl (Nat.le_of_ble_eq_true rfl) dX1_readLine_85 88 rfl (fun u18 H locs pu18 hw hS => ?_)
        obtain ⟨v19, r20, q21⟩ := u18
        have hv19 : zI 0 1 v19 := pu18.1
        have ju18 : kJ r20 := pu18.2.1
        have fu18 : zFr [144, 145, 196] r13 r20 := pu18.2.2.1
        have yu18_0 : (kLb r20 (r 142 3).toInt) := pu18.2.2.2.1
        have yu18_1 : (¬ v19 = 0 → kGd r20 (zn (r 142 3))) := pu18.2.2.2.2.1
        have xu18 : (v19, r20, q21) = (Gk_readDoer (r 142 3) r13 q14) := pu18.2.2.2.2.2.1
        have hE := zc_vrqE xu18 hE
        have hw : zPD D A (kW ct E y r20 q21) H := hw
        refine zfr 88 [.int v19] rfl rfl ?_
        refine lv_if_eq (tgt := 95) hx hb dX1_readLine_88 (by decide) (fun c22 => ?_) (fun c22 => ?_)
        · have hE := zifT c22 hE
          have k23 : zI 0 0 (v19) := zI.eqq c22 (zI.lit (a := 0) (b := 0) (c := 0) (by decide))
          refine lv_iconst (v := 0) hx hb dX1_readLine_95 (by decide) ?_
          exact ziretQ hQ hx hb hr rfl hlocks ((0 : Int32), r20, q21) rfl ⟨((zI.lit (a := 0) (b := 0) (c := 0) (by decide)).w (c := 0) (d := 1) (by decide)), ju18, ((pr11.2.tr fu12 rfl).tr fu18 rfl), (fun h => absurd rfl h), (hE.symm.trans hX), trivial⟩ hw hS dX1_readLine_96
        · have hE := zifF c22 hE
          have k24 : zI 1 1 (v19) := zI.neD c22 hv19 (zI.lit (a := 0) (b := 0) (c := 0) (by decide)) (by decide)
          refine lv_iconst (v := 1) hx hb dX1_readLine_91 (by decide) ?_
          refine lv_goto (tgt := 96) hx hb dX1_readLine_92 (by decide) ?_
          exact ziretQ hQ hx hb hr rfl hlocks ((1 : Int32), r20, q21) rfl ⟨((zI.lit (a := 1) (b := 1) (c := 1) (by decide)).w (c := 0) (d := 1) (by decide)), ju18, ((pr11.2.tr fu12 rfl).tr fu18 rfl), (show ¬ (1 : Int32) = 0 → kLb r20 (r20 142 3).toInt from (fun _ => (kLb.up yu18_0 (by rw [((congrFun (fu18 142 rfl) 3).trans ((congrFun (fu12 142 rfl) 3).trans ((congrFun (zs_row (k := 142) er11 (by decide)) 3).trans ((congrFun (zs_row (k := 142) er10 (by decide)) 3).trans ((congrFun (zs_row (k := 142) er9 (by decide)) 3).trans ((congrFun (zs_self er8) 3).trans pk_us))))))]; exact i32_s k6 (by decide)) rfl (yu18_1 c22)))), (hE.symm.trans hX), trivial⟩ hw hS dX1_readLine_96
    · have hE := zifF c5 hE
      have k25 : zI 40 40 (r 142 3) := zI.leD (zI.nlt c5) (zI.lit (a := 40) (b := 40) (c := 40) (by decide)) (show zI 0 40 (r 142 3) from hJ0.i 142 3) (by decide)
      refine lv_aload_n hx hb dX1_readLine_25 rfl (lv_at hl 2 rfl) ?_
      refine lv_iconst (v := 5) hx hb dX1_readLine_26 (by decide) ?_
      refine kcallV (As := [.int 5]) (rest := []) ⟨hx, hb, hml, hown, hts⟩ (kc_wrong l D ct E y (5 : Int32) r q hJ0 hEi) (wqX1_60_kc_wrong hts ⟨Nat.le_of_ble_eq_true rfl, Nat.le_of_ble_eq_true rfl⟩) hw hS hA hK hZ hN 8 196 rfl kg196 rfl hl.1 rfl (Nat.le_of_ble_eq_true rfl) dX1_readLine_27 30 rfl (fun u26 H locs pu26 hw hS => ?_)
      obtain ⟨v27, r28⟩ := u26
      have hv27 : zI 0 0 v27 := pu26.1
      have ju26 : kJ r28 := pu26.2.1
      have fu26 : zFr [196] r r28 := pu26.2.2.1
      have xu26 : (v27, r28) = (Gk_wrong (5 : Int32) r q) := pu26.2.2.2.1
      have hE := zc_vrE xu26 hE
      have hw : zPD D A (kW ct E y r28 q) H := hw
      refine zfr 30 [.int v27] rfl rfl ?_
      exact ziretQ hQ hx hb hr ((hv27.w (c := 0) (d := 1) (by decide)).rn) hlocks (v27, r28, q) rfl ⟨(hv27.w (c := 0) (d := 1) (by decide)), ju26, ((zFr.refl).tr fu26 rfl), (fun h => absurd (zI.eq0 hv27) h), (hE.symm.trans hX), trivial⟩ hw hS dX1_readLine_30
  · have hE := zifnF c3 hE
    have k29 : zI (-1) (-1) (u1) := zI.eqq c3 (zI.lit (a := (-1)) (b := (-1)) (c := (-1)) (by decide))
    refine lv_aload_n hx hb dX1_readLine_10 rfl (lv_at hl 2 rfl) ?_
    refine lv_iconst (v := 1) hx hb dX1_readLine_11 (by decide) ?_
    refine kcallV (As := [.int 1]) (rest := []) ⟨hx, hb, hml, hown, hts⟩ (kc_wrong l D ct E y (1 : Int32) r q hJ0 hEi) (wqX1_60_kc_wrong hts ⟨Nat.le_of_ble_eq_true rfl, Nat.le_of_ble_eq_true rfl⟩) hw hS hA hK hZ hN 8 196 rfl kg196 rfl hl.1 rfl (Nat.le_of_ble_eq_true rfl) dX1_readLine_12 15 rfl (fun u30 H locs pu30 hw hS => ?_)
    obtain ⟨v31, r32⟩ := u30
    have hv31 : zI 0 0 v31 := pu30.1
    have ju30 : kJ r32 := pu30.2.1
    have fu30 : zFr [196] r r32 := pu30.2.2.1
    have xu30 : (v31, r32) = (Gk_wrong (1 : Int32) r q) := pu30.2.2.2.1
    have hE := zc_vrE xu30 hE
    have hw : zPD D A (kW ct E y r32 q) H := hw
    refine zfr 15 [.int v31] rfl rfl ?_
    exact ziretQ hQ hx hb hr ((hv31.w (c := 0) (d := 1) (by decide)).rn) hlocks (v31, r32, q) rfl ⟨(hv31.w (c := 0) (d := 1) (by decide)), ju30, ((zFr.refl).tr fu30 rfl), (fun h => absurd (zI.eq0 hv31) h), (hE.symm.trans hX), trivial⟩ hw hS dX1_readLine_15

set_option maxHeartbeats 4000000 in
set_option maxRecDepth 100000 in
theorem kc_readJ (l : Launch) (D : va_G) (ct : Nat → ClassId) (E : Nat → Nat) (y : Nat → Nat) (r : zRr) (q : zRq) (hJ0 : kJ r) (hEi : kEi E) : cC l yX1_read (.code yX1_read cX1_read 4 (some .boolean) :: wsL_law0) ({ frames := 11, cells := 0, slots := 0, locals := 480 }) D ct E [.ref (y 142), .ref (y 196), .ref (y 171)] (kW ct E y r q) (S := Int32 × zRr × zRq) (fun u => some (.int u.1)) (fun u => zI 0 1 u.1 ∧ kJ u.2.1 ∧ zFr [142, 143, 144, 145, 196] r u.2.1 ∧ (¬ u.1 = 0 → kLb u.2.1 (u.2.1 142 3).toInt) ∧ u = (Gk_readJ r q) ∧ True) (fun u => kW ct E y u.2.1 u.2.2) := by
  refine cofQ cX1_read 4 (some .boolean) (by decide) rfl (Nat.le_of_ble_eq_true rfl) ?_
  intro p e s m below meth c A a9 Q ha9 hx hb hr hml hts hown hlocks hname hK hA hZ hN hQ
  have hown : s.vm.findClass RX1 = some m.cls := hown
  have hiX1 : ∀ w ∈ wsX10, w ∈ .code yX1_read cX1_read 4 (some .boolean) :: wsL_law0 := fun _ h => ki (zs_wsX10 _ h)
  have hiX9 : ∀ w ∈ wsX90, w ∈ .code yX1_read cX1_read 4 (some .boolean) :: wsL_law0 := fun _ h => ki (zs_wsX90 _ h)
  have lf21 := hts (.fieldLink RX1 21 "BeardPass$Journey" "lines" "I") (ki (zr5 20 rfl))
  have lf36 := hts (.fieldLink RX1 36 "BeardPass$Tape" "sort" "LBeardPass$Sort;") (ki (zr28 8 rfl))
  have lf40 := hts (.fieldLink RX1 40 "BeardPass$Sort" "END" "LBeardPass$Sort;") (ki (zr28 9 rfl))
  have lf49 := hts (.fieldLink RX1 49 "BeardPass$Sort" "STOP" "LBeardPass$Sort;") (ki (zr28 10 rfl))
  obtain ⟨X, hX⟩ : ∃ X, X = (Gk_readJ r q) := ⟨_, rfl⟩
  have cut11 : ∀ (n11 : Nat) (w11_3 : Int32) (rw11 : zRr) (qw11 : zRq) (hw11_3 : zI 0 1000 w11_3) (jw11 : kJ rw11) (fw11 : zFr [142, 143, 144, 145, 196] r rw11) (xl11 : kLb rw11 (rw11 142 3).toInt) (hE : X = Gk_readJ_11 n11 w11_3 rw11 qw11), 1000 - w11_3.toInt < (n11 : Int) → zKf p l e ({ frames := 11, cells := 0, slots := 0, locals := 480 }) s m a9 below meth c Q D A 11 4 [] (kW ct E y rw11 qw11) [(0, .ref (y 142)), (1, .ref (y 196)), (2, .ref (y 171)), (3, .int w11_3)] := by
    intro n11
    induction n11 with
    | zero => intro w11_3 rw11 qw11 hw11_3 jw11 fw11 xl11 hE hm11; exact zI.no hw11_3 (by decide) hm11
    | succ n11 ih11 =>
      intro w11_3 rw11 qw11 hw11_3 jw11 fw11 xl11 hE hm11
      have hE : X = Bk_readJ_11 (Gk_readJ_11 n11) w11_3 rw11 qw11 := hE
      unfold Bk_readJ_11 at hE
      intro H locs ls hw hS hl
      refine lv_iload_n hx hb dX1_read_11 rfl (lv_at hl 3 rfl) ?_
      refine lv_sipush (v := 1000) hx hb dX1_read_12 (by decide) ?_
      refine lv_icmp_ge (tgt := 55) hx hb dX1_read_15 (by decide) (fun c1 => ?_) (fun c1 => ?_)
      · have hE := zifT c1 hE
        have k2 : zI 1000 1000 (w11_3) := zI.leD c1 (zI.lit (a := 1000) (b := 1000) (c := 1000) (by decide)) hw11_3 (by decide)
        refine lv_iconst (v := 1) hx hb dX1_read_55 (by decide) ?_
        exact ziretQ hQ hx hb hr rfl hlocks ((1 : Int32), rw11, qw11) rfl ⟨((zI.lit (a := 1) (b := 1) (c := 1) (by decide)).w (c := 0) (d := 1) (by decide)), jw11, fw11, (show ¬ (1 : Int32) = 0 → kLb rw11 (rw11 142 3).toInt from (fun _ => xl11)), (hE.symm.trans hX), trivial⟩ hw hS dX1_read_56
      · have hE := zifF c1 hE
        have k3 : zI 0 999 (w11_3) := zI.ltU (zI.nle c1) hw11_3 (zI.lit (a := 1000) (b := 1000) (c := 1000) (by decide)) (by decide)
        refine lv_aload_n hx hb dX1_read_18 rfl (lv_at hl 1 rfl) ?_
        refine va_get (D := D) (ci := 8) (v := .ref (E (zn (rw11 196 4)))) hx hb hts hiX9 hown hK hw.1 196 kg196 rfl 4 (by decide) lf36 (fun _ h9 => h9) rfl dX1_read_19 (cgenSE (show zI 0 32 (rw11 196 4) from jw11.i 196 4) (fun v4 ev4 hv4 => ?_))
        have hE := zletE ev4 hE
        refine cgets 31 (by decide) hx hb hZ hS hown lf40 dX1_read_22 (ztop (.ref (E (zn 31))) rfl ?_)
        refine cxacmp_eq (a := v4) (b := (31 : Int32)) (tgt := 55) hEi hv4 ((zI.lit (a := 31) (b := 31) (c := 31) (by decide)).w (c := 0) (d := 32) (by decide)) hx hb dX1_read_25 (by decide) (fun c5 => ?_) (fun c5 => ?_)
        · have hE := zifT c5 hE
          refine lv_iconst (v := 1) hx hb dX1_read_55 (by decide) ?_
          exact ziretQ hQ hx hb hr rfl hlocks ((1 : Int32), rw11, qw11) rfl ⟨((zI.lit (a := 1) (b := 1) (c := 1) (by decide)).w (c := 0) (d := 1) (by decide)), jw11, fw11, (show ¬ (1 : Int32) = 0 → kLb rw11 (rw11 142 3).toInt from (fun _ => xl11)), (hE.symm.trans hX), trivial⟩ hw hS dX1_read_56
        · have hE := zifF c5 hE
          refine lv_aload_n hx hb dX1_read_28 rfl (lv_at hl 0 rfl) ?_
          refine lv_aload_n hx hb dX1_read_29 rfl (lv_at hl 1 rfl) ?_
          refine lv_aload_n hx hb dX1_read_30 rfl (lv_at hl 2 rfl) ?_
          refine kcallV (As := [.ref (y 196), .ref (y 171)]) (rest := []) ⟨hx, hb, hml, hown, hts⟩ (kc_readLineJ l D ct E y rw11 qw11 jw11 hEi (xl11)) (wqX1_45_kc_readLineJ hts ⟨Nat.le_of_ble_eq_true rfl, Nat.le_of_ble_eq_true rfl⟩) hw hS hA hK hZ hN 1 142 rfl kg142 rfl hl.1 rfl (Nat.le_of_ble_eq_true rfl) dX1_read_31 34 rfl (fun u6 H locs pu6 hw hS => ?_)
          obtain ⟨v7, r8, q9⟩ := u6
          have hv7 : zI 0 1 v7 := pu6.1
          have ju6 : kJ r8 := pu6.2.1
          have fu6 : zFr [142, 143, 144, 145, 196] rw11 r8 := pu6.2.2.1
          have yu6_0 : (¬ v7 = 0 → kLb r8 (r8 142 3).toInt) := pu6.2.2.2.1
          have xu6 : (v7, r8, q9) = (Gk_readLineJ rw11 qw11) := pu6.2.2.2.2.1
          have hE := zc_vrqE xu6 hE
          have hw : zPD D A (kW ct E y r8 q9) H := hw
          refine zfr 34 [.int v7] rfl rfl ?_
          refine lv_if_eq (tgt := 47) hx hb dX1_read_34 (by decide) (fun c10 => ?_) (fun c10 => ?_)
          · have hE := zifT c10 hE
            have k11 : zI 0 0 (v7) := zI.eqq c10 (zI.lit (a := 0) (b := 0) (c := 0) (by decide))
            refine lv_iconst (v := 0) hx hb dX1_read_47 (by decide) ?_
            exact ziretQ hQ hx hb hr rfl hlocks ((0 : Int32), r8, q9) rfl ⟨((zI.lit (a := 0) (b := 0) (c := 0) (by decide)).w (c := 0) (d := 1) (by decide)), ju6, (fw11.tr fu6 rfl), (fun h => absurd rfl h), (hE.symm.trans hX), trivial⟩ hw hS dX1_read_48
          · have hE := zifF c10 hE
            have k12 : zI 1 1 (v7) := zI.neD c10 hv7 (zI.lit (a := 0) (b := 0) (c := 0) (by decide)) (by decide)
            refine lv_aload_n hx hb dX1_read_37 rfl (lv_at hl 1 rfl) ?_
            refine cgets 28 (by decide) hx hb hZ hS hown lf49 dX1_read_38 (ztop (.ref (E (zn 28))) rfl ?_)
            refine kcallV (As := [.ref (E (zn 28))]) (rest := []) ⟨hx, hb, hml, hown, hts⟩ (kc_take l D ct E y 28 r8 q9 ((zI.lit (a := 28) (b := 28) (c := 28) (by decide)).w (c := 0) (d := 32) (by decide)) ju6 hEi) (wqX1_52_kc_take hts ⟨Nat.le_of_ble_eq_true rfl, Nat.le_of_ble_eq_true rfl⟩) hw hS hA hK hZ hN 8 196 rfl kg196 rfl hl.1 rfl (Nat.le_of_ble_eq_true rfl) dX1_read_41 44 rfl (fun u13 H locs pu13 hw hS => ?_)
            obtain ⟨v14, r15, q16⟩ := u13
            have hv14 : zI 0 1 v14 := pu13.1
            have ju13 : kJ r15 := pu13.2.1
            have fu13 : zFr [196] r8 r15 := pu13.2.2.1
            have xu13 : (v14, r15, q16) = (Gk_take 28 r8 q9) := pu13.2.2.2.1
            have hE := zc_vrqE xu13 hE
            have hw : zPD D A (kW ct E y r15 q16) H := hw
            refine zfr 44 [.int v14] rfl rfl ?_
            refine lv_if_ne (tgt := 49) hx hb dX1_read_44 (by decide) (fun c17 => ?_) (fun c17 => ?_)
            · have hE := zifnT c17 hE
              have k18 : zI 1 1 (v14) := zI.neD c17 hv14 (zI.lit (a := 0) (b := 0) (c := 0) (by decide)) (by decide)
              refine lv_iinc (v := w11_3 + 1) (lv' := [(3, .int (w11_3 + 1)), (0, .ref (y 142)), (1, .ref (y 196)), (2, .ref (y 171))]) hx hb dX1_read_49 hl (k := 3) rfl (rfl) (by decide) rfl (fun ls hl => ?_)
              have k19 : zI 1 1000 (w11_3 + 1) := zI.add k3 (zI.lit (a := 1) (b := 1) (by decide)) (by decide)
              refine lv_goto (tgt := 11) hx hb dX1_read_52 (by decide) ?_
              exact ih11 (w11_3 + 1) r15 q16 (k19.w (c := 0) (d := 1000) (by decide)) ju13 ((fw11.tr fu6 rfl).tr fu13 rfl) (by rw [(fu13 142 rfl)]; exact kLb.row (yu6_0 c10) (fu13 143 rfl) (fu13 144 rfl) (fu13 145 rfl)) hE (zI.up k3 (by decide) hm11) H locs ls hw hS (lv_sub hl [1, 2, 3, 0] rfl)
            · have hE := zifnF c17 hE
              have k20 : zI 0 0 (v14) := zI.eqq c17 (zI.lit (a := 0) (b := 0) (c := 0) (by decide))
              refine lv_iconst (v := 0) hx hb dX1_read_47 (by decide) ?_
              exact ziretQ hQ hx hb hr rfl hlocks ((0 : Int32), r15, q16) rfl ⟨((zI.lit (a := 0) (b := 0) (c := 0) (by decide)).w (c := 0) (d := 1) (by decide)), ju13, ((fw11.tr fu6 rfl).tr fu13 rfl), (fun h => absurd rfl h), (hE.symm.trans hX), trivial⟩ hw hS dX1_read_48
  intro H locs hw hS ls hl
  have hl : lv_has ls 4 [(0, .ref (y 142)), (1, .ref (y 196)), (2, .ref (y 171))] := hl
  have hE := hX
  unfold Gk_readJ at hE
  refine lv_aload_n hx hb dX1_read_0 rfl (lv_at hl 0 rfl) ?_
  refine lv_iconst (v := 0) hx hb dX1_read_1 (by decide) ?_
  refine zput (D := D) (ci := 1) (v := .int 0) (ty := .int) hx hb hts hiX1 tyX1 tyX1_ok nmX1 hown hK hw hS 142 kg142 rfl 3 (by decide) lf21 (fun _ h9 => h9) rfl (by decide +kernel) rfl rfl (Nat.le_of_ble_eq_true rfl) dX1_read_2 (kW ct E y (zset r 142 (upd (r 142) 3 (0 : Int32))) q) ks142_3 (fun H locs hw hS => ?_)
  refine cmgen (P := fun x => kJ x ∧ zFr [142, 143, 144, 145, 196] r x) hw ⟨hJ0.set rfl ((zI.lit (a := 0) (b := 0) (c := 0) (by decide)).w (c := 0) (d := 40) (by decide)), (zFr.refl).set rfl⟩ (fun r21 er21 hw pr21 => ?_)
  have hE := zletE er21 hE
  refine lv_aload_n hx hb dX1_read_5 rfl (lv_at hl 1 rfl) ?_
  refine kcallV (As := []) (rest := []) ⟨hx, hb, hml, hown, hts⟩ (kc_begin l D ct E y r21 q pr21.1 hEi) (wqX1_31_kc_begin hts ⟨Nat.le_of_ble_eq_true rfl, Nat.le_of_ble_eq_true rfl⟩) hw hS hA hK hZ hN 8 196 rfl kg196 rfl hl.1 rfl (Nat.le_of_ble_eq_true rfl) dX1_read_6 9 rfl (fun u22 H locs pu22 hw hS => ?_)
  obtain ⟨r23, q24⟩ := u22
  have ju22 : kJ r23 := pu22.1
  have fu22 : zFr [196] r21 r23 := pu22.2.1
  have xu22 : (r23, q24) = (Gk_begin r21 q) := pu22.2.2.1
  have hE := zc_rqE xu22 hE
  have hw : zPD D A (kW ct E y r23 q24) H := hw
  refine zfr 9 [] rfl rfl ?_
  refine lv_iconst (v := 0) hx hb dX1_read_9 (by decide) ?_
  refine lv_istore_n (lv' := [(3, .int 0), (0, .ref (y 142)), (1, .ref (y 196)), (2, .ref (y 171))]) hx hb dX1_read_10 rfl hl (by decide) rfl (fun ls hl => ?_)
  exact cut11 1001 0 r23 q24 ((zI.lit (a := 0) (b := 0) (c := 0) (by decide)).w (c := 0) (d := 1000) (by decide)) ju22 (pr21.2.tr fu22 rfl) (kLb.zero (by rw [((congrFun (fu22 142 rfl) 3).trans ((congrFun (zs_self er21) 3).trans pk_us))]; decide)) hE (zI.m0 (zI.lit (a := 0) (b := 0) (c := 0) (by decide)) (by decide)) H locs ls hw hS (lv_sub hl [1, 2, 3, 0] rfl)
