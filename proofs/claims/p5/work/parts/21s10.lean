set_option maxRecDepth 20000 in
theorem mL_X12_shifts : ∀ w ∈ wsX12_shifts, w ∈ wsL_law0 := (zcm (zr27 16 rfl) znm)
set_option maxRecDepth 20000 in
theorem mL_X12_shiftsNames : ∀ w ∈ wsX12_shiftsNames, w ∈ wsL_law0 := (zcm (zr27 19 rfl) znm)
noncomputable def Gm_lays (r : zRr) (q : zRq) : zRr × zRq :=
  zlet (α := zRr) (zset r 1 (zsf (r 1) 4 4)) <| fun r1 => zlet (α := zRq) (zset q 2 (zsL (q 2) 6 6)) <| fun q2 => zlet (α := zRq) (zset q2 3 (zsL (q2 3) 6 6)) <| fun q3 => zlet (α := zRr) (zset r1 4 (zsf (r1 4) 6 6)) <| fun r4 => zlet (α := zRr) (zset r4 5 (zsf (r4 5) 6 6)) <| fun r5 => zlet (α := zRr) (zset r5 6 (zsf (r5 6) 6 6)) <| fun r6 => zlet (α := zRr) (zset r6 7 (zsf (r6 7) 6 6)) <| fun r7 => zlet (α := zRr) (zset r7 8 (zsf (r7 8) 6 6)) <| fun r8 => zlet (α := zRr) (zset r8 9 (zsf (r8 9) 6 6)) <| fun r9 => zlet (α := zRr) (zset r9 12 (zsf (r9 12) 1000 1000)) <| fun r10 => zlet (α := zRr) (zset r10 10 (upd (r10 10) 0 ((r10 10 1) - 1000))) <| fun r12 => zlet (α := zRr) (zset r12 11 (upd (r12 11) 0 ((r12 11 1) - 1000))) <| fun r14 => (r14, q3)
set_option maxHeartbeats 4000000 in
set_option maxRecDepth 100000 in
theorem mc_lays (l : Launch) (D : va_G) (ct : Nat → ClassId) (h0 : Nat) (y : Nat → Nat) (B : Int) (r : zRr) (q : zRq) (hJ0 : mJ B r) (x1 : mT1 r) (x2 : mD1 r) (x3 : mF1 r) : zC l yX12_lays (.code yX12_lays cX12_lays 1 none :: wsL_law0) ({ frames := 2, cells := 0, slots := 0, locals := 120 }) D ct [] [.ref h0] (mW ct h0 y r q) (S := zRr × zRq) (fun u => none) (fun u => mJ B u.1 ∧ zFr [1, 4, 5, 6, 7, 8, 9, 12, 10, 11] r u.1 ∧ u = (Gm_lays r q) ∧ True) (fun u => mW ct h0 y u.1 u.2) 0 0 := by
  refine zofQ cX12_lays 1 none (by decide) rfl (Nat.le_of_ble_eq_true rfl) ?_
  intro p e s m below meth c A a9 Q ha9 hx hb hr hml hts hown hlocks hname hK hA hZ hN hQ
  have hown : s.vm.findClass RX12 = some m.cls := hown
  have hiX12 : ∀ w ∈ wsX120, w ∈ .code yX12_lays cX12_lays 1 none :: wsL_law0 := fun _ h => ki (zs_wsX120 _ h)
  have lf13 := hts (.fieldLink RX12 13 "BeardPassModel" "land" "[I") (ki (zr7 20 rfl))
  have lf16 := hts (.fieldLink RX12 16 "BeardPassModel" "townName" "[J") (ki (zr7 21 rfl))
  have lf20 := hts (.fieldLink RX12 20 "BeardPassModel" "personName" "[J") (ki (zr7 22 rfl))
  have lf23 := hts (.fieldLink RX12 23 "BeardPassModel" "asks" "[I") (ki (zr7 23 rfl))
  have lf26 := hts (.fieldLink RX12 26 "BeardPassModel" "roads" "[I") (ki (zr8 0 rfl))
  have lf29 := hts (.fieldLink RX12 29 "BeardPassModel" "kind" "[I") (ki (zr8 1 rfl))
  have lf32 := hts (.fieldLink RX12 32 "BeardPassModel" "atTold" "[I") (ki (zr8 2 rfl))
  have lf35 := hts (.fieldLink RX12 35 "BeardPassModel" "beardTold" "[I") (ki (zr8 3 rfl))
  have lf38 := hts (.fieldLink RX12 38 "BeardPassModel" "purseTold" "[I") (ki (zr8 4 rfl))
  have lf41 := hts (.fieldLink RX12 41 "BeardPassModel" "lineFrom" "[I") (ki (zr8 5 rfl))
  have lf44 := hts (.fieldLink RX12 44 "BeardPassModel" "lineTo" "[I") (ki (zr8 6 rfl))
  have lf47 := hts (.fieldLink RX12 47 "BeardPassModel" "codes" "[I") (ki (zr8 7 rfl))
  obtain ⟨X, hX⟩ : ∃ X, X = (Gm_lays r q) := ⟨_, rfl⟩
  intro H locs hw hS ls hl
  have hl : lv_has ls 1 [(0, .ref h0)] := hl
  have hE := hX
  unfold Gm_lays at hE
  refine lv_aload_n hx hb dX12_lays_0 rfl (lv_at hl 0 rfl) ?_
  refine mget (v := .ref (y 1)) hx hb hts hiX12 hown hK hw 10 (by decide) lf13 rfl rfl dX12_lays_1 ?_
  refine lv_iconst (v := 4) hx hb dX12_lays_4 (by decide) ?_
  refine zfr 5 [.int (nI 4), .ref (y 1)] rfl rfl ?_
  refine zcall2 (va_runS (As := [.ref (y 1), .int (nI 4)]) (rest := []) ⟨hx, hb, hml, hown, hts⟩ (c_shifts l D ct (y 1) 4 8 (r 1) (by decide) (by decide) H.size) (va_cwS 2 hts (kgSm (zr27 14 rfl) (zr27 15 rfl) (zr1 5 rfl) mL_X12_shifts) rfl rfl rfl (by decide +kernel) ⟨Nat.le_of_ble_eq_true rfl, Nat.le_of_ble_eq_true rfl⟩) (zpreS hK hw hS hA zZ.nil hN [2] rfl rfl) rfl rfl hl.1 rfl (lv_room (Nat.le_of_ble_eq_true rfl)) dX12_lays_5 ⟨Nat.le_of_ble_eq_true rfl, Nat.le_of_ble_eq_true rfl⟩) hw hS hA [2] [0, 1, 3, 4, 5, 6, 7, 8, 9, 10, 11, 12, 13, 14, 15, 16, 17, 18, 19, 20, 21, 22, 23, 24, 25, 26, 27, 28, 29, 30, 31, 32, 33, 34, 35, 36, 37, 38, 39] rfl rfl rfl rfl (fun _ H locs _ hw hS => ?_)
  have hw : zPD D A (mW ct h0 y (zset r 1 (zsf (r 1) 4 4)) q) H := hw.sub [0, 1, 39, 2, 3, 4, 5, 6, 7, 8, 9, 10, 11, 12, 13, 14, 15, 16, 17, 18, 19, 20, 21, 22, 23, 24, 25, 26, 27, 28, 29, 30, 31, 32, 33, 34, 35, 36, 37, 38] rfl rfl
  refine zfr 8 [] rfl rfl ?_
  refine mgen (P := fun x => mN B x ∧ zFr [1, 4, 5, 6, 7, 8, 9, 12, 10, 11] r x) hw ⟨hJ0.n.setr rfl hJ0.n.shl, (zFr.refl).set rfl⟩ (fun r1 er1 hw pr1 => ?_)
  have hE := zletE er1 hE
  refine lv_aload_n hx hb dX12_lays_8 rfl (lv_at hl 0 rfl) ?_
  refine mget (v := .ref (y 2)) hx hb hts hiX12 hown hK hw 11 (by decide) lf16 rfl rfl dX12_lays_9 ?_
  refine zcall2 (va_runS (As := [.ref (y 2)]) (rest := []) ⟨hx, hb, hml, hown, hts⟩ (c_shiftsN l D ct (y 2) (q 2) H.size) (va_cwS 1 hts (kgSm (zr27 17 rfl) (zr27 18 rfl) (zr1 5 rfl) mL_X12_shiftsNames) rfl rfl rfl (by decide +kernel) ⟨Nat.le_of_ble_eq_true rfl, Nat.le_of_ble_eq_true rfl⟩) (zpreS hK hw hS hA zZ.nil hN [3] rfl rfl) rfl rfl hl.1 rfl (lv_room (Nat.le_of_ble_eq_true rfl)) dX12_lays_12 ⟨Nat.le_of_ble_eq_true rfl, Nat.le_of_ble_eq_true rfl⟩) hw hS hA [3] [0, 1, 2, 4, 5, 6, 7, 8, 9, 10, 11, 12, 13, 14, 15, 16, 17, 18, 19, 20, 21, 22, 23, 24, 25, 26, 27, 28, 29, 30, 31, 32, 33, 34, 35, 36, 37, 38, 39] rfl rfl rfl rfl (fun _ H locs _ hw hS => ?_)
  have hw : zPD D A (mW ct h0 y r1 (zset q 2 (zsL (q 2) 6 6))) H := hw.sub [0, 1, 2, 39, 3, 4, 5, 6, 7, 8, 9, 10, 11, 12, 13, 14, 15, 16, 17, 18, 19, 20, 21, 22, 23, 24, 25, 26, 27, 28, 29, 30, 31, 32, 33, 34, 35, 36, 37, 38] rfl rfl
  refine zfr 15 [] rfl rfl ?_
  refine mqgen hw (fun q2 eq2 hw => ?_)
  have hE := zletE eq2 hE
  refine lv_aload_n hx hb dX12_lays_15 rfl (lv_at hl 0 rfl) ?_
  refine mget (v := .ref (y 3)) hx hb hts hiX12 hown hK hw 12 (by decide) lf20 rfl rfl dX12_lays_16 ?_
  refine zcall2 (va_runS (As := [.ref (y 3)]) (rest := []) ⟨hx, hb, hml, hown, hts⟩ (c_shiftsN l D ct (y 3) (q2 3) H.size) (va_cwS 1 hts (kgSm (zr27 17 rfl) (zr27 18 rfl) (zr1 5 rfl) mL_X12_shiftsNames) rfl rfl rfl (by decide +kernel) ⟨Nat.le_of_ble_eq_true rfl, Nat.le_of_ble_eq_true rfl⟩) (zpreS hK hw hS hA zZ.nil hN [4] rfl rfl) rfl rfl hl.1 rfl (lv_room (Nat.le_of_ble_eq_true rfl)) dX12_lays_19 ⟨Nat.le_of_ble_eq_true rfl, Nat.le_of_ble_eq_true rfl⟩) hw hS hA [4] [0, 1, 2, 3, 5, 6, 7, 8, 9, 10, 11, 12, 13, 14, 15, 16, 17, 18, 19, 20, 21, 22, 23, 24, 25, 26, 27, 28, 29, 30, 31, 32, 33, 34, 35, 36, 37, 38, 39] rfl rfl rfl rfl (fun _ H locs _ hw hS => ?_)
  have hw : zPD D A (mW ct h0 y r1 (zset q2 3 (zsL (q2 3) 6 6))) H := hw.sub [0, 1, 2, 3, 39, 4, 5, 6, 7, 8, 9, 10, 11, 12, 13, 14, 15, 16, 17, 18, 19, 20, 21, 22, 23, 24, 25, 26, 27, 28, 29, 30, 31, 32, 33, 34, 35, 36, 37, 38] rfl rfl
  refine zfr 22 [] rfl rfl ?_
  refine mqgen hw (fun q3 eq3 hw => ?_)
  have hE := zletE eq3 hE
  refine lv_aload_n hx hb dX12_lays_22 rfl (lv_at hl 0 rfl) ?_
  refine mget (v := .ref (y 4)) hx hb hts hiX12 hown hK hw 13 (by decide) lf23 rfl rfl dX12_lays_23 ?_
  refine lv_bipush (v := 6) hx hb dX12_lays_26 (by decide) ?_
  refine zfr 28 [.int (nI 6), .ref (y 4)] rfl rfl ?_
  refine zcall2 (va_runS (As := [.ref (y 4), .int (nI 6)]) (rest := []) ⟨hx, hb, hml, hown, hts⟩ (c_shifts l D ct (y 4) 6 12 (r1 4) (by decide) (by decide) H.size) (va_cwS 2 hts (kgSm (zr27 14 rfl) (zr27 15 rfl) (zr1 5 rfl) mL_X12_shifts) rfl rfl rfl (by decide +kernel) ⟨Nat.le_of_ble_eq_true rfl, Nat.le_of_ble_eq_true rfl⟩) (zpreS hK hw hS hA zZ.nil hN [5] rfl rfl) rfl rfl hl.1 rfl (lv_room (Nat.le_of_ble_eq_true rfl)) dX12_lays_28 ⟨Nat.le_of_ble_eq_true rfl, Nat.le_of_ble_eq_true rfl⟩) hw hS hA [5] [0, 1, 2, 3, 4, 6, 7, 8, 9, 10, 11, 12, 13, 14, 15, 16, 17, 18, 19, 20, 21, 22, 23, 24, 25, 26, 27, 28, 29, 30, 31, 32, 33, 34, 35, 36, 37, 38, 39] rfl rfl rfl rfl (fun _ H locs _ hw hS => ?_)
  have hw : zPD D A (mW ct h0 y (zset r1 4 (zsf (r1 4) 6 6)) q3) H := hw.sub [0, 1, 2, 3, 4, 39, 5, 6, 7, 8, 9, 10, 11, 12, 13, 14, 15, 16, 17, 18, 19, 20, 21, 22, 23, 24, 25, 26, 27, 28, 29, 30, 31, 32, 33, 34, 35, 36, 37, 38] rfl rfl
  refine zfr 31 [] rfl rfl ?_
  refine mgen (P := fun x => mN B x ∧ zFr [1, 4, 5, 6, 7, 8, 9, 12, 10, 11] r x) hw ⟨pr1.1.setr rfl (pr1.1.shc (fun _ => rfl) (fun _ => rfl)), pr1.2.set rfl⟩ (fun r4 er4 hw pr4 => ?_)
  have hE := zletE er4 hE
  refine lv_aload_n hx hb dX12_lays_31 rfl (lv_at hl 0 rfl) ?_
  refine mget (v := .ref (y 5)) hx hb hts hiX12 hown hK hw 14 (by decide) lf26 rfl rfl dX12_lays_32 ?_
  refine lv_bipush (v := 6) hx hb dX12_lays_35 (by decide) ?_
  refine zfr 37 [.int (nI 6), .ref (y 5)] rfl rfl ?_
  refine zcall2 (va_runS (As := [.ref (y 5), .int (nI 6)]) (rest := []) ⟨hx, hb, hml, hown, hts⟩ (c_shifts l D ct (y 5) 6 12 (r4 5) (by decide) (by decide) H.size) (va_cwS 2 hts (kgSm (zr27 14 rfl) (zr27 15 rfl) (zr1 5 rfl) mL_X12_shifts) rfl rfl rfl (by decide +kernel) ⟨Nat.le_of_ble_eq_true rfl, Nat.le_of_ble_eq_true rfl⟩) (zpreS hK hw hS hA zZ.nil hN [6] rfl rfl) rfl rfl hl.1 rfl (lv_room (Nat.le_of_ble_eq_true rfl)) dX12_lays_37 ⟨Nat.le_of_ble_eq_true rfl, Nat.le_of_ble_eq_true rfl⟩) hw hS hA [6] [0, 1, 2, 3, 4, 5, 7, 8, 9, 10, 11, 12, 13, 14, 15, 16, 17, 18, 19, 20, 21, 22, 23, 24, 25, 26, 27, 28, 29, 30, 31, 32, 33, 34, 35, 36, 37, 38, 39] rfl rfl rfl rfl (fun _ H locs _ hw hS => ?_)
  have hw : zPD D A (mW ct h0 y (zset r4 5 (zsf (r4 5) 6 6)) q3) H := hw.sub [0, 1, 2, 3, 4, 5, 39, 6, 7, 8, 9, 10, 11, 12, 13, 14, 15, 16, 17, 18, 19, 20, 21, 22, 23, 24, 25, 26, 27, 28, 29, 30, 31, 32, 33, 34, 35, 36, 37, 38] rfl rfl
  refine zfr 40 [] rfl rfl ?_
  refine mgen (P := fun x => mN B x ∧ zFr [1, 4, 5, 6, 7, 8, 9, 12, 10, 11] r x) hw ⟨pr4.1.setr rfl (pr4.1.shc (fun _ => rfl) (fun _ => rfl)), pr4.2.set rfl⟩ (fun r5 er5 hw pr5 => ?_)
  have hE := zletE er5 hE
  refine lv_aload_n hx hb dX12_lays_40 rfl (lv_at hl 0 rfl) ?_
  refine mget (v := .ref (y 6)) hx hb hts hiX12 hown hK hw 15 (by decide) lf29 rfl rfl dX12_lays_41 ?_
  refine lv_bipush (v := 6) hx hb dX12_lays_44 (by decide) ?_
  refine zfr 46 [.int (nI 6), .ref (y 6)] rfl rfl ?_
  refine zcall2 (va_runS (As := [.ref (y 6), .int (nI 6)]) (rest := []) ⟨hx, hb, hml, hown, hts⟩ (c_shifts l D ct (y 6) 6 12 (r5 6) (by decide) (by decide) H.size) (va_cwS 2 hts (kgSm (zr27 14 rfl) (zr27 15 rfl) (zr1 5 rfl) mL_X12_shifts) rfl rfl rfl (by decide +kernel) ⟨Nat.le_of_ble_eq_true rfl, Nat.le_of_ble_eq_true rfl⟩) (zpreS hK hw hS hA zZ.nil hN [7] rfl rfl) rfl rfl hl.1 rfl (lv_room (Nat.le_of_ble_eq_true rfl)) dX12_lays_46 ⟨Nat.le_of_ble_eq_true rfl, Nat.le_of_ble_eq_true rfl⟩) hw hS hA [7] [0, 1, 2, 3, 4, 5, 6, 8, 9, 10, 11, 12, 13, 14, 15, 16, 17, 18, 19, 20, 21, 22, 23, 24, 25, 26, 27, 28, 29, 30, 31, 32, 33, 34, 35, 36, 37, 38, 39] rfl rfl rfl rfl (fun _ H locs _ hw hS => ?_)
  have hw : zPD D A (mW ct h0 y (zset r5 6 (zsf (r5 6) 6 6)) q3) H := hw.sub [0, 1, 2, 3, 4, 5, 6, 39, 7, 8, 9, 10, 11, 12, 13, 14, 15, 16, 17, 18, 19, 20, 21, 22, 23, 24, 25, 26, 27, 28, 29, 30, 31, 32, 33, 34, 35, 36, 37, 38] rfl rfl
  refine zfr 49 [] rfl rfl ?_
  refine mgen (P := fun x => mN B x ∧ zFr [1, 4, 5, 6, 7, 8, 9, 12, 10, 11] r x) hw ⟨pr5.1.setr rfl (pr5.1.shc (fun _ => rfl) (fun _ => rfl)), pr5.2.set rfl⟩ (fun r6 er6 hw pr6 => ?_)
  have hE := zletE er6 hE
  refine lv_aload_n hx hb dX12_lays_49 rfl (lv_at hl 0 rfl) ?_
  refine mget (v := .ref (y 7)) hx hb hts hiX12 hown hK hw 16 (by decide) lf32 rfl rfl dX12_lays_50 ?_
  refine lv_bipush (v := 6) hx hb dX12_lays_53 (by decide) ?_
  refine zfr 55 [.int (nI 6), .ref (y 7)] rfl rfl ?_
  refine zcall2 (va_runS (As := [.ref (y 7), .int (nI 6)]) (rest := []) ⟨hx, hb, hml, hown, hts⟩ (c_shifts l D ct (y 7) 6 12 (r6 7) (by decide) (by decide) H.size) (va_cwS 2 hts (kgSm (zr27 14 rfl) (zr27 15 rfl) (zr1 5 rfl) mL_X12_shifts) rfl rfl rfl (by decide +kernel) ⟨Nat.le_of_ble_eq_true rfl, Nat.le_of_ble_eq_true rfl⟩) (zpreS hK hw hS hA zZ.nil hN [8] rfl rfl) rfl rfl hl.1 rfl (lv_room (Nat.le_of_ble_eq_true rfl)) dX12_lays_55 ⟨Nat.le_of_ble_eq_true rfl, Nat.le_of_ble_eq_true rfl⟩) hw hS hA [8] [0, 1, 2, 3, 4, 5, 6, 7, 9, 10, 11, 12, 13, 14, 15, 16, 17, 18, 19, 20, 21, 22, 23, 24, 25, 26, 27, 28, 29, 30, 31, 32, 33, 34, 35, 36, 37, 38, 39] rfl rfl rfl rfl (fun _ H locs _ hw hS => ?_)
  have hw : zPD D A (mW ct h0 y (zset r6 7 (zsf (r6 7) 6 6)) q3) H := hw.sub [0, 1, 2, 3, 4, 5, 6, 7, 39, 8, 9, 10, 11, 12, 13, 14, 15, 16, 17, 18, 19, 20, 21, 22, 23, 24, 25, 26, 27, 28, 29, 30, 31, 32, 33, 34, 35, 36, 37, 38] rfl rfl
  refine zfr 58 [] rfl rfl ?_
  refine mgen (P := fun x => mN B x ∧ zFr [1, 4, 5, 6, 7, 8, 9, 12, 10, 11] r x) hw ⟨pr6.1.setr rfl (pr6.1.shc (fun _ => rfl) (fun _ => rfl)), pr6.2.set rfl⟩ (fun r7 er7 hw pr7 => ?_)
  have hE := zletE er7 hE
  refine lv_aload_n hx hb dX12_lays_58 rfl (lv_at hl 0 rfl) ?_
  refine mget (v := .ref (y 8)) hx hb hts hiX12 hown hK hw 17 (by decide) lf35 rfl rfl dX12_lays_59 ?_
  refine lv_bipush (v := 6) hx hb dX12_lays_62 (by decide) ?_
  refine zfr 64 [.int (nI 6), .ref (y 8)] rfl rfl ?_
  refine zcall2 (va_runS (As := [.ref (y 8), .int (nI 6)]) (rest := []) ⟨hx, hb, hml, hown, hts⟩ (c_shifts l D ct (y 8) 6 12 (r7 8) (by decide) (by decide) H.size) (va_cwS 2 hts (kgSm (zr27 14 rfl) (zr27 15 rfl) (zr1 5 rfl) mL_X12_shifts) rfl rfl rfl (by decide +kernel) ⟨Nat.le_of_ble_eq_true rfl, Nat.le_of_ble_eq_true rfl⟩) (zpreS hK hw hS hA zZ.nil hN [9] rfl rfl) rfl rfl hl.1 rfl (lv_room (Nat.le_of_ble_eq_true rfl)) dX12_lays_64 ⟨Nat.le_of_ble_eq_true rfl, Nat.le_of_ble_eq_true rfl⟩) hw hS hA [9] [0, 1, 2, 3, 4, 5, 6, 7, 8, 10, 11, 12, 13, 14, 15, 16, 17, 18, 19, 20, 21, 22, 23, 24, 25, 26, 27, 28, 29, 30, 31, 32, 33, 34, 35, 36, 37, 38, 39] rfl rfl rfl rfl (fun _ H locs _ hw hS => ?_)
  have hw : zPD D A (mW ct h0 y (zset r7 8 (zsf (r7 8) 6 6)) q3) H := hw.sub [0, 1, 2, 3, 4, 5, 6, 7, 8, 39, 9, 10, 11, 12, 13, 14, 15, 16, 17, 18, 19, 20, 21, 22, 23, 24, 25, 26, 27, 28, 29, 30, 31, 32, 33, 34, 35, 36, 37, 38] rfl rfl
  refine zfr 67 [] rfl rfl ?_
  refine mgen (P := fun x => mN B x ∧ zFr [1, 4, 5, 6, 7, 8, 9, 12, 10, 11] r x) hw ⟨pr7.1.setr rfl (pr7.1.shc (fun _ => rfl) (fun _ => rfl)), pr7.2.set rfl⟩ (fun r8 er8 hw pr8 => ?_)
  have hE := zletE er8 hE
  refine lv_aload_n hx hb dX12_lays_67 rfl (lv_at hl 0 rfl) ?_
  refine mget (v := .ref (y 9)) hx hb hts hiX12 hown hK hw 18 (by decide) lf38 rfl rfl dX12_lays_68 ?_
  refine lv_bipush (v := 6) hx hb dX12_lays_71 (by decide) ?_
  refine zfr 73 [.int (nI 6), .ref (y 9)] rfl rfl ?_
  refine zcall2 (va_runS (As := [.ref (y 9), .int (nI 6)]) (rest := []) ⟨hx, hb, hml, hown, hts⟩ (c_shifts l D ct (y 9) 6 12 (r8 9) (by decide) (by decide) H.size) (va_cwS 2 hts (kgSm (zr27 14 rfl) (zr27 15 rfl) (zr1 5 rfl) mL_X12_shifts) rfl rfl rfl (by decide +kernel) ⟨Nat.le_of_ble_eq_true rfl, Nat.le_of_ble_eq_true rfl⟩) (zpreS hK hw hS hA zZ.nil hN [10] rfl rfl) rfl rfl hl.1 rfl (lv_room (Nat.le_of_ble_eq_true rfl)) dX12_lays_73 ⟨Nat.le_of_ble_eq_true rfl, Nat.le_of_ble_eq_true rfl⟩) hw hS hA [10] [0, 1, 2, 3, 4, 5, 6, 7, 8, 9, 11, 12, 13, 14, 15, 16, 17, 18, 19, 20, 21, 22, 23, 24, 25, 26, 27, 28, 29, 30, 31, 32, 33, 34, 35, 36, 37, 38, 39] rfl rfl rfl rfl (fun _ H locs _ hw hS => ?_)
  have hw : zPD D A (mW ct h0 y (zset r8 9 (zsf (r8 9) 6 6)) q3) H := hw.sub [0, 1, 2, 3, 4, 5, 6, 7, 8, 9, 39, 10, 11, 12, 13, 14, 15, 16, 17, 18, 19, 20, 21, 22, 23, 24, 25, 26, 27, 28, 29, 30, 31, 32, 33, 34, 35, 36, 37, 38] rfl rfl
  refine zfr 76 [] rfl rfl ?_
  refine mgen (P := fun x => mN B x ∧ zFr [1, 4, 5, 6, 7, 8, 9, 12, 10, 11] r x) hw ⟨pr8.1.setr rfl (pr8.1.shc (fun _ => rfl) (fun _ => rfl)), pr8.2.set rfl⟩ (fun r9 er9 hw pr9 => ?_)
  have hE := zletE er9 hE
  refine lv_aload_n hx hb dX12_lays_76 rfl (lv_at hl 0 rfl) ?_
  refine mget (v := .ref (y 12)) hx hb hts hiX12 hown hK hw 21 (by decide) lf47 rfl rfl dX12_lays_77 ?_
  refine lv_sipush (v := 1000) hx hb dX12_lays_80 (by decide) ?_
  refine zfr 83 [.int (nI 1000), .ref (y 12)] rfl rfl ?_
  refine zcall2 (va_runS (As := [.ref (y 12), .int (nI 1000)]) (rest := []) ⟨hx, hb, hml, hown, hts⟩ (c_shifts l D ct (y 12) 1000 2000 (r9 12) (by decide) (by decide) H.size) (va_cwS 2 hts (kgSm (zr27 14 rfl) (zr27 15 rfl) (zr1 5 rfl) mL_X12_shifts) rfl rfl rfl (by decide +kernel) ⟨Nat.le_of_ble_eq_true rfl, Nat.le_of_ble_eq_true rfl⟩) (zpreS hK hw hS hA zZ.nil hN [13] rfl rfl) rfl rfl hl.1 rfl (lv_room (Nat.le_of_ble_eq_true rfl)) dX12_lays_83 ⟨Nat.le_of_ble_eq_true rfl, Nat.le_of_ble_eq_true rfl⟩) hw hS hA [13] [0, 1, 2, 3, 4, 5, 6, 7, 8, 9, 10, 11, 12, 14, 15, 16, 17, 18, 19, 20, 21, 22, 23, 24, 25, 26, 27, 28, 29, 30, 31, 32, 33, 34, 35, 36, 37, 38, 39] rfl rfl rfl rfl (fun _ H locs _ hw hS => ?_)
  have hw : zPD D A (mW ct h0 y (zset r9 12 (zsf (r9 12) 1000 1000)) q3) H := hw.sub [0, 1, 2, 3, 4, 5, 6, 7, 8, 9, 10, 11, 12, 39, 13, 14, 15, 16, 17, 18, 19, 20, 21, 22, 23, 24, 25, 26, 27, 28, 29, 30, 31, 32, 33, 34, 35, 36, 37, 38] rfl rfl
  refine zfr 86 [] rfl rfl ?_
  refine mgen (P := fun x => mN B x ∧ zFr [1, 4, 5, 6, 7, 8, 9, 12, 10, 11] r x) hw ⟨pr9.1.setr rfl (pr9.1.shc (fun _ => rfl) (fun _ => rfl)), pr9.2.set rfl⟩ (fun r10 er10 hw pr10 => ?_)
  have hE := zletE er10 hE
  refine lv_aload_n hx hb dX12_lays_86 rfl (lv_at hl 0 rfl) ?_
  refine mget (v := .ref (y 10)) hx hb hts hiX12 hown hK hw 19 (by decide) lf41 rfl rfl dX12_lays_87 ?_
  refine lv_iconst (v := 0) hx hb dX12_lays_90 (by decide) ?_
  refine lv_aload_n hx hb dX12_lays_91 rfl (lv_at hl 0 rfl) ?_
  refine mget (v := .ref (y 10)) hx hb hts hiX12 hown hK hw 19 (by decide) lf41 rfl rfl dX12_lays_92 ?_
  refine lv_iconst (v := 1) hx hb dX12_lays_95 (by decide) ?_
  refine ziald hx hb hK hw 11 mWg10 1 (by decide) (by decide) (by decide) dX12_lays_96 ?_
  refine lv_sipush (v := 1000) hx hb dX12_lays_97 (by decide) ?_
  refine lv_isub hx hb dX12_lays_100 ?_
  have k11 : zI 0 1000 ((r10 10 1) - 1000) := zI.sub (zs_at er10 (zs_at er9 (zs_at er8 (zs_at er7 (zs_at er6 (zs_at er5 (zs_at er4 (zs_at er1 x3.1 (by decide)) (by decide)) (by decide)) (by decide)) (by decide)) (by decide)) (by decide)) (by decide)) (zI.lit (a := 1000) (b := 1000) (c := 1000) (by decide)) (by decide)
  refine ziast hx hb hK hw hS 11 mWg10 0 (by decide) (by decide) (by decide) dX12_lays_101 (mW ct h0 y (zset r10 10 (upd (r10 10) 0 ((r10 10 1) - 1000))) q3) mWs10 (fun H locs hw hS => ?_)
  refine mgen (P := fun x => mN B x ∧ zFr [1, 4, 5, 6, 7, 8, 9, 12, 10, 11] r x) hw ⟨pr10.1.set rfl k11, pr10.2.set rfl⟩ (fun r12 er12 hw pr12 => ?_)
  have hE := zletE er12 hE
  refine lv_aload_n hx hb dX12_lays_102 rfl (lv_at hl 0 rfl) ?_
  refine mget (v := .ref (y 11)) hx hb hts hiX12 hown hK hw 20 (by decide) lf44 rfl rfl dX12_lays_103 ?_
  refine lv_iconst (v := 0) hx hb dX12_lays_106 (by decide) ?_
  refine lv_aload_n hx hb dX12_lays_107 rfl (lv_at hl 0 rfl) ?_
  refine mget (v := .ref (y 11)) hx hb hts hiX12 hown hK hw 20 (by decide) lf44 rfl rfl dX12_lays_108 ?_
  refine lv_iconst (v := 1) hx hb dX12_lays_111 (by decide) ?_
  refine ziald hx hb hK hw 12 mWg11 1 (by decide) (by decide) (by decide) dX12_lays_112 ?_
  refine lv_sipush (v := 1000) hx hb dX12_lays_113 (by decide) ?_
  refine lv_isub hx hb dX12_lays_116 ?_
  have k13 : zI 0 1000 ((r12 11 1) - 1000) := zI.sub (zs_at er12 (zs_at er10 (zs_at er9 (zs_at er8 (zs_at er7 (zs_at er6 (zs_at er5 (zs_at er4 (zs_at er1 x3.2 (by decide)) (by decide)) (by decide)) (by decide)) (by decide)) (by decide)) (by decide)) (by decide)) (by decide)) (zI.lit (a := 1000) (b := 1000) (c := 1000) (by decide)) (by decide)
  refine ziast hx hb hK hw hS 12 mWg11 0 (by decide) (by decide) (by decide) dX12_lays_117 (mW ct h0 y (zset r12 11 (upd (r12 11) 0 ((r12 11 1) - 1000))) q3) mWs11 (fun H locs hw hS => ?_)
  refine mgen (P := fun x => mN B x ∧ zFr [1, 4, 5, 6, 7, 8, 9, 12, 10, 11] r x) hw ⟨pr12.1.set rfl k13, pr12.2.set rfl⟩ (fun r14 er14 hw pr14 => ?_)
  have hE := zletE er14 hE
  exact zvretQ hQ hx hb hr hlocks (r14, q3) rfl ⟨(mlays (r1 := r14) hJ0 pr14.1 x1 x2 x3 (by rw [(((zs_row (k := 1) er14 (by decide)).trans ((zs_row (k := 1) er12 (by decide)).trans ((zs_row (k := 1) er10 (by decide)).trans ((zs_row (k := 1) er9 (by decide)).trans ((zs_row (k := 1) er8 (by decide)).trans ((zs_row (k := 1) er7 (by decide)).trans ((zs_row (k := 1) er6 (by decide)).trans ((zs_row (k := 1) er5 (by decide)).trans (zs_row (k := 1) er4 (by decide)))))))))).trans (zs_self er1))]) (by rw [(((zs_row (k := 12) er14 (by decide)).trans (zs_row (k := 12) er12 (by decide))).trans (zs_self er10)), ((zs_row (k := 12) er9 (by decide)).trans ((zs_row (k := 12) er8 (by decide)).trans ((zs_row (k := 12) er7 (by decide)).trans ((zs_row (k := 12) er6 (by decide)).trans ((zs_row (k := 12) er5 (by decide)).trans ((zs_row (k := 12) er4 (by decide)).trans (zs_row (k := 12) er1 (by decide))))))))]) (by rw [((zs_row (k := 10) er14 (by decide)).trans (zs_self er12)), pk_us, ((zs_row (k := 10) er10 (by decide)).trans ((zs_row (k := 10) er9 (by decide)).trans ((zs_row (k := 10) er8 (by decide)).trans ((zs_row (k := 10) er7 (by decide)).trans ((zs_row (k := 10) er6 (by decide)).trans ((zs_row (k := 10) er5 (by decide)).trans ((zs_row (k := 10) er4 (by decide)).trans (zs_row (k := 10) er1 (by decide)))))))))]) (by rw [(zs_self er14), pk_us, ((zs_row (k := 11) er12 (by decide)).trans ((zs_row (k := 11) er10 (by decide)).trans ((zs_row (k := 11) er9 (by decide)).trans ((zs_row (k := 11) er8 (by decide)).trans ((zs_row (k := 11) er7 (by decide)).trans ((zs_row (k := 11) er6 (by decide)).trans ((zs_row (k := 11) er5 (by decide)).trans ((zs_row (k := 11) er4 (by decide)).trans (zs_row (k := 11) er1 (by decide))))))))))]) ((zs_row (k := 25) er14 (by decide)).trans ((zs_row (k := 25) er12 (by decide)).trans ((zs_row (k := 25) er10 (by decide)).trans ((zs_row (k := 25) er9 (by decide)).trans ((zs_row (k := 25) er8 (by decide)).trans ((zs_row (k := 25) er7 (by decide)).trans ((zs_row (k := 25) er6 (by decide)).trans ((zs_row (k := 25) er5 (by decide)).trans ((zs_row (k := 25) er4 (by decide)).trans (zs_row (k := 25) er1 (by decide))))))))))) ((zs_row (k := 26) er14 (by decide)).trans ((zs_row (k := 26) er12 (by decide)).trans ((zs_row (k := 26) er10 (by decide)).trans ((zs_row (k := 26) er9 (by decide)).trans ((zs_row (k := 26) er8 (by decide)).trans ((zs_row (k := 26) er7 (by decide)).trans ((zs_row (k := 26) er6 (by decide)).trans ((zs_row (k := 26) er5 (by decide)).trans ((zs_row (k := 26) er4 (by decide)).trans (zs_row (k := 26) er1 (by decide))))))))))) ((zs_row (k := 28) er14 (by decide)).trans ((zs_row (k := 28) er12 (by decide)).trans ((zs_row (k := 28) er10 (by decide)).trans ((zs_row (k := 28) er9 (by decide)).trans ((zs_row (k := 28) er8 (by decide)).trans ((zs_row (k := 28) er7 (by decide)).trans ((zs_row (k := 28) er6 (by decide)).trans ((zs_row (k := 28) er5 (by decide)).trans ((zs_row (k := 28) er4 (by decide)).trans (zs_row (k := 28) er1 (by decide)))))))))))), pr14.2, (hE.symm.trans hX), trivial⟩ hw hS dX12_lays_118

noncomputable def Bm_land_46 (ih46 : Int32 → zRr → zRq → (Int32 × zRr × zRq)) (w46_1 : Int32) (rw46 : zRr) (qw46 : zRq) : Int32 × zRr × zRq :=
  zif ((4 : Int32) ≤ w46_1) (((0 : Int32), rw46, qw46)) (zlet (α := zRr) (zset rw46 37 (upd (rw46 37) (zn w46_1) (0 : Int32))) <| fun r4 => ih46 (w46_1 + 1) r4 qw46)
noncomputable def Gm_land_46 (n : Nat) : Int32 → zRr → zRq → (Int32 × zRr × zRq) :=
  Nat.rec (motive := fun _ => Int32 → zRr → zRq → (Int32 × zRr × zRq)) (fun _ rw46 qw46 => (default, rw46, qw46)) (fun _ ih => Bm_land_46 ih) n
noncomputable def Gm_land (r : zRr) (q : zRq) : Int32 × zRr × zRq :=
  zlet (α := zRr) (zset r 100 (fun _ => (0 : Int32))) <| fun r6 => zc_vrq (Gm_readsAll r6 q) <| fun v8 r9 q10 => zifn (v8 = (0 : Int32)) (zc_rq (Gm_lays r9 q10) <| fun r14 q15 => zlet (α := zRr) ((Gm_fresh0 r14 q15)) <| fun u16 => zlet (α := zRr) (zset u16 25 (upd (u16 25) 0 (0 : Int32))) <| fun r18 => zlet (α := zRr) (zset r18 29 (upd (r18 29) 0 (0 : Int32))) <| fun r19 => zlet (α := zRr) (zset r19 151 (fun _ => (0 : Int32))) <| fun r20 => Gm_land_46 5 0 r20 q15) (zlet (α := Int32) (r9 109 0) <| fun v22 => (v22, r9, q10))
set_option maxHeartbeats 4000000 in
set_option maxRecDepth 100000 in
theorem mc_land (l : Launch) (D : va_G) (ct : Nat → ClassId) (h0 : Nat) (y : Nat → Nat) (B : Int) (r : zRr) (q : zRq) (hJ0 : mJ B r) : zC l yX12_land (.code yX12_land cX12_land 2 (some .int) :: wsL_law0) ({ frames := 7, cells := 0, slots := 0, locals := 320 }) D ct [] [.ref h0] (mW ct h0 y r q) (S := Int32 × zRr × zRq) (fun u => some (.int u.1)) (fun u => zI (-2147483648) 2147483647 u.1 ∧ mJ B u.2.1 ∧ zFr [1, 4, 5, 6, 7, 8, 9, 10, 11, 12, 13, 14, 25, 29, 32, 37, 100, 101, 103, 104, 105, 106, 108, 109, 122, 123, 136, 151] r u.2.1 ∧ (u.2.1 101 0 = 0) ∧ u = (Gm_land r q) ∧ True) (fun u => mW ct h0 y u.2.1 u.2.2) 0 0 := by
  refine zofQ cX12_land 2 (some .int) (by decide) rfl (Nat.le_of_ble_eq_true rfl) ?_
  intro p e s m below meth c A a9 Q ha9 hx hb hr hml hts hown hlocks hname hK hA hZ hN hQ
  have hown : s.vm.findClass RX12 = some m.cls := hown
  have hiX12 : ∀ w ∈ wsX120, w ∈ .code yX12_land cX12_land 2 (some .int) :: wsL_law0 := fun _ h => ki (zs_wsX120 _ h)
  have lf87 := hts (.fieldLink RX12 87 "BeardPassModel" "lines" "[I") (ki (zr8 21 rfl))
  have lf99 := hts (.fieldLink RX12 99 "BeardPassModel" "seens" "[I") (ki (zr9 1 rfl))
  have lf123 := hts (.fieldLink RX12 123 "BeardPassModel" "isLaid" "[Z") (ki (zr9 9 rfl))
  have lf129 := hts (.fieldLink RX12 129 "BeardPassModel" "thrown" "I") (ki (zr10 1 rfl))
  have lf165 := hts (.fieldLink RX12 165 "BeardPassModel" "wrong" "I") (ki (zr21 16 rfl))
  have lf336 := hts (.fieldLink RX12 336 "BeardPassModel" "done" "I") (ki (zr21 17 rfl))
  obtain ⟨X, hX⟩ : ∃ X, X = (Gm_land r q) := ⟨_, rfl⟩
  have cut46 : ∀ (n46 : Nat) (w46_1 : Int32) (rw46 : zRr) (qw46 : zRq) (hw46_1 : zI 0 4 w46_1) (jw46 : mJ B rw46) (fw46 : zFr [1, 4, 5, 6, 7, 8, 9, 10, 11, 12, 13, 14, 25, 29, 32, 37, 100, 101, 103, 104, 105, 106, 108, 109, 122, 123, 136, 151] r rw46) (xz46 : rw46 101 0 = 0) (hE : X = Gm_land_46 n46 w46_1 rw46 qw46), 4 - w46_1.toInt < (n46 : Int) → zKf p l e ({ frames := 7, cells := 0, slots := 0, locals := 320 }) s m a9 below meth c Q D A 46 2 [] (mW ct h0 y rw46 qw46) [(0, .ref h0), (1, .int w46_1)] := by
    intro n46
    induction n46 with
    | zero => intro w46_1 rw46 qw46 hw46_1 jw46 fw46 xz46 hE hm46; exact zI.no hw46_1 (by decide) hm46
    | succ n46 ih46 =>
      intro w46_1 rw46 qw46 hw46_1 jw46 fw46 xz46 hE hm46
      have hE : X = Bm_land_46 (Gm_land_46 n46) w46_1 rw46 qw46 := hE
      unfold Bm_land_46 at hE
      intro H locs ls hw hS hl
      refine lv_iload_n hx hb dX12_land_46 rfl (lv_at hl 1 rfl) ?_
      refine lv_iconst (v := 4) hx hb dX12_land_47 (by decide) ?_
      refine lv_icmp_ge (tgt := 64) hx hb dX12_land_48 (by decide) (fun c1 => ?_) (fun c1 => ?_)
      · have hE := zifT c1 hE
        have k2 : zI 4 4 (w46_1) := zI.leD c1 (zI.lit (a := 4) (b := 4) (c := 4) (by decide)) hw46_1 (by decide)
        refine lv_iconst (v := 0) hx hb dX12_land_64 (by decide) ?_
        exact ziretQ hQ hx hb hr rfl hlocks (0, rw46, qw46) rfl ⟨(zI.top _), jw46, fw46, (show rw46 101 0 = 0 from xz46), (hE.symm.trans hX), trivial⟩ hw hS dX12_land_65
      · have hE := zifF c1 hE
        have k3 : zI 0 3 (w46_1) := zI.ltU (zI.nle c1) hw46_1 (zI.lit (a := 4) (b := 4) (c := 4) (by decide)) (by decide)
        refine lv_aload_n hx hb dX12_land_51 rfl (lv_at hl 0 rfl) ?_
        refine mget (v := .ref (y 37)) hx hb hts hiX12 hown hK hw 50 (by decide) lf123 rfl rfl dX12_land_52 ?_
        refine lv_iload_n hx hb dX12_land_55 rfl (lv_at hl 1 rfl) ?_
        refine lv_iconst (v := 0) hx hb dX12_land_56 (by decide) ?_
        refine mzast hx hb hK hw hS 38 mWg37 k3 (by decide)  ((zI.lit (a := 0) (b := 0) (c := 0) (by decide)).w (c := 0) (d := 1) (by decide)) dX12_land_57 (mW ct h0 y (zset rw46 37 (upd (rw46 37) (zn w46_1) (0 : Int32))) qw46) mWs37 (fun H locs hw hS => ?_)
        refine mgen (P := fun x => mJ B x ∧ zFr [1, 4, 5, 6, 7, 8, 9, 10, 11, 12, 13, 14, 25, 29, 32, 37, 100, 101, 103, 104, 105, 106, 108, 109, 122, 123, 136, 151] r x) hw ⟨jw46.set rfl ((zI.lit (a := 0) (b := 0) (c := 0) (by decide)).w (c := 0) (d := 1) (by decide)), fw46.set rfl⟩ (fun r4 er4 hw pr4 => ?_)
        have hE := zletE er4 hE
        refine lv_iinc (v := w46_1 + 1) (lv' := [(1, .int (w46_1 + 1)), (0, .ref h0)]) hx hb dX12_land_58 hl (k := 1) rfl (rfl) (by decide) rfl (fun ls hl => ?_)
        have k5 : zI 1 4 (w46_1 + 1) := zI.add k3 (zI.lit (a := 1) (b := 1) (by decide)) (by decide)
        refine lv_goto (tgt := 46) hx hb dX12_land_61 (by decide) ?_
        exact ih46 (w46_1 + 1) r4 qw46 (k5.w (c := 0) (d := 4) (by decide)) pr4.1 pr4.2 (((congrFun (zs_row (k := 101) er4 (by decide)) 0).trans xz46)) hE (zI.up k3 (by decide) hm46) H locs ls hw hS (lv_sub hl [1, 0] rfl)
  intro H locs hw hS ls hl
  have hl : lv_has ls 2 [(0, .ref h0)] := hl
  have hE := hX
  unfold Gm_land at hE
  refine lv_aload_n hx hb dX12_land_0 rfl (lv_at hl 0 rfl) ?_
  refine lv_iconst (v := 0) hx hb dX12_land_1 (by decide) ?_
  refine mput (ty := .int) (v := .int 0) hx hb hts hiX12 hown hK hw hS 0 (by decide) lf129 rfl rfl (by decide +kernel) rfl rfl dX12_land_2 (zset r 100 (fun _ => (0 : Int32))) _ mWf0 (fun H locs hw hS => ?_)
  refine mgen (P := fun x => mJ B x ∧ zFr [1, 4, 5, 6, 7, 8, 9, 10, 11, 12, 13, 14, 25, 29, 32, 37, 100, 101, 103, 104, 105, 106, 108, 109, 122, 123, 136, 151] r x) hw ⟨hJ0.setc rfl (fun _ => (zI.top _)), (zFr.refl).set rfl⟩ (fun r6 er6 hw pr6 => ?_)
  have hE := zletE er6 hE
  refine lv_aload_n hx hb dX12_land_5 rfl (lv_at hl 0 rfl) ?_
  refine zcallW (va_runV (As := []) (rest := []) ⟨hx, hb, hml, hown, hts⟩ (mc_readsAll l D ct h0 y B r6 q pr6.1 H.size) (cwV 0 hts (kgV (zr21 18 rfl) (zr21 19 rfl) (zr21 20 rfl) (zr1 5 rfl) (zr21 21 rfl)) rfl rfl rfl (by decide +kernel) ⟨Nat.le_of_ble_eq_true rfl, Nat.le_of_ble_eq_true rfl⟩) (zpreV hK hw hS hA zZ.nil hN (List.range (mW ct h0 y r6 q).length) mWn (zrange _) 11 0 rfl mWo) rfl rfl hl.1 rfl (lv_room (Nat.le_of_ble_eq_true rfl)) dX12_land_6 ⟨Nat.le_of_ble_eq_true rfl, Nat.le_of_ble_eq_true rfl⟩) hw hS hA 9 rfl (fun u7 H locs pu7 hw hS => ?_)
  obtain ⟨v8, r9, q10⟩ := u7
  have hv8 : zI 0 1 v8 := pu7.1
  have ju7 : mJ B r9 := pu7.2.1
  have fu7 : zFr [1, 4, 5, 6, 7, 8, 9, 10, 11, 12, 13, 14, 101, 103, 104, 105, 106, 108, 109, 122, 123, 136] r6 r9 := pu7.2.2.1
  have yu7_0 : ¬ v8 = 0 → mT1 r9 := pu7.2.2.2.1
  have yu7_1 : ¬ v8 = 0 → mD1 r9 := pu7.2.2.2.2.1
  have yu7_2 : ¬ v8 = 0 → mF1 r9 := pu7.2.2.2.2.2.1
  have yu7_3 : r9 101 0 = 0 := pu7.2.2.2.2.2.2.1
  have xu7 : (v8, r9, q10) = (Gm_readsAll r6 q) := pu7.2.2.2.2.2.2.2.1
  have hE := zc_vrqE xu7 hE
  have hw : zPD D A (mW ct h0 y r9 q10) H := hw
  refine zfr 9 [.int v8] rfl rfl ?_
  refine lv_if_ne (tgt := 17) hx hb dX12_land_9 (by decide) (fun c11 => ?_) (fun c11 => ?_)
  · have hE := zifnT c11 hE
    have k12 : zI 1 1 (v8) := zI.neD c11 hv8 (zI.lit (a := 0) (b := 0) (c := 0) (by decide)) (by decide)
    refine lv_aload_n hx hb dX12_land_17 rfl (lv_at hl 0 rfl) ?_
    refine zcallW (va_runV (As := []) (rest := []) ⟨hx, hb, hml, hown, hts⟩ (mc_lays l D ct h0 y B r9 q10 ju7 (yu7_0 c11) (yu7_1 c11) (yu7_2 c11) H.size) (cwV 0 hts (kgV (zr27 10 rfl) (zr27 11 rfl) (zr27 12 rfl) (zr1 5 rfl) (zr27 13 rfl)) rfl rfl rfl (by decide +kernel) ⟨Nat.le_of_ble_eq_true rfl, Nat.le_of_ble_eq_true rfl⟩) (zpreV hK hw hS hA zZ.nil hN (List.range (mW ct h0 y r9 q10).length) mWn (zrange _) 11 0 rfl mWo) rfl rfl hl.1 rfl (lv_room (Nat.le_of_ble_eq_true rfl)) dX12_land_18 ⟨Nat.le_of_ble_eq_true rfl, Nat.le_of_ble_eq_true rfl⟩) hw hS hA 21 rfl (fun u13 H locs pu13 hw hS => ?_)
    obtain ⟨r14, q15⟩ := u13
    have ju13 : mJ B r14 := pu13.1
    have fu13 : zFr [1, 4, 5, 6, 7, 8, 9, 12, 10, 11] r9 r14 := pu13.2.1
    have xu13 : (r14, q15) = (Gm_lays r9 q10) := pu13.2.2.1
    have hE := zc_rqE xu13 hE
    have hw : zPD D A (mW ct h0 y r14 q15) H := hw
    refine zfr 21 [] rfl rfl ?_
    refine lv_aload_n hx hb dX12_land_21 rfl (lv_at hl 0 rfl) ?_
    refine zcallW (va_runV (As := []) (rest := []) ⟨hx, hb, hml, hown, hts⟩ (mc_fresh0 l D ct h0 y B r14 q15 ju13 H.size) (cwV 0 hts (kgV (zr27 20 rfl) (zr27 21 rfl) (zr27 22 rfl) (zr1 5 rfl) (zr27 23 rfl)) rfl rfl rfl (by decide +kernel) ⟨Nat.le_of_ble_eq_true rfl, Nat.le_of_ble_eq_true rfl⟩) (zpreV hK hw hS hA zZ.nil hN (List.range (mW ct h0 y r14 q15).length) mWn (zrange _) 11 0 rfl mWo) rfl rfl hl.1 rfl (lv_room (Nat.le_of_ble_eq_true rfl)) dX12_land_22 ⟨Nat.le_of_ble_eq_true rfl, Nat.le_of_ble_eq_true rfl⟩) hw hS hA 25 rfl (fun u16 H locs pu16 hw hS => ?_)
    have ju16 : mJ B u16 := pu16.1
    have fu16 : zFr [32] r14 u16 := pu16.2.1
    have xu16 : u16 = (Gm_fresh0 r14 q15) := pu16.2.2.1
    have hE := zletE xu16 hE
    have hw : zPD D A (mW ct h0 y u16 q15) H := hw
    refine zfr 25 [] rfl rfl ?_
    refine lv_aload_n hx hb dX12_land_25 rfl (lv_at hl 0 rfl) ?_
    refine mget (v := .ref (y 25)) hx hb hts hiX12 hown hK hw 38 (by decide) lf87 rfl rfl dX12_land_26 ?_
    refine lv_iconst (v := 0) hx hb dX12_land_29 (by decide) ?_
    refine lv_iconst (v := 0) hx hb dX12_land_30 (by decide) ?_
    refine ziast hx hb hK hw hS 26 mWg25 0 (by decide) (by decide) (by decide) dX12_land_31 (mW ct h0 y (zset u16 25 (upd (u16 25) 0 (0 : Int32))) q15) mWs25 (fun H locs hw hS => ?_)
    refine mgen (P := fun x => mJ B x ∧ zFr [1, 4, 5, 6, 7, 8, 9, 10, 11, 12, 13, 14, 25, 29, 32, 37, 100, 101, 103, 104, 105, 106, 108, 109, 122, 123, 136, 151] r x) hw ⟨ju16.line0 rfl, (((pr6.2.tr fu7 rfl).tr fu13 rfl).tr fu16 rfl).set rfl⟩ (fun r18 er18 hw pr18 => ?_)
    have hE := zletE er18 hE
    refine lv_aload_n hx hb dX12_land_32 rfl (lv_at hl 0 rfl) ?_
    refine mget (v := .ref (y 29)) hx hb hts hiX12 hown hK hw 42 (by decide) lf99 rfl rfl dX12_land_33 ?_
    refine lv_iconst (v := 0) hx hb dX12_land_36 (by decide) ?_
    refine lv_iconst (v := 0) hx hb dX12_land_37 (by decide) ?_
    refine ziast hx hb hK hw hS 30 mWg29 0 (by decide) (by decide) (by decide) dX12_land_38 (mW ct h0 y (zset r18 29 (upd (r18 29) 0 (0 : Int32))) q15) mWs29 (fun H locs hw hS => ?_)
    refine mgen (P := fun x => mJ B x ∧ zFr [1, 4, 5, 6, 7, 8, 9, 10, 11, 12, 13, 14, 25, 29, 32, 37, 100, 101, 103, 104, 105, 106, 108, 109, 122, 123, 136, 151] r x) hw ⟨pr18.1.set rfl ((zI.lit (a := 0) (b := 0) (c := 0) (by decide)).w (c := 0) (d := 8) (by decide)), pr18.2.set rfl⟩ (fun r19 er19 hw pr19 => ?_)
    have hE := zletE er19 hE
    refine lv_aload_n hx hb dX12_land_39 rfl (lv_at hl 0 rfl) ?_
    refine lv_iconst (v := 0) hx hb dX12_land_40 (by decide) ?_
    refine mput (ty := .int) (v := .int 0) hx hb hts hiX12 hown hK hw hS 51 (by decide) lf336 rfl rfl (by decide +kernel) rfl rfl dX12_land_41 (zset r19 151 (fun _ => (0 : Int32))) _ mWf51 (fun H locs hw hS => ?_)
    refine mgen (P := fun x => mJ B x ∧ zFr [1, 4, 5, 6, 7, 8, 9, 10, 11, 12, 13, 14, 25, 29, 32, 37, 100, 101, 103, 104, 105, 106, 108, 109, 122, 123, 136, 151] r x) hw ⟨pr19.1.setc rfl (fun _ => ((zI.lit (a := 0) (b := 0) (c := 0) (by decide)).w (c := 0) (d := 16) (by decide))), pr19.2.set rfl⟩ (fun r20 er20 hw pr20 => ?_)
    have hE := zletE er20 hE
    refine lv_iconst (v := 0) hx hb dX12_land_44 (by decide) ?_
    refine lv_istore_n (lv' := [(1, .int 0), (0, .ref h0)]) hx hb dX12_land_45 rfl hl (by decide) rfl (fun ls hl => ?_)
    exact cut46 5 0 r20 q15 ((zI.lit (a := 0) (b := 0) (c := 0) (by decide)).w (c := 0) (d := 4) (by decide)) pr20.1 pr20.2 ((((congrFun (zs_row (k := 101) er20 (by decide)) 0).trans ((congrFun (zs_row (k := 101) er19 (by decide)) 0).trans ((congrFun (zs_row (k := 101) er18 (by decide)) 0).trans ((congrFun (fu16 101 rfl) 0).trans (congrFun (fu13 101 rfl) 0))))).trans yu7_3)) hE (zI.m0 (zI.lit (a := 0) (b := 0) (c := 0) (by decide)) (by decide)) H locs ls hw hS (lv_sub hl [1, 0] rfl)
  · have hE := zifnF c11 hE
    have k21 : zI 0 0 (v8) := zI.eqq c11 (zI.lit (a := 0) (b := 0) (c := 0) (by decide))
    refine lv_aload_n hx hb dX12_land_12 rfl (lv_at hl 0 rfl) ?_
    refine mget (v := .int (r9 109 0)) hx hb hts hiX12 hown hK hw 9 (by decide) lf165 rfl rfl dX12_land_13 (zgenE (zI.top _) (fun v22 ev22 _ => ?_))
    have hE := zletE ev22 hE
    exact ziretQ hQ hx hb hr rfl hlocks (v22, r9, q10) rfl ⟨(zI.top _), ju7, (pr6.2.tr fu7 rfl), (show r9 101 0 = 0 from yu7_3), (hE.symm.trans hX), trivial⟩ hw hS dX12_land_16
