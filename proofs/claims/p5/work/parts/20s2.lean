noncomputable def Gm_opens (a1 : Int32) (r : zRr) (q : zRq) : zRr :=
  zlet (α := zRr) (zset r 16 (upd (r 16) (zn a1) (0 : Int32))) <| fun r1 => zlet (α := zRr) (zset r1 18 (upd (r1 18) (zn a1) (0 : Int32))) <| fun r2 => zlet (α := zRr) (zset r2 19 (upd (r2 19) (zn a1) (0 : Int32))) <| fun r3 => zlet (α := zRr) (zset r3 20 (upd (r3 20) (zn a1) (20 : Int32))) <| fun r4 => zlet (α := zRr) (zset r4 22 (upd (r4 22) (zn a1) (0 : Int32))) <| fun r5 => r5
set_option maxHeartbeats 4000000 in
set_option maxRecDepth 100000 in
theorem mc_opens (l : Launch) (D : va_G) (ct : Nat → ClassId) (h0 : Nat) (y : Nat → Nat) (B : Int) (a1 : Int32) (r : zRr) (q : zRq) (g1 : zI 0 5 a1) (hJ0 : mJ B r) : zC l yX12_opens (.code yX12_opens cX12_opens 2 none :: wsL_law0) ({ frames := 1, cells := 0, slots := 0, locals := 80 }) D ct [] [.ref h0, .int a1] (mW ct h0 y r q) (S := zRr) (fun u => none) (fun u => mJ B u ∧ zFr [16, 18, 19, 20, 22] r u ∧ u = (Gm_opens a1 r q) ∧ True) (fun u => mW ct h0 y u q) 0 0 := by
  refine zofQ cX12_opens 2 none (by decide) rfl (Nat.le_of_ble_eq_true rfl) ?_
  intro p e s m below meth c A a9 Q ha9 hx hb hr hml hts hown hlocks hname hK hA hZ hN hQ
  have hown : s.vm.findClass RX12 = some m.cls := hown
  have hiX12 : ∀ w ∈ wsX120, w ∈ .code yX12_opens cX12_opens 2 none :: wsL_law0 := fun _ h => ki (zs_wsX120 _ h)
  have lf60 := hts (.fieldLink RX12 60 "BeardPassModel" "keptBy" "[I") (ki (zr8 12 rfl))
  have lf66 := hts (.fieldLink RX12 66 "BeardPassModel" "against" "[I") (ki (zr8 14 rfl))
  have lf69 := hts (.fieldLink RX12 69 "BeardPassModel" "sum" "[I") (ki (zr8 15 rfl))
  have lf72 := hts (.fieldLink RX12 72 "BeardPassModel" "sumBy" "[I") (ki (zr8 16 rfl))
  have lf78 := hts (.fieldLink RX12 78 "BeardPassModel" "termBy" "[I") (ki (zr8 18 rfl))
  obtain ⟨X, hX⟩ : ∃ X, X = (Gm_opens a1 r q) := ⟨_, rfl⟩
  intro H locs hw hS ls hl
  have hl : lv_has ls 2 [(0, .ref h0), (1, .int a1)] := hl
  have hE := hX
  unfold Gm_opens at hE
  refine lv_aload_n hx hb dX12_opens_0 rfl (lv_at hl 0 rfl) ?_
  refine mget (v := .ref (y 16)) hx hb hts hiX12 hown hK hw 27 (by decide) lf60 rfl rfl dX12_opens_1 ?_
  refine lv_iload_n hx hb dX12_opens_4 rfl (lv_at hl 1 rfl) ?_
  refine lv_iconst (v := 0) hx hb dX12_opens_5 (by decide) ?_
  refine miast hx hb hK hw hS 17 mWg16 g1 (by decide) dX12_opens_6 (mW ct h0 y (zset r 16 (upd (r 16) (zn a1) (0 : Int32))) q) mWs16 (fun H locs hw hS => ?_)
  refine mgen (P := fun x => mJ B x ∧ zFr [16, 18, 19, 20, 22] r x) hw ⟨hJ0.set rfl (zI.top _), (zFr.refl).set rfl⟩ (fun r1 er1 hw pr1 => ?_)
  have hE := zletE er1 hE
  refine lv_aload_n hx hb dX12_opens_7 rfl (lv_at hl 0 rfl) ?_
  refine mget (v := .ref (y 18)) hx hb hts hiX12 hown hK hw 29 (by decide) lf66 rfl rfl dX12_opens_8 ?_
  refine lv_iload_n hx hb dX12_opens_11 rfl (lv_at hl 1 rfl) ?_
  refine lv_iconst (v := 0) hx hb dX12_opens_12 (by decide) ?_
  refine miast hx hb hK hw hS 19 mWg18 g1 (by decide) dX12_opens_13 (mW ct h0 y (zset r1 18 (upd (r1 18) (zn a1) (0 : Int32))) q) mWs18 (fun H locs hw hS => ?_)
  refine mgen (P := fun x => mJ B x ∧ zFr [16, 18, 19, 20, 22] r x) hw ⟨pr1.1.set rfl (zI.top _), pr1.2.set rfl⟩ (fun r2 er2 hw pr2 => ?_)
  have hE := zletE er2 hE
  refine lv_aload_n hx hb dX12_opens_14 rfl (lv_at hl 0 rfl) ?_
  refine mget (v := .ref (y 19)) hx hb hts hiX12 hown hK hw 30 (by decide) lf69 rfl rfl dX12_opens_15 ?_
  refine lv_iload_n hx hb dX12_opens_18 rfl (lv_at hl 1 rfl) ?_
  refine lv_iconst (v := 0) hx hb dX12_opens_19 (by decide) ?_
  refine miast hx hb hK hw hS 20 mWg19 g1 (by decide) dX12_opens_20 (mW ct h0 y (zset r2 19 (upd (r2 19) (zn a1) (0 : Int32))) q) mWs19 (fun H locs hw hS => ?_)
  refine mgen (P := fun x => mJ B x ∧ zFr [16, 18, 19, 20, 22] r x) hw ⟨pr2.1.set rfl (zI.top _), pr2.2.set rfl⟩ (fun r3 er3 hw pr3 => ?_)
  have hE := zletE er3 hE
  refine lv_aload_n hx hb dX12_opens_21 rfl (lv_at hl 0 rfl) ?_
  refine mget (v := .ref (y 20)) hx hb hts hiX12 hown hK hw 31 (by decide) lf72 rfl rfl dX12_opens_22 ?_
  refine lv_iload_n hx hb dX12_opens_25 rfl (lv_at hl 1 rfl) ?_
  refine lv_bipush (v := 20) hx hb dX12_opens_26 (by decide) ?_
  refine miast hx hb hK hw hS 21 mWg20 g1 (by decide) dX12_opens_28 (mW ct h0 y (zset r3 20 (upd (r3 20) (zn a1) (20 : Int32))) q) mWs20 (fun H locs hw hS => ?_)
  refine mgen (P := fun x => mJ B x ∧ zFr [16, 18, 19, 20, 22] r x) hw ⟨pr3.1.set rfl (zI.top _), pr3.2.set rfl⟩ (fun r4 er4 hw pr4 => ?_)
  have hE := zletE er4 hE
  refine lv_aload_n hx hb dX12_opens_29 rfl (lv_at hl 0 rfl) ?_
  refine mget (v := .ref (y 22)) hx hb hts hiX12 hown hK hw 33 (by decide) lf78 rfl rfl dX12_opens_30 ?_
  refine lv_iload_n hx hb dX12_opens_33 rfl (lv_at hl 1 rfl) ?_
  refine lv_iconst (v := 0) hx hb dX12_opens_34 (by decide) ?_
  refine miast hx hb hK hw hS 23 mWg22 g1 (by decide) dX12_opens_35 (mW ct h0 y (zset r4 22 (upd (r4 22) (zn a1) (0 : Int32))) q) mWs22 (fun H locs hw hS => ?_)
  refine mgen (P := fun x => mJ B x ∧ zFr [16, 18, 19, 20, 22] r x) hw ⟨pr4.1.set rfl (zI.top _), pr4.2.set rfl⟩ (fun r5 er5 hw pr5 => ?_)
  have hE := zletE er5 hE
  exact zvretQ hQ hx hb hr hlocks r5 rfl ⟨pr5.1, pr5.2, (hE.symm.trans hX), trivial⟩ hw hS dX12_opens_36

noncomputable def Gm_sums_45 (a1 : Int32) (r : zRr) (w45_s0 : Int32) : zRr :=
  zlet (α := zRr) (zset r 19 (upd (r 19) (zn a1) w45_s0)) <| fun r1 => zlet (α := zRr) (zset r1 22 (upd (r1 22) (zn a1) (0 : Int32))) <| fun r2 => r2
noncomputable def Gm_sums (a1 : Int32) (r : zRr) (q : zRq) : zRr :=
  zlet (α := Int32) (r 20 (zn a1)) <| fun v3 => zifn (v3 = (21 : Int32)) (zlet (α := Int32) (r 19 (zn a1)) <| fun v5 => zlet (α := Int32) (r 21 (zn a1)) <| fun v6 => zlet (α := Int32) (v5 + v6) <| fun v7 => Gm_sums_45 a1 r v7) (zlet (α := Int32) (r 19 (zn a1)) <| fun v9 => zlet (α := Int32) (r 21 (zn a1)) <| fun v10 => zlet (α := Int32) (v9 - v10) <| fun v11 => Gm_sums_45 a1 r v11)
set_option maxHeartbeats 4000000 in
set_option maxRecDepth 100000 in
theorem mc_sums (l : Launch) (D : va_G) (ct : Nat → ClassId) (h0 : Nat) (y : Nat → Nat) (B : Int) (a1 : Int32) (r : zRr) (q : zRq) (g1 : zI 0 5 a1) (hJ0 : mJ B r) : zC l yX12_sums (.code yX12_sums cX12_sums 2 none :: wsL_law0) ({ frames := 1, cells := 0, slots := 0, locals := 80 }) D ct [] [.ref h0, .int a1] (mW ct h0 y r q) (S := zRr) (fun u => none) (fun u => mJ B u ∧ zFr [19, 22] r u ∧ u = (Gm_sums a1 r q) ∧ True) (fun u => mW ct h0 y u q) 0 0 := by
  refine zofQ cX12_sums 2 none (by decide) rfl (Nat.le_of_ble_eq_true rfl) ?_
  intro p e s m below meth c A a9 Q ha9 hx hb hr hml hts hown hlocks hname hK hA hZ hN hQ
  have hown : s.vm.findClass RX12 = some m.cls := hown
  have hiX12 : ∀ w ∈ wsX120, w ∈ .code yX12_sums cX12_sums 2 none :: wsL_law0 := fun _ h => ki (zs_wsX120 _ h)
  have lf69 := hts (.fieldLink RX12 69 "BeardPassModel" "sum" "[I") (ki (zr8 15 rfl))
  have lf72 := hts (.fieldLink RX12 72 "BeardPassModel" "sumBy" "[I") (ki (zr8 16 rfl))
  have lf75 := hts (.fieldLink RX12 75 "BeardPassModel" "term" "[I") (ki (zr8 17 rfl))
  have lf78 := hts (.fieldLink RX12 78 "BeardPassModel" "termBy" "[I") (ki (zr8 18 rfl))
  obtain ⟨X, hX⟩ : ∃ X, X = (Gm_sums a1 r q) := ⟨_, rfl⟩
  have cut45 : ∀ (w45_s0 : Int32) (hw45_1 : zI 0 5 a1) (hw45_s1 : zI 0 5 a1) (hE : X = Gm_sums_45 a1 r w45_s0), zKf p l e ({ frames := 1, cells := 0, slots := 0, locals := 80 }) s m a9 below meth c Q D A 45 2 [.int w45_s0, .int a1, .ref (y 19)] (mW ct h0 y r q) [(0, .ref h0), (1, .int a1)] := by
    intro w45_s0 hw45_1 hw45_s1 hE H locs ls hw hS hl
    unfold Gm_sums_45 at hE
    refine miast hx hb hK hw hS 20 mWg19 hw45_s1 (by decide) dX12_sums_45 (mW ct h0 y (zset r 19 (upd (r 19) (zn a1) w45_s0)) q) mWs19 (fun H locs hw hS => ?_)
    refine mgen (P := fun x => mJ B x ∧ zFr [19, 22] r x) hw ⟨hJ0.set rfl (zI.top _), (zFr.refl).set rfl⟩ (fun r1 er1 hw pr1 => ?_)
    have hE := zletE er1 hE
    refine lv_aload_n hx hb dX12_sums_46 rfl (lv_at hl 0 rfl) ?_
    refine mget (v := .ref (y 22)) hx hb hts hiX12 hown hK hw 33 (by decide) lf78 rfl rfl dX12_sums_47 ?_
    refine lv_iload_n hx hb dX12_sums_50 rfl (lv_at hl 1 rfl) ?_
    refine lv_iconst (v := 0) hx hb dX12_sums_51 (by decide) ?_
    refine miast hx hb hK hw hS 23 mWg22 hw45_s1 (by decide) dX12_sums_52 (mW ct h0 y (zset r1 22 (upd (r1 22) (zn a1) (0 : Int32))) q) mWs22 (fun H locs hw hS => ?_)
    refine mgen (P := fun x => mJ B x ∧ zFr [19, 22] r x) hw ⟨pr1.1.set rfl (zI.top _), pr1.2.set rfl⟩ (fun r2 er2 hw pr2 => ?_)
    have hE := zletE er2 hE
    exact zvretQ hQ hx hb hr hlocks r2 rfl ⟨pr2.1, pr2.2, (hE.symm.trans hX), trivial⟩ hw hS dX12_sums_53
  intro H locs hw hS ls hl
  have hl : lv_has ls 2 [(0, .ref h0), (1, .int a1)] := hl
  have hE := hX
  unfold Gm_sums at hE
  refine lv_aload_n hx hb dX12_sums_0 rfl (lv_at hl 0 rfl) ?_
  refine mget (v := .ref (y 19)) hx hb hts hiX12 hown hK hw 30 (by decide) lf69 rfl rfl dX12_sums_1 ?_
  refine lv_iload_n hx hb dX12_sums_4 rfl (lv_at hl 1 rfl) ?_
  refine lv_aload_n hx hb dX12_sums_5 rfl (lv_at hl 0 rfl) ?_
  refine mget (v := .ref (y 20)) hx hb hts hiX12 hown hK hw 31 (by decide) lf72 rfl rfl dX12_sums_6 ?_
  refine lv_iload_n hx hb dX12_sums_9 rfl (lv_at hl 1 rfl) ?_
  refine miald hx hb hK hw 21 mWg20 g1 (by decide) dX12_sums_10 (zgenE (zI.top _) (fun v3 ev3 _ => ?_))
  have hE := zletE ev3 hE
  refine lv_bipush (v := 21) hx hb dX12_sums_11 (by decide) ?_
  refine lv_icmp_ne (tgt := 32) hx hb dX12_sums_13 (by decide) (fun c4 => ?_) (fun c4 => ?_)
  · have hE := zifnT c4 hE
    refine lv_aload_n hx hb dX12_sums_32 rfl (lv_at hl 0 rfl) ?_
    refine mget (v := .ref (y 19)) hx hb hts hiX12 hown hK hw 30 (by decide) lf69 rfl rfl dX12_sums_33 ?_
    refine lv_iload_n hx hb dX12_sums_36 rfl (lv_at hl 1 rfl) ?_
    refine miald hx hb hK hw 20 mWg19 g1 (by decide) dX12_sums_37 (zgenE (zI.top _) (fun v5 ev5 _ => ?_))
    have hE := zletE ev5 hE
    refine lv_aload_n hx hb dX12_sums_38 rfl (lv_at hl 0 rfl) ?_
    refine mget (v := .ref (y 21)) hx hb hts hiX12 hown hK hw 32 (by decide) lf75 rfl rfl dX12_sums_39 ?_
    refine lv_iload_n hx hb dX12_sums_42 rfl (lv_at hl 1 rfl) ?_
    refine miald hx hb hK hw 22 mWg21 g1 (by decide) dX12_sums_43 (zgenE (zI.top _) (fun v6 ev6 _ => ?_))
    have hE := zletE ev6 hE
    refine lv_iadd hx hb dX12_sums_44 (zgenE (zI.top _) (fun v7 ev7 _ => ?_))
    have hE := zletE ev7 hE
    exact cut45 v7 g1 g1 hE H locs ls hw hS (lv_sub hl [0, 1] rfl)
  · have hE := zifnF c4 hE
    have k8 : zI 21 21 (v3) := zI.eqq c4 (zI.lit (a := 21) (b := 21) (c := 21) (by decide))
    refine lv_aload_n hx hb dX12_sums_16 rfl (lv_at hl 0 rfl) ?_
    refine mget (v := .ref (y 19)) hx hb hts hiX12 hown hK hw 30 (by decide) lf69 rfl rfl dX12_sums_17 ?_
    refine lv_iload_n hx hb dX12_sums_20 rfl (lv_at hl 1 rfl) ?_
    refine miald hx hb hK hw 20 mWg19 g1 (by decide) dX12_sums_21 (zgenE (zI.top _) (fun v9 ev9 _ => ?_))
    have hE := zletE ev9 hE
    refine lv_aload_n hx hb dX12_sums_22 rfl (lv_at hl 0 rfl) ?_
    refine mget (v := .ref (y 21)) hx hb hts hiX12 hown hK hw 32 (by decide) lf75 rfl rfl dX12_sums_23 ?_
    refine lv_iload_n hx hb dX12_sums_26 rfl (lv_at hl 1 rfl) ?_
    refine miald hx hb hK hw 22 mWg21 g1 (by decide) dX12_sums_27 (zgenE (zI.top _) (fun v10 ev10 _ => ?_))
    have hE := zletE ev10 hE
    refine lv_isub hx hb dX12_sums_28 (zgenE (zI.top _) (fun v11 ev11 _ => ?_))
    have hE := zletE ev11 hE
    refine lv_goto (tgt := 45) hx hb dX12_sums_29 (by decide) ?_
    exact cut45 v11 g1 g1 hE H locs ls hw hS (lv_sub hl [0, 1] rfl)

noncomputable def Gm_tests_136 (a1 : Int32) (w136_2 : Int32) (rw136 : zRr) : zRr :=
  zlet (α := zRr) (zset rw136 15 (upd (rw136 15) (zn a1) w136_2)) <| fun r1 => zlet (α := zRr) (zset r1 18 (upd (r1 18) (zn a1) (0 : Int32))) <| fun r2 => zlet (α := zRr) (zset r2 19 (upd (r2 19) (zn a1) (0 : Int32))) <| fun r3 => zlet (α := zRr) (zset r3 20 (upd (r3 20) (zn a1) (20 : Int32))) <| fun r4 => r4
noncomputable def Gm_tests_135 (a1 : Int32) (w135_s0 : Int32) (rw135 : zRr) : zRr :=
  Gm_tests_136 a1 w135_s0 rw135
noncomputable def Gm_tests_130 (a1 : Int32) (rw130 : zRr) : zRr :=
  Gm_tests_135 a1 1 rw130
noncomputable def Gm_tests_106 (a1 : Int32) (w106_2 : Int32) (rw106 : zRr) : zRr :=
  zlet (α := Int32) (rw106 16 (zn a1)) <| fun v5 => zifn (v5 = (27 : Int32)) (Gm_tests_136 a1 w106_2 rw106) (zlet (α := Int32) (rw106 15 (zn a1)) <| fun v8 => zifn (v8 = (0 : Int32)) (Gm_tests_130 a1 rw106) (zif (w106_2 = (0 : Int32)) (Gm_tests_135 a1 0 rw106) (Gm_tests_130 a1 rw106)))
noncomputable def Gm_tests_105 (a1 : Int32) (w105_s0 : Int32) (rw105 : zRr) : zRr :=
  Gm_tests_106 a1 w105_s0 rw105
noncomputable def Gm_tests_104 (a1 : Int32) (rw104 : zRr) : zRr :=
  Gm_tests_105 a1 0 rw104
noncomputable def Gm_tests_76 (a1 : Int32) (w76_2 : Int32) (rw76 : zRr) : zRr :=
  zlet (α := Int32) (rw76 16 (zn a1)) <| fun v13 => zifn (v13 = (26 : Int32)) (Gm_tests_106 a1 w76_2 rw76) (zlet (α := Int32) (rw76 15 (zn a1)) <| fun v16 => zif (v16 = (0 : Int32)) (Gm_tests_104 a1 rw76) (zif (w76_2 = (0 : Int32)) (Gm_tests_104 a1 rw76) (Gm_tests_105 a1 1 rw76)))
noncomputable def Gm_tests_75 (a1 : Int32) (w75_s0 : Int32) (rw75 : zRr) : zRr :=
  Gm_tests_76 a1 w75_s0 rw75
noncomputable def Gm_tests_44 (a1 : Int32) (w44_2 : Int32) (rw44 : zRr) : zRr :=
  zlet (α := Int32) (rw44 18 (zn a1)) <| fun v21 => zifn (v21 = (25 : Int32)) (Gm_tests_76 a1 w44_2 rw44) (zlet (α := Int32) (rw44 17 (zn a1)) <| fun v24 => zlet (α := Int32) (rw44 19 (zn a1)) <| fun v25 => zifn (v24 = v25) (Gm_tests_75 a1 0 rw44) (Gm_tests_75 a1 1 rw44))
noncomputable def Gm_tests_43 (a1 : Int32) (w43_s0 : Int32) (rw43 : zRr) : zRr :=
  Gm_tests_44 a1 w43_s0 rw43
noncomputable def Gm_tests (a1 : Int32) (r : zRr) (q : zRq) : zRr :=
  zlet (α := zRr) ((Gm_sums a1 r q)) <| fun u27 => zlet (α := Int32) (u27 19 (zn a1)) <| fun v29 => zlet (α := Int32) (u27 18 (zn a1)) <| fun v30 => zifn (v30 = (24 : Int32)) (Gm_tests_44 a1 v29 u27) (zlet (α := Int32) (u27 17 (zn a1)) <| fun v33 => zlet (α := Int32) (u27 19 (zn a1)) <| fun v34 => zif (v34 ≤ v33) (Gm_tests_43 a1 0 u27) (Gm_tests_43 a1 1 u27))
set_option maxHeartbeats 4000000 in
set_option maxRecDepth 100000 in
theorem mc_tests (l : Launch) (D : va_G) (ct : Nat → ClassId) (h0 : Nat) (y : Nat → Nat) (B : Int) (a1 : Int32) (r : zRr) (q : zRq) (g1 : zI 0 5 a1) (hJ0 : mJ B r) : zC l yX12_tests (.code yX12_tests cX12_tests 3 none :: wsL_law0) ({ frames := 2, cells := 0, slots := 0, locals := 120 }) D ct [] [.ref h0, .int a1] (mW ct h0 y r q) (S := zRr) (fun u => none) (fun u => mJ B u ∧ zFr [19, 22, 15, 18, 20] r u ∧ u = (Gm_tests a1 r q) ∧ True) (fun u => mW ct h0 y u q) 0 0 := by
  refine zofQ cX12_tests 3 none (by decide) rfl (Nat.le_of_ble_eq_true rfl) ?_
  intro p e s m below meth c A a9 Q ha9 hx hb hr hml hts hown hlocks hname hK hA hZ hN hQ
  have hown : s.vm.findClass RX12 = some m.cls := hown
  have hiX12 : ∀ w ∈ wsX120, w ∈ .code yX12_tests cX12_tests 3 none :: wsL_law0 := fun _ h => ki (zs_wsX120 _ h)
  have lf57 := hts (.fieldLink RX12 57 "BeardPassModel" "kept" "[I") (ki (zr8 11 rfl))
  have lf60 := hts (.fieldLink RX12 60 "BeardPassModel" "keptBy" "[I") (ki (zr8 12 rfl))
  have lf63 := hts (.fieldLink RX12 63 "BeardPassModel" "ahead" "[I") (ki (zr8 13 rfl))
  have lf66 := hts (.fieldLink RX12 66 "BeardPassModel" "against" "[I") (ki (zr8 14 rfl))
  have lf69 := hts (.fieldLink RX12 69 "BeardPassModel" "sum" "[I") (ki (zr8 15 rfl))
  have lf72 := hts (.fieldLink RX12 72 "BeardPassModel" "sumBy" "[I") (ki (zr8 16 rfl))
  obtain ⟨X, hX⟩ : ∃ X, X = (Gm_tests a1 r q) := ⟨_, rfl⟩
  have cut136 : ∀ (w136_2 : Int32) (rw136 : zRr) (hw136_1 : zI 0 5 a1) (jw136 : mJ B rw136) (fw136 : zFr [19, 22, 15, 18, 20] r rw136) (hE : X = Gm_tests_136 a1 w136_2 rw136), zKf p l e ({ frames := 2, cells := 0, slots := 0, locals := 120 }) s m a9 below meth c Q D A 136 3 [] (mW ct h0 y rw136 q) [(0, .ref h0), (1, .int a1), (2, .int w136_2)] := by
    intro w136_2 rw136 hw136_1 jw136 fw136 hE H locs ls hw hS hl
    unfold Gm_tests_136 at hE
    refine lv_aload_n hx hb dX12_tests_136 rfl (lv_at hl 0 rfl) ?_
    refine mget (v := .ref (y 15)) hx hb hts hiX12 hown hK hw 26 (by decide) lf57 rfl rfl dX12_tests_137 ?_
    refine lv_iload_n hx hb dX12_tests_140 rfl (lv_at hl 1 rfl) ?_
    refine lv_iload_n hx hb dX12_tests_141 rfl (lv_at hl 2 rfl) ?_
    refine miast hx hb hK hw hS 16 mWg15 hw136_1 (by decide) dX12_tests_142 (mW ct h0 y (zset rw136 15 (upd (rw136 15) (zn a1) w136_2)) q) mWs15 (fun H locs hw hS => ?_)
    refine mgen (P := fun x => mJ B x ∧ zFr [19, 22, 15, 18, 20] r x) hw ⟨jw136.set rfl (zI.top _), fw136.set rfl⟩ (fun r1 er1 hw pr1 => ?_)
    have hE := zletE er1 hE
    refine lv_aload_n hx hb dX12_tests_143 rfl (lv_at hl 0 rfl) ?_
    refine mget (v := .ref (y 18)) hx hb hts hiX12 hown hK hw 29 (by decide) lf66 rfl rfl dX12_tests_144 ?_
    refine lv_iload_n hx hb dX12_tests_147 rfl (lv_at hl 1 rfl) ?_
    refine lv_iconst (v := 0) hx hb dX12_tests_148 (by decide) ?_
    refine miast hx hb hK hw hS 19 mWg18 hw136_1 (by decide) dX12_tests_149 (mW ct h0 y (zset r1 18 (upd (r1 18) (zn a1) (0 : Int32))) q) mWs18 (fun H locs hw hS => ?_)
    refine mgen (P := fun x => mJ B x ∧ zFr [19, 22, 15, 18, 20] r x) hw ⟨pr1.1.set rfl (zI.top _), pr1.2.set rfl⟩ (fun r2 er2 hw pr2 => ?_)
    have hE := zletE er2 hE
    refine lv_aload_n hx hb dX12_tests_150 rfl (lv_at hl 0 rfl) ?_
    refine mget (v := .ref (y 19)) hx hb hts hiX12 hown hK hw 30 (by decide) lf69 rfl rfl dX12_tests_151 ?_
    refine lv_iload_n hx hb dX12_tests_154 rfl (lv_at hl 1 rfl) ?_
    refine lv_iconst (v := 0) hx hb dX12_tests_155 (by decide) ?_
    refine miast hx hb hK hw hS 20 mWg19 hw136_1 (by decide) dX12_tests_156 (mW ct h0 y (zset r2 19 (upd (r2 19) (zn a1) (0 : Int32))) q) mWs19 (fun H locs hw hS => ?_)
    refine mgen (P := fun x => mJ B x ∧ zFr [19, 22, 15, 18, 20] r x) hw ⟨pr2.1.set rfl (zI.top _), pr2.2.set rfl⟩ (fun r3 er3 hw pr3 => ?_)
    have hE := zletE er3 hE
    refine lv_aload_n hx hb dX12_tests_157 rfl (lv_at hl 0 rfl) ?_
    refine mget (v := .ref (y 20)) hx hb hts hiX12 hown hK hw 31 (by decide) lf72 rfl rfl dX12_tests_158 ?_
    refine lv_iload_n hx hb dX12_tests_161 rfl (lv_at hl 1 rfl) ?_
    refine lv_bipush (v := 20) hx hb dX12_tests_162 (by decide) ?_
    refine miast hx hb hK hw hS 21 mWg20 hw136_1 (by decide) dX12_tests_164 (mW ct h0 y (zset r3 20 (upd (r3 20) (zn a1) (20 : Int32))) q) mWs20 (fun H locs hw hS => ?_)
    refine mgen (P := fun x => mJ B x ∧ zFr [19, 22, 15, 18, 20] r x) hw ⟨pr3.1.set rfl (zI.top _), pr3.2.set rfl⟩ (fun r4 er4 hw pr4 => ?_)
    have hE := zletE er4 hE
    exact zvretQ hQ hx hb hr hlocks r4 rfl ⟨pr4.1, pr4.2, (hE.symm.trans hX), trivial⟩ hw hS dX12_tests_165
  have cut135 : ∀ (w135_s0 : Int32) (rw135 : zRr) (hw135_1 : zI 0 5 a1) (hw135_s0 : zI 0 1 w135_s0) (jw135 : mJ B rw135) (fw135 : zFr [19, 22, 15, 18, 20] r rw135) (hE : X = Gm_tests_135 a1 w135_s0 rw135), zKf p l e ({ frames := 2, cells := 0, slots := 0, locals := 120 }) s m a9 below meth c Q D A 135 3 [.int w135_s0] (mW ct h0 y rw135 q) [(0, .ref h0), (1, .int a1)] := by
    intro w135_s0 rw135 hw135_1 hw135_s0 jw135 fw135 hE H locs ls hw hS hl
    unfold Gm_tests_135 at hE
    refine lv_istore_n (lv' := [(2, .int w135_s0), (0, .ref h0), (1, .int a1)]) hx hb dX12_tests_135 rfl hl (by decide) rfl (fun ls hl => ?_)
    exact cut136 w135_s0 rw135 hw135_1 jw135 fw135 hE H locs ls hw hS (lv_sub hl [1, 2, 0] rfl)
  have cut130 : ∀ (rw130 : zRr) (hw130_1 : zI 0 5 a1) (jw130 : mJ B rw130) (fw130 : zFr [19, 22, 15, 18, 20] r rw130) (hE : X = Gm_tests_130 a1 rw130), zKf p l e ({ frames := 2, cells := 0, slots := 0, locals := 120 }) s m a9 below meth c Q D A 130 3 [] (mW ct h0 y rw130 q) [(0, .ref h0), (1, .int a1)] := by
    intro rw130 hw130_1 jw130 fw130 hE H locs ls hw hS hl
    unfold Gm_tests_130 at hE
    refine lv_iconst (v := 1) hx hb dX12_tests_130 (by decide) ?_
    refine lv_goto (tgt := 135) hx hb dX12_tests_131 (by decide) ?_
    exact cut135 1 rw130 hw130_1 ((zI.lit (a := 1) (b := 1) (c := 1) (by decide)).w (c := 0) (d := 1) (by decide)) jw130 fw130 hE H locs ls hw hS (lv_sub hl [0, 1] rfl)
  have cut106 : ∀ (w106_2 : Int32) (rw106 : zRr) (hw106_1 : zI 0 5 a1) (jw106 : mJ B rw106) (fw106 : zFr [19, 22, 15, 18, 20] r rw106) (hE : X = Gm_tests_106 a1 w106_2 rw106), zKf p l e ({ frames := 2, cells := 0, slots := 0, locals := 120 }) s m a9 below meth c Q D A 106 3 [] (mW ct h0 y rw106 q) [(0, .ref h0), (1, .int a1), (2, .int w106_2)] := by
    intro w106_2 rw106 hw106_1 jw106 fw106 hE H locs ls hw hS hl
    unfold Gm_tests_106 at hE
    refine lv_aload_n hx hb dX12_tests_106 rfl (lv_at hl 0 rfl) ?_
    refine mget (v := .ref (y 16)) hx hb hts hiX12 hown hK hw 27 (by decide) lf60 rfl rfl dX12_tests_107 ?_
    refine lv_iload_n hx hb dX12_tests_110 rfl (lv_at hl 1 rfl) ?_
    refine miald hx hb hK hw 17 mWg16 hw106_1 (by decide) dX12_tests_111 (zgenE (zI.top _) (fun v5 ev5 _ => ?_))
    have hE := zletE ev5 hE
    refine lv_bipush (v := 27) hx hb dX12_tests_112 (by decide) ?_
    refine lv_icmp_ne (tgt := 136) hx hb dX12_tests_114 (by decide) (fun c6 => ?_) (fun c6 => ?_)
    · have hE := zifnT c6 hE
      exact cut136 w106_2 rw106 hw106_1 jw106 fw106 hE H locs ls hw hS (lv_sub hl [0, 1, 2] rfl)
    · have hE := zifnF c6 hE
      have k7 : zI 27 27 (v5) := zI.eqq c6 (zI.lit (a := 27) (b := 27) (c := 27) (by decide))
      refine lv_aload_n hx hb dX12_tests_117 rfl (lv_at hl 0 rfl) ?_
      refine mget (v := .ref (y 15)) hx hb hts hiX12 hown hK hw 26 (by decide) lf57 rfl rfl dX12_tests_118 ?_
      refine lv_iload_n hx hb dX12_tests_121 rfl (lv_at hl 1 rfl) ?_
      refine miald hx hb hK hw 16 mWg15 hw106_1 (by decide) dX12_tests_122 (zgenE (zI.top _) (fun v8 ev8 _ => ?_))
      have hE := zletE ev8 hE
      refine lv_if_ne (tgt := 130) hx hb dX12_tests_123 (by decide) (fun c9 => ?_) (fun c9 => ?_)
      · have hE := zifnT c9 hE
        exact cut130 rw106 hw106_1 jw106 fw106 hE H locs ls hw hS (lv_sub hl [0, 1] rfl)
      · have hE := zifnF c9 hE
        have k10 : zI 0 0 (v8) := zI.eqq c9 (zI.lit (a := 0) (b := 0) (c := 0) (by decide))
        refine lv_iload_n hx hb dX12_tests_126 rfl (lv_at hl 2 rfl) ?_
        refine lv_if_eq (tgt := 134) hx hb dX12_tests_127 (by decide) (fun c11 => ?_) (fun c11 => ?_)
        · have hE := zifT c11 hE
          have k12 : zI 0 0 (w106_2) := zI.eqq c11 (zI.lit (a := 0) (b := 0) (c := 0) (by decide))
          refine lv_iconst (v := 0) hx hb dX12_tests_134 (by decide) ?_
          exact cut135 0 rw106 hw106_1 ((zI.lit (a := 0) (b := 0) (c := 0) (by decide)).w (c := 0) (d := 1) (by decide)) jw106 fw106 hE H locs ls hw hS (lv_sub hl [0, 1] rfl)
        · have hE := zifF c11 hE
          exact cut130 rw106 hw106_1 jw106 fw106 hE H locs ls hw hS (lv_sub hl [0, 1] rfl)
  have cut105 : ∀ (w105_s0 : Int32) (rw105 : zRr) (hw105_1 : zI 0 5 a1) (hw105_s0 : zI 0 1 w105_s0) (jw105 : mJ B rw105) (fw105 : zFr [19, 22, 15, 18, 20] r rw105) (hE : X = Gm_tests_105 a1 w105_s0 rw105), zKf p l e ({ frames := 2, cells := 0, slots := 0, locals := 120 }) s m a9 below meth c Q D A 105 3 [.int w105_s0] (mW ct h0 y rw105 q) [(0, .ref h0), (1, .int a1)] := by
    intro w105_s0 rw105 hw105_1 hw105_s0 jw105 fw105 hE H locs ls hw hS hl
    unfold Gm_tests_105 at hE
    refine lv_istore_n (lv' := [(2, .int w105_s0), (0, .ref h0), (1, .int a1)]) hx hb dX12_tests_105 rfl hl (by decide) rfl (fun ls hl => ?_)
    exact cut106 w105_s0 rw105 hw105_1 jw105 fw105 hE H locs ls hw hS (lv_sub hl [1, 2, 0] rfl)
  have cut104 : ∀ (rw104 : zRr) (hw104_1 : zI 0 5 a1) (jw104 : mJ B rw104) (fw104 : zFr [19, 22, 15, 18, 20] r rw104) (hE : X = Gm_tests_104 a1 rw104), zKf p l e ({ frames := 2, cells := 0, slots := 0, locals := 120 }) s m a9 below meth c Q D A 104 3 [] (mW ct h0 y rw104 q) [(0, .ref h0), (1, .int a1)] := by
    intro rw104 hw104_1 jw104 fw104 hE H locs ls hw hS hl
    unfold Gm_tests_104 at hE
    refine lv_iconst (v := 0) hx hb dX12_tests_104 (by decide) ?_
    exact cut105 0 rw104 hw104_1 ((zI.lit (a := 0) (b := 0) (c := 0) (by decide)).w (c := 0) (d := 1) (by decide)) jw104 fw104 hE H locs ls hw hS (lv_sub hl [0, 1] rfl)
  have cut76 : ∀ (w76_2 : Int32) (rw76 : zRr) (hw76_1 : zI 0 5 a1) (jw76 : mJ B rw76) (fw76 : zFr [19, 22, 15, 18, 20] r rw76) (hE : X = Gm_tests_76 a1 w76_2 rw76), zKf p l e ({ frames := 2, cells := 0, slots := 0, locals := 120 }) s m a9 below meth c Q D A 76 3 [] (mW ct h0 y rw76 q) [(0, .ref h0), (1, .int a1), (2, .int w76_2)] := by
    intro w76_2 rw76 hw76_1 jw76 fw76 hE H locs ls hw hS hl
    unfold Gm_tests_76 at hE
    refine lv_aload_n hx hb dX12_tests_76 rfl (lv_at hl 0 rfl) ?_
    refine mget (v := .ref (y 16)) hx hb hts hiX12 hown hK hw 27 (by decide) lf60 rfl rfl dX12_tests_77 ?_
    refine lv_iload_n hx hb dX12_tests_80 rfl (lv_at hl 1 rfl) ?_
    refine miald hx hb hK hw 17 mWg16 hw76_1 (by decide) dX12_tests_81 (zgenE (zI.top _) (fun v13 ev13 _ => ?_))
    have hE := zletE ev13 hE
    refine lv_bipush (v := 26) hx hb dX12_tests_82 (by decide) ?_
    refine lv_icmp_ne (tgt := 106) hx hb dX12_tests_84 (by decide) (fun c14 => ?_) (fun c14 => ?_)
    · have hE := zifnT c14 hE
      exact cut106 w76_2 rw76 hw76_1 jw76 fw76 hE H locs ls hw hS (lv_sub hl [0, 1, 2] rfl)
    · have hE := zifnF c14 hE
      have k15 : zI 26 26 (v13) := zI.eqq c14 (zI.lit (a := 26) (b := 26) (c := 26) (by decide))
      refine lv_aload_n hx hb dX12_tests_87 rfl (lv_at hl 0 rfl) ?_
      refine mget (v := .ref (y 15)) hx hb hts hiX12 hown hK hw 26 (by decide) lf57 rfl rfl dX12_tests_88 ?_
      refine lv_iload_n hx hb dX12_tests_91 rfl (lv_at hl 1 rfl) ?_
      refine miald hx hb hK hw 16 mWg15 hw76_1 (by decide) dX12_tests_92 (zgenE (zI.top _) (fun v16 ev16 _ => ?_))
      have hE := zletE ev16 hE
      refine lv_if_eq (tgt := 104) hx hb dX12_tests_93 (by decide) (fun c17 => ?_) (fun c17 => ?_)
      · have hE := zifT c17 hE
        have k18 : zI 0 0 (v16) := zI.eqq c17 (zI.lit (a := 0) (b := 0) (c := 0) (by decide))
        exact cut104 rw76 hw76_1 jw76 fw76 hE H locs ls hw hS (lv_sub hl [0, 1] rfl)
      · have hE := zifF c17 hE
        refine lv_iload_n hx hb dX12_tests_96 rfl (lv_at hl 2 rfl) ?_
        refine lv_if_eq (tgt := 104) hx hb dX12_tests_97 (by decide) (fun c19 => ?_) (fun c19 => ?_)
        · have hE := zifT c19 hE
          have k20 : zI 0 0 (w76_2) := zI.eqq c19 (zI.lit (a := 0) (b := 0) (c := 0) (by decide))
          exact cut104 rw76 hw76_1 jw76 fw76 hE H locs ls hw hS (lv_sub hl [0, 1] rfl)
        · have hE := zifF c19 hE
          refine lv_iconst (v := 1) hx hb dX12_tests_100 (by decide) ?_
          refine lv_goto (tgt := 105) hx hb dX12_tests_101 (by decide) ?_
          exact cut105 1 rw76 hw76_1 ((zI.lit (a := 1) (b := 1) (c := 1) (by decide)).w (c := 0) (d := 1) (by decide)) jw76 fw76 hE H locs ls hw hS (lv_sub hl [0, 1] rfl)
  have cut75 : ∀ (w75_s0 : Int32) (rw75 : zRr) (hw75_1 : zI 0 5 a1) (hw75_s0 : zI 0 1 w75_s0) (jw75 : mJ B rw75) (fw75 : zFr [19, 22, 15, 18, 20] r rw75) (hE : X = Gm_tests_75 a1 w75_s0 rw75), zKf p l e ({ frames := 2, cells := 0, slots := 0, locals := 120 }) s m a9 below meth c Q D A 75 3 [.int w75_s0] (mW ct h0 y rw75 q) [(0, .ref h0), (1, .int a1)] := by
    intro w75_s0 rw75 hw75_1 hw75_s0 jw75 fw75 hE H locs ls hw hS hl
    unfold Gm_tests_75 at hE
    refine lv_istore_n (lv' := [(2, .int w75_s0), (0, .ref h0), (1, .int a1)]) hx hb dX12_tests_75 rfl hl (by decide) rfl (fun ls hl => ?_)
    exact cut76 w75_s0 rw75 hw75_1 jw75 fw75 hE H locs ls hw hS (lv_sub hl [1, 2, 0] rfl)
  have cut44 : ∀ (w44_2 : Int32) (rw44 : zRr) (hw44_1 : zI 0 5 a1) (jw44 : mJ B rw44) (fw44 : zFr [19, 22, 15, 18, 20] r rw44) (hE : X = Gm_tests_44 a1 w44_2 rw44), zKf p l e ({ frames := 2, cells := 0, slots := 0, locals := 120 }) s m a9 below meth c Q D A 44 3 [] (mW ct h0 y rw44 q) [(0, .ref h0), (1, .int a1), (2, .int w44_2)] := by
    intro w44_2 rw44 hw44_1 jw44 fw44 hE H locs ls hw hS hl
    unfold Gm_tests_44 at hE
    refine lv_aload_n hx hb dX12_tests_44 rfl (lv_at hl 0 rfl) ?_
    refine mget (v := .ref (y 18)) hx hb hts hiX12 hown hK hw 29 (by decide) lf66 rfl rfl dX12_tests_45 ?_
    refine lv_iload_n hx hb dX12_tests_48 rfl (lv_at hl 1 rfl) ?_
    refine miald hx hb hK hw 19 mWg18 hw44_1 (by decide) dX12_tests_49 (zgenE (zI.top _) (fun v21 ev21 _ => ?_))
    have hE := zletE ev21 hE
    refine lv_bipush (v := 25) hx hb dX12_tests_50 (by decide) ?_
    refine lv_icmp_ne (tgt := 76) hx hb dX12_tests_52 (by decide) (fun c22 => ?_) (fun c22 => ?_)
    · have hE := zifnT c22 hE
      exact cut76 w44_2 rw44 hw44_1 jw44 fw44 hE H locs ls hw hS (lv_sub hl [0, 1, 2] rfl)
    · have hE := zifnF c22 hE
      have k23 : zI 25 25 (v21) := zI.eqq c22 (zI.lit (a := 25) (b := 25) (c := 25) (by decide))
      refine lv_aload_n hx hb dX12_tests_55 rfl (lv_at hl 0 rfl) ?_
      refine mget (v := .ref (y 17)) hx hb hts hiX12 hown hK hw 28 (by decide) lf63 rfl rfl dX12_tests_56 ?_
      refine lv_iload_n hx hb dX12_tests_59 rfl (lv_at hl 1 rfl) ?_
      refine miald hx hb hK hw 18 mWg17 hw44_1 (by decide) dX12_tests_60 (zgenE (zI.top _) (fun v24 ev24 _ => ?_))
      have hE := zletE ev24 hE
      refine lv_aload_n hx hb dX12_tests_61 rfl (lv_at hl 0 rfl) ?_
      refine mget (v := .ref (y 19)) hx hb hts hiX12 hown hK hw 30 (by decide) lf69 rfl rfl dX12_tests_62 ?_
      refine lv_iload_n hx hb dX12_tests_65 rfl (lv_at hl 1 rfl) ?_
      refine miald hx hb hK hw 20 mWg19 hw44_1 (by decide) dX12_tests_66 (zgenE (zI.top _) (fun v25 ev25 _ => ?_))
      have hE := zletE ev25 hE
      refine lv_icmp_ne (tgt := 74) hx hb dX12_tests_67 (by decide) (fun c26 => ?_) (fun c26 => ?_)
      · have hE := zifnT c26 hE
        refine lv_iconst (v := 0) hx hb dX12_tests_74 (by decide) ?_
        exact cut75 0 rw44 hw44_1 ((zI.lit (a := 0) (b := 0) (c := 0) (by decide)).w (c := 0) (d := 1) (by decide)) jw44 fw44 hE H locs ls hw hS (lv_sub hl [0, 1] rfl)
      · have hE := zifnF c26 hE
        refine lv_iconst (v := 1) hx hb dX12_tests_70 (by decide) ?_
        refine lv_goto (tgt := 75) hx hb dX12_tests_71 (by decide) ?_
        exact cut75 1 rw44 hw44_1 ((zI.lit (a := 1) (b := 1) (c := 1) (by decide)).w (c := 0) (d := 1) (by decide)) jw44 fw44 hE H locs ls hw hS (lv_sub hl [0, 1] rfl)
  have cut43 : ∀ (w43_s0 : Int32) (rw43 : zRr) (hw43_1 : zI 0 5 a1) (hw43_s0 : zI 0 1 w43_s0) (jw43 : mJ B rw43) (fw43 : zFr [19, 22, 15, 18, 20] r rw43) (hE : X = Gm_tests_43 a1 w43_s0 rw43), zKf p l e ({ frames := 2, cells := 0, slots := 0, locals := 120 }) s m a9 below meth c Q D A 43 3 [.int w43_s0] (mW ct h0 y rw43 q) [(0, .ref h0), (1, .int a1)] := by
    intro w43_s0 rw43 hw43_1 hw43_s0 jw43 fw43 hE H locs ls hw hS hl
    unfold Gm_tests_43 at hE
    refine lv_istore_n (lv' := [(2, .int w43_s0), (0, .ref h0), (1, .int a1)]) hx hb dX12_tests_43 rfl hl (by decide) rfl (fun ls hl => ?_)
    exact cut44 w43_s0 rw43 hw43_1 jw43 fw43 hE H locs ls hw hS (lv_sub hl [1, 2, 0] rfl)
  intro H locs hw hS ls hl
  have hl : lv_has ls 3 [(0, .ref h0), (1, .int a1)] := hl
  have hE := hX
  unfold Gm_tests at hE
  refine lv_aload_n hx hb dX12_tests_0 rfl (lv_at hl 0 rfl) ?_
  refine lv_iload_n hx hb dX12_tests_1 rfl (lv_at hl 1 rfl) ?_
  refine zcallW (va_runV (As := [.int a1]) (rest := []) ⟨hx, hb, hml, hown, hts⟩ (mc_sums l D ct h0 y B a1 r q g1 hJ0 H.size) (cwV 1 hts (kgV (zr34 19 rfl) (zr34 20 rfl) (zr34 21 rfl) (zr1 5 rfl) (zr34 22 rfl)) rfl rfl rfl (by decide +kernel) ⟨Nat.le_of_ble_eq_true rfl, Nat.le_of_ble_eq_true rfl⟩) (zpreV hK hw hS hA zZ.nil hN (List.range (mW ct h0 y r q).length) mWn (zrange _) 11 0 rfl mWo) rfl rfl hl.1 rfl (lv_room (Nat.le_of_ble_eq_true rfl)) dX12_tests_2 ⟨Nat.le_of_ble_eq_true rfl, Nat.le_of_ble_eq_true rfl⟩) hw hS hA 5 rfl (fun u27 H locs pu27 hw hS => ?_)
  have ju27 : mJ B u27 := pu27.1
  have fu27 : zFr [19, 22] r u27 := pu27.2.1
  have xu27 : u27 = (Gm_sums a1 r q) := pu27.2.2.1
  have hE := zletE xu27 hE
  have hw : zPD D A (mW ct h0 y u27 q) H := hw
  refine zfr 5 [] rfl rfl ?_
  refine lv_aload_n hx hb dX12_tests_5 rfl (lv_at hl 0 rfl) ?_
  refine mget (v := .ref (y 19)) hx hb hts hiX12 hown hK hw 30 (by decide) lf69 rfl rfl dX12_tests_6 ?_
  refine lv_iload_n hx hb dX12_tests_9 rfl (lv_at hl 1 rfl) ?_
  refine miald hx hb hK hw 20 mWg19 g1 (by decide) dX12_tests_10 (zgenE (zI.top _) (fun v29 ev29 _ => ?_))
  have hE := zletE ev29 hE
  refine lv_istore_n (lv' := [(2, .int v29), (0, .ref h0), (1, .int a1)]) hx hb dX12_tests_11 rfl hl (by decide) rfl (fun ls hl => ?_)
  refine lv_aload_n hx hb dX12_tests_12 rfl (lv_at hl 1 rfl) ?_
  refine mget (v := .ref (y 18)) hx hb hts hiX12 hown hK hw 29 (by decide) lf66 rfl rfl dX12_tests_13 ?_
  refine lv_iload_n hx hb dX12_tests_16 rfl (lv_at hl 2 rfl) ?_
  refine miald hx hb hK hw 19 mWg18 g1 (by decide) dX12_tests_17 (zgenE (zI.top _) (fun v30 ev30 _ => ?_))
  have hE := zletE ev30 hE
  refine lv_bipush (v := 24) hx hb dX12_tests_18 (by decide) ?_
  refine lv_icmp_ne (tgt := 44) hx hb dX12_tests_20 (by decide) (fun c31 => ?_) (fun c31 => ?_)
  · have hE := zifnT c31 hE
    exact cut44 v29 u27 g1 ju27 ((zFr.refl).tr fu27 rfl) hE H locs ls hw hS (lv_sub hl [1, 2, 0] rfl)
  · have hE := zifnF c31 hE
    have k32 : zI 24 24 (v30) := zI.eqq c31 (zI.lit (a := 24) (b := 24) (c := 24) (by decide))
    refine lv_aload_n hx hb dX12_tests_23 rfl (lv_at hl 1 rfl) ?_
    refine mget (v := .ref (y 17)) hx hb hts hiX12 hown hK hw 28 (by decide) lf63 rfl rfl dX12_tests_24 ?_
    refine lv_iload_n hx hb dX12_tests_27 rfl (lv_at hl 2 rfl) ?_
    refine miald hx hb hK hw 18 mWg17 g1 (by decide) dX12_tests_28 (zgenE (zI.top _) (fun v33 ev33 _ => ?_))
    have hE := zletE ev33 hE
    refine lv_aload_n hx hb dX12_tests_29 rfl (lv_at hl 1 rfl) ?_
    refine mget (v := .ref (y 19)) hx hb hts hiX12 hown hK hw 30 (by decide) lf69 rfl rfl dX12_tests_30 ?_
    refine lv_iload_n hx hb dX12_tests_33 rfl (lv_at hl 2 rfl) ?_
    refine miald hx hb hK hw 20 mWg19 g1 (by decide) dX12_tests_34 (zgenE (zI.top _) (fun v34 ev34 _ => ?_))
    have hE := zletE ev34 hE
    refine lv_icmp_ge (tgt := 42) hx hb dX12_tests_35 (by decide) (fun c35 => ?_) (fun c35 => ?_)
    · have hE := zifT c35 hE
      refine lv_iconst (v := 0) hx hb dX12_tests_42 (by decide) ?_
      exact cut43 0 u27 g1 ((zI.lit (a := 0) (b := 0) (c := 0) (by decide)).w (c := 0) (d := 1) (by decide)) ju27 ((zFr.refl).tr fu27 rfl) hE H locs ls hw hS (lv_sub hl [1, 2] rfl)
    · have hE := zifF c35 hE
      refine lv_iconst (v := 1) hx hb dX12_tests_38 (by decide) ?_
      refine lv_goto (tgt := 43) hx hb dX12_tests_39 (by decide) ?_
      exact cut43 1 u27 g1 ((zI.lit (a := 1) (b := 1) (c := 1) (by decide)).w (c := 0) (d := 1) (by decide)) ju27 ((zFr.refl).tr fu27 rfl) hE H locs ls hw hS (lv_sub hl [1, 2] rfl)

noncomputable def Gm_worked_329 (w14_3 : Int32) (ih14 : Int32 → Int32 → zRr → (Int32 × zRr)) (w329_2 : Int32) (rw329 : zRr) : Int32 × zRr :=
  ih14 w329_2 (w14_3 + 1) rw329
noncomputable def Gm_worked_328 (w14_3 : Int32) (ih14 : Int32 → Int32 → zRr → (Int32 × zRr)) (w328_2 : Int32) (w328_s0 : Int32) (w328_s1 : Int32) (rw328 : zRr) : Int32 × zRr :=
  zlet (α := zRr) (zset rw328 21 (upd (rw328 21) (zn w328_s1) w328_s0)) <| fun r2 => Gm_worked_329 w14_3 ih14 w328_2 r2
noncomputable def Gm_worked_300 (w14_3 : Int32) (ih14 : Int32 → Int32 → zRr → (Int32 × zRr)) (w300_2 : Int32) (w300_5 : Int32) (rw300 : zRr) : Int32 × zRr :=
  zlet (α := Int32) (rw300 22 (zn w300_2)) <| fun v3 => zifn (v3 = (0 : Int32)) (zlet (α := Int32) (rw300 21 (zn w300_2)) <| fun v5 => zlet (α := Int32) (v5 * w300_5) <| fun v6 => Gm_worked_328 w14_3 ih14 w300_2 v6 w300_2 rw300) (Gm_worked_328 w14_3 ih14 w300_2 w300_5 w300_2 rw300)
noncomputable def Gm_worked_292 (w268_2 : Int32) (rw268 : zRr) (ih268 : Int32 → Int32 → zRr → (Int32 × zRr)) (w292_s0 : Int32) : Int32 × zRr :=
  ih268 (w268_2 + (-1)) w292_s0 rw268
noncomputable def Bm_worked_268 (w14_3 : Int32) (ih14 : Int32 → Int32 → zRr → (Int32 × zRr)) (ih268 : Int32 → Int32 → zRr → (Int32 × zRr)) (w268_2 : Int32) (w268_5 : Int32) (rw268 : zRr) : Int32 × zRr :=
  zif (w268_2 ≤ (0 : Int32)) (Gm_worked_300 w14_3 ih14 w268_2 w268_5 rw268) (zifn ((rw268 23 (zn w268_2)) = (1 : Int32)) (Gm_worked_300 w14_3 ih14 w268_2 w268_5 rw268) (zifn (w268_5 = (0 : Int32)) (Gm_worked_292 w268_2 rw268 ih268 0) (Gm_worked_292 w268_2 rw268 ih268 1)))
noncomputable def Gm_worked_268 (w14_3 : Int32) (ih14 : Int32 → Int32 → zRr → (Int32 × zRr)) (n : Nat) : Int32 → Int32 → zRr → (Int32 × zRr) :=
  Nat.rec (motive := fun _ => Int32 → Int32 → zRr → (Int32 × zRr)) (fun _ _ rw268 => (default, rw268)) (fun _ ih => Bm_worked_268 w14_3 ih14 ih) n
noncomputable def Bm_worked_14 (q : zRq) (ih14 : Int32 → Int32 → zRr → (Int32 × zRr)) (w14_2 : Int32) (w14_3 : Int32) (rw14 : zRr) : Int32 × zRr :=
  zif ((rw14 11 0) ≤ w14_3) (zlet (α := zRr) ((Gm_tests (0 : Int32) rw14 q)) <| fun u17 => zlet (α := Int32) (u17 15 0) <| fun v19 => (v19, u17)) (zlet (α := Int32) (rw14 12 (zn w14_3)) <| fun v22 => zif (v22 = (28 : Int32)) (zifn (v22 = (30 : Int32)) (zlet (α := zRr) (zset rw14 23 (upd (rw14 23) (zn (w14_2 + 1)) (0 : Int32))) <| fun r29 => zlet (α := zRr) ((Gm_opens (w14_2 + 1) r29 q)) <| fun u30 => Gm_worked_329 w14_3 ih14 (w14_2 + 1) u30) (default)) (zifn (v22 = (30 : Int32)) (zif (v22 = (20 : Int32)) (zlet (α := zRr) ((Gm_sums w14_2 rw14 q)) <| fun u35 => zlet (α := zRr) (zset u35 20 (upd (u35 20) (zn w14_2) v22)) <| fun r37 => Gm_worked_329 w14_3 ih14 w14_2 r37) (zifn (v22 = (21 : Int32)) (zifn (v22 = (22 : Int32)) (zif (v22 = (24 : Int32)) (zlet (α := zRr) ((Gm_sums w14_2 rw14 q)) <| fun u42 => zlet (α := Int32) (u42 19 (zn w14_2)) <| fun v44 => zlet (α := zRr) (zset u42 17 (upd (u42 17) (zn w14_2) v44)) <| fun r45 => zlet (α := zRr) (zset r45 18 (upd (r45 18) (zn w14_2) v22)) <| fun r46 => zlet (α := zRr) (zset r46 19 (upd (r46 19) (zn w14_2) (0 : Int32))) <| fun r47 => zlet (α := zRr) (zset r47 20 (upd (r47 20) (zn w14_2) (20 : Int32))) <| fun r48 => Gm_worked_329 w14_3 ih14 w14_2 r48) (zifn (v22 = (25 : Int32)) (zif (v22 = (26 : Int32)) (zlet (α := zRr) ((Gm_tests w14_2 rw14 q)) <| fun u52 => zlet (α := zRr) (zset u52 16 (upd (u52 16) (zn w14_2) v22)) <| fun r54 => Gm_worked_329 w14_3 ih14 w14_2 r54) (zifn (v22 = (27 : Int32)) (zif (v22 < (100 : Int32)) (zif ((20 : Int32) ≤ v22) (zifn (v22 = (29 : Int32)) (Gm_worked_268 w14_3 ih14 6 w14_2 0 rw14) (zlet (α := zRr) ((Gm_tests w14_2 rw14 q)) <| fun u62 => zlet (α := Int32) (u62 15 (zn w14_2)) <| fun v64 => Gm_worked_268 w14_3 ih14 6 (w14_2 + (-1)) v64 u62)) (zlet (α := Int32) (rw14 24 (zn v22)) <| fun v68 => zifn (v22 = (29 : Int32)) (Gm_worked_268 w14_3 ih14 6 w14_2 v68 rw14) (default))) (zlet (α := Int32) (v22 - 100) <| fun v71 => zifn (v22 = (29 : Int32)) (Gm_worked_268 w14_3 ih14 6 w14_2 v71 rw14) (default))) (zlet (α := zRr) ((Gm_tests w14_2 rw14 q)) <| fun u74 => zlet (α := zRr) (zset u74 16 (upd (u74 16) (zn w14_2) v22)) <| fun r76 => Gm_worked_329 w14_3 ih14 w14_2 r76))) (zlet (α := zRr) ((Gm_sums w14_2 rw14 q)) <| fun u78 => zlet (α := Int32) (u78 19 (zn w14_2)) <| fun v80 => zlet (α := zRr) (zset u78 17 (upd (u78 17) (zn w14_2) v80)) <| fun r81 => zlet (α := zRr) (zset r81 18 (upd (r81 18) (zn w14_2) v22)) <| fun r82 => zlet (α := zRr) (zset r82 19 (upd (r82 19) (zn w14_2) (0 : Int32))) <| fun r83 => zlet (α := zRr) (zset r83 20 (upd (r83 20) (zn w14_2) (20 : Int32))) <| fun r84 => Gm_worked_329 w14_3 ih14 w14_2 r84))) (zlet (α := zRr) (zset rw14 22 (upd (rw14 22) (zn w14_2) v22)) <| fun r86 => Gm_worked_329 w14_3 ih14 w14_2 r86)) (zlet (α := zRr) ((Gm_sums w14_2 rw14 q)) <| fun u88 => zlet (α := zRr) (zset u88 20 (upd (u88 20) (zn w14_2) v22)) <| fun r90 => Gm_worked_329 w14_3 ih14 w14_2 r90))) (zifn (v22 = (30 : Int32)) (default) (zlet (α := zRr) (zset rw14 23 (upd (rw14 23) (zn (w14_2 + 1)) (1 : Int32))) <| fun r95 => zlet (α := zRr) ((Gm_opens (w14_2 + 1) r95 q)) <| fun u96 => Gm_worked_329 w14_3 ih14 (w14_2 + 1) u96))))
noncomputable def Gm_worked_14 (q : zRq) (n : Nat) : Int32 → Int32 → zRr → (Int32 × zRr) :=
  Nat.rec (motive := fun _ => Int32 → Int32 → zRr → (Int32 × zRr)) (fun _ _ rw14 => (default, rw14)) (fun _ ih => Bm_worked_14 q ih) n
noncomputable def Gm_worked (r : zRr) (q : zRq) : Int32 × zRr :=
  zlet (α := zRr) ((Gm_opens (0 : Int32) r q)) <| fun u98 => Gm_worked_14 q 1001 0 (u98 10 0) u98
set_option maxHeartbeats 4000000 in
set_option maxRecDepth 100000 in
theorem mc_worked (l : Launch) (D : va_G) (ct : Nat → ClassId) (h0 : Nat) (y : Nat → Nat) (B : Int) (r : zRr) (q : zRq) (hJ0 : mJ B r) : zC l yX12_worked (.code yX12_worked cX12_worked 6 (some .int) :: wsL_law0) ({ frames := 3, cells := 0, slots := 0, locals := 160 }) D ct [] [.ref h0, .int 0] (mW ct h0 y r q) (S := Int32 × zRr) (fun u => some (.int u.1)) (fun u => zI (-2147483648) 2147483647 u.1 ∧ mJ B u.2 ∧ zFr [15, 16, 17, 18, 19, 20, 21, 22, 23] r u.2 ∧ u = (Gm_worked r q) ∧ True) (fun u => mW ct h0 y u.2 q) 0 0 := by
  refine zofQ cX12_worked 6 (some .int) (by decide) rfl (Nat.le_of_ble_eq_true rfl) ?_
  intro p e s m below meth c A a9 Q ha9 hx hb hr hml hts hown hlocks hname hK hA hZ hN hQ
  have hown : s.vm.findClass RX12 = some m.cls := hown
  have hiX12 : ∀ w ∈ wsX120, w ∈ .code yX12_worked cX12_worked 6 (some .int) :: wsL_law0 := fun _ h => ki (zs_wsX120 _ h)
  have lf41 := hts (.fieldLink RX12 41 "BeardPassModel" "lineFrom" "[I") (ki (zr8 5 rfl))
  have lf44 := hts (.fieldLink RX12 44 "BeardPassModel" "lineTo" "[I") (ki (zr8 6 rfl))
  have lf47 := hts (.fieldLink RX12 47 "BeardPassModel" "codes" "[I") (ki (zr8 7 rfl))
  have lf57 := hts (.fieldLink RX12 57 "BeardPassModel" "kept" "[I") (ki (zr8 11 rfl))
  have lf60 := hts (.fieldLink RX12 60 "BeardPassModel" "keptBy" "[I") (ki (zr8 12 rfl))
  have lf63 := hts (.fieldLink RX12 63 "BeardPassModel" "ahead" "[I") (ki (zr8 13 rfl))
  have lf66 := hts (.fieldLink RX12 66 "BeardPassModel" "against" "[I") (ki (zr8 14 rfl))
  have lf69 := hts (.fieldLink RX12 69 "BeardPassModel" "sum" "[I") (ki (zr8 15 rfl))
  have lf72 := hts (.fieldLink RX12 72 "BeardPassModel" "sumBy" "[I") (ki (zr8 16 rfl))
  have lf75 := hts (.fieldLink RX12 75 "BeardPassModel" "term" "[I") (ki (zr8 17 rfl))
  have lf78 := hts (.fieldLink RX12 78 "BeardPassModel" "termBy" "[I") (ki (zr8 18 rfl))
  have lf81 := hts (.fieldLink RX12 81 "BeardPassModel" "byNot" "[I") (ki (zr8 19 rfl))
  have lf84 := hts (.fieldLink RX12 84 "BeardPassModel" "valueOf" "[I") (ki (zr8 20 rfl))
  obtain ⟨X, hX⟩ : ∃ X, X = (Gm_worked r q) := ⟨_, rfl⟩
  have cut14 : ∀ (n14 : Nat) (w14_2 : Int32) (w14_3 : Int32) (rw14 : zRr) (hw14_2 : zI 0 5 w14_2) (hw14_3 : zI 0 1000 w14_3) (jw14 : mJ B rw14) (fw14 : zFr [15, 16, 17, 18, 19, 20, 21, 22, 23] r rw14) (x14a : zn (r 10 0) ≤ zn w14_3) (x14b : mG (rw14 23) w14_2 (mgt r (zn w14_3))) (hE : X = Gm_worked_14 q n14 w14_2 w14_3 rw14), 1000 - w14_3.toInt < (n14 : Int) → zKf p l e ({ frames := 3, cells := 0, slots := 0, locals := 160 }) s m a9 below meth c Q D A 14 6 [] (mW ct h0 y rw14 q) [(0, .ref h0), (1, .int 0), (2, .int w14_2), (3, .int w14_3)] := by
    intro n14
    induction n14 with
    | zero => intro w14_2 w14_3 rw14 hw14_2 hw14_3 jw14 fw14 x14a x14b hE hm14; exact zI.no hw14_3 (by decide) hm14
    | succ n14 ih14 =>
      intro w14_2 w14_3 rw14 hw14_2 hw14_3 jw14 fw14 x14a x14b hE hm14
      have hE : X = Bm_worked_14 q (Gm_worked_14 q n14) w14_2 w14_3 rw14 := hE
      unfold Bm_worked_14 at hE
      have cut329 : ∀ (w329_2 : Int32) (rw329 : zRr) (hw329_2 : zI 0 5 w329_2) (hw329_3 : zI 0 999 w14_3) (jw329 : mJ B rw329) (fw329 : zFr [15, 16, 17, 18, 19, 20, 21, 22, 23] r rw329) (mw329_11_0 : zI 1 1000 (rw329 11 0)) (x329 : mG (rw329 23) w329_2 (mgt r (zn w14_3 + 1))) (hE : X = Gm_worked_329 w14_3 (Gm_worked_14 q n14) w329_2 rw329), zKf p l e ({ frames := 3, cells := 0, slots := 0, locals := 160 }) s m a9 below meth c Q D A 329 6 [] (mW ct h0 y rw329 q) [(0, .ref h0), (1, .int 0), (2, .int w329_2), (3, .int w14_3)] := by
        intro w329_2 rw329 hw329_2 hw329_3 jw329 fw329 mw329_11_0 x329 hE H locs ls hw hS hl
        unfold Gm_worked_329 at hE
        refine lv_iinc (v := w14_3 + 1) (lv' := [(3, .int (w14_3 + 1)), (0, .ref h0), (1, .int 0), (2, .int w329_2)]) hx hb dX12_worked_329 hl (k := 3) rfl (rfl) (by decide) rfl (fun ls hl => ?_)
        have k1 : zI 1 1000 (w14_3 + 1) := zI.add hw329_3 (zI.lit (a := 1) (b := 1) (by decide)) (by decide)
        refine lv_goto (tgt := 14) hx hb dX12_worked_332 (by decide) ?_
        exact ih14 w329_2 (w14_3 + 1) rw329 hw329_2 (k1.w (c := 0) (d := 1000) (by decide)) jw329 fw329 (by rw [zn_s hw329_3 (by decide)]; exact Nat.le_succ_of_le x14a) (by rw [zn_s hw329_3 (by decide)]; exact x329) hE (zI.up hw329_3 (by decide) hm14) H locs ls hw hS (lv_sub hl [1, 2, 3, 0] rfl)
      have cut328 : ∀ (w328_2 : Int32) (w328_s0 : Int32) (w328_s1 : Int32) (rw328 : zRr) (hw328_2 : zI 0 5 w328_2) (hw328_3 : zI 0 999 w14_3) (hw328_s1 : zI 0 5 w328_s1) (jw328 : mJ B rw328) (fw328 : zFr [15, 16, 17, 18, 19, 20, 21, 22, 23] r rw328) (mw328_11_0 : zI 1 1000 (rw328 11 0)) (x328 : mG (rw328 23) w328_2 (mgt r (zn w14_3 + 1))) (hE : X = Gm_worked_328 w14_3 (Gm_worked_14 q n14) w328_2 w328_s0 w328_s1 rw328), zKf p l e ({ frames := 3, cells := 0, slots := 0, locals := 160 }) s m a9 below meth c Q D A 328 6 [.int w328_s0, .int w328_s1, .ref (y 21)] (mW ct h0 y rw328 q) [(0, .ref h0), (1, .int 0), (2, .int w328_2), (3, .int w14_3)] := by
        intro w328_2 w328_s0 w328_s1 rw328 hw328_2 hw328_3 hw328_s1 jw328 fw328 mw328_11_0 x328 hE H locs ls hw hS hl
        unfold Gm_worked_328 at hE
        refine miast hx hb hK hw hS 22 mWg21 hw328_s1 (by decide) dX12_worked_328 (mW ct h0 y (zset rw328 21 (upd (rw328 21) (zn w328_s1) w328_s0)) q) mWs21 (fun H locs hw hS => ?_)
        refine mgen (P := fun x => mJ B x ∧ zFr [15, 16, 17, 18, 19, 20, 21, 22, 23] r x) hw ⟨jw328.set rfl (zI.top _), fw328.set rfl⟩ (fun r2 er2 hw pr2 => ?_)
        have hE := zletE er2 hE
        exact cut329 w328_2 r2 hw328_2 hw328_3 pr2.1 pr2.2 (zs_at er2 mw328_11_0 (by decide)) (x328.row (zs_row (k := 23) er2 (by decide))) hE H locs ls hw hS (lv_sub hl [0, 1, 2, 3] rfl)
      have cut300 : ∀ (w300_2 : Int32) (w300_5 : Int32) (rw300 : zRr) (hw300_2 : zI 0 5 w300_2) (hw300_3 : zI 0 999 w14_3) (jw300 : mJ B rw300) (fw300 : zFr [15, 16, 17, 18, 19, 20, 21, 22, 23] r rw300) (mw300_11_0 : zI 1 1000 (rw300 11 0)) (x300 : mG (rw300 23) w300_2 (mgt r (zn w14_3 + 1))) (hE : X = Gm_worked_300 w14_3 (Gm_worked_14 q n14) w300_2 w300_5 rw300), zKf p l e ({ frames := 3, cells := 0, slots := 0, locals := 160 }) s m a9 below meth c Q D A 300 6 [] (mW ct h0 y rw300 q) [(0, .ref h0), (1, .int 0), (2, .int w300_2), (3, .int w14_3), (5, .int w300_5)] := by
        intro w300_2 w300_5 rw300 hw300_2 hw300_3 jw300 fw300 mw300_11_0 x300 hE H locs ls hw hS hl
        unfold Gm_worked_300 at hE
        refine lv_aload_n hx hb dX12_worked_300 rfl (lv_at hl 0 rfl) ?_
        refine mget (v := .ref (y 21)) hx hb hts hiX12 hown hK hw 32 (by decide) lf75 rfl rfl dX12_worked_301 ?_
        refine lv_iload_n hx hb dX12_worked_304 rfl (lv_at hl 2 rfl) ?_
        refine lv_aload_n hx hb dX12_worked_305 rfl (lv_at hl 0 rfl) ?_
        refine mget (v := .ref (y 22)) hx hb hts hiX12 hown hK hw 33 (by decide) lf78 rfl rfl dX12_worked_306 ?_
        refine lv_iload_n hx hb dX12_worked_309 rfl (lv_at hl 2 rfl) ?_
        refine miald hx hb hK hw 23 mWg22 hw300_2 (by decide) dX12_worked_310 (zgenE (zI.top _) (fun v3 ev3 _ => ?_))
        have hE := zletE ev3 hE
        refine lv_if_ne (tgt := 319) hx hb dX12_worked_311 (by decide) (fun c4 => ?_) (fun c4 => ?_)
        · have hE := zifnT c4 hE
          refine lv_aload_n hx hb dX12_worked_319 rfl (lv_at hl 0 rfl) ?_
          refine mget (v := .ref (y 21)) hx hb hts hiX12 hown hK hw 32 (by decide) lf75 rfl rfl dX12_worked_320 ?_
          refine lv_iload_n hx hb dX12_worked_323 rfl (lv_at hl 2 rfl) ?_
          refine miald hx hb hK hw 22 mWg21 hw300_2 (by decide) dX12_worked_324 (zgenE (zI.top _) (fun v5 ev5 _ => ?_))
          have hE := zletE ev5 hE
          refine lv_iload hx hb dX12_worked_325 (lv_at hl 4 rfl) ?_
          refine lv_imul hx hb dX12_worked_327 (zgenE (zI.top _) (fun v6 ev6 _ => ?_))
          have hE := zletE ev6 hE
          exact cut328 w300_2 v6 w300_2 rw300 hw300_2 hw300_3 hw300_2 jw300 fw300 mw300_11_0 (x300) hE H locs ls hw hS (lv_sub hl [0, 1, 2, 3] rfl)
        · have hE := zifnF c4 hE
          have k7 : zI 0 0 (v3) := zI.eqq c4 (zI.lit (a := 0) (b := 0) (c := 0) (by decide))
          refine lv_iload hx hb dX12_worked_314 (lv_at hl 4 rfl) ?_
          refine lv_goto (tgt := 328) hx hb dX12_worked_316 (by decide) ?_
          exact cut328 w300_2 w300_5 w300_2 rw300 hw300_2 hw300_3 hw300_2 jw300 fw300 mw300_11_0 (x300) hE H locs ls hw hS (lv_sub hl [0, 1, 2, 3] rfl)
      have cut268 : ∀ (n268 : Nat) (w268_2 : Int32) (w268_5 : Int32) (rw268 : zRr) (hw268_2 : zI 0 5 w268_2) (hw268_3 : zI 0 999 w14_3) (jw268 : mJ B rw268) (fw268 : zFr [15, 16, 17, 18, 19, 20, 21, 22, 23] r rw268) (mw268_11_0 : zI 1 1000 (rw268 11 0)) (x268 : ∃ g, mG (rw268 23) w268_2 g ∧ g.dropWhile id = mgt r (zn w14_3 + 1)) (hE : X = Gm_worked_268 w14_3 (Gm_worked_14 q n14) n268 w268_2 w268_5 rw268), w268_2.toInt - 0 < (n268 : Int) → zKf p l e ({ frames := 3, cells := 0, slots := 0, locals := 160 }) s m a9 below meth c Q D A 268 6 [] (mW ct h0 y rw268 q) [(0, .ref h0), (1, .int 0), (2, .int w268_2), (3, .int w14_3), (5, .int w268_5)] := by
        intro n268
        induction n268 with
        | zero => intro w268_2 w268_5 rw268 hw268_2 hw268_3 jw268 fw268 mw268_11_0 x268 hE hm268; exact zI.no1 hw268_2 (by decide) hm268
        | succ n268 ih268 =>
          intro w268_2 w268_5 rw268 hw268_2 hw268_3 jw268 fw268 mw268_11_0 x268 hE hm268
          have hE : X = Bm_worked_268 w14_3 (Gm_worked_14 q n14) (Gm_worked_268 w14_3 (Gm_worked_14 q n14) n268) w268_2 w268_5 rw268 := hE
          unfold Bm_worked_268 at hE
          have cut292 : ∀ (w292_s0 : Int32) (hw292_2 : zI 1 5 w268_2) (hw292_3 : zI 0 999 w14_3) (hw292_s0 : zI 0 1 w292_s0) (mw292_11_0 : zI 1 1000 (rw268 11 0)) (x292a : ∃ g, mG (rw268 23) w268_2 g ∧ g.dropWhile id = mgt r (zn w14_3 + 1)) (x292b : (0 : Int32) < w268_2) (x292c : rw268 23 (zn w268_2) = 1) (hE : X = Gm_worked_292 w268_2 rw268 (Gm_worked_268 w14_3 (Gm_worked_14 q n14) n268) w292_s0), zKf p l e ({ frames := 3, cells := 0, slots := 0, locals := 160 }) s m a9 below meth c Q D A 292 6 [.int w292_s0] (mW ct h0 y rw268 q) [(0, .ref h0), (1, .int 0), (2, .int w268_2), (3, .int w14_3)] := by
            intro w292_s0 hw292_2 hw292_3 hw292_s0 mw292_11_0 x292a x292b x292c hE H locs ls hw hS hl
            unfold Gm_worked_292 at hE
            refine lv_istore (lv' := [(5, .int w292_s0), (0, .ref h0), (1, .int 0), (2, .int w268_2), (3, .int w14_3)]) hx hb dX12_worked_292 hl (by decide) rfl (fun ls hl => ?_)
            refine lv_iinc (v := w268_2 + (-1)) (lv' := [(2, .int (w268_2 + (-1))), (5, .int w292_s0), (0, .ref h0), (1, .int 0), (3, .int w14_3)]) hx hb dX12_worked_294 hl (k := 3) rfl (rfl) (by decide) rfl (fun ls hl => ?_)
            have k8 : zI 0 4 (w268_2 + (-1)) := zI.add hw292_2 (zI.lit (a := (-1)) (b := (-1)) (by decide)) (by decide)
            refine lv_goto (tgt := 268) hx hb dX12_worked_297 (by decide) ?_
            exact ih268 (w268_2 + (-1)) w292_s0 rw268 (k8.w (c := 0) (d := 5) (by decide)) hw292_3 jw268 fw268 mw292_11_0 (xG.back x292a x292b x292c) hE (zI.down hw292_2 (by decide) hm268) H locs ls hw hS (lv_sub hl [2, 3, 0, 4, 1] rfl)
          intro H locs ls hw hS hl
          refine lv_iload_n hx hb dX12_worked_268 rfl (lv_at hl 2 rfl) ?_
          refine lv_if_le (tgt := 300) hx hb dX12_worked_269 (by decide) (fun c9 => ?_) (fun c9 => ?_)
          · have hE := zifT c9 hE
            have k10 : zI 0 0 (w268_2) := zI.leU c9 hw268_2 (zI.lit (a := 0) (b := 0) (c := 0) (by decide)) (by decide)
            exact cut300 w268_2 w268_5 rw268 (k10.w (c := 0) (d := 5) (by decide)) hw268_3 jw268 fw268 mw268_11_0 (xG.exit0 x268 c9) hE H locs ls hw hS (lv_sub hl [0, 1, 2, 3, 4] rfl)
          · have hE := zifF c9 hE
            have k11 : zI 1 5 (w268_2) := zI.ltD (zI.nle c9) (zI.lit (a := 0) (b := 0) (c := 0) (by decide)) hw268_2 (by decide)
            refine lv_aload_n hx hb dX12_worked_272 rfl (lv_at hl 0 rfl) ?_
            refine mget (v := .ref (y 23)) hx hb hts hiX12 hown hK hw 34 (by decide) lf81 rfl rfl dX12_worked_273 ?_
            refine lv_iload_n hx hb dX12_worked_276 rfl (lv_at hl 2 rfl) ?_
            refine miald hx hb hK hw 24 mWg23 k11 (by decide) dX12_worked_277 ?_
            refine lv_iconst (v := 1) hx hb dX12_worked_278 (by decide) ?_
            refine lv_icmp_ne (tgt := 300) hx hb dX12_worked_279 (by decide) (fun c12 => ?_) (fun c12 => ?_)
            · have hE := zifnT c12 hE
              exact cut300 w268_2 w268_5 rw268 (k11.w (c := 0) (d := 5) (by decide)) hw268_3 jw268 fw268 mw268_11_0 (xG.exit1 x268 c12) hE H locs ls hw hS (lv_sub hl [0, 1, 2, 3, 4] rfl)
            · have hE := zifnF c12 hE
              have k13 : zI 1 1 (rw268 23 (zn w268_2)) := zI.eqq c12 (zI.lit (a := 1) (b := 1) (c := 1) (by decide))
              refine lv_iload hx hb dX12_worked_282 (lv_at hl 4 rfl) ?_
              refine lv_if_ne (tgt := 291) hx hb dX12_worked_284 (by decide) (fun c14 => ?_) (fun c14 => ?_)
              · have hE := zifnT c14 hE
                refine lv_iconst (v := 0) hx hb dX12_worked_291 (by decide) ?_
                exact cut292 0 k11 hw268_3 ((zI.lit (a := 0) (b := 0) (c := 0) (by decide)).w (c := 0) (d := 1) (by decide)) mw268_11_0 (x268) ((zI.nle c9)) (c12) hE H locs ls hw hS (lv_sub hl [0, 1, 2, 3] rfl)
              · have hE := zifnF c14 hE
                have k15 : zI 0 0 (w268_5) := zI.eqq c14 (zI.lit (a := 0) (b := 0) (c := 0) (by decide))
                refine lv_iconst (v := 1) hx hb dX12_worked_287 (by decide) ?_
                refine lv_goto (tgt := 292) hx hb dX12_worked_288 (by decide) ?_
                exact cut292 1 k11 hw268_3 ((zI.lit (a := 1) (b := 1) (c := 1) (by decide)).w (c := 0) (d := 1) (by decide)) mw268_11_0 (x268) ((zI.nle c9)) (c12) hE H locs ls hw hS (lv_sub hl [0, 1, 2, 3] rfl)
      intro H locs ls hw hS hl
      refine lv_iload_n hx hb dX12_worked_14 rfl (lv_at hl 3 rfl) ?_
      refine lv_aload_n hx hb dX12_worked_15 rfl (lv_at hl 0 rfl) ?_
      refine mget (v := .ref (y 11)) hx hb hts hiX12 hown hK hw 20 (by decide) lf44 rfl rfl dX12_worked_16 ?_
      refine lv_iload_n hx hb dX12_worked_19 rfl (lv_at hl 1 rfl) ?_
      refine ziald hx hb hK hw 12 mWg11 0 (by decide) (by decide) (by decide) dX12_worked_20 ?_
      refine lv_icmp_ge (tgt := 335) hx hb dX12_worked_21 (by decide) (fun c16 => ?_) (fun c16 => ?_)
      · have hE := zifT c16 hE
        refine lv_aload_n hx hb dX12_worked_335 rfl (lv_at hl 0 rfl) ?_
        refine lv_iconst (v := 0) hx hb dX12_worked_336 (by decide) ?_
        refine zcallW (va_runV (As := [.int 0]) (rest := []) ⟨hx, hb, hml, hown, hts⟩ (mc_tests l D ct h0 y B 0 rw14 q ((zI.lit (a := 0) (b := 0) (c := 0) (by decide)).w (c := 0) (d := 5) (by decide)) jw14 H.size) (cwV 1 hts (kgV (zr34 23 rfl) (zr35 0 rfl) (zr35 1 rfl) (zr1 5 rfl) (zr35 2 rfl)) rfl rfl rfl (by decide +kernel) ⟨Nat.le_of_ble_eq_true rfl, Nat.le_of_ble_eq_true rfl⟩) (zpreV hK hw hS hA zZ.nil hN (List.range (mW ct h0 y rw14 q).length) mWn (zrange _) 11 0 rfl mWo) rfl rfl hl.1 rfl (lv_room (Nat.le_of_ble_eq_true rfl)) dX12_worked_337 ⟨Nat.le_of_ble_eq_true rfl, Nat.le_of_ble_eq_true rfl⟩) hw hS hA 340 rfl (fun u17 H locs pu17 hw hS => ?_)
        have ju17 : mJ B u17 := pu17.1
        have fu17 : zFr [19, 22, 15, 18, 20] rw14 u17 := pu17.2.1
        have xu17 : u17 = (Gm_tests (0 : Int32) rw14 q) := pu17.2.2.1
        have hE := zletE xu17 hE
        have hw : zPD D A (mW ct h0 y u17 q) H := hw
        refine zfr 340 [] rfl rfl ?_
        refine lv_aload_n hx hb dX12_worked_340 rfl (lv_at hl 0 rfl) ?_
        refine mget (v := .ref (y 15)) hx hb hts hiX12 hown hK hw 26 (by decide) lf57 rfl rfl dX12_worked_341 ?_
        refine lv_iconst (v := 0) hx hb dX12_worked_344 (by decide) ?_
        refine ziald hx hb hK hw 16 mWg15 0 (by decide) (by decide) (by decide) dX12_worked_345 (zgenE (zI.top _) (fun v19 ev19 _ => ?_))
        have hE := zletE ev19 hE
        exact ziretQ hQ hx hb hr rfl hlocks (v19, u17) rfl ⟨(zI.top _), ju17, (fw14.tr fu17 rfl), (hE.symm.trans hX), trivial⟩ hw hS dX12_worked_346
      · have hE := zifF c16 hE
        have k20 : zI 0 999 (w14_3) := zI.ltU (zI.nle c16) hw14_3 (show zI 0 1000 (rw14 11 0) from jw14.i 11 0) (by decide)
        have k21 : zI 1 1000 (rw14 11 0) := zI.ltD (zI.nle c16) hw14_3 (show zI 0 1000 (rw14 11 0) from jw14.i 11 0) (by decide)
        refine lv_aload_n hx hb dX12_worked_24 rfl (lv_at hl 0 rfl) ?_
        refine mget (v := .ref (y 12)) hx hb hts hiX12 hown hK hw 21 (by decide) lf47 rfl rfl dX12_worked_25 ?_
        refine lv_iload_n hx hb dX12_worked_28 rfl (lv_at hl 3 rfl) ?_
        refine miald hx hb hK hw 13 mWg12 k20 (by decide) dX12_worked_29 (zgenE (lo := (-2147483648)) (hi := 2147483647) ((zI.top _)) (fun v22 ev22 hv22 => ?_))
        have hE := zletE ev22 hE
        refine lv_istore (lv' := [(4, .int v22), (0, .ref h0), (1, .int 0), (2, .int w14_2), (3, .int w14_3)]) hx hb dX12_worked_30 hl (by decide) rfl (fun ls hl => ?_)
        have ec : v22 = r 12 (zn w14_3) := ev22.trans (congrFun (fw14 12 rfl) _)
        have hok : mok v22 (mgt r (zn w14_3)) := by rw [ec]; exact mgt_ok hJ0 x14a (by have h9 := zn_lt (zI.nle c16) k20 (by decide); rw [(fw14 11 rfl)] at h9; exact h9)
        have hst : mgt r (zn w14_3 + 1) = mst v22 (mgt r (zn w14_3)) := by rw [ec]; exact mgt_s x14a
        have k23 : zI 0 2147483647 v22 := ⟨hok.2.2, (zI.top _).2⟩
        refine lv_iload hx hb dX12_worked_32 (lv_at hl 0 rfl) ?_
        refine lv_bipush (v := 28) hx hb dX12_worked_34 (by decide) ?_
        refine lv_icmp_eq (tgt := 46) hx hb dX12_worked_36 (by decide) (fun c24 => ?_) (fun c24 => ?_)
        · have hE := zifT c24 hE
          have k25 : zI 28 28 (v22) := zI.eqq c24 (zI.lit (a := 28) (b := 28) (c := 28) (by decide))
          have k26 : zI 0 4 w14_2 := x14b.b4 (hok.1 (Or.inl c24))
          refine lv_iinc (v := w14_2 + 1) (lv' := [(2, .int (w14_2 + 1)), (4, .int v22), (0, .ref h0), (1, .int 0), (3, .int w14_3)]) hx hb dX12_worked_46 hl (k := 3) rfl (rfl) (by decide) rfl (fun ls hl => ?_)
          have k27 : zI 1 5 (w14_2 + 1) := zI.add k26 (zI.lit (a := 1) (b := 1) (by decide)) (by decide)
          refine lv_aload_n hx hb dX12_worked_49 rfl (lv_at hl 2 rfl) ?_
          refine mget (v := .ref (y 23)) hx hb hts hiX12 hown hK hw 34 (by decide) lf81 rfl rfl dX12_worked_50 ?_
          refine lv_iload_n hx hb dX12_worked_53 rfl (lv_at hl 0 rfl) ?_
          refine lv_iload hx hb dX12_worked_54 (lv_at hl 1 rfl) ?_
          refine lv_bipush (v := 30) hx hb dX12_worked_56 (by decide) ?_
          refine lv_icmp_ne (tgt := 65) hx hb dX12_worked_58 (by decide) (fun c28 => ?_) (fun c28 => ?_)
          · have hE := zifnT c28 hE
            refine lv_iconst (v := 0) hx hb dX12_worked_65 (by decide) ?_
            refine miast hx hb hK hw hS 24 mWg23 k27 (by decide) dX12_worked_66 (mW ct h0 y (zset rw14 23 (upd (rw14 23) (zn (w14_2 + 1)) (0 : Int32))) q) mWs23 (fun H locs hw hS => ?_)
            refine mgen (P := fun x => mJ B x ∧ zFr [15, 16, 17, 18, 19, 20, 21, 22, 23] r x) hw ⟨jw14.set rfl (zI.top _), fw14.set rfl⟩ (fun r29 er29 hw pr29 => ?_)
            have hE := zletE er29 hE
            refine lv_aload_n hx hb dX12_worked_67 rfl (lv_at hl 2 rfl) ?_
            refine lv_iload_n hx hb dX12_worked_68 rfl (lv_at hl 0 rfl) ?_
            refine zcallW (va_runV (As := [.int (w14_2 + 1)]) (rest := []) ⟨hx, hb, hml, hown, hts⟩ (mc_opens l D ct h0 y B (w14_2 + 1) r29 q (k27.w (c := 0) (d := 5) (by decide)) pr29.1 H.size) (cwV 1 hts (kgV (zr34 15 rfl) (zr34 16 rfl) (zr34 17 rfl) (zr1 5 rfl) (zr34 18 rfl)) rfl rfl rfl (by decide +kernel) ⟨Nat.le_of_ble_eq_true rfl, Nat.le_of_ble_eq_true rfl⟩) (zpreV hK hw hS hA zZ.nil hN (List.range (mW ct h0 y r29 q).length) mWn (zrange _) 11 0 rfl mWo) rfl rfl hl.1 rfl (lv_room (Nat.le_of_ble_eq_true rfl)) dX12_worked_69 ⟨Nat.le_of_ble_eq_true rfl, Nat.le_of_ble_eq_true rfl⟩) hw hS hA 72 rfl (fun u30 H locs pu30 hw hS => ?_)
            have ju30 : mJ B u30 := pu30.1
            have fu30 : zFr [16, 18, 19, 20, 22] r29 u30 := pu30.2.1
            have xu30 : u30 = (Gm_opens (w14_2 + 1) r29 q) := pu30.2.2.1
            have hE := zletE xu30 hE
            have hw : zPD D A (mW ct h0 y u30 q) H := hw
            refine zfr 72 [] rfl rfl ?_
            refine lv_goto (tgt := 329) hx hb dX12_worked_72 (by decide) ?_
            exact cut329 (w14_2 + 1) u30 (k27.w (c := 0) (d := 5) (by decide)) k20 ju30 (pr29.2.tr fu30 rfl) (fu30.at (zs_at er29 k21 (by decide)) rfl) (((x14b.push (v := 0) (x := false) (hok.1 (Or.inl c24)) (by decide)).to (hst.trans (mst_28 c24))).row ((fu30 23 rfl).trans (zs_self er29))) hE H locs ls hw hS (lv_sub hl [2, 3, 0, 4] rfl)
          · have hE := zifnF c28 hE
            exact absurd (congrArg Int32.toInt c28) (by have := k25.2; have := (zI.lit (a := 30) (b := 30) (c := 30) (by decide)).1; omega)
        · have hE := zifF c24 hE
          refine lv_iload hx hb dX12_worked_39 (lv_at hl 0 rfl) ?_
          refine lv_bipush (v := 30) hx hb dX12_worked_41 (by decide) ?_
          refine lv_icmp_ne (tgt := 75) hx hb dX12_worked_43 (by decide) (fun c32 => ?_) (fun c32 => ?_)
          · have hE := zifnT c32 hE
            refine lv_iload hx hb dX12_worked_75 (lv_at hl 0 rfl) ?_
            refine lv_bipush (v := 20) hx hb dX12_worked_77 (by decide) ?_
            refine lv_icmp_eq (tgt := 89) hx hb dX12_worked_79 (by decide) (fun c33 => ?_) (fun c33 => ?_)
            · have hE := zifT c33 hE
              have k34 : zI 20 20 (v22) := zI.eqq c33 (zI.lit (a := 20) (b := 20) (c := 20) (by decide))
              refine lv_aload_n hx hb dX12_worked_89 rfl (lv_at hl 1 rfl) ?_
              refine lv_iload_n hx hb dX12_worked_90 rfl (lv_at hl 3 rfl) ?_
              refine zcallW (va_runV (As := [.int w14_2]) (rest := []) ⟨hx, hb, hml, hown, hts⟩ (mc_sums l D ct h0 y B w14_2 rw14 q hw14_2 jw14 H.size) (cwV 1 hts (kgV (zr34 19 rfl) (zr34 20 rfl) (zr34 21 rfl) (zr1 5 rfl) (zr34 22 rfl)) rfl rfl rfl (by decide +kernel) ⟨Nat.le_of_ble_eq_true rfl, Nat.le_of_ble_eq_true rfl⟩) (zpreV hK hw hS hA zZ.nil hN (List.range (mW ct h0 y rw14 q).length) mWn (zrange _) 11 0 rfl mWo) rfl rfl hl.1 rfl (lv_room (Nat.le_of_ble_eq_true rfl)) dX12_worked_91 ⟨Nat.le_of_ble_eq_true rfl, Nat.le_of_ble_eq_true rfl⟩) hw hS hA 94 rfl (fun u35 H locs pu35 hw hS => ?_)
              have ju35 : mJ B u35 := pu35.1
              have fu35 : zFr [19, 22] rw14 u35 := pu35.2.1
              have xu35 : u35 = (Gm_sums w14_2 rw14 q) := pu35.2.2.1
              have hE := zletE xu35 hE
              have hw : zPD D A (mW ct h0 y u35 q) H := hw
              refine zfr 94 [] rfl rfl ?_
              refine lv_aload_n hx hb dX12_worked_94 rfl (lv_at hl 1 rfl) ?_
              refine mget (v := .ref (y 20)) hx hb hts hiX12 hown hK hw 31 (by decide) lf72 rfl rfl dX12_worked_95 ?_
              refine lv_iload_n hx hb dX12_worked_98 rfl (lv_at hl 3 rfl) ?_
              refine lv_iload hx hb dX12_worked_99 (lv_at hl 0 rfl) ?_
              refine miast hx hb hK hw hS 21 mWg20 hw14_2 (by decide) dX12_worked_101 (mW ct h0 y (zset u35 20 (upd (u35 20) (zn w14_2) v22)) q) mWs20 (fun H locs hw hS => ?_)
              refine mgen (P := fun x => mJ B x ∧ zFr [15, 16, 17, 18, 19, 20, 21, 22, 23] r x) hw ⟨ju35.set rfl (zI.top _), (fw14.tr fu35 rfl).set rfl⟩ (fun r37 er37 hw pr37 => ?_)
              have hE := zletE er37 hE
              refine lv_goto (tgt := 329) hx hb dX12_worked_102 (by decide) ?_
              exact cut329 w14_2 r37 hw14_2 k20 pr37.1 pr37.2 (zs_at er37 (fu35.at k21 rfl) (by decide)) ((x14b.to (hst.trans (mst_k (Or.inl c33)))).row ((zs_row (k := 23) er37 (by decide)).trans (fu35 23 rfl))) hE H locs ls hw hS (lv_sub hl [1, 2, 3, 4] rfl)
            · have hE := zifF c33 hE
              refine lv_iload hx hb dX12_worked_82 (lv_at hl 0 rfl) ?_
              refine lv_bipush (v := 21) hx hb dX12_worked_84 (by decide) ?_
              refine lv_icmp_ne (tgt := 105) hx hb dX12_worked_86 (by decide) (fun c38 => ?_) (fun c38 => ?_)
              · have hE := zifnT c38 hE
                refine lv_iload hx hb dX12_worked_105 (lv_at hl 0 rfl) ?_
                refine lv_bipush (v := 22) hx hb dX12_worked_107 (by decide) ?_
                refine lv_icmp_ne (tgt := 123) hx hb dX12_worked_109 (by decide) (fun c39 => ?_) (fun c39 => ?_)
                · have hE := zifnT c39 hE
                  refine lv_iload hx hb dX12_worked_123 (lv_at hl 0 rfl) ?_
                  refine lv_bipush (v := 24) hx hb dX12_worked_125 (by decide) ?_
                  refine lv_icmp_eq (tgt := 137) hx hb dX12_worked_127 (by decide) (fun c40 => ?_) (fun c40 => ?_)
                  · have hE := zifT c40 hE
                    have k41 : zI 24 24 (v22) := zI.eqq c40 (zI.lit (a := 24) (b := 24) (c := 24) (by decide))
                    refine lv_aload_n hx hb dX12_worked_137 rfl (lv_at hl 1 rfl) ?_
                    refine lv_iload_n hx hb dX12_worked_138 rfl (lv_at hl 3 rfl) ?_
                    refine zcallW (va_runV (As := [.int w14_2]) (rest := []) ⟨hx, hb, hml, hown, hts⟩ (mc_sums l D ct h0 y B w14_2 rw14 q hw14_2 jw14 H.size) (cwV 1 hts (kgV (zr34 19 rfl) (zr34 20 rfl) (zr34 21 rfl) (zr1 5 rfl) (zr34 22 rfl)) rfl rfl rfl (by decide +kernel) ⟨Nat.le_of_ble_eq_true rfl, Nat.le_of_ble_eq_true rfl⟩) (zpreV hK hw hS hA zZ.nil hN (List.range (mW ct h0 y rw14 q).length) mWn (zrange _) 11 0 rfl mWo) rfl rfl hl.1 rfl (lv_room (Nat.le_of_ble_eq_true rfl)) dX12_worked_139 ⟨Nat.le_of_ble_eq_true rfl, Nat.le_of_ble_eq_true rfl⟩) hw hS hA 142 rfl (fun u42 H locs pu42 hw hS => ?_)
                    have ju42 : mJ B u42 := pu42.1
                    have fu42 : zFr [19, 22] rw14 u42 := pu42.2.1
                    have xu42 : u42 = (Gm_sums w14_2 rw14 q) := pu42.2.2.1
                    have hE := zletE xu42 hE
                    have hw : zPD D A (mW ct h0 y u42 q) H := hw
                    refine zfr 142 [] rfl rfl ?_
                    refine lv_aload_n hx hb dX12_worked_142 rfl (lv_at hl 1 rfl) ?_
                    refine mget (v := .ref (y 17)) hx hb hts hiX12 hown hK hw 28 (by decide) lf63 rfl rfl dX12_worked_143 ?_
                    refine lv_iload_n hx hb dX12_worked_146 rfl (lv_at hl 3 rfl) ?_
                    refine lv_aload_n hx hb dX12_worked_147 rfl (lv_at hl 1 rfl) ?_
                    refine mget (v := .ref (y 19)) hx hb hts hiX12 hown hK hw 30 (by decide) lf69 rfl rfl dX12_worked_148 ?_
                    refine lv_iload_n hx hb dX12_worked_151 rfl (lv_at hl 3 rfl) ?_
                    refine miald hx hb hK hw 20 mWg19 hw14_2 (by decide) dX12_worked_152 (zgenE (zI.top _) (fun v44 ev44 _ => ?_))
                    have hE := zletE ev44 hE
                    refine miast hx hb hK hw hS 18 mWg17 hw14_2 (by decide) dX12_worked_153 (mW ct h0 y (zset u42 17 (upd (u42 17) (zn w14_2) v44)) q) mWs17 (fun H locs hw hS => ?_)
                    refine mgen (P := fun x => mJ B x ∧ zFr [15, 16, 17, 18, 19, 20, 21, 22, 23] r x) hw ⟨ju42.set rfl (zI.top _), (fw14.tr fu42 rfl).set rfl⟩ (fun r45 er45 hw pr45 => ?_)
                    have hE := zletE er45 hE
                    refine lv_aload_n hx hb dX12_worked_154 rfl (lv_at hl 1 rfl) ?_
                    refine mget (v := .ref (y 18)) hx hb hts hiX12 hown hK hw 29 (by decide) lf66 rfl rfl dX12_worked_155 ?_
                    refine lv_iload_n hx hb dX12_worked_158 rfl (lv_at hl 3 rfl) ?_
                    refine lv_iload hx hb dX12_worked_159 (lv_at hl 0 rfl) ?_
                    refine miast hx hb hK hw hS 19 mWg18 hw14_2 (by decide) dX12_worked_161 (mW ct h0 y (zset r45 18 (upd (r45 18) (zn w14_2) v22)) q) mWs18 (fun H locs hw hS => ?_)
                    refine mgen (P := fun x => mJ B x ∧ zFr [15, 16, 17, 18, 19, 20, 21, 22, 23] r x) hw ⟨pr45.1.set rfl (zI.top _), pr45.2.set rfl⟩ (fun r46 er46 hw pr46 => ?_)
                    have hE := zletE er46 hE
                    refine lv_aload_n hx hb dX12_worked_162 rfl (lv_at hl 1 rfl) ?_
                    refine mget (v := .ref (y 19)) hx hb hts hiX12 hown hK hw 30 (by decide) lf69 rfl rfl dX12_worked_163 ?_
                    refine lv_iload_n hx hb dX12_worked_166 rfl (lv_at hl 3 rfl) ?_
                    refine lv_iconst (v := 0) hx hb dX12_worked_167 (by decide) ?_
                    refine miast hx hb hK hw hS 20 mWg19 hw14_2 (by decide) dX12_worked_168 (mW ct h0 y (zset r46 19 (upd (r46 19) (zn w14_2) (0 : Int32))) q) mWs19 (fun H locs hw hS => ?_)
                    refine mgen (P := fun x => mJ B x ∧ zFr [15, 16, 17, 18, 19, 20, 21, 22, 23] r x) hw ⟨pr46.1.set rfl (zI.top _), pr46.2.set rfl⟩ (fun r47 er47 hw pr47 => ?_)
                    have hE := zletE er47 hE
                    refine lv_aload_n hx hb dX12_worked_169 rfl (lv_at hl 1 rfl) ?_
                    refine mget (v := .ref (y 20)) hx hb hts hiX12 hown hK hw 31 (by decide) lf72 rfl rfl dX12_worked_170 ?_
                    refine lv_iload_n hx hb dX12_worked_173 rfl (lv_at hl 3 rfl) ?_
                    refine lv_bipush (v := 20) hx hb dX12_worked_174 (by decide) ?_
                    refine miast hx hb hK hw hS 21 mWg20 hw14_2 (by decide) dX12_worked_176 (mW ct h0 y (zset r47 20 (upd (r47 20) (zn w14_2) (20 : Int32))) q) mWs20 (fun H locs hw hS => ?_)
                    refine mgen (P := fun x => mJ B x ∧ zFr [15, 16, 17, 18, 19, 20, 21, 22, 23] r x) hw ⟨pr47.1.set rfl (zI.top _), pr47.2.set rfl⟩ (fun r48 er48 hw pr48 => ?_)
                    have hE := zletE er48 hE
                    refine lv_goto (tgt := 329) hx hb dX12_worked_177 (by decide) ?_
                    exact cut329 w14_2 r48 hw14_2 k20 pr48.1 pr48.2 (zs_at er48 (zs_at er47 (zs_at er46 (zs_at er45 (fu42.at k21 rfl) (by decide)) (by decide)) (by decide)) (by decide)) ((x14b.to (hst.trans (mst_k (Or.inr (Or.inr (Or.inr (Or.inl c40))))))).row ((zs_row (k := 23) er48 (by decide)).trans ((zs_row (k := 23) er47 (by decide)).trans ((zs_row (k := 23) er46 (by decide)).trans ((zs_row (k := 23) er45 (by decide)).trans (fu42 23 rfl)))))) hE H locs ls hw hS (lv_sub hl [1, 2, 3, 4] rfl)
                  · have hE := zifF c40 hE
                    refine lv_iload hx hb dX12_worked_130 (lv_at hl 0 rfl) ?_
                    refine lv_bipush (v := 25) hx hb dX12_worked_132 (by decide) ?_
                    refine lv_icmp_ne (tgt := 180) hx hb dX12_worked_134 (by decide) (fun c49 => ?_) (fun c49 => ?_)
                    · have hE := zifnT c49 hE
                      refine lv_iload hx hb dX12_worked_180 (lv_at hl 0 rfl) ?_
                      refine lv_bipush (v := 26) hx hb dX12_worked_182 (by decide) ?_
                      refine lv_icmp_eq (tgt := 194) hx hb dX12_worked_184 (by decide) (fun c50 => ?_) (fun c50 => ?_)
                      · have hE := zifT c50 hE
                        have k51 : zI 26 26 (v22) := zI.eqq c50 (zI.lit (a := 26) (b := 26) (c := 26) (by decide))
                        refine lv_aload_n hx hb dX12_worked_194 rfl (lv_at hl 1 rfl) ?_
                        refine lv_iload_n hx hb dX12_worked_195 rfl (lv_at hl 3 rfl) ?_
                        refine zcallW (va_runV (As := [.int w14_2]) (rest := []) ⟨hx, hb, hml, hown, hts⟩ (mc_tests l D ct h0 y B w14_2 rw14 q hw14_2 jw14 H.size) (cwV 1 hts (kgV (zr34 23 rfl) (zr35 0 rfl) (zr35 1 rfl) (zr1 5 rfl) (zr35 2 rfl)) rfl rfl rfl (by decide +kernel) ⟨Nat.le_of_ble_eq_true rfl, Nat.le_of_ble_eq_true rfl⟩) (zpreV hK hw hS hA zZ.nil hN (List.range (mW ct h0 y rw14 q).length) mWn (zrange _) 11 0 rfl mWo) rfl rfl hl.1 rfl (lv_room (Nat.le_of_ble_eq_true rfl)) dX12_worked_196 ⟨Nat.le_of_ble_eq_true rfl, Nat.le_of_ble_eq_true rfl⟩) hw hS hA 199 rfl (fun u52 H locs pu52 hw hS => ?_)
                        have ju52 : mJ B u52 := pu52.1
                        have fu52 : zFr [19, 22, 15, 18, 20] rw14 u52 := pu52.2.1
                        have xu52 : u52 = (Gm_tests w14_2 rw14 q) := pu52.2.2.1
                        have hE := zletE xu52 hE
                        have hw : zPD D A (mW ct h0 y u52 q) H := hw
                        refine zfr 199 [] rfl rfl ?_
                        refine lv_aload_n hx hb dX12_worked_199 rfl (lv_at hl 1 rfl) ?_
                        refine mget (v := .ref (y 16)) hx hb hts hiX12 hown hK hw 27 (by decide) lf60 rfl rfl dX12_worked_200 ?_
                        refine lv_iload_n hx hb dX12_worked_203 rfl (lv_at hl 3 rfl) ?_
                        refine lv_iload hx hb dX12_worked_204 (lv_at hl 0 rfl) ?_
                        refine miast hx hb hK hw hS 17 mWg16 hw14_2 (by decide) dX12_worked_206 (mW ct h0 y (zset u52 16 (upd (u52 16) (zn w14_2) v22)) q) mWs16 (fun H locs hw hS => ?_)
                        refine mgen (P := fun x => mJ B x ∧ zFr [15, 16, 17, 18, 19, 20, 21, 22, 23] r x) hw ⟨ju52.set rfl (zI.top _), (fw14.tr fu52 rfl).set rfl⟩ (fun r54 er54 hw pr54 => ?_)
                        have hE := zletE er54 hE
                        refine lv_goto (tgt := 329) hx hb dX12_worked_207 (by decide) ?_
                        exact cut329 w14_2 r54 hw14_2 k20 pr54.1 pr54.2 (zs_at er54 (fu52.at k21 rfl) (by decide)) ((x14b.to (hst.trans (mst_k (Or.inr (Or.inr (Or.inr (Or.inr (Or.inr (Or.inl c50))))))))).row ((zs_row (k := 23) er54 (by decide)).trans (fu52 23 rfl))) hE H locs ls hw hS (lv_sub hl [1, 2, 3, 4] rfl)
                      · have hE := zifF c50 hE
                        refine lv_iload hx hb dX12_worked_187 (lv_at hl 0 rfl) ?_
                        refine lv_bipush (v := 27) hx hb dX12_worked_189 (by decide) ?_
                        refine lv_icmp_ne (tgt := 210) hx hb dX12_worked_191 (by decide) (fun c55 => ?_) (fun c55 => ?_)
                        · have hE := zifnT c55 hE
                          refine lv_iload hx hb dX12_worked_210 (lv_at hl 0 rfl) ?_
                          refine lv_bipush (v := 100) hx hb dX12_worked_212 (by decide) ?_
                          refine lv_icmp_lt (tgt := 225) hx hb dX12_worked_214 (by decide) (fun c56 => ?_) (fun c56 => ?_)
                          · have hE := zifT c56 hE
                            have k57 : zI 0 99 (v22) := zI.ltU c56 k23 (zI.lit (a := 100) (b := 100) (c := 100) (by decide)) (by decide)
                            refine lv_iload hx hb dX12_worked_225 (lv_at hl 0 rfl) ?_
                            refine lv_bipush (v := 20) hx hb dX12_worked_227 (by decide) ?_
                            refine lv_icmp_ge (tgt := 242) hx hb dX12_worked_229 (by decide) (fun c58 => ?_) (fun c58 => ?_)
                            · have hE := zifT c58 hE
                              have k59 : zI 20 99 (v22) := zI.leD c58 (zI.lit (a := 20) (b := 20) (c := 20) (by decide)) k57 (by decide)
                              refine lv_iconst (v := 0) hx hb dX12_worked_242 (by decide) ?_
                              refine lv_istore (lv' := [(5, .int 0), (4, .int v22), (0, .ref h0), (1, .int 0), (2, .int w14_2), (3, .int w14_3)]) hx hb dX12_worked_243 hl (by decide) rfl (fun ls hl => ?_)
                              refine lv_iload hx hb dX12_worked_245 (lv_at hl 1 rfl) ?_
                              refine lv_bipush (v := 29) hx hb dX12_worked_247 (by decide) ?_
                              refine lv_icmp_ne (tgt := 268) hx hb dX12_worked_249 (by decide) (fun c60 => ?_) (fun c60 => ?_)
                              · have hE := zifnT c60 hE
                                exact cut268 6 w14_2 0 rw14 hw14_2 k20 jw14 fw14 k21 (⟨_, x14b.row rfl, (hst.trans (mst_v c24 c32 c33 c38 c39 c40 c49 c50 c55 c60)).symm⟩) hE (zI.m1 hw14_2 (by decide)) H locs ls hw hS (lv_sub hl [2, 3, 4, 5, 0] rfl)
                              · have hE := zifnF c60 hE
                                have k61 : zI 29 29 (v22) := zI.eqq c60 (zI.lit (a := 29) (b := 29) (c := 29) (by decide))
                                refine lv_aload_n hx hb dX12_worked_252 rfl (lv_at hl 2 rfl) ?_
                                refine lv_iload_n hx hb dX12_worked_253 rfl (lv_at hl 4 rfl) ?_
                                refine zcallW (va_runV (As := [.int w14_2]) (rest := []) ⟨hx, hb, hml, hown, hts⟩ (mc_tests l D ct h0 y B w14_2 rw14 q hw14_2 jw14 H.size) (cwV 1 hts (kgV (zr34 23 rfl) (zr35 0 rfl) (zr35 1 rfl) (zr1 5 rfl) (zr35 2 rfl)) rfl rfl rfl (by decide +kernel) ⟨Nat.le_of_ble_eq_true rfl, Nat.le_of_ble_eq_true rfl⟩) (zpreV hK hw hS hA zZ.nil hN (List.range (mW ct h0 y rw14 q).length) mWn (zrange _) 11 0 rfl mWo) rfl rfl hl.1 rfl (lv_room (Nat.le_of_ble_eq_true rfl)) dX12_worked_254 ⟨Nat.le_of_ble_eq_true rfl, Nat.le_of_ble_eq_true rfl⟩) hw hS hA 257 rfl (fun u62 H locs pu62 hw hS => ?_)
                                have ju62 : mJ B u62 := pu62.1
                                have fu62 : zFr [19, 22, 15, 18, 20] rw14 u62 := pu62.2.1
                                have xu62 : u62 = (Gm_tests w14_2 rw14 q) := pu62.2.2.1
                                have hE := zletE xu62 hE
                                have hw : zPD D A (mW ct h0 y u62 q) H := hw
                                refine zfr 257 [] rfl rfl ?_
                                refine lv_aload_n hx hb dX12_worked_257 rfl (lv_at hl 2 rfl) ?_
                                refine mget (v := .ref (y 15)) hx hb hts hiX12 hown hK hw 26 (by decide) lf57 rfl rfl dX12_worked_258 ?_
                                refine lv_iload_n hx hb dX12_worked_261 rfl (lv_at hl 4 rfl) ?_
                                refine miald hx hb hK hw 16 mWg15 hw14_2 (by decide) dX12_worked_262 (zgenE (zI.top _) (fun v64 ev64 _ => ?_))
                                have hE := zletE ev64 hE
                                refine lv_istore (lv' := [(5, .int v64), (4, .int v22), (0, .ref h0), (1, .int 0), (2, .int w14_2), (3, .int w14_3)]) hx hb dX12_worked_263 hl (by decide) rfl (fun ls hl => ?_)
                                have k65 : zI 1 5 w14_2 := x14b.b1 (hok.2.1 c60)
                                refine lv_iinc (v := w14_2 + (-1)) (lv' := [(2, .int (w14_2 + (-1))), (5, .int v64), (4, .int v22), (0, .ref h0), (1, .int 0), (3, .int w14_3)]) hx hb dX12_worked_265 hl (k := 4) rfl (rfl) (by decide) rfl (fun ls hl => ?_)
                                have k66 : zI 0 4 (w14_2 + (-1)) := zI.add k65 (zI.lit (a := (-1)) (b := (-1)) (by decide)) (by decide)
                                exact cut268 6 (w14_2 + (-1)) v64 u62 (k66.w (c := 0) (d := 5) (by decide)) k20 ju62 (fw14.tr fu62 rfl) (fu62.at k21 rfl) (⟨_, (x14b.pop1 (hok.2.1 c60)).row (fu62 23 rfl), (hst.trans (mst_29 c60)).symm⟩) hE (zI.m1 k66 (by decide)) H locs ls hw hS (lv_sub hl [3, 4, 0, 5, 1] rfl)
                            · have hE := zifF c58 hE
                              have k67 : zI 0 19 (v22) := zI.ltU (zI.nle c58) k57 (zI.lit (a := 20) (b := 20) (c := 20) (by decide)) (by decide)
                              refine lv_aload_n hx hb dX12_worked_232 rfl (lv_at hl 1 rfl) ?_
                              refine mget (v := .ref (y 24)) hx hb hts hiX12 hown hK hw 35 (by decide) lf84 rfl rfl dX12_worked_233 ?_
                              refine lv_iload hx hb dX12_worked_236 (lv_at hl 0 rfl) ?_
                              refine miald hx hb hK hw 25 mWg24 k67 (by decide) dX12_worked_238 (zgenE (zI.top _) (fun v68 ev68 _ => ?_))
                              have hE := zletE ev68 hE
                              refine lv_goto (tgt := 243) hx hb dX12_worked_239 (by decide) ?_
                              refine lv_istore (lv' := [(5, .int v68), (4, .int v22), (0, .ref h0), (1, .int 0), (2, .int w14_2), (3, .int w14_3)]) hx hb dX12_worked_243 hl (by decide) rfl (fun ls hl => ?_)
                              refine lv_iload hx hb dX12_worked_245 (lv_at hl 1 rfl) ?_
                              refine lv_bipush (v := 29) hx hb dX12_worked_247 (by decide) ?_
                              refine lv_icmp_ne (tgt := 268) hx hb dX12_worked_249 (by decide) (fun c69 => ?_) (fun c69 => ?_)
                              · have hE := zifnT c69 hE
                                exact cut268 6 w14_2 v68 rw14 hw14_2 k20 jw14 fw14 k21 (⟨_, x14b.row rfl, (hst.trans (mst_v c24 c32 c33 c38 c39 c40 c49 c50 c55 c69)).symm⟩) hE (zI.m1 hw14_2 (by decide)) H locs ls hw hS (lv_sub hl [2, 3, 4, 5, 0] rfl)
                              · have hE := zifnF c69 hE
                                exact absurd (congrArg Int32.toInt c69) (by have := k67.2; have := (zI.lit (a := 29) (b := 29) (c := 29) (by decide)).1; omega)
                          · have hE := zifF c56 hE
                            have k70 : zI 100 2147483647 (v22) := zI.leD (zI.nlt c56) (zI.lit (a := 100) (b := 100) (c := 100) (by decide)) k23 (by decide)
                            refine lv_iload hx hb dX12_worked_217 (lv_at hl 0 rfl) ?_
                            refine lv_bipush (v := 100) hx hb dX12_worked_219 (by decide) ?_
                            refine lv_isub hx hb dX12_worked_221 (zgenE (lo := 0) (hi := 2147483547) (zI.sub k70 (zI.lit (a := 100) (b := 100) (c := 100) (by decide)) (by decide)) (fun v71 ev71 hv71 => ?_))
                            have hE := zletE ev71 hE
                            refine lv_goto (tgt := 243) hx hb dX12_worked_222 (by decide) ?_
                            refine lv_istore (lv' := [(5, .int v71), (4, .int v22), (0, .ref h0), (1, .int 0), (2, .int w14_2), (3, .int w14_3)]) hx hb dX12_worked_243 hl (by decide) rfl (fun ls hl => ?_)
                            refine lv_iload hx hb dX12_worked_245 (lv_at hl 1 rfl) ?_
                            refine lv_bipush (v := 29) hx hb dX12_worked_247 (by decide) ?_
                            refine lv_icmp_ne (tgt := 268) hx hb dX12_worked_249 (by decide) (fun c72 => ?_) (fun c72 => ?_)
                            · have hE := zifnT c72 hE
                              exact cut268 6 w14_2 v71 rw14 hw14_2 k20 jw14 fw14 k21 (⟨_, x14b.row rfl, (hst.trans (mst_v c24 c32 c33 c38 c39 c40 c49 c50 c55 c72)).symm⟩) hE (zI.m1 hw14_2 (by decide)) H locs ls hw hS (lv_sub hl [2, 3, 4, 5, 0] rfl)
                            · have hE := zifnF c72 hE
                              exact absurd (congrArg Int32.toInt c72) (by have := k70.1; have := (zI.lit (a := 29) (b := 29) (c := 29) (by decide)).2; omega)
                        · have hE := zifnF c55 hE
                          have k73 : zI 27 27 (v22) := zI.eqq c55 (zI.lit (a := 27) (b := 27) (c := 27) (by decide))
                          refine lv_aload_n hx hb dX12_worked_194 rfl (lv_at hl 1 rfl) ?_
                          refine lv_iload_n hx hb dX12_worked_195 rfl (lv_at hl 3 rfl) ?_
                          refine zcallW (va_runV (As := [.int w14_2]) (rest := []) ⟨hx, hb, hml, hown, hts⟩ (mc_tests l D ct h0 y B w14_2 rw14 q hw14_2 jw14 H.size) (cwV 1 hts (kgV (zr34 23 rfl) (zr35 0 rfl) (zr35 1 rfl) (zr1 5 rfl) (zr35 2 rfl)) rfl rfl rfl (by decide +kernel) ⟨Nat.le_of_ble_eq_true rfl, Nat.le_of_ble_eq_true rfl⟩) (zpreV hK hw hS hA zZ.nil hN (List.range (mW ct h0 y rw14 q).length) mWn (zrange _) 11 0 rfl mWo) rfl rfl hl.1 rfl (lv_room (Nat.le_of_ble_eq_true rfl)) dX12_worked_196 ⟨Nat.le_of_ble_eq_true rfl, Nat.le_of_ble_eq_true rfl⟩) hw hS hA 199 rfl (fun u74 H locs pu74 hw hS => ?_)
                          have ju74 : mJ B u74 := pu74.1
                          have fu74 : zFr [19, 22, 15, 18, 20] rw14 u74 := pu74.2.1
                          have xu74 : u74 = (Gm_tests w14_2 rw14 q) := pu74.2.2.1
                          have hE := zletE xu74 hE
                          have hw : zPD D A (mW ct h0 y u74 q) H := hw
                          refine zfr 199 [] rfl rfl ?_
                          refine lv_aload_n hx hb dX12_worked_199 rfl (lv_at hl 1 rfl) ?_
                          refine mget (v := .ref (y 16)) hx hb hts hiX12 hown hK hw 27 (by decide) lf60 rfl rfl dX12_worked_200 ?_
                          refine lv_iload_n hx hb dX12_worked_203 rfl (lv_at hl 3 rfl) ?_
                          refine lv_iload hx hb dX12_worked_204 (lv_at hl 0 rfl) ?_
                          refine miast hx hb hK hw hS 17 mWg16 hw14_2 (by decide) dX12_worked_206 (mW ct h0 y (zset u74 16 (upd (u74 16) (zn w14_2) v22)) q) mWs16 (fun H locs hw hS => ?_)
                          refine mgen (P := fun x => mJ B x ∧ zFr [15, 16, 17, 18, 19, 20, 21, 22, 23] r x) hw ⟨ju74.set rfl (zI.top _), (fw14.tr fu74 rfl).set rfl⟩ (fun r76 er76 hw pr76 => ?_)
                          have hE := zletE er76 hE
                          refine lv_goto (tgt := 329) hx hb dX12_worked_207 (by decide) ?_
                          exact cut329 w14_2 r76 hw14_2 k20 pr76.1 pr76.2 (zs_at er76 (fu74.at k21 rfl) (by decide)) ((x14b.to (hst.trans (mst_k (Or.inr (Or.inr (Or.inr (Or.inr (Or.inr (Or.inr c55))))))))).row ((zs_row (k := 23) er76 (by decide)).trans (fu74 23 rfl))) hE H locs ls hw hS (lv_sub hl [1, 2, 3, 4] rfl)
                    · have hE := zifnF c49 hE
                      have k77 : zI 25 25 (v22) := zI.eqq c49 (zI.lit (a := 25) (b := 25) (c := 25) (by decide))
                      refine lv_aload_n hx hb dX12_worked_137 rfl (lv_at hl 1 rfl) ?_
                      refine lv_iload_n hx hb dX12_worked_138 rfl (lv_at hl 3 rfl) ?_
                      refine zcallW (va_runV (As := [.int w14_2]) (rest := []) ⟨hx, hb, hml, hown, hts⟩ (mc_sums l D ct h0 y B w14_2 rw14 q hw14_2 jw14 H.size) (cwV 1 hts (kgV (zr34 19 rfl) (zr34 20 rfl) (zr34 21 rfl) (zr1 5 rfl) (zr34 22 rfl)) rfl rfl rfl (by decide +kernel) ⟨Nat.le_of_ble_eq_true rfl, Nat.le_of_ble_eq_true rfl⟩) (zpreV hK hw hS hA zZ.nil hN (List.range (mW ct h0 y rw14 q).length) mWn (zrange _) 11 0 rfl mWo) rfl rfl hl.1 rfl (lv_room (Nat.le_of_ble_eq_true rfl)) dX12_worked_139 ⟨Nat.le_of_ble_eq_true rfl, Nat.le_of_ble_eq_true rfl⟩) hw hS hA 142 rfl (fun u78 H locs pu78 hw hS => ?_)
                      have ju78 : mJ B u78 := pu78.1
                      have fu78 : zFr [19, 22] rw14 u78 := pu78.2.1
                      have xu78 : u78 = (Gm_sums w14_2 rw14 q) := pu78.2.2.1
                      have hE := zletE xu78 hE
                      have hw : zPD D A (mW ct h0 y u78 q) H := hw
                      refine zfr 142 [] rfl rfl ?_
                      refine lv_aload_n hx hb dX12_worked_142 rfl (lv_at hl 1 rfl) ?_
                      refine mget (v := .ref (y 17)) hx hb hts hiX12 hown hK hw 28 (by decide) lf63 rfl rfl dX12_worked_143 ?_
                      refine lv_iload_n hx hb dX12_worked_146 rfl (lv_at hl 3 rfl) ?_
                      refine lv_aload_n hx hb dX12_worked_147 rfl (lv_at hl 1 rfl) ?_
                      refine mget (v := .ref (y 19)) hx hb hts hiX12 hown hK hw 30 (by decide) lf69 rfl rfl dX12_worked_148 ?_
                      refine lv_iload_n hx hb dX12_worked_151 rfl (lv_at hl 3 rfl) ?_
                      refine miald hx hb hK hw 20 mWg19 hw14_2 (by decide) dX12_worked_152 (zgenE (zI.top _) (fun v80 ev80 _ => ?_))
                      have hE := zletE ev80 hE
                      refine miast hx hb hK hw hS 18 mWg17 hw14_2 (by decide) dX12_worked_153 (mW ct h0 y (zset u78 17 (upd (u78 17) (zn w14_2) v80)) q) mWs17 (fun H locs hw hS => ?_)
                      refine mgen (P := fun x => mJ B x ∧ zFr [15, 16, 17, 18, 19, 20, 21, 22, 23] r x) hw ⟨ju78.set rfl (zI.top _), (fw14.tr fu78 rfl).set rfl⟩ (fun r81 er81 hw pr81 => ?_)
                      have hE := zletE er81 hE
                      refine lv_aload_n hx hb dX12_worked_154 rfl (lv_at hl 1 rfl) ?_
                      refine mget (v := .ref (y 18)) hx hb hts hiX12 hown hK hw 29 (by decide) lf66 rfl rfl dX12_worked_155 ?_
                      refine lv_iload_n hx hb dX12_worked_158 rfl (lv_at hl 3 rfl) ?_
                      refine lv_iload hx hb dX12_worked_159 (lv_at hl 0 rfl) ?_
                      refine miast hx hb hK hw hS 19 mWg18 hw14_2 (by decide) dX12_worked_161 (mW ct h0 y (zset r81 18 (upd (r81 18) (zn w14_2) v22)) q) mWs18 (fun H locs hw hS => ?_)
                      refine mgen (P := fun x => mJ B x ∧ zFr [15, 16, 17, 18, 19, 20, 21, 22, 23] r x) hw ⟨pr81.1.set rfl (zI.top _), pr81.2.set rfl⟩ (fun r82 er82 hw pr82 => ?_)
                      have hE := zletE er82 hE
                      refine lv_aload_n hx hb dX12_worked_162 rfl (lv_at hl 1 rfl) ?_
                      refine mget (v := .ref (y 19)) hx hb hts hiX12 hown hK hw 30 (by decide) lf69 rfl rfl dX12_worked_163 ?_
                      refine lv_iload_n hx hb dX12_worked_166 rfl (lv_at hl 3 rfl) ?_
                      refine lv_iconst (v := 0) hx hb dX12_worked_167 (by decide) ?_
                      refine miast hx hb hK hw hS 20 mWg19 hw14_2 (by decide) dX12_worked_168 (mW ct h0 y (zset r82 19 (upd (r82 19) (zn w14_2) (0 : Int32))) q) mWs19 (fun H locs hw hS => ?_)
                      refine mgen (P := fun x => mJ B x ∧ zFr [15, 16, 17, 18, 19, 20, 21, 22, 23] r x) hw ⟨pr82.1.set rfl (zI.top _), pr82.2.set rfl⟩ (fun r83 er83 hw pr83 => ?_)
                      have hE := zletE er83 hE
                      refine lv_aload_n hx hb dX12_worked_169 rfl (lv_at hl 1 rfl) ?_
                      refine mget (v := .ref (y 20)) hx hb hts hiX12 hown hK hw 31 (by decide) lf72 rfl rfl dX12_worked_170 ?_
                      refine lv_iload_n hx hb dX12_worked_173 rfl (lv_at hl 3 rfl) ?_
                      refine lv_bipush (v := 20) hx hb dX12_worked_174 (by decide) ?_
                      refine miast hx hb hK hw hS 21 mWg20 hw14_2 (by decide) dX12_worked_176 (mW ct h0 y (zset r83 20 (upd (r83 20) (zn w14_2) (20 : Int32))) q) mWs20 (fun H locs hw hS => ?_)
                      refine mgen (P := fun x => mJ B x ∧ zFr [15, 16, 17, 18, 19, 20, 21, 22, 23] r x) hw ⟨pr83.1.set rfl (zI.top _), pr83.2.set rfl⟩ (fun r84 er84 hw pr84 => ?_)
                      have hE := zletE er84 hE
                      refine lv_goto (tgt := 329) hx hb dX12_worked_177 (by decide) ?_
                      exact cut329 w14_2 r84 hw14_2 k20 pr84.1 pr84.2 (zs_at er84 (zs_at er83 (zs_at er82 (zs_at er81 (fu78.at k21 rfl) (by decide)) (by decide)) (by decide)) (by decide)) ((x14b.to (hst.trans (mst_k (Or.inr (Or.inr (Or.inr (Or.inr (Or.inl c49)))))))).row ((zs_row (k := 23) er84 (by decide)).trans ((zs_row (k := 23) er83 (by decide)).trans ((zs_row (k := 23) er82 (by decide)).trans ((zs_row (k := 23) er81 (by decide)).trans (fu78 23 rfl)))))) hE H locs ls hw hS (lv_sub hl [1, 2, 3, 4] rfl)
                · have hE := zifnF c39 hE
                  have k85 : zI 22 22 (v22) := zI.eqq c39 (zI.lit (a := 22) (b := 22) (c := 22) (by decide))
                  refine lv_aload_n hx hb dX12_worked_112 rfl (lv_at hl 1 rfl) ?_
                  refine mget (v := .ref (y 22)) hx hb hts hiX12 hown hK hw 33 (by decide) lf78 rfl rfl dX12_worked_113 ?_
                  refine lv_iload_n hx hb dX12_worked_116 rfl (lv_at hl 3 rfl) ?_
                  refine lv_iload hx hb dX12_worked_117 (lv_at hl 0 rfl) ?_
                  refine miast hx hb hK hw hS 23 mWg22 hw14_2 (by decide) dX12_worked_119 (mW ct h0 y (zset rw14 22 (upd (rw14 22) (zn w14_2) v22)) q) mWs22 (fun H locs hw hS => ?_)
                  refine mgen (P := fun x => mJ B x ∧ zFr [15, 16, 17, 18, 19, 20, 21, 22, 23] r x) hw ⟨jw14.set rfl (zI.top _), fw14.set rfl⟩ (fun r86 er86 hw pr86 => ?_)
                  have hE := zletE er86 hE
                  refine lv_goto (tgt := 329) hx hb dX12_worked_120 (by decide) ?_
                  exact cut329 w14_2 r86 hw14_2 k20 pr86.1 pr86.2 (zs_at er86 k21 (by decide)) ((x14b.to (hst.trans (mst_k (Or.inr (Or.inr (Or.inl c39)))))).row (zs_row (k := 23) er86 (by decide))) hE H locs ls hw hS (lv_sub hl [1, 2, 3, 4] rfl)
              · have hE := zifnF c38 hE
                have k87 : zI 21 21 (v22) := zI.eqq c38 (zI.lit (a := 21) (b := 21) (c := 21) (by decide))
                refine lv_aload_n hx hb dX12_worked_89 rfl (lv_at hl 1 rfl) ?_
                refine lv_iload_n hx hb dX12_worked_90 rfl (lv_at hl 3 rfl) ?_
                refine zcallW (va_runV (As := [.int w14_2]) (rest := []) ⟨hx, hb, hml, hown, hts⟩ (mc_sums l D ct h0 y B w14_2 rw14 q hw14_2 jw14 H.size) (cwV 1 hts (kgV (zr34 19 rfl) (zr34 20 rfl) (zr34 21 rfl) (zr1 5 rfl) (zr34 22 rfl)) rfl rfl rfl (by decide +kernel) ⟨Nat.le_of_ble_eq_true rfl, Nat.le_of_ble_eq_true rfl⟩) (zpreV hK hw hS hA zZ.nil hN (List.range (mW ct h0 y rw14 q).length) mWn (zrange _) 11 0 rfl mWo) rfl rfl hl.1 rfl (lv_room (Nat.le_of_ble_eq_true rfl)) dX12_worked_91 ⟨Nat.le_of_ble_eq_true rfl, Nat.le_of_ble_eq_true rfl⟩) hw hS hA 94 rfl (fun u88 H locs pu88 hw hS => ?_)
                have ju88 : mJ B u88 := pu88.1
                have fu88 : zFr [19, 22] rw14 u88 := pu88.2.1
                have xu88 : u88 = (Gm_sums w14_2 rw14 q) := pu88.2.2.1
                have hE := zletE xu88 hE
                have hw : zPD D A (mW ct h0 y u88 q) H := hw
                refine zfr 94 [] rfl rfl ?_
                refine lv_aload_n hx hb dX12_worked_94 rfl (lv_at hl 1 rfl) ?_
                refine mget (v := .ref (y 20)) hx hb hts hiX12 hown hK hw 31 (by decide) lf72 rfl rfl dX12_worked_95 ?_
                refine lv_iload_n hx hb dX12_worked_98 rfl (lv_at hl 3 rfl) ?_
                refine lv_iload hx hb dX12_worked_99 (lv_at hl 0 rfl) ?_
                refine miast hx hb hK hw hS 21 mWg20 hw14_2 (by decide) dX12_worked_101 (mW ct h0 y (zset u88 20 (upd (u88 20) (zn w14_2) v22)) q) mWs20 (fun H locs hw hS => ?_)
                refine mgen (P := fun x => mJ B x ∧ zFr [15, 16, 17, 18, 19, 20, 21, 22, 23] r x) hw ⟨ju88.set rfl (zI.top _), (fw14.tr fu88 rfl).set rfl⟩ (fun r90 er90 hw pr90 => ?_)
                have hE := zletE er90 hE
                refine lv_goto (tgt := 329) hx hb dX12_worked_102 (by decide) ?_
                exact cut329 w14_2 r90 hw14_2 k20 pr90.1 pr90.2 (zs_at er90 (fu88.at k21 rfl) (by decide)) ((x14b.to (hst.trans (mst_k (Or.inr (Or.inl c38))))).row ((zs_row (k := 23) er90 (by decide)).trans (fu88 23 rfl))) hE H locs ls hw hS (lv_sub hl [1, 2, 3, 4] rfl)
          · have hE := zifnF c32 hE
            have k91 : zI 30 30 (v22) := zI.eqq c32 (zI.lit (a := 30) (b := 30) (c := 30) (by decide))
            have k92 : zI 0 4 w14_2 := x14b.b4 (hok.1 (Or.inr c32))
            refine lv_iinc (v := w14_2 + 1) (lv' := [(2, .int (w14_2 + 1)), (4, .int v22), (0, .ref h0), (1, .int 0), (3, .int w14_3)]) hx hb dX12_worked_46 hl (k := 3) rfl (rfl) (by decide) rfl (fun ls hl => ?_)
            have k93 : zI 1 5 (w14_2 + 1) := zI.add k92 (zI.lit (a := 1) (b := 1) (by decide)) (by decide)
            refine lv_aload_n hx hb dX12_worked_49 rfl (lv_at hl 2 rfl) ?_
            refine mget (v := .ref (y 23)) hx hb hts hiX12 hown hK hw 34 (by decide) lf81 rfl rfl dX12_worked_50 ?_
            refine lv_iload_n hx hb dX12_worked_53 rfl (lv_at hl 0 rfl) ?_
            refine lv_iload hx hb dX12_worked_54 (lv_at hl 1 rfl) ?_
            refine lv_bipush (v := 30) hx hb dX12_worked_56 (by decide) ?_
            refine lv_icmp_ne (tgt := 65) hx hb dX12_worked_58 (by decide) (fun c94 => ?_) (fun c94 => ?_)
            · have hE := zifnT c94 hE
              exact zI.abs (a := 31) (b := 30) (zI.neD c94 k91 (zI.lit (a := 30) (b := 30) (c := 30) (by decide)) (by decide)) (by decide)
            · have hE := zifnF c94 hE
              refine lv_iconst (v := 1) hx hb dX12_worked_61 (by decide) ?_
              refine lv_goto (tgt := 66) hx hb dX12_worked_62 (by decide) ?_
              refine miast hx hb hK hw hS 24 mWg23 k93 (by decide) dX12_worked_66 (mW ct h0 y (zset rw14 23 (upd (rw14 23) (zn (w14_2 + 1)) (1 : Int32))) q) mWs23 (fun H locs hw hS => ?_)
              refine mgen (P := fun x => mJ B x ∧ zFr [15, 16, 17, 18, 19, 20, 21, 22, 23] r x) hw ⟨jw14.set rfl (zI.top _), fw14.set rfl⟩ (fun r95 er95 hw pr95 => ?_)
              have hE := zletE er95 hE
              refine lv_aload_n hx hb dX12_worked_67 rfl (lv_at hl 2 rfl) ?_
              refine lv_iload_n hx hb dX12_worked_68 rfl (lv_at hl 0 rfl) ?_
              refine zcallW (va_runV (As := [.int (w14_2 + 1)]) (rest := []) ⟨hx, hb, hml, hown, hts⟩ (mc_opens l D ct h0 y B (w14_2 + 1) r95 q (k93.w (c := 0) (d := 5) (by decide)) pr95.1 H.size) (cwV 1 hts (kgV (zr34 15 rfl) (zr34 16 rfl) (zr34 17 rfl) (zr1 5 rfl) (zr34 18 rfl)) rfl rfl rfl (by decide +kernel) ⟨Nat.le_of_ble_eq_true rfl, Nat.le_of_ble_eq_true rfl⟩) (zpreV hK hw hS hA zZ.nil hN (List.range (mW ct h0 y r95 q).length) mWn (zrange _) 11 0 rfl mWo) rfl rfl hl.1 rfl (lv_room (Nat.le_of_ble_eq_true rfl)) dX12_worked_69 ⟨Nat.le_of_ble_eq_true rfl, Nat.le_of_ble_eq_true rfl⟩) hw hS hA 72 rfl (fun u96 H locs pu96 hw hS => ?_)
              have ju96 : mJ B u96 := pu96.1
              have fu96 : zFr [16, 18, 19, 20, 22] r95 u96 := pu96.2.1
              have xu96 : u96 = (Gm_opens (w14_2 + 1) r95 q) := pu96.2.2.1
              have hE := zletE xu96 hE
              have hw : zPD D A (mW ct h0 y u96 q) H := hw
              refine zfr 72 [] rfl rfl ?_
              refine lv_goto (tgt := 329) hx hb dX12_worked_72 (by decide) ?_
              exact cut329 (w14_2 + 1) u96 (k93.w (c := 0) (d := 5) (by decide)) k20 ju96 (pr95.2.tr fu96 rfl) (fu96.at (zs_at er95 k21 (by decide)) rfl) (((x14b.push (v := 1) (x := true) (hok.1 (Or.inr c94)) (by decide)).to (hst.trans (mst_30 c94))).row ((fu96 23 rfl).trans (zs_self er95))) hE H locs ls hw hS (lv_sub hl [2, 3, 0, 4] rfl)
  intro H locs hw hS ls hl
  have hl : lv_has ls 6 [(0, .ref h0), (1, .int 0)] := hl
  have hE := hX
  unfold Gm_worked at hE
  refine lv_iconst (v := 0) hx hb dX12_worked_0 (by decide) ?_
  refine lv_istore_n (lv' := [(2, .int 0), (0, .ref h0), (1, .int 0)]) hx hb dX12_worked_1 rfl hl (by decide) rfl (fun ls hl => ?_)
  refine lv_aload_n hx hb dX12_worked_2 rfl (lv_at hl 1 rfl) ?_
  refine lv_iconst (v := 0) hx hb dX12_worked_3 (by decide) ?_
  refine zcallW (va_runV (As := [.int 0]) (rest := []) ⟨hx, hb, hml, hown, hts⟩ (mc_opens l D ct h0 y B 0 r q ((zI.lit (a := 0) (b := 0) (c := 0) (by decide)).w (c := 0) (d := 5) (by decide)) hJ0 H.size) (cwV 1 hts (kgV (zr34 15 rfl) (zr34 16 rfl) (zr34 17 rfl) (zr1 5 rfl) (zr34 18 rfl)) rfl rfl rfl (by decide +kernel) ⟨Nat.le_of_ble_eq_true rfl, Nat.le_of_ble_eq_true rfl⟩) (zpreV hK hw hS hA zZ.nil hN (List.range (mW ct h0 y r q).length) mWn (zrange _) 11 0 rfl mWo) rfl rfl hl.1 rfl (lv_room (Nat.le_of_ble_eq_true rfl)) dX12_worked_4 ⟨Nat.le_of_ble_eq_true rfl, Nat.le_of_ble_eq_true rfl⟩) hw hS hA 7 rfl (fun u98 H locs pu98 hw hS => ?_)
  have ju98 : mJ B u98 := pu98.1
  have fu98 : zFr [16, 18, 19, 20, 22] r u98 := pu98.2.1
  have xu98 : u98 = (Gm_opens (0 : Int32) r q) := pu98.2.2.1
  have hE := zletE xu98 hE
  have hw : zPD D A (mW ct h0 y u98 q) H := hw
  refine zfr 7 [] rfl rfl ?_
  refine lv_aload_n hx hb dX12_worked_7 rfl (lv_at hl 1 rfl) ?_
  refine mget (v := .ref (y 10)) hx hb hts hiX12 hown hK hw 19 (by decide) lf41 rfl rfl dX12_worked_8 ?_
  refine lv_iload_n hx hb dX12_worked_11 rfl (lv_at hl 2 rfl) ?_
  refine ziald hx hb hK hw 11 mWg10 0 (by decide) (by decide) (by decide) dX12_worked_12 ?_
  refine lv_istore_n (lv' := [(3, .int (u98 10 0)), (2, .int 0), (0, .ref h0), (1, .int 0)]) hx hb dX12_worked_13 rfl hl (by decide) rfl (fun ls hl => ?_)
  exact cut14 1001 0 (u98 10 0) u98 ((zI.lit (a := 0) (b := 0) (c := 0) (by decide)).w (c := 0) (d := 5) (by decide)) (show zI 0 1000 (u98 10 0) from ju98.i 10 0) ju98 ((zFr.refl).tr fu98 rfl) (by rw [(fu98 10 rfl)]; exact Nat.le_refl _) (mG.nil.to (mgt_0 (congrArg zn (congrFun (fu98 10 rfl) 0)))) hE (zI.m0 (show zI 0 1000 (u98 10 0) from ju98.i 10 0) (by decide)) H locs ls hw hS (lv_sub hl [2, 3, 1, 0] rfl)
