noncomputable def Gm_readsBeard (a1 : Int32) (a2 : Int32) (a3 : Int32) (r : zRr) (q : zRq) : Int32 × zRr :=
  zlet (α := Int32) (r 11 0) <| fun v1 => zlet (α := Int32) (r 10 0) <| fun v2 => zifn (v1 = v2) (zlet (α := zRr) (zset r 24 (upd (r 24) 1 a1)) <| fun r4 => zlet (α := zRr) (zset r4 24 (upd (r4 24) 2 a2)) <| fun r5 => zlet (α := zRr) (zset r5 24 (upd (r5 24) 3 a3)) <| fun r6 => zlet (α := Int32) (r6 32 0) <| fun v7 => zlet (α := zRr) (zset r6 24 (upd (r6 24) 4 v7)) <| fun r8 => zc_vr (Gm_worked r8 q) <| fun v10 r11 => zif (v10 = (0 : Int32)) (((0 : Int32), r11)) (((1 : Int32), r11))) (zif (a1 < a3) (((0 : Int32), r)) (((1 : Int32), r)))
set_option maxHeartbeats 4000000 in
set_option maxRecDepth 100000 in
theorem mc_readsBeard (l : Launch) (D : va_G) (ct : Nat → ClassId) (h0 : Nat) (y : Nat → Nat) (B : Int) (a1 : Int32) (a2 : Int32) (a3 : Int32) (r : zRr) (q : zRq) (hJ0 : mJ B r) : zC l yX12_readsBeard (.code yX12_readsBeard cX12_readsBeard 4 (some .boolean) :: wsL_law0) ({ frames := 4, cells := 0, slots := 0, locals := 200 }) D ct [] [.ref h0, .int a1, .int a2, .int a3] (mW ct h0 y r q) (S := Int32 × zRr) (fun u => some (.int u.1)) (fun u => zI 0 1 u.1 ∧ mJ B u.2 ∧ zFr [15, 16, 17, 18, 19, 20, 21, 22, 23, 24] r u.2 ∧ u = (Gm_readsBeard a1 a2 a3 r q) ∧ True) (fun u => mW ct h0 y u.2 q) 0 0 := by
  refine zofQ cX12_readsBeard 4 (some .boolean) (by decide) rfl (Nat.le_of_ble_eq_true rfl) ?_
  intro p e s m below meth c A a9 Q ha9 hx hb hr hml hts hown hlocks hname hK hA hZ hN hQ
  have hown : s.vm.findClass RX12 = some m.cls := hown
  have hiX12 : ∀ w ∈ wsX120, w ∈ .code yX12_readsBeard cX12_readsBeard 4 (some .boolean) :: wsL_law0 := fun _ h => ki (zs_wsX120 _ h)
  have lf41 := hts (.fieldLink RX12 41 "BeardPassModel" "lineFrom" "[I") (ki (zr8 5 rfl))
  have lf44 := hts (.fieldLink RX12 44 "BeardPassModel" "lineTo" "[I") (ki (zr8 6 rfl))
  have lf84 := hts (.fieldLink RX12 84 "BeardPassModel" "valueOf" "[I") (ki (zr8 20 rfl))
  have lf108 := hts (.fieldLink RX12 108 "BeardPassModel" "s" "[I") (ki (zr9 4 rfl))
  obtain ⟨X, hX⟩ : ∃ X, X = (Gm_readsBeard a1 a2 a3 r q) := ⟨_, rfl⟩
  intro H locs hw hS ls hl
  have hl : lv_has ls 4 [(0, .ref h0), (1, .int a1), (2, .int a2), (3, .int a3)] := hl
  have hE := hX
  unfold Gm_readsBeard at hE
  refine lv_aload_n hx hb dX12_readsBeard_0 rfl (lv_at hl 0 rfl) ?_
  refine mget (v := .ref (y 11)) hx hb hts hiX12 hown hK hw 20 (by decide) lf44 rfl rfl dX12_readsBeard_1 ?_
  refine lv_iconst (v := 0) hx hb dX12_readsBeard_4 (by decide) ?_
  refine ziald hx hb hK hw 12 mWg11 0 (by decide) (by decide) (by decide) dX12_readsBeard_5 (zgenE (lo := 0) (hi := 1000) ((show zI 0 1000 (r 11 0) from hJ0.i 11 0)) (fun v1 ev1 hv1 => ?_))
  have hE := zletE ev1 hE
  refine lv_aload_n hx hb dX12_readsBeard_6 rfl (lv_at hl 0 rfl) ?_
  refine mget (v := .ref (y 10)) hx hb hts hiX12 hown hK hw 19 (by decide) lf41 rfl rfl dX12_readsBeard_7 ?_
  refine lv_iconst (v := 0) hx hb dX12_readsBeard_10 (by decide) ?_
  refine ziald hx hb hK hw 11 mWg10 0 (by decide) (by decide) (by decide) dX12_readsBeard_11 (zgenE (lo := 0) (hi := 1000) ((show zI 0 1000 (r 10 0) from hJ0.i 10 0)) (fun v2 ev2 hv2 => ?_))
  have hE := zletE ev2 hE
  refine lv_icmp_ne (tgt := 26) hx hb dX12_readsBeard_12 (by decide) (fun c3 => ?_) (fun c3 => ?_)
  · have hE := zifnT c3 hE
    refine lv_aload_n hx hb dX12_readsBeard_26 rfl (lv_at hl 0 rfl) ?_
    refine mget (v := .ref (y 24)) hx hb hts hiX12 hown hK hw 35 (by decide) lf84 rfl rfl dX12_readsBeard_27 ?_
    refine lv_iconst (v := 1) hx hb dX12_readsBeard_30 (by decide) ?_
    refine lv_iload_n hx hb dX12_readsBeard_31 rfl (lv_at hl 1 rfl) ?_
    refine ziast hx hb hK hw hS 25 mWg24 1 (by decide) (by decide) (by decide) dX12_readsBeard_32 (mW ct h0 y (zset r 24 (upd (r 24) 1 a1)) q) mWs24 (fun H locs hw hS => ?_)
    refine mgen (P := fun x => mJ B x ∧ zFr [15, 16, 17, 18, 19, 20, 21, 22, 23, 24] r x) hw ⟨hJ0.set rfl (zI.top _), (zFr.refl).set rfl⟩ (fun r4 er4 hw pr4 => ?_)
    have hE := zletE er4 hE
    refine lv_aload_n hx hb dX12_readsBeard_33 rfl (lv_at hl 0 rfl) ?_
    refine mget (v := .ref (y 24)) hx hb hts hiX12 hown hK hw 35 (by decide) lf84 rfl rfl dX12_readsBeard_34 ?_
    refine lv_iconst (v := 2) hx hb dX12_readsBeard_37 (by decide) ?_
    refine lv_iload_n hx hb dX12_readsBeard_38 rfl (lv_at hl 2 rfl) ?_
    refine ziast hx hb hK hw hS 25 mWg24 2 (by decide) (by decide) (by decide) dX12_readsBeard_39 (mW ct h0 y (zset r4 24 (upd (r4 24) 2 a2)) q) mWs24 (fun H locs hw hS => ?_)
    refine mgen (P := fun x => mJ B x ∧ zFr [15, 16, 17, 18, 19, 20, 21, 22, 23, 24] r x) hw ⟨pr4.1.set rfl (zI.top _), pr4.2.set rfl⟩ (fun r5 er5 hw pr5 => ?_)
    have hE := zletE er5 hE
    refine lv_aload_n hx hb dX12_readsBeard_40 rfl (lv_at hl 0 rfl) ?_
    refine mget (v := .ref (y 24)) hx hb hts hiX12 hown hK hw 35 (by decide) lf84 rfl rfl dX12_readsBeard_41 ?_
    refine lv_iconst (v := 3) hx hb dX12_readsBeard_44 (by decide) ?_
    refine lv_iload_n hx hb dX12_readsBeard_45 rfl (lv_at hl 3 rfl) ?_
    refine ziast hx hb hK hw hS 25 mWg24 3 (by decide) (by decide) (by decide) dX12_readsBeard_46 (mW ct h0 y (zset r5 24 (upd (r5 24) 3 a3)) q) mWs24 (fun H locs hw hS => ?_)
    refine mgen (P := fun x => mJ B x ∧ zFr [15, 16, 17, 18, 19, 20, 21, 22, 23, 24] r x) hw ⟨pr5.1.set rfl (zI.top _), pr5.2.set rfl⟩ (fun r6 er6 hw pr6 => ?_)
    have hE := zletE er6 hE
    refine lv_aload_n hx hb dX12_readsBeard_47 rfl (lv_at hl 0 rfl) ?_
    refine mget (v := .ref (y 24)) hx hb hts hiX12 hown hK hw 35 (by decide) lf84 rfl rfl dX12_readsBeard_48 ?_
    refine lv_iconst (v := 4) hx hb dX12_readsBeard_51 (by decide) ?_
    refine lv_aload_n hx hb dX12_readsBeard_52 rfl (lv_at hl 0 rfl) ?_
    refine mget (v := .ref (y 32)) hx hb hts hiX12 hown hK hw 45 (by decide) lf108 rfl rfl dX12_readsBeard_53 ?_
    refine lv_iconst (v := 0) hx hb dX12_readsBeard_56 (by decide) ?_
    refine ziald hx hb hK hw 33 mWg32 0 (by decide) (by decide) (by decide) dX12_readsBeard_57 (zgenE (zI.top _) (fun v7 ev7 _ => ?_))
    have hE := zletE ev7 hE
    refine ziast hx hb hK hw hS 25 mWg24 4 (by decide) (by decide) (by decide) dX12_readsBeard_58 (mW ct h0 y (zset r6 24 (upd (r6 24) 4 v7)) q) mWs24 (fun H locs hw hS => ?_)
    refine mgen (P := fun x => mJ B x ∧ zFr [15, 16, 17, 18, 19, 20, 21, 22, 23, 24] r x) hw ⟨pr6.1.set rfl (zI.top _), pr6.2.set rfl⟩ (fun r8 er8 hw pr8 => ?_)
    have hE := zletE er8 hE
    refine lv_aload_n hx hb dX12_readsBeard_59 rfl (lv_at hl 0 rfl) ?_
    refine lv_iconst (v := 0) hx hb dX12_readsBeard_60 (by decide) ?_
    refine zcallW (va_runV (As := [.int 0]) (rest := []) ⟨hx, hb, hml, hown, hts⟩ (mc_worked l D ct h0 y B r8 q pr8.1 H.size) (cwV 1 hts (kgV (zr34 11 rfl) (zr34 12 rfl) (zr34 13 rfl) (zr1 5 rfl) (zr34 14 rfl)) rfl rfl rfl (by decide +kernel) ⟨Nat.le_of_ble_eq_true rfl, Nat.le_of_ble_eq_true rfl⟩) (zpreV hK hw hS hA zZ.nil hN (List.range (mW ct h0 y r8 q).length) mWn (zrange _) 11 0 rfl mWo) rfl rfl hl.1 rfl (lv_room (Nat.le_of_ble_eq_true rfl)) dX12_readsBeard_61 ⟨Nat.le_of_ble_eq_true rfl, Nat.le_of_ble_eq_true rfl⟩) hw hS hA 64 rfl (fun u9 H locs pu9 hw hS => ?_)
    obtain ⟨v10, r11⟩ := u9
    have hv10 : zI (-2147483648) 2147483647 v10 := pu9.1
    have ju9 : mJ B r11 := pu9.2.1
    have fu9 : zFr [15, 16, 17, 18, 19, 20, 21, 22, 23] r8 r11 := pu9.2.2.1
    have xu9 : (v10, r11) = (Gm_worked r8 q) := pu9.2.2.2.1
    have hE := zc_vrE xu9 hE
    have hw : zPD D A (mW ct h0 y r11 q) H := hw
    refine zfr 64 [.int v10] rfl rfl ?_
    refine lv_if_eq (tgt := 71) hx hb dX12_readsBeard_64 (by decide) (fun c12 => ?_) (fun c12 => ?_)
    · have hE := zifT c12 hE
      have k13 : zI 0 0 (v10) := zI.eqq c12 (zI.lit (a := 0) (b := 0) (c := 0) (by decide))
      refine lv_iconst (v := 0) hx hb dX12_readsBeard_71 (by decide) ?_
      exact ziretQ hQ hx hb hr rfl hlocks (0, r11) rfl ⟨((zI.lit (a := 0) (b := 0) (c := 0) (by decide)).w (c := 0) (d := 1) (by decide)), ju9, (pr8.2.tr fu9 rfl), (hE.symm.trans hX), trivial⟩ hw hS dX12_readsBeard_72
    · have hE := zifF c12 hE
      refine lv_iconst (v := 1) hx hb dX12_readsBeard_67 (by decide) ?_
      refine lv_goto (tgt := 72) hx hb dX12_readsBeard_68 (by decide) ?_
      exact ziretQ hQ hx hb hr rfl hlocks (1, r11) rfl ⟨((zI.lit (a := 1) (b := 1) (c := 1) (by decide)).w (c := 0) (d := 1) (by decide)), ju9, (pr8.2.tr fu9 rfl), (hE.symm.trans hX), trivial⟩ hw hS dX12_readsBeard_72
  · have hE := zifnF c3 hE
    refine lv_iload_n hx hb dX12_readsBeard_15 rfl (lv_at hl 1 rfl) ?_
    refine lv_iload_n hx hb dX12_readsBeard_16 rfl (lv_at hl 3 rfl) ?_
    refine lv_icmp_lt (tgt := 24) hx hb dX12_readsBeard_17 (by decide) (fun c14 => ?_) (fun c14 => ?_)
    · have hE := zifT c14 hE
      refine lv_iconst (v := 0) hx hb dX12_readsBeard_24 (by decide) ?_
      exact ziretQ hQ hx hb hr rfl hlocks (0, r) rfl ⟨((zI.lit (a := 0) (b := 0) (c := 0) (by decide)).w (c := 0) (d := 1) (by decide)), hJ0, (zFr.refl), (hE.symm.trans hX), trivial⟩ hw hS dX12_readsBeard_25
    · have hE := zifF c14 hE
      refine lv_iconst (v := 1) hx hb dX12_readsBeard_20 (by decide) ?_
      refine lv_goto (tgt := 25) hx hb dX12_readsBeard_21 (by decide) ?_
      exact ziretQ hQ hx hb hr rfl hlocks (1, r) rfl ⟨((zI.lit (a := 1) (b := 1) (c := 1) (by decide)).w (c := 0) (d := 1) (by decide)), hJ0, (zFr.refl), (hE.symm.trans hX), trivial⟩ hw hS dX12_readsBeard_25

noncomputable def Gm_letsHim_70 (r : zRr) (q : zRq) (w70_s0 : Int32) (w70_s1 : Int32) (w70_s2 : Int32) : Int32 × zRr :=
  zc_vr (Gm_readsBeard w70_s2 w70_s1 w70_s0 r q) <| fun v2 r3 => (v2, r3)
noncomputable def Gm_letsHim (a1 : Int32) (a2 : Int32) (r : zRr) (q : zRq) : Int32 × zRr :=
  zlet (α := Int32) (r 6 (zn a2)) <| fun v4 => zifn (v4 = (2 : Int32)) (zlet (α := Int32) (r 4 (zn a1)) <| fun v6 => zlet (α := Int32) (r 152 0) <| fun v7 => zlet (α := Int32) (v6 + v7) <| fun v8 => zlet (α := Int32) (7 + a2) <| fun v9 => zlet (α := Int32) (r 32 (zn v9)) <| fun v10 => zlet (α := Int32) (13 + a2) <| fun v11 => zlet (α := Int32) (r 32 (zn v11)) <| fun v12 => zlet (α := Int32) (v10 + v12) <| fun v13 => zlet (α := Int32) (13 + a2) <| fun v14 => zlet (α := Int32) (r 32 (zn v14)) <| fun v15 => zlet (α := Int32) (r 6 (zn a2)) <| fun v16 => zifn (v16 = (3 : Int32)) (Gm_letsHim_70 r q v8 v15 v13) (zlet (α := Int32) (v8 / 2) <| fun v19 => Gm_letsHim_70 r q v19 v15 v13)) (((1 : Int32), r))
set_option maxHeartbeats 4000000 in
set_option maxRecDepth 100000 in
theorem mc_letsHim (l : Launch) (D : va_G) (ct : Nat → ClassId) (h0 : Nat) (y : Nat → Nat) (B : Int) (a1 : Int32) (a2 : Int32) (r : zRr) (q : zRq) (g1 : zI 0 5 a1) (g2 : zI 0 5 a2) (hJ0 : mJ B r) : zC l yX12_letsHim (.code yX12_letsHim cX12_letsHim 4 (some .boolean) :: wsL_law0) ({ frames := 5, cells := 0, slots := 0, locals := 240 }) D ct [] [.ref h0, .int a1, .int a2] (mW ct h0 y r q) (S := Int32 × zRr) (fun u => some (.int u.1)) (fun u => zI 0 1 u.1 ∧ mJ B u.2 ∧ zFr [15, 16, 17, 18, 19, 20, 21, 22, 23, 24] r u.2 ∧ u = (Gm_letsHim a1 a2 r q) ∧ True) (fun u => mW ct h0 y u.2 q) 0 0 := by
  refine zofQ cX12_letsHim 4 (some .boolean) (by decide) rfl (Nat.le_of_ble_eq_true rfl) ?_
  intro p e s m below meth c A a9 Q ha9 hx hb hr hml hts hown hlocks hname hK hA hZ hN hQ
  have hown : s.vm.findClass RX12 = some m.cls := hown
  have hiX12 : ∀ w ∈ wsX120, w ∈ .code yX12_letsHim cX12_letsHim 4 (some .boolean) :: wsL_law0 := fun _ h => ki (zs_wsX120 _ h)
  have lf23 := hts (.fieldLink RX12 23 "BeardPassModel" "asks" "[I") (ki (zr7 23 rfl))
  have lf29 := hts (.fieldLink RX12 29 "BeardPassModel" "kind" "[I") (ki (zr8 1 rfl))
  have lf108 := hts (.fieldLink RX12 108 "BeardPassModel" "s" "[I") (ki (zr9 4 rfl))
  have lf349 := hts (.fieldLink RX12 349 "BeardPassModel" "moreAsked" "I") (ki (zr34 6 rfl))
  obtain ⟨X, hX⟩ : ∃ X, X = (Gm_letsHim a1 a2 r q) := ⟨_, rfl⟩
  have cut70 : ∀ (w70_s0 : Int32) (w70_s1 : Int32) (w70_s2 : Int32) (hw70_s1 : zI 0 41 w70_s1) (hE : X = Gm_letsHim_70 r q w70_s0 w70_s1 w70_s2), zKf p l e ({ frames := 5, cells := 0, slots := 0, locals := 240 }) s m a9 below meth c Q D A 70 4 [.int w70_s0, .int w70_s1, .int w70_s2, .ref h0] (mW ct h0 y r q) [] := by
    intro w70_s0 w70_s1 w70_s2 hw70_s1 hE H locs ls hw hS hl
    unfold Gm_letsHim_70 at hE
    refine zcallW (va_runV (As := [.int w70_s2, .int w70_s1, .int w70_s0]) (rest := []) ⟨hx, hb, hml, hown, hts⟩ (mc_readsBeard l D ct h0 y B w70_s2 w70_s1 w70_s0 r q hJ0 H.size) (cwV 3 hts (kgV (zr34 7 rfl) (zr34 8 rfl) (zr34 9 rfl) (zr1 5 rfl) (zr34 10 rfl)) rfl rfl rfl (by decide +kernel) ⟨Nat.le_of_ble_eq_true rfl, Nat.le_of_ble_eq_true rfl⟩) (zpreV hK hw hS hA zZ.nil hN (List.range (mW ct h0 y r q).length) mWn (zrange _) 11 0 rfl mWo) rfl rfl hl.1 rfl (lv_room (Nat.le_of_ble_eq_true rfl)) dX12_letsHim_70 ⟨Nat.le_of_ble_eq_true rfl, Nat.le_of_ble_eq_true rfl⟩) hw hS hA 73 rfl (fun u1 H locs pu1 hw hS => ?_)
    obtain ⟨v2, r3⟩ := u1
    have hv2 : zI 0 1 v2 := pu1.1
    have ju1 : mJ B r3 := pu1.2.1
    have fu1 : zFr [15, 16, 17, 18, 19, 20, 21, 22, 23, 24] r r3 := pu1.2.2.1
    have xu1 : (v2, r3) = (Gm_readsBeard w70_s2 w70_s1 w70_s0 r q) := pu1.2.2.2.1
    have hE := zc_vrE xu1 hE
    have hw : zPD D A (mW ct h0 y r3 q) H := hw
    refine zfr 73 [.int v2] rfl rfl ?_
    exact ziretQ hQ hx hb hr (hv2.rn) hlocks (v2, r3) rfl ⟨hv2, ju1, ((zFr.refl).tr fu1 rfl), (hE.symm.trans hX), trivial⟩ hw hS dX12_letsHim_73
  intro H locs hw hS ls hl
  have hl : lv_has ls 4 [(0, .ref h0), (1, .int a1), (2, .int a2)] := hl
  have hE := hX
  unfold Gm_letsHim at hE
  refine lv_aload_n hx hb dX12_letsHim_0 rfl (lv_at hl 0 rfl) ?_
  refine mget (v := .ref (y 6)) hx hb hts hiX12 hown hK hw 15 (by decide) lf29 rfl rfl dX12_letsHim_1 ?_
  refine lv_iload_n hx hb dX12_letsHim_4 rfl (lv_at hl 2 rfl) ?_
  refine miald hx hb hK hw 7 mWg6 g2 (by decide) dX12_letsHim_5 (zgenE (zI.top _) (fun v4 ev4 _ => ?_))
  have hE := zletE ev4 hE
  refine lv_iconst (v := 2) hx hb dX12_letsHim_6 (by decide) ?_
  refine lv_icmp_ne (tgt := 12) hx hb dX12_letsHim_7 (by decide) (fun c5 => ?_) (fun c5 => ?_)
  · have hE := zifnT c5 hE
    refine lv_aload_n hx hb dX12_letsHim_12 rfl (lv_at hl 0 rfl) ?_
    refine mget (v := .ref (y 4)) hx hb hts hiX12 hown hK hw 13 (by decide) lf23 rfl rfl dX12_letsHim_13 ?_
    refine lv_iload_n hx hb dX12_letsHim_16 rfl (lv_at hl 1 rfl) ?_
    refine miald hx hb hK hw 5 mWg4 g1 (by decide) dX12_letsHim_17 (zgenE (zI.top _) (fun v6 ev6 _ => ?_))
    have hE := zletE ev6 hE
    refine lv_aload_n hx hb dX12_letsHim_18 rfl (lv_at hl 0 rfl) ?_
    refine mget (v := .int (r 152 0)) hx hb hts hiX12 hown hK hw 52 (by decide) lf349 rfl rfl dX12_letsHim_19 (zgenE (zI.top _) (fun v7 ev7 _ => ?_))
    have hE := zletE ev7 hE
    refine lv_iadd hx hb dX12_letsHim_22 (zgenE (zI.top _) (fun v8 ev8 _ => ?_))
    have hE := zletE ev8 hE
    refine lv_istore_n (lv' := [(3, .int v8), (0, .ref h0), (1, .int a1), (2, .int a2)]) hx hb dX12_letsHim_23 rfl hl (by decide) rfl (fun ls hl => ?_)
    refine lv_aload_n hx hb dX12_letsHim_24 rfl (lv_at hl 1 rfl) ?_
    refine lv_aload_n hx hb dX12_letsHim_25 rfl (lv_at hl 1 rfl) ?_
    refine mget (v := .ref (y 32)) hx hb hts hiX12 hown hK hw 45 (by decide) lf108 rfl rfl dX12_letsHim_26 ?_
    refine lv_bipush (v := 7) hx hb dX12_letsHim_29 (by decide) ?_
    refine lv_iload_n hx hb dX12_letsHim_31 rfl (lv_at hl 3 rfl) ?_
    refine lv_iadd hx hb dX12_letsHim_32 (zgenE (lo := 7) (hi := 12) (zI.add (zI.lit (a := 7) (b := 7) (c := 7) (by decide)) g2 (by decide)) (fun v9 ev9 hv9 => ?_))
    have hE := zletE ev9 hE
    refine miald hx hb hK hw 33 mWg32 hv9 (by decide) dX12_letsHim_33 (zgenE (zI.top _) (fun v10 ev10 _ => ?_))
    have hE := zletE ev10 hE
    refine lv_aload_n hx hb dX12_letsHim_34 rfl (lv_at hl 1 rfl) ?_
    refine mget (v := .ref (y 32)) hx hb hts hiX12 hown hK hw 45 (by decide) lf108 rfl rfl dX12_letsHim_35 ?_
    refine lv_bipush (v := 13) hx hb dX12_letsHim_38 (by decide) ?_
    refine lv_iload_n hx hb dX12_letsHim_40 rfl (lv_at hl 3 rfl) ?_
    refine lv_iadd hx hb dX12_letsHim_41 (zgenE (lo := 13) (hi := 18) (zI.add (zI.lit (a := 13) (b := 13) (c := 13) (by decide)) g2 (by decide)) (fun v11 ev11 hv11 => ?_))
    have hE := zletE ev11 hE
    refine miald hx hb hK hw 33 mWg32 hv11 (by decide) dX12_letsHim_42 (zgenE (lo := 0) (hi := 41) ((ms_13 hJ0 hv11)) (fun v12 ev12 hv12 => ?_))
    have hE := zletE ev12 hE
    refine lv_iadd hx hb dX12_letsHim_43 (zgenE (zI.top _) (fun v13 ev13 _ => ?_))
    have hE := zletE ev13 hE
    refine lv_aload_n hx hb dX12_letsHim_44 rfl (lv_at hl 1 rfl) ?_
    refine mget (v := .ref (y 32)) hx hb hts hiX12 hown hK hw 45 (by decide) lf108 rfl rfl dX12_letsHim_45 ?_
    refine lv_bipush (v := 13) hx hb dX12_letsHim_48 (by decide) ?_
    refine lv_iload_n hx hb dX12_letsHim_50 rfl (lv_at hl 3 rfl) ?_
    refine lv_iadd hx hb dX12_letsHim_51 (zgenE (lo := 13) (hi := 18) (zI.add (zI.lit (a := 13) (b := 13) (c := 13) (by decide)) g2 (by decide)) (fun v14 ev14 hv14 => ?_))
    have hE := zletE ev14 hE
    refine miald hx hb hK hw 33 mWg32 hv14 (by decide) dX12_letsHim_52 (zgenE (lo := 0) (hi := 41) ((ms_13 hJ0 hv14)) (fun v15 ev15 hv15 => ?_))
    have hE := zletE ev15 hE
    refine lv_aload_n hx hb dX12_letsHim_53 rfl (lv_at hl 1 rfl) ?_
    refine mget (v := .ref (y 6)) hx hb hts hiX12 hown hK hw 15 (by decide) lf29 rfl rfl dX12_letsHim_54 ?_
    refine lv_iload_n hx hb dX12_letsHim_57 rfl (lv_at hl 3 rfl) ?_
    refine miald hx hb hK hw 7 mWg6 g2 (by decide) dX12_letsHim_58 (zgenE (zI.top _) (fun v16 ev16 _ => ?_))
    have hE := zletE ev16 hE
    refine lv_iconst (v := 3) hx hb dX12_letsHim_59 (by decide) ?_
    refine lv_icmp_ne (tgt := 69) hx hb dX12_letsHim_60 (by decide) (fun c17 => ?_) (fun c17 => ?_)
    · have hE := zifnT c17 hE
      refine lv_iload_n hx hb dX12_letsHim_69 rfl (lv_at hl 0 rfl) ?_
      exact cut70 v8 v15 v13 hv15 hE H locs ls hw hS (lv_sub hl [] rfl)
    · have hE := zifnF c17 hE
      have k18 : zI 3 3 (v16) := zI.eqq c17 (zI.lit (a := 3) (b := 3) (c := 3) (by decide))
      refine lv_iload_n hx hb dX12_letsHim_63 rfl (lv_at hl 0 rfl) ?_
      refine lv_iconst (v := 2) hx hb dX12_letsHim_64 (by decide) ?_
      refine lv_idiv hx hb dX12_letsHim_65 (by decide) (zgenE (zI.top _) (fun v19 ev19 _ => ?_))
      have hE := zletE ev19 hE
      refine lv_goto (tgt := 70) hx hb dX12_letsHim_66 (by decide) ?_
      exact cut70 v19 v15 v13 hv15 hE H locs ls hw hS (lv_sub hl [] rfl)
  · have hE := zifnF c5 hE
    have k20 : zI 2 2 (v4) := zI.eqq c5 (zI.lit (a := 2) (b := 2) (c := 2) (by decide))
    refine lv_iconst (v := 1) hx hb dX12_letsHim_10 (by decide) ?_
    exact ziretQ hQ hx hb hr rfl hlocks (1, r) rfl ⟨((zI.lit (a := 1) (b := 1) (c := 1) (by decide)).w (c := 0) (d := 1) (by decide)), hJ0, (zFr.refl), (hE.symm.trans hX), trivial⟩ hw hS dX12_letsHim_11

noncomputable def Gm_speakersAt_59 (w5_3 : Int32) (w5_4 : Int32) (ih5 : Int32 → Int32 → zRr → (Int32 × zRr)) (w59_s0 : Int32) (rw59 : zRr) : Int32 × zRr :=
  zlet (α := Int32) (w5_3 ||| w59_s0) <| fun v1 => ih5 v1 (w5_4 + 1) rw59
noncomputable def Gm_speakersAt_58 (w5_3 : Int32) (w5_4 : Int32) (ih5 : Int32 → Int32 → zRr → (Int32 × zRr)) (rw58 : zRr) : Int32 × zRr :=
  Gm_speakersAt_59 w5_3 w5_4 ih5 0 rw58
noncomputable def Bm_speakersAt_5 (a1 : Int32) (a2 : Int32) (q : zRq) (ih5 : Int32 → Int32 → zRr → (Int32 × zRr)) (w5_3 : Int32) (w5_4 : Int32) (rw5 : zRr) : Int32 × zRr :=
  zlet (α := Int32) (rw5 1 1) <| fun v3 => zif (v3 ≤ w5_4) ((w5_3, rw5)) (zlet (α := Int32) (rw5 6 (zn w5_4)) <| fun v7 => zif (v7 = (1 : Int32)) (Gm_speakersAt_58 w5_3 w5_4 ih5 rw5) (zlet (α := Int32) (1 + w5_4) <| fun v10 => zlet (α := Int32) (rw5 32 (zn v10)) <| fun v11 => zifn (v11 = a1) (Gm_speakersAt_58 w5_3 w5_4 ih5 rw5) (zc_vr (Gm_letsHim a2 w5_4 rw5 q) <| fun v15 r16 => zif (v15 = (0 : Int32)) (Gm_speakersAt_58 w5_3 w5_4 ih5 r16) (zlet (α := Int32) (1 <<< (w5_4 &&& 31)) <| fun v20 => Gm_speakersAt_59 w5_3 w5_4 ih5 v20 r16))))
noncomputable def Gm_speakersAt_5 (a1 : Int32) (a2 : Int32) (q : zRq) (n : Nat) : Int32 → Int32 → zRr → (Int32 × zRr) :=
  Nat.rec (motive := fun _ => Int32 → Int32 → zRr → (Int32 × zRr)) (fun _ _ rw5 => (default, rw5)) (fun _ ih => Bm_speakersAt_5 a1 a2 q ih) n
noncomputable def Gm_speakersAt (a1 : Int32) (a2 : Int32) (r : zRr) (q : zRq) : Int32 × zRr :=
  Gm_speakersAt_5 a1 a2 q 7 0 0 r
set_option maxHeartbeats 4000000 in
set_option maxRecDepth 100000 in
theorem mc_speakersAt (l : Launch) (D : va_G) (ct : Nat → ClassId) (h0 : Nat) (y : Nat → Nat) (B : Int) (a1 : Int32) (a2 : Int32) (r : zRr) (q : zRq) (g2 : zI 0 5 a2) (hJ0 : mJ B r) : zC l yX12_speakersAt (.code yX12_speakersAt cX12_speakersAt 5 (some .int) :: wsL_law0) ({ frames := 6, cells := 0, slots := 0, locals := 280 }) D ct [] [.ref h0, .int a1, .int a2] (mW ct h0 y r q) (S := Int32 × zRr) (fun u => some (.int u.1)) (fun u => zI 0 63 u.1 ∧ mJ B u.2 ∧ zFr [15, 16, 17, 18, 19, 20, 21, 22, 23, 24] r u.2 ∧ u = (Gm_speakersAt a1 a2 r q) ∧ True) (fun u => mW ct h0 y u.2 q) 0 0 := by
  refine zofQ cX12_speakersAt 5 (some .int) (by decide) rfl (Nat.le_of_ble_eq_true rfl) ?_
  intro p e s m below meth c A a9 Q ha9 hx hb hr hml hts hown hlocks hname hK hA hZ hN hQ
  have hown : s.vm.findClass RX12 = some m.cls := hown
  have hiX12 : ∀ w ∈ wsX120, w ∈ .code yX12_speakersAt cX12_speakersAt 5 (some .int) :: wsL_law0 := fun _ h => ki (zs_wsX120 _ h)
  have lf13 := hts (.fieldLink RX12 13 "BeardPassModel" "land" "[I") (ki (zr7 20 rfl))
  have lf29 := hts (.fieldLink RX12 29 "BeardPassModel" "kind" "[I") (ki (zr8 1 rfl))
  have lf108 := hts (.fieldLink RX12 108 "BeardPassModel" "s" "[I") (ki (zr9 4 rfl))
  obtain ⟨X, hX⟩ : ∃ X, X = (Gm_speakersAt a1 a2 r q) := ⟨_, rfl⟩
  have cut5 : ∀ (n5 : Nat) (w5_3 : Int32) (w5_4 : Int32) (rw5 : zRr) (hw5_2 : zI 0 5 a2) (hw5_3 : zI 0 63 w5_3) (hw5_4 : zI 0 6 w5_4) (jw5 : mJ B rw5) (fw5 : zFr [15, 16, 17, 18, 19, 20, 21, 22, 23, 24] r rw5) (hE : X = Gm_speakersAt_5 a1 a2 q n5 w5_3 w5_4 rw5), 6 - w5_4.toInt < (n5 : Int) → zKf p l e ({ frames := 6, cells := 0, slots := 0, locals := 280 }) s m a9 below meth c Q D A 5 5 [] (mW ct h0 y rw5 q) [(0, .ref h0), (1, .int a1), (2, .int a2), (3, .int w5_3), (4, .int w5_4)] := by
    intro n5
    induction n5 with
    | zero => intro w5_3 w5_4 rw5 hw5_2 hw5_3 hw5_4 jw5 fw5 hE hm5; exact zI.no hw5_4 (by decide) hm5
    | succ n5 ih5 =>
      intro w5_3 w5_4 rw5 hw5_2 hw5_3 hw5_4 jw5 fw5 hE hm5
      have hE : X = Bm_speakersAt_5 a1 a2 q (Gm_speakersAt_5 a1 a2 q n5) w5_3 w5_4 rw5 := hE
      unfold Bm_speakersAt_5 at hE
      have cut59 : ∀ (w59_s0 : Int32) (rw59 : zRr) (hw59_2 : zI 0 5 a2) (hw59_4 : zI 0 5 w5_4) (hw59_s0 : zI 0 39 w59_s0) (hw59_s1 : zI 0 63 w5_3) (jw59 : mJ B rw59) (fw59 : zFr [15, 16, 17, 18, 19, 20, 21, 22, 23, 24] r rw59) (hE : X = Gm_speakersAt_59 w5_3 w5_4 (Gm_speakersAt_5 a1 a2 q n5) w59_s0 rw59), zKf p l e ({ frames := 6, cells := 0, slots := 0, locals := 280 }) s m a9 below meth c Q D A 59 5 [.int w59_s0, .int w5_3] (mW ct h0 y rw59 q) [(0, .ref h0), (1, .int a1), (2, .int a2), (4, .int w5_4)] := by
        intro w59_s0 rw59 hw59_2 hw59_4 hw59_s0 hw59_s1 jw59 fw59 hE H locs ls hw hS hl
        unfold Gm_speakersAt_59 at hE
        refine lv_ior hx hb dX12_speakersAt_59 (zgenE (lo := 0) (hi := 63) (zI.or 6 hw59_s1 hw59_s0 (by decide)) (fun v1 ev1 hv1 => ?_))
        have hE := zletE ev1 hE
        refine lv_istore_n (lv' := [(3, .int v1), (0, .ref h0), (1, .int a1), (2, .int a2), (4, .int w5_4)]) hx hb dX12_speakersAt_60 rfl hl (by decide) rfl (fun ls hl => ?_)
        refine lv_iinc (v := w5_4 + 1) (lv' := [(4, .int (w5_4 + 1)), (3, .int v1), (0, .ref h0), (1, .int a1), (2, .int a2)]) hx hb dX12_speakersAt_61 hl (k := 4) rfl (rfl) (by decide) rfl (fun ls hl => ?_)
        have k2 : zI 1 6 (w5_4 + 1) := zI.add hw59_4 (zI.lit (a := 1) (b := 1) (by decide)) (by decide)
        refine lv_goto (tgt := 5) hx hb dX12_speakersAt_64 (by decide) ?_
        exact ih5 v1 (w5_4 + 1) rw59 hw59_2 hv1 (k2.w (c := 0) (d := 6) (by decide)) jw59 fw59 hE (zI.up hw59_4 (by decide) hm5) H locs ls hw hS (lv_sub hl [2, 3, 4, 1, 0] rfl)
      have cut58 : ∀ (rw58 : zRr) (hw58_2 : zI 0 5 a2) (hw58_4 : zI 0 5 w5_4) (hw58_s0 : zI 0 63 w5_3) (jw58 : mJ B rw58) (fw58 : zFr [15, 16, 17, 18, 19, 20, 21, 22, 23, 24] r rw58) (hE : X = Gm_speakersAt_58 w5_3 w5_4 (Gm_speakersAt_5 a1 a2 q n5) rw58), zKf p l e ({ frames := 6, cells := 0, slots := 0, locals := 280 }) s m a9 below meth c Q D A 58 5 [.int w5_3] (mW ct h0 y rw58 q) [(0, .ref h0), (1, .int a1), (2, .int a2), (4, .int w5_4)] := by
        intro rw58 hw58_2 hw58_4 hw58_s0 jw58 fw58 hE H locs ls hw hS hl
        unfold Gm_speakersAt_58 at hE
        refine lv_iconst (v := 0) hx hb dX12_speakersAt_58 (by decide) ?_
        exact cut59 0 rw58 hw58_2 hw58_4 ((zI.lit (a := 0) (b := 0) (c := 0) (by decide)).w (c := 0) (d := 39) (by decide)) hw58_s0 jw58 fw58 hE H locs ls hw hS (lv_sub hl [0, 1, 2, 3] rfl)
      intro H locs ls hw hS hl
      refine lv_iload hx hb dX12_speakersAt_5 (lv_at hl 4 rfl) ?_
      refine lv_aload_n hx hb dX12_speakersAt_7 rfl (lv_at hl 0 rfl) ?_
      refine mget (v := .ref (y 1)) hx hb hts hiX12 hown hK hw 10 (by decide) lf13 rfl rfl dX12_speakersAt_8 ?_
      refine lv_iconst (v := 1) hx hb dX12_speakersAt_11 (by decide) ?_
      refine ziald hx hb hK hw 2 mWg1 1 (by decide) (by decide) (by decide) dX12_speakersAt_12 (zgenE (lo := 0) (hi := 6) ((show zI 0 6 (rw5 1 1) from jw5.i 1 1)) (fun v3 ev3 hv3 => ?_))
      have hE := zletE ev3 hE
      refine lv_icmp_ge (tgt := 67) hx hb dX12_speakersAt_13 (by decide) (fun c4 => ?_) (fun c4 => ?_)
      · have hE := zifT c4 hE
        refine lv_iload_n hx hb dX12_speakersAt_67 rfl (lv_at hl 3 rfl) ?_
        exact ziretQ hQ hx hb hr rfl hlocks (w5_3, rw5) rfl ⟨hw5_3, jw5, fw5, (hE.symm.trans hX), trivial⟩ hw hS dX12_speakersAt_68
      · have hE := zifF c4 hE
        have k5 : zI 0 5 (w5_4) := zI.ltU (zI.nle c4) hw5_4 hv3 (by decide)
        have k6 : zI 1 6 (v3) := zI.ltD (zI.nle c4) hw5_4 hv3 (by decide)
        refine lv_iload_n hx hb dX12_speakersAt_16 rfl (lv_at hl 3 rfl) ?_
        refine lv_aload_n hx hb dX12_speakersAt_17 rfl (lv_at hl 0 rfl) ?_
        refine mget (v := .ref (y 6)) hx hb hts hiX12 hown hK hw 15 (by decide) lf29 rfl rfl dX12_speakersAt_18 ?_
        refine lv_iload hx hb dX12_speakersAt_21 (lv_at hl 4 rfl) ?_
        refine miald hx hb hK hw 7 mWg6 k5 (by decide) dX12_speakersAt_23 (zgenE (zI.top _) (fun v7 ev7 _ => ?_))
        have hE := zletE ev7 hE
        refine lv_iconst (v := 1) hx hb dX12_speakersAt_24 (by decide) ?_
        refine lv_icmp_eq (tgt := 58) hx hb dX12_speakersAt_25 (by decide) (fun c8 => ?_) (fun c8 => ?_)
        · have hE := zifT c8 hE
          have k9 : zI 1 1 (v7) := zI.eqq c8 (zI.lit (a := 1) (b := 1) (c := 1) (by decide))
          exact cut58 rw5 hw5_2 k5 hw5_3 jw5 fw5 hE H locs ls hw hS (lv_sub hl [0, 1, 2, 4] rfl)
        · have hE := zifF c8 hE
          refine lv_aload_n hx hb dX12_speakersAt_28 rfl (lv_at hl 0 rfl) ?_
          refine mget (v := .ref (y 32)) hx hb hts hiX12 hown hK hw 45 (by decide) lf108 rfl rfl dX12_speakersAt_29 ?_
          refine lv_iconst (v := 1) hx hb dX12_speakersAt_32 (by decide) ?_
          refine lv_iload hx hb dX12_speakersAt_33 (lv_at hl 4 rfl) ?_
          refine lv_iadd hx hb dX12_speakersAt_35 (zgenE (lo := 1) (hi := 6) (zI.add (zI.lit (a := 1) (b := 1) (c := 1) (by decide)) k5 (by decide)) (fun v10 ev10 hv10 => ?_))
          have hE := zletE ev10 hE
          refine miald hx hb hK hw 33 mWg32 hv10 (by decide) dX12_speakersAt_36 (zgenE (lo := 0) (hi := 5) ((ms_1 jw5 hv10)) (fun v11 ev11 hv11 => ?_))
          have hE := zletE ev11 hE
          refine lv_iload_n hx hb dX12_speakersAt_37 rfl (lv_at hl 1 rfl) ?_
          refine lv_icmp_ne (tgt := 58) hx hb dX12_speakersAt_38 (by decide) (fun c12 => ?_) (fun c12 => ?_)
          · have hE := zifnT c12 hE
            exact cut58 rw5 hw5_2 k5 hw5_3 jw5 fw5 hE H locs ls hw hS (lv_sub hl [0, 1, 2, 4] rfl)
          · have hE := zifnF c12 hE
            have k13 : zI 0 5 (a1) := zI.eqq (c12).symm hv11
            refine lv_aload_n hx hb dX12_speakersAt_41 rfl (lv_at hl 0 rfl) ?_
            refine lv_iload_n hx hb dX12_speakersAt_42 rfl (lv_at hl 2 rfl) ?_
            refine lv_iload hx hb dX12_speakersAt_43 (lv_at hl 4 rfl) ?_
            refine zcallW (va_runV (As := [.int a2, .int w5_4]) (rest := [.int w5_3]) ⟨hx, hb, hml, hown, hts⟩ (mc_letsHim l D ct h0 y B a2 w5_4 rw5 q hw5_2 k5 jw5 H.size) (cwV 2 hts (kgV (zr34 2 rfl) (zr34 3 rfl) (zr34 4 rfl) (zr1 5 rfl) (zr34 5 rfl)) rfl rfl rfl (by decide +kernel) ⟨Nat.le_of_ble_eq_true rfl, Nat.le_of_ble_eq_true rfl⟩) (zpreV hK hw hS hA zZ.nil hN (List.range (mW ct h0 y rw5 q).length) mWn (zrange _) 11 0 rfl mWo) rfl rfl hl.1 rfl (lv_room (Nat.le_of_ble_eq_true rfl)) dX12_speakersAt_45 ⟨Nat.le_of_ble_eq_true rfl, Nat.le_of_ble_eq_true rfl⟩) hw hS hA 48 rfl (fun u14 H locs pu14 hw hS => ?_)
            obtain ⟨v15, r16⟩ := u14
            have hv15 : zI 0 1 v15 := pu14.1
            have ju14 : mJ B r16 := pu14.2.1
            have fu14 : zFr [15, 16, 17, 18, 19, 20, 21, 22, 23, 24] rw5 r16 := pu14.2.2.1
            have xu14 : (v15, r16) = (Gm_letsHim a2 w5_4 rw5 q) := pu14.2.2.2.1
            have hE := zc_vrE xu14 hE
            have hw : zPD D A (mW ct h0 y r16 q) H := hw
            refine zfr 48 [.int v15, .int w5_3] rfl rfl ?_
            refine lv_if_eq (tgt := 58) hx hb dX12_speakersAt_48 (by decide) (fun c17 => ?_) (fun c17 => ?_)
            · have hE := zifT c17 hE
              have k18 : zI 0 0 (v15) := zI.eqq c17 (zI.lit (a := 0) (b := 0) (c := 0) (by decide))
              exact cut58 r16 hw5_2 k5 hw5_3 ju14 (fw5.tr fu14 rfl) hE H locs ls hw hS (lv_sub hl [0, 1, 2, 4] rfl)
            · have hE := zifF c17 hE
              have k19 : zI 1 1 (v15) := zI.neD c17 hv15 (zI.lit (a := 0) (b := 0) (c := 0) (by decide)) (by decide)
              refine lv_iconst (v := 1) hx hb dX12_speakersAt_51 (by decide) ?_
              refine lv_iload hx hb dX12_speakersAt_52 (lv_at hl 4 rfl) ?_
              refine lv_ishl hx hb dX12_speakersAt_54 (zgenE (lo := 1) (hi := 32) (zI.shl k5 5 (by decide)) (fun v20 ev20 hv20 => ?_))
              have hE := zletE ev20 hE
              refine lv_goto (tgt := 59) hx hb dX12_speakersAt_55 (by decide) ?_
              exact cut59 v20 r16 hw5_2 k5 (hv20.w (c := 0) (d := 39) (by decide)) hw5_3 ju14 (fw5.tr fu14 rfl) hE H locs ls hw hS (lv_sub hl [0, 1, 2, 4] rfl)
  intro H locs hw hS ls hl
  have hl : lv_has ls 5 [(0, .ref h0), (1, .int a1), (2, .int a2)] := hl
  have hE := hX
  unfold Gm_speakersAt at hE
  refine lv_iconst (v := 0) hx hb dX12_speakersAt_0 (by decide) ?_
  refine lv_istore_n (lv' := [(3, .int 0), (0, .ref h0), (1, .int a1), (2, .int a2)]) hx hb dX12_speakersAt_1 rfl hl (by decide) rfl (fun ls hl => ?_)
  refine lv_iconst (v := 0) hx hb dX12_speakersAt_2 (by decide) ?_
  refine lv_istore (lv' := [(4, .int 0), (3, .int 0), (0, .ref h0), (1, .int a1), (2, .int a2)]) hx hb dX12_speakersAt_3 hl (by decide) rfl (fun ls hl => ?_)
  exact cut5 7 0 0 r g2 ((zI.lit (a := 0) (b := 0) (c := 0) (by decide)).w (c := 0) (d := 63) (by decide)) ((zI.lit (a := 0) (b := 0) (c := 0) (by decide)).w (c := 0) (d := 6) (by decide)) hJ0 (zFr.refl) hE (zI.m0 (zI.lit (a := 0) (b := 0) (c := 0) (by decide)) (by decide)) H locs ls hw hS (lv_sub hl [2, 3, 4, 1, 0] rfl)

noncomputable def Gm_lets (a1 : Int32) (a2 : Int32) (a3 : Int32) (r : zRr) (q : zRq) : Int32 × zRr :=
  zlet (α := Int32) (r 6 (zn a2)) <| fun v1 => zifn (v1 = (1 : Int32)) (zc_vr (Gm_letsHim a1 a2 r q) <| fun v4 r5 => (v4, r5)) (zc_vr (Gm_speakersAt a3 a1 r q) <| fun v8 r9 => zif (v8 = (0 : Int32)) (((0 : Int32), r9)) (((1 : Int32), r9)))
set_option maxHeartbeats 4000000 in
set_option maxRecDepth 100000 in
theorem mc_lets (l : Launch) (D : va_G) (ct : Nat → ClassId) (h0 : Nat) (y : Nat → Nat) (B : Int) (a1 : Int32) (a2 : Int32) (a3 : Int32) (r : zRr) (q : zRq) (g1 : zI 0 5 a1) (g2 : zI 0 5 a2) (hJ0 : mJ B r) : zC l yX12_lets (.code yX12_lets cX12_lets 4 (some .boolean) :: wsL_law0) ({ frames := 7, cells := 0, slots := 0, locals := 320 }) D ct [] [.ref h0, .int a1, .int a2, .int a3] (mW ct h0 y r q) (S := Int32 × zRr) (fun u => some (.int u.1)) (fun u => zI 0 1 u.1 ∧ mJ B u.2 ∧ zFr [15, 16, 17, 18, 19, 20, 21, 22, 23, 24] r u.2 ∧ u = (Gm_lets a1 a2 a3 r q) ∧ True) (fun u => mW ct h0 y u.2 q) 0 0 := by
  refine zofQ cX12_lets 4 (some .boolean) (by decide) rfl (Nat.le_of_ble_eq_true rfl) ?_
  intro p e s m below meth c A a9 Q ha9 hx hb hr hml hts hown hlocks hname hK hA hZ hN hQ
  have hown : s.vm.findClass RX12 = some m.cls := hown
  have hiX12 : ∀ w ∈ wsX120, w ∈ .code yX12_lets cX12_lets 4 (some .boolean) :: wsL_law0 := fun _ h => ki (zs_wsX120 _ h)
  have lf29 := hts (.fieldLink RX12 29 "BeardPassModel" "kind" "[I") (ki (zr8 1 rfl))
  obtain ⟨X, hX⟩ : ∃ X, X = (Gm_lets a1 a2 a3 r q) := ⟨_, rfl⟩
  intro H locs hw hS ls hl
  have hl : lv_has ls 4 [(0, .ref h0), (1, .int a1), (2, .int a2), (3, .int a3)] := hl
  have hE := hX
  unfold Gm_lets at hE
  refine lv_aload_n hx hb dX12_lets_0 rfl (lv_at hl 0 rfl) ?_
  refine mget (v := .ref (y 6)) hx hb hts hiX12 hown hK hw 15 (by decide) lf29 rfl rfl dX12_lets_1 ?_
  refine lv_iload_n hx hb dX12_lets_4 rfl (lv_at hl 2 rfl) ?_
  refine miald hx hb hK hw 7 mWg6 g2 (by decide) dX12_lets_5 (zgenE (zI.top _) (fun v1 ev1 _ => ?_))
  have hE := zletE ev1 hE
  refine lv_iconst (v := 1) hx hb dX12_lets_6 (by decide) ?_
  refine lv_icmp_ne (tgt := 27) hx hb dX12_lets_7 (by decide) (fun c2 => ?_) (fun c2 => ?_)
  · have hE := zifnT c2 hE
    refine lv_aload_n hx hb dX12_lets_27 rfl (lv_at hl 0 rfl) ?_
    refine lv_iload_n hx hb dX12_lets_28 rfl (lv_at hl 1 rfl) ?_
    refine lv_iload_n hx hb dX12_lets_29 rfl (lv_at hl 2 rfl) ?_
    refine zcallW (va_runV (As := [.int a1, .int a2]) (rest := []) ⟨hx, hb, hml, hown, hts⟩ (mc_letsHim l D ct h0 y B a1 a2 r q g1 g2 hJ0 H.size) (cwV 2 hts (kgV (zr34 2 rfl) (zr34 3 rfl) (zr34 4 rfl) (zr1 5 rfl) (zr34 5 rfl)) rfl rfl rfl (by decide +kernel) ⟨Nat.le_of_ble_eq_true rfl, Nat.le_of_ble_eq_true rfl⟩) (zpreV hK hw hS hA zZ.nil hN (List.range (mW ct h0 y r q).length) mWn (zrange _) 11 0 rfl mWo) rfl rfl hl.1 rfl (lv_room (Nat.le_of_ble_eq_true rfl)) dX12_lets_30 ⟨Nat.le_of_ble_eq_true rfl, Nat.le_of_ble_eq_true rfl⟩) hw hS hA 33 rfl (fun u3 H locs pu3 hw hS => ?_)
    obtain ⟨v4, r5⟩ := u3
    have hv4 : zI 0 1 v4 := pu3.1
    have ju3 : mJ B r5 := pu3.2.1
    have fu3 : zFr [15, 16, 17, 18, 19, 20, 21, 22, 23, 24] r r5 := pu3.2.2.1
    have xu3 : (v4, r5) = (Gm_letsHim a1 a2 r q) := pu3.2.2.2.1
    have hE := zc_vrE xu3 hE
    have hw : zPD D A (mW ct h0 y r5 q) H := hw
    refine zfr 33 [.int v4] rfl rfl ?_
    exact ziretQ hQ hx hb hr (hv4.rn) hlocks (v4, r5) rfl ⟨hv4, ju3, ((zFr.refl).tr fu3 rfl), (hE.symm.trans hX), trivial⟩ hw hS dX12_lets_33
  · have hE := zifnF c2 hE
    have k6 : zI 1 1 (v1) := zI.eqq c2 (zI.lit (a := 1) (b := 1) (c := 1) (by decide))
    refine lv_aload_n hx hb dX12_lets_10 rfl (lv_at hl 0 rfl) ?_
    refine lv_iload_n hx hb dX12_lets_11 rfl (lv_at hl 3 rfl) ?_
    refine lv_iload_n hx hb dX12_lets_12 rfl (lv_at hl 1 rfl) ?_
    refine zcallW (va_runV (As := [.int a3, .int a1]) (rest := []) ⟨hx, hb, hml, hown, hts⟩ (mc_speakersAt l D ct h0 y B a3 a1 r q g1 hJ0 H.size) (cwV 2 hts (kgV (zr33 22 rfl) (zr33 23 rfl) (zr34 0 rfl) (zr1 5 rfl) (zr34 1 rfl)) rfl rfl rfl (by decide +kernel) ⟨Nat.le_of_ble_eq_true rfl, Nat.le_of_ble_eq_true rfl⟩) (zpreV hK hw hS hA zZ.nil hN (List.range (mW ct h0 y r q).length) mWn (zrange _) 11 0 rfl mWo) rfl rfl hl.1 rfl (lv_room (Nat.le_of_ble_eq_true rfl)) dX12_lets_13 ⟨Nat.le_of_ble_eq_true rfl, Nat.le_of_ble_eq_true rfl⟩) hw hS hA 16 rfl (fun u7 H locs pu7 hw hS => ?_)
    obtain ⟨v8, r9⟩ := u7
    have hv8 : zI 0 63 v8 := pu7.1
    have ju7 : mJ B r9 := pu7.2.1
    have fu7 : zFr [15, 16, 17, 18, 19, 20, 21, 22, 23, 24] r r9 := pu7.2.2.1
    have xu7 : (v8, r9) = (Gm_speakersAt a3 a1 r q) := pu7.2.2.2.1
    have hE := zc_vrE xu7 hE
    have hw : zPD D A (mW ct h0 y r9 q) H := hw
    refine zfr 16 [.int v8] rfl rfl ?_
    refine lv_if_eq (tgt := 23) hx hb dX12_lets_16 (by decide) (fun c10 => ?_) (fun c10 => ?_)
    · have hE := zifT c10 hE
      have k11 : zI 0 0 (v8) := zI.eqq c10 (zI.lit (a := 0) (b := 0) (c := 0) (by decide))
      refine lv_iconst (v := 0) hx hb dX12_lets_23 (by decide) ?_
      refine lv_goto (tgt := 33) hx hb dX12_lets_24 (by decide) ?_
      exact ziretQ hQ hx hb hr rfl hlocks (0, r9) rfl ⟨((zI.lit (a := 0) (b := 0) (c := 0) (by decide)).w (c := 0) (d := 1) (by decide)), ju7, ((zFr.refl).tr fu7 rfl), (hE.symm.trans hX), trivial⟩ hw hS dX12_lets_33
    · have hE := zifF c10 hE
      have k12 : zI 1 63 (v8) := zI.neD c10 hv8 (zI.lit (a := 0) (b := 0) (c := 0) (by decide)) (by decide)
      refine lv_iconst (v := 1) hx hb dX12_lets_19 (by decide) ?_
      refine lv_goto (tgt := 33) hx hb dX12_lets_20 (by decide) ?_
      exact ziretQ hQ hx hb hr rfl hlocks (1, r9) rfl ⟨((zI.lit (a := 1) (b := 1) (c := 1) (by decide)).w (c := 0) (d := 1) (by decide)), ju7, ((zFr.refl).tr fu7 rfl), (hE.symm.trans hX), trivial⟩ hw hS dX12_lets_33

noncomputable def Gm_canGo (a1 : Int32) (a2 : Int32) (r : zRr) (q : zRq) : Int32 × zRr :=
  zlet (α := Int32) (1 + a1) <| fun v1 => zlet (α := Int32) (r 32 (zn v1)) <| fun v2 => zlet (α := Int32) (r 5 (zn v2)) <| fun v3 => zlet (α := Int32) (v3 >>> (a2 &&& 31)) <| fun v4 => zlet (α := Int32) (v4 &&& 1) <| fun v5 => zifn (v5 = (1 : Int32)) (((0 : Int32), r)) (zlet (α := Int32) (1 + a1) <| fun v9 => zlet (α := Int32) (r 32 (zn v9)) <| fun v10 => zc_vr (Gm_lets a2 a1 v10 r q) <| fun v12 r13 => zif (v12 = (0 : Int32)) (((0 : Int32), r13)) (((1 : Int32), r13)))
set_option maxHeartbeats 4000000 in
set_option maxRecDepth 100000 in
theorem mc_canGo (l : Launch) (D : va_G) (ct : Nat → ClassId) (h0 : Nat) (y : Nat → Nat) (B : Int) (a1 : Int32) (a2 : Int32) (r : zRr) (q : zRq) (g1 : zI 0 5 a1) (g2 : zI 0 5 a2) (hJ0 : mJ B r) : zC l yX12_canGo (.code yX12_canGo cX12_canGo 3 (some .boolean) :: wsL_law0) ({ frames := 8, cells := 0, slots := 0, locals := 360 }) D ct [] [.ref h0, .int a1, .int a2] (mW ct h0 y r q) (S := Int32 × zRr) (fun u => some (.int u.1)) (fun u => zI 0 1 u.1 ∧ mJ B u.2 ∧ zFr [15, 16, 17, 18, 19, 20, 21, 22, 23, 24] r u.2 ∧ u = (Gm_canGo a1 a2 r q) ∧ True) (fun u => mW ct h0 y u.2 q) 0 0 := by
  refine zofQ cX12_canGo 3 (some .boolean) (by decide) rfl (Nat.le_of_ble_eq_true rfl) ?_
  intro p e s m below meth c A a9 Q ha9 hx hb hr hml hts hown hlocks hname hK hA hZ hN hQ
  have hown : s.vm.findClass RX12 = some m.cls := hown
  have hiX12 : ∀ w ∈ wsX120, w ∈ .code yX12_canGo cX12_canGo 3 (some .boolean) :: wsL_law0 := fun _ h => ki (zs_wsX120 _ h)
  have lf26 := hts (.fieldLink RX12 26 "BeardPassModel" "roads" "[I") (ki (zr8 0 rfl))
  have lf108 := hts (.fieldLink RX12 108 "BeardPassModel" "s" "[I") (ki (zr9 4 rfl))
  obtain ⟨X, hX⟩ : ∃ X, X = (Gm_canGo a1 a2 r q) := ⟨_, rfl⟩
  intro H locs hw hS ls hl
  have hl : lv_has ls 3 [(0, .ref h0), (1, .int a1), (2, .int a2)] := hl
  have hE := hX
  unfold Gm_canGo at hE
  refine lv_aload_n hx hb dX12_canGo_0 rfl (lv_at hl 0 rfl) ?_
  refine mget (v := .ref (y 5)) hx hb hts hiX12 hown hK hw 14 (by decide) lf26 rfl rfl dX12_canGo_1 ?_
  refine lv_aload_n hx hb dX12_canGo_4 rfl (lv_at hl 0 rfl) ?_
  refine mget (v := .ref (y 32)) hx hb hts hiX12 hown hK hw 45 (by decide) lf108 rfl rfl dX12_canGo_5 ?_
  refine lv_iconst (v := 1) hx hb dX12_canGo_8 (by decide) ?_
  refine lv_iload_n hx hb dX12_canGo_9 rfl (lv_at hl 1 rfl) ?_
  refine lv_iadd hx hb dX12_canGo_10 (zgenE (lo := 1) (hi := 6) (zI.add (zI.lit (a := 1) (b := 1) (c := 1) (by decide)) g1 (by decide)) (fun v1 ev1 hv1 => ?_))
  have hE := zletE ev1 hE
  refine miald hx hb hK hw 33 mWg32 hv1 (by decide) dX12_canGo_11 (zgenE (lo := 0) (hi := 5) ((ms_1 hJ0 hv1)) (fun v2 ev2 hv2 => ?_))
  have hE := zletE ev2 hE
  refine miald hx hb hK hw 6 mWg5 hv2 (by decide) dX12_canGo_12 (zgenE (zI.top _) (fun v3 ev3 _ => ?_))
  have hE := zletE ev3 hE
  refine lv_iload_n hx hb dX12_canGo_13 rfl (lv_at hl 2 rfl) ?_
  refine lv_ishr hx hb dX12_canGo_14 (zgenE (zI.top _) (fun v4 ev4 _ => ?_))
  have hE := zletE ev4 hE
  refine lv_iconst (v := 1) hx hb dX12_canGo_15 (by decide) ?_
  refine lv_iand hx hb dX12_canGo_16 (zgenE (lo := 0) (hi := 1) (zI.and (zI.lit (a := 1) (b := 1) (c := 1) (by decide)) (by decide)) (fun v5 ev5 hv5 => ?_))
  have hE := zletE ev5 hE
  refine lv_iconst (v := 1) hx hb dX12_canGo_17 (by decide) ?_
  refine lv_icmp_ne (tgt := 42) hx hb dX12_canGo_18 (by decide) (fun c6 => ?_) (fun c6 => ?_)
  · have hE := zifnT c6 hE
    have k7 : zI 0 0 (v5) := zI.neU c6 hv5 (zI.lit (a := 1) (b := 1) (c := 1) (by decide)) (by decide)
    refine lv_iconst (v := 0) hx hb dX12_canGo_42 (by decide) ?_
    exact ziretQ hQ hx hb hr rfl hlocks (0, r) rfl ⟨((zI.lit (a := 0) (b := 0) (c := 0) (by decide)).w (c := 0) (d := 1) (by decide)), hJ0, (zFr.refl), (hE.symm.trans hX), trivial⟩ hw hS dX12_canGo_43
  · have hE := zifnF c6 hE
    have k8 : zI 1 1 (v5) := zI.eqq c6 (zI.lit (a := 1) (b := 1) (c := 1) (by decide))
    refine lv_aload_n hx hb dX12_canGo_21 rfl (lv_at hl 0 rfl) ?_
    refine lv_iload_n hx hb dX12_canGo_22 rfl (lv_at hl 2 rfl) ?_
    refine lv_iload_n hx hb dX12_canGo_23 rfl (lv_at hl 1 rfl) ?_
    refine lv_aload_n hx hb dX12_canGo_24 rfl (lv_at hl 0 rfl) ?_
    refine mget (v := .ref (y 32)) hx hb hts hiX12 hown hK hw 45 (by decide) lf108 rfl rfl dX12_canGo_25 ?_
    refine lv_iconst (v := 1) hx hb dX12_canGo_28 (by decide) ?_
    refine lv_iload_n hx hb dX12_canGo_29 rfl (lv_at hl 1 rfl) ?_
    refine lv_iadd hx hb dX12_canGo_30 (zgenE (lo := 1) (hi := 6) (zI.add (zI.lit (a := 1) (b := 1) (c := 1) (by decide)) g1 (by decide)) (fun v9 ev9 hv9 => ?_))
    have hE := zletE ev9 hE
    refine miald hx hb hK hw 33 mWg32 hv9 (by decide) dX12_canGo_31 (zgenE (lo := 0) (hi := 5) ((ms_1 hJ0 hv9)) (fun v10 ev10 hv10 => ?_))
    have hE := zletE ev10 hE
    refine zcallW (va_runV (As := [.int a2, .int a1, .int v10]) (rest := []) ⟨hx, hb, hml, hown, hts⟩ (mc_lets l D ct h0 y B a2 a1 v10 r q g2 g1 hJ0 H.size) (cwV 3 hts (kgV (zr33 18 rfl) (zr33 19 rfl) (zr33 20 rfl) (zr1 5 rfl) (zr33 21 rfl)) rfl rfl rfl (by decide +kernel) ⟨Nat.le_of_ble_eq_true rfl, Nat.le_of_ble_eq_true rfl⟩) (zpreV hK hw hS hA zZ.nil hN (List.range (mW ct h0 y r q).length) mWn (zrange _) 11 0 rfl mWo) rfl rfl hl.1 rfl (lv_room (Nat.le_of_ble_eq_true rfl)) dX12_canGo_32 ⟨Nat.le_of_ble_eq_true rfl, Nat.le_of_ble_eq_true rfl⟩) hw hS hA 35 rfl (fun u11 H locs pu11 hw hS => ?_)
    obtain ⟨v12, r13⟩ := u11
    have hv12 : zI 0 1 v12 := pu11.1
    have ju11 : mJ B r13 := pu11.2.1
    have fu11 : zFr [15, 16, 17, 18, 19, 20, 21, 22, 23, 24] r r13 := pu11.2.2.1
    have xu11 : (v12, r13) = (Gm_lets a2 a1 v10 r q) := pu11.2.2.2.1
    have hE := zc_vrE xu11 hE
    have hw : zPD D A (mW ct h0 y r13 q) H := hw
    refine zfr 35 [.int v12] rfl rfl ?_
    refine lv_if_eq (tgt := 42) hx hb dX12_canGo_35 (by decide) (fun c14 => ?_) (fun c14 => ?_)
    · have hE := zifT c14 hE
      have k15 : zI 0 0 (v12) := zI.eqq c14 (zI.lit (a := 0) (b := 0) (c := 0) (by decide))
      refine lv_iconst (v := 0) hx hb dX12_canGo_42 (by decide) ?_
      exact ziretQ hQ hx hb hr rfl hlocks (0, r13) rfl ⟨((zI.lit (a := 0) (b := 0) (c := 0) (by decide)).w (c := 0) (d := 1) (by decide)), ju11, ((zFr.refl).tr fu11 rfl), (hE.symm.trans hX), trivial⟩ hw hS dX12_canGo_43
    · have hE := zifF c14 hE
      have k16 : zI 1 1 (v12) := zI.neD c14 hv12 (zI.lit (a := 0) (b := 0) (c := 0) (by decide)) (by decide)
      refine lv_iconst (v := 1) hx hb dX12_canGo_38 (by decide) ?_
      refine lv_goto (tgt := 43) hx hb dX12_canGo_39 (by decide) ?_
      exact ziretQ hQ hx hb hr rfl hlocks (1, r13) rfl ⟨((zI.lit (a := 1) (b := 1) (c := 1) (by decide)).w (c := 0) (d := 1) (by decide)), ju11, ((zFr.refl).tr fu11 rfl), (hE.symm.trans hX), trivial⟩ hw hS dX12_canGo_43

noncomputable def Gm_goes (a1 : Int32) (a2 : Int32) (r : zRr) (q : zRq) : zRr :=
  zlet (α := Int32) (1 + a1) <| fun v1 => zlet (α := zRr) (zset r 32 (upd (r 32) (zn v1) a2)) <| fun r2 => zlet (α := Int32) (25 + a1) <| fun v3 => zlet (α := Int32) (r2 32 (zn v3)) <| fun v4 => zlet (α := Int32) (1 <<< (a2 &&& 31)) <| fun v5 => zlet (α := Int32) (v4 ||| v5) <| fun v6 => zlet (α := zRr) (zset r2 32 (upd (r2 32) (zn v3) v6)) <| fun r7 => r7
set_option maxHeartbeats 4000000 in
set_option maxRecDepth 100000 in
theorem mc_goes (l : Launch) (D : va_G) (ct : Nat → ClassId) (h0 : Nat) (y : Nat → Nat) (B : Int) (a1 : Int32) (a2 : Int32) (r : zRr) (q : zRq) (g1 : zI 0 5 a1) (g2 : zI 0 5 a2) (hJ0 : mJ B r) : zC l yX12_goes (.code yX12_goes cX12_goes 3 none :: wsL_law0) ({ frames := 1, cells := 0, slots := 0, locals := 80 }) D ct [] [.ref h0, .int a1, .int a2] (mW ct h0 y r q) (S := zRr) (fun u => none) (fun u => mJ B u ∧ zFr [32] r u ∧ u = (Gm_goes a1 a2 r q) ∧ True) (fun u => mW ct h0 y u q) 0 0 := by
  refine zofQ cX12_goes 3 none (by decide) rfl (Nat.le_of_ble_eq_true rfl) ?_
  intro p e s m below meth c A a9 Q ha9 hx hb hr hml hts hown hlocks hname hK hA hZ hN hQ
  have hown : s.vm.findClass RX12 = some m.cls := hown
  have hiX12 : ∀ w ∈ wsX120, w ∈ .code yX12_goes cX12_goes 3 none :: wsL_law0 := fun _ h => ki (zs_wsX120 _ h)
  have lf108 := hts (.fieldLink RX12 108 "BeardPassModel" "s" "[I") (ki (zr9 4 rfl))
  obtain ⟨X, hX⟩ : ∃ X, X = (Gm_goes a1 a2 r q) := ⟨_, rfl⟩
  intro H locs hw hS ls hl
  have hl : lv_has ls 3 [(0, .ref h0), (1, .int a1), (2, .int a2)] := hl
  have hE := hX
  unfold Gm_goes at hE
  refine lv_aload_n hx hb dX12_goes_0 rfl (lv_at hl 0 rfl) ?_
  refine mget (v := .ref (y 32)) hx hb hts hiX12 hown hK hw 45 (by decide) lf108 rfl rfl dX12_goes_1 ?_
  refine lv_iconst (v := 1) hx hb dX12_goes_4 (by decide) ?_
  refine lv_iload_n hx hb dX12_goes_5 rfl (lv_at hl 1 rfl) ?_
  refine lv_iadd hx hb dX12_goes_6 (zgenE (lo := 1) (hi := 6) (zI.add (zI.lit (a := 1) (b := 1) (c := 1) (by decide)) g1 (by decide)) (fun v1 ev1 hv1 => ?_))
  have hE := zletE ev1 hE
  refine lv_iload_n hx hb dX12_goes_7 rfl (lv_at hl 2 rfl) ?_
  refine miast hx hb hK hw hS 33 mWg32 hv1 (by decide) dX12_goes_8 (mW ct h0 y (zset r 32 (upd (r 32) (zn v1) a2)) q) mWs32 (fun H locs hw hS => ?_)
  refine mgen (P := fun x => mJ B x ∧ zFr [32] r x) hw ⟨hJ0.set rfl (ms_1w hv1 g2), (zFr.refl).set rfl⟩ (fun r2 er2 hw pr2 => ?_)
  have hE := zletE er2 hE
  refine lv_aload_n hx hb dX12_goes_9 rfl (lv_at hl 0 rfl) ?_
  refine mget (v := .ref (y 32)) hx hb hts hiX12 hown hK hw 45 (by decide) lf108 rfl rfl dX12_goes_10 ?_
  refine lv_bipush (v := 25) hx hb dX12_goes_13 (by decide) ?_
  refine lv_iload_n hx hb dX12_goes_15 rfl (lv_at hl 1 rfl) ?_
  refine lv_iadd hx hb dX12_goes_16 (zgenE (lo := 25) (hi := 30) (zI.add (zI.lit (a := 25) (b := 25) (c := 25) (by decide)) g1 (by decide)) (fun v3 ev3 hv3 => ?_))
  have hE := zletE ev3 hE
  refine lv_dup2_11 hx hb dX12_goes_17 rfl rfl ?_
  refine miald hx hb hK hw 33 mWg32 hv3 (by decide) dX12_goes_18 (zgenE (lo := 0) (hi := 63) ((ms_25 pr2.1 hv3)) (fun v4 ev4 hv4 => ?_))
  have hE := zletE ev4 hE
  refine lv_iconst (v := 1) hx hb dX12_goes_19 (by decide) ?_
  refine lv_iload_n hx hb dX12_goes_20 rfl (lv_at hl 2 rfl) ?_
  refine lv_ishl hx hb dX12_goes_21 (zgenE (lo := 1) (hi := 32) (zI.shl g2 5 (by decide)) (fun v5 ev5 hv5 => ?_))
  have hE := zletE ev5 hE
  refine lv_ior hx hb dX12_goes_22 (zgenE (lo := 0) (hi := 63) (zI.or 6 hv4 hv5 (by decide)) (fun v6 ev6 hv6 => ?_))
  have hE := zletE ev6 hE
  refine miast hx hb hK hw hS 33 mWg32 hv3 (by decide) dX12_goes_23 (mW ct h0 y (zset r2 32 (upd (r2 32) (zn v3) v6)) q) mWs32 (fun H locs hw hS => ?_)
  refine mgen (P := fun x => mJ B x ∧ zFr [32] r x) hw ⟨pr2.1.set rfl (ms_25w hv3 hv6), pr2.2.set rfl⟩ (fun r7 er7 hw pr7 => ?_)
  have hE := zletE er7 hE
  exact zvretQ hQ hx hb hr hlocks r7 rfl ⟨pr7.1, pr7.2, (hE.symm.trans hX), trivial⟩ hw hS dX12_goes_24

noncomputable def Gm_canForge (a1 : Int32) (a2 : Int32) (r : zRr) (q : zRq) : Int32 :=
  zif ((r 6 (zn a1)) = (1 : Int32)) ((0 : Int32)) (zif ((r 32 (zn (19 + a1))) < (a2 * (r 1 3))) ((0 : Int32)) (zif ((20 : Int32) < ((r 32 (zn (13 + a1))) + a2)) ((0 : Int32)) ((1 : Int32))))
set_option maxHeartbeats 4000000 in
set_option maxRecDepth 100000 in
theorem mc_canForge (l : Launch) (D : va_G) (ct : Nat → ClassId) (h0 : Nat) (y : Nat → Nat) (B : Int) (a1 : Int32) (a2 : Int32) (r : zRr) (q : zRq) (g1 : zI 0 5 a1) (g2 : zI 0 9999 a2) (hJ0 : mJ B r) : zC l yX12_canForge (.code yX12_canForge cX12_canForge 3 (some .boolean) :: wsL_law0) ({ frames := 1, cells := 0, slots := 0, locals := 80 }) D ct [] [.ref h0, .int a1, .int a2] (mW ct h0 y r q) (S := Int32) (fun u => some (.int u)) (fun u => zI 0 1 u ∧ (¬ u = 0 → zI 0 20 (r 32 (zn (13 + a1)) + a2)) ∧ u = (Gm_canForge a1 a2 r q) ∧ True) (fun u => mW ct h0 y r q) 0 0 := by
  refine zofQ cX12_canForge 3 (some .boolean) (by decide) rfl (Nat.le_of_ble_eq_true rfl) ?_
  intro p e s m below meth c A a9 Q ha9 hx hb hr hml hts hown hlocks hname hK hA hZ hN hQ
  have hown : s.vm.findClass RX12 = some m.cls := hown
  have hiX12 : ∀ w ∈ wsX120, w ∈ .code yX12_canForge cX12_canForge 3 (some .boolean) :: wsL_law0 := fun _ h => ki (zs_wsX120 _ h)
  have lf13 := hts (.fieldLink RX12 13 "BeardPassModel" "land" "[I") (ki (zr7 20 rfl))
  have lf29 := hts (.fieldLink RX12 29 "BeardPassModel" "kind" "[I") (ki (zr8 1 rfl))
  have lf108 := hts (.fieldLink RX12 108 "BeardPassModel" "s" "[I") (ki (zr9 4 rfl))
  obtain ⟨X, hX⟩ : ∃ X, X = (Gm_canForge a1 a2 r q) := ⟨_, rfl⟩
  intro H locs hw hS ls hl
  have hl : lv_has ls 3 [(0, .ref h0), (1, .int a1), (2, .int a2)] := hl
  have hE := hX
  unfold Gm_canForge at hE
  refine lv_aload_n hx hb dX12_canForge_0 rfl (lv_at hl 0 rfl) ?_
  refine mget (v := .ref (y 6)) hx hb hts hiX12 hown hK hw 15 (by decide) lf29 rfl rfl dX12_canForge_1 ?_
  refine lv_iload_n hx hb dX12_canForge_4 rfl (lv_at hl 1 rfl) ?_
  refine miald hx hb hK hw 7 mWg6 g1 (by decide) dX12_canForge_5 ?_
  refine lv_iconst (v := 1) hx hb dX12_canForge_6 (by decide) ?_
  refine lv_icmp_eq (tgt := 50) hx hb dX12_canForge_7 (by decide) (fun c1 => ?_) (fun c1 => ?_)
  · have hE := zifT c1 hE
    have k2 : zI 1 1 (r 6 (zn a1)) := zI.eqq c1 (zI.lit (a := 1) (b := 1) (c := 1) (by decide))
    refine lv_iconst (v := 0) hx hb dX12_canForge_50 (by decide) ?_
    exact ziretQ hQ hx hb hr rfl hlocks 0 rfl ⟨((zI.lit (a := 0) (b := 0) (c := 0) (by decide)).w (c := 0) (d := 1) (by decide)), (fun h => absurd rfl h), (hE.symm.trans hX), trivial⟩ hw hS dX12_canForge_51
  · have hE := zifF c1 hE
    refine lv_aload_n hx hb dX12_canForge_10 rfl (lv_at hl 0 rfl) ?_
    refine mget (v := .ref (y 32)) hx hb hts hiX12 hown hK hw 45 (by decide) lf108 rfl rfl dX12_canForge_11 ?_
    refine lv_bipush (v := 19) hx hb dX12_canForge_14 (by decide) ?_
    refine lv_iload_n hx hb dX12_canForge_16 rfl (lv_at hl 1 rfl) ?_
    refine lv_iadd hx hb dX12_canForge_17 ?_
    have k3 : zI 19 24 (19 + a1) := zI.add (zI.lit (a := 19) (b := 19) (c := 19) (by decide)) g1 (by decide)
    refine miald hx hb hK hw 33 mWg32 k3 (by decide) dX12_canForge_18 ?_
    refine lv_iload_n hx hb dX12_canForge_19 rfl (lv_at hl 2 rfl) ?_
    refine lv_aload_n hx hb dX12_canForge_20 rfl (lv_at hl 0 rfl) ?_
    refine mget (v := .ref (y 1)) hx hb hts hiX12 hown hK hw 10 (by decide) lf13 rfl rfl dX12_canForge_21 ?_
    refine lv_iconst (v := 3) hx hb dX12_canForge_24 (by decide) ?_
    refine ziald hx hb hK hw 2 mWg1 3 (by decide) (by decide) (by decide) dX12_canForge_25 ?_
    refine lv_imul hx hb dX12_canForge_26 ?_
    refine lv_icmp_lt (tgt := 50) hx hb dX12_canForge_27 (by decide) (fun c4 => ?_) (fun c4 => ?_)
    · have hE := zifT c4 hE
      refine lv_iconst (v := 0) hx hb dX12_canForge_50 (by decide) ?_
      exact ziretQ hQ hx hb hr rfl hlocks 0 rfl ⟨((zI.lit (a := 0) (b := 0) (c := 0) (by decide)).w (c := 0) (d := 1) (by decide)), (fun h => absurd rfl h), (hE.symm.trans hX), trivial⟩ hw hS dX12_canForge_51
    · have hE := zifF c4 hE
      refine lv_aload_n hx hb dX12_canForge_30 rfl (lv_at hl 0 rfl) ?_
      refine mget (v := .ref (y 32)) hx hb hts hiX12 hown hK hw 45 (by decide) lf108 rfl rfl dX12_canForge_31 ?_
      refine lv_bipush (v := 13) hx hb dX12_canForge_34 (by decide) ?_
      refine lv_iload_n hx hb dX12_canForge_36 rfl (lv_at hl 1 rfl) ?_
      refine lv_iadd hx hb dX12_canForge_37 ?_
      have k5 : zI 13 18 (13 + a1) := zI.add (zI.lit (a := 13) (b := 13) (c := 13) (by decide)) g1 (by decide)
      refine miald hx hb hK hw 33 mWg32 k5 (by decide) dX12_canForge_38 ?_
      have k6 : zI 0 41 (r 32 (zn (13 + a1))) := (ms_13 hJ0 k5)
      refine lv_iload_n hx hb dX12_canForge_39 rfl (lv_at hl 2 rfl) ?_
      refine lv_iadd hx hb dX12_canForge_40 ?_
      have k7 : zI 0 10040 ((r 32 (zn (13 + a1))) + a2) := zI.add k6 g2 (by decide)
      refine lv_bipush (v := 20) hx hb dX12_canForge_41 (by decide) ?_
      refine lv_icmp_gt (tgt := 50) hx hb dX12_canForge_43 (by decide) (fun c8 => ?_) (fun c8 => ?_)
      · have hE := zifT c8 hE
        have k9 : zI 21 10040 ((r 32 (zn (13 + a1))) + a2) := zI.ltD c8 (zI.lit (a := 20) (b := 20) (c := 20) (by decide)) k7 (by decide)
        refine lv_iconst (v := 0) hx hb dX12_canForge_50 (by decide) ?_
        exact ziretQ hQ hx hb hr rfl hlocks 0 rfl ⟨((zI.lit (a := 0) (b := 0) (c := 0) (by decide)).w (c := 0) (d := 1) (by decide)), (fun h => absurd rfl h), (hE.symm.trans hX), trivial⟩ hw hS dX12_canForge_51
      · have hE := zifF c8 hE
        have k10 : zI 0 20 ((r 32 (zn (13 + a1))) + a2) := zI.leU (zI.nlt c8) k7 (zI.lit (a := 20) (b := 20) (c := 20) (by decide)) (by decide)
        refine lv_iconst (v := 1) hx hb dX12_canForge_46 (by decide) ?_
        refine lv_goto (tgt := 51) hx hb dX12_canForge_47 (by decide) ?_
        exact ziretQ hQ hx hb hr rfl hlocks 1 rfl ⟨((zI.lit (a := 1) (b := 1) (c := 1) (by decide)).w (c := 0) (d := 1) (by decide)), (show ¬ (1 : Int32) = 0 → zI 0 20 (r 32 (zn (13 + a1)) + a2) from (fun _ => k10)), (hE.symm.trans hX), trivial⟩ hw hS dX12_canForge_51

noncomputable def Gm_forges (a1 : Int32) (a2 : Int32) (r : zRr) (q : zRq) : zRr :=
  zlet (α := zRr) (zset r 32 (upd (r 32) (zn (19 + a1)) ((r 32 (zn (19 + a1))) - (a2 * (r 1 3))))) <| fun r2 => zlet (α := zRr) (zset r2 32 (upd (r2 32) (zn (13 + a1)) ((r2 32 (zn (13 + a1))) + a2))) <| fun r6 => r6
set_option maxHeartbeats 4000000 in
set_option maxRecDepth 100000 in
theorem mc_forges (l : Launch) (D : va_G) (ct : Nat → ClassId) (h0 : Nat) (y : Nat → Nat) (B : Int) (a1 : Int32) (a2 : Int32) (r : zRr) (q : zRq) (g1 : zI 0 5 a1) (g2 : zI 0 9999 a2) (hJ0 : mJ B r) (x1 : zI 0 20 (r 32 (zn (13 + a1)) + a2)) : zC l yX12_forges (.code yX12_forges cX12_forges 3 none :: wsL_law0) ({ frames := 1, cells := 0, slots := 0, locals := 80 }) D ct [] [.ref h0, .int a1, .int a2] (mW ct h0 y r q) (S := zRr) (fun u => none) (fun u => mJ B u ∧ zFr [32] r u ∧ u = (Gm_forges a1 a2 r q) ∧ True) (fun u => mW ct h0 y u q) 0 0 := by
  refine zofQ cX12_forges 3 none (by decide) rfl (Nat.le_of_ble_eq_true rfl) ?_
  intro p e s m below meth c A a9 Q ha9 hx hb hr hml hts hown hlocks hname hK hA hZ hN hQ
  have hown : s.vm.findClass RX12 = some m.cls := hown
  have hiX12 : ∀ w ∈ wsX120, w ∈ .code yX12_forges cX12_forges 3 none :: wsL_law0 := fun _ h => ki (zs_wsX120 _ h)
  have lf13 := hts (.fieldLink RX12 13 "BeardPassModel" "land" "[I") (ki (zr7 20 rfl))
  have lf108 := hts (.fieldLink RX12 108 "BeardPassModel" "s" "[I") (ki (zr9 4 rfl))
  obtain ⟨X, hX⟩ : ∃ X, X = (Gm_forges a1 a2 r q) := ⟨_, rfl⟩
  intro H locs hw hS ls hl
  have hl : lv_has ls 3 [(0, .ref h0), (1, .int a1), (2, .int a2)] := hl
  have hE := hX
  unfold Gm_forges at hE
  refine lv_aload_n hx hb dX12_forges_0 rfl (lv_at hl 0 rfl) ?_
  refine mget (v := .ref (y 32)) hx hb hts hiX12 hown hK hw 45 (by decide) lf108 rfl rfl dX12_forges_1 ?_
  refine lv_bipush (v := 19) hx hb dX12_forges_4 (by decide) ?_
  refine lv_iload_n hx hb dX12_forges_6 rfl (lv_at hl 1 rfl) ?_
  refine lv_iadd hx hb dX12_forges_7 ?_
  have k1 : zI 19 24 (19 + a1) := zI.add (zI.lit (a := 19) (b := 19) (c := 19) (by decide)) g1 (by decide)
  refine lv_dup2_11 hx hb dX12_forges_8 rfl rfl ?_
  refine miald hx hb hK hw 33 mWg32 k1 (by decide) dX12_forges_9 ?_
  refine lv_iload_n hx hb dX12_forges_10 rfl (lv_at hl 2 rfl) ?_
  refine lv_aload_n hx hb dX12_forges_11 rfl (lv_at hl 0 rfl) ?_
  refine mget (v := .ref (y 1)) hx hb hts hiX12 hown hK hw 10 (by decide) lf13 rfl rfl dX12_forges_12 ?_
  refine lv_iconst (v := 3) hx hb dX12_forges_15 (by decide) ?_
  refine ziald hx hb hK hw 2 mWg1 3 (by decide) (by decide) (by decide) dX12_forges_16 ?_
  refine lv_imul hx hb dX12_forges_17 ?_
  refine lv_isub hx hb dX12_forges_18 ?_
  refine miast hx hb hK hw hS 33 mWg32 k1 (by decide) dX12_forges_19 (mW ct h0 y (zset r 32 (upd (r 32) (zn (19 + a1)) ((r 32 (zn (19 + a1))) - (a2 * (r 1 3))))) q) mWs32 (fun H locs hw hS => ?_)
  refine mgen (P := fun x => mJ B x ∧ zFr [32] r x) hw ⟨hJ0.set rfl (ms_19w k1), (zFr.refl).set rfl⟩ (fun r2 er2 hw pr2 => ?_)
  have hE := zletE er2 hE
  refine lv_aload_n hx hb dX12_forges_20 rfl (lv_at hl 0 rfl) ?_
  refine mget (v := .ref (y 32)) hx hb hts hiX12 hown hK hw 45 (by decide) lf108 rfl rfl dX12_forges_21 ?_
  refine lv_bipush (v := 13) hx hb dX12_forges_24 (by decide) ?_
  refine lv_iload_n hx hb dX12_forges_26 rfl (lv_at hl 1 rfl) ?_
  refine lv_iadd hx hb dX12_forges_27 ?_
  have k3 : zI 13 18 (13 + a1) := zI.add (zI.lit (a := 13) (b := 13) (c := 13) (by decide)) g1 (by decide)
  refine lv_dup2_11 hx hb dX12_forges_28 rfl rfl ?_
  refine miald hx hb hK hw 33 mWg32 k3 (by decide) dX12_forges_29 ?_
  have k4 : zI 0 41 (r2 32 (zn (13 + a1))) := (ms_13 pr2.1 k3)
  refine lv_iload_n hx hb dX12_forges_30 rfl (lv_at hl 2 rfl) ?_
  have k5 : zI 0 20 ((r2 32 (zn (13 + a1))) + a2) := by rw [zs_self er2, pk_un (zn_ne k3 k1 (by decide))]; exact x1
  refine lv_iadd hx hb dX12_forges_31 ?_
  refine miast hx hb hK hw hS 33 mWg32 k3 (by decide) dX12_forges_32 (mW ct h0 y (zset r2 32 (upd (r2 32) (zn (13 + a1)) ((r2 32 (zn (13 + a1))) + a2))) q) mWs32 (fun H locs hw hS => ?_)
  refine mgen (P := fun x => mJ B x ∧ zFr [32] r x) hw ⟨pr2.1.set rfl (ms_13w k3 (mF_w k5 pr2.1.b (by decide))), pr2.2.set rfl⟩ (fun r6 er6 hw pr6 => ?_)
  have hE := zletE er6 hE
  exact zvretQ hQ hx hb hr hlocks r6 rfl ⟨pr6.1, pr6.2, (hE.symm.trans hX), trivial⟩ hw hS dX12_forges_33

noncomputable def Gm_shaves (a1 : Int32) (r : zRr) (q : zRq) : zRr :=
  zlet (α := Int32) (7 + a1) <| fun v1 => zlet (α := zRr) (zset r 32 (upd (r 32) (zn v1) (0 : Int32))) <| fun r2 => zlet (α := Int32) (13 + a1) <| fun v3 => zlet (α := zRr) (zset r2 32 (upd (r2 32) (zn v3) (0 : Int32))) <| fun r4 => r4
set_option maxHeartbeats 4000000 in
set_option maxRecDepth 100000 in
theorem mc_shaves (l : Launch) (D : va_G) (ct : Nat → ClassId) (h0 : Nat) (y : Nat → Nat) (B : Int) (a1 : Int32) (r : zRr) (q : zRq) (g1 : zI 0 5 a1) (hJ0 : mJ B r) : zC l yX12_shaves (.code yX12_shaves cX12_shaves 2 none :: wsL_law0) ({ frames := 1, cells := 0, slots := 0, locals := 80 }) D ct [] [.ref h0, .int a1] (mW ct h0 y r q) (S := zRr) (fun u => none) (fun u => mJ B u ∧ zFr [32] r u ∧ u = (Gm_shaves a1 r q) ∧ True) (fun u => mW ct h0 y u q) 0 0 := by
  refine zofQ cX12_shaves 2 none (by decide) rfl (Nat.le_of_ble_eq_true rfl) ?_
  intro p e s m below meth c A a9 Q ha9 hx hb hr hml hts hown hlocks hname hK hA hZ hN hQ
  have hown : s.vm.findClass RX12 = some m.cls := hown
  have hiX12 : ∀ w ∈ wsX120, w ∈ .code yX12_shaves cX12_shaves 2 none :: wsL_law0 := fun _ h => ki (zs_wsX120 _ h)
  have lf108 := hts (.fieldLink RX12 108 "BeardPassModel" "s" "[I") (ki (zr9 4 rfl))
  obtain ⟨X, hX⟩ : ∃ X, X = (Gm_shaves a1 r q) := ⟨_, rfl⟩
  intro H locs hw hS ls hl
  have hl : lv_has ls 2 [(0, .ref h0), (1, .int a1)] := hl
  have hE := hX
  unfold Gm_shaves at hE
  refine lv_aload_n hx hb dX12_shaves_0 rfl (lv_at hl 0 rfl) ?_
  refine mget (v := .ref (y 32)) hx hb hts hiX12 hown hK hw 45 (by decide) lf108 rfl rfl dX12_shaves_1 ?_
  refine lv_bipush (v := 7) hx hb dX12_shaves_4 (by decide) ?_
  refine lv_iload_n hx hb dX12_shaves_6 rfl (lv_at hl 1 rfl) ?_
  refine lv_iadd hx hb dX12_shaves_7 (zgenE (lo := 7) (hi := 12) (zI.add (zI.lit (a := 7) (b := 7) (c := 7) (by decide)) g1 (by decide)) (fun v1 ev1 hv1 => ?_))
  have hE := zletE ev1 hE
  refine lv_iconst (v := 0) hx hb dX12_shaves_8 (by decide) ?_
  refine miast hx hb hK hw hS 33 mWg32 hv1 (by decide) dX12_shaves_9 (mW ct h0 y (zset r 32 (upd (r 32) (zn v1) (0 : Int32))) q) mWs32 (fun H locs hw hS => ?_)
  refine mgen (P := fun x => mJ B x ∧ zFr [32] r x) hw ⟨hJ0.set rfl (ms_7w hv1), (zFr.refl).set rfl⟩ (fun r2 er2 hw pr2 => ?_)
  have hE := zletE er2 hE
  refine lv_aload_n hx hb dX12_shaves_10 rfl (lv_at hl 0 rfl) ?_
  refine mget (v := .ref (y 32)) hx hb hts hiX12 hown hK hw 45 (by decide) lf108 rfl rfl dX12_shaves_11 ?_
  refine lv_bipush (v := 13) hx hb dX12_shaves_14 (by decide) ?_
  refine lv_iload_n hx hb dX12_shaves_16 rfl (lv_at hl 1 rfl) ?_
  refine lv_iadd hx hb dX12_shaves_17 (zgenE (lo := 13) (hi := 18) (zI.add (zI.lit (a := 13) (b := 13) (c := 13) (by decide)) g1 (by decide)) (fun v3 ev3 hv3 => ?_))
  have hE := zletE ev3 hE
  refine lv_iconst (v := 0) hx hb dX12_shaves_18 (by decide) ?_
  refine miast hx hb hK hw hS 33 mWg32 hv3 (by decide) dX12_shaves_19 (mW ct h0 y (zset r2 32 (upd (r2 32) (zn v3) (0 : Int32))) q) mWs32 (fun H locs hw hS => ?_)
  refine mgen (P := fun x => mJ B x ∧ zFr [32] r x) hw ⟨pr2.1.set rfl (ms_13w hv3 (mF_w (zI.lit (a := 0) (b := 0) (c := 0) (by decide)) pr2.1.b (by decide))), pr2.2.set rfl⟩ (fun r4 er4 hw pr4 => ?_)
  have hE := zletE er4 hE
  exact zvretQ hQ hx hb hr hlocks r4 rfl ⟨pr4.1, pr4.2, (hE.symm.trans hX), trivial⟩ hw hS dX12_shaves_20

noncomputable def Gm_passes_52 (w2_1 : Int32) (ih2 : Int32 → zRr → zRr) (rw52 : zRr) : zRr :=
  ih2 (w2_1 + 1) rw52
noncomputable def Bm_passes_2 (ih2 : Int32 → zRr → zRr) (w2_1 : Int32) (rw2 : zRr) : zRr :=
  zlet (α := Int32) (rw2 1 1) <| fun v2 => zif (v2 ≤ w2_1) (zlet (α := Int32) (rw2 32 0) <| fun v4 => zlet (α := Int32) (v4 + 1) <| fun v5 => zlet (α := zRr) (zset rw2 32 (upd (rw2 32) 0 v5)) <| fun r6 => r6) (zlet (α := Int32) (rw2 6 (zn w2_1)) <| fun v9 => zif (v9 = (1 : Int32)) (Gm_passes_52 w2_1 ih2 rw2) (zlet (α := Int32) (7 + w2_1) <| fun v12 => zlet (α := Int32) (7 + w2_1) <| fun v13 => zlet (α := Int32) (rw2 32 (zn v13)) <| fun v14 => zlet (α := Int32) (rw2 1 2) <| fun v15 => zlet (α := Int32) (v14 + v15) <| fun v16 => zlet (α := Int32) (if v16 < 60 then v16 else 60) <| fun v17 => zlet (α := zRr) (zset rw2 32 (upd (rw2 32) (zn v12) v17)) <| fun r18 => Gm_passes_52 w2_1 ih2 r18))
noncomputable def Gm_passes_2 (n : Nat) : Int32 → zRr → zRr :=
  Nat.rec (motive := fun _ => Int32 → zRr → zRr) (fun _ rw2 => rw2) (fun _ ih => Bm_passes_2 ih) n
noncomputable def Gm_passes (r : zRr) (q : zRq) : zRr :=
  Gm_passes_2 7 0 r
set_option maxHeartbeats 4000000 in
set_option maxRecDepth 100000 in
theorem mc_passes (l : Launch) (D : va_G) (ct : Nat → ClassId) (h0 : Nat) (y : Nat → Nat) (B : Int) (r : zRr) (q : zRq) (hJ0 : mJ B r) : zC l yX12_passes (.code yX12_passes cX12_passes 2 none :: wsL_law0) ({ frames := 2, cells := 0, slots := 0, locals := 120 }) D ct [] [.ref h0] (mW ct h0 y r q) (S := zRr) (fun u => none) (fun u => mJ B u ∧ zFr [32] r u ∧ u = (Gm_passes r q) ∧ True) (fun u => mW ct h0 y u q) 0 0 := by
  refine zofQ cX12_passes 2 none (by decide) rfl (Nat.le_of_ble_eq_true rfl) ?_
  intro p e s m below meth c A a9 Q ha9 hx hb hr hml hts hown hlocks hname hK hA hZ hN hQ
  have hown : s.vm.findClass RX12 = some m.cls := hown
  have hiX12 : ∀ w ∈ wsX120, w ∈ .code yX12_passes cX12_passes 2 none :: wsL_law0 := fun _ h => ki (zs_wsX120 _ h)
  have lf13 := hts (.fieldLink RX12 13 "BeardPassModel" "land" "[I") (ki (zr7 20 rfl))
  have lf29 := hts (.fieldLink RX12 29 "BeardPassModel" "kind" "[I") (ki (zr8 1 rfl))
  have lf108 := hts (.fieldLink RX12 108 "BeardPassModel" "s" "[I") (ki (zr9 4 rfl))
  obtain ⟨X, hX⟩ : ∃ X, X = (Gm_passes r q) := ⟨_, rfl⟩
  have cut2 : ∀ (n2 : Nat) (w2_1 : Int32) (rw2 : zRr) (hw2_1 : zI 0 6 w2_1) (jw2 : mJ B rw2) (fw2 : zFr [32] r rw2) (hE : X = Gm_passes_2 n2 w2_1 rw2), 6 - w2_1.toInt < (n2 : Int) → zKf p l e ({ frames := 2, cells := 0, slots := 0, locals := 120 }) s m a9 below meth c Q D A 2 2 [] (mW ct h0 y rw2 q) [(0, .ref h0), (1, .int w2_1)] := by
    intro n2
    induction n2 with
    | zero => intro w2_1 rw2 hw2_1 jw2 fw2 hE hm2; exact zI.no hw2_1 (by decide) hm2
    | succ n2 ih2 =>
      intro w2_1 rw2 hw2_1 jw2 fw2 hE hm2
      have hE : X = Bm_passes_2 (Gm_passes_2 n2) w2_1 rw2 := hE
      unfold Bm_passes_2 at hE
      have cut52 : ∀ (rw52 : zRr) (hw52_1 : zI 0 5 w2_1) (jw52 : mJ B rw52) (fw52 : zFr [32] r rw52) (hE : X = Gm_passes_52 w2_1 (Gm_passes_2 n2) rw52), zKf p l e ({ frames := 2, cells := 0, slots := 0, locals := 120 }) s m a9 below meth c Q D A 52 2 [] (mW ct h0 y rw52 q) [(0, .ref h0), (1, .int w2_1)] := by
        intro rw52 hw52_1 jw52 fw52 hE H locs ls hw hS hl
        unfold Gm_passes_52 at hE
        refine lv_iinc (v := w2_1 + 1) (lv' := [(1, .int (w2_1 + 1)), (0, .ref h0)]) hx hb dX12_passes_52 hl (k := 1) rfl (rfl) (by decide) rfl (fun ls hl => ?_)
        have k1 : zI 1 6 (w2_1 + 1) := zI.add hw52_1 (zI.lit (a := 1) (b := 1) (by decide)) (by decide)
        refine lv_goto (tgt := 2) hx hb dX12_passes_55 (by decide) ?_
        exact ih2 (w2_1 + 1) rw52 (k1.w (c := 0) (d := 6) (by decide)) jw52 fw52 hE (zI.up hw52_1 (by decide) hm2) H locs ls hw hS (lv_sub hl [1, 0] rfl)
      intro H locs ls hw hS hl
      refine lv_iload_n hx hb dX12_passes_2 rfl (lv_at hl 1 rfl) ?_
      refine lv_aload_n hx hb dX12_passes_3 rfl (lv_at hl 0 rfl) ?_
      refine mget (v := .ref (y 1)) hx hb hts hiX12 hown hK hw 10 (by decide) lf13 rfl rfl dX12_passes_4 ?_
      refine lv_iconst (v := 1) hx hb dX12_passes_7 (by decide) ?_
      refine ziald hx hb hK hw 2 mWg1 1 (by decide) (by decide) (by decide) dX12_passes_8 (zgenE (lo := 0) (hi := 6) ((show zI 0 6 (rw2 1 1) from jw2.i 1 1)) (fun v2 ev2 hv2 => ?_))
      have hE := zletE ev2 hE
      refine lv_icmp_ge (tgt := 58) hx hb dX12_passes_9 (by decide) (fun c3 => ?_) (fun c3 => ?_)
      · have hE := zifT c3 hE
        refine lv_aload_n hx hb dX12_passes_58 rfl (lv_at hl 0 rfl) ?_
        refine mget (v := .ref (y 32)) hx hb hts hiX12 hown hK hw 45 (by decide) lf108 rfl rfl dX12_passes_59 ?_
        refine lv_iconst (v := 0) hx hb dX12_passes_62 (by decide) ?_
        refine lv_dup2_11 hx hb dX12_passes_63 rfl rfl ?_
        refine ziald hx hb hK hw 33 mWg32 0 (by decide) (by decide) (by decide) dX12_passes_64 (zgenE (zI.top _) (fun v4 ev4 _ => ?_))
        have hE := zletE ev4 hE
        refine lv_iconst (v := 1) hx hb dX12_passes_65 (by decide) ?_
        refine lv_iadd hx hb dX12_passes_66 (zgenE (zI.top _) (fun v5 ev5 _ => ?_))
        have hE := zletE ev5 hE
        refine ziast hx hb hK hw hS 33 mWg32 0 (by decide) (by decide) (by decide) dX12_passes_67 (mW ct h0 y (zset rw2 32 (upd (rw2 32) 0 v5)) q) mWs32 (fun H locs hw hS => ?_)
        refine mgen (P := fun x => mJ B x ∧ zFr [32] r x) hw ⟨jw2.set rfl (zI.top _), fw2.set rfl⟩ (fun r6 er6 hw pr6 => ?_)
        have hE := zletE er6 hE
        exact zvretQ hQ hx hb hr hlocks r6 rfl ⟨pr6.1, pr6.2, (hE.symm.trans hX), trivial⟩ hw hS dX12_passes_68
      · have hE := zifF c3 hE
        have k7 : zI 0 5 (w2_1) := zI.ltU (zI.nle c3) hw2_1 hv2 (by decide)
        have k8 : zI 1 6 (v2) := zI.ltD (zI.nle c3) hw2_1 hv2 (by decide)
        refine lv_aload_n hx hb dX12_passes_12 rfl (lv_at hl 0 rfl) ?_
        refine mget (v := .ref (y 6)) hx hb hts hiX12 hown hK hw 15 (by decide) lf29 rfl rfl dX12_passes_13 ?_
        refine lv_iload_n hx hb dX12_passes_16 rfl (lv_at hl 1 rfl) ?_
        refine miald hx hb hK hw 7 mWg6 k7 (by decide) dX12_passes_17 (zgenE (zI.top _) (fun v9 ev9 _ => ?_))
        have hE := zletE ev9 hE
        refine lv_iconst (v := 1) hx hb dX12_passes_18 (by decide) ?_
        refine lv_icmp_eq (tgt := 52) hx hb dX12_passes_19 (by decide) (fun c10 => ?_) (fun c10 => ?_)
        · have hE := zifT c10 hE
          have k11 : zI 1 1 (v9) := zI.eqq c10 (zI.lit (a := 1) (b := 1) (c := 1) (by decide))
          exact cut52 rw2 k7 jw2 fw2 hE H locs ls hw hS (lv_sub hl [0, 1] rfl)
        · have hE := zifF c10 hE
          refine lv_aload_n hx hb dX12_passes_22 rfl (lv_at hl 0 rfl) ?_
          refine mget (v := .ref (y 32)) hx hb hts hiX12 hown hK hw 45 (by decide) lf108 rfl rfl dX12_passes_23 ?_
          refine lv_bipush (v := 7) hx hb dX12_passes_26 (by decide) ?_
          refine lv_iload_n hx hb dX12_passes_28 rfl (lv_at hl 1 rfl) ?_
          refine lv_iadd hx hb dX12_passes_29 (zgenE (lo := 7) (hi := 12) (zI.add (zI.lit (a := 7) (b := 7) (c := 7) (by decide)) k7 (by decide)) (fun v12 ev12 hv12 => ?_))
          have hE := zletE ev12 hE
          refine lv_bipush (v := 60) hx hb dX12_passes_30 (by decide) ?_
          refine lv_aload_n hx hb dX12_passes_32 rfl (lv_at hl 0 rfl) ?_
          refine mget (v := .ref (y 32)) hx hb hts hiX12 hown hK hw 45 (by decide) lf108 rfl rfl dX12_passes_33 ?_
          refine lv_bipush (v := 7) hx hb dX12_passes_36 (by decide) ?_
          refine lv_iload_n hx hb dX12_passes_38 rfl (lv_at hl 1 rfl) ?_
          refine lv_iadd hx hb dX12_passes_39 (zgenE (lo := 7) (hi := 12) (zI.add (zI.lit (a := 7) (b := 7) (c := 7) (by decide)) k7 (by decide)) (fun v13 ev13 hv13 => ?_))
          have hE := zletE ev13 hE
          refine miald hx hb hK hw 33 mWg32 hv13 (by decide) dX12_passes_40 (zgenE (zI.top _) (fun v14 ev14 _ => ?_))
          have hE := zletE ev14 hE
          refine lv_aload_n hx hb dX12_passes_41 rfl (lv_at hl 0 rfl) ?_
          refine mget (v := .ref (y 1)) hx hb hts hiX12 hown hK hw 10 (by decide) lf13 rfl rfl dX12_passes_42 ?_
          refine lv_iconst (v := 2) hx hb dX12_passes_45 (by decide) ?_
          refine ziald hx hb hK hw 2 mWg1 2 (by decide) (by decide) (by decide) dX12_passes_46 (zgenE (zI.top _) (fun v15 ev15 _ => ?_))
          have hE := zletE ev15 hE
          refine lv_iadd hx hb dX12_passes_47 (zgenE (zI.top _) (fun v16 ev16 _ => ?_))
          have hE := zletE ev16 hE
          refine va_mmin hx hb (hml.trans hl.1.symm) hown (hts (.methodLink RX12 365 Lib.Math.min.name) (ki (zr39 13 rfl))) (hts (.static Lib.Math.min.name) (ki (zr35 17 rfl))) (hts (.initialized "java/lang/Math") (ki (zr35 18 rfl))) (hts (.code Lib.Math.min.name Lib.Math.min.code 2 (some .int)) (ki (zr35 19 rfl))) (Nat.le_of_ble_eq_true rfl) (Nat.le_of_ble_eq_true rfl) (Nat.le_of_ble_eq_true rfl) (Nat.le_of_ble_eq_true rfl) dX12_passes_48 (zgenE (zI.top _) (fun v17 ev17 _ => ?_))
          have hE := zletE ev17 hE
          refine miast hx hb hK hw hS 33 mWg32 hv12 (by decide) dX12_passes_51 (mW ct h0 y (zset rw2 32 (upd (rw2 32) (zn v12) v17)) q) mWs32 (fun H locs hw hS => ?_)
          refine mgen (P := fun x => mJ B x ∧ zFr [32] r x) hw ⟨jw2.set rfl (ms_7w hv12), fw2.set rfl⟩ (fun r18 er18 hw pr18 => ?_)
          have hE := zletE er18 hE
          exact cut52 r18 k7 pr18.1 pr18.2 hE H locs ls hw hS (lv_sub hl [0, 1] rfl)
  intro H locs hw hS ls hl
  have hl : lv_has ls 2 [(0, .ref h0)] := hl
  have hE := hX
  unfold Gm_passes at hE
  refine lv_iconst (v := 0) hx hb dX12_passes_0 (by decide) ?_
  refine lv_istore_n (lv' := [(1, .int 0), (0, .ref h0)]) hx hb dX12_passes_1 rfl hl (by decide) rfl (fun ls hl => ?_)
  exact cut2 7 0 r ((zI.lit (a := 0) (b := 0) (c := 0) (by decide)).w (c := 0) (d := 6) (by decide)) hJ0 (zFr.refl) hE (zI.m0 (zI.lit (a := 0) (b := 0) (c := 0) (by decide)) (by decide)) H locs ls hw hS (lv_sub hl [1, 0] rfl)

set_option maxHeartbeats 4000000 in
set_option maxRecDepth 100000 in
theorem mc_letThrough (l : Launch) (D : va_G) (ct : Nat → ClassId) (h0 : Nat) (y : Nat → Nat) (B : Int) (a1 : Int32) (r : zRr) (q : zRq) (g1 : zI 0 5 a1) (hJ0 : mJ B r) : zC l yX12_letThrough (.code yX12_letThrough cX12_letThrough 4 (some .int) :: wsL_law0) ({ frames := 8, cells := 0, slots := 0, locals := 360 }) D ct [] [.ref h0, .int a1] (mW ct h0 y r q) (S := Int32 × zRr) (fun u => some (.int u.1)) (fun u => zI 0 63 u.1 ∧ mJ B u.2 ∧ zFr [15, 16, 17, 18, 19, 20, 21, 22, 23, 24] r u.2 ∧ True) (fun u => mW ct h0 y u.2 q) 0 0 := by
  refine zofQ cX12_letThrough 4 (some .int) (by decide) rfl (Nat.le_of_ble_eq_true rfl) ?_
  intro p e s m below meth c A a9 Q ha9 hx hb hr hml hts hown hlocks hname hK hA hZ hN hQ
  have hown : s.vm.findClass RX12 = some m.cls := hown
  have hiX12 : ∀ w ∈ wsX120, w ∈ .code yX12_letThrough cX12_letThrough 4 (some .int) :: wsL_law0 := fun _ h => ki (zs_wsX120 _ h)
  have lf13 := hts (.fieldLink RX12 13 "BeardPassModel" "land" "[I") (ki (zr7 20 rfl))
  have lf108 := hts (.fieldLink RX12 108 "BeardPassModel" "s" "[I") (ki (zr9 4 rfl))
  have cut4 : ∀ (n : Nat) (w4_2 : Int32) (w4_3 : Int32) (rw4 : zRr) (hw4_1 : zI 0 5 a1) (hw4_2 : zI 0 63 w4_2) (hw4_3 : zI 0 6 w4_3) (jw4 : mJ B rw4) (fw4 : zFr [15, 16, 17, 18, 19, 20, 21, 22, 23, 24] r rw4), 6 - w4_3.toInt < (n : Int) → zKf p l e ({ frames := 8, cells := 0, slots := 0, locals := 360 }) s m a9 below meth c Q D A 4 4 [] (mW ct h0 y rw4 q) [(0, .ref h0), (1, .int a1), (2, .int w4_2), (3, .int w4_3)] := by
    intro n
    induction n with
    | zero => intro w4_2 w4_3 rw4 hw4_1 hw4_2 hw4_3 jw4 fw4 hm4; exact zI.no hw4_3 (by decide) hm4
    | succ n ih4 =>
      intro w4_2 w4_3 rw4 hw4_1 hw4_2 hw4_3 jw4 fw4 hm4
      have cut39 : ∀ (w39_s0 : Int32) (rw39 : zRr) (hw39_1 : zI 0 5 a1) (hw39_3 : zI 0 5 w4_3) (hw39_s0 : zI 0 39 w39_s0) (hw39_s1 : zI 0 63 w4_2) (jw39 : mJ B rw39) (fw39 : zFr [15, 16, 17, 18, 19, 20, 21, 22, 23, 24] r rw39), zKf p l e ({ frames := 8, cells := 0, slots := 0, locals := 360 }) s m a9 below meth c Q D A 39 4 [.int w39_s0, .int w4_2] (mW ct h0 y rw39 q) [(0, .ref h0), (1, .int a1), (3, .int w4_3)] := by
        intro w39_s0 rw39 hw39_1 hw39_3 hw39_s0 hw39_s1 jw39 fw39 H locs ls hw hS hl
        refine lv_ior hx hb dX12_letThrough_39 (zgen (lo := 0) (hi := 63) (zI.or 6 hw39_s1 hw39_s0 (by decide)) (fun v1 hv1 => ?_))
        refine lv_istore_n (lv' := [(2, .int v1), (0, .ref h0), (1, .int a1), (3, .int w4_3)]) hx hb dX12_letThrough_40 rfl hl (by decide) rfl (fun ls hl => ?_)
        refine lv_iinc (v := w4_3 + 1) (lv' := [(3, .int (w4_3 + 1)), (2, .int v1), (0, .ref h0), (1, .int a1)]) hx hb dX12_letThrough_41 hl (k := 3) rfl (rfl) (by decide) rfl (fun ls hl => ?_)
        have k2 : zI 1 6 (w4_3 + 1) := zI.add hw39_3 (zI.lit (a := 1) (b := 1) (by decide)) (by decide)
        refine lv_goto (tgt := 4) hx hb dX12_letThrough_44 (by decide) ?_
        exact ih4 v1 (w4_3 + 1) rw39 hw39_1 hv1 (k2.w (c := 0) (d := 6) (by decide)) jw39 fw39 (zI.up hw39_3 (by decide) hm4) H locs ls hw hS (lv_sub hl [2, 3, 1, 0] rfl)
      intro H locs ls hw hS hl
      refine lv_iload_n hx hb dX12_letThrough_4 rfl (lv_at hl 3 rfl) ?_
      refine lv_aload_n hx hb dX12_letThrough_5 rfl (lv_at hl 0 rfl) ?_
      refine mget (v := .ref (y 1)) hx hb hts hiX12 hown hK hw 10 (by decide) lf13 rfl rfl dX12_letThrough_6 ?_
      refine lv_iconst (v := 1) hx hb dX12_letThrough_9 (by decide) ?_
      refine ziald hx hb hK hw 2 mWg1 1 (by decide) (by decide) (by decide) dX12_letThrough_10 (zgen (lo := 0) (hi := 6) ((show zI 0 6 (rw4 1 1) from jw4.i 1 1)) (fun v3 hv3 => ?_))
      refine lv_icmp_ge (tgt := 47) hx hb dX12_letThrough_11 (by decide) (fun c4 => ?_) (fun c4 => ?_)
      · refine lv_iload_n hx hb dX12_letThrough_47 rfl (lv_at hl 2 rfl) ?_
        exact ziretQ hQ hx hb hr rfl hlocks (w4_2, rw4) rfl ⟨hw4_2, jw4, fw4, trivial⟩ hw hS dX12_letThrough_48
      · have k5 : zI 0 5 (w4_3) := zI.ltU (zI.nle c4) hw4_3 hv3 (by decide)
        have k6 : zI 1 6 (v3) := zI.ltD (zI.nle c4) hw4_3 hv3 (by decide)
        refine lv_iload_n hx hb dX12_letThrough_14 rfl (lv_at hl 2 rfl) ?_
        refine lv_aload_n hx hb dX12_letThrough_15 rfl (lv_at hl 0 rfl) ?_
        refine lv_iload_n hx hb dX12_letThrough_16 rfl (lv_at hl 1 rfl) ?_
        refine lv_iload_n hx hb dX12_letThrough_17 rfl (lv_at hl 3 rfl) ?_
        refine lv_aload_n hx hb dX12_letThrough_18 rfl (lv_at hl 0 rfl) ?_
        refine mget (v := .ref (y 32)) hx hb hts hiX12 hown hK hw 45 (by decide) lf108 rfl rfl dX12_letThrough_19 ?_
        refine lv_iconst (v := 1) hx hb dX12_letThrough_22 (by decide) ?_
        refine lv_iload_n hx hb dX12_letThrough_23 rfl (lv_at hl 3 rfl) ?_
        refine lv_iadd hx hb dX12_letThrough_24 (zgen (lo := 1) (hi := 6) (zI.add (zI.lit (a := 1) (b := 1) (c := 1) (by decide)) k5 (by decide)) (fun v7 hv7 => ?_))
        refine miald hx hb hK hw 33 mWg32 hv7 (by decide) dX12_letThrough_25 (zgen (lo := 0) (hi := 5) ((ms_1 jw4 hv7)) (fun v8 hv8 => ?_))
        refine zcallW (va_runV (As := [.int a1, .int w4_3, .int v8]) (rest := [.int w4_2]) ⟨hx, hb, hml, hown, hts⟩ (mc_lets l D ct h0 y B a1 w4_3 v8 rw4 q hw4_1 k5 jw4 H.size) (cwV 3 hts (kgV (zr33 18 rfl) (zr33 19 rfl) (zr33 20 rfl) (zr1 5 rfl) (zr33 21 rfl)) rfl rfl rfl (by decide +kernel) ⟨Nat.le_of_ble_eq_true rfl, Nat.le_of_ble_eq_true rfl⟩) (zpreV hK hw hS hA zZ.nil hN (List.range (mW ct h0 y rw4 q).length) mWn (zrange _) 11 0 rfl mWo) rfl rfl hl.1 rfl (lv_room (Nat.le_of_ble_eq_true rfl)) dX12_letThrough_26 ⟨Nat.le_of_ble_eq_true rfl, Nat.le_of_ble_eq_true rfl⟩) hw hS hA 29 rfl (fun u9 H locs pu9 hw hS => ?_)
        obtain ⟨v10, r11⟩ := u9
        have hv10 : zI 0 1 v10 := pu9.1
        have ju9 : mJ B r11 := pu9.2.1
        have fu9 : zFr [15, 16, 17, 18, 19, 20, 21, 22, 23, 24] rw4 r11 := pu9.2.2.1
        have xu9 : (v10, r11) = (Gm_lets a1 w4_3 v8 rw4 q) := pu9.2.2.2.1
        have hw : zPD D A (mW ct h0 y r11 q) H := hw
        refine zfr 29 [.int v10, .int w4_2] rfl rfl ?_
        refine lv_if_eq (tgt := 38) hx hb dX12_letThrough_29 (by decide) (fun c12 => ?_) (fun c12 => ?_)
        · have k13 : zI 0 0 (v10) := zI.eqq c12 (zI.lit (a := 0) (b := 0) (c := 0) (by decide))
          refine lv_iconst (v := 0) hx hb dX12_letThrough_38 (by decide) ?_
          exact cut39 0 r11 hw4_1 k5 ((zI.lit (a := 0) (b := 0) (c := 0) (by decide)).w (c := 0) (d := 39) (by decide)) hw4_2 ju9 (fw4.tr fu9 rfl) H locs ls hw hS (lv_sub hl [0, 1, 3] rfl)
        · have k14 : zI 1 1 (v10) := zI.neD c12 hv10 (zI.lit (a := 0) (b := 0) (c := 0) (by decide)) (by decide)
          refine lv_iconst (v := 1) hx hb dX12_letThrough_32 (by decide) ?_
          refine lv_iload_n hx hb dX12_letThrough_33 rfl (lv_at hl 3 rfl) ?_
          refine lv_ishl hx hb dX12_letThrough_34 (zgen (lo := 1) (hi := 32) (zI.shl k5 5 (by decide)) (fun v15 hv15 => ?_))
          refine lv_goto (tgt := 39) hx hb dX12_letThrough_35 (by decide) ?_
          exact cut39 v15 r11 hw4_1 k5 (hv15.w (c := 0) (d := 39) (by decide)) hw4_2 ju9 (fw4.tr fu9 rfl) H locs ls hw hS (lv_sub hl [0, 1, 3] rfl)
  intro H locs hw hS ls hl
  have hl : lv_has ls 4 [(0, .ref h0), (1, .int a1)] := hl
  refine lv_iconst (v := 0) hx hb dX12_letThrough_0 (by decide) ?_
  refine lv_istore_n (lv' := [(2, .int 0), (0, .ref h0), (1, .int a1)]) hx hb dX12_letThrough_1 rfl hl (by decide) rfl (fun ls hl => ?_)
  refine lv_iconst (v := 0) hx hb dX12_letThrough_2 (by decide) ?_
  refine lv_istore_n (lv' := [(3, .int 0), (2, .int 0), (0, .ref h0), (1, .int a1)]) hx hb dX12_letThrough_3 rfl hl (by decide) rfl (fun ls hl => ?_)
  exact cut4 7 0 0 r g1 ((zI.lit (a := 0) (b := 0) (c := 0) (by decide)).w (c := 0) (d := 63) (by decide)) ((zI.lit (a := 0) (b := 0) (c := 0) (by decide)).w (c := 0) (d := 6) (by decide)) hJ0 (zFr.refl) (zI.m0 (zI.lit (a := 0) (b := 0) (c := 0) (by decide)) (by decide)) H locs ls hw hS (lv_sub hl [2, 3, 1, 0] rfl)

set_option maxHeartbeats 4000000 in
set_option maxRecDepth 100000 in
theorem mc_town (l : Launch) (D : va_G) (ct : Nat → ClassId) (h0 : Nat) (y : Nat → Nat) (B : Int) (a1 : Int32) (a2 : Int32) (r : zRr) (q : zRq) (hJ0 : mJ B r) : zC l yX12_town (.code yX12_town cX12_town 3 (some .int) :: wsL_law0) ({ frames := 9, cells := 0, slots := 0, locals := 400 }) D ct [] [.ref h0, .int a1, .int a2] (mW ct h0 y r q) (S := Int32 × zRr) (fun u => some (.int u.1)) (fun u => zI (-2147483648) 2147483647 u.1 ∧ mJ B u.2 ∧ zFr [15, 16, 17, 18, 19, 20, 21, 22, 23, 24, 100] r u.2 ∧ True) (fun u => mW ct h0 y u.2 q) 0 0 := by
  refine zofQ cX12_town 3 (some .int) (by decide) rfl (Nat.le_of_ble_eq_true rfl) ?_
  intro p e s m below meth c A a9 Q ha9 hx hb hr hml hts hown hlocks hname hK hA hZ hN hQ
  have hown : s.vm.findClass RX12 = some m.cls := hown
  have hiX12 : ∀ w ∈ wsX120, w ∈ .code yX12_town cX12_town 3 (some .int) :: wsL_law0 := fun _ h => ki (zs_wsX120 _ h)
  have lf23 := hts (.fieldLink RX12 23 "BeardPassModel" "asks" "[I") (ki (zr7 23 rfl))
  have lf26 := hts (.fieldLink RX12 26 "BeardPassModel" "roads" "[I") (ki (zr8 0 rfl))
  have lf129 := hts (.fieldLink RX12 129 "BeardPassModel" "thrown" "I") (ki (zr10 1 rfl))
  intro H locs hw hS ls hl
  have hl : lv_has ls 3 [(0, .ref h0), (1, .int a1), (2, .int a2)] := hl
  refine lv_aload_n hx hb dX12_town_0 rfl (lv_at hl 0 rfl) ?_
  refine lv_iconst (v := 0) hx hb dX12_town_1 (by decide) ?_
  refine mput (ty := .int) (v := .int 0) hx hb hts hiX12 hown hK hw hS 0 (by decide) lf129 rfl rfl (by decide +kernel) rfl rfl dX12_town_2 (zset r 100 (fun _ => (0 : Int32))) _ mWf0 (fun H locs hw hS => ?_)
  refine mgen (P := fun x => mJ B x ∧ zFr [15, 16, 17, 18, 19, 20, 21, 22, 23, 24, 100] r x) hw ⟨hJ0.setc rfl (fun _ => (zI.top _)), (zFr.refl).set rfl⟩ (fun r1 er1 hw pr1 => ?_)
  refine lv_aload_n hx hb dX12_town_5 rfl (lv_at hl 0 rfl) ?_
  refine lv_iload_n hx hb dX12_town_6 rfl (lv_at hl 1 rfl) ?_
  refine zcallW (va_runV (As := [.int a1]) (rest := []) ⟨hx, hb, hml, hown, hts⟩ (mc_isTown l D ct h0 y B a1 r1 q pr1.1 H.size) (cwV 1 hts (kgV (zr33 10 rfl) (zr33 11 rfl) (zr33 12 rfl) (zr1 5 rfl) (zr33 13 rfl)) rfl rfl rfl (by decide +kernel) ⟨Nat.le_of_ble_eq_true rfl, Nat.le_of_ble_eq_true rfl⟩) (zpreV hK hw hS hA zZ.nil hN (List.range (mW ct h0 y r1 q).length) mWn (zrange _) 11 0 rfl mWo) rfl rfl hl.1 rfl (lv_room (Nat.le_of_ble_eq_true rfl)) dX12_town_7 ⟨Nat.le_of_ble_eq_true rfl, Nat.le_of_ble_eq_true rfl⟩) hw hS hA 10 rfl (fun u2 H locs pu2 hw hS => ?_)
  have hu2 : zI 0 1 u2 := pu2.1
  have yu2_0 : ¬ u2 = 0 → zI 0 5 a1 := pu2.2.1
  have xu2 : u2 = (Gm_isTown a1 r1 q) := pu2.2.2.1
  have hw : zPD D A (mW ct h0 y r1 q) H := hw
  refine zfr 10 [.int u2] rfl rfl ?_
  refine lv_if_eq (tgt := 22) hx hb dX12_town_10 (by decide) (fun c4 => ?_) (fun c4 => ?_)
  · have k5 : zI 0 0 (u2) := zI.eqq c4 (zI.lit (a := 0) (b := 0) (c := 0) (by decide))
    refine lv_iconst (v := (-1)) hx hb dX12_town_22 (by decide) ?_
    exact ziretQ hQ hx hb hr rfl hlocks ((-1), r1) rfl ⟨(zI.top _), pr1.1, pr1.2, trivial⟩ hw hS dX12_town_23
  · have k6 : zI 1 1 (u2) := zI.neD c4 hu2 (zI.lit (a := 0) (b := 0) (c := 0) (by decide)) (by decide)
    refine lv_iload_n hx hb dX12_town_13 rfl (lv_at hl 2 rfl) ?_
    refine lv_iconst (v := 0) hx hb dX12_town_14 (by decide) ?_
    refine lv_iconst (v := 2) hx hb dX12_town_15 (by decide) ?_
    refine zcallE (va_runS (As := [.int a2, .int 0, .int 2]) (rest := []) ⟨hx, hb, hml, hown, hts⟩ (mc_within l D ct a2 0 2 H.size) (va_cwS 3 hts (kgS (zr25 11 rfl) (zr25 12 rfl) (zr1 5 rfl) (zr25 13 rfl)) rfl rfl rfl (by decide +kernel) ⟨Nat.le_of_ble_eq_true rfl, Nat.le_of_ble_eq_true rfl⟩) (zpreS hK hw hS hA zZ.nil hN [] rfl rfl) rfl rfl hl.1 rfl (lv_room (Nat.le_of_ble_eq_true rfl)) dX12_town_16 ⟨Nat.le_of_ble_eq_true rfl, Nat.le_of_ble_eq_true rfl⟩) hw hS hA mWn 19 rfl (fun u7 H locs pu7 hw hS => ?_)
    have hu7 : zI 0 1 u7 := pu7.1
    have yu7_0 : ¬ u7 = 0 → (0 : Int32) ≤ a2 ∧ a2 ≤ (2 : Int32) := pu7.2.1
    have xu7 : u7 = (Gm_within a2 (0 : Int32) (2 : Int32)) := pu7.2.2.1
    refine zfr 19 [.int u7] rfl rfl ?_
    refine lv_if_ne (tgt := 24) hx hb dX12_town_19 (by decide) (fun c9 => ?_) (fun c9 => ?_)
    · have k10 : zI 1 1 (u7) := zI.neD c9 hu7 (zI.lit (a := 0) (b := 0) (c := 0) (by decide)) (by decide)
      have k11 : zI 0 2147483647 (a2) := zI.leD (yu7_0 c9).1 (zI.lit (a := 0) (b := 0) (c := 0) (by decide)) (zI.top _) (by decide)
      have k12 : zI 0 2 (a2) := zI.leU (yu7_0 c9).2 k11 (zI.lit (a := 2) (b := 2) (c := 2) (by decide)) (by decide)
      refine lv_iload_n hx hb dX12_town_24 rfl (lv_at hl 2 rfl) ?_
      refine lv_if_ne (tgt := 37) hx hb dX12_town_25 (by decide) (fun c13 => ?_) (fun c13 => ?_)
      · have k14 : zI 1 2 (a2) := zI.neD c13 k12 (zI.lit (a := 0) (b := 0) (c := 0) (by decide)) (by decide)
        refine lv_iload_n hx hb dX12_town_37 rfl (lv_at hl 2 rfl) ?_
        refine lv_iconst (v := 1) hx hb dX12_town_38 (by decide) ?_
        refine lv_icmp_ne (tgt := 51) hx hb dX12_town_39 (by decide) (fun c15 => ?_) (fun c15 => ?_)
        · have k16 : zI 2 2 (a2) := zI.neD c15 k14 (zI.lit (a := 1) (b := 1) (c := 1) (by decide)) (by decide)
          refine lv_aload_n hx hb dX12_town_51 rfl (lv_at hl 0 rfl) ?_
          refine lv_iload_n hx hb dX12_town_52 rfl (lv_at hl 1 rfl) ?_
          refine zcallW (va_runV (As := [.int a1]) (rest := []) ⟨hx, hb, hml, hown, hts⟩ (mc_letThrough l D ct h0 y B a1 r1 q (yu2_0 c4) pr1.1 H.size) (cwV 1 hts (kgV (zr33 14 rfl) (zr33 15 rfl) (zr33 16 rfl) (zr1 5 rfl) (zr33 17 rfl)) rfl rfl rfl (by decide +kernel) ⟨Nat.le_of_ble_eq_true rfl, Nat.le_of_ble_eq_true rfl⟩) (zpreV hK hw hS hA zZ.nil hN (List.range (mW ct h0 y r1 q).length) mWn (zrange _) 11 0 rfl mWo) rfl rfl hl.1 rfl (lv_room (Nat.le_of_ble_eq_true rfl)) dX12_town_53 ⟨Nat.le_of_ble_eq_true rfl, Nat.le_of_ble_eq_true rfl⟩) hw hS hA 56 rfl (fun u17 H locs pu17 hw hS => ?_)
          obtain ⟨v18, r19⟩ := u17
          have hv18 : zI 0 63 v18 := pu17.1
          have ju17 : mJ B r19 := pu17.2.1
          have fu17 : zFr [15, 16, 17, 18, 19, 20, 21, 22, 23, 24] r1 r19 := pu17.2.2.1
          have hw : zPD D A (mW ct h0 y r19 q) H := hw
          refine zfr 56 [.int v18] rfl rfl ?_
          exact ziretQ hQ hx hb hr rfl hlocks (v18, r19) rfl ⟨(zI.top _), ju17, (pr1.2.tr fu17 rfl), trivial⟩ hw hS dX12_town_56
        · have k20 : zI 1 1 (a2) := zI.eqq c15 (zI.lit (a := 1) (b := 1) (c := 1) (by decide))
          refine lv_aload_n hx hb dX12_town_42 rfl (lv_at hl 0 rfl) ?_
          refine mget (v := .ref (y 5)) hx hb hts hiX12 hown hK hw 14 (by decide) lf26 rfl rfl dX12_town_43 ?_
          refine lv_iload_n hx hb dX12_town_46 rfl (lv_at hl 1 rfl) ?_
          refine miald hx hb hK hw 6 mWg5 (yu2_0 c4) (by decide) dX12_town_47 (zgen (zI.top _) (fun v21 _ => ?_))
          refine lv_goto (tgt := 56) hx hb dX12_town_48 (by decide) ?_
          exact ziretQ hQ hx hb hr rfl hlocks (v21, r1) rfl ⟨(zI.top _), pr1.1, pr1.2, trivial⟩ hw hS dX12_town_56
      · have k22 : zI 0 0 (a2) := zI.eqq c13 (zI.lit (a := 0) (b := 0) (c := 0) (by decide))
        refine lv_aload_n hx hb dX12_town_28 rfl (lv_at hl 0 rfl) ?_
        refine mget (v := .ref (y 4)) hx hb hts hiX12 hown hK hw 13 (by decide) lf23 rfl rfl dX12_town_29 ?_
        refine lv_iload_n hx hb dX12_town_32 rfl (lv_at hl 1 rfl) ?_
        refine miald hx hb hK hw 5 mWg4 (yu2_0 c4) (by decide) dX12_town_33 (zgen (zI.top _) (fun v23 _ => ?_))
        refine lv_goto (tgt := 56) hx hb dX12_town_34 (by decide) ?_
        exact ziretQ hQ hx hb hr rfl hlocks (v23, r1) rfl ⟨(zI.top _), pr1.1, pr1.2, trivial⟩ hw hS dX12_town_56
    · have k24 : zI 0 0 (u7) := zI.eqq c9 (zI.lit (a := 0) (b := 0) (c := 0) (by decide))
      refine lv_iconst (v := (-1)) hx hb dX12_town_22 (by decide) ?_
      exact ziretQ hQ hx hb hr rfl hlocks ((-1), r1) rfl ⟨(zI.top _), pr1.1, pr1.2, trivial⟩ hw hS dX12_town_23

noncomputable def Gm_keeps_49 (rw49 : zRr) : zRr :=
  zlet (α := zRr) (zset rw49 36 (zcp (rw49 32) (rw49 36) (0) (zn (31 * (rw49 151 0))) 31)) <| fun r2 => zlet (α := Int32) ((r2 151 0) + 1) <| fun v3 => zlet (α := zRr) (zset r2 151 (fun _ => v3)) <| fun r4 => r4
noncomputable def Bm_keeps_11 (ih11 : Int32 → zRr → zRr) (w11_1 : Int32) (rw11 : zRr) : zRr :=
  zif ((465 : Int32) ≤ w11_1) (zlet (α := Int32) ((rw11 151 0) - 1) <| fun v7 => zlet (α := zRr) (zset rw11 151 (fun _ => v7)) <| fun r8 => Gm_keeps_49 r8) (zlet (α := zRr) (zset rw11 36 (upd (rw11 36) (zn w11_1) (rw11 36 (zn (w11_1 + 31))))) <| fun r11 => ih11 (w11_1 + 1) r11)
noncomputable def Gm_keeps_11 (n : Nat) : Int32 → zRr → zRr :=
  Nat.rec (motive := fun _ => Int32 → zRr → zRr) (fun _ rw11 => rw11) (fun _ ih => Bm_keeps_11 ih) n
noncomputable def Gm_keeps (r : zRr) (q : zRq) : zRr :=
  zifn ((r 151 0) = (16 : Int32)) (Gm_keeps_49 r) (Gm_keeps_11 466 0 r)
set_option maxHeartbeats 4000000 in
set_option maxRecDepth 100000 in
theorem mc_keeps (l : Launch) (D : va_G) (ct : Nat → ClassId) (h0 : Nat) (y : Nat → Nat) (r : zRr) (q : zRq) (hJ0 : mJ 20 r) : zC l yX12_keeps (.code yX12_keeps cX12_keeps 2 none :: wsL_law0) ({ frames := 2, cells := 0, slots := 0, locals := 120 }) D ct [] [.ref h0] (mW ct h0 y r q) (S := zRr) (fun u => none) (fun u => mJ 20 u ∧ zFr [36, 151] r u ∧ u = (Gm_keeps r q) ∧ True) (fun u => mW ct h0 y u q) 0 0 := by
  refine zofQ cX12_keeps 2 none (by decide) rfl (Nat.le_of_ble_eq_true rfl) ?_
  intro p e s m below meth c A a9 Q ha9 hx hb hr hml hts hown hlocks hname hK hA hZ hN hQ
  have hown : s.vm.findClass RX12 = some m.cls := hown
  have hiX12 : ∀ w ∈ wsX120, w ∈ .code yX12_keeps cX12_keeps 2 none :: wsL_law0 := fun _ h => ki (zs_wsX120 _ h)
  have lf108 := hts (.fieldLink RX12 108 "BeardPassModel" "s" "[I") (ki (zr9 4 rfl))
  have lf120 := hts (.fieldLink RX12 120 "BeardPassModel" "undone" "[I") (ki (zr9 8 rfl))
  have lf336 := hts (.fieldLink RX12 336 "BeardPassModel" "done" "I") (ki (zr21 17 rfl))
  obtain ⟨X, hX⟩ : ∃ X, X = (Gm_keeps r q) := ⟨_, rfl⟩
  have cut49 : ∀ (rw49 : zRr) (jw49 : mJ 20 rw49) (fw49 : zFr [36, 151] r rw49) (mw49_151_0 : zI 0 15 (rw49 151 0)) (hE : X = Gm_keeps_49 rw49), zKf p l e ({ frames := 2, cells := 0, slots := 0, locals := 120 }) s m a9 below meth c Q D A 49 2 [] (mW ct h0 y rw49 q) [(0, .ref h0)] := by
    intro rw49 jw49 fw49 mw49_151_0 hE H locs ls hw hS hl
    unfold Gm_keeps_49 at hE
    refine lv_aload_n hx hb dX12_keeps_49 rfl (lv_at hl 0 rfl) ?_
    refine mget (v := .ref (y 32)) hx hb hts hiX12 hown hK hw 45 (by decide) lf108 rfl rfl dX12_keeps_50 ?_
    refine lv_iconst (v := 0) hx hb dX12_keeps_53 (by decide) ?_
    refine lv_aload_n hx hb dX12_keeps_54 rfl (lv_at hl 0 rfl) ?_
    refine mget (v := .ref (y 36)) hx hb hts hiX12 hown hK hw 49 (by decide) lf120 rfl rfl dX12_keeps_55 ?_
    refine lv_bipush (v := 31) hx hb dX12_keeps_58 (by decide) ?_
    refine lv_aload_n hx hb dX12_keeps_60 rfl (lv_at hl 0 rfl) ?_
    refine mget (v := .int (rw49 151 0)) hx hb hts hiX12 hown hK hw 51 (by decide) lf336 rfl rfl dX12_keeps_61 ?_
    refine lv_imul hx hb dX12_keeps_64 ?_
    have k1 : zI 0 465 (31 * (rw49 151 0)) := zI.mul (zI.lit (a := 31) (b := 31) (c := 31) (by decide)) mw49_151_0 (by decide)
    refine zfr 65 [.int (nI (zn (31 * (rw49 151 0)))), .ref (y 36), .int 0, .ref (y 32)] rfl (congrArg (fun x => ([.int x, .ref (y 36), .int 0, .ref (y 32)] : List Value)) (zI.ix (n := 466) k1 (by decide)).1) ?_
    refine zcall2 (va_runS (As := [.ref (y 32), .int 0, .ref (y 36), .int (nI (zn (31 * (rw49 151 0))))]) (rest := []) ⟨hx, hb, hml, hown, hts⟩ (c_copies l D ct (y 32) (0) (y 36) (zn (31 * (rw49 151 0))) 31 496 (rw49 32) (rw49 36) (by decide) (by have h9 := (k1).nn (by decide); omega) (by decide) (by decide) H.size) (va_cwS 4 hts (kgSm (zr36 17 rfl) (zr36 18 rfl) (zr1 5 rfl) mL_X12_copies) rfl rfl rfl (by decide +kernel) ⟨Nat.le_of_ble_eq_true rfl, Nat.le_of_ble_eq_true rfl⟩) (zpreS hK hw hS hA zZ.nil hN [33, 37] rfl rfl) rfl rfl hl.1 rfl (lv_room (Nat.le_of_ble_eq_true rfl)) dX12_keeps_65 ⟨Nat.le_of_ble_eq_true rfl, Nat.le_of_ble_eq_true rfl⟩) hw hS hA [33, 37] [0, 1, 2, 3, 4, 5, 6, 7, 8, 9, 10, 11, 12, 13, 14, 15, 16, 17, 18, 19, 20, 21, 22, 23, 24, 25, 26, 27, 28, 29, 30, 31, 32, 34, 35, 36, 38, 39] rfl rfl rfl rfl (fun _ H locs _ hw hS => ?_)
    have hw : zPD D A (mW ct h0 y (zset rw49 36 (zcp (rw49 32) (rw49 36) (0) (zn (31 * (rw49 151 0))) 31)) q) H := hw.sub [0, 1, 2, 3, 4, 5, 6, 7, 8, 9, 10, 11, 12, 13, 14, 15, 16, 17, 18, 19, 20, 21, 22, 23, 24, 25, 26, 27, 28, 29, 30, 31, 32, 38, 33, 34, 35, 39, 36, 37] rfl rfl
    refine zfr 68 [] rfl rfl ?_
    refine mgen (P := fun x => mJ 20 x ∧ zFr [36, 151] r x) hw ⟨mcp_o jw49 (Or.inr ⟨Or.inr rfl, zn31 mw49_151_0 (by decide)⟩) rfl, fw49.set rfl⟩ (fun r2 er2 hw pr2 => ?_)
    have hE := zletE er2 hE
    refine lv_aload_n hx hb dX12_keeps_68 rfl (lv_at hl 0 rfl) ?_
    refine lv_dup hx hb dX12_keeps_69 rfl ?_
    refine mget (v := .int (r2 151 0)) hx hb hts hiX12 hown hK hw 51 (by decide) lf336 rfl rfl dX12_keeps_70 ?_
    refine lv_iconst (v := 1) hx hb dX12_keeps_73 (by decide) ?_
    refine lv_iadd hx hb dX12_keeps_74 (zgenE (lo := 1) (hi := 16) (zI.add (zs_at er2 mw49_151_0 (by decide)) (zI.lit (a := 1) (b := 1) (c := 1) (by decide)) (by decide)) (fun v3 ev3 hv3 => ?_))
    have hE := zletE ev3 hE
    refine mput (ty := .int) (v := .int v3) hx hb hts hiX12 hown hK hw hS 51 (by decide) lf336 rfl rfl (by decide +kernel) rfl rfl dX12_keeps_75 (zset r2 151 (fun _ => v3)) _ mWf51 (fun H locs hw hS => ?_)
    refine mgen (P := fun x => mJ 20 x ∧ zFr [36, 151] r x) hw ⟨pr2.1.setc rfl (fun _ => (hv3.w (c := 0) (d := 16) (by decide))), pr2.2.set rfl⟩ (fun r4 er4 hw pr4 => ?_)
    have hE := zletE er4 hE
    exact zvretQ hQ hx hb hr hlocks r4 rfl ⟨pr4.1, pr4.2, (hE.symm.trans hX), trivial⟩ hw hS dX12_keeps_78
  have cut11 : ∀ (n11 : Nat) (w11_1 : Int32) (rw11 : zRr) (hw11_1 : zI 0 465 w11_1) (jw11 : mJ 20 rw11) (fw11 : zFr [36, 151] r rw11) (mw11_151_0 : zI 16 16 (rw11 151 0)) (hE : X = Gm_keeps_11 n11 w11_1 rw11), 465 - w11_1.toInt < (n11 : Int) → zKf p l e ({ frames := 2, cells := 0, slots := 0, locals := 120 }) s m a9 below meth c Q D A 11 2 [] (mW ct h0 y rw11 q) [(0, .ref h0), (1, .int w11_1)] := by
    intro n11
    induction n11 with
    | zero => intro w11_1 rw11 hw11_1 jw11 fw11 mw11_151_0 hE hm11; exact zI.no hw11_1 (by decide) hm11
    | succ n11 ih11 =>
      intro w11_1 rw11 hw11_1 jw11 fw11 mw11_151_0 hE hm11
      have hE : X = Bm_keeps_11 (Gm_keeps_11 n11) w11_1 rw11 := hE
      unfold Bm_keeps_11 at hE
      intro H locs ls hw hS hl
      refine lv_iload_n hx hb dX12_keeps_11 rfl (lv_at hl 1 rfl) ?_
      refine lv_sipush (v := 465) hx hb dX12_keeps_12 (by decide) ?_
      refine lv_icmp_ge (tgt := 39) hx hb dX12_keeps_15 (by decide) (fun c5 => ?_) (fun c5 => ?_)
      · have hE := zifT c5 hE
        have k6 : zI 465 465 (w11_1) := zI.leD c5 (zI.lit (a := 465) (b := 465) (c := 465) (by decide)) hw11_1 (by decide)
        refine lv_aload_n hx hb dX12_keeps_39 rfl (lv_at hl 0 rfl) ?_
        refine lv_dup hx hb dX12_keeps_40 rfl ?_
        refine mget (v := .int (rw11 151 0)) hx hb hts hiX12 hown hK hw 51 (by decide) lf336 rfl rfl dX12_keeps_41 ?_
        refine lv_iconst (v := 1) hx hb dX12_keeps_44 (by decide) ?_
        refine lv_isub hx hb dX12_keeps_45 (zgenE (lo := 15) (hi := 15) (zI.sub mw11_151_0 (zI.lit (a := 1) (b := 1) (c := 1) (by decide)) (by decide)) (fun v7 ev7 hv7 => ?_))
        have hE := zletE ev7 hE
        refine mput (ty := .int) (v := .int v7) hx hb hts hiX12 hown hK hw hS 51 (by decide) lf336 rfl rfl (by decide +kernel) rfl rfl dX12_keeps_46 (zset rw11 151 (fun _ => v7)) _ mWf51 (fun H locs hw hS => ?_)
        refine mgen (P := fun x => mJ 20 x ∧ zFr [36, 151] r x) hw ⟨jw11.setc rfl (fun _ => (hv7.w (c := 0) (d := 16) (by decide))), fw11.set rfl⟩ (fun r8 er8 hw pr8 => ?_)
        have hE := zletE er8 hE
        exact cut49 r8 pr8.1 pr8.2 ((zs_in er8 hv7).w (c := 0) (d := 15) (by decide)) hE H locs ls hw hS (lv_sub hl [0] rfl)
      · have hE := zifF c5 hE
        have k9 : zI 0 464 (w11_1) := zI.ltU (zI.nle c5) hw11_1 (zI.lit (a := 465) (b := 465) (c := 465) (by decide)) (by decide)
        refine lv_aload_n hx hb dX12_keeps_18 rfl (lv_at hl 0 rfl) ?_
        refine mget (v := .ref (y 36)) hx hb hts hiX12 hown hK hw 49 (by decide) lf120 rfl rfl dX12_keeps_19 ?_
        refine lv_iload_n hx hb dX12_keeps_22 rfl (lv_at hl 1 rfl) ?_
        refine lv_aload_n hx hb dX12_keeps_23 rfl (lv_at hl 0 rfl) ?_
        refine mget (v := .ref (y 36)) hx hb hts hiX12 hown hK hw 49 (by decide) lf120 rfl rfl dX12_keeps_24 ?_
        refine lv_iload_n hx hb dX12_keeps_27 rfl (lv_at hl 1 rfl) ?_
        refine lv_bipush (v := 31) hx hb dX12_keeps_28 (by decide) ?_
        refine lv_iadd hx hb dX12_keeps_30 ?_
        have k10 : zI 31 495 (w11_1 + 31) := zI.add k9 (zI.lit (a := 31) (b := 31) (c := 31) (by decide)) (by decide)
        refine miald hx hb hK hw 37 mWg36 k10 (by decide) dX12_keeps_31 ?_
        refine miast hx hb hK hw hS 37 mWg36 k9 (by decide) dX12_keeps_32 (mW ct h0 y (zset rw11 36 (upd (rw11 36) (zn w11_1) (rw11 36 (zn (w11_1 + 31))))) q) mWs36 (fun H locs hw hS => ?_)
        refine mgen (P := fun x => mJ 20 x ∧ zFr [36, 151] r x) hw ⟨jw11.set rfl (mund k9 (jw11.i 36 _)), fw11.set rfl⟩ (fun r11 er11 hw pr11 => ?_)
        have hE := zletE er11 hE
        refine lv_iinc (v := w11_1 + 1) (lv' := [(1, .int (w11_1 + 1)), (0, .ref h0)]) hx hb dX12_keeps_33 hl (k := 1) rfl (rfl) (by decide) rfl (fun ls hl => ?_)
        have k12 : zI 1 465 (w11_1 + 1) := zI.add k9 (zI.lit (a := 1) (b := 1) (by decide)) (by decide)
        refine lv_goto (tgt := 11) hx hb dX12_keeps_36 (by decide) ?_
        exact ih11 (w11_1 + 1) r11 (k12.w (c := 0) (d := 465) (by decide)) pr11.1 pr11.2 (zs_at er11 mw11_151_0 (by decide)) hE (zI.up k9 (by decide) hm11) H locs ls hw hS (lv_sub hl [1, 0] rfl)
  intro H locs hw hS ls hl
  have hl : lv_has ls 2 [(0, .ref h0)] := hl
  have hE := hX
  unfold Gm_keeps at hE
  refine lv_aload_n hx hb dX12_keeps_0 rfl (lv_at hl 0 rfl) ?_
  refine mget (v := .int (r 151 0)) hx hb hts hiX12 hown hK hw 51 (by decide) lf336 rfl rfl dX12_keeps_1 ?_
  refine lv_bipush (v := 16) hx hb dX12_keeps_4 (by decide) ?_
  refine lv_icmp_ne (tgt := 49) hx hb dX12_keeps_6 (by decide) (fun c13 => ?_) (fun c13 => ?_)
  · have hE := zifnT c13 hE
    have k14 : zI 0 15 (r 151 0) := zI.neU c13 (show zI 0 16 (r 151 0) from hJ0.i 151 0) (zI.lit (a := 16) (b := 16) (c := 16) (by decide)) (by decide)
    exact cut49 r hJ0 (zFr.refl) k14 hE H locs ls hw hS (lv_sub hl [0] rfl)
  · have hE := zifnF c13 hE
    have k15 : zI 16 16 (r 151 0) := zI.eqq c13 (zI.lit (a := 16) (b := 16) (c := 16) (by decide))
    refine lv_iconst (v := 0) hx hb dX12_keeps_9 (by decide) ?_
    refine lv_istore_n (lv' := [(1, .int 0), (0, .ref h0)]) hx hb dX12_keeps_10 rfl hl (by decide) rfl (fun ls hl => ?_)
    exact cut11 466 0 r ((zI.lit (a := 0) (b := 0) (c := 0) (by decide)).w (c := 0) (d := 465) (by decide)) hJ0 (zFr.refl) k15 hE (zI.m0 (zI.lit (a := 0) (b := 0) (c := 0) (by decide)) (by decide)) H locs ls hw hS (lv_sub hl [1, 0] rfl)

noncomputable def Gm_go (a1 : Int32) (a2 : Int32) (r : zRr) (q : zRq) : Int32 × zRr :=
  zlet (α := zRr) (zset r 100 (fun _ => (0 : Int32))) <| fun r1 => zlet (α := Int32) ((Gm_isPerson a1 r1 q)) <| fun u2 => zif (u2 = (0 : Int32)) (((0 : Int32), r1)) (zlet (α := Int32) ((Gm_isTown a2 r1 q)) <| fun u7 => zif (u7 = (0 : Int32)) (((0 : Int32), r1)) (zc_vr (Gm_canGo a1 a2 r1 q) <| fun v13 r14 => zifn (v13 = (0 : Int32)) (zlet (α := zRr) ((Gm_keeps r14 q)) <| fun u17 => zlet (α := zRr) ((Gm_goes a1 a2 u17 q)) <| fun u19 => ((1 : Int32), u19)) (((0 : Int32), r14))))
set_option maxHeartbeats 4000000 in
set_option maxRecDepth 100000 in
theorem mc_go (l : Launch) (D : va_G) (ct : Nat → ClassId) (h0 : Nat) (y : Nat → Nat) (a1 : Int32) (a2 : Int32) (r : zRr) (q : zRq) (hJ0 : mJ 20 r) : zC l yX12_go (.code yX12_go cX12_go 3 (some .boolean) :: wsL_law0) ({ frames := 9, cells := 0, slots := 0, locals := 400 }) D ct [] [.ref h0, .int a1, .int a2] (mW ct h0 y r q) (S := Int32 × zRr) (fun u => some (.int u.1)) (fun u => zI 0 1 u.1 ∧ mJ 20 u.2 ∧ zFr [15, 16, 17, 18, 19, 20, 21, 22, 23, 24, 100, 36, 151, 32] r u.2 ∧ u = (Gm_go a1 a2 r q) ∧ True) (fun u => mW ct h0 y u.2 q) 0 0 := by
  refine zofQ cX12_go 3 (some .boolean) (by decide) rfl (Nat.le_of_ble_eq_true rfl) ?_
  intro p e s m below meth c A a9 Q ha9 hx hb hr hml hts hown hlocks hname hK hA hZ hN hQ
  have hown : s.vm.findClass RX12 = some m.cls := hown
  have hiX12 : ∀ w ∈ wsX120, w ∈ .code yX12_go cX12_go 3 (some .boolean) :: wsL_law0 := fun _ h => ki (zs_wsX120 _ h)
  have lf129 := hts (.fieldLink RX12 129 "BeardPassModel" "thrown" "I") (ki (zr10 1 rfl))
  obtain ⟨X, hX⟩ : ∃ X, X = (Gm_go a1 a2 r q) := ⟨_, rfl⟩
  intro H locs hw hS ls hl
  have hl : lv_has ls 3 [(0, .ref h0), (1, .int a1), (2, .int a2)] := hl
  have hE := hX
  unfold Gm_go at hE
  refine lv_aload_n hx hb dX12_go_0 rfl (lv_at hl 0 rfl) ?_
  refine lv_iconst (v := 0) hx hb dX12_go_1 (by decide) ?_
  refine mput (ty := .int) (v := .int 0) hx hb hts hiX12 hown hK hw hS 0 (by decide) lf129 rfl rfl (by decide +kernel) rfl rfl dX12_go_2 (zset r 100 (fun _ => (0 : Int32))) _ mWf0 (fun H locs hw hS => ?_)
  refine mgen (P := fun x => mJ 20 x ∧ zFr [15, 16, 17, 18, 19, 20, 21, 22, 23, 24, 100, 36, 151, 32] r x) hw ⟨hJ0.setc rfl (fun _ => (zI.top _)), (zFr.refl).set rfl⟩ (fun r1 er1 hw pr1 => ?_)
  have hE := zletE er1 hE
  refine lv_aload_n hx hb dX12_go_5 rfl (lv_at hl 0 rfl) ?_
  refine lv_iload_n hx hb dX12_go_6 rfl (lv_at hl 1 rfl) ?_
  refine zcallW (va_runV (As := [.int a1]) (rest := []) ⟨hx, hb, hml, hown, hts⟩ (mc_isPerson l D ct h0 y 20 a1 r1 q pr1.1 H.size) (cwV 1 hts (kgV (zr31 5 rfl) (zr31 6 rfl) (zr31 7 rfl) (zr1 5 rfl) (zr31 8 rfl)) rfl rfl rfl (by decide +kernel) ⟨Nat.le_of_ble_eq_true rfl, Nat.le_of_ble_eq_true rfl⟩) (zpreV hK hw hS hA zZ.nil hN (List.range (mW ct h0 y r1 q).length) mWn (zrange _) 11 0 rfl mWo) rfl rfl hl.1 rfl (lv_room (Nat.le_of_ble_eq_true rfl)) dX12_go_7 ⟨Nat.le_of_ble_eq_true rfl, Nat.le_of_ble_eq_true rfl⟩) hw hS hA 10 rfl (fun u2 H locs pu2 hw hS => ?_)
  have hu2 : zI 0 1 u2 := pu2.1
  have yu2_0 : ¬ u2 = 0 → zI 0 5 a1 := pu2.2.1
  have xu2 : u2 = (Gm_isPerson a1 r1 q) := pu2.2.2.1
  have hE := zletE xu2 hE
  have hw : zPD D A (mW ct h0 y r1 q) H := hw
  refine zfr 10 [.int u2] rfl rfl ?_
  refine lv_if_eq (tgt := 30) hx hb dX12_go_10 (by decide) (fun c4 => ?_) (fun c4 => ?_)
  · have hE := zifT c4 hE
    have k5 : zI 0 0 (u2) := zI.eqq c4 (zI.lit (a := 0) (b := 0) (c := 0) (by decide))
    refine lv_iconst (v := 0) hx hb dX12_go_30 (by decide) ?_
    exact ziretQ hQ hx hb hr rfl hlocks (0, r1) rfl ⟨((zI.lit (a := 0) (b := 0) (c := 0) (by decide)).w (c := 0) (d := 1) (by decide)), pr1.1, pr1.2, (hE.symm.trans hX), trivial⟩ hw hS dX12_go_31
  · have hE := zifF c4 hE
    have k6 : zI 1 1 (u2) := zI.neD c4 hu2 (zI.lit (a := 0) (b := 0) (c := 0) (by decide)) (by decide)
    refine lv_aload_n hx hb dX12_go_13 rfl (lv_at hl 0 rfl) ?_
    refine lv_iload_n hx hb dX12_go_14 rfl (lv_at hl 2 rfl) ?_
    refine zcallW (va_runV (As := [.int a2]) (rest := []) ⟨hx, hb, hml, hown, hts⟩ (mc_isTown l D ct h0 y 20 a2 r1 q pr1.1 H.size) (cwV 1 hts (kgV (zr33 10 rfl) (zr33 11 rfl) (zr33 12 rfl) (zr1 5 rfl) (zr33 13 rfl)) rfl rfl rfl (by decide +kernel) ⟨Nat.le_of_ble_eq_true rfl, Nat.le_of_ble_eq_true rfl⟩) (zpreV hK hw hS hA zZ.nil hN (List.range (mW ct h0 y r1 q).length) mWn (zrange _) 11 0 rfl mWo) rfl rfl hl.1 rfl (lv_room (Nat.le_of_ble_eq_true rfl)) dX12_go_15 ⟨Nat.le_of_ble_eq_true rfl, Nat.le_of_ble_eq_true rfl⟩) hw hS hA 18 rfl (fun u7 H locs pu7 hw hS => ?_)
    have hu7 : zI 0 1 u7 := pu7.1
    have yu7_0 : ¬ u7 = 0 → zI 0 5 a2 := pu7.2.1
    have xu7 : u7 = (Gm_isTown a2 r1 q) := pu7.2.2.1
    have hE := zletE xu7 hE
    have hw : zPD D A (mW ct h0 y r1 q) H := hw
    refine zfr 18 [.int u7] rfl rfl ?_
    refine lv_if_eq (tgt := 30) hx hb dX12_go_18 (by decide) (fun c9 => ?_) (fun c9 => ?_)
    · have hE := zifT c9 hE
      have k10 : zI 0 0 (u7) := zI.eqq c9 (zI.lit (a := 0) (b := 0) (c := 0) (by decide))
      refine lv_iconst (v := 0) hx hb dX12_go_30 (by decide) ?_
      exact ziretQ hQ hx hb hr rfl hlocks (0, r1) rfl ⟨((zI.lit (a := 0) (b := 0) (c := 0) (by decide)).w (c := 0) (d := 1) (by decide)), pr1.1, pr1.2, (hE.symm.trans hX), trivial⟩ hw hS dX12_go_31
    · have hE := zifF c9 hE
      have k11 : zI 1 1 (u7) := zI.neD c9 hu7 (zI.lit (a := 0) (b := 0) (c := 0) (by decide)) (by decide)
      refine lv_aload_n hx hb dX12_go_21 rfl (lv_at hl 0 rfl) ?_
      refine lv_iload_n hx hb dX12_go_22 rfl (lv_at hl 1 rfl) ?_
      refine lv_iload_n hx hb dX12_go_23 rfl (lv_at hl 2 rfl) ?_
      refine zcallW (va_runV (As := [.int a1, .int a2]) (rest := []) ⟨hx, hb, hml, hown, hts⟩ (mc_canGo l D ct h0 y 20 a1 a2 r1 q (yu2_0 c4) (yu7_0 c9) pr1.1 H.size) (cwV 2 hts (kgV (zr36 9 rfl) (zr36 10 rfl) (zr36 11 rfl) (zr1 5 rfl) (zr36 12 rfl)) rfl rfl rfl (by decide +kernel) ⟨Nat.le_of_ble_eq_true rfl, Nat.le_of_ble_eq_true rfl⟩) (zpreV hK hw hS hA zZ.nil hN (List.range (mW ct h0 y r1 q).length) mWn (zrange _) 11 0 rfl mWo) rfl rfl hl.1 rfl (lv_room (Nat.le_of_ble_eq_true rfl)) dX12_go_24 ⟨Nat.le_of_ble_eq_true rfl, Nat.le_of_ble_eq_true rfl⟩) hw hS hA 27 rfl (fun u12 H locs pu12 hw hS => ?_)
      obtain ⟨v13, r14⟩ := u12
      have hv13 : zI 0 1 v13 := pu12.1
      have ju12 : mJ 20 r14 := pu12.2.1
      have fu12 : zFr [15, 16, 17, 18, 19, 20, 21, 22, 23, 24] r1 r14 := pu12.2.2.1
      have xu12 : (v13, r14) = (Gm_canGo a1 a2 r1 q) := pu12.2.2.2.1
      have hE := zc_vrE xu12 hE
      have hw : zPD D A (mW ct h0 y r14 q) H := hw
      refine zfr 27 [.int v13] rfl rfl ?_
      refine lv_if_ne (tgt := 32) hx hb dX12_go_27 (by decide) (fun c15 => ?_) (fun c15 => ?_)
      · have hE := zifnT c15 hE
        have k16 : zI 1 1 (v13) := zI.neD c15 hv13 (zI.lit (a := 0) (b := 0) (c := 0) (by decide)) (by decide)
        refine lv_aload_n hx hb dX12_go_32 rfl (lv_at hl 0 rfl) ?_
        refine zcallW (va_runV (As := []) (rest := []) ⟨hx, hb, hml, hown, hts⟩ (mc_keeps l D ct h0 y r14 q ju12 H.size) (cwV 0 hts (kgV (zr36 13 rfl) (zr36 14 rfl) (zr36 15 rfl) (zr1 5 rfl) (zr36 16 rfl)) rfl rfl rfl (by decide +kernel) ⟨Nat.le_of_ble_eq_true rfl, Nat.le_of_ble_eq_true rfl⟩) (zpreV hK hw hS hA zZ.nil hN (List.range (mW ct h0 y r14 q).length) mWn (zrange _) 11 0 rfl mWo) rfl rfl hl.1 rfl (lv_room (Nat.le_of_ble_eq_true rfl)) dX12_go_33 ⟨Nat.le_of_ble_eq_true rfl, Nat.le_of_ble_eq_true rfl⟩) hw hS hA 36 rfl (fun u17 H locs pu17 hw hS => ?_)
        have ju17 : mJ 20 u17 := pu17.1
        have fu17 : zFr [36, 151] r14 u17 := pu17.2.1
        have xu17 : u17 = (Gm_keeps r14 q) := pu17.2.2.1
        have hE := zletE xu17 hE
        have hw : zPD D A (mW ct h0 y u17 q) H := hw
        refine zfr 36 [] rfl rfl ?_
        refine lv_aload_n hx hb dX12_go_36 rfl (lv_at hl 0 rfl) ?_
        refine lv_iload_n hx hb dX12_go_37 rfl (lv_at hl 1 rfl) ?_
        refine lv_iload_n hx hb dX12_go_38 rfl (lv_at hl 2 rfl) ?_
        refine zcallW (va_runV (As := [.int a1, .int a2]) (rest := []) ⟨hx, hb, hml, hown, hts⟩ (mc_goes l D ct h0 y 20 a1 a2 u17 q (yu2_0 c4) (yu7_0 c9) ju17 H.size) (cwV 2 hts (kgV (zr36 20 rfl) (zr36 21 rfl) (zr36 22 rfl) (zr1 5 rfl) (zr36 23 rfl)) rfl rfl rfl (by decide +kernel) ⟨Nat.le_of_ble_eq_true rfl, Nat.le_of_ble_eq_true rfl⟩) (zpreV hK hw hS hA zZ.nil hN (List.range (mW ct h0 y u17 q).length) mWn (zrange _) 11 0 rfl mWo) rfl rfl hl.1 rfl (lv_room (Nat.le_of_ble_eq_true rfl)) dX12_go_39 ⟨Nat.le_of_ble_eq_true rfl, Nat.le_of_ble_eq_true rfl⟩) hw hS hA 42 rfl (fun u19 H locs pu19 hw hS => ?_)
        have ju19 : mJ 20 u19 := pu19.1
        have fu19 : zFr [32] u17 u19 := pu19.2.1
        have xu19 : u19 = (Gm_goes a1 a2 u17 q) := pu19.2.2.1
        have hE := zletE xu19 hE
        have hw : zPD D A (mW ct h0 y u19 q) H := hw
        refine zfr 42 [] rfl rfl ?_
        refine lv_iconst (v := 1) hx hb dX12_go_42 (by decide) ?_
        exact ziretQ hQ hx hb hr rfl hlocks (1, u19) rfl ⟨((zI.lit (a := 1) (b := 1) (c := 1) (by decide)).w (c := 0) (d := 1) (by decide)), ju19, (((pr1.2.tr fu12 rfl).tr fu17 rfl).tr fu19 rfl), (hE.symm.trans hX), trivial⟩ hw hS dX12_go_43
      · have hE := zifnF c15 hE
        have k21 : zI 0 0 (v13) := zI.eqq c15 (zI.lit (a := 0) (b := 0) (c := 0) (by decide))
        refine lv_iconst (v := 0) hx hb dX12_go_30 (by decide) ?_
        exact ziretQ hQ hx hb hr rfl hlocks (0, r14) rfl ⟨((zI.lit (a := 0) (b := 0) (c := 0) (by decide)).w (c := 0) (d := 1) (by decide)), ju12, (pr1.2.tr fu12 rfl), (hE.symm.trans hX), trivial⟩ hw hS dX12_go_31

noncomputable def Gm_forge (a1 : Int32) (a2 : Int32) (r : zRr) (q : zRq) : Int32 × zRr :=
  zlet (α := zRr) (zset r 100 (fun _ => (0 : Int32))) <| fun r1 => zlet (α := Int32) ((Gm_isPerson a1 r1 q)) <| fun u2 => zif (u2 = (0 : Int32)) ((((-1) : Int32), r1)) (zlet (α := Int32) ((Gm_within a2 (1 : Int32) (20 : Int32))) <| fun u7 => zif (u7 = (0 : Int32)) ((((-1) : Int32), r1)) (zlet (α := Int32) ((Gm_canForge a1 a2 r1 q)) <| fun u14 => zifn (u14 = (0 : Int32)) (zlet (α := zRr) ((Gm_keeps r1 q)) <| fun u18 => zlet (α := zRr) ((Gm_forges a1 a2 u18 q)) <| fun u20 => zlet (α := Int32) (19 + a1) <| fun v22 => zlet (α := Int32) (u20 32 (zn v22)) <| fun v23 => (v23, u20)) ((((-1) : Int32), r1))))
set_option maxHeartbeats 4000000 in
set_option maxRecDepth 100000 in
theorem mc_forge (l : Launch) (D : va_G) (ct : Nat → ClassId) (h0 : Nat) (y : Nat → Nat) (a1 : Int32) (a2 : Int32) (r : zRr) (q : zRq) (hJ0 : mJ 20 r) : zC l yX12_forge (.code yX12_forge cX12_forge 3 (some .int) :: wsL_law0) ({ frames := 3, cells := 0, slots := 0, locals := 160 }) D ct [] [.ref h0, .int a1, .int a2] (mW ct h0 y r q) (S := Int32 × zRr) (fun u => some (.int u.1)) (fun u => zI (-2147483648) 2147483647 u.1 ∧ mJ 20 u.2 ∧ zFr [100, 36, 151, 32] r u.2 ∧ u = (Gm_forge a1 a2 r q) ∧ True) (fun u => mW ct h0 y u.2 q) 0 0 := by
  refine zofQ cX12_forge 3 (some .int) (by decide) rfl (Nat.le_of_ble_eq_true rfl) ?_
  intro p e s m below meth c A a9 Q ha9 hx hb hr hml hts hown hlocks hname hK hA hZ hN hQ
  have hown : s.vm.findClass RX12 = some m.cls := hown
  have hiX12 : ∀ w ∈ wsX120, w ∈ .code yX12_forge cX12_forge 3 (some .int) :: wsL_law0 := fun _ h => ki (zs_wsX120 _ h)
  have lf108 := hts (.fieldLink RX12 108 "BeardPassModel" "s" "[I") (ki (zr9 4 rfl))
  have lf129 := hts (.fieldLink RX12 129 "BeardPassModel" "thrown" "I") (ki (zr10 1 rfl))
  obtain ⟨X, hX⟩ : ∃ X, X = (Gm_forge a1 a2 r q) := ⟨_, rfl⟩
  intro H locs hw hS ls hl
  have hl : lv_has ls 3 [(0, .ref h0), (1, .int a1), (2, .int a2)] := hl
  have hE := hX
  unfold Gm_forge at hE
  refine lv_aload_n hx hb dX12_forge_0 rfl (lv_at hl 0 rfl) ?_
  refine lv_iconst (v := 0) hx hb dX12_forge_1 (by decide) ?_
  refine mput (ty := .int) (v := .int 0) hx hb hts hiX12 hown hK hw hS 0 (by decide) lf129 rfl rfl (by decide +kernel) rfl rfl dX12_forge_2 (zset r 100 (fun _ => (0 : Int32))) _ mWf0 (fun H locs hw hS => ?_)
  refine mgen (P := fun x => mJ 20 x ∧ zFr [100, 36, 151, 32] r x) hw ⟨hJ0.setc rfl (fun _ => (zI.top _)), (zFr.refl).set rfl⟩ (fun r1 er1 hw pr1 => ?_)
  have hE := zletE er1 hE
  refine lv_aload_n hx hb dX12_forge_5 rfl (lv_at hl 0 rfl) ?_
  refine lv_iload_n hx hb dX12_forge_6 rfl (lv_at hl 1 rfl) ?_
  refine zcallW (va_runV (As := [.int a1]) (rest := []) ⟨hx, hb, hml, hown, hts⟩ (mc_isPerson l D ct h0 y 20 a1 r1 q pr1.1 H.size) (cwV 1 hts (kgV (zr31 5 rfl) (zr31 6 rfl) (zr31 7 rfl) (zr1 5 rfl) (zr31 8 rfl)) rfl rfl rfl (by decide +kernel) ⟨Nat.le_of_ble_eq_true rfl, Nat.le_of_ble_eq_true rfl⟩) (zpreV hK hw hS hA zZ.nil hN (List.range (mW ct h0 y r1 q).length) mWn (zrange _) 11 0 rfl mWo) rfl rfl hl.1 rfl (lv_room (Nat.le_of_ble_eq_true rfl)) dX12_forge_7 ⟨Nat.le_of_ble_eq_true rfl, Nat.le_of_ble_eq_true rfl⟩) hw hS hA 10 rfl (fun u2 H locs pu2 hw hS => ?_)
  have hu2 : zI 0 1 u2 := pu2.1
  have yu2_0 : ¬ u2 = 0 → zI 0 5 a1 := pu2.2.1
  have xu2 : u2 = (Gm_isPerson a1 r1 q) := pu2.2.2.1
  have hE := zletE xu2 hE
  have hw : zPD D A (mW ct h0 y r1 q) H := hw
  refine zfr 10 [.int u2] rfl rfl ?_
  refine lv_if_eq (tgt := 32) hx hb dX12_forge_10 (by decide) (fun c4 => ?_) (fun c4 => ?_)
  · have hE := zifT c4 hE
    have k5 : zI 0 0 (u2) := zI.eqq c4 (zI.lit (a := 0) (b := 0) (c := 0) (by decide))
    refine lv_iconst (v := (-1)) hx hb dX12_forge_32 (by decide) ?_
    exact ziretQ hQ hx hb hr rfl hlocks ((-1), r1) rfl ⟨(zI.top _), pr1.1, pr1.2, (hE.symm.trans hX), trivial⟩ hw hS dX12_forge_33
  · have hE := zifF c4 hE
    have k6 : zI 1 1 (u2) := zI.neD c4 hu2 (zI.lit (a := 0) (b := 0) (c := 0) (by decide)) (by decide)
    refine lv_iload_n hx hb dX12_forge_13 rfl (lv_at hl 2 rfl) ?_
    refine lv_iconst (v := 1) hx hb dX12_forge_14 (by decide) ?_
    refine lv_bipush (v := 20) hx hb dX12_forge_15 (by decide) ?_
    refine zcallE (va_runS (As := [.int a2, .int 1, .int 20]) (rest := []) ⟨hx, hb, hml, hown, hts⟩ (mc_within l D ct a2 1 20 H.size) (va_cwS 3 hts (kgS (zr25 11 rfl) (zr25 12 rfl) (zr1 5 rfl) (zr25 13 rfl)) rfl rfl rfl (by decide +kernel) ⟨Nat.le_of_ble_eq_true rfl, Nat.le_of_ble_eq_true rfl⟩) (zpreS hK hw hS hA zZ.nil hN [] rfl rfl) rfl rfl hl.1 rfl (lv_room (Nat.le_of_ble_eq_true rfl)) dX12_forge_17 ⟨Nat.le_of_ble_eq_true rfl, Nat.le_of_ble_eq_true rfl⟩) hw hS hA mWn 20 rfl (fun u7 H locs pu7 hw hS => ?_)
    have hu7 : zI 0 1 u7 := pu7.1
    have yu7_0 : ¬ u7 = 0 → (1 : Int32) ≤ a2 ∧ a2 ≤ (20 : Int32) := pu7.2.1
    have xu7 : u7 = (Gm_within a2 (1 : Int32) (20 : Int32)) := pu7.2.2.1
    have hE := zletE xu7 hE
    refine zfr 20 [.int u7] rfl rfl ?_
    refine lv_if_eq (tgt := 32) hx hb dX12_forge_20 (by decide) (fun c9 => ?_) (fun c9 => ?_)
    · have hE := zifT c9 hE
      have k10 : zI 0 0 (u7) := zI.eqq c9 (zI.lit (a := 0) (b := 0) (c := 0) (by decide))
      refine lv_iconst (v := (-1)) hx hb dX12_forge_32 (by decide) ?_
      exact ziretQ hQ hx hb hr rfl hlocks ((-1), r1) rfl ⟨(zI.top _), pr1.1, pr1.2, (hE.symm.trans hX), trivial⟩ hw hS dX12_forge_33
    · have hE := zifF c9 hE
      have k11 : zI 1 1 (u7) := zI.neD c9 hu7 (zI.lit (a := 0) (b := 0) (c := 0) (by decide)) (by decide)
      have k12 : zI 1 2147483647 (a2) := zI.leD (yu7_0 c9).1 (zI.lit (a := 1) (b := 1) (c := 1) (by decide)) (zI.top _) (by decide)
      have k13 : zI 1 20 (a2) := zI.leU (yu7_0 c9).2 k12 (zI.lit (a := 20) (b := 20) (c := 20) (by decide)) (by decide)
      refine lv_aload_n hx hb dX12_forge_23 rfl (lv_at hl 0 rfl) ?_
      refine lv_iload_n hx hb dX12_forge_24 rfl (lv_at hl 1 rfl) ?_
      refine lv_iload_n hx hb dX12_forge_25 rfl (lv_at hl 2 rfl) ?_
      refine zcallW (va_runV (As := [.int a1, .int a2]) (rest := []) ⟨hx, hb, hml, hown, hts⟩ (mc_canForge l D ct h0 y 20 a1 a2 r1 q (yu2_0 c4) (k13.w (c := 0) (d := 9999) (by decide)) pr1.1 H.size) (cwV 2 hts (kgV (zr37 18 rfl) (zr37 19 rfl) (zr37 20 rfl) (zr1 5 rfl) (zr37 21 rfl)) rfl rfl rfl (by decide +kernel) ⟨Nat.le_of_ble_eq_true rfl, Nat.le_of_ble_eq_true rfl⟩) (zpreV hK hw hS hA zZ.nil hN (List.range (mW ct h0 y r1 q).length) mWn (zrange _) 11 0 rfl mWo) rfl rfl hl.1 rfl (lv_room (Nat.le_of_ble_eq_true rfl)) dX12_forge_26 ⟨Nat.le_of_ble_eq_true rfl, Nat.le_of_ble_eq_true rfl⟩) hw hS hA 29 rfl (fun u14 H locs pu14 hw hS => ?_)
      have hu14 : zI 0 1 u14 := pu14.1
      have yu14_0 : ¬ u14 = 0 → zI 0 20 (r1 32 (zn (13 + a1)) + a2) := pu14.2.1
      have xu14 : u14 = (Gm_canForge a1 a2 r1 q) := pu14.2.2.1
      have hE := zletE xu14 hE
      have hw : zPD D A (mW ct h0 y r1 q) H := hw
      refine zfr 29 [.int u14] rfl rfl ?_
      refine lv_if_ne (tgt := 34) hx hb dX12_forge_29 (by decide) (fun c16 => ?_) (fun c16 => ?_)
      · have hE := zifnT c16 hE
        have k17 : zI 1 1 (u14) := zI.neD c16 hu14 (zI.lit (a := 0) (b := 0) (c := 0) (by decide)) (by decide)
        refine lv_aload_n hx hb dX12_forge_34 rfl (lv_at hl 0 rfl) ?_
        refine zcallW (va_runV (As := []) (rest := []) ⟨hx, hb, hml, hown, hts⟩ (mc_keeps l D ct h0 y r1 q pr1.1 H.size) (cwV 0 hts (kgV (zr36 13 rfl) (zr36 14 rfl) (zr36 15 rfl) (zr1 5 rfl) (zr36 16 rfl)) rfl rfl rfl (by decide +kernel) ⟨Nat.le_of_ble_eq_true rfl, Nat.le_of_ble_eq_true rfl⟩) (zpreV hK hw hS hA zZ.nil hN (List.range (mW ct h0 y r1 q).length) mWn (zrange _) 11 0 rfl mWo) rfl rfl hl.1 rfl (lv_room (Nat.le_of_ble_eq_true rfl)) dX12_forge_35 ⟨Nat.le_of_ble_eq_true rfl, Nat.le_of_ble_eq_true rfl⟩) hw hS hA 38 rfl (fun u18 H locs pu18 hw hS => ?_)
        have ju18 : mJ 20 u18 := pu18.1
        have fu18 : zFr [36, 151] r1 u18 := pu18.2.1
        have xu18 : u18 = (Gm_keeps r1 q) := pu18.2.2.1
        have hE := zletE xu18 hE
        have hw : zPD D A (mW ct h0 y u18 q) H := hw
        refine zfr 38 [] rfl rfl ?_
        refine lv_aload_n hx hb dX12_forge_38 rfl (lv_at hl 0 rfl) ?_
        refine lv_iload_n hx hb dX12_forge_39 rfl (lv_at hl 1 rfl) ?_
        refine lv_iload_n hx hb dX12_forge_40 rfl (lv_at hl 2 rfl) ?_
        refine zcallW (va_runV (As := [.int a1, .int a2]) (rest := []) ⟨hx, hb, hml, hown, hts⟩ (mc_forges l D ct h0 y 20 a1 a2 u18 q (yu2_0 c4) (k13.w (c := 0) (d := 9999) (by decide)) ju18 (by rw [(fu18 32 rfl)]; exact yu14_0 c16) H.size) (cwV 2 hts (kgV (zr37 22 rfl) (zr37 23 rfl) (zr38 0 rfl) (zr1 5 rfl) (zr38 1 rfl)) rfl rfl rfl (by decide +kernel) ⟨Nat.le_of_ble_eq_true rfl, Nat.le_of_ble_eq_true rfl⟩) (zpreV hK hw hS hA zZ.nil hN (List.range (mW ct h0 y u18 q).length) mWn (zrange _) 11 0 rfl mWo) rfl rfl hl.1 rfl (lv_room (Nat.le_of_ble_eq_true rfl)) dX12_forge_41 ⟨Nat.le_of_ble_eq_true rfl, Nat.le_of_ble_eq_true rfl⟩) hw hS hA 44 rfl (fun u20 H locs pu20 hw hS => ?_)
        have ju20 : mJ 20 u20 := pu20.1
        have fu20 : zFr [32] u18 u20 := pu20.2.1
        have xu20 : u20 = (Gm_forges a1 a2 u18 q) := pu20.2.2.1
        have hE := zletE xu20 hE
        have hw : zPD D A (mW ct h0 y u20 q) H := hw
        refine zfr 44 [] rfl rfl ?_
        refine lv_aload_n hx hb dX12_forge_44 rfl (lv_at hl 0 rfl) ?_
        refine mget (v := .ref (y 32)) hx hb hts hiX12 hown hK hw 45 (by decide) lf108 rfl rfl dX12_forge_45 ?_
        refine lv_bipush (v := 19) hx hb dX12_forge_48 (by decide) ?_
        refine lv_iload_n hx hb dX12_forge_50 rfl (lv_at hl 1 rfl) ?_
        refine lv_iadd hx hb dX12_forge_51 (zgenE (lo := 19) (hi := 24) (zI.add (zI.lit (a := 19) (b := 19) (c := 19) (by decide)) (yu2_0 c4) (by decide)) (fun v22 ev22 hv22 => ?_))
        have hE := zletE ev22 hE
        refine miald hx hb hK hw 33 mWg32 hv22 (by decide) dX12_forge_52 (zgenE (zI.top _) (fun v23 ev23 _ => ?_))
        have hE := zletE ev23 hE
        exact ziretQ hQ hx hb hr rfl hlocks (v23, u20) rfl ⟨(zI.top _), ju20, ((pr1.2.tr fu18 rfl).tr fu20 rfl), (hE.symm.trans hX), trivial⟩ hw hS dX12_forge_53
      · have hE := zifnF c16 hE
        have k24 : zI 0 0 (u14) := zI.eqq c16 (zI.lit (a := 0) (b := 0) (c := 0) (by decide))
        refine lv_iconst (v := (-1)) hx hb dX12_forge_32 (by decide) ?_
        exact ziretQ hQ hx hb hr rfl hlocks ((-1), r1) rfl ⟨(zI.top _), pr1.1, pr1.2, (hE.symm.trans hX), trivial⟩ hw hS dX12_forge_33

noncomputable def Gm_shave (a1 : Int32) (r : zRr) (q : zRq) : Int32 × zRr :=
  zlet (α := zRr) (zset r 100 (fun _ => (0 : Int32))) <| fun r1 => zlet (α := Int32) ((Gm_isPerson a1 r1 q)) <| fun u2 => zifn (u2 = (0 : Int32)) (zlet (α := zRr) ((Gm_keeps r1 q)) <| fun u6 => zlet (α := zRr) ((Gm_shaves a1 u6 q)) <| fun u8 => ((1 : Int32), u8)) (((0 : Int32), r1))
set_option maxHeartbeats 4000000 in
set_option maxRecDepth 100000 in
theorem mc_shave (l : Launch) (D : va_G) (ct : Nat → ClassId) (h0 : Nat) (y : Nat → Nat) (a1 : Int32) (r : zRr) (q : zRq) (hJ0 : mJ 20 r) : zC l yX12_shave (.code yX12_shave cX12_shave 2 (some .boolean) :: wsL_law0) ({ frames := 3, cells := 0, slots := 0, locals := 160 }) D ct [] [.ref h0, .int a1] (mW ct h0 y r q) (S := Int32 × zRr) (fun u => some (.int u.1)) (fun u => zI 0 1 u.1 ∧ mJ 20 u.2 ∧ zFr [100, 36, 151, 32] r u.2 ∧ u = (Gm_shave a1 r q) ∧ True) (fun u => mW ct h0 y u.2 q) 0 0 := by
  refine zofQ cX12_shave 2 (some .boolean) (by decide) rfl (Nat.le_of_ble_eq_true rfl) ?_
  intro p e s m below meth c A a9 Q ha9 hx hb hr hml hts hown hlocks hname hK hA hZ hN hQ
  have hown : s.vm.findClass RX12 = some m.cls := hown
  have hiX12 : ∀ w ∈ wsX120, w ∈ .code yX12_shave cX12_shave 2 (some .boolean) :: wsL_law0 := fun _ h => ki (zs_wsX120 _ h)
  have lf129 := hts (.fieldLink RX12 129 "BeardPassModel" "thrown" "I") (ki (zr10 1 rfl))
  obtain ⟨X, hX⟩ : ∃ X, X = (Gm_shave a1 r q) := ⟨_, rfl⟩
  intro H locs hw hS ls hl
  have hl : lv_has ls 2 [(0, .ref h0), (1, .int a1)] := hl
  have hE := hX
  unfold Gm_shave at hE
  refine lv_aload_n hx hb dX12_shave_0 rfl (lv_at hl 0 rfl) ?_
  refine lv_iconst (v := 0) hx hb dX12_shave_1 (by decide) ?_
  refine mput (ty := .int) (v := .int 0) hx hb hts hiX12 hown hK hw hS 0 (by decide) lf129 rfl rfl (by decide +kernel) rfl rfl dX12_shave_2 (zset r 100 (fun _ => (0 : Int32))) _ mWf0 (fun H locs hw hS => ?_)
  refine mgen (P := fun x => mJ 20 x ∧ zFr [100, 36, 151, 32] r x) hw ⟨hJ0.setc rfl (fun _ => (zI.top _)), (zFr.refl).set rfl⟩ (fun r1 er1 hw pr1 => ?_)
  have hE := zletE er1 hE
  refine lv_aload_n hx hb dX12_shave_5 rfl (lv_at hl 0 rfl) ?_
  refine lv_iload_n hx hb dX12_shave_6 rfl (lv_at hl 1 rfl) ?_
  refine zcallW (va_runV (As := [.int a1]) (rest := []) ⟨hx, hb, hml, hown, hts⟩ (mc_isPerson l D ct h0 y 20 a1 r1 q pr1.1 H.size) (cwV 1 hts (kgV (zr31 5 rfl) (zr31 6 rfl) (zr31 7 rfl) (zr1 5 rfl) (zr31 8 rfl)) rfl rfl rfl (by decide +kernel) ⟨Nat.le_of_ble_eq_true rfl, Nat.le_of_ble_eq_true rfl⟩) (zpreV hK hw hS hA zZ.nil hN (List.range (mW ct h0 y r1 q).length) mWn (zrange _) 11 0 rfl mWo) rfl rfl hl.1 rfl (lv_room (Nat.le_of_ble_eq_true rfl)) dX12_shave_7 ⟨Nat.le_of_ble_eq_true rfl, Nat.le_of_ble_eq_true rfl⟩) hw hS hA 10 rfl (fun u2 H locs pu2 hw hS => ?_)
  have hu2 : zI 0 1 u2 := pu2.1
  have yu2_0 : ¬ u2 = 0 → zI 0 5 a1 := pu2.2.1
  have xu2 : u2 = (Gm_isPerson a1 r1 q) := pu2.2.2.1
  have hE := zletE xu2 hE
  have hw : zPD D A (mW ct h0 y r1 q) H := hw
  refine zfr 10 [.int u2] rfl rfl ?_
  refine lv_if_ne (tgt := 15) hx hb dX12_shave_10 (by decide) (fun c4 => ?_) (fun c4 => ?_)
  · have hE := zifnT c4 hE
    have k5 : zI 1 1 (u2) := zI.neD c4 hu2 (zI.lit (a := 0) (b := 0) (c := 0) (by decide)) (by decide)
    refine lv_aload_n hx hb dX12_shave_15 rfl (lv_at hl 0 rfl) ?_
    refine zcallW (va_runV (As := []) (rest := []) ⟨hx, hb, hml, hown, hts⟩ (mc_keeps l D ct h0 y r1 q pr1.1 H.size) (cwV 0 hts (kgV (zr36 13 rfl) (zr36 14 rfl) (zr36 15 rfl) (zr1 5 rfl) (zr36 16 rfl)) rfl rfl rfl (by decide +kernel) ⟨Nat.le_of_ble_eq_true rfl, Nat.le_of_ble_eq_true rfl⟩) (zpreV hK hw hS hA zZ.nil hN (List.range (mW ct h0 y r1 q).length) mWn (zrange _) 11 0 rfl mWo) rfl rfl hl.1 rfl (lv_room (Nat.le_of_ble_eq_true rfl)) dX12_shave_16 ⟨Nat.le_of_ble_eq_true rfl, Nat.le_of_ble_eq_true rfl⟩) hw hS hA 19 rfl (fun u6 H locs pu6 hw hS => ?_)
    have ju6 : mJ 20 u6 := pu6.1
    have fu6 : zFr [36, 151] r1 u6 := pu6.2.1
    have xu6 : u6 = (Gm_keeps r1 q) := pu6.2.2.1
    have hE := zletE xu6 hE
    have hw : zPD D A (mW ct h0 y u6 q) H := hw
    refine zfr 19 [] rfl rfl ?_
    refine lv_aload_n hx hb dX12_shave_19 rfl (lv_at hl 0 rfl) ?_
    refine lv_iload_n hx hb dX12_shave_20 rfl (lv_at hl 1 rfl) ?_
    refine zcallW (va_runV (As := [.int a1]) (rest := []) ⟨hx, hb, hml, hown, hts⟩ (mc_shaves l D ct h0 y 20 a1 u6 q (yu2_0 c4) ju6 H.size) (cwV 1 hts (kgV (zr38 14 rfl) (zr38 15 rfl) (zr38 16 rfl) (zr1 5 rfl) (zr38 17 rfl)) rfl rfl rfl (by decide +kernel) ⟨Nat.le_of_ble_eq_true rfl, Nat.le_of_ble_eq_true rfl⟩) (zpreV hK hw hS hA zZ.nil hN (List.range (mW ct h0 y u6 q).length) mWn (zrange _) 11 0 rfl mWo) rfl rfl hl.1 rfl (lv_room (Nat.le_of_ble_eq_true rfl)) dX12_shave_21 ⟨Nat.le_of_ble_eq_true rfl, Nat.le_of_ble_eq_true rfl⟩) hw hS hA 24 rfl (fun u8 H locs pu8 hw hS => ?_)
    have ju8 : mJ 20 u8 := pu8.1
    have fu8 : zFr [32] u6 u8 := pu8.2.1
    have xu8 : u8 = (Gm_shaves a1 u6 q) := pu8.2.2.1
    have hE := zletE xu8 hE
    have hw : zPD D A (mW ct h0 y u8 q) H := hw
    refine zfr 24 [] rfl rfl ?_
    refine lv_iconst (v := 1) hx hb dX12_shave_24 (by decide) ?_
    exact ziretQ hQ hx hb hr rfl hlocks (1, u8) rfl ⟨((zI.lit (a := 1) (b := 1) (c := 1) (by decide)).w (c := 0) (d := 1) (by decide)), ju8, ((pr1.2.tr fu6 rfl).tr fu8 rfl), (hE.symm.trans hX), trivial⟩ hw hS dX12_shave_25
  · have hE := zifnF c4 hE
    have k10 : zI 0 0 (u2) := zI.eqq c4 (zI.lit (a := 0) (b := 0) (c := 0) (by decide))
    refine lv_iconst (v := 0) hx hb dX12_shave_13 (by decide) ?_
    exact ziretQ hQ hx hb hr rfl hlocks (0, r1) rfl ⟨((zI.lit (a := 0) (b := 0) (c := 0) (by decide)).w (c := 0) (d := 1) (by decide)), pr1.1, pr1.2, (hE.symm.trans hX), trivial⟩ hw hS dX12_shave_14

noncomputable def Gm_week (r : zRr) (q : zRq) : Int32 × zRr :=
  zlet (α := zRr) (zset r 100 (fun _ => (0 : Int32))) <| fun r1 => zlet (α := zRr) ((Gm_keeps r1 q)) <| fun u2 => zlet (α := zRr) ((Gm_passes u2 q)) <| fun u4 => zlet (α := Int32) (u4 32 0) <| fun v6 => (v6, u4)
set_option maxHeartbeats 4000000 in
set_option maxRecDepth 100000 in
theorem mc_week (l : Launch) (D : va_G) (ct : Nat → ClassId) (h0 : Nat) (y : Nat → Nat) (r : zRr) (q : zRq) (hJ0 : mJ 20 r) : zC l yX12_week (.code yX12_week cX12_week 1 (some .int) :: wsL_law0) ({ frames := 3, cells := 0, slots := 0, locals := 160 }) D ct [] [.ref h0] (mW ct h0 y r q) (S := Int32 × zRr) (fun u => some (.int u.1)) (fun u => zI (-2147483648) 2147483647 u.1 ∧ mJ 20 u.2 ∧ zFr [100, 36, 151, 32] r u.2 ∧ u = (Gm_week r q) ∧ True) (fun u => mW ct h0 y u.2 q) 0 0 := by
  refine zofQ cX12_week 1 (some .int) (by decide) rfl (Nat.le_of_ble_eq_true rfl) ?_
  intro p e s m below meth c A a9 Q ha9 hx hb hr hml hts hown hlocks hname hK hA hZ hN hQ
  have hown : s.vm.findClass RX12 = some m.cls := hown
  have hiX12 : ∀ w ∈ wsX120, w ∈ .code yX12_week cX12_week 1 (some .int) :: wsL_law0 := fun _ h => ki (zs_wsX120 _ h)
  have lf108 := hts (.fieldLink RX12 108 "BeardPassModel" "s" "[I") (ki (zr9 4 rfl))
  have lf129 := hts (.fieldLink RX12 129 "BeardPassModel" "thrown" "I") (ki (zr10 1 rfl))
  obtain ⟨X, hX⟩ : ∃ X, X = (Gm_week r q) := ⟨_, rfl⟩
  intro H locs hw hS ls hl
  have hl : lv_has ls 1 [(0, .ref h0)] := hl
  have hE := hX
  unfold Gm_week at hE
  refine lv_aload_n hx hb dX12_week_0 rfl (lv_at hl 0 rfl) ?_
  refine lv_iconst (v := 0) hx hb dX12_week_1 (by decide) ?_
  refine mput (ty := .int) (v := .int 0) hx hb hts hiX12 hown hK hw hS 0 (by decide) lf129 rfl rfl (by decide +kernel) rfl rfl dX12_week_2 (zset r 100 (fun _ => (0 : Int32))) _ mWf0 (fun H locs hw hS => ?_)
  refine mgen (P := fun x => mJ 20 x ∧ zFr [100, 36, 151, 32] r x) hw ⟨hJ0.setc rfl (fun _ => (zI.top _)), (zFr.refl).set rfl⟩ (fun r1 er1 hw pr1 => ?_)
  have hE := zletE er1 hE
  refine lv_aload_n hx hb dX12_week_5 rfl (lv_at hl 0 rfl) ?_
  refine zcallW (va_runV (As := []) (rest := []) ⟨hx, hb, hml, hown, hts⟩ (mc_keeps l D ct h0 y r1 q pr1.1 H.size) (cwV 0 hts (kgV (zr36 13 rfl) (zr36 14 rfl) (zr36 15 rfl) (zr1 5 rfl) (zr36 16 rfl)) rfl rfl rfl (by decide +kernel) ⟨Nat.le_of_ble_eq_true rfl, Nat.le_of_ble_eq_true rfl⟩) (zpreV hK hw hS hA zZ.nil hN (List.range (mW ct h0 y r1 q).length) mWn (zrange _) 11 0 rfl mWo) rfl rfl hl.1 rfl (lv_room (Nat.le_of_ble_eq_true rfl)) dX12_week_6 ⟨Nat.le_of_ble_eq_true rfl, Nat.le_of_ble_eq_true rfl⟩) hw hS hA 9 rfl (fun u2 H locs pu2 hw hS => ?_)
  have ju2 : mJ 20 u2 := pu2.1
  have fu2 : zFr [36, 151] r1 u2 := pu2.2.1
  have xu2 : u2 = (Gm_keeps r1 q) := pu2.2.2.1
  have hE := zletE xu2 hE
  have hw : zPD D A (mW ct h0 y u2 q) H := hw
  refine zfr 9 [] rfl rfl ?_
  refine lv_aload_n hx hb dX12_week_9 rfl (lv_at hl 0 rfl) ?_
  refine zcallW (va_runV (As := []) (rest := []) ⟨hx, hb, hml, hown, hts⟩ (mc_passes l D ct h0 y 20 u2 q ju2 H.size) (cwV 0 hts (kgV (zr39 9 rfl) (zr39 10 rfl) (zr39 11 rfl) (zr1 5 rfl) (zr39 12 rfl)) rfl rfl rfl (by decide +kernel) ⟨Nat.le_of_ble_eq_true rfl, Nat.le_of_ble_eq_true rfl⟩) (zpreV hK hw hS hA zZ.nil hN (List.range (mW ct h0 y u2 q).length) mWn (zrange _) 11 0 rfl mWo) rfl rfl hl.1 rfl (lv_room (Nat.le_of_ble_eq_true rfl)) dX12_week_10 ⟨Nat.le_of_ble_eq_true rfl, Nat.le_of_ble_eq_true rfl⟩) hw hS hA 13 rfl (fun u4 H locs pu4 hw hS => ?_)
  have ju4 : mJ 20 u4 := pu4.1
  have fu4 : zFr [32] u2 u4 := pu4.2.1
  have xu4 : u4 = (Gm_passes u2 q) := pu4.2.2.1
  have hE := zletE xu4 hE
  have hw : zPD D A (mW ct h0 y u4 q) H := hw
  refine zfr 13 [] rfl rfl ?_
  refine lv_aload_n hx hb dX12_week_13 rfl (lv_at hl 0 rfl) ?_
  refine mget (v := .ref (y 32)) hx hb hts hiX12 hown hK hw 45 (by decide) lf108 rfl rfl dX12_week_14 ?_
  refine lv_iconst (v := 0) hx hb dX12_week_17 (by decide) ?_
  refine ziald hx hb hK hw 33 mWg32 0 (by decide) (by decide) (by decide) dX12_week_18 (zgenE (zI.top _) (fun v6 ev6 _ => ?_))
  have hE := zletE ev6 hE
  exact ziretQ hQ hx hb hr rfl hlocks (v6, u4) rfl ⟨(zI.top _), ju4, ((pr1.2.tr fu2 rfl).tr fu4 rfl), (hE.symm.trans hX), trivial⟩ hw hS dX12_week_19

noncomputable def Gm_undo (r : zRr) (q : zRq) : Int32 × zRr :=
  zlet (α := zRr) (zset r 100 (fun _ => (0 : Int32))) <| fun r1 => zifn ((r1 151 0) = (0 : Int32)) (zlet (α := Int32) ((r1 151 0) - 1) <| fun v4 => zlet (α := zRr) (zset r1 151 (fun _ => v4)) <| fun r5 => zlet (α := zRr) (zset r5 32 (zcp (r5 36) (r5 32) (zn (31 * (r5 151 0))) (0) 31)) <| fun r7 => ((1 : Int32), r7)) (((0 : Int32), r1))
set_option maxHeartbeats 4000000 in
set_option maxRecDepth 100000 in
theorem mc_undo (l : Launch) (D : va_G) (ct : Nat → ClassId) (h0 : Nat) (y : Nat → Nat) (r : zRr) (q : zRq) (hJ0 : mJ 20 r) : zC l yX12_undo (.code yX12_undo cX12_undo 1 (some .boolean) :: wsL_law0) ({ frames := 2, cells := 0, slots := 0, locals := 120 }) D ct [] [.ref h0] (mW ct h0 y r q) (S := Int32 × zRr) (fun u => some (.int u.1)) (fun u => zI 0 1 u.1 ∧ mJ 20 u.2 ∧ zFr [100, 151, 32] r u.2 ∧ u = (Gm_undo r q) ∧ True) (fun u => mW ct h0 y u.2 q) 0 0 := by
  refine zofQ cX12_undo 1 (some .boolean) (by decide) rfl (Nat.le_of_ble_eq_true rfl) ?_
  intro p e s m below meth c A a9 Q ha9 hx hb hr hml hts hown hlocks hname hK hA hZ hN hQ
  have hown : s.vm.findClass RX12 = some m.cls := hown
  have hiX12 : ∀ w ∈ wsX120, w ∈ .code yX12_undo cX12_undo 1 (some .boolean) :: wsL_law0 := fun _ h => ki (zs_wsX120 _ h)
  have lf108 := hts (.fieldLink RX12 108 "BeardPassModel" "s" "[I") (ki (zr9 4 rfl))
  have lf120 := hts (.fieldLink RX12 120 "BeardPassModel" "undone" "[I") (ki (zr9 8 rfl))
  have lf129 := hts (.fieldLink RX12 129 "BeardPassModel" "thrown" "I") (ki (zr10 1 rfl))
  have lf336 := hts (.fieldLink RX12 336 "BeardPassModel" "done" "I") (ki (zr21 17 rfl))
  obtain ⟨X, hX⟩ : ∃ X, X = (Gm_undo r q) := ⟨_, rfl⟩
  intro H locs hw hS ls hl
  have hl : lv_has ls 1 [(0, .ref h0)] := hl
  have hE := hX
  unfold Gm_undo at hE
  refine lv_aload_n hx hb dX12_undo_0 rfl (lv_at hl 0 rfl) ?_
  refine lv_iconst (v := 0) hx hb dX12_undo_1 (by decide) ?_
  refine mput (ty := .int) (v := .int 0) hx hb hts hiX12 hown hK hw hS 0 (by decide) lf129 rfl rfl (by decide +kernel) rfl rfl dX12_undo_2 (zset r 100 (fun _ => (0 : Int32))) _ mWf0 (fun H locs hw hS => ?_)
  refine mgen (P := fun x => mJ 20 x ∧ zFr [100, 151, 32] r x) hw ⟨hJ0.setc rfl (fun _ => (zI.top _)), (zFr.refl).set rfl⟩ (fun r1 er1 hw pr1 => ?_)
  have hE := zletE er1 hE
  refine lv_aload_n hx hb dX12_undo_5 rfl (lv_at hl 0 rfl) ?_
  refine mget (v := .int (r1 151 0)) hx hb hts hiX12 hown hK hw 51 (by decide) lf336 rfl rfl dX12_undo_6 ?_
  refine lv_if_ne (tgt := 14) hx hb dX12_undo_9 (by decide) (fun c2 => ?_) (fun c2 => ?_)
  · have hE := zifnT c2 hE
    have k3 : zI 1 16 (r1 151 0) := zI.neD c2 (show zI 0 16 (r1 151 0) from pr1.1.i 151 0) (zI.lit (a := 0) (b := 0) (c := 0) (by decide)) (by decide)
    refine lv_aload_n hx hb dX12_undo_14 rfl (lv_at hl 0 rfl) ?_
    refine lv_dup hx hb dX12_undo_15 rfl ?_
    refine mget (v := .int (r1 151 0)) hx hb hts hiX12 hown hK hw 51 (by decide) lf336 rfl rfl dX12_undo_16 ?_
    refine lv_iconst (v := 1) hx hb dX12_undo_19 (by decide) ?_
    refine lv_isub hx hb dX12_undo_20 (zgenE (lo := 0) (hi := 15) (zI.sub k3 (zI.lit (a := 1) (b := 1) (c := 1) (by decide)) (by decide)) (fun v4 ev4 hv4 => ?_))
    have hE := zletE ev4 hE
    refine mput (ty := .int) (v := .int v4) hx hb hts hiX12 hown hK hw hS 51 (by decide) lf336 rfl rfl (by decide +kernel) rfl rfl dX12_undo_21 (zset r1 151 (fun _ => v4)) _ mWf51 (fun H locs hw hS => ?_)
    refine mgen (P := fun x => mJ 20 x ∧ zFr [100, 151, 32] r x) hw ⟨pr1.1.setc rfl (fun _ => (hv4.w (c := 0) (d := 16) (by decide))), pr1.2.set rfl⟩ (fun r5 er5 hw pr5 => ?_)
    have hE := zletE er5 hE
    refine lv_aload_n hx hb dX12_undo_24 rfl (lv_at hl 0 rfl) ?_
    refine mget (v := .ref (y 36)) hx hb hts hiX12 hown hK hw 49 (by decide) lf120 rfl rfl dX12_undo_25 ?_
    refine lv_bipush (v := 31) hx hb dX12_undo_28 (by decide) ?_
    refine lv_aload_n hx hb dX12_undo_30 rfl (lv_at hl 0 rfl) ?_
    refine mget (v := .int (r5 151 0)) hx hb hts hiX12 hown hK hw 51 (by decide) lf336 rfl rfl dX12_undo_31 ?_
    refine lv_imul hx hb dX12_undo_34 ?_
    have k6 : zI 0 465 (31 * (r5 151 0)) := zI.mul (zI.lit (a := 31) (b := 31) (c := 31) (by decide)) (zs_in er5 hv4) (by decide)
    refine lv_aload_n hx hb dX12_undo_35 rfl (lv_at hl 0 rfl) ?_
    refine mget (v := .ref (y 32)) hx hb hts hiX12 hown hK hw 45 (by decide) lf108 rfl rfl dX12_undo_36 ?_
    refine lv_iconst (v := 0) hx hb dX12_undo_39 (by decide) ?_
    refine zfr 40 [.int 0, .ref (y 32), .int (nI (zn (31 * (r5 151 0)))), .ref (y 36)] rfl (congrArg (fun x => ([.int 0, .ref (y 32), .int x, .ref (y 36)] : List Value)) (zI.ix (n := 466) k6 (by decide)).1) ?_
    refine zcall2 (va_runS (As := [.ref (y 36), .int (nI (zn (31 * (r5 151 0)))), .ref (y 32), .int 0]) (rest := []) ⟨hx, hb, hml, hown, hts⟩ (c_copies l D ct (y 36) (zn (31 * (r5 151 0))) (y 32) (0) 496 31 (r5 36) (r5 32) (by have h9 := (k6).nn (by decide); omega) (by decide) (by decide) (by decide) H.size) (va_cwS 4 hts (kgSm (zr36 17 rfl) (zr36 18 rfl) (zr1 5 rfl) mL_X12_copies) rfl rfl rfl (by decide +kernel) ⟨Nat.le_of_ble_eq_true rfl, Nat.le_of_ble_eq_true rfl⟩) (zpreS hK hw hS hA zZ.nil hN [37, 33] rfl rfl) rfl rfl hl.1 rfl (lv_room (Nat.le_of_ble_eq_true rfl)) dX12_undo_40 ⟨Nat.le_of_ble_eq_true rfl, Nat.le_of_ble_eq_true rfl⟩) hw hS hA [37, 33] [0, 1, 2, 3, 4, 5, 6, 7, 8, 9, 10, 11, 12, 13, 14, 15, 16, 17, 18, 19, 20, 21, 22, 23, 24, 25, 26, 27, 28, 29, 30, 31, 32, 34, 35, 36, 38, 39] rfl rfl rfl rfl (fun _ H locs _ hw hS => ?_)
    have hw : zPD D A (mW ct h0 y (zset r5 32 (zcp (r5 36) (r5 32) (zn (31 * (r5 151 0))) (0) 31)) q) H := hw.sub [0, 1, 2, 3, 4, 5, 6, 7, 8, 9, 10, 11, 12, 13, 14, 15, 16, 17, 18, 19, 20, 21, 22, 23, 24, 25, 26, 27, 28, 29, 30, 31, 32, 39, 33, 34, 35, 38, 36, 37] rfl rfl
    refine zfr 43 [] rfl rfl ?_
    refine mgen (P := fun x => mJ 20 x ∧ zFr [100, 151, 32] r x) hw ⟨mcp_s pr5.1 (Or.inr ⟨Or.inr rfl, zn31 (zs_in er5 hv4) (by decide)⟩), pr5.2.set rfl⟩ (fun r7 er7 hw pr7 => ?_)
    have hE := zletE er7 hE
    refine lv_iconst (v := 1) hx hb dX12_undo_43 (by decide) ?_
    exact ziretQ hQ hx hb hr rfl hlocks (1, r7) rfl ⟨((zI.lit (a := 1) (b := 1) (c := 1) (by decide)).w (c := 0) (d := 1) (by decide)), pr7.1, pr7.2, (hE.symm.trans hX), trivial⟩ hw hS dX12_undo_44
  · have hE := zifnF c2 hE
    have k8 : zI 0 0 (r1 151 0) := zI.eqq c2 (zI.lit (a := 0) (b := 0) (c := 0) (by decide))
    refine lv_iconst (v := 0) hx hb dX12_undo_12 (by decide) ?_
    exact ziretQ hQ hx hb hr rfl hlocks (0, r1) rfl ⟨((zI.lit (a := 0) (b := 0) (c := 0) (by decide)).w (c := 0) (d := 1) (by decide)), pr1.1, pr1.2, (hE.symm.trans hX), trivial⟩ hw hS dX12_undo_13
