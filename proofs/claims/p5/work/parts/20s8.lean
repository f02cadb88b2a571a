set_option maxHeartbeats 4000000 in
set_option maxRecDepth 100000 in
theorem mc_puts (l : Launch) (D : va_G) (ct : Nat → ClassId) (h0 : Nat) (y : Nat → Nat) (B : Int) (a1 : Int32) (r : zRr) (q : zRq) (hJ0 : mJ B r) (x1 : zI 1000 1999 (r 122 0)) : zC l yX12_puts (.code yX12_puts cX12_puts 2 none :: wsL_law0) ({ frames := 1, cells := 0, slots := 0, locals := 80 }) D ct [] [.ref h0, .int a1] (mW ct h0 y r q) (S := zRr) (fun u => none) (fun u => mJ B u ∧ zFr [12, 122] r u ∧ (u 12 = upd (r 12) (zn (r 122 0)) a1) ∧ (u 122 0 = r 122 0 + 1) ∧ u = (Gm_puts a1 r q) ∧ True) (fun u => mW ct h0 y u q) 0 0 := by
  refine zofQ cX12_puts 2 none (by decide) rfl (Nat.le_of_ble_eq_true rfl) ?_
  intro p e s m below meth c A a9 Q ha9 hx hb hr hml hts hown hlocks hname hK hA hZ hN hQ
  have hown : s.vm.findClass RX12 = some m.cls := hown
  have hiX12 : ∀ w ∈ wsX120, w ∈ .code yX12_puts cX12_puts 2 none :: wsL_law0 := fun _ h => ki (zs_wsX120 _ h)
  have lf47 := hts (.fieldLink RX12 47 "BeardPassModel" "codes" "[I") (ki (zr8 7 rfl))
  have lf168 := hts (.fieldLink RX12 168 "BeardPassModel" "code" "I") (ki (zr21 23 rfl))
  obtain ⟨X, hX⟩ : ∃ X, X = (Gm_puts a1 r q) := ⟨_, rfl⟩
  intro H locs hw hS ls hl
  have hl : lv_has ls 2 [(0, .ref h0), (1, .int a1)] := hl
  have hE := hX
  unfold Gm_puts at hE
  refine lv_aload_n hx hb dX12_puts_0 rfl (lv_at hl 0 rfl) ?_
  refine mget (v := .ref (y 12)) hx hb hts hiX12 hown hK hw 21 (by decide) lf47 rfl rfl dX12_puts_1 ?_
  refine lv_aload_n hx hb dX12_puts_4 rfl (lv_at hl 0 rfl) ?_
  refine mget (v := .int (r 122 0)) hx hb hts hiX12 hown hK hw 22 (by decide) lf168 rfl rfl dX12_puts_5 ?_
  refine lv_iload_n hx hb dX12_puts_8 rfl (lv_at hl 1 rfl) ?_
  refine miast hx hb hK hw hS 13 mWg12 x1 (by decide) dX12_puts_9 (mW ct h0 y (zset r 12 (upd (r 12) (zn (r 122 0)) a1)) q) mWs12 (fun H locs hw hS => ?_)
  refine mgen (P := fun x => mJ B x ∧ zFr [12, 122] r x) hw ⟨hJ0.setC (by have h9 := (x1).nn (by decide); omega), (zFr.refl).set rfl⟩ (fun r1 er1 hw pr1 => ?_)
  have hE := zletE er1 hE
  refine lv_aload_n hx hb dX12_puts_10 rfl (lv_at hl 0 rfl) ?_
  refine lv_dup hx hb dX12_puts_11 rfl ?_
  refine mget (v := .int (r1 122 0)) hx hb hts hiX12 hown hK hw 22 (by decide) lf168 rfl rfl dX12_puts_12 ?_
  refine lv_iconst (v := 1) hx hb dX12_puts_15 (by decide) ?_
  refine lv_iadd hx hb dX12_puts_16 ?_
  have k2 : zI 1001 2000 ((r1 122 0) + 1) := zI.add (zs_at er1 x1 (by decide)) (zI.lit (a := 1) (b := 1) (c := 1) (by decide)) (by decide)
  refine mput (ty := .int) (v := .int ((r1 122 0) + 1)) hx hb hts hiX12 hown hK hw hS 22 (by decide) lf168 rfl rfl (by decide +kernel) rfl rfl dX12_puts_17 (zset r1 122 (fun _ => (r1 122 0) + 1)) _ mWf22 (fun H locs hw hS => ?_)
  refine mgen (P := fun x => mJ B x ∧ zFr [12, 122] r x) hw ⟨pr1.1.setc rfl (fun _ => (k2.w (c := 0) (d := 2000) (by decide))), pr1.2.set rfl⟩ (fun r3 er3 hw pr3 => ?_)
  have hE := zletE er3 hE
  exact zvretQ hQ hx hb hr hlocks r3 rfl ⟨pr3.1, pr3.2, (show r3 12 = upd (r 12) (zn (r 122 0)) a1 from ((zs_row (k := 12) er3 (by decide)).trans (zs_self er1))), (show r3 122 0 = r 122 0 + 1 from ((congrFun (zs_self er3) 0).trans (congrArg (fun z => z + 1) (congrFun (zs_row (k := 122) er1 (by decide)) 0)))), (hE.symm.trans hX), trivial⟩ hw hS dX12_puts_20

set_option maxHeartbeats 4000000 in
set_option maxRecDepth 100000 in
theorem mc_readsTown (l : Launch) (D : va_G) (ct : Nat → ClassId) (h0 : Nat) (y : Nat → Nat) (B : Int) (r : zRr) (q : zRq) (hJ0 : mJ B r) (x1 : mP r) (x2 : zI 1 4 (r 106 0)) : zC l yX12_readsTown (.code yX12_readsTown cX12_readsTown 2 (some .boolean) :: wsL_law0) ({ frames := 5, cells := 0, slots := 0, locals := 240 }) D ct [] [.ref h0] (mW ct h0 y r q) (S := Int32 × zRr × zRq) (fun u => some (.int u.1)) (fun u => zI 0 1 u.1 ∧ mJ B u.2.1 ∧ zFr [104, 105, 106, 108, 109, 136, 4, 5, 1] r u.2.1 ∧ (mP u.2.1) ∧ (¬ u.1 = 0 → (r 105 0).toInt < (u.2.1 105 0).toInt) ∧ (¬ u.1 = 0 → mT1 u.2.1) ∧ u = (Gm_readsTown r q) ∧ True) (fun u => mW ct h0 y u.2.1 u.2.2) 0 0 := by
  refine zofQ cX12_readsTown 2 (some .boolean) (by decide) rfl (Nat.le_of_ble_eq_true rfl) ?_
  intro p e s m below meth c A a9 Q ha9 hx hb hr hml hts hown hlocks hname hK hA hZ hN hQ
  have hown : s.vm.findClass RX12 = some m.cls := hown
  have hiX12 : ∀ w ∈ wsX120, w ∈ .code yX12_readsTown cX12_readsTown 2 (some .boolean) :: wsL_law0 := fun _ h => ki (zs_wsX120 _ h)
  have lf13 := hts (.fieldLink RX12 13 "BeardPassModel" "land" "[I") (ki (zr7 20 rfl))
  have lf16 := hts (.fieldLink RX12 16 "BeardPassModel" "townName" "[J") (ki (zr7 21 rfl))
  have lf23 := hts (.fieldLink RX12 23 "BeardPassModel" "asks" "[I") (ki (zr7 23 rfl))
  have lf26 := hts (.fieldLink RX12 26 "BeardPassModel" "roads" "[I") (ki (zr8 0 rfl))
  have lf256 := hts (.fieldLink RX12 256 "BeardPassModel" "given" "I") (ki (zr23 11 rfl))
  have lf276 := hts (.fieldLink RX12 276 "BeardPassModel" "fresh" "J") (ki (zr23 12 rfl))
  obtain ⟨X, hX⟩ : ∃ X, X = (Gm_readsTown r q) := ⟨_, rfl⟩
  intro H locs hw hS ls hl
  have hl : lv_has ls 2 [(0, .ref h0)] := hl
  have hE := hX
  unfold Gm_readsTown at hE
  refine lv_bipush (v := 6) hx hb dX12_readsTown_0 (by decide) ?_
  refine lv_aload_n hx hb dX12_readsTown_2 rfl (lv_at hl 0 rfl) ?_
  refine mget (v := .ref (y 1)) hx hb hts hiX12 hown hK hw 10 (by decide) lf13 rfl rfl dX12_readsTown_3 ?_
  refine lv_iconst (v := 4) hx hb dX12_readsTown_6 (by decide) ?_
  refine ziald hx hb hK hw 2 mWg1 4 (by decide) (by decide) (by decide) dX12_readsTown_7 ?_
  refine lv_iadd hx hb dX12_readsTown_8 ?_
  have k1 : zI 6 12 (6 + (r 1 4)) := zI.add (zI.lit (a := 6) (b := 6) (c := 6) (by decide)) (show zI 0 6 (r 1 4) from hJ0.i 1 4) (by decide)
  refine lv_istore_n (lv' := [(1, .int (6 + (r 1 4))), (0, .ref h0)]) hx hb dX12_readsTown_9 rfl hl (by decide) rfl (fun ls hl => ?_)
  refine lv_iload_n hx hb dX12_readsTown_10 rfl (lv_at hl 0 rfl) ?_
  refine lv_bipush (v := 12) hx hb dX12_readsTown_11 (by decide) ?_
  refine lv_icmp_ne (tgt := 22) hx hb dX12_readsTown_13 (by decide) (fun c2 => ?_) (fun c2 => ?_)
  · have hE := zifnT c2 hE
    have k3 : zI 6 11 (6 + (r 1 4)) := zI.neU c2 k1 (zI.lit (a := 12) (b := 12) (c := 12) (by decide)) (by decide)
    have k4 : zI 0 5 (r 1 4) := zI.un6 k3 (show zI 0 6 (r 1 4) from hJ0.i 1 4)
    refine lv_aload_n hx hb dX12_readsTown_22 rfl (lv_at hl 1 rfl) ?_
    refine zcallW (va_runV (As := []) (rest := []) ⟨hx, hb, hml, hown, hts⟩ (mc_nextToken l D ct h0 y B r q hJ0 ((x1).2.1) H.size) (cwV 0 hts (kgV (zr22 13 rfl) (zr22 14 rfl) (zr22 15 rfl) (zr1 5 rfl) (zr22 16 rfl)) rfl rfl rfl (by decide +kernel) ⟨Nat.le_of_ble_eq_true rfl, Nat.le_of_ble_eq_true rfl⟩) (zpreV hK hw hS hA zZ.nil hN (List.range (mW ct h0 y r q).length) mWn (zrange _) 11 0 rfl mWo) rfl rfl hl.1 rfl (lv_room (Nat.le_of_ble_eq_true rfl)) dX12_readsTown_23 ⟨Nat.le_of_ble_eq_true rfl, Nat.le_of_ble_eq_true rfl⟩) hw hS hA 26 rfl (fun u5 H locs pu5 hw hS => ?_)
    obtain ⟨r6, q7⟩ := u5
    have ju5 : mJ B r6 := pu5.1
    have fu5 : zFr [104, 105, 106, 108] r r6 := pu5.2.1
    have yu5_0 : mP r6 := pu5.2.2.1
    have yu5_1 : (r 104 0).toInt ≤ (r6 105 0).toInt := pu5.2.2.2.1
    have xu5 : (r6, q7) = (Gm_nextToken r q) := pu5.2.2.2.2.1
    have hE := zc_rqE xu5 hE
    have hw : zPD D A (mW ct h0 y r6 q7) H := hw
    refine zfr 26 [] rfl rfl ?_
    refine lv_aload_n hx hb dX12_readsTown_26 rfl (lv_at hl 1 rfl) ?_
    refine zcallW (va_runV (As := []) (rest := []) ⟨hx, hb, hml, hown, hts⟩ (mc_needsNew l D ct h0 y B r6 q7 ju5 (yu5_0) H.size) (cwV 0 hts (kgV (zr23 17 rfl) (zr23 18 rfl) (zr23 19 rfl) (zr1 5 rfl) (zr23 20 rfl)) rfl rfl rfl (by decide +kernel) ⟨Nat.le_of_ble_eq_true rfl, Nat.le_of_ble_eq_true rfl⟩) (zpreV hK hw hS hA zZ.nil hN (List.range (mW ct h0 y r6 q7).length) mWn (zrange _) 11 0 rfl mWo) rfl rfl hl.1 rfl (lv_room (Nat.le_of_ble_eq_true rfl)) dX12_readsTown_27 ⟨Nat.le_of_ble_eq_true rfl, Nat.le_of_ble_eq_true rfl⟩) hw hS hA 30 rfl (fun u8 H locs pu8 hw hS => ?_)
    obtain ⟨v9, r10, q11⟩ := u8
    have hv9 : zI 0 1 v9 := pu8.1
    have ju8 : mJ B r10 := pu8.2.1
    have fu8 : zFr [104, 105, 106, 108, 109] r6 r10 := pu8.2.2.1
    have yu8_0 : mP r10 := pu8.2.2.2.1
    have yu8_1 : (r6 105 0).toInt ≤ (r10 105 0).toInt := pu8.2.2.2.2.1
    have xu8 : (v9, r10, q11) = (Gm_needsNew r6 q7) := pu8.2.2.2.2.2.1
    have hE := zc_vrqE xu8 hE
    have hw : zPD D A (mW ct h0 y r10 q11) H := hw
    refine zfr 30 [.int v9] rfl rfl ?_
    refine lv_if_eq (tgt := 46) hx hb dX12_readsTown_30 (by decide) (fun c12 => ?_) (fun c12 => ?_)
    · have hE := zifT c12 hE
      have k13 : zI 0 0 (v9) := zI.eqq c12 (zI.lit (a := 0) (b := 0) (c := 0) (by decide))
      refine lv_iconst (v := 0) hx hb dX12_readsTown_46 (by decide) ?_
      exact ziretQ hQ hx hb hr rfl hlocks (0, r10, q11) rfl ⟨((zI.lit (a := 0) (b := 0) (c := 0) (by decide)).w (c := 0) (d := 1) (by decide)), ju8, (((zFr.refl).tr fu5 rfl).tr fu8 rfl), (show mP r10 from yu8_0), (fun h => absurd rfl h), (fun h => absurd rfl h), (hE.symm.trans hX), trivial⟩ hw hS dX12_readsTown_47
    · have hE := zifF c12 hE
      have k14 : zI 1 1 (v9) := zI.neD c12 hv9 (zI.lit (a := 0) (b := 0) (c := 0) (by decide)) (by decide)
      refine lv_aload_n hx hb dX12_readsTown_33 rfl (lv_at hl 1 rfl) ?_
      refine lv_ldc2 hx hb hown (hts (.constantLong RX12 218 33850) (ki (zr23 10 rfl))) dX12_readsTown_34 ?_
      refine lv_iconst (v := 0) hx hb dX12_readsTown_37 (by decide) ?_
      refine lv_bipush (v := 30) hx hb dX12_readsTown_38 (by decide) ?_
      refine zcallW (va_runV (As := [.long 33850, .int 0, .int 30]) (rest := []) ⟨hx, hb, hml, hown, hts⟩ (mc_needsBoth l D ct h0 y B 33850 0 30 r10 q11 ju8 (yu8_0) H.size) (cwV 3 hts (kgV (zr24 23 rfl) (zr25 0 rfl) (zr25 1 rfl) (zr1 5 rfl) (zr25 2 rfl)) rfl rfl rfl (by decide +kernel) ⟨Nat.le_of_ble_eq_true rfl, Nat.le_of_ble_eq_true rfl⟩) (zpreV hK hw hS hA zZ.nil hN (List.range (mW ct h0 y r10 q11).length) mWn (zrange _) 11 0 rfl mWo) rfl rfl hl.1 rfl (lv_room (Nat.le_of_ble_eq_true rfl)) dX12_readsTown_40 ⟨Nat.le_of_ble_eq_true rfl, Nat.le_of_ble_eq_true rfl⟩) hw hS hA 43 rfl (fun u15 H locs pu15 hw hS => ?_)
      obtain ⟨v16, r17, q18⟩ := u15
      have hv16 : zI 0 1 v16 := pu15.1
      have ju15 : mJ B r17 := pu15.2.1
      have fu15 : zFr [104, 105, 106, 108, 109, 136] r10 r17 := pu15.2.2.1
      have yu15_0 : mP r17 := pu15.2.2.2.1
      have yu15_1 : (r10 105 0).toInt ≤ (r17 105 0).toInt := pu15.2.2.2.2.1
      have yu15_2 : ¬ v16 = 0 → zI 0 9999 (r17 136 0) := pu15.2.2.2.2.2.1
      have xu15 : (v16, r17, q18) = (Gm_needsBoth (33850 : Int64) (0 : Int32) (30 : Int32) r10 q11) := pu15.2.2.2.2.2.2.1
      have hE := zc_vrqE xu15 hE
      have hw : zPD D A (mW ct h0 y r17 q18) H := hw
      refine zfr 43 [.int v16] rfl rfl ?_
      refine lv_if_ne (tgt := 48) hx hb dX12_readsTown_43 (by decide) (fun c19 => ?_) (fun c19 => ?_)
      · have hE := zifnT c19 hE
        have k20 : zI 1 1 (v16) := zI.neD c19 hv16 (zI.lit (a := 0) (b := 0) (c := 0) (by decide)) (by decide)
        refine lv_aload_n hx hb dX12_readsTown_48 rfl (lv_at hl 1 rfl) ?_
        refine mget (v := .ref (y 4)) hx hb hts hiX12 hown hK hw 13 (by decide) lf23 rfl rfl dX12_readsTown_49 ?_
        refine lv_iload_n hx hb dX12_readsTown_52 rfl (lv_at hl 0 rfl) ?_
        refine lv_aload_n hx hb dX12_readsTown_53 rfl (lv_at hl 1 rfl) ?_
        refine mget (v := .int (r17 136 0)) hx hb hts hiX12 hown hK hw 36 (by decide) lf256 rfl rfl dX12_readsTown_54 (zgenE (lo := 0) (hi := 9999) ((yu15_2 c19)) (fun v21 ev21 hv21 => ?_))
        have hE := zletE ev21 hE
        refine miast hx hb hK hw hS 5 mWg4 k3 (by decide) dX12_readsTown_57 (mW ct h0 y (zset r17 4 (upd (r17 4) (zn (6 + (r 1 4))) v21)) q18) mWs4 (fun H locs hw hS => ?_)
        refine mgen (P := fun x => mJ B x ∧ zFr [104, 105, 106, 108, 109, 136, 4, 5, 1] r x) hw ⟨ju15.set rfl (zI.top _), ((((zFr.refl).tr fu5 rfl).tr fu8 rfl).tr fu15 rfl).set rfl⟩ (fun r22 er22 hw pr22 => ?_)
        have hE := zletE er22 hE
        refine lv_aload_n hx hb dX12_readsTown_58 rfl (lv_at hl 1 rfl) ?_
        refine mget (v := .ref (y 5)) hx hb hts hiX12 hown hK hw 14 (by decide) lf26 rfl rfl dX12_readsTown_59 ?_
        refine lv_iload_n hx hb dX12_readsTown_62 rfl (lv_at hl 0 rfl) ?_
        refine lv_iconst (v := 0) hx hb dX12_readsTown_63 (by decide) ?_
        refine miast hx hb hK hw hS 6 mWg5 k3 (by decide) dX12_readsTown_64 (mW ct h0 y (zset r22 5 (upd (r22 5) (zn (6 + (r 1 4))) (0 : Int32))) q18) mWs5 (fun H locs hw hS => ?_)
        refine mgen (P := fun x => mJ B x ∧ zFr [104, 105, 106, 108, 109, 136, 4, 5, 1] r x) hw ⟨pr22.1.set rfl (zI.top _), pr22.2.set rfl⟩ (fun r23 er23 hw pr23 => ?_)
        have hE := zletE er23 hE
        refine lv_aload_n hx hb dX12_readsTown_65 rfl (lv_at hl 1 rfl) ?_
        refine mget (v := .ref (y 2)) hx hb hts hiX12 hown hK hw 11 (by decide) lf16 rfl rfl dX12_readsTown_66 ?_
        refine lv_iload_n hx hb dX12_readsTown_69 rfl (lv_at hl 0 rfl) ?_
        refine lv_aload_n hx hb dX12_readsTown_70 rfl (lv_at hl 1 rfl) ?_
        refine mget (v := .long (q18 137 0)) hx hb hts hiX12 hown hK hw 37 (by decide) lf276 rfl rfl dX12_readsTown_71 (zgenLE (fun v24 ev24 => ?_))
        have hE := zletE ev24 hE
        refine mlast hx hb hK hw hS 3 mWg2 k3 (by decide) dX12_readsTown_74 (mW ct h0 y r23 (zset q18 2 (vp_updL (q18 2) (zn (6 + (r 1 4))) v24))) mWs2 (fun H locs hw hS => ?_)
        refine mqgen hw (fun q25 eq25 hw => ?_)
        have hE := zletE eq25 hE
        refine lv_aload_n hx hb dX12_readsTown_75 rfl (lv_at hl 1 rfl) ?_
        refine mget (v := .ref (y 1)) hx hb hts hiX12 hown hK hw 10 (by decide) lf13 rfl rfl dX12_readsTown_76 ?_
        refine lv_iconst (v := 4) hx hb dX12_readsTown_79 (by decide) ?_
        refine lv_dup2_11 hx hb dX12_readsTown_80 rfl rfl ?_
        refine ziald hx hb hK hw 2 mWg1 4 (by decide) (by decide) (by decide) dX12_readsTown_81 ?_
        refine lv_iconst (v := 1) hx hb dX12_readsTown_82 (by decide) ?_
        refine lv_iadd hx hb dX12_readsTown_83 ?_
        have k26 : zI 1 6 ((r23 1 4) + 1) := zI.add (zs_at er23 (zs_at er22 (fu15.at (fu8.at (fu5.at k4 rfl) rfl) rfl) (by decide)) (by decide)) (zI.lit (a := 1) (b := 1) (c := 1) (by decide)) (by decide)
        refine ziast hx hb hK hw hS 2 mWg1 4 (by decide) (by decide) (by decide) dX12_readsTown_84 (mW ct h0 y (zset r23 1 (upd (r23 1) 4 ((r23 1 4) + 1))) q25) mWs1 (fun H locs hw hS => ?_)
        refine mgen (P := fun x => mJ B x ∧ zFr [104, 105, 106, 108, 109, 136, 4, 5, 1] r x) hw ⟨pr23.1.setL (by decide) (k26.w (c := 0) (d := 6) (by decide)), pr23.2.set rfl⟩ (fun r27 er27 hw pr27 => ?_)
        have hE := zletE er27 hE
        refine lv_aload_n hx hb dX12_readsTown_85 rfl (lv_at hl 1 rfl) ?_
        refine zcallW (va_runV (As := []) (rest := []) ⟨hx, hb, hml, hown, hts⟩ (mc_closes l D ct h0 y B r27 q25 pr27.1 ((mP.fr yu15_0 ((zs_row (k := 103) er27 (by decide)).trans ((zs_row (k := 103) er23 (by decide)).trans (zs_row (k := 103) er22 (by decide)))) ((zs_row (k := 104) er27 (by decide)).trans ((zs_row (k := 104) er23 (by decide)).trans (zs_row (k := 104) er22 (by decide)))) ((zs_row (k := 105) er27 (by decide)).trans ((zs_row (k := 105) er23 (by decide)).trans (zs_row (k := 105) er22 (by decide)))) ((zs_row (k := 106) er27 (by decide)).trans ((zs_row (k := 106) er23 (by decide)).trans (zs_row (k := 106) er22 (by decide)))))) H.size) (cwV 0 hts (kgV (zr25 14 rfl) (zr25 15 rfl) (zr25 16 rfl) (zr1 5 rfl) (zr25 17 rfl)) rfl rfl rfl (by decide +kernel) ⟨Nat.le_of_ble_eq_true rfl, Nat.le_of_ble_eq_true rfl⟩) (zpreV hK hw hS hA zZ.nil hN (List.range (mW ct h0 y r27 q25).length) mWn (zrange _) 11 0 rfl mWo) rfl rfl hl.1 rfl (lv_room (Nat.le_of_ble_eq_true rfl)) dX12_readsTown_86 ⟨Nat.le_of_ble_eq_true rfl, Nat.le_of_ble_eq_true rfl⟩) hw hS hA 89 rfl (fun u28 H locs pu28 hw hS => ?_)
        obtain ⟨v29, r30, q31⟩ := u28
        have hv29 : zI 0 1 v29 := pu28.1
        have ju28 : mJ B r30 := pu28.2.1
        have fu28 : zFr [104, 105, 106, 108, 109] r27 r30 := pu28.2.2.1
        have yu28_0 : mP r30 := pu28.2.2.2.1
        have yu28_1 : (r27 105 0).toInt ≤ (r30 105 0).toInt := pu28.2.2.2.2.1
        have xu28 : (v29, r30, q31) = (Gm_closes r27 q25) := pu28.2.2.2.2.2.1
        have hE := zc_vrqE xu28 hE
        have hw : zPD D A (mW ct h0 y r30 q31) H := hw
        refine zfr 89 [.int v29] rfl rfl ?_
        exact ziretQ hQ hx hb hr (hv29.rn) hlocks (v29, r30, q31) rfl ⟨hv29, ju28, (pr27.2.tr fu28 rfl), (show mP r30 from yu28_0), (show ¬ v29 = 0 → (r 105 0).toInt < (r30 105 0).toInt from (fun _ => by have := yu28_1; have := congrArg Int32.toInt (congrFun (zs_row (k := 105) er27 (by decide)) 0); have := congrArg Int32.toInt (congrFun (zs_row (k := 105) er23 (by decide)) 0); have := congrArg Int32.toInt (congrFun (zs_row (k := 105) er22 (by decide)) 0); have := yu15_1; have := yu8_1; have := yu5_1; have := (x1).1; have := (x1).2.2.resolve_left (tkne x2 (by decide)); omega)), (show ¬ v29 = 0 → mT1 r30 from (fun _ => by unfold mT1; rw [(fu28 1 rfl), zs_self er27, pk_us, pk_un (by decide)]; intro _; have h9 := (k26 : zI 1 6 _); have := h9.1; omega)), (hE.symm.trans hX), trivial⟩ hw hS dX12_readsTown_89
      · have hE := zifnF c19 hE
        have k32 : zI 0 0 (v16) := zI.eqq c19 (zI.lit (a := 0) (b := 0) (c := 0) (by decide))
        refine lv_iconst (v := 0) hx hb dX12_readsTown_46 (by decide) ?_
        exact ziretQ hQ hx hb hr rfl hlocks (0, r17, q18) rfl ⟨((zI.lit (a := 0) (b := 0) (c := 0) (by decide)).w (c := 0) (d := 1) (by decide)), ju15, ((((zFr.refl).tr fu5 rfl).tr fu8 rfl).tr fu15 rfl), (show mP r17 from yu15_0), (fun h => absurd rfl h), (fun h => absurd rfl h), (hE.symm.trans hX), trivial⟩ hw hS dX12_readsTown_47
  · have hE := zifnF c2 hE
    have k33 : zI 12 12 (6 + (r 1 4)) := zI.eqq c2 (zI.lit (a := 12) (b := 12) (c := 12) (by decide))
    refine lv_aload_n hx hb dX12_readsTown_16 rfl (lv_at hl 1 rfl) ?_
    refine lv_iconst (v := 5) hx hb dX12_readsTown_17 (by decide) ?_
    refine zcallW (va_runV (As := [.int 5]) (rest := []) ⟨hx, hb, hml, hown, hts⟩ (mc_fails l D ct h0 y B 5 r q ((zI.lit (a := 5) (b := 5) (c := 5) (by decide)).w (c := 1) (d := 5) (by decide)) hJ0 H.size) (cwV 1 hts (kgV (zr23 13 rfl) (zr23 14 rfl) (zr23 15 rfl) (zr1 5 rfl) (zr23 16 rfl)) rfl rfl rfl (by decide +kernel) ⟨Nat.le_of_ble_eq_true rfl, Nat.le_of_ble_eq_true rfl⟩) (zpreV hK hw hS hA zZ.nil hN (List.range (mW ct h0 y r q).length) mWn (zrange _) 11 0 rfl mWo) rfl rfl hl.1 rfl (lv_room (Nat.le_of_ble_eq_true rfl)) dX12_readsTown_18 ⟨Nat.le_of_ble_eq_true rfl, Nat.le_of_ble_eq_true rfl⟩) hw hS hA 21 rfl (fun u34 H locs pu34 hw hS => ?_)
    obtain ⟨v35, r36⟩ := u34
    have hv35 : zI 0 0 v35 := pu34.1
    have ju34 : mJ B r36 := pu34.2.1
    have fu34 : zFr [109] r r36 := pu34.2.2.1
    have xu34 : (v35, r36) = (Gm_fails (5 : Int32) r q) := pu34.2.2.2.1
    have hE := zc_vrE xu34 hE
    have hw : zPD D A (mW ct h0 y r36 q) H := hw
    refine zfr 21 [.int v35] rfl rfl ?_
    exact ziretQ hQ hx hb hr ((hv35.w (c := 0) (d := 1) (by decide)).rn) hlocks (v35, r36, q) rfl ⟨(hv35.w (c := 0) (d := 1) (by decide)), ju34, ((zFr.refl).tr fu34 rfl), (show mP r36 from (mP.fr x1 (fu34 103 rfl) (fu34 104 rfl) (fu34 105 rfl) (fu34 106 rfl))), (fun h => absurd (zI.eq0 hv35) h), (fun h => absurd (zI.eq0 hv35) h), (hE.symm.trans hX), trivial⟩ hw hS dX12_readsTown_21

set_option maxHeartbeats 4000000 in
set_option maxRecDepth 100000 in
theorem mc_readsRoad (l : Launch) (D : va_G) (ct : Nat → ClassId) (h0 : Nat) (y : Nat → Nat) (B : Int) (r : zRr) (q : zRq) (hJ0 : mJ B r) (x1 : mP r) (x2 : zI 1 4 (r 106 0)) : zC l yX12_readsRoad (.code yX12_readsRoad cX12_readsRoad 2 (some .boolean) :: wsL_law0) ({ frames := 4, cells := 0, slots := 0, locals := 200 }) D ct [] [.ref h0] (mW ct h0 y r q) (S := Int32 × zRr × zRq) (fun u => some (.int u.1)) (fun u => zI 0 1 u.1 ∧ mJ B u.2.1 ∧ zFr [104, 105, 106, 108, 109, 136, 5] r u.2.1 ∧ (mP u.2.1) ∧ (¬ u.1 = 0 → (r 105 0).toInt < (u.2.1 105 0).toInt) ∧ u = (Gm_readsRoad r q) ∧ True) (fun u => mW ct h0 y u.2.1 u.2.2) 0 0 := by
  refine zofQ cX12_readsRoad 2 (some .boolean) (by decide) rfl (Nat.le_of_ble_eq_true rfl) ?_
  intro p e s m below meth c A a9 Q ha9 hx hb hr hml hts hown hlocks hname hK hA hZ hN hQ
  have hown : s.vm.findClass RX12 = some m.cls := hown
  have hiX12 : ∀ w ∈ wsX120, w ∈ .code yX12_readsRoad cX12_readsRoad 2 (some .boolean) :: wsL_law0 := fun _ h => ki (zs_wsX120 _ h)
  have lf26 := hts (.fieldLink RX12 26 "BeardPassModel" "roads" "[I") (ki (zr8 0 rfl))
  have lf256 := hts (.fieldLink RX12 256 "BeardPassModel" "given" "I") (ki (zr23 11 rfl))
  obtain ⟨X, hX⟩ : ∃ X, X = (Gm_readsRoad r q) := ⟨_, rfl⟩
  intro H locs hw hS ls hl
  have hl : lv_has ls 2 [(0, .ref h0)] := hl
  have hE := hX
  unfold Gm_readsRoad at hE
  refine lv_aload_n hx hb dX12_readsRoad_0 rfl (lv_at hl 0 rfl) ?_
  refine zcallW (va_runV (As := []) (rest := []) ⟨hx, hb, hml, hown, hts⟩ (mc_nextToken l D ct h0 y B r q hJ0 ((x1).2.1) H.size) (cwV 0 hts (kgV (zr22 13 rfl) (zr22 14 rfl) (zr22 15 rfl) (zr1 5 rfl) (zr22 16 rfl)) rfl rfl rfl (by decide +kernel) ⟨Nat.le_of_ble_eq_true rfl, Nat.le_of_ble_eq_true rfl⟩) (zpreV hK hw hS hA zZ.nil hN (List.range (mW ct h0 y r q).length) mWn (zrange _) 11 0 rfl mWo) rfl rfl hl.1 rfl (lv_room (Nat.le_of_ble_eq_true rfl)) dX12_readsRoad_1 ⟨Nat.le_of_ble_eq_true rfl, Nat.le_of_ble_eq_true rfl⟩) hw hS hA 4 rfl (fun u1 H locs pu1 hw hS => ?_)
  obtain ⟨r2, q3⟩ := u1
  have ju1 : mJ B r2 := pu1.1
  have fu1 : zFr [104, 105, 106, 108] r r2 := pu1.2.1
  have yu1_0 : mP r2 := pu1.2.2.1
  have yu1_1 : (r 104 0).toInt ≤ (r2 105 0).toInt := pu1.2.2.2.1
  have xu1 : (r2, q3) = (Gm_nextToken r q) := pu1.2.2.2.2.1
  have hE := zc_rqE xu1 hE
  have hw : zPD D A (mW ct h0 y r2 q3) H := hw
  refine zfr 4 [] rfl rfl ?_
  refine lv_aload_n hx hb dX12_readsRoad_4 rfl (lv_at hl 0 rfl) ?_
  refine lv_iconst (v := 1) hx hb dX12_readsRoad_5 (by decide) ?_
  refine zcallW (va_runV (As := [.int 1]) (rest := []) ⟨hx, hb, hml, hown, hts⟩ (mc_needsTown1 l D ct h0 y B r2 q3 ju1 H.size) (cwV 1 hts (kgV (zr26 2 rfl) (zr26 3 rfl) (zr26 4 rfl) (zr1 5 rfl) (zr26 5 rfl)) rfl rfl rfl (by decide +kernel) ⟨Nat.le_of_ble_eq_true rfl, Nat.le_of_ble_eq_true rfl⟩) (zpreV hK hw hS hA zZ.nil hN (List.range (mW ct h0 y r2 q3).length) mWn (zrange _) 11 0 rfl mWo) rfl rfl hl.1 rfl (lv_room (Nat.le_of_ble_eq_true rfl)) dX12_readsRoad_6 ⟨Nat.le_of_ble_eq_true rfl, Nat.le_of_ble_eq_true rfl⟩) hw hS hA 9 rfl (fun u4 H locs pu4 hw hS => ?_)
  obtain ⟨v5, r6⟩ := u4
  have hv5 : zI 0 1 v5 := pu4.1
  have ju4 : mJ B r6 := pu4.2.1
  have fu4 : zFr [136, 109] r2 r6 := pu4.2.2.1
  have yu4_0 : ¬ v5 = 0 → zI 0 5 (r6 136 0) := pu4.2.2.2.1
  have yu4_1 : ¬ v5 = 0 → 1 ≤ (r6 1 4).toInt := pu4.2.2.2.2.1
  have xu4 : (v5, r6) = (Gm_needsTown1 r2 q3) := pu4.2.2.2.2.2.1
  have hE := zc_vrE xu4 hE
  have hw : zPD D A (mW ct h0 y r6 q3) H := hw
  refine zfr 9 [.int v5] rfl rfl ?_
  refine lv_if_ne (tgt := 14) hx hb dX12_readsRoad_9 (by decide) (fun c7 => ?_) (fun c7 => ?_)
  · have hE := zifnT c7 hE
    have k8 : zI 1 1 (v5) := zI.neD c7 hv5 (zI.lit (a := 0) (b := 0) (c := 0) (by decide)) (by decide)
    refine lv_aload_n hx hb dX12_readsRoad_14 rfl (lv_at hl 0 rfl) ?_
    refine mget (v := .int (r6 136 0)) hx hb hts hiX12 hown hK hw 36 (by decide) lf256 rfl rfl dX12_readsRoad_15 ?_
    refine lv_istore_n (lv' := [(1, .int (r6 136 0)), (0, .ref h0)]) hx hb dX12_readsRoad_18 rfl hl (by decide) rfl (fun ls hl => ?_)
    refine lv_aload_n hx hb dX12_readsRoad_19 rfl (lv_at hl 1 rfl) ?_
    refine zcallW (va_runV (As := []) (rest := []) ⟨hx, hb, hml, hown, hts⟩ (mc_nextToken l D ct h0 y B r6 q3 ju4 (((mP.fr yu1_0 (fu4 103 rfl) (fu4 104 rfl) (fu4 105 rfl) (fu4 106 rfl))).2.1) H.size) (cwV 0 hts (kgV (zr22 13 rfl) (zr22 14 rfl) (zr22 15 rfl) (zr1 5 rfl) (zr22 16 rfl)) rfl rfl rfl (by decide +kernel) ⟨Nat.le_of_ble_eq_true rfl, Nat.le_of_ble_eq_true rfl⟩) (zpreV hK hw hS hA zZ.nil hN (List.range (mW ct h0 y r6 q3).length) mWn (zrange _) 11 0 rfl mWo) rfl rfl hl.1 rfl (lv_room (Nat.le_of_ble_eq_true rfl)) dX12_readsRoad_20 ⟨Nat.le_of_ble_eq_true rfl, Nat.le_of_ble_eq_true rfl⟩) hw hS hA 23 rfl (fun u9 H locs pu9 hw hS => ?_)
    obtain ⟨r10, q11⟩ := u9
    have ju9 : mJ B r10 := pu9.1
    have fu9 : zFr [104, 105, 106, 108] r6 r10 := pu9.2.1
    have yu9_0 : mP r10 := pu9.2.2.1
    have yu9_1 : (r6 104 0).toInt ≤ (r10 105 0).toInt := pu9.2.2.2.1
    have xu9 : (r10, q11) = (Gm_nextToken r6 q3) := pu9.2.2.2.2.1
    have hE := zc_rqE xu9 hE
    have hw : zPD D A (mW ct h0 y r10 q11) H := hw
    refine zfr 23 [] rfl rfl ?_
    refine lv_aload_n hx hb dX12_readsRoad_23 rfl (lv_at hl 1 rfl) ?_
    refine lv_iconst (v := 1) hx hb dX12_readsRoad_24 (by decide) ?_
    refine zcallW (va_runV (As := [.int 1]) (rest := []) ⟨hx, hb, hml, hown, hts⟩ (mc_needsTown1 l D ct h0 y B r10 q11 ju9 H.size) (cwV 1 hts (kgV (zr26 2 rfl) (zr26 3 rfl) (zr26 4 rfl) (zr1 5 rfl) (zr26 5 rfl)) rfl rfl rfl (by decide +kernel) ⟨Nat.le_of_ble_eq_true rfl, Nat.le_of_ble_eq_true rfl⟩) (zpreV hK hw hS hA zZ.nil hN (List.range (mW ct h0 y r10 q11).length) mWn (zrange _) 11 0 rfl mWo) rfl rfl hl.1 rfl (lv_room (Nat.le_of_ble_eq_true rfl)) dX12_readsRoad_25 ⟨Nat.le_of_ble_eq_true rfl, Nat.le_of_ble_eq_true rfl⟩) hw hS hA 28 rfl (fun u12 H locs pu12 hw hS => ?_)
    obtain ⟨v13, r14⟩ := u12
    have hv13 : zI 0 1 v13 := pu12.1
    have ju12 : mJ B r14 := pu12.2.1
    have fu12 : zFr [136, 109] r10 r14 := pu12.2.2.1
    have yu12_0 : ¬ v13 = 0 → zI 0 5 (r14 136 0) := pu12.2.2.2.1
    have yu12_1 : ¬ v13 = 0 → 1 ≤ (r14 1 4).toInt := pu12.2.2.2.2.1
    have xu12 : (v13, r14) = (Gm_needsTown1 r10 q11) := pu12.2.2.2.2.2.1
    have hE := zc_vrE xu12 hE
    have hw : zPD D A (mW ct h0 y r14 q11) H := hw
    refine zfr 28 [.int v13] rfl rfl ?_
    refine lv_if_ne (tgt := 33) hx hb dX12_readsRoad_28 (by decide) (fun c15 => ?_) (fun c15 => ?_)
    · have hE := zifnT c15 hE
      have k16 : zI 1 1 (v13) := zI.neD c15 hv13 (zI.lit (a := 0) (b := 0) (c := 0) (by decide)) (by decide)
      refine lv_aload_n hx hb dX12_readsRoad_33 rfl (lv_at hl 1 rfl) ?_
      refine mget (v := .int (r14 136 0)) hx hb hts hiX12 hown hK hw 36 (by decide) lf256 rfl rfl dX12_readsRoad_34 ?_
      refine lv_iload_n hx hb dX12_readsRoad_37 rfl (lv_at hl 0 rfl) ?_
      refine lv_icmp_eq (tgt := 61) hx hb dX12_readsRoad_38 (by decide) (fun c17 => ?_) (fun c17 => ?_)
      · have hE := zifT c17 hE
        refine lv_aload_n hx hb dX12_readsRoad_61 rfl (lv_at hl 1 rfl) ?_
        refine lv_iconst (v := 3) hx hb dX12_readsRoad_62 (by decide) ?_
        refine zcallW (va_runV (As := [.int 3]) (rest := []) ⟨hx, hb, hml, hown, hts⟩ (mc_fails l D ct h0 y B 3 r14 q11 ((zI.lit (a := 3) (b := 3) (c := 3) (by decide)).w (c := 1) (d := 5) (by decide)) ju12 H.size) (cwV 1 hts (kgV (zr23 13 rfl) (zr23 14 rfl) (zr23 15 rfl) (zr1 5 rfl) (zr23 16 rfl)) rfl rfl rfl (by decide +kernel) ⟨Nat.le_of_ble_eq_true rfl, Nat.le_of_ble_eq_true rfl⟩) (zpreV hK hw hS hA zZ.nil hN (List.range (mW ct h0 y r14 q11).length) mWn (zrange _) 11 0 rfl mWo) rfl rfl hl.1 rfl (lv_room (Nat.le_of_ble_eq_true rfl)) dX12_readsRoad_63 ⟨Nat.le_of_ble_eq_true rfl, Nat.le_of_ble_eq_true rfl⟩) hw hS hA 66 rfl (fun u18 H locs pu18 hw hS => ?_)
        obtain ⟨v19, r20⟩ := u18
        have hv19 : zI 0 0 v19 := pu18.1
        have ju18 : mJ B r20 := pu18.2.1
        have fu18 : zFr [109] r14 r20 := pu18.2.2.1
        have xu18 : (v19, r20) = (Gm_fails (3 : Int32) r14 q11) := pu18.2.2.2.1
        have hE := zc_vrE xu18 hE
        have hw : zPD D A (mW ct h0 y r20 q11) H := hw
        refine zfr 66 [.int v19] rfl rfl ?_
        exact ziretQ hQ hx hb hr ((hv19.w (c := 0) (d := 1) (by decide)).rn) hlocks (v19, r20, q11) rfl ⟨(hv19.w (c := 0) (d := 1) (by decide)), ju18, ((((((zFr.refl).tr fu1 rfl).tr fu4 rfl).tr fu9 rfl).tr fu12 rfl).tr fu18 rfl), (show mP r20 from (mP.fr yu9_0 ((fu18 103 rfl).trans (fu12 103 rfl)) ((fu18 104 rfl).trans (fu12 104 rfl)) ((fu18 105 rfl).trans (fu12 105 rfl)) ((fu18 106 rfl).trans (fu12 106 rfl)))), (fun h => absurd (zI.eq0 hv19) h), (hE.symm.trans hX), trivial⟩ hw hS dX12_readsRoad_66
      · have hE := zifF c17 hE
        refine lv_aload_n hx hb dX12_readsRoad_41 rfl (lv_at hl 1 rfl) ?_
        refine mget (v := .ref (y 5)) hx hb hts hiX12 hown hK hw 14 (by decide) lf26 rfl rfl dX12_readsRoad_42 ?_
        refine lv_bipush (v := 6) hx hb dX12_readsRoad_45 (by decide) ?_
        refine lv_iload_n hx hb dX12_readsRoad_47 rfl (lv_at hl 0 rfl) ?_
        refine lv_iadd hx hb dX12_readsRoad_48 (zgenE (lo := 6) (hi := 11) (zI.add (zI.lit (a := 6) (b := 6) (c := 6) (by decide)) (yu4_0 c7) (by decide)) (fun v21 ev21 hv21 => ?_))
        have hE := zletE ev21 hE
        refine miald hx hb hK hw 6 mWg5 hv21 (by decide) dX12_readsRoad_49 (zgenE (zI.top _) (fun v22 ev22 _ => ?_))
        have hE := zletE ev22 hE
        refine lv_aload_n hx hb dX12_readsRoad_50 rfl (lv_at hl 1 rfl) ?_
        refine mget (v := .int (r14 136 0)) hx hb hts hiX12 hown hK hw 36 (by decide) lf256 rfl rfl dX12_readsRoad_51 ?_
        refine lv_ishr hx hb dX12_readsRoad_54 (zgenE (zI.top _) (fun v23 ev23 _ => ?_))
        have hE := zletE ev23 hE
        refine lv_iconst (v := 1) hx hb dX12_readsRoad_55 (by decide) ?_
        refine lv_iand hx hb dX12_readsRoad_56 (zgenE (lo := 0) (hi := 1) (zI.and (zI.lit (a := 1) (b := 1) (c := 1) (by decide)) (by decide)) (fun v24 ev24 hv24 => ?_))
        have hE := zletE ev24 hE
        refine lv_iconst (v := 1) hx hb dX12_readsRoad_57 (by decide) ?_
        refine lv_icmp_ne (tgt := 67) hx hb dX12_readsRoad_58 (by decide) (fun c25 => ?_) (fun c25 => ?_)
        · have hE := zifnT c25 hE
          have k26 : zI 0 0 (v24) := zI.neU c25 hv24 (zI.lit (a := 1) (b := 1) (c := 1) (by decide)) (by decide)
          refine lv_aload_n hx hb dX12_readsRoad_67 rfl (lv_at hl 1 rfl) ?_
          refine mget (v := .ref (y 5)) hx hb hts hiX12 hown hK hw 14 (by decide) lf26 rfl rfl dX12_readsRoad_68 ?_
          refine lv_bipush (v := 6) hx hb dX12_readsRoad_71 (by decide) ?_
          refine lv_iload_n hx hb dX12_readsRoad_73 rfl (lv_at hl 0 rfl) ?_
          refine lv_iadd hx hb dX12_readsRoad_74 (zgenE (lo := 6) (hi := 11) (zI.add (zI.lit (a := 6) (b := 6) (c := 6) (by decide)) (yu4_0 c7) (by decide)) (fun v27 ev27 hv27 => ?_))
          have hE := zletE ev27 hE
          refine lv_dup2_11 hx hb dX12_readsRoad_75 rfl rfl ?_
          refine miald hx hb hK hw 6 mWg5 hv27 (by decide) dX12_readsRoad_76 (zgenE (zI.top _) (fun v28 ev28 _ => ?_))
          have hE := zletE ev28 hE
          refine lv_iconst (v := 1) hx hb dX12_readsRoad_77 (by decide) ?_
          refine lv_aload_n hx hb dX12_readsRoad_78 rfl (lv_at hl 1 rfl) ?_
          refine mget (v := .int (r14 136 0)) hx hb hts hiX12 hown hK hw 36 (by decide) lf256 rfl rfl dX12_readsRoad_79 ?_
          refine lv_ishl hx hb dX12_readsRoad_82 (zgenE (lo := 1) (hi := 32) (zI.shl (yu12_0 c15) 5 (by decide)) (fun v29 ev29 hv29 => ?_))
          have hE := zletE ev29 hE
          refine lv_ior hx hb dX12_readsRoad_83 (zgenE (zI.top _) (fun v30 ev30 _ => ?_))
          have hE := zletE ev30 hE
          refine miast hx hb hK hw hS 6 mWg5 hv27 (by decide) dX12_readsRoad_84 (mW ct h0 y (zset r14 5 (upd (r14 5) (zn v27) v30)) q11) mWs5 (fun H locs hw hS => ?_)
          refine mgen (P := fun x => mJ B x ∧ zFr [104, 105, 106, 108, 109, 136, 5] r x) hw ⟨ju12.set rfl (zI.top _), (((((zFr.refl).tr fu1 rfl).tr fu4 rfl).tr fu9 rfl).tr fu12 rfl).set rfl⟩ (fun r31 er31 hw pr31 => ?_)
          have hE := zletE er31 hE
          refine lv_aload_n hx hb dX12_readsRoad_85 rfl (lv_at hl 1 rfl) ?_
          refine mget (v := .ref (y 5)) hx hb hts hiX12 hown hK hw 14 (by decide) lf26 rfl rfl dX12_readsRoad_86 ?_
          refine lv_bipush (v := 6) hx hb dX12_readsRoad_89 (by decide) ?_
          refine lv_aload_n hx hb dX12_readsRoad_91 rfl (lv_at hl 1 rfl) ?_
          refine mget (v := .int (r31 136 0)) hx hb hts hiX12 hown hK hw 36 (by decide) lf256 rfl rfl dX12_readsRoad_92 ?_
          refine lv_iadd hx hb dX12_readsRoad_95 (zgenE (lo := 6) (hi := 11) (zI.add (zI.lit (a := 6) (b := 6) (c := 6) (by decide)) (zs_at er31 (yu12_0 c15) (by decide)) (by decide)) (fun v32 ev32 hv32 => ?_))
          have hE := zletE ev32 hE
          refine lv_dup2_11 hx hb dX12_readsRoad_96 rfl rfl ?_
          refine miald hx hb hK hw 6 mWg5 hv32 (by decide) dX12_readsRoad_97 (zgenE (zI.top _) (fun v33 ev33 _ => ?_))
          have hE := zletE ev33 hE
          refine lv_iconst (v := 1) hx hb dX12_readsRoad_98 (by decide) ?_
          refine lv_iload_n hx hb dX12_readsRoad_99 rfl (lv_at hl 0 rfl) ?_
          refine lv_ishl hx hb dX12_readsRoad_100 (zgenE (lo := 1) (hi := 32) (zI.shl (yu4_0 c7) 5 (by decide)) (fun v34 ev34 hv34 => ?_))
          have hE := zletE ev34 hE
          refine lv_ior hx hb dX12_readsRoad_101 (zgenE (zI.top _) (fun v35 ev35 _ => ?_))
          have hE := zletE ev35 hE
          refine miast hx hb hK hw hS 6 mWg5 hv32 (by decide) dX12_readsRoad_102 (mW ct h0 y (zset r31 5 (upd (r31 5) (zn v32) v35)) q11) mWs5 (fun H locs hw hS => ?_)
          refine mgen (P := fun x => mJ B x ∧ zFr [104, 105, 106, 108, 109, 136, 5] r x) hw ⟨pr31.1.set rfl (zI.top _), pr31.2.set rfl⟩ (fun r36 er36 hw pr36 => ?_)
          have hE := zletE er36 hE
          refine lv_aload_n hx hb dX12_readsRoad_103 rfl (lv_at hl 1 rfl) ?_
          refine zcallW (va_runV (As := []) (rest := []) ⟨hx, hb, hml, hown, hts⟩ (mc_nextToken l D ct h0 y B r36 q11 pr36.1 (((mP.fr yu9_0 ((zs_row (k := 103) er36 (by decide)).trans ((zs_row (k := 103) er31 (by decide)).trans (fu12 103 rfl))) ((zs_row (k := 104) er36 (by decide)).trans ((zs_row (k := 104) er31 (by decide)).trans (fu12 104 rfl))) ((zs_row (k := 105) er36 (by decide)).trans ((zs_row (k := 105) er31 (by decide)).trans (fu12 105 rfl))) ((zs_row (k := 106) er36 (by decide)).trans ((zs_row (k := 106) er31 (by decide)).trans (fu12 106 rfl))))).2.1) H.size) (cwV 0 hts (kgV (zr22 13 rfl) (zr22 14 rfl) (zr22 15 rfl) (zr1 5 rfl) (zr22 16 rfl)) rfl rfl rfl (by decide +kernel) ⟨Nat.le_of_ble_eq_true rfl, Nat.le_of_ble_eq_true rfl⟩) (zpreV hK hw hS hA zZ.nil hN (List.range (mW ct h0 y r36 q11).length) mWn (zrange _) 11 0 rfl mWo) rfl rfl hl.1 rfl (lv_room (Nat.le_of_ble_eq_true rfl)) dX12_readsRoad_104 ⟨Nat.le_of_ble_eq_true rfl, Nat.le_of_ble_eq_true rfl⟩) hw hS hA 107 rfl (fun u37 H locs pu37 hw hS => ?_)
          obtain ⟨r38, q39⟩ := u37
          have ju37 : mJ B r38 := pu37.1
          have fu37 : zFr [104, 105, 106, 108] r36 r38 := pu37.2.1
          have yu37_0 : mP r38 := pu37.2.2.1
          have yu37_1 : (r36 104 0).toInt ≤ (r38 105 0).toInt := pu37.2.2.2.1
          have xu37 : (r38, q39) = (Gm_nextToken r36 q11) := pu37.2.2.2.2.1
          have hE := zc_rqE xu37 hE
          have hw : zPD D A (mW ct h0 y r38 q39) H := hw
          refine zfr 107 [] rfl rfl ?_
          refine lv_aload_n hx hb dX12_readsRoad_107 rfl (lv_at hl 1 rfl) ?_
          refine zcallW (va_runV (As := []) (rest := []) ⟨hx, hb, hml, hown, hts⟩ (mc_closes l D ct h0 y B r38 q39 ju37 (yu37_0) H.size) (cwV 0 hts (kgV (zr25 14 rfl) (zr25 15 rfl) (zr25 16 rfl) (zr1 5 rfl) (zr25 17 rfl)) rfl rfl rfl (by decide +kernel) ⟨Nat.le_of_ble_eq_true rfl, Nat.le_of_ble_eq_true rfl⟩) (zpreV hK hw hS hA zZ.nil hN (List.range (mW ct h0 y r38 q39).length) mWn (zrange _) 11 0 rfl mWo) rfl rfl hl.1 rfl (lv_room (Nat.le_of_ble_eq_true rfl)) dX12_readsRoad_108 ⟨Nat.le_of_ble_eq_true rfl, Nat.le_of_ble_eq_true rfl⟩) hw hS hA 111 rfl (fun u40 H locs pu40 hw hS => ?_)
          obtain ⟨v41, r42, q43⟩ := u40
          have hv41 : zI 0 1 v41 := pu40.1
          have ju40 : mJ B r42 := pu40.2.1
          have fu40 : zFr [104, 105, 106, 108, 109] r38 r42 := pu40.2.2.1
          have yu40_0 : mP r42 := pu40.2.2.2.1
          have yu40_1 : (r38 105 0).toInt ≤ (r42 105 0).toInt := pu40.2.2.2.2.1
          have xu40 : (v41, r42, q43) = (Gm_closes r38 q39) := pu40.2.2.2.2.2.1
          have hE := zc_vrqE xu40 hE
          have hw : zPD D A (mW ct h0 y r42 q43) H := hw
          refine zfr 111 [.int v41] rfl rfl ?_
          exact ziretQ hQ hx hb hr (hv41.rn) hlocks (v41, r42, q43) rfl ⟨hv41, ju40, ((pr36.2.tr fu37 rfl).tr fu40 rfl), (show mP r42 from yu40_0), (show ¬ v41 = 0 → (r 105 0).toInt < (r42 105 0).toInt from (fun _ => by have := yu40_1; have := yu37_1; have := ((mP.fr yu9_0 ((zs_row (k := 103) er36 (by decide)).trans ((zs_row (k := 103) er31 (by decide)).trans (fu12 103 rfl))) ((zs_row (k := 104) er36 (by decide)).trans ((zs_row (k := 104) er31 (by decide)).trans (fu12 104 rfl))) ((zs_row (k := 105) er36 (by decide)).trans ((zs_row (k := 105) er31 (by decide)).trans (fu12 105 rfl))) ((zs_row (k := 106) er36 (by decide)).trans ((zs_row (k := 106) er31 (by decide)).trans (fu12 106 rfl))))).1; have := congrArg Int32.toInt (congrFun (zs_row (k := 105) er36 (by decide)) 0); have := congrArg Int32.toInt (congrFun (zs_row (k := 105) er31 (by decide)) 0); have := congrArg Int32.toInt (congrFun (fu12 105 rfl) 0); have := yu9_1; have := ((mP.fr yu1_0 (fu4 103 rfl) (fu4 104 rfl) (fu4 105 rfl) (fu4 106 rfl))).1; have := congrArg Int32.toInt (congrFun (fu4 105 rfl) 0); have := yu1_1; have := (x1).1; have := (x1).2.2.resolve_left (tkne x2 (by decide)); omega)), (hE.symm.trans hX), trivial⟩ hw hS dX12_readsRoad_111
        · have hE := zifnF c25 hE
          have k44 : zI 1 1 (v24) := zI.eqq c25 (zI.lit (a := 1) (b := 1) (c := 1) (by decide))
          refine lv_aload_n hx hb dX12_readsRoad_61 rfl (lv_at hl 1 rfl) ?_
          refine lv_iconst (v := 3) hx hb dX12_readsRoad_62 (by decide) ?_
          refine zcallW (va_runV (As := [.int 3]) (rest := []) ⟨hx, hb, hml, hown, hts⟩ (mc_fails l D ct h0 y B 3 r14 q11 ((zI.lit (a := 3) (b := 3) (c := 3) (by decide)).w (c := 1) (d := 5) (by decide)) ju12 H.size) (cwV 1 hts (kgV (zr23 13 rfl) (zr23 14 rfl) (zr23 15 rfl) (zr1 5 rfl) (zr23 16 rfl)) rfl rfl rfl (by decide +kernel) ⟨Nat.le_of_ble_eq_true rfl, Nat.le_of_ble_eq_true rfl⟩) (zpreV hK hw hS hA zZ.nil hN (List.range (mW ct h0 y r14 q11).length) mWn (zrange _) 11 0 rfl mWo) rfl rfl hl.1 rfl (lv_room (Nat.le_of_ble_eq_true rfl)) dX12_readsRoad_63 ⟨Nat.le_of_ble_eq_true rfl, Nat.le_of_ble_eq_true rfl⟩) hw hS hA 66 rfl (fun u45 H locs pu45 hw hS => ?_)
          obtain ⟨v46, r47⟩ := u45
          have hv46 : zI 0 0 v46 := pu45.1
          have ju45 : mJ B r47 := pu45.2.1
          have fu45 : zFr [109] r14 r47 := pu45.2.2.1
          have xu45 : (v46, r47) = (Gm_fails (3 : Int32) r14 q11) := pu45.2.2.2.1
          have hE := zc_vrE xu45 hE
          have hw : zPD D A (mW ct h0 y r47 q11) H := hw
          refine zfr 66 [.int v46] rfl rfl ?_
          exact ziretQ hQ hx hb hr ((hv46.w (c := 0) (d := 1) (by decide)).rn) hlocks (v46, r47, q11) rfl ⟨(hv46.w (c := 0) (d := 1) (by decide)), ju45, ((((((zFr.refl).tr fu1 rfl).tr fu4 rfl).tr fu9 rfl).tr fu12 rfl).tr fu45 rfl), (show mP r47 from (mP.fr yu9_0 ((fu45 103 rfl).trans (fu12 103 rfl)) ((fu45 104 rfl).trans (fu12 104 rfl)) ((fu45 105 rfl).trans (fu12 105 rfl)) ((fu45 106 rfl).trans (fu12 106 rfl)))), (fun h => absurd (zI.eq0 hv46) h), (hE.symm.trans hX), trivial⟩ hw hS dX12_readsRoad_66
    · have hE := zifnF c15 hE
      have k48 : zI 0 0 (v13) := zI.eqq c15 (zI.lit (a := 0) (b := 0) (c := 0) (by decide))
      refine lv_iconst (v := 0) hx hb dX12_readsRoad_31 (by decide) ?_
      exact ziretQ hQ hx hb hr rfl hlocks (0, r14, q11) rfl ⟨((zI.lit (a := 0) (b := 0) (c := 0) (by decide)).w (c := 0) (d := 1) (by decide)), ju12, (((((zFr.refl).tr fu1 rfl).tr fu4 rfl).tr fu9 rfl).tr fu12 rfl), (show mP r14 from (mP.fr yu9_0 (fu12 103 rfl) (fu12 104 rfl) (fu12 105 rfl) (fu12 106 rfl))), (fun h => absurd rfl h), (hE.symm.trans hX), trivial⟩ hw hS dX12_readsRoad_32
  · have hE := zifnF c7 hE
    have k49 : zI 0 0 (v5) := zI.eqq c7 (zI.lit (a := 0) (b := 0) (c := 0) (by decide))
    refine lv_iconst (v := 0) hx hb dX12_readsRoad_12 (by decide) ?_
    exact ziretQ hQ hx hb hr rfl hlocks (0, r6, q3) rfl ⟨((zI.lit (a := 0) (b := 0) (c := 0) (by decide)).w (c := 0) (d := 1) (by decide)), ju4, (((zFr.refl).tr fu1 rfl).tr fu4 rfl), (show mP r6 from (mP.fr yu1_0 (fu4 103 rfl) (fu4 104 rfl) (fu4 105 rfl) (fu4 106 rfl))), (fun h => absurd rfl h), (hE.symm.trans hX), trivial⟩ hw hS dX12_readsRoad_13

set_option maxHeartbeats 4000000 in
set_option maxRecDepth 100000 in
theorem mc_readsPerson (l : Launch) (D : va_G) (ct : Nat → ClassId) (h0 : Nat) (y : Nat → Nat) (B : Int) (r : zRr) (q : zRq) (hJ0 : mJ B r) (x1 : mP r) (x2 : zI 1 4 (r 106 0)) : zC l yX12_readsPerson (.code yX12_readsPerson cX12_readsPerson 4 (some .boolean) :: wsL_law0) ({ frames := 5, cells := 0, slots := 0, locals := 240 }) D ct [] [.ref h0] (mW ct h0 y r q) (S := Int32 × zRr × zRq) (fun u => some (.int u.1)) (fun u => zI 0 1 u.1 ∧ mJ B u.2.1 ∧ zFr [104, 105, 106, 108, 109, 136, 6, 7, 8, 9, 1] r u.2.1 ∧ (mP u.2.1) ∧ (¬ u.1 = 0 → (r 105 0).toInt < (u.2.1 105 0).toInt) ∧ (¬ u.1 = 0 → mT1 u.2.1) ∧ u = (Gm_readsPerson r q) ∧ True) (fun u => mW ct h0 y u.2.1 u.2.2) 0 0 := by
  refine zofQ cX12_readsPerson 4 (some .boolean) (by decide) rfl (Nat.le_of_ble_eq_true rfl) ?_
  intro p e s m below meth c A a9 Q ha9 hx hb hr hml hts hown hlocks hname hK hA hZ hN hQ
  have hown : s.vm.findClass RX12 = some m.cls := hown
  have hiX12 : ∀ w ∈ wsX120, w ∈ .code yX12_readsPerson cX12_readsPerson 4 (some .boolean) :: wsL_law0 := fun _ h => ki (zs_wsX120 _ h)
  have lf13 := hts (.fieldLink RX12 13 "BeardPassModel" "land" "[I") (ki (zr7 20 rfl))
  have lf20 := hts (.fieldLink RX12 20 "BeardPassModel" "personName" "[J") (ki (zr7 22 rfl))
  have lf29 := hts (.fieldLink RX12 29 "BeardPassModel" "kind" "[I") (ki (zr8 1 rfl))
  have lf32 := hts (.fieldLink RX12 32 "BeardPassModel" "atTold" "[I") (ki (zr8 2 rfl))
  have lf35 := hts (.fieldLink RX12 35 "BeardPassModel" "beardTold" "[I") (ki (zr8 3 rfl))
  have lf38 := hts (.fieldLink RX12 38 "BeardPassModel" "purseTold" "[I") (ki (zr8 4 rfl))
  have lf256 := hts (.fieldLink RX12 256 "BeardPassModel" "given" "I") (ki (zr23 11 rfl))
  have lf276 := hts (.fieldLink RX12 276 "BeardPassModel" "fresh" "J") (ki (zr23 12 rfl))
  obtain ⟨X, hX⟩ : ∃ X, X = (Gm_readsPerson r q) := ⟨_, rfl⟩
  have cut102 : ∀ (w102_2 : Int64) (w102_s0 : Int32) (rw102 : zRr) (qw102 : zRq) (hw102_1 : zI 6 11 (6 + (r 1 5))) (hw102_s0 : zI (-1) 3 w102_s0) (hw102_s1 : zI 6 11 (6 + (r 1 5))) (jw102 : mJ B rw102) (fw102 : zFr [104, 105, 106, 108, 109, 136, 6, 7, 8, 9, 1] r rw102) (mw102_1_5 : zI 0 5 (rw102 1 5)) (xp102 : mP rw102) (xm102 : (r 105 0).toInt < (rw102 105 0).toInt) (hE : X = Gm_readsPerson_102 r w102_2 w102_s0 rw102 qw102), zKf p l e ({ frames := 5, cells := 0, slots := 0, locals := 240 }) s m a9 below meth c Q D A 102 4 [.int w102_s0, .int (6 + (r 1 5)), .ref (y 6)] (mW ct h0 y rw102 qw102) [(0, .ref h0), (1, .int (6 + (r 1 5))), (2, .long w102_2)] := by
    intro w102_2 w102_s0 rw102 qw102 hw102_1 hw102_s0 hw102_s1 jw102 fw102 mw102_1_5 xp102 xm102 hE H locs ls hw hS hl
    unfold Gm_readsPerson_102 at hE
    refine miast hx hb hK hw hS 7 mWg6 hw102_s1 (by decide) dX12_readsPerson_102 (mW ct h0 y (zset rw102 6 (upd (rw102 6) (zn (6 + (r 1 5))) w102_s0)) qw102) mWs6 (fun H locs hw hS => ?_)
    refine mgen (P := fun x => mJ B x ∧ zFr [104, 105, 106, 108, 109, 136, 6, 7, 8, 9, 1] r x) hw ⟨jw102.set rfl (zI.top _), fw102.set rfl⟩ (fun r1 er1 hw pr1 => ?_)
    have hE := zletE er1 hE
    refine lv_aload_n hx hb dX12_readsPerson_103 rfl (lv_at hl 0 rfl) ?_
    refine mget (v := .ref (y 6)) hx hb hts hiX12 hown hK hw 15 (by decide) lf29 rfl rfl dX12_readsPerson_104 ?_
    refine lv_iload_n hx hb dX12_readsPerson_107 rfl (lv_at hl 1 rfl) ?_
    refine miald hx hb hK hw 7 mWg6 hw102_s1 (by decide) dX12_readsPerson_108 (zgenE (zI.top _) (fun v2 ev2 _ => ?_))
    have hE := zletE ev2 hE
    refine lv_if_ge (tgt := 118) hx hb dX12_readsPerson_109 (by decide) (fun c3 => ?_) (fun c3 => ?_)
    · have hE := zifT c3 hE
      have k4 : zI 0 2147483647 (v2) := zI.leD c3 (zI.lit (a := 0) (b := 0) (c := 0) (by decide)) (zI.top _) (by decide)
      refine lv_aload_n hx hb dX12_readsPerson_118 rfl (lv_at hl 0 rfl) ?_
      refine zcallW (va_runV (As := []) (rest := []) ⟨hx, hb, hml, hown, hts⟩ (mc_nextToken l D ct h0 y B r1 qw102 pr1.1 (((mP.fr xp102 (zs_row (k := 103) er1 (by decide)) (zs_row (k := 104) er1 (by decide)) (zs_row (k := 105) er1 (by decide)) (zs_row (k := 106) er1 (by decide)))).2.1) H.size) (cwV 0 hts (kgV (zr22 13 rfl) (zr22 14 rfl) (zr22 15 rfl) (zr1 5 rfl) (zr22 16 rfl)) rfl rfl rfl (by decide +kernel) ⟨Nat.le_of_ble_eq_true rfl, Nat.le_of_ble_eq_true rfl⟩) (zpreV hK hw hS hA zZ.nil hN (List.range (mW ct h0 y r1 qw102).length) mWn (zrange _) 11 0 rfl mWo) rfl rfl hl.1 rfl (lv_room (Nat.le_of_ble_eq_true rfl)) dX12_readsPerson_119 ⟨Nat.le_of_ble_eq_true rfl, Nat.le_of_ble_eq_true rfl⟩) hw hS hA 122 rfl (fun u5 H locs pu5 hw hS => ?_)
      obtain ⟨r6, q7⟩ := u5
      have ju5 : mJ B r6 := pu5.1
      have fu5 : zFr [104, 105, 106, 108] r1 r6 := pu5.2.1
      have yu5_0 : mP r6 := pu5.2.2.1
      have yu5_1 : (r1 104 0).toInt ≤ (r6 105 0).toInt := pu5.2.2.2.1
      have xu5 : (r6, q7) = (Gm_nextToken r1 qw102) := pu5.2.2.2.2.1
      have hE := zc_rqE xu5 hE
      have hw : zPD D A (mW ct h0 y r6 q7) H := hw
      refine zfr 122 [] rfl rfl ?_
      refine lv_aload_n hx hb dX12_readsPerson_122 rfl (lv_at hl 0 rfl) ?_
      refine lv_ldc2 hx hb hown (hts (.constantLong RX12 224 47) (ki (zr24 1 rfl))) dX12_readsPerson_123 ?_
      refine zcallW (va_runV (As := [.long 47]) (rest := []) ⟨hx, hb, hml, hown, hts⟩ (mc_needsWord l D ct h0 y B 47 r6 q7 ju5 (yu5_0) H.size) (cwV 1 hts (kgV (zr25 3 rfl) (zr25 4 rfl) (zr25 5 rfl) (zr1 5 rfl) (zr25 6 rfl)) rfl rfl rfl (by decide +kernel) ⟨Nat.le_of_ble_eq_true rfl, Nat.le_of_ble_eq_true rfl⟩) (zpreV hK hw hS hA zZ.nil hN (List.range (mW ct h0 y r6 q7).length) mWn (zrange _) 11 0 rfl mWo) rfl rfl hl.1 rfl (lv_room (Nat.le_of_ble_eq_true rfl)) dX12_readsPerson_126 ⟨Nat.le_of_ble_eq_true rfl, Nat.le_of_ble_eq_true rfl⟩) hw hS hA 129 rfl (fun u8 H locs pu8 hw hS => ?_)
      obtain ⟨v9, r10, q11⟩ := u8
      have hv9 : zI 0 1 v9 := pu8.1
      have ju8 : mJ B r10 := pu8.2.1
      have fu8 : zFr [104, 105, 106, 108, 109] r6 r10 := pu8.2.2.1
      have yu8_0 : mP r10 := pu8.2.2.2.1
      have yu8_1 : (r6 105 0).toInt ≤ (r10 105 0).toInt := pu8.2.2.2.2.1
      have xu8 : (v9, r10, q11) = (Gm_needsWord (47 : Int64) r6 q7) := pu8.2.2.2.2.2.1
      have hE := zc_vrqE xu8 hE
      have hw : zPD D A (mW ct h0 y r10 q11) H := hw
      refine zfr 129 [.int v9] rfl rfl ?_
      refine lv_if_eq (tgt := 140) hx hb dX12_readsPerson_129 (by decide) (fun c12 => ?_) (fun c12 => ?_)
      · have hE := zifT c12 hE
        have k13 : zI 0 0 (v9) := zI.eqq c12 (zI.lit (a := 0) (b := 0) (c := 0) (by decide))
        refine lv_iconst (v := 0) hx hb dX12_readsPerson_140 (by decide) ?_
        exact ziretQ hQ hx hb hr rfl hlocks (0, r10, q11) rfl ⟨((zI.lit (a := 0) (b := 0) (c := 0) (by decide)).w (c := 0) (d := 1) (by decide)), ju8, ((pr1.2.tr fu5 rfl).tr fu8 rfl), (show mP r10 from yu8_0), (fun h => absurd rfl h), (fun h => absurd rfl h), (hE.symm.trans hX), trivial⟩ hw hS dX12_readsPerson_141
      · have hE := zifF c12 hE
        have k14 : zI 1 1 (v9) := zI.neD c12 hv9 (zI.lit (a := 0) (b := 0) (c := 0) (by decide)) (by decide)
        refine lv_aload_n hx hb dX12_readsPerson_132 rfl (lv_at hl 0 rfl) ?_
        refine lv_iconst (v := 1) hx hb dX12_readsPerson_133 (by decide) ?_
        refine zcallW (va_runV (As := [.int 1]) (rest := []) ⟨hx, hb, hml, hown, hts⟩ (mc_needsTown1 l D ct h0 y B r10 q11 ju8 H.size) (cwV 1 hts (kgV (zr26 2 rfl) (zr26 3 rfl) (zr26 4 rfl) (zr1 5 rfl) (zr26 5 rfl)) rfl rfl rfl (by decide +kernel) ⟨Nat.le_of_ble_eq_true rfl, Nat.le_of_ble_eq_true rfl⟩) (zpreV hK hw hS hA zZ.nil hN (List.range (mW ct h0 y r10 q11).length) mWn (zrange _) 11 0 rfl mWo) rfl rfl hl.1 rfl (lv_room (Nat.le_of_ble_eq_true rfl)) dX12_readsPerson_134 ⟨Nat.le_of_ble_eq_true rfl, Nat.le_of_ble_eq_true rfl⟩) hw hS hA 137 rfl (fun u15 H locs pu15 hw hS => ?_)
        obtain ⟨v16, r17⟩ := u15
        have hv16 : zI 0 1 v16 := pu15.1
        have ju15 : mJ B r17 := pu15.2.1
        have fu15 : zFr [136, 109] r10 r17 := pu15.2.2.1
        have yu15_0 : ¬ v16 = 0 → zI 0 5 (r17 136 0) := pu15.2.2.2.1
        have yu15_1 : ¬ v16 = 0 → 1 ≤ (r17 1 4).toInt := pu15.2.2.2.2.1
        have xu15 : (v16, r17) = (Gm_needsTown1 r10 q11) := pu15.2.2.2.2.2.1
        have hE := zc_vrE xu15 hE
        have hw : zPD D A (mW ct h0 y r17 q11) H := hw
        refine zfr 137 [.int v16] rfl rfl ?_
        refine lv_if_ne (tgt := 142) hx hb dX12_readsPerson_137 (by decide) (fun c18 => ?_) (fun c18 => ?_)
        · have hE := zifnT c18 hE
          have k19 : zI 1 1 (v16) := zI.neD c18 hv16 (zI.lit (a := 0) (b := 0) (c := 0) (by decide)) (by decide)
          refine lv_aload_n hx hb dX12_readsPerson_142 rfl (lv_at hl 0 rfl) ?_
          refine mget (v := .ref (y 7)) hx hb hts hiX12 hown hK hw 16 (by decide) lf32 rfl rfl dX12_readsPerson_143 ?_
          refine lv_iload_n hx hb dX12_readsPerson_146 rfl (lv_at hl 1 rfl) ?_
          refine lv_aload_n hx hb dX12_readsPerson_147 rfl (lv_at hl 0 rfl) ?_
          refine mget (v := .int (r17 136 0)) hx hb hts hiX12 hown hK hw 36 (by decide) lf256 rfl rfl dX12_readsPerson_148 ?_
          refine miast hx hb hK hw hS 8 mWg7 hw102_s1 (by decide) dX12_readsPerson_151 (mW ct h0 y (zset r17 7 (upd (r17 7) (zn (6 + (r 1 5))) (r17 136 0))) q11) mWs7 (fun H locs hw hS => ?_)
          refine mgen (P := fun x => mJ B x ∧ zFr [104, 105, 106, 108, 109, 136, 6, 7, 8, 9, 1] r x) hw ⟨ju15.set rfl (yu15_0 c18), (((pr1.2.tr fu5 rfl).tr fu8 rfl).tr fu15 rfl).set rfl⟩ (fun r20 er20 hw pr20 => ?_)
          have hE := zletE er20 hE
          refine lv_aload_n hx hb dX12_readsPerson_152 rfl (lv_at hl 0 rfl) ?_
          refine zcallW (va_runV (As := []) (rest := []) ⟨hx, hb, hml, hown, hts⟩ (mc_nextToken l D ct h0 y B r20 q11 pr20.1 (((mP.fr yu8_0 ((zs_row (k := 103) er20 (by decide)).trans (fu15 103 rfl)) ((zs_row (k := 104) er20 (by decide)).trans (fu15 104 rfl)) ((zs_row (k := 105) er20 (by decide)).trans (fu15 105 rfl)) ((zs_row (k := 106) er20 (by decide)).trans (fu15 106 rfl)))).2.1) H.size) (cwV 0 hts (kgV (zr22 13 rfl) (zr22 14 rfl) (zr22 15 rfl) (zr1 5 rfl) (zr22 16 rfl)) rfl rfl rfl (by decide +kernel) ⟨Nat.le_of_ble_eq_true rfl, Nat.le_of_ble_eq_true rfl⟩) (zpreV hK hw hS hA zZ.nil hN (List.range (mW ct h0 y r20 q11).length) mWn (zrange _) 11 0 rfl mWo) rfl rfl hl.1 rfl (lv_room (Nat.le_of_ble_eq_true rfl)) dX12_readsPerson_153 ⟨Nat.le_of_ble_eq_true rfl, Nat.le_of_ble_eq_true rfl⟩) hw hS hA 156 rfl (fun u21 H locs pu21 hw hS => ?_)
          obtain ⟨r22, q23⟩ := u21
          have ju21 : mJ B r22 := pu21.1
          have fu21 : zFr [104, 105, 106, 108] r20 r22 := pu21.2.1
          have yu21_0 : mP r22 := pu21.2.2.1
          have yu21_1 : (r20 104 0).toInt ≤ (r22 105 0).toInt := pu21.2.2.2.1
          have xu21 : (r22, q23) = (Gm_nextToken r20 q11) := pu21.2.2.2.2.1
          have hE := zc_rqE xu21 hE
          have hw : zPD D A (mW ct h0 y r22 q23) H := hw
          refine zfr 156 [] rfl rfl ?_
          refine lv_aload_n hx hb dX12_readsPerson_156 rfl (lv_at hl 0 rfl) ?_
          refine lv_ldc2 hx hb hown (hts (.constantLong RX12 226 1162516) (ki (zr24 2 rfl))) dX12_readsPerson_157 ?_
          refine lv_iconst (v := 0) hx hb dX12_readsPerson_160 (by decide) ?_
          refine lv_bipush (v := 30) hx hb dX12_readsPerson_161 (by decide) ?_
          refine zcallW (va_runV (As := [.long 1162516, .int 0, .int 30]) (rest := []) ⟨hx, hb, hml, hown, hts⟩ (mc_needsBoth l D ct h0 y B 1162516 0 30 r22 q23 ju21 (yu21_0) H.size) (cwV 3 hts (kgV (zr24 23 rfl) (zr25 0 rfl) (zr25 1 rfl) (zr1 5 rfl) (zr25 2 rfl)) rfl rfl rfl (by decide +kernel) ⟨Nat.le_of_ble_eq_true rfl, Nat.le_of_ble_eq_true rfl⟩) (zpreV hK hw hS hA zZ.nil hN (List.range (mW ct h0 y r22 q23).length) mWn (zrange _) 11 0 rfl mWo) rfl rfl hl.1 rfl (lv_room (Nat.le_of_ble_eq_true rfl)) dX12_readsPerson_163 ⟨Nat.le_of_ble_eq_true rfl, Nat.le_of_ble_eq_true rfl⟩) hw hS hA 166 rfl (fun u24 H locs pu24 hw hS => ?_)
          obtain ⟨v25, r26, q27⟩ := u24
          have hv25 : zI 0 1 v25 := pu24.1
          have ju24 : mJ B r26 := pu24.2.1
          have fu24 : zFr [104, 105, 106, 108, 109, 136] r22 r26 := pu24.2.2.1
          have yu24_0 : mP r26 := pu24.2.2.2.1
          have yu24_1 : (r22 105 0).toInt ≤ (r26 105 0).toInt := pu24.2.2.2.2.1
          have yu24_2 : ¬ v25 = 0 → zI 0 9999 (r26 136 0) := pu24.2.2.2.2.2.1
          have xu24 : (v25, r26, q27) = (Gm_needsBoth (1162516 : Int64) (0 : Int32) (30 : Int32) r22 q23) := pu24.2.2.2.2.2.2.1
          have hE := zc_vrqE xu24 hE
          have hw : zPD D A (mW ct h0 y r26 q27) H := hw
          refine zfr 166 [.int v25] rfl rfl ?_
          refine lv_if_ne (tgt := 171) hx hb dX12_readsPerson_166 (by decide) (fun c28 => ?_) (fun c28 => ?_)
          · have hE := zifnT c28 hE
            have k29 : zI 1 1 (v25) := zI.neD c28 hv25 (zI.lit (a := 0) (b := 0) (c := 0) (by decide)) (by decide)
            refine lv_aload_n hx hb dX12_readsPerson_171 rfl (lv_at hl 0 rfl) ?_
            refine mget (v := .ref (y 8)) hx hb hts hiX12 hown hK hw 17 (by decide) lf35 rfl rfl dX12_readsPerson_172 ?_
            refine lv_iload_n hx hb dX12_readsPerson_175 rfl (lv_at hl 1 rfl) ?_
            refine lv_aload_n hx hb dX12_readsPerson_176 rfl (lv_at hl 0 rfl) ?_
            refine mget (v := .int (r26 136 0)) hx hb hts hiX12 hown hK hw 36 (by decide) lf256 rfl rfl dX12_readsPerson_177 ?_
            refine miast hx hb hK hw hS 9 mWg8 hw102_s1 (by decide) dX12_readsPerson_180 (mW ct h0 y (zset r26 8 (upd (r26 8) (zn (6 + (r 1 5))) (r26 136 0))) q27) mWs8 (fun H locs hw hS => ?_)
            refine mgen (P := fun x => mJ B x ∧ zFr [104, 105, 106, 108, 109, 136, 6, 7, 8, 9, 1] r x) hw ⟨ju24.set rfl (zI.top _), ((pr20.2.tr fu21 rfl).tr fu24 rfl).set rfl⟩ (fun r30 er30 hw pr30 => ?_)
            have hE := zletE er30 hE
            refine lv_aload_n hx hb dX12_readsPerson_181 rfl (lv_at hl 0 rfl) ?_
            refine lv_ldc2 hx hb hown (hts (.constantLong RX12 228 8930039) (ki (zr24 3 rfl))) dX12_readsPerson_182 ?_
            refine lv_iconst (v := 0) hx hb dX12_readsPerson_185 (by decide) ?_
            refine lv_bipush (v := 99) hx hb dX12_readsPerson_186 (by decide) ?_
            refine zcallW (va_runV (As := [.long 8930039, .int 0, .int 99]) (rest := []) ⟨hx, hb, hml, hown, hts⟩ (mc_needsBoth l D ct h0 y B 8930039 0 99 r30 q27 pr30.1 ((mP.fr yu24_0 (zs_row (k := 103) er30 (by decide)) (zs_row (k := 104) er30 (by decide)) (zs_row (k := 105) er30 (by decide)) (zs_row (k := 106) er30 (by decide)))) H.size) (cwV 3 hts (kgV (zr24 23 rfl) (zr25 0 rfl) (zr25 1 rfl) (zr1 5 rfl) (zr25 2 rfl)) rfl rfl rfl (by decide +kernel) ⟨Nat.le_of_ble_eq_true rfl, Nat.le_of_ble_eq_true rfl⟩) (zpreV hK hw hS hA zZ.nil hN (List.range (mW ct h0 y r30 q27).length) mWn (zrange _) 11 0 rfl mWo) rfl rfl hl.1 rfl (lv_room (Nat.le_of_ble_eq_true rfl)) dX12_readsPerson_188 ⟨Nat.le_of_ble_eq_true rfl, Nat.le_of_ble_eq_true rfl⟩) hw hS hA 191 rfl (fun u31 H locs pu31 hw hS => ?_)
            obtain ⟨v32, r33, q34⟩ := u31
            have hv32 : zI 0 1 v32 := pu31.1
            have ju31 : mJ B r33 := pu31.2.1
            have fu31 : zFr [104, 105, 106, 108, 109, 136] r30 r33 := pu31.2.2.1
            have yu31_0 : mP r33 := pu31.2.2.2.1
            have yu31_1 : (r30 105 0).toInt ≤ (r33 105 0).toInt := pu31.2.2.2.2.1
            have yu31_2 : ¬ v32 = 0 → zI 0 9999 (r33 136 0) := pu31.2.2.2.2.2.1
            have xu31 : (v32, r33, q34) = (Gm_needsBoth (8930039 : Int64) (0 : Int32) (99 : Int32) r30 q27) := pu31.2.2.2.2.2.2.1
            have hE := zc_vrqE xu31 hE
            have hw : zPD D A (mW ct h0 y r33 q34) H := hw
            refine zfr 191 [.int v32] rfl rfl ?_
            refine lv_if_ne (tgt := 196) hx hb dX12_readsPerson_191 (by decide) (fun c35 => ?_) (fun c35 => ?_)
            · have hE := zifnT c35 hE
              have k36 : zI 1 1 (v32) := zI.neD c35 hv32 (zI.lit (a := 0) (b := 0) (c := 0) (by decide)) (by decide)
              refine lv_aload_n hx hb dX12_readsPerson_196 rfl (lv_at hl 0 rfl) ?_
              refine mget (v := .ref (y 9)) hx hb hts hiX12 hown hK hw 18 (by decide) lf38 rfl rfl dX12_readsPerson_197 ?_
              refine lv_iload_n hx hb dX12_readsPerson_200 rfl (lv_at hl 1 rfl) ?_
              refine lv_aload_n hx hb dX12_readsPerson_201 rfl (lv_at hl 0 rfl) ?_
              refine mget (v := .int (r33 136 0)) hx hb hts hiX12 hown hK hw 36 (by decide) lf256 rfl rfl dX12_readsPerson_202 ?_
              refine miast hx hb hK hw hS 10 mWg9 hw102_s1 (by decide) dX12_readsPerson_205 (mW ct h0 y (zset r33 9 (upd (r33 9) (zn (6 + (r 1 5))) (r33 136 0))) q34) mWs9 (fun H locs hw hS => ?_)
              refine mgen (P := fun x => mJ B x ∧ zFr [104, 105, 106, 108, 109, 136, 6, 7, 8, 9, 1] r x) hw ⟨ju31.set rfl (zI.top _), (pr30.2.tr fu31 rfl).set rfl⟩ (fun r37 er37 hw pr37 => ?_)
              have hE := zletE er37 hE
              refine lv_aload_n hx hb dX12_readsPerson_206 rfl (lv_at hl 0 rfl) ?_
              refine mget (v := .ref (y 3)) hx hb hts hiX12 hown hK hw 12 (by decide) lf20 rfl rfl dX12_readsPerson_207 ?_
              refine lv_iload_n hx hb dX12_readsPerson_210 rfl (lv_at hl 1 rfl) ?_
              refine lv_lload_n hx hb dX12_readsPerson_211 rfl (lv_at hl 2 rfl) ?_
              refine mlast hx hb hK hw hS 4 mWg3 hw102_s1 (by decide) dX12_readsPerson_212 (mW ct h0 y r37 (zset q34 3 (vp_updL (q34 3) (zn (6 + (r 1 5))) w102_2))) mWs3 (fun H locs hw hS => ?_)
              refine mqgen hw (fun q38 eq38 hw => ?_)
              have hE := zletE eq38 hE
              refine lv_aload_n hx hb dX12_readsPerson_213 rfl (lv_at hl 0 rfl) ?_
              refine mget (v := .ref (y 1)) hx hb hts hiX12 hown hK hw 10 (by decide) lf13 rfl rfl dX12_readsPerson_214 ?_
              refine lv_iconst (v := 5) hx hb dX12_readsPerson_217 (by decide) ?_
              refine lv_dup2_11 hx hb dX12_readsPerson_218 rfl rfl ?_
              refine ziald hx hb hK hw 2 mWg1 5 (by decide) (by decide) (by decide) dX12_readsPerson_219 ?_
              refine lv_iconst (v := 1) hx hb dX12_readsPerson_220 (by decide) ?_
              refine lv_iadd hx hb dX12_readsPerson_221 ?_
              have k39 : zI 1 6 ((r37 1 5) + 1) := zI.add (zs_at er37 (fu31.at (zs_at er30 (fu24.at (fu21.at (zs_at er20 (fu15.at (fu8.at (fu5.at (zs_at er1 mw102_1_5 (by decide)) rfl) rfl) rfl) (by decide)) rfl) rfl) (by decide)) rfl) (by decide)) (zI.lit (a := 1) (b := 1) (c := 1) (by decide)) (by decide)
              refine ziast hx hb hK hw hS 2 mWg1 5 (by decide) (by decide) (by decide) dX12_readsPerson_222 (mW ct h0 y (zset r37 1 (upd (r37 1) 5 ((r37 1 5) + 1))) q38) mWs1 (fun H locs hw hS => ?_)
              refine mgen (P := fun x => mJ B x ∧ zFr [104, 105, 106, 108, 109, 136, 6, 7, 8, 9, 1] r x) hw ⟨pr37.1.setL (by decide) (k39.w (c := 0) (d := 6) (by decide)), pr37.2.set rfl⟩ (fun r40 er40 hw pr40 => ?_)
              have hE := zletE er40 hE
              refine lv_aload_n hx hb dX12_readsPerson_223 rfl (lv_at hl 0 rfl) ?_
              refine zcallW (va_runV (As := []) (rest := []) ⟨hx, hb, hml, hown, hts⟩ (mc_closes l D ct h0 y B r40 q38 pr40.1 ((mP.fr yu31_0 ((zs_row (k := 103) er40 (by decide)).trans (zs_row (k := 103) er37 (by decide))) ((zs_row (k := 104) er40 (by decide)).trans (zs_row (k := 104) er37 (by decide))) ((zs_row (k := 105) er40 (by decide)).trans (zs_row (k := 105) er37 (by decide))) ((zs_row (k := 106) er40 (by decide)).trans (zs_row (k := 106) er37 (by decide))))) H.size) (cwV 0 hts (kgV (zr25 14 rfl) (zr25 15 rfl) (zr25 16 rfl) (zr1 5 rfl) (zr25 17 rfl)) rfl rfl rfl (by decide +kernel) ⟨Nat.le_of_ble_eq_true rfl, Nat.le_of_ble_eq_true rfl⟩) (zpreV hK hw hS hA zZ.nil hN (List.range (mW ct h0 y r40 q38).length) mWn (zrange _) 11 0 rfl mWo) rfl rfl hl.1 rfl (lv_room (Nat.le_of_ble_eq_true rfl)) dX12_readsPerson_224 ⟨Nat.le_of_ble_eq_true rfl, Nat.le_of_ble_eq_true rfl⟩) hw hS hA 227 rfl (fun u41 H locs pu41 hw hS => ?_)
              obtain ⟨v42, r43, q44⟩ := u41
              have hv42 : zI 0 1 v42 := pu41.1
              have ju41 : mJ B r43 := pu41.2.1
              have fu41 : zFr [104, 105, 106, 108, 109] r40 r43 := pu41.2.2.1
              have yu41_0 : mP r43 := pu41.2.2.2.1
              have yu41_1 : (r40 105 0).toInt ≤ (r43 105 0).toInt := pu41.2.2.2.2.1
              have xu41 : (v42, r43, q44) = (Gm_closes r40 q38) := pu41.2.2.2.2.2.1
              have hE := zc_vrqE xu41 hE
              have hw : zPD D A (mW ct h0 y r43 q44) H := hw
              refine zfr 227 [.int v42] rfl rfl ?_
              exact ziretQ hQ hx hb hr (hv42.rn) hlocks (v42, r43, q44) rfl ⟨hv42, ju41, (pr40.2.tr fu41 rfl), (show mP r43 from yu41_0), (show ¬ v42 = 0 → (r 105 0).toInt < (r43 105 0).toInt from (fun _ => by have := xm102; have := yu41_1; have := congrArg Int32.toInt (congrFun (zs_row (k := 105) er40 (by decide)) 0); have := congrArg Int32.toInt (congrFun (zs_row (k := 105) er37 (by decide)) 0); have := yu31_1; have := congrArg Int32.toInt (congrFun (zs_row (k := 105) er30 (by decide)) 0); have := yu24_1; have := yu21_1; have := ((mP.fr yu8_0 ((zs_row (k := 103) er20 (by decide)).trans (fu15 103 rfl)) ((zs_row (k := 104) er20 (by decide)).trans (fu15 104 rfl)) ((zs_row (k := 105) er20 (by decide)).trans (fu15 105 rfl)) ((zs_row (k := 106) er20 (by decide)).trans (fu15 106 rfl)))).1; have := congrArg Int32.toInt (congrFun (zs_row (k := 105) er20 (by decide)) 0); have := congrArg Int32.toInt (congrFun (fu15 105 rfl) 0); have := yu8_1; have := yu5_1; have := ((mP.fr xp102 (zs_row (k := 103) er1 (by decide)) (zs_row (k := 104) er1 (by decide)) (zs_row (k := 105) er1 (by decide)) (zs_row (k := 106) er1 (by decide)))).1; have := congrArg Int32.toInt (congrFun (zs_row (k := 105) er1 (by decide)) 0); omega)), (show ¬ v42 = 0 → mT1 r43 from (fun _ => by unfold mT1; rw [(fu41 1 rfl), zs_self er40, pk_us, pk_un (by decide)]; intro _; have h9 := yu15_1 c18; rw [← ((zs_row (k := 1) er37 (by decide)).trans ((fu31 1 rfl).trans ((zs_row (k := 1) er30 (by decide)).trans ((fu24 1 rfl).trans ((fu21 1 rfl).trans (zs_row (k := 1) er20 (by decide)))))))] at h9; omega)), (hE.symm.trans hX), trivial⟩ hw hS dX12_readsPerson_227
            · have hE := zifnF c35 hE
              have k45 : zI 0 0 (v32) := zI.eqq c35 (zI.lit (a := 0) (b := 0) (c := 0) (by decide))
              refine lv_iconst (v := 0) hx hb dX12_readsPerson_194 (by decide) ?_
              exact ziretQ hQ hx hb hr rfl hlocks (0, r33, q34) rfl ⟨((zI.lit (a := 0) (b := 0) (c := 0) (by decide)).w (c := 0) (d := 1) (by decide)), ju31, (pr30.2.tr fu31 rfl), (show mP r33 from yu31_0), (fun h => absurd rfl h), (fun h => absurd rfl h), (hE.symm.trans hX), trivial⟩ hw hS dX12_readsPerson_195
          · have hE := zifnF c28 hE
            have k46 : zI 0 0 (v25) := zI.eqq c28 (zI.lit (a := 0) (b := 0) (c := 0) (by decide))
            refine lv_iconst (v := 0) hx hb dX12_readsPerson_169 (by decide) ?_
            exact ziretQ hQ hx hb hr rfl hlocks (0, r26, q27) rfl ⟨((zI.lit (a := 0) (b := 0) (c := 0) (by decide)).w (c := 0) (d := 1) (by decide)), ju24, ((pr20.2.tr fu21 rfl).tr fu24 rfl), (show mP r26 from yu24_0), (fun h => absurd rfl h), (fun h => absurd rfl h), (hE.symm.trans hX), trivial⟩ hw hS dX12_readsPerson_170
        · have hE := zifnF c18 hE
          have k47 : zI 0 0 (v16) := zI.eqq c18 (zI.lit (a := 0) (b := 0) (c := 0) (by decide))
          refine lv_iconst (v := 0) hx hb dX12_readsPerson_140 (by decide) ?_
          exact ziretQ hQ hx hb hr rfl hlocks (0, r17, q11) rfl ⟨((zI.lit (a := 0) (b := 0) (c := 0) (by decide)).w (c := 0) (d := 1) (by decide)), ju15, (((pr1.2.tr fu5 rfl).tr fu8 rfl).tr fu15 rfl), (show mP r17 from (mP.fr yu8_0 (fu15 103 rfl) (fu15 104 rfl) (fu15 105 rfl) (fu15 106 rfl))), (fun h => absurd rfl h), (fun h => absurd rfl h), (hE.symm.trans hX), trivial⟩ hw hS dX12_readsPerson_141
    · have hE := zifF c3 hE
      have k48 : zI (-2147483648) (-1) (v2) := zI.ltU (zI.nle c3) (zI.top _) (zI.lit (a := 0) (b := 0) (c := 0) (by decide)) (by decide)
      refine lv_aload_n hx hb dX12_readsPerson_112 rfl (lv_at hl 0 rfl) ?_
      refine lv_iconst (v := 1) hx hb dX12_readsPerson_113 (by decide) ?_
      refine zcallW (va_runV (As := [.int 1]) (rest := []) ⟨hx, hb, hml, hown, hts⟩ (mc_fails l D ct h0 y B 1 r1 qw102 ((zI.lit (a := 1) (b := 1) (c := 1) (by decide)).w (c := 1) (d := 5) (by decide)) pr1.1 H.size) (cwV 1 hts (kgV (zr23 13 rfl) (zr23 14 rfl) (zr23 15 rfl) (zr1 5 rfl) (zr23 16 rfl)) rfl rfl rfl (by decide +kernel) ⟨Nat.le_of_ble_eq_true rfl, Nat.le_of_ble_eq_true rfl⟩) (zpreV hK hw hS hA zZ.nil hN (List.range (mW ct h0 y r1 qw102).length) mWn (zrange _) 11 0 rfl mWo) rfl rfl hl.1 rfl (lv_room (Nat.le_of_ble_eq_true rfl)) dX12_readsPerson_114 ⟨Nat.le_of_ble_eq_true rfl, Nat.le_of_ble_eq_true rfl⟩) hw hS hA 117 rfl (fun u49 H locs pu49 hw hS => ?_)
      obtain ⟨v50, r51⟩ := u49
      have hv50 : zI 0 0 v50 := pu49.1
      have ju49 : mJ B r51 := pu49.2.1
      have fu49 : zFr [109] r1 r51 := pu49.2.2.1
      have xu49 : (v50, r51) = (Gm_fails (1 : Int32) r1 qw102) := pu49.2.2.2.1
      have hE := zc_vrE xu49 hE
      have hw : zPD D A (mW ct h0 y r51 qw102) H := hw
      refine zfr 117 [.int v50] rfl rfl ?_
      exact ziretQ hQ hx hb hr ((hv50.w (c := 0) (d := 1) (by decide)).rn) hlocks (v50, r51, qw102) rfl ⟨(hv50.w (c := 0) (d := 1) (by decide)), ju49, (pr1.2.tr fu49 rfl), (show mP r51 from (mP.fr xp102 ((fu49 103 rfl).trans (zs_row (k := 103) er1 (by decide))) ((fu49 104 rfl).trans (zs_row (k := 104) er1 (by decide))) ((fu49 105 rfl).trans (zs_row (k := 105) er1 (by decide))) ((fu49 106 rfl).trans (zs_row (k := 106) er1 (by decide))))), (fun h => absurd (zI.eq0 hv50) h), (fun h => absurd (zI.eq0 hv50) h), (hE.symm.trans hX), trivial⟩ hw hS dX12_readsPerson_117
  intro H locs hw hS ls hl
  have hl : lv_has ls 4 [(0, .ref h0)] := hl
  have hE := hX
  unfold Gm_readsPerson at hE
  refine lv_bipush (v := 6) hx hb dX12_readsPerson_0 (by decide) ?_
  refine lv_aload_n hx hb dX12_readsPerson_2 rfl (lv_at hl 0 rfl) ?_
  refine mget (v := .ref (y 1)) hx hb hts hiX12 hown hK hw 10 (by decide) lf13 rfl rfl dX12_readsPerson_3 ?_
  refine lv_iconst (v := 5) hx hb dX12_readsPerson_6 (by decide) ?_
  refine ziald hx hb hK hw 2 mWg1 5 (by decide) (by decide) (by decide) dX12_readsPerson_7 ?_
  refine lv_iadd hx hb dX12_readsPerson_8 ?_
  have k52 : zI 6 12 (6 + (r 1 5)) := zI.add (zI.lit (a := 6) (b := 6) (c := 6) (by decide)) (show zI 0 6 (r 1 5) from hJ0.i 1 5) (by decide)
  refine lv_istore_n (lv' := [(1, .int (6 + (r 1 5))), (0, .ref h0)]) hx hb dX12_readsPerson_9 rfl hl (by decide) rfl (fun ls hl => ?_)
  refine lv_iload_n hx hb dX12_readsPerson_10 rfl (lv_at hl 0 rfl) ?_
  refine lv_bipush (v := 12) hx hb dX12_readsPerson_11 (by decide) ?_
  refine lv_icmp_ne (tgt := 22) hx hb dX12_readsPerson_13 (by decide) (fun c53 => ?_) (fun c53 => ?_)
  · have hE := zifnT c53 hE
    have k54 : zI 6 11 (6 + (r 1 5)) := zI.neU c53 k52 (zI.lit (a := 12) (b := 12) (c := 12) (by decide)) (by decide)
    have k55 : zI 0 5 (r 1 5) := zI.un6 k54 (show zI 0 6 (r 1 5) from hJ0.i 1 5)
    refine lv_aload_n hx hb dX12_readsPerson_22 rfl (lv_at hl 1 rfl) ?_
    refine zcallW (va_runV (As := []) (rest := []) ⟨hx, hb, hml, hown, hts⟩ (mc_nextToken l D ct h0 y B r q hJ0 ((x1).2.1) H.size) (cwV 0 hts (kgV (zr22 13 rfl) (zr22 14 rfl) (zr22 15 rfl) (zr1 5 rfl) (zr22 16 rfl)) rfl rfl rfl (by decide +kernel) ⟨Nat.le_of_ble_eq_true rfl, Nat.le_of_ble_eq_true rfl⟩) (zpreV hK hw hS hA zZ.nil hN (List.range (mW ct h0 y r q).length) mWn (zrange _) 11 0 rfl mWo) rfl rfl hl.1 rfl (lv_room (Nat.le_of_ble_eq_true rfl)) dX12_readsPerson_23 ⟨Nat.le_of_ble_eq_true rfl, Nat.le_of_ble_eq_true rfl⟩) hw hS hA 26 rfl (fun u56 H locs pu56 hw hS => ?_)
    obtain ⟨r57, q58⟩ := u56
    have ju56 : mJ B r57 := pu56.1
    have fu56 : zFr [104, 105, 106, 108] r r57 := pu56.2.1
    have yu56_0 : mP r57 := pu56.2.2.1
    have yu56_1 : (r 104 0).toInt ≤ (r57 105 0).toInt := pu56.2.2.2.1
    have xu56 : (r57, q58) = (Gm_nextToken r q) := pu56.2.2.2.2.1
    have hE := zc_rqE xu56 hE
    have hw : zPD D A (mW ct h0 y r57 q58) H := hw
    refine zfr 26 [] rfl rfl ?_
    refine lv_aload_n hx hb dX12_readsPerson_26 rfl (lv_at hl 1 rfl) ?_
    refine zcallW (va_runV (As := []) (rest := []) ⟨hx, hb, hml, hown, hts⟩ (mc_needsNew l D ct h0 y B r57 q58 ju56 (yu56_0) H.size) (cwV 0 hts (kgV (zr23 17 rfl) (zr23 18 rfl) (zr23 19 rfl) (zr1 5 rfl) (zr23 20 rfl)) rfl rfl rfl (by decide +kernel) ⟨Nat.le_of_ble_eq_true rfl, Nat.le_of_ble_eq_true rfl⟩) (zpreV hK hw hS hA zZ.nil hN (List.range (mW ct h0 y r57 q58).length) mWn (zrange _) 11 0 rfl mWo) rfl rfl hl.1 rfl (lv_room (Nat.le_of_ble_eq_true rfl)) dX12_readsPerson_27 ⟨Nat.le_of_ble_eq_true rfl, Nat.le_of_ble_eq_true rfl⟩) hw hS hA 30 rfl (fun u59 H locs pu59 hw hS => ?_)
    obtain ⟨v60, r61, q62⟩ := u59
    have hv60 : zI 0 1 v60 := pu59.1
    have ju59 : mJ B r61 := pu59.2.1
    have fu59 : zFr [104, 105, 106, 108, 109] r57 r61 := pu59.2.2.1
    have yu59_0 : mP r61 := pu59.2.2.2.1
    have yu59_1 : (r57 105 0).toInt ≤ (r61 105 0).toInt := pu59.2.2.2.2.1
    have xu59 : (v60, r61, q62) = (Gm_needsNew r57 q58) := pu59.2.2.2.2.2.1
    have hE := zc_vrqE xu59 hE
    have hw : zPD D A (mW ct h0 y r61 q62) H := hw
    refine zfr 30 [.int v60] rfl rfl ?_
    refine lv_if_ne (tgt := 35) hx hb dX12_readsPerson_30 (by decide) (fun c63 => ?_) (fun c63 => ?_)
    · have hE := zifnT c63 hE
      have k64 : zI 1 1 (v60) := zI.neD c63 hv60 (zI.lit (a := 0) (b := 0) (c := 0) (by decide)) (by decide)
      refine lv_aload_n hx hb dX12_readsPerson_35 rfl (lv_at hl 1 rfl) ?_
      refine mget (v := .long (q62 137 0)) hx hb hts hiX12 hown hK hw 37 (by decide) lf276 rfl rfl dX12_readsPerson_36 (zgenLE (fun v65 ev65 => ?_))
      have hE := zletE ev65 hE
      refine lv_lstore_n (lv' := [(2, .long v65), (1, .int (6 + (r 1 5))), (0, .ref h0)]) hx hb dX12_readsPerson_39 rfl hl (by decide) rfl (fun ls hl => ?_)
      refine lv_aload_n hx hb dX12_readsPerson_40 rfl (lv_at hl 2 rfl) ?_
      refine mget (v := .ref (y 6)) hx hb hts hiX12 hown hK hw 15 (by decide) lf29 rfl rfl dX12_readsPerson_41 ?_
      refine lv_iload_n hx hb dX12_readsPerson_44 rfl (lv_at hl 1 rfl) ?_
      refine lv_aload_n hx hb dX12_readsPerson_45 rfl (lv_at hl 2 rfl) ?_
      refine lv_ldc2 hx hb hown (hts (.constantLong RX12 244 8740238) (ki (zr24 8 rfl))) dX12_readsPerson_46 ?_
      refine zcallW (va_runV (As := [.long 8740238]) (rest := [.int (6 + (r 1 5)), .ref (y 6)]) ⟨hx, hb, hml, hown, hts⟩ (mc_isWord l D ct h0 y B 8740238 r61 q62 ju59 H.size) (cwV 1 hts (kgV (zr23 2 rfl) (zr23 3 rfl) (zr23 4 rfl) (zr1 5 rfl) (zr23 5 rfl)) rfl rfl rfl (by decide +kernel) ⟨Nat.le_of_ble_eq_true rfl, Nat.le_of_ble_eq_true rfl⟩) (zpreV hK hw hS hA zZ.nil hN (List.range (mW ct h0 y r61 q62).length) mWn (zrange _) 11 0 rfl mWo) rfl rfl hl.1 rfl (lv_room (Nat.le_of_ble_eq_true rfl)) dX12_readsPerson_49 ⟨Nat.le_of_ble_eq_true rfl, Nat.le_of_ble_eq_true rfl⟩) hw hS hA 52 rfl (fun u66 H locs pu66 hw hS => ?_)
      have hu66 : zI 0 1 u66 := pu66.1
      have yu66_0 : ¬ u66 = 0 → zI 1 1 (r61 106 0) := pu66.2.1
      have xu66 : u66 = (Gm_isWord (8740238 : Int64) r61 q62) := pu66.2.2.1
      have hE := zletE xu66 hE
      have hw : zPD D A (mW ct h0 y r61 q62) H := hw
      refine zfr 52 [.int u66, .int (6 + (r 1 5)), .ref (y 6)] rfl rfl ?_
      refine lv_if_eq (tgt := 59) hx hb dX12_readsPerson_52 (by decide) (fun c68 => ?_) (fun c68 => ?_)
      · have hE := zifT c68 hE
        have k69 : zI 0 0 (u66) := zI.eqq c68 (zI.lit (a := 0) (b := 0) (c := 0) (by decide))
        refine lv_aload_n hx hb dX12_readsPerson_59 rfl (lv_at hl 2 rfl) ?_
        refine lv_ldc2 hx hb hown (hts (.constantLong RX12 246 279844694) (ki (zr24 9 rfl))) dX12_readsPerson_60 ?_
        refine zcallW (va_runV (As := [.long 279844694]) (rest := [.int (6 + (r 1 5)), .ref (y 6)]) ⟨hx, hb, hml, hown, hts⟩ (mc_isWord l D ct h0 y B 279844694 r61 q62 ju59 H.size) (cwV 1 hts (kgV (zr23 2 rfl) (zr23 3 rfl) (zr23 4 rfl) (zr1 5 rfl) (zr23 5 rfl)) rfl rfl rfl (by decide +kernel) ⟨Nat.le_of_ble_eq_true rfl, Nat.le_of_ble_eq_true rfl⟩) (zpreV hK hw hS hA zZ.nil hN (List.range (mW ct h0 y r61 q62).length) mWn (zrange _) 11 0 rfl mWo) rfl rfl hl.1 rfl (lv_room (Nat.le_of_ble_eq_true rfl)) dX12_readsPerson_63 ⟨Nat.le_of_ble_eq_true rfl, Nat.le_of_ble_eq_true rfl⟩) hw hS hA 66 rfl (fun u70 H locs pu70 hw hS => ?_)
        have hu70 : zI 0 1 u70 := pu70.1
        have yu70_0 : ¬ u70 = 0 → zI 1 1 (r61 106 0) := pu70.2.1
        have xu70 : u70 = (Gm_isWord (279844694 : Int64) r61 q62) := pu70.2.2.1
        have hE := zletE xu70 hE
        have hw : zPD D A (mW ct h0 y r61 q62) H := hw
        refine zfr 66 [.int u70, .int (6 + (r 1 5)), .ref (y 6)] rfl rfl ?_
        refine lv_if_eq (tgt := 73) hx hb dX12_readsPerson_66 (by decide) (fun c72 => ?_) (fun c72 => ?_)
        · have hE := zifT c72 hE
          have k73 : zI 0 0 (u70) := zI.eqq c72 (zI.lit (a := 0) (b := 0) (c := 0) (by decide))
          refine lv_aload_n hx hb dX12_readsPerson_73 rfl (lv_at hl 2 rfl) ?_
          refine lv_ldc2 hx hb hown (hts (.constantLong RX12 248 33861013) (ki (zr24 10 rfl))) dX12_readsPerson_74 ?_
          refine zcallW (va_runV (As := [.long 33861013]) (rest := [.int (6 + (r 1 5)), .ref (y 6)]) ⟨hx, hb, hml, hown, hts⟩ (mc_isWord l D ct h0 y B 33861013 r61 q62 ju59 H.size) (cwV 1 hts (kgV (zr23 2 rfl) (zr23 3 rfl) (zr23 4 rfl) (zr1 5 rfl) (zr23 5 rfl)) rfl rfl rfl (by decide +kernel) ⟨Nat.le_of_ble_eq_true rfl, Nat.le_of_ble_eq_true rfl⟩) (zpreV hK hw hS hA zZ.nil hN (List.range (mW ct h0 y r61 q62).length) mWn (zrange _) 11 0 rfl mWo) rfl rfl hl.1 rfl (lv_room (Nat.le_of_ble_eq_true rfl)) dX12_readsPerson_77 ⟨Nat.le_of_ble_eq_true rfl, Nat.le_of_ble_eq_true rfl⟩) hw hS hA 80 rfl (fun u74 H locs pu74 hw hS => ?_)
          have hu74 : zI 0 1 u74 := pu74.1
          have yu74_0 : ¬ u74 = 0 → zI 1 1 (r61 106 0) := pu74.2.1
          have xu74 : u74 = (Gm_isWord (33861013 : Int64) r61 q62) := pu74.2.2.1
          have hE := zletE xu74 hE
          have hw : zPD D A (mW ct h0 y r61 q62) H := hw
          refine zfr 80 [.int u74, .int (6 + (r 1 5)), .ref (y 6)] rfl rfl ?_
          refine lv_if_eq (tgt := 87) hx hb dX12_readsPerson_80 (by decide) (fun c76 => ?_) (fun c76 => ?_)
          · have hE := zifT c76 hE
            have k77 : zI 0 0 (u74) := zI.eqq c76 (zI.lit (a := 0) (b := 0) (c := 0) (by decide))
            refine lv_aload_n hx hb dX12_readsPerson_87 rfl (lv_at hl 2 rfl) ?_
            refine lv_ldc2 hx hb hown (hts (.constantLong RX12 250 151063) (ki (zr24 11 rfl))) dX12_readsPerson_88 ?_
            refine zcallW (va_runV (As := [.long 151063]) (rest := [.int (6 + (r 1 5)), .ref (y 6)]) ⟨hx, hb, hml, hown, hts⟩ (mc_isWord l D ct h0 y B 151063 r61 q62 ju59 H.size) (cwV 1 hts (kgV (zr23 2 rfl) (zr23 3 rfl) (zr23 4 rfl) (zr1 5 rfl) (zr23 5 rfl)) rfl rfl rfl (by decide +kernel) ⟨Nat.le_of_ble_eq_true rfl, Nat.le_of_ble_eq_true rfl⟩) (zpreV hK hw hS hA zZ.nil hN (List.range (mW ct h0 y r61 q62).length) mWn (zrange _) 11 0 rfl mWo) rfl rfl hl.1 rfl (lv_room (Nat.le_of_ble_eq_true rfl)) dX12_readsPerson_91 ⟨Nat.le_of_ble_eq_true rfl, Nat.le_of_ble_eq_true rfl⟩) hw hS hA 94 rfl (fun u78 H locs pu78 hw hS => ?_)
            have hu78 : zI 0 1 u78 := pu78.1
            have yu78_0 : ¬ u78 = 0 → zI 1 1 (r61 106 0) := pu78.2.1
            have xu78 : u78 = (Gm_isWord (151063 : Int64) r61 q62) := pu78.2.2.1
            have hE := zletE xu78 hE
            have hw : zPD D A (mW ct h0 y r61 q62) H := hw
            refine zfr 94 [.int u78, .int (6 + (r 1 5)), .ref (y 6)] rfl rfl ?_
            refine lv_if_eq (tgt := 101) hx hb dX12_readsPerson_94 (by decide) (fun c80 => ?_) (fun c80 => ?_)
            · have hE := zifT c80 hE
              have k81 : zI 0 0 (u78) := zI.eqq c80 (zI.lit (a := 0) (b := 0) (c := 0) (by decide))
              refine lv_iconst (v := (-1)) hx hb dX12_readsPerson_101 (by decide) ?_
              exact cut102 v65 (-1) r61 q62 k54 ((zI.lit (a := (-1)) (b := (-1)) (c := (-1)) (by decide)).w (c := (-1)) (d := 3) (by decide)) k54 ju59 (((zFr.refl).tr fu56 rfl).tr fu59 rfl) (fu59.at (fu56.at k55 rfl) rfl) (yu59_0) (by have := yu59_1; have := yu56_1; have := (x1).1; have := (x1).2.2.resolve_left (tkne x2 (by decide)); omega) hE H locs ls hw hS (lv_sub hl [2, 1, 0] rfl)
            · have hE := zifF c80 hE
              have k82 : zI 1 1 (u78) := zI.neD c80 hu78 (zI.lit (a := 0) (b := 0) (c := 0) (by decide)) (by decide)
              refine lv_iconst (v := 3) hx hb dX12_readsPerson_97 (by decide) ?_
              refine lv_goto (tgt := 102) hx hb dX12_readsPerson_98 (by decide) ?_
              exact cut102 v65 3 r61 q62 k54 ((zI.lit (a := 3) (b := 3) (c := 3) (by decide)).w (c := (-1)) (d := 3) (by decide)) k54 ju59 (((zFr.refl).tr fu56 rfl).tr fu59 rfl) (fu59.at (fu56.at k55 rfl) rfl) (yu59_0) (by have := yu59_1; have := yu56_1; have := (x1).1; have := (x1).2.2.resolve_left (tkne x2 (by decide)); omega) hE H locs ls hw hS (lv_sub hl [2, 1, 0] rfl)
          · have hE := zifF c76 hE
            have k83 : zI 1 1 (u74) := zI.neD c76 hu74 (zI.lit (a := 0) (b := 0) (c := 0) (by decide)) (by decide)
            refine lv_iconst (v := 2) hx hb dX12_readsPerson_83 (by decide) ?_
            refine lv_goto (tgt := 102) hx hb dX12_readsPerson_84 (by decide) ?_
            exact cut102 v65 2 r61 q62 k54 ((zI.lit (a := 2) (b := 2) (c := 2) (by decide)).w (c := (-1)) (d := 3) (by decide)) k54 ju59 (((zFr.refl).tr fu56 rfl).tr fu59 rfl) (fu59.at (fu56.at k55 rfl) rfl) (yu59_0) (by have := yu59_1; have := yu56_1; have := (x1).1; have := (x1).2.2.resolve_left (tkne x2 (by decide)); omega) hE H locs ls hw hS (lv_sub hl [2, 1, 0] rfl)
        · have hE := zifF c72 hE
          have k84 : zI 1 1 (u70) := zI.neD c72 hu70 (zI.lit (a := 0) (b := 0) (c := 0) (by decide)) (by decide)
          refine lv_iconst (v := 1) hx hb dX12_readsPerson_69 (by decide) ?_
          refine lv_goto (tgt := 102) hx hb dX12_readsPerson_70 (by decide) ?_
          exact cut102 v65 1 r61 q62 k54 ((zI.lit (a := 1) (b := 1) (c := 1) (by decide)).w (c := (-1)) (d := 3) (by decide)) k54 ju59 (((zFr.refl).tr fu56 rfl).tr fu59 rfl) (fu59.at (fu56.at k55 rfl) rfl) (yu59_0) (by have := yu59_1; have := yu56_1; have := (x1).1; have := (x1).2.2.resolve_left (tkne x2 (by decide)); omega) hE H locs ls hw hS (lv_sub hl [2, 1, 0] rfl)
      · have hE := zifF c68 hE
        have k85 : zI 1 1 (u66) := zI.neD c68 hu66 (zI.lit (a := 0) (b := 0) (c := 0) (by decide)) (by decide)
        refine lv_iconst (v := 0) hx hb dX12_readsPerson_55 (by decide) ?_
        refine lv_goto (tgt := 102) hx hb dX12_readsPerson_56 (by decide) ?_
        exact cut102 v65 0 r61 q62 k54 ((zI.lit (a := 0) (b := 0) (c := 0) (by decide)).w (c := (-1)) (d := 3) (by decide)) k54 ju59 (((zFr.refl).tr fu56 rfl).tr fu59 rfl) (fu59.at (fu56.at k55 rfl) rfl) (yu59_0) (by have := yu59_1; have := yu56_1; have := (x1).1; have := (x1).2.2.resolve_left (tkne x2 (by decide)); omega) hE H locs ls hw hS (lv_sub hl [2, 1, 0] rfl)
    · have hE := zifnF c63 hE
      have k86 : zI 0 0 (v60) := zI.eqq c63 (zI.lit (a := 0) (b := 0) (c := 0) (by decide))
      refine lv_iconst (v := 0) hx hb dX12_readsPerson_33 (by decide) ?_
      exact ziretQ hQ hx hb hr rfl hlocks (0, r61, q62) rfl ⟨((zI.lit (a := 0) (b := 0) (c := 0) (by decide)).w (c := 0) (d := 1) (by decide)), ju59, (((zFr.refl).tr fu56 rfl).tr fu59 rfl), (show mP r61 from yu59_0), (fun h => absurd rfl h), (fun h => absurd rfl h), (hE.symm.trans hX), trivial⟩ hw hS dX12_readsPerson_34
  · have hE := zifnF c53 hE
    have k87 : zI 12 12 (6 + (r 1 5)) := zI.eqq c53 (zI.lit (a := 12) (b := 12) (c := 12) (by decide))
    refine lv_aload_n hx hb dX12_readsPerson_16 rfl (lv_at hl 1 rfl) ?_
    refine lv_iconst (v := 5) hx hb dX12_readsPerson_17 (by decide) ?_
    refine zcallW (va_runV (As := [.int 5]) (rest := []) ⟨hx, hb, hml, hown, hts⟩ (mc_fails l D ct h0 y B 5 r q ((zI.lit (a := 5) (b := 5) (c := 5) (by decide)).w (c := 1) (d := 5) (by decide)) hJ0 H.size) (cwV 1 hts (kgV (zr23 13 rfl) (zr23 14 rfl) (zr23 15 rfl) (zr1 5 rfl) (zr23 16 rfl)) rfl rfl rfl (by decide +kernel) ⟨Nat.le_of_ble_eq_true rfl, Nat.le_of_ble_eq_true rfl⟩) (zpreV hK hw hS hA zZ.nil hN (List.range (mW ct h0 y r q).length) mWn (zrange _) 11 0 rfl mWo) rfl rfl hl.1 rfl (lv_room (Nat.le_of_ble_eq_true rfl)) dX12_readsPerson_18 ⟨Nat.le_of_ble_eq_true rfl, Nat.le_of_ble_eq_true rfl⟩) hw hS hA 21 rfl (fun u88 H locs pu88 hw hS => ?_)
    obtain ⟨v89, r90⟩ := u88
    have hv89 : zI 0 0 v89 := pu88.1
    have ju88 : mJ B r90 := pu88.2.1
    have fu88 : zFr [109] r r90 := pu88.2.2.1
    have xu88 : (v89, r90) = (Gm_fails (5 : Int32) r q) := pu88.2.2.2.1
    have hE := zc_vrE xu88 hE
    have hw : zPD D A (mW ct h0 y r90 q) H := hw
    refine zfr 21 [.int v89] rfl rfl ?_
    exact ziretQ hQ hx hb hr ((hv89.w (c := 0) (d := 1) (by decide)).rn) hlocks (v89, r90, q) rfl ⟨(hv89.w (c := 0) (d := 1) (by decide)), ju88, ((zFr.refl).tr fu88 rfl), (show mP r90 from (mP.fr x1 (fu88 103 rfl) (fu88 104 rfl) (fu88 105 rfl) (fu88 106 rfl))), (fun h => absurd (zI.eq0 hv89) h), (fun h => absurd (zI.eq0 hv89) h), (hE.symm.trans hX), trivial⟩ hw hS dX12_readsPerson_21

set_option maxHeartbeats 4000000 in
set_option maxRecDepth 100000 in
theorem mc_readsOne2 (l : Launch) (D : va_G) (ct : Nat → ClassId) (h0 : Nat) (y : Nat → Nat) (B : Int) (a2 : Int32) (a3 : Int32) (r : zRr) (q : zRq) (hJ0 : mJ B r) (x1 : mP r) (x2 : zI 1 4 (r 106 0)) (x3 : mT1 r) : zC l yX12_readsOne (.code yX12_readsOne cX12_readsOne 4 (some .boolean) :: wsL_law0) ({ frames := 4, cells := 0, slots := 0, locals := 200 }) D ct [] [.ref h0, .int 2, .int a2, .int a3] (mW ct h0 y r q) (S := Int32 × zRr × zRq) (fun u => some (.int u.1)) (fun u => zI 0 1 u.1 ∧ mJ B u.2.1 ∧ zFr [104, 105, 106, 108, 109, 136, 123, 1] r u.2.1 ∧ (mP u.2.1) ∧ (¬ u.1 = 0 → (r 105 0).toInt < (u.2.1 105 0).toInt) ∧ (¬ u.1 = 0 → mT1 u.2.1) ∧ u = (Gm_readsOne2 a2 a3 r q) ∧ True) (fun u => mW ct h0 y u.2.1 u.2.2) 0 0 := by
  refine zofQ cX12_readsOne 4 (some .boolean) (by decide) rfl (Nat.le_of_ble_eq_true rfl) ?_
  intro p e s m below meth c A a9 Q ha9 hx hb hr hml hts hown hlocks hname hK hA hZ hN hQ
  have hown : s.vm.findClass RX12 = some m.cls := hown
  have hiX12 : ∀ w ∈ wsX120, w ∈ .code yX12_readsOne cX12_readsOne 4 (some .boolean) :: wsL_law0 := fun _ h => ki (zs_wsX120 _ h)
  have lf13 := hts (.fieldLink RX12 13 "BeardPassModel" "land" "[I") (ki (zr7 20 rfl))
  have lf256 := hts (.fieldLink RX12 256 "BeardPassModel" "given" "I") (ki (zr23 11 rfl))
  have lf292 := hts (.fieldLink RX12 292 "BeardPassModel" "toldLines" "I") (ki (zr21 22 rfl))
  obtain ⟨X, hX⟩ : ∃ X, X = (Gm_readsOne2 a2 a3 r q) := ⟨_, rfl⟩
  intro H locs hw hS ls hl
  have hl : lv_has ls 4 [(0, .ref h0), (1, .int 2), (2, .int a2), (3, .int a3)] := hl
  have hE := hX
  unfold Gm_readsOne2 at hE
  refine lv_aload_n hx hb dX12_readsOne_0 rfl (lv_at hl 0 rfl) ?_
  refine mget (v := .int (r 123 0)) hx hb hts hiX12 hown hK hw 23 (by decide) lf292 rfl rfl dX12_readsOne_1 (zgenE (zI.top _) (fun v1 ev1 _ => ?_))
  have hE := zletE ev1 hE
  refine lv_iload_n hx hb dX12_readsOne_4 rfl (lv_at hl 1 rfl) ?_
  refine lv_ishr hx hb dX12_readsOne_5 (zgenE (zI.top _) (fun v2 ev2 _ => ?_))
  have hE := zletE ev2 hE
  refine lv_iconst (v := 1) hx hb dX12_readsOne_6 (by decide) ?_
  refine lv_iand hx hb dX12_readsOne_7 (zgenE (lo := 0) (hi := 1) (zI.and (zI.lit (a := 1) (b := 1) (c := 1) (by decide)) (by decide)) (fun v3 ev3 hv3 => ?_))
  have hE := zletE ev3 hE
  refine lv_iconst (v := 1) hx hb dX12_readsOne_8 (by decide) ?_
  refine lv_icmp_ne (tgt := 18) hx hb dX12_readsOne_9 (by decide) (fun c4 => ?_) (fun c4 => ?_)
  · have hE := zifnT c4 hE
    have k5 : zI 0 0 (v3) := zI.neU c4 hv3 (zI.lit (a := 1) (b := 1) (c := 1) (by decide)) (by decide)
    refine lv_aload_n hx hb dX12_readsOne_18 rfl (lv_at hl 0 rfl) ?_
    refine lv_dup hx hb dX12_readsOne_19 rfl ?_
    refine mget (v := .int (r 123 0)) hx hb hts hiX12 hown hK hw 23 (by decide) lf292 rfl rfl dX12_readsOne_20 (zgenE (zI.top _) (fun v6 ev6 _ => ?_))
    have hE := zletE ev6 hE
    refine lv_iconst (v := 1) hx hb dX12_readsOne_23 (by decide) ?_
    refine lv_iload_n hx hb dX12_readsOne_24 rfl (lv_at hl 1 rfl) ?_
    refine lv_ishl hx hb dX12_readsOne_25 (ztop (.int 4) (congrArg Value.int (by decide)) ?_)
    refine lv_ior hx hb dX12_readsOne_26 (zgenE (zI.top _) (fun v7 ev7 _ => ?_))
    have hE := zletE ev7 hE
    refine mput (ty := .int) (v := .int v7) hx hb hts hiX12 hown hK hw hS 23 (by decide) lf292 rfl rfl (by decide +kernel) rfl rfl dX12_readsOne_27 (zset r 123 (fun _ => v7)) _ mWf23 (fun H locs hw hS => ?_)
    refine mgen (P := fun x => mJ B x ∧ zFr [104, 105, 106, 108, 109, 136, 123, 1] r x) hw ⟨hJ0.setc rfl (fun _ => (zI.top _)), (zFr.refl).set rfl⟩ (fun r8 er8 hw pr8 => ?_)
    have hE := zletE er8 hE
    refine lv_aload_n hx hb dX12_readsOne_30 rfl (lv_at hl 0 rfl) ?_
    refine zcallW (va_runV (As := []) (rest := []) ⟨hx, hb, hml, hown, hts⟩ (mc_nextToken l D ct h0 y B r8 q pr8.1 (((mP.fr x1 (zs_row (k := 103) er8 (by decide)) (zs_row (k := 104) er8 (by decide)) (zs_row (k := 105) er8 (by decide)) (zs_row (k := 106) er8 (by decide)))).2.1) H.size) (cwV 0 hts (kgV (zr22 13 rfl) (zr22 14 rfl) (zr22 15 rfl) (zr1 5 rfl) (zr22 16 rfl)) rfl rfl rfl (by decide +kernel) ⟨Nat.le_of_ble_eq_true rfl, Nat.le_of_ble_eq_true rfl⟩) (zpreV hK hw hS hA zZ.nil hN (List.range (mW ct h0 y r8 q).length) mWn (zrange _) 11 0 rfl mWo) rfl rfl hl.1 rfl (lv_room (Nat.le_of_ble_eq_true rfl)) dX12_readsOne_31 ⟨Nat.le_of_ble_eq_true rfl, Nat.le_of_ble_eq_true rfl⟩) hw hS hA 34 rfl (fun u9 H locs pu9 hw hS => ?_)
    obtain ⟨r10, q11⟩ := u9
    have ju9 : mJ B r10 := pu9.1
    have fu9 : zFr [104, 105, 106, 108] r8 r10 := pu9.2.1
    have yu9_0 : mP r10 := pu9.2.2.1
    have yu9_1 : (r8 104 0).toInt ≤ (r10 105 0).toInt := pu9.2.2.2.1
    have xu9 : (r10, q11) = (Gm_nextToken r8 q) := pu9.2.2.2.2.1
    have hE := zc_rqE xu9 hE
    have hw : zPD D A (mW ct h0 y r10 q11) H := hw
    refine zfr 34 [] rfl rfl ?_
    refine lv_aload_n hx hb dX12_readsOne_34 rfl (lv_at hl 0 rfl) ?_
    refine lv_iload_n hx hb dX12_readsOne_35 rfl (lv_at hl 2 rfl) ?_
    refine lv_iload_n hx hb dX12_readsOne_36 rfl (lv_at hl 3 rfl) ?_
    refine zcallW (va_runV (As := [.int a2, .int a3]) (rest := []) ⟨hx, hb, hml, hown, hts⟩ (mc_needsNumber l D ct h0 y B a2 a3 r10 q11 ju9 (yu9_0) H.size) (cwV 2 hts (kgV (zr25 7 rfl) (zr25 8 rfl) (zr25 9 rfl) (zr1 5 rfl) (zr25 10 rfl)) rfl rfl rfl (by decide +kernel) ⟨Nat.le_of_ble_eq_true rfl, Nat.le_of_ble_eq_true rfl⟩) (zpreV hK hw hS hA zZ.nil hN (List.range (mW ct h0 y r10 q11).length) mWn (zrange _) 11 0 rfl mWo) rfl rfl hl.1 rfl (lv_room (Nat.le_of_ble_eq_true rfl)) dX12_readsOne_37 ⟨Nat.le_of_ble_eq_true rfl, Nat.le_of_ble_eq_true rfl⟩) hw hS hA 40 rfl (fun u12 H locs pu12 hw hS => ?_)
    obtain ⟨v13, r14, q15⟩ := u12
    have hv13 : zI 0 1 v13 := pu12.1
    have ju12 : mJ B r14 := pu12.2.1
    have fu12 : zFr [104, 105, 106, 108, 109, 136] r10 r14 := pu12.2.2.1
    have yu12_0 : mP r14 := pu12.2.2.2.1
    have yu12_1 : (r10 105 0).toInt ≤ (r14 105 0).toInt := pu12.2.2.2.2.1
    have yu12_2 : ¬ v13 = 0 → zI 0 9999 (r14 136 0) := pu12.2.2.2.2.2.1
    have xu12 : (v13, r14, q15) = (Gm_needsNumber a2 a3 r10 q11) := pu12.2.2.2.2.2.2.1
    have hE := zc_vrqE xu12 hE
    have hw : zPD D A (mW ct h0 y r14 q15) H := hw
    refine zfr 40 [.int v13] rfl rfl ?_
    refine lv_if_ne (tgt := 45) hx hb dX12_readsOne_40 (by decide) (fun c16 => ?_) (fun c16 => ?_)
    · have hE := zifnT c16 hE
      have k17 : zI 1 1 (v13) := zI.neD c16 hv13 (zI.lit (a := 0) (b := 0) (c := 0) (by decide)) (by decide)
      refine lv_aload_n hx hb dX12_readsOne_45 rfl (lv_at hl 0 rfl) ?_
      refine mget (v := .ref (y 1)) hx hb hts hiX12 hown hK hw 10 (by decide) lf13 rfl rfl dX12_readsOne_46 ?_
      refine lv_iconst (v := 4) hx hb dX12_readsOne_49 (by decide) ?_
      refine lv_iload_n hx hb dX12_readsOne_50 rfl (lv_at hl 1 rfl) ?_
      refine lv_iadd hx hb dX12_readsOne_51 (ztop (.int 6) (congrArg Value.int (by decide)) ?_)
      refine lv_aload_n hx hb dX12_readsOne_52 rfl (lv_at hl 0 rfl) ?_
      refine mget (v := .int (r14 136 0)) hx hb hts hiX12 hown hK hw 36 (by decide) lf256 rfl rfl dX12_readsOne_53 (zgenE (lo := 0) (hi := 9999) ((yu12_2 c16)) (fun v18 ev18 hv18 => ?_))
      have hE := zletE ev18 hE
      refine ziast hx hb hK hw hS 2 mWg1 6 (by decide) (by decide) (by decide) dX12_readsOne_56 (mW ct h0 y (zset r14 1 (upd (r14 1) 6 v18)) q15) mWs1 (fun H locs hw hS => ?_)
      refine mgen (P := fun x => mJ B x ∧ zFr [104, 105, 106, 108, 109, 136, 123, 1] r x) hw ⟨ju12.setL (by decide) (zI.top _), ((pr8.2.tr fu9 rfl).tr fu12 rfl).set rfl⟩ (fun r19 er19 hw pr19 => ?_)
      have hE := zletE er19 hE
      refine lv_aload_n hx hb dX12_readsOne_57 rfl (lv_at hl 0 rfl) ?_
      refine zcallW (va_runV (As := []) (rest := []) ⟨hx, hb, hml, hown, hts⟩ (mc_closes l D ct h0 y B r19 q15 pr19.1 ((mP.fr yu12_0 (zs_row (k := 103) er19 (by decide)) (zs_row (k := 104) er19 (by decide)) (zs_row (k := 105) er19 (by decide)) (zs_row (k := 106) er19 (by decide)))) H.size) (cwV 0 hts (kgV (zr25 14 rfl) (zr25 15 rfl) (zr25 16 rfl) (zr1 5 rfl) (zr25 17 rfl)) rfl rfl rfl (by decide +kernel) ⟨Nat.le_of_ble_eq_true rfl, Nat.le_of_ble_eq_true rfl⟩) (zpreV hK hw hS hA zZ.nil hN (List.range (mW ct h0 y r19 q15).length) mWn (zrange _) 11 0 rfl mWo) rfl rfl hl.1 rfl (lv_room (Nat.le_of_ble_eq_true rfl)) dX12_readsOne_58 ⟨Nat.le_of_ble_eq_true rfl, Nat.le_of_ble_eq_true rfl⟩) hw hS hA 61 rfl (fun u20 H locs pu20 hw hS => ?_)
      obtain ⟨v21, r22, q23⟩ := u20
      have hv21 : zI 0 1 v21 := pu20.1
      have ju20 : mJ B r22 := pu20.2.1
      have fu20 : zFr [104, 105, 106, 108, 109] r19 r22 := pu20.2.2.1
      have yu20_0 : mP r22 := pu20.2.2.2.1
      have yu20_1 : (r19 105 0).toInt ≤ (r22 105 0).toInt := pu20.2.2.2.2.1
      have xu20 : (v21, r22, q23) = (Gm_closes r19 q15) := pu20.2.2.2.2.2.1
      have hE := zc_vrqE xu20 hE
      have hw : zPD D A (mW ct h0 y r22 q23) H := hw
      refine zfr 61 [.int v21] rfl rfl ?_
      exact ziretQ hQ hx hb hr (hv21.rn) hlocks (v21, r22, q23) rfl ⟨hv21, ju20, (pr19.2.tr fu20 rfl), (show mP r22 from yu20_0), (show ¬ v21 = 0 → (r 105 0).toInt < (r22 105 0).toInt from (fun _ => by have := yu20_1; have := congrArg Int32.toInt (congrFun (zs_row (k := 105) er19 (by decide)) 0); have := yu12_1; have := yu9_1; have := ((mP.fr x1 (zs_row (k := 103) er8 (by decide)) (zs_row (k := 104) er8 (by decide)) (zs_row (k := 105) er8 (by decide)) (zs_row (k := 106) er8 (by decide)))).1; have := ((mP.fr x1 (zs_row (k := 103) er8 (by decide)) (zs_row (k := 104) er8 (by decide)) (zs_row (k := 105) er8 (by decide)) (zs_row (k := 106) er8 (by decide)))).2.2.resolve_left (tkne (zs_at er8 x2 (by decide)) (by decide)); have := congrArg Int32.toInt (congrFun (zs_row (k := 105) er8 (by decide)) 0); omega)), (show ¬ v21 = 0 → mT1 r22 from (fun _ => x3.two (by rw [(fu20 1 rfl), zs_self er19, pk_un (by decide), ((fu12 1 rfl).trans ((fu9 1 rfl).trans (zs_row (k := 1) er8 (by decide))))]) (by rw [(fu20 1 rfl), zs_self er19, pk_un (by decide), ((fu12 1 rfl).trans ((fu9 1 rfl).trans (zs_row (k := 1) er8 (by decide))))]))), (hE.symm.trans hX), trivial⟩ hw hS dX12_readsOne_61
    · have hE := zifnF c16 hE
      have k24 : zI 0 0 (v13) := zI.eqq c16 (zI.lit (a := 0) (b := 0) (c := 0) (by decide))
      refine lv_iconst (v := 0) hx hb dX12_readsOne_43 (by decide) ?_
      exact ziretQ hQ hx hb hr rfl hlocks (0, r14, q15) rfl ⟨((zI.lit (a := 0) (b := 0) (c := 0) (by decide)).w (c := 0) (d := 1) (by decide)), ju12, ((pr8.2.tr fu9 rfl).tr fu12 rfl), (show mP r14 from yu12_0), (fun h => absurd rfl h), (fun h => absurd rfl h), (hE.symm.trans hX), trivial⟩ hw hS dX12_readsOne_44
  · have hE := zifnF c4 hE
    have k25 : zI 1 1 (v3) := zI.eqq c4 (zI.lit (a := 1) (b := 1) (c := 1) (by decide))
    refine lv_aload_n hx hb dX12_readsOne_12 rfl (lv_at hl 0 rfl) ?_
    refine lv_iconst (v := 3) hx hb dX12_readsOne_13 (by decide) ?_
    refine zcallW (va_runV (As := [.int 3]) (rest := []) ⟨hx, hb, hml, hown, hts⟩ (mc_fails l D ct h0 y B 3 r q ((zI.lit (a := 3) (b := 3) (c := 3) (by decide)).w (c := 1) (d := 5) (by decide)) hJ0 H.size) (cwV 1 hts (kgV (zr23 13 rfl) (zr23 14 rfl) (zr23 15 rfl) (zr1 5 rfl) (zr23 16 rfl)) rfl rfl rfl (by decide +kernel) ⟨Nat.le_of_ble_eq_true rfl, Nat.le_of_ble_eq_true rfl⟩) (zpreV hK hw hS hA zZ.nil hN (List.range (mW ct h0 y r q).length) mWn (zrange _) 11 0 rfl mWo) rfl rfl hl.1 rfl (lv_room (Nat.le_of_ble_eq_true rfl)) dX12_readsOne_14 ⟨Nat.le_of_ble_eq_true rfl, Nat.le_of_ble_eq_true rfl⟩) hw hS hA 17 rfl (fun u26 H locs pu26 hw hS => ?_)
    obtain ⟨v27, r28⟩ := u26
    have hv27 : zI 0 0 v27 := pu26.1
    have ju26 : mJ B r28 := pu26.2.1
    have fu26 : zFr [109] r r28 := pu26.2.2.1
    have xu26 : (v27, r28) = (Gm_fails (3 : Int32) r q) := pu26.2.2.2.1
    have hE := zc_vrE xu26 hE
    have hw : zPD D A (mW ct h0 y r28 q) H := hw
    refine zfr 17 [.int v27] rfl rfl ?_
    exact ziretQ hQ hx hb hr ((hv27.w (c := 0) (d := 1) (by decide)).rn) hlocks (v27, r28, q) rfl ⟨(hv27.w (c := 0) (d := 1) (by decide)), ju26, ((zFr.refl).tr fu26 rfl), (show mP r28 from (mP.fr x1 (fu26 103 rfl) (fu26 104 rfl) (fu26 105 rfl) (fu26 106 rfl))), (fun h => absurd (zI.eq0 hv27) h), (fun h => absurd (zI.eq0 hv27) h), (hE.symm.trans hX), trivial⟩ hw hS dX12_readsOne_17

set_option maxHeartbeats 4000000 in
set_option maxRecDepth 100000 in
theorem mc_readsOne3 (l : Launch) (D : va_G) (ct : Nat → ClassId) (h0 : Nat) (y : Nat → Nat) (B : Int) (a2 : Int32) (a3 : Int32) (r : zRr) (q : zRq) (hJ0 : mJ B r) (x1 : mP r) (x2 : zI 1 4 (r 106 0)) (x3 : mT1 r) : zC l yX12_readsOne (.code yX12_readsOne cX12_readsOne 4 (some .boolean) :: wsL_law0) ({ frames := 4, cells := 0, slots := 0, locals := 200 }) D ct [] [.ref h0, .int 3, .int a2, .int a3] (mW ct h0 y r q) (S := Int32 × zRr × zRq) (fun u => some (.int u.1)) (fun u => zI 0 1 u.1 ∧ mJ B u.2.1 ∧ zFr [104, 105, 106, 108, 109, 136, 123, 1] r u.2.1 ∧ (mP u.2.1) ∧ (¬ u.1 = 0 → (r 105 0).toInt < (u.2.1 105 0).toInt) ∧ (¬ u.1 = 0 → mT1 u.2.1) ∧ u = (Gm_readsOne3 a2 a3 r q) ∧ True) (fun u => mW ct h0 y u.2.1 u.2.2) 0 0 := by
  refine zofQ cX12_readsOne 4 (some .boolean) (by decide) rfl (Nat.le_of_ble_eq_true rfl) ?_
  intro p e s m below meth c A a9 Q ha9 hx hb hr hml hts hown hlocks hname hK hA hZ hN hQ
  have hown : s.vm.findClass RX12 = some m.cls := hown
  have hiX12 : ∀ w ∈ wsX120, w ∈ .code yX12_readsOne cX12_readsOne 4 (some .boolean) :: wsL_law0 := fun _ h => ki (zs_wsX120 _ h)
  have lf13 := hts (.fieldLink RX12 13 "BeardPassModel" "land" "[I") (ki (zr7 20 rfl))
  have lf256 := hts (.fieldLink RX12 256 "BeardPassModel" "given" "I") (ki (zr23 11 rfl))
  have lf292 := hts (.fieldLink RX12 292 "BeardPassModel" "toldLines" "I") (ki (zr21 22 rfl))
  obtain ⟨X, hX⟩ : ∃ X, X = (Gm_readsOne3 a2 a3 r q) := ⟨_, rfl⟩
  intro H locs hw hS ls hl
  have hl : lv_has ls 4 [(0, .ref h0), (1, .int 3), (2, .int a2), (3, .int a3)] := hl
  have hE := hX
  unfold Gm_readsOne3 at hE
  refine lv_aload_n hx hb dX12_readsOne_0 rfl (lv_at hl 0 rfl) ?_
  refine mget (v := .int (r 123 0)) hx hb hts hiX12 hown hK hw 23 (by decide) lf292 rfl rfl dX12_readsOne_1 (zgenE (zI.top _) (fun v1 ev1 _ => ?_))
  have hE := zletE ev1 hE
  refine lv_iload_n hx hb dX12_readsOne_4 rfl (lv_at hl 1 rfl) ?_
  refine lv_ishr hx hb dX12_readsOne_5 (zgenE (zI.top _) (fun v2 ev2 _ => ?_))
  have hE := zletE ev2 hE
  refine lv_iconst (v := 1) hx hb dX12_readsOne_6 (by decide) ?_
  refine lv_iand hx hb dX12_readsOne_7 (zgenE (lo := 0) (hi := 1) (zI.and (zI.lit (a := 1) (b := 1) (c := 1) (by decide)) (by decide)) (fun v3 ev3 hv3 => ?_))
  have hE := zletE ev3 hE
  refine lv_iconst (v := 1) hx hb dX12_readsOne_8 (by decide) ?_
  refine lv_icmp_ne (tgt := 18) hx hb dX12_readsOne_9 (by decide) (fun c4 => ?_) (fun c4 => ?_)
  · have hE := zifnT c4 hE
    have k5 : zI 0 0 (v3) := zI.neU c4 hv3 (zI.lit (a := 1) (b := 1) (c := 1) (by decide)) (by decide)
    refine lv_aload_n hx hb dX12_readsOne_18 rfl (lv_at hl 0 rfl) ?_
    refine lv_dup hx hb dX12_readsOne_19 rfl ?_
    refine mget (v := .int (r 123 0)) hx hb hts hiX12 hown hK hw 23 (by decide) lf292 rfl rfl dX12_readsOne_20 (zgenE (zI.top _) (fun v6 ev6 _ => ?_))
    have hE := zletE ev6 hE
    refine lv_iconst (v := 1) hx hb dX12_readsOne_23 (by decide) ?_
    refine lv_iload_n hx hb dX12_readsOne_24 rfl (lv_at hl 1 rfl) ?_
    refine lv_ishl hx hb dX12_readsOne_25 (ztop (.int 8) (congrArg Value.int (by decide)) ?_)
    refine lv_ior hx hb dX12_readsOne_26 (zgenE (zI.top _) (fun v7 ev7 _ => ?_))
    have hE := zletE ev7 hE
    refine mput (ty := .int) (v := .int v7) hx hb hts hiX12 hown hK hw hS 23 (by decide) lf292 rfl rfl (by decide +kernel) rfl rfl dX12_readsOne_27 (zset r 123 (fun _ => v7)) _ mWf23 (fun H locs hw hS => ?_)
    refine mgen (P := fun x => mJ B x ∧ zFr [104, 105, 106, 108, 109, 136, 123, 1] r x) hw ⟨hJ0.setc rfl (fun _ => (zI.top _)), (zFr.refl).set rfl⟩ (fun r8 er8 hw pr8 => ?_)
    have hE := zletE er8 hE
    refine lv_aload_n hx hb dX12_readsOne_30 rfl (lv_at hl 0 rfl) ?_
    refine zcallW (va_runV (As := []) (rest := []) ⟨hx, hb, hml, hown, hts⟩ (mc_nextToken l D ct h0 y B r8 q pr8.1 (((mP.fr x1 (zs_row (k := 103) er8 (by decide)) (zs_row (k := 104) er8 (by decide)) (zs_row (k := 105) er8 (by decide)) (zs_row (k := 106) er8 (by decide)))).2.1) H.size) (cwV 0 hts (kgV (zr22 13 rfl) (zr22 14 rfl) (zr22 15 rfl) (zr1 5 rfl) (zr22 16 rfl)) rfl rfl rfl (by decide +kernel) ⟨Nat.le_of_ble_eq_true rfl, Nat.le_of_ble_eq_true rfl⟩) (zpreV hK hw hS hA zZ.nil hN (List.range (mW ct h0 y r8 q).length) mWn (zrange _) 11 0 rfl mWo) rfl rfl hl.1 rfl (lv_room (Nat.le_of_ble_eq_true rfl)) dX12_readsOne_31 ⟨Nat.le_of_ble_eq_true rfl, Nat.le_of_ble_eq_true rfl⟩) hw hS hA 34 rfl (fun u9 H locs pu9 hw hS => ?_)
    obtain ⟨r10, q11⟩ := u9
    have ju9 : mJ B r10 := pu9.1
    have fu9 : zFr [104, 105, 106, 108] r8 r10 := pu9.2.1
    have yu9_0 : mP r10 := pu9.2.2.1
    have yu9_1 : (r8 104 0).toInt ≤ (r10 105 0).toInt := pu9.2.2.2.1
    have xu9 : (r10, q11) = (Gm_nextToken r8 q) := pu9.2.2.2.2.1
    have hE := zc_rqE xu9 hE
    have hw : zPD D A (mW ct h0 y r10 q11) H := hw
    refine zfr 34 [] rfl rfl ?_
    refine lv_aload_n hx hb dX12_readsOne_34 rfl (lv_at hl 0 rfl) ?_
    refine lv_iload_n hx hb dX12_readsOne_35 rfl (lv_at hl 2 rfl) ?_
    refine lv_iload_n hx hb dX12_readsOne_36 rfl (lv_at hl 3 rfl) ?_
    refine zcallW (va_runV (As := [.int a2, .int a3]) (rest := []) ⟨hx, hb, hml, hown, hts⟩ (mc_needsNumber l D ct h0 y B a2 a3 r10 q11 ju9 (yu9_0) H.size) (cwV 2 hts (kgV (zr25 7 rfl) (zr25 8 rfl) (zr25 9 rfl) (zr1 5 rfl) (zr25 10 rfl)) rfl rfl rfl (by decide +kernel) ⟨Nat.le_of_ble_eq_true rfl, Nat.le_of_ble_eq_true rfl⟩) (zpreV hK hw hS hA zZ.nil hN (List.range (mW ct h0 y r10 q11).length) mWn (zrange _) 11 0 rfl mWo) rfl rfl hl.1 rfl (lv_room (Nat.le_of_ble_eq_true rfl)) dX12_readsOne_37 ⟨Nat.le_of_ble_eq_true rfl, Nat.le_of_ble_eq_true rfl⟩) hw hS hA 40 rfl (fun u12 H locs pu12 hw hS => ?_)
    obtain ⟨v13, r14, q15⟩ := u12
    have hv13 : zI 0 1 v13 := pu12.1
    have ju12 : mJ B r14 := pu12.2.1
    have fu12 : zFr [104, 105, 106, 108, 109, 136] r10 r14 := pu12.2.2.1
    have yu12_0 : mP r14 := pu12.2.2.2.1
    have yu12_1 : (r10 105 0).toInt ≤ (r14 105 0).toInt := pu12.2.2.2.2.1
    have yu12_2 : ¬ v13 = 0 → zI 0 9999 (r14 136 0) := pu12.2.2.2.2.2.1
    have xu12 : (v13, r14, q15) = (Gm_needsNumber a2 a3 r10 q11) := pu12.2.2.2.2.2.2.1
    have hE := zc_vrqE xu12 hE
    have hw : zPD D A (mW ct h0 y r14 q15) H := hw
    refine zfr 40 [.int v13] rfl rfl ?_
    refine lv_if_ne (tgt := 45) hx hb dX12_readsOne_40 (by decide) (fun c16 => ?_) (fun c16 => ?_)
    · have hE := zifnT c16 hE
      have k17 : zI 1 1 (v13) := zI.neD c16 hv13 (zI.lit (a := 0) (b := 0) (c := 0) (by decide)) (by decide)
      refine lv_aload_n hx hb dX12_readsOne_45 rfl (lv_at hl 0 rfl) ?_
      refine mget (v := .ref (y 1)) hx hb hts hiX12 hown hK hw 10 (by decide) lf13 rfl rfl dX12_readsOne_46 ?_
      refine lv_iconst (v := 4) hx hb dX12_readsOne_49 (by decide) ?_
      refine lv_iload_n hx hb dX12_readsOne_50 rfl (lv_at hl 1 rfl) ?_
      refine lv_iadd hx hb dX12_readsOne_51 (ztop (.int 7) (congrArg Value.int (by decide)) ?_)
      refine lv_aload_n hx hb dX12_readsOne_52 rfl (lv_at hl 0 rfl) ?_
      refine mget (v := .int (r14 136 0)) hx hb hts hiX12 hown hK hw 36 (by decide) lf256 rfl rfl dX12_readsOne_53 (zgenE (lo := 0) (hi := 9999) ((yu12_2 c16)) (fun v18 ev18 hv18 => ?_))
      have hE := zletE ev18 hE
      refine ziast hx hb hK hw hS 2 mWg1 7 (by decide) (by decide) (by decide) dX12_readsOne_56 (mW ct h0 y (zset r14 1 (upd (r14 1) 7 v18)) q15) mWs1 (fun H locs hw hS => ?_)
      refine mgen (P := fun x => mJ B x ∧ zFr [104, 105, 106, 108, 109, 136, 123, 1] r x) hw ⟨ju12.setL (by decide) (zI.top _), ((pr8.2.tr fu9 rfl).tr fu12 rfl).set rfl⟩ (fun r19 er19 hw pr19 => ?_)
      have hE := zletE er19 hE
      refine lv_aload_n hx hb dX12_readsOne_57 rfl (lv_at hl 0 rfl) ?_
      refine zcallW (va_runV (As := []) (rest := []) ⟨hx, hb, hml, hown, hts⟩ (mc_closes l D ct h0 y B r19 q15 pr19.1 ((mP.fr yu12_0 (zs_row (k := 103) er19 (by decide)) (zs_row (k := 104) er19 (by decide)) (zs_row (k := 105) er19 (by decide)) (zs_row (k := 106) er19 (by decide)))) H.size) (cwV 0 hts (kgV (zr25 14 rfl) (zr25 15 rfl) (zr25 16 rfl) (zr1 5 rfl) (zr25 17 rfl)) rfl rfl rfl (by decide +kernel) ⟨Nat.le_of_ble_eq_true rfl, Nat.le_of_ble_eq_true rfl⟩) (zpreV hK hw hS hA zZ.nil hN (List.range (mW ct h0 y r19 q15).length) mWn (zrange _) 11 0 rfl mWo) rfl rfl hl.1 rfl (lv_room (Nat.le_of_ble_eq_true rfl)) dX12_readsOne_58 ⟨Nat.le_of_ble_eq_true rfl, Nat.le_of_ble_eq_true rfl⟩) hw hS hA 61 rfl (fun u20 H locs pu20 hw hS => ?_)
      obtain ⟨v21, r22, q23⟩ := u20
      have hv21 : zI 0 1 v21 := pu20.1
      have ju20 : mJ B r22 := pu20.2.1
      have fu20 : zFr [104, 105, 106, 108, 109] r19 r22 := pu20.2.2.1
      have yu20_0 : mP r22 := pu20.2.2.2.1
      have yu20_1 : (r19 105 0).toInt ≤ (r22 105 0).toInt := pu20.2.2.2.2.1
      have xu20 : (v21, r22, q23) = (Gm_closes r19 q15) := pu20.2.2.2.2.2.1
      have hE := zc_vrqE xu20 hE
      have hw : zPD D A (mW ct h0 y r22 q23) H := hw
      refine zfr 61 [.int v21] rfl rfl ?_
      exact ziretQ hQ hx hb hr (hv21.rn) hlocks (v21, r22, q23) rfl ⟨hv21, ju20, (pr19.2.tr fu20 rfl), (show mP r22 from yu20_0), (show ¬ v21 = 0 → (r 105 0).toInt < (r22 105 0).toInt from (fun _ => by have := yu20_1; have := congrArg Int32.toInt (congrFun (zs_row (k := 105) er19 (by decide)) 0); have := yu12_1; have := yu9_1; have := ((mP.fr x1 (zs_row (k := 103) er8 (by decide)) (zs_row (k := 104) er8 (by decide)) (zs_row (k := 105) er8 (by decide)) (zs_row (k := 106) er8 (by decide)))).1; have := ((mP.fr x1 (zs_row (k := 103) er8 (by decide)) (zs_row (k := 104) er8 (by decide)) (zs_row (k := 105) er8 (by decide)) (zs_row (k := 106) er8 (by decide)))).2.2.resolve_left (tkne (zs_at er8 x2 (by decide)) (by decide)); have := congrArg Int32.toInt (congrFun (zs_row (k := 105) er8 (by decide)) 0); omega)), (show ¬ v21 = 0 → mT1 r22 from (fun _ => x3.two (by rw [(fu20 1 rfl), zs_self er19, pk_un (by decide), ((fu12 1 rfl).trans ((fu9 1 rfl).trans (zs_row (k := 1) er8 (by decide))))]) (by rw [(fu20 1 rfl), zs_self er19, pk_un (by decide), ((fu12 1 rfl).trans ((fu9 1 rfl).trans (zs_row (k := 1) er8 (by decide))))]))), (hE.symm.trans hX), trivial⟩ hw hS dX12_readsOne_61
    · have hE := zifnF c16 hE
      have k24 : zI 0 0 (v13) := zI.eqq c16 (zI.lit (a := 0) (b := 0) (c := 0) (by decide))
      refine lv_iconst (v := 0) hx hb dX12_readsOne_43 (by decide) ?_
      exact ziretQ hQ hx hb hr rfl hlocks (0, r14, q15) rfl ⟨((zI.lit (a := 0) (b := 0) (c := 0) (by decide)).w (c := 0) (d := 1) (by decide)), ju12, ((pr8.2.tr fu9 rfl).tr fu12 rfl), (show mP r14 from yu12_0), (fun h => absurd rfl h), (fun h => absurd rfl h), (hE.symm.trans hX), trivial⟩ hw hS dX12_readsOne_44
  · have hE := zifnF c4 hE
    have k25 : zI 1 1 (v3) := zI.eqq c4 (zI.lit (a := 1) (b := 1) (c := 1) (by decide))
    refine lv_aload_n hx hb dX12_readsOne_12 rfl (lv_at hl 0 rfl) ?_
    refine lv_iconst (v := 3) hx hb dX12_readsOne_13 (by decide) ?_
    refine zcallW (va_runV (As := [.int 3]) (rest := []) ⟨hx, hb, hml, hown, hts⟩ (mc_fails l D ct h0 y B 3 r q ((zI.lit (a := 3) (b := 3) (c := 3) (by decide)).w (c := 1) (d := 5) (by decide)) hJ0 H.size) (cwV 1 hts (kgV (zr23 13 rfl) (zr23 14 rfl) (zr23 15 rfl) (zr1 5 rfl) (zr23 16 rfl)) rfl rfl rfl (by decide +kernel) ⟨Nat.le_of_ble_eq_true rfl, Nat.le_of_ble_eq_true rfl⟩) (zpreV hK hw hS hA zZ.nil hN (List.range (mW ct h0 y r q).length) mWn (zrange _) 11 0 rfl mWo) rfl rfl hl.1 rfl (lv_room (Nat.le_of_ble_eq_true rfl)) dX12_readsOne_14 ⟨Nat.le_of_ble_eq_true rfl, Nat.le_of_ble_eq_true rfl⟩) hw hS hA 17 rfl (fun u26 H locs pu26 hw hS => ?_)
    obtain ⟨v27, r28⟩ := u26
    have hv27 : zI 0 0 v27 := pu26.1
    have ju26 : mJ B r28 := pu26.2.1
    have fu26 : zFr [109] r r28 := pu26.2.2.1
    have xu26 : (v27, r28) = (Gm_fails (3 : Int32) r q) := pu26.2.2.2.1
    have hE := zc_vrE xu26 hE
    have hw : zPD D A (mW ct h0 y r28 q) H := hw
    refine zfr 17 [.int v27] rfl rfl ?_
    exact ziretQ hQ hx hb hr ((hv27.w (c := 0) (d := 1) (by decide)).rn) hlocks (v27, r28, q) rfl ⟨(hv27.w (c := 0) (d := 1) (by decide)), ju26, ((zFr.refl).tr fu26 rfl), (show mP r28 from (mP.fr x1 (fu26 103 rfl) (fu26 104 rfl) (fu26 105 rfl) (fu26 106 rfl))), (fun h => absurd (zI.eq0 hv27) h), (fun h => absurd (zI.eq0 hv27) h), (hE.symm.trans hX), trivial⟩ hw hS dX12_readsOne_17
