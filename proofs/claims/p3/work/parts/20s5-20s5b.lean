noncomputable def Gm_needOf_103 (w103_4 : Int32) (rw103 : zRr) : Int32 × zRr :=
  zlet (α := zRr) (zset rw103 32 (zcp (rw103 34) (rw103 32) (0) (0) 31)) <| fun r1 => (w103_4, r1)
noncomputable def Gm_needOf_84 (a1 : Int32) (w46_3 : Int32) (w46_5 : Int32) (ih46 : Int32 → Int32 → Int32 → zRr → (Int32 × zRr)) (w84_4 : Int32) (rw84 : zRr) : Int32 × zRr :=
  zlet (α := zRr) (zset rw84 32 (upd (rw84 32) (zn (13 + a1)) ((rw84 32 (zn (13 + a1))) + 1))) <| fun r5 => ih46 w46_3 w84_4 (w46_5 + 1) r5
noncomputable def Bm_needOf_46 (a1 : Int32) (a2 : Int32) (q : zRq) (ih46 : Int32 → Int32 → Int32 → zRr → (Int32 × zRr)) (w46_3 : Int32) (w46_4 : Int32) (w46_5 : Int32) (rw46 : zRr) : Int32 × zRr :=
  zif (w46_3 < w46_5) (Gm_needOf_103 w46_4 rw46) (zif ((0 : Int32) ≤ w46_4) (Gm_needOf_103 w46_4 rw46) (zlet (α := Int32) (1 + a1) <| fun v13 => zlet (α := Int32) (rw46 32 (zn v13)) <| fun v14 => zlet (α := Int32) (1 <<< (v14 &&& 31)) <| fun v15 => zc_vr (Gm_reachFrom a1 v15 rw46 q) <| fun v17 r18 => zlet (α := Int32) (v17 >>> (a2 &&& 31)) <| fun v19 => zlet (α := Int32) (v19 &&& 1) <| fun v20 => zifn (v20 = (1 : Int32)) (Gm_needOf_84 a1 w46_3 w46_5 ih46 w46_4 r18) (Gm_needOf_84 a1 w46_3 w46_5 ih46 w46_5 r18)))
noncomputable def Gm_needOf_46 (a1 : Int32) (a2 : Int32) (q : zRq) (n : Nat) : Int32 → Int32 → Int32 → zRr → (Int32 × zRr) :=
  Nat.rec (motive := fun _ => Int32 → Int32 → Int32 → zRr → (Int32 × zRr)) (fun _ _ _ rw46 => (default, rw46)) (fun _ ih => Bm_needOf_46 a1 a2 q ih) n
noncomputable def Gm_needOf_39 (a1 : Int32) (a2 : Int32) (q : zRq) (w39_s0 : Int32) (rw39 : zRr) : Int32 × zRr :=
  Gm_needOf_46 a1 a2 q 22 w39_s0 (-1) 0 rw39
noncomputable def Gm_needOf (a1 : Int32) (a2 : Int32) (r : zRr) (q : zRq) : Int32 × zRr :=
  zlet (α := zRr) (zset r 34 (zcp (r 32) (r 34) (0) (0) 31)) <| fun r24 => zlet (α := Int32) (r24 6 (zn a1)) <| fun v25 => zifn (v25 = (1 : Int32)) (zlet (α := Int32) (13 + a1) <| fun v27 => zlet (α := Int32) (r24 32 (zn v27)) <| fun v28 => zlet (α := Int32) (20 - v28) <| fun v29 => Gm_needOf_39 a1 a2 q v29 r24) (Gm_needOf_39 a1 a2 q 0 r24)
set_option maxHeartbeats 4000000 in
set_option maxRecDepth 100000 in
theorem mc_needOf (l : Launch) (D : va_G) (ct : Nat → ClassId) (h0 : Nat) (y : Nat → Nat) (a1 : Int32) (a2 : Int32) (r : zRr) (q : zRq) (g1 : zI 0 5 a1) (g2 : zI 0 5 a2) (hJ0 : mJ 20 r) : zC l yX12_needOf (.code yX12_needOf cX12_needOf 6 (some .int) :: wsL_law0) ({ frames := 10, cells := 0, slots := 0, locals := 440 }) D ct [] [.ref h0, .int a1, .int a2] (mW ct h0 y r q) (S := Int32 × zRr) (fun u => some (.int u.1)) (fun u => zI (-1) 20 u.1 ∧ mJ 20 u.2 ∧ zFr [15, 16, 17, 18, 19, 20, 21, 22, 23, 24, 34, 32] r u.2 ∧ u = (Gm_needOf a1 a2 r q) ∧ True) (fun u => mW ct h0 y u.2 q) 0 0 := by
  refine zofQ cX12_needOf 6 (some .int) (by decide) rfl (Nat.le_of_ble_eq_true rfl) ?_
  intro p e s m below meth c A a9 Q ha9 hx hb hr hml hts hown hlocks hname hK hA hZ hN hQ
  have hown : s.vm.findClass RX12 = some m.cls := hown
  have hiX12 : ∀ w ∈ wsX120, w ∈ .code yX12_needOf cX12_needOf 6 (some .int) :: wsL_law0 := fun _ h => ki (zs_wsX120 _ h)
  have lf29 := hts (.fieldLink RX12 29 "BeardPassModel" "kind" "[I") (ki (zr8 1 rfl))
  have lf108 := hts (.fieldLink RX12 108 "BeardPassModel" "s" "[I") (ki (zr9 4 rfl))
  have lf114 := hts (.fieldLink RX12 114 "BeardPassModel" "before" "[I") (ki (zr9 6 rfl))
  obtain ⟨X, hX⟩ : ∃ X, X = (Gm_needOf a1 a2 r q) := ⟨_, rfl⟩
  have cut103 : ∀ (w103_4 : Int32) (rw103 : zRr) (hw103_4 : zI (-1) 20 w103_4) (jw103 : ∃ B9, mJ B9 rw103) (fw103 : zFr [15, 16, 17, 18, 19, 20, 21, 22, 23, 24, 34, 32] r rw103) (hE : X = Gm_needOf_103 w103_4 rw103), zKf p l e ({ frames := 10, cells := 0, slots := 0, locals := 440 }) s m a9 below meth c Q D A 103 6 [] (mW ct h0 y rw103 q) [(0, .ref h0), (4, .int w103_4)] := by
    intro w103_4 rw103 hw103_4 jw103 fw103 hE H locs ls hw hS hl
    unfold Gm_needOf_103 at hE
    obtain ⟨B9, jw103⟩ := jw103
    refine lv_aload_n hx hb dX12_needOf_103 rfl (lv_at hl 0 rfl) ?_
    refine mget (v := .ref (y 34)) hx hb hts hiX12 hown hK hw 47 (by decide) lf114 rfl rfl dX12_needOf_104 ?_
    refine lv_iconst (v := 0) hx hb dX12_needOf_107 (by decide) ?_
    refine lv_aload_n hx hb dX12_needOf_108 rfl (lv_at hl 0 rfl) ?_
    refine mget (v := .ref (y 32)) hx hb hts hiX12 hown hK hw 45 (by decide) lf108 rfl rfl dX12_needOf_109 ?_
    refine lv_iconst (v := 0) hx hb dX12_needOf_112 (by decide) ?_
    refine mcp2 35 33 (As := [.ref (y 34), .int 0, .ref (y 32), .int 0]) (rest := []) ⟨hx, hb, hml, hown, hts⟩ (c_copies l D ct (y 34) (0) (y 32) (0) 31 31 (rw103 34) (rw103 32) (by decide) (by decide) (by decide) (by decide)) (va_cwS 4 hts (kgSm (zr36 17 rfl) (zr36 18 rfl) (zr1 5 rfl) mL_X12_copies) rfl rfl rfl (by decide +kernel) ⟨Nat.le_of_ble_eq_true rfl, Nat.le_of_ble_eq_true rfl⟩) hw hS hA hK hN mWg34 mWg32 rfl rfl (by decide) rfl hl.1 rfl (Nat.le_of_ble_eq_true rfl) dX12_needOf_113 mWs32 (fun _ H locs _ hw hS => ?_)
    have hw : zPD D A (mW ct h0 y (zset rw103 32 (zcp (rw103 34) (rw103 32) (0) (0) 31)) q) H := hw
    refine zfr 116 [] rfl rfl ?_
    refine mgen (P := fun x => mJ 20 x ∧ zFr [15, 16, 17, 18, 19, 20, 21, 22, 23, 24, 34, 32] r x) hw ⟨mcp_s jw103 (Or.inl ⟨Or.inr rfl, rfl⟩), fw103.set rfl⟩ (fun r1 er1 hw pr1 => ?_)
    have hE := zletE er1 hE
    refine lv_iload hx hb dX12_needOf_116 (lv_at hl 1 rfl) ?_
    exact ziretQ hQ hx hb hr rfl hlocks (w103_4, r1) rfl ⟨hw103_4, pr1.1, pr1.2, (hE.symm.trans hX), trivial⟩ hw hS dX12_needOf_118
  have cut46 : ∀ (n46 : Nat) (w46_3 : Int32) (w46_4 : Int32) (w46_5 : Int32) (rw46 : zRr) (hw46_1 : zI 0 5 a1) (hw46_2 : zI 0 5 a2) (hw46_3 : zI (-21) 20 w46_3) (hw46_4 : zI (-1) 20 w46_4) (hw46_5 : zI 0 21 w46_5) (jw46 : mJ (20 + w46_5.toInt) rw46) (fw46 : zFr [15, 16, 17, 18, 19, 20, 21, 22, 23, 24, 34, 32] r rw46) (hE : X = Gm_needOf_46 a1 a2 q n46 w46_3 w46_4 w46_5 rw46), 21 - w46_5.toInt < (n46 : Int) → zKf p l e ({ frames := 10, cells := 0, slots := 0, locals := 440 }) s m a9 below meth c Q D A 46 6 [] (mW ct h0 y rw46 q) [(0, .ref h0), (1, .int a1), (2, .int a2), (3, .int w46_3), (4, .int w46_4), (5, .int w46_5)] := by
    intro n46
    induction n46 with
    | zero => intro w46_3 w46_4 w46_5 rw46 hw46_1 hw46_2 hw46_3 hw46_4 hw46_5 jw46 fw46 hE hm46; exact zI.no hw46_5 (by decide) hm46
    | succ n46 ih46 =>
      intro w46_3 w46_4 w46_5 rw46 hw46_1 hw46_2 hw46_3 hw46_4 hw46_5 jw46 fw46 hE hm46
      have hE : X = Bm_needOf_46 a1 a2 q (Gm_needOf_46 a1 a2 q n46) w46_3 w46_4 w46_5 rw46 := hE
      unfold Bm_needOf_46 at hE
      have cut84 : ∀ (w84_4 : Int32) (rw84 : zRr) (hw84_1 : zI 0 5 a1) (hw84_2 : zI 0 5 a2) (hw84_3 : zI 0 20 w46_3) (hw84_4 : zI (-1) 20 w84_4) (hw84_5 : zI 0 20 w46_5) (jw84 : mJ (20 + w46_5.toInt) rw84) (fw84 : zFr [15, 16, 17, 18, 19, 20, 21, 22, 23, 24, 34, 32] r rw84) (hE : X = Gm_needOf_84 a1 w46_3 w46_5 (Gm_needOf_46 a1 a2 q n46) w84_4 rw84), zKf p l e ({ frames := 10, cells := 0, slots := 0, locals := 440 }) s m a9 below meth c Q D A 84 6 [] (mW ct h0 y rw84 q) [(0, .ref h0), (1, .int a1), (2, .int a2), (3, .int w46_3), (4, .int w84_4), (5, .int w46_5)] := by
        intro w84_4 rw84 hw84_1 hw84_2 hw84_3 hw84_4 hw84_5 jw84 fw84 hE H locs ls hw hS hl
        unfold Gm_needOf_84 at hE
        refine lv_aload_n hx hb dX12_needOf_84 rfl (lv_at hl 0 rfl) ?_
        refine mget (v := .ref (y 32)) hx hb hts hiX12 hown hK hw 45 (by decide) lf108 rfl rfl dX12_needOf_85 ?_
        refine lv_bipush (v := 13) hx hb dX12_needOf_88 (by decide) ?_
        refine lv_iload_n hx hb dX12_needOf_90 rfl (lv_at hl 1 rfl) ?_
        refine lv_iadd hx hb dX12_needOf_91 ?_
        have k2 : zI 13 18 (13 + a1) := zI.add (zI.lit (a := 13) (b := 13) (c := 13) (by decide)) hw84_1 (by decide)
        refine lv_dup2_11 hx hb dX12_needOf_92 rfl rfl ?_
        refine miald hx hb hK hw 33 mWg32 k2 (by decide) dX12_needOf_93 ?_
        have k3 : zI 0 41 (rw84 32 (zn (13 + a1))) := (ms_13 jw84 k2)
        refine lv_iconst (v := 1) hx hb dX12_needOf_94 (by decide) ?_
        refine lv_iadd hx hb dX12_needOf_95 ?_
        have k4 : zI 1 42 ((rw84 32 (zn (13 + a1))) + 1) := zI.add k3 (zI.lit (a := 1) (b := 1) (c := 1) (by decide)) (by decide)
        refine miast hx hb hK hw hS 33 mWg32 k2 (by decide) dX12_needOf_96 (mW ct h0 y (zset rw84 32 (upd (rw84 32) (zn (13 + a1)) ((rw84 32 (zn (13 + a1))) + 1))) q) mWs32 (fun H locs hw hS => ?_)
        refine mgen (P := fun x => mJ (20 + w46_5.toInt + 1) x ∧ zFr [15, 16, 17, 18, 19, 20, 21, 22, 23, 24, 34, 32] r x) hw ⟨jw84.inc (by have h9 := (hw84_5).2; omega) k2, fw84.set rfl⟩ (fun r5 er5 hw pr5 => ?_)
        have hE := zletE er5 hE
        refine lv_iinc (v := w46_5 + 1) (lv' := [(5, .int (w46_5 + 1)), (0, .ref h0), (1, .int a1), (2, .int a2), (3, .int w46_3), (4, .int w84_4)]) hx hb dX12_needOf_97 hl (k := 5) rfl (rfl) (by decide) rfl (fun ls hl => ?_)
        have k6 : zI 1 21 (w46_5 + 1) := zI.add hw84_5 (zI.lit (a := 1) (b := 1) (by decide)) (by decide)
        refine lv_goto (tgt := 46) hx hb dX12_needOf_100 (by decide) ?_
        exact ih46 w46_3 w84_4 (w46_5 + 1) r5 hw84_1 hw84_2 (hw84_3.w (c := (-21)) (d := 20) (by decide)) hw84_4 (k6.w (c := 0) (d := 21) (by decide)) (mJ.nx pr5.1 hw84_5 (by decide)) pr5.2 hE (zI.up hw84_5 (by decide) hm46) H locs ls hw hS (lv_sub hl [1, 2, 3, 4, 5, 0] rfl)
      intro H locs ls hw hS hl
      refine lv_iload hx hb dX12_needOf_46 (lv_at hl 5 rfl) ?_
      refine lv_iload_n hx hb dX12_needOf_48 rfl (lv_at hl 3 rfl) ?_
      refine lv_icmp_gt (tgt := 103) hx hb dX12_needOf_49 (by decide) (fun c7 => ?_) (fun c7 => ?_)
      · have hE := zifT c7 hE
        exact cut103 w46_4 rw46 hw46_4 ⟨_, jw46⟩ fw46 hE H locs ls hw hS (lv_sub hl [0, 4] rfl)
      · have hE := zifF c7 hE
        have k8 : zI 0 20 (w46_5) := zI.leU (zI.nlt c7) hw46_5 hw46_3 (by decide)
        have k9 : zI 0 20 (w46_3) := zI.leD (zI.nlt c7) hw46_5 hw46_3 (by decide)
        refine lv_iload hx hb dX12_needOf_52 (lv_at hl 4 rfl) ?_
        refine lv_if_ge (tgt := 103) hx hb dX12_needOf_54 (by decide) (fun c10 => ?_) (fun c10 => ?_)
        · have hE := zifT c10 hE
          have k11 : zI 0 20 (w46_4) := zI.leD c10 (zI.lit (a := 0) (b := 0) (c := 0) (by decide)) hw46_4 (by decide)
          exact cut103 w46_4 rw46 (k11.w (c := (-1)) (d := 20) (by decide)) ⟨_, jw46⟩ fw46 hE H locs ls hw hS (lv_sub hl [0, 4] rfl)
        · have hE := zifF c10 hE
          have k12 : zI (-1) (-1) (w46_4) := zI.ltU (zI.nle c10) hw46_4 (zI.lit (a := 0) (b := 0) (c := 0) (by decide)) (by decide)
          refine lv_aload_n hx hb dX12_needOf_57 rfl (lv_at hl 0 rfl) ?_
          refine lv_iload_n hx hb dX12_needOf_58 rfl (lv_at hl 1 rfl) ?_
          refine lv_iconst (v := 1) hx hb dX12_needOf_59 (by decide) ?_
          refine lv_aload_n hx hb dX12_needOf_60 rfl (lv_at hl 0 rfl) ?_
          refine mget (v := .ref (y 32)) hx hb hts hiX12 hown hK hw 45 (by decide) lf108 rfl rfl dX12_needOf_61 ?_
          refine lv_iconst (v := 1) hx hb dX12_needOf_64 (by decide) ?_
          refine lv_iload_n hx hb dX12_needOf_65 rfl (lv_at hl 1 rfl) ?_
          refine lv_iadd hx hb dX12_needOf_66 (zgenE (lo := 1) (hi := 6) (zI.add (zI.lit (a := 1) (b := 1) (c := 1) (by decide)) hw46_1 (by decide)) (fun v13 ev13 hv13 => ?_))
          have hE := zletE ev13 hE
          refine miald hx hb hK hw 33 mWg32 hv13 (by decide) dX12_needOf_67 (zgenE (lo := 0) (hi := 5) ((ms_1 jw46 hv13)) (fun v14 ev14 hv14 => ?_))
          have hE := zletE ev14 hE
          refine lv_ishl hx hb dX12_needOf_68 (zgenE (lo := 1) (hi := 32) (zI.shl hv14 5 (by decide)) (fun v15 ev15 hv15 => ?_))
          have hE := zletE ev15 hE
          refine mcallV (As := [.int a1, .int v15]) (rest := []) ⟨hx, hb, hml, hown, hts⟩ (mc_reachFrom l D ct h0 y (20 + w46_5.toInt) a1 v15 rw46 q hw46_1 (hv15.w (c := 0) (d := 63) (by decide)) jw46) (wqX12_419_mc_reachFrom hts ⟨Nat.le_of_ble_eq_true rfl, Nat.le_of_ble_eq_true rfl⟩) hw hS hA hK hN rfl hl.1 rfl (Nat.le_of_ble_eq_true rfl) dX12_needOf_69 72 rfl (fun u16 H locs pu16 hw hS => ?_)
          obtain ⟨v17, r18⟩ := u16
          have hv17 : zI 0 63 v17 := pu16.1
          have ju16 : mJ (20 + w46_5.toInt) r18 := pu16.2.1
          have fu16 : zFr [15, 16, 17, 18, 19, 20, 21, 22, 23, 24] rw46 r18 := pu16.2.2.1
          have xu16 : (v17, r18) = (Gm_reachFrom a1 v15 rw46 q) := pu16.2.2.2.1
          have hE := zc_vrE xu16 hE
          have hw : zPD D A (mW ct h0 y r18 q) H := hw
          refine zfr 72 [.int v17] rfl rfl ?_
          refine lv_iload_n hx hb dX12_needOf_72 rfl (lv_at hl 2 rfl) ?_
          refine lv_ishr hx hb dX12_needOf_73 (zgenE (lo := 0) (hi := 63) (zI.shr hv17 (by decide)) (fun v19 ev19 hv19 => ?_))
          have hE := zletE ev19 hE
          refine lv_iconst (v := 1) hx hb dX12_needOf_74 (by decide) ?_
          refine lv_iand hx hb dX12_needOf_75 (zgenE (lo := 0) (hi := 1) (zI.and (zI.lit (a := 1) (b := 1) (c := 1) (by decide)) (by decide)) (fun v20 ev20 hv20 => ?_))
          have hE := zletE ev20 hE
          refine lv_iconst (v := 1) hx hb dX12_needOf_76 (by decide) ?_
          refine lv_icmp_ne (tgt := 84) hx hb dX12_needOf_77 (by decide) (fun c21 => ?_) (fun c21 => ?_)
          · have hE := zifnT c21 hE
            have k22 : zI 0 0 (v20) := zI.neU c21 hv20 (zI.lit (a := 1) (b := 1) (c := 1) (by decide)) (by decide)
            exact cut84 w46_4 r18 hw46_1 hw46_2 k9 (k12.w (c := (-1)) (d := 20) (by decide)) k8 ju16 (fw46.tr fu16 rfl) hE H locs ls hw hS (lv_sub hl [0, 1, 2, 3, 4, 5] rfl)
          · have hE := zifnF c21 hE
            have k23 : zI 1 1 (v20) := zI.eqq c21 (zI.lit (a := 1) (b := 1) (c := 1) (by decide))
            refine lv_iload hx hb dX12_needOf_80 (lv_at hl 5 rfl) ?_
            refine lv_istore (lv' := [(4, .int w46_5), (0, .ref h0), (1, .int a1), (2, .int a2), (3, .int w46_3), (5, .int w46_5)]) hx hb dX12_needOf_82 hl (by decide) rfl (fun ls hl => ?_)
            exact cut84 w46_5 r18 hw46_1 hw46_2 k9 (k8.w (c := (-1)) (d := 20) (by decide)) k8 ju16 (fw46.tr fu16 rfl) hE H locs ls hw hS (lv_sub hl [1, 2, 3, 4, 0, 5] rfl)
  have cut39 : ∀ (w39_s0 : Int32) (rw39 : zRr) (hw39_1 : zI 0 5 a1) (hw39_2 : zI 0 5 a2) (hw39_s0 : zI (-21) 20 w39_s0) (jw39 : mJ 20 rw39) (fw39 : zFr [15, 16, 17, 18, 19, 20, 21, 22, 23, 24, 34, 32] r rw39) (hE : X = Gm_needOf_39 a1 a2 q w39_s0 rw39), zKf p l e ({ frames := 10, cells := 0, slots := 0, locals := 440 }) s m a9 below meth c Q D A 39 6 [.int w39_s0] (mW ct h0 y rw39 q) [(0, .ref h0), (1, .int a1), (2, .int a2)] := by
    intro w39_s0 rw39 hw39_1 hw39_2 hw39_s0 jw39 fw39 hE H locs ls hw hS hl
    unfold Gm_needOf_39 at hE
    refine lv_istore_n (lv' := [(3, .int w39_s0), (0, .ref h0), (1, .int a1), (2, .int a2)]) hx hb dX12_needOf_39 rfl hl (by decide) rfl (fun ls hl => ?_)
    refine lv_iconst (v := (-1)) hx hb dX12_needOf_40 (by decide) ?_
    refine lv_istore (lv' := [(4, .int (-1)), (3, .int w39_s0), (0, .ref h0), (1, .int a1), (2, .int a2)]) hx hb dX12_needOf_41 hl (by decide) rfl (fun ls hl => ?_)
    refine lv_iconst (v := 0) hx hb dX12_needOf_43 (by decide) ?_
    refine lv_istore (lv' := [(5, .int 0), (4, .int (-1)), (3, .int w39_s0), (0, .ref h0), (1, .int a1), (2, .int a2)]) hx hb dX12_needOf_44 hl (by decide) rfl (fun ls hl => ?_)
    exact cut46 22 w39_s0 (-1) 0 rw39 hw39_1 hw39_2 hw39_s0 ((zI.lit (a := (-1)) (b := (-1)) (c := (-1)) (by decide)).w (c := (-1)) (d := 20) (by decide)) ((zI.lit (a := 0) (b := 0) (c := 0) (by decide)).w (c := 0) (d := 21) (by decide)) (jw39.bto (by decide)) fw39 hE (zI.m0 (zI.lit (a := 0) (b := 0) (c := 0) (by decide)) (by decide)) H locs ls hw hS (lv_sub hl [3, 4, 5, 2, 1, 0] rfl)
  intro H locs hw hS ls hl
  have hl : lv_has ls 6 [(0, .ref h0), (1, .int a1), (2, .int a2)] := hl
  have hE := hX
  unfold Gm_needOf at hE
  refine lv_aload_n hx hb dX12_needOf_0 rfl (lv_at hl 0 rfl) ?_
  refine mget (v := .ref (y 32)) hx hb hts hiX12 hown hK hw 45 (by decide) lf108 rfl rfl dX12_needOf_1 ?_
  refine lv_iconst (v := 0) hx hb dX12_needOf_4 (by decide) ?_
  refine lv_aload_n hx hb dX12_needOf_5 rfl (lv_at hl 0 rfl) ?_
  refine mget (v := .ref (y 34)) hx hb hts hiX12 hown hK hw 47 (by decide) lf114 rfl rfl dX12_needOf_6 ?_
  refine lv_iconst (v := 0) hx hb dX12_needOf_9 (by decide) ?_
  refine mcp2 33 35 (As := [.ref (y 32), .int 0, .ref (y 34), .int 0]) (rest := []) ⟨hx, hb, hml, hown, hts⟩ (c_copies l D ct (y 32) (0) (y 34) (0) 31 31 (r 32) (r 34) (by decide) (by decide) (by decide) (by decide)) (va_cwS 4 hts (kgSm (zr36 17 rfl) (zr36 18 rfl) (zr1 5 rfl) mL_X12_copies) rfl rfl rfl (by decide +kernel) ⟨Nat.le_of_ble_eq_true rfl, Nat.le_of_ble_eq_true rfl⟩) hw hS hA hK hN mWg32 mWg34 rfl rfl (by decide) rfl hl.1 rfl (Nat.le_of_ble_eq_true rfl) dX12_needOf_10 mWs34 (fun _ H locs _ hw hS => ?_)
  have hw : zPD D A (mW ct h0 y (zset r 34 (zcp (r 32) (r 34) (0) (0) 31)) q) H := hw
  refine zfr 13 [] rfl rfl ?_
  refine mgen (P := fun x => mJ 20 x ∧ zFr [15, 16, 17, 18, 19, 20, 21, 22, 23, 24, 34, 32] r x) hw ⟨mcp_o hJ0 (Or.inl ⟨Or.inr rfl, rfl⟩) rfl, (zFr.refl).set rfl⟩ (fun r24 er24 hw pr24 => ?_)
  have hE := zletE er24 hE
  refine lv_aload_n hx hb dX12_needOf_13 rfl (lv_at hl 0 rfl) ?_
  refine mget (v := .ref (y 6)) hx hb hts hiX12 hown hK hw 15 (by decide) lf29 rfl rfl dX12_needOf_14 ?_
  refine lv_iload_n hx hb dX12_needOf_17 rfl (lv_at hl 1 rfl) ?_
  refine miald hx hb hK hw 7 mWg6 g1 (by decide) dX12_needOf_18 (zgenE (zI.top _) (fun v25 ev25 _ => ?_))
  have hE := zletE ev25 hE
  refine lv_iconst (v := 1) hx hb dX12_needOf_19 (by decide) ?_
  refine lv_icmp_ne (tgt := 27) hx hb dX12_needOf_20 (by decide) (fun c26 => ?_) (fun c26 => ?_)
  · have hE := zifnT c26 hE
    refine lv_bipush (v := 20) hx hb dX12_needOf_27 (by decide) ?_
    refine lv_aload_n hx hb dX12_needOf_29 rfl (lv_at hl 0 rfl) ?_
    refine mget (v := .ref (y 32)) hx hb hts hiX12 hown hK hw 45 (by decide) lf108 rfl rfl dX12_needOf_30 ?_
    refine lv_bipush (v := 13) hx hb dX12_needOf_33 (by decide) ?_
    refine lv_iload_n hx hb dX12_needOf_35 rfl (lv_at hl 1 rfl) ?_
    refine lv_iadd hx hb dX12_needOf_36 (zgenE (lo := 13) (hi := 18) (zI.add (zI.lit (a := 13) (b := 13) (c := 13) (by decide)) g1 (by decide)) (fun v27 ev27 hv27 => ?_))
    have hE := zletE ev27 hE
    refine miald hx hb hK hw 33 mWg32 hv27 (by decide) dX12_needOf_37 (zgenE (lo := 0) (hi := 41) ((ms_13 pr24.1 hv27)) (fun v28 ev28 hv28 => ?_))
    have hE := zletE ev28 hE
    refine lv_isub hx hb dX12_needOf_38 (zgenE (lo := (-21)) (hi := 20) (zI.sub (zI.lit (a := 20) (b := 20) (c := 20) (by decide)) hv28 (by decide)) (fun v29 ev29 hv29 => ?_))
    have hE := zletE ev29 hE
    exact cut39 v29 r24 g1 g2 hv29 pr24.1 pr24.2 hE H locs ls hw hS (lv_sub hl [0, 1, 2] rfl)
  · have hE := zifnF c26 hE
    have k30 : zI 1 1 (v25) := zI.eqq c26 (zI.lit (a := 1) (b := 1) (c := 1) (by decide))
    refine lv_iconst (v := 0) hx hb dX12_needOf_23 (by decide) ?_
    refine lv_goto (tgt := 39) hx hb dX12_needOf_24 (by decide) ?_
    exact cut39 0 r24 g1 g2 ((zI.lit (a := 0) (b := 0) (c := 0) (by decide)).w (c := (-21)) (d := 20) (by decide)) pr24.1 pr24.2 hE H locs ls hw hS (lv_sub hl [0, 1, 2] rfl)

noncomputable def Gm_need (a1 : Int32) (a2 : Int32) (r : zRr) (q : zRq) : Int32 × zRr :=
  zlet (α := zRr) (zset r 100 (fun _ => (0 : Int32))) <| fun r1 => zlet (α := Int32) ((Gm_isPerson a1 r1 q)) <| fun u2 => zif (u2 = (0 : Int32)) ((((-1) : Int32), r1)) (zlet (α := Int32) ((Gm_isTown a2 r1 q)) <| fun u7 => zif (u7 = (0 : Int32)) ((((-1) : Int32), r1)) (zc_vr (Gm_needOf a1 a2 r1 q) <| fun v13 r14 => (v13, r14)))
set_option maxHeartbeats 4000000 in
set_option maxRecDepth 100000 in
theorem mc_need (l : Launch) (D : va_G) (ct : Nat → ClassId) (h0 : Nat) (y : Nat → Nat) (a1 : Int32) (a2 : Int32) (r : zRr) (q : zRq) (hJ0 : mJ 20 r) : zC l yX12_need (.code yX12_need cX12_need 3 (some .int) :: wsL_law0) ({ frames := 11, cells := 0, slots := 0, locals := 480 }) D ct [] [.ref h0, .int a1, .int a2] (mW ct h0 y r q) (S := Int32 × zRr) (fun u => some (.int u.1)) (fun u => zI (-1) 20 u.1 ∧ mJ 20 u.2 ∧ zFr [15, 16, 17, 18, 19, 20, 21, 22, 23, 24, 34, 32, 100] r u.2 ∧ u = (Gm_need a1 a2 r q) ∧ True) (fun u => mW ct h0 y u.2 q) 0 0 := by
  refine zofQ cX12_need 3 (some .int) (by decide) rfl (Nat.le_of_ble_eq_true rfl) ?_
  intro p e s m below meth c A a9 Q ha9 hx hb hr hml hts hown hlocks hname hK hA hZ hN hQ
  have hown : s.vm.findClass RX12 = some m.cls := hown
  have hiX12 : ∀ w ∈ wsX120, w ∈ .code yX12_need cX12_need 3 (some .int) :: wsL_law0 := fun _ h => ki (zs_wsX120 _ h)
  have lf129 := hts (.fieldLink RX12 129 "BeardPassModel" "thrown" "I") (ki (zr10 1 rfl))
  obtain ⟨X, hX⟩ : ∃ X, X = (Gm_need a1 a2 r q) := ⟨_, rfl⟩
  intro H locs hw hS ls hl
  have hl : lv_has ls 3 [(0, .ref h0), (1, .int a1), (2, .int a2)] := hl
  have hE := hX
  unfold Gm_need at hE
  refine lv_aload_n hx hb dX12_need_0 rfl (lv_at hl 0 rfl) ?_
  refine lv_iconst (v := 0) hx hb dX12_need_1 (by decide) ?_
  refine mput (ty := .int) (v := .int 0) hx hb hts hiX12 hown hK hw hS 0 (by decide) lf129 rfl rfl (by decide +kernel) rfl rfl dX12_need_2 (zset r 100 (fun _ => (0 : Int32))) _ mWf0 (fun H locs hw hS => ?_)
  refine mgen (P := fun x => mJ 20 x ∧ zFr [15, 16, 17, 18, 19, 20, 21, 22, 23, 24, 34, 32, 100] r x) hw ⟨hJ0.setc rfl (fun _ => (zI.top _)), (zFr.refl).set rfl⟩ (fun r1 er1 hw pr1 => ?_)
  have hE := zletE er1 hE
  refine lv_aload_n hx hb dX12_need_5 rfl (lv_at hl 0 rfl) ?_
  refine lv_iload_n hx hb dX12_need_6 rfl (lv_at hl 1 rfl) ?_
  refine mcallV (As := [.int a1]) (rest := []) ⟨hx, hb, hml, hown, hts⟩ (mc_isPerson l D ct h0 y 20 a1 r1 q pr1.1) (wqX12_370_mc_isPerson hts ⟨Nat.le_of_ble_eq_true rfl, Nat.le_of_ble_eq_true rfl⟩) hw hS hA hK hN rfl hl.1 rfl (Nat.le_of_ble_eq_true rfl) dX12_need_7 10 rfl (fun u2 H locs pu2 hw hS => ?_)
  have hu2 : zI 0 1 u2 := pu2.1
  have yu2_0 : ¬ u2 = 0 → zI 0 5 a1 := pu2.2.1
  have xu2 : u2 = (Gm_isPerson a1 r1 q) := pu2.2.2.1
  have hE := zletE xu2 hE
  have hw : zPD D A (mW ct h0 y r1 q) H := hw
  refine zfr 10 [.int u2] rfl rfl ?_
  refine lv_if_eq (tgt := 30) hx hb dX12_need_10 (by decide) (fun c4 => ?_) (fun c4 => ?_)
  · have hE := zifT c4 hE
    have k5 : zI 0 0 (u2) := zI.eqq c4 (zI.lit (a := 0) (b := 0) (c := 0) (by decide))
    refine lv_iconst (v := (-1)) hx hb dX12_need_30 (by decide) ?_
    exact ziretQ hQ hx hb hr rfl hlocks ((-1), r1) rfl ⟨((zI.lit (a := (-1)) (b := (-1)) (c := (-1)) (by decide)).w (c := (-1)) (d := 20) (by decide)), pr1.1, pr1.2, (hE.symm.trans hX), trivial⟩ hw hS dX12_need_31
  · have hE := zifF c4 hE
    have k6 : zI 1 1 (u2) := zI.neD c4 hu2 (zI.lit (a := 0) (b := 0) (c := 0) (by decide)) (by decide)
    refine lv_aload_n hx hb dX12_need_13 rfl (lv_at hl 0 rfl) ?_
    refine lv_iload_n hx hb dX12_need_14 rfl (lv_at hl 2 rfl) ?_
    refine mcallV (As := [.int a2]) (rest := []) ⟨hx, hb, hml, hown, hts⟩ (mc_isTown l D ct h0 y 20 a2 r1 q pr1.1) (wqX12_373_mc_isTown hts ⟨Nat.le_of_ble_eq_true rfl, Nat.le_of_ble_eq_true rfl⟩) hw hS hA hK hN rfl hl.1 rfl (Nat.le_of_ble_eq_true rfl) dX12_need_15 18 rfl (fun u7 H locs pu7 hw hS => ?_)
    have hu7 : zI 0 1 u7 := pu7.1
    have yu7_0 : ¬ u7 = 0 → zI 0 5 a2 := pu7.2.1
    have xu7 : u7 = (Gm_isTown a2 r1 q) := pu7.2.2.1
    have hE := zletE xu7 hE
    have hw : zPD D A (mW ct h0 y r1 q) H := hw
    refine zfr 18 [.int u7] rfl rfl ?_
    refine lv_if_eq (tgt := 30) hx hb dX12_need_18 (by decide) (fun c9 => ?_) (fun c9 => ?_)
    · have hE := zifT c9 hE
      have k10 : zI 0 0 (u7) := zI.eqq c9 (zI.lit (a := 0) (b := 0) (c := 0) (by decide))
      refine lv_iconst (v := (-1)) hx hb dX12_need_30 (by decide) ?_
      exact ziretQ hQ hx hb hr rfl hlocks ((-1), r1) rfl ⟨((zI.lit (a := (-1)) (b := (-1)) (c := (-1)) (by decide)).w (c := (-1)) (d := 20) (by decide)), pr1.1, pr1.2, (hE.symm.trans hX), trivial⟩ hw hS dX12_need_31
    · have hE := zifF c9 hE
      have k11 : zI 1 1 (u7) := zI.neD c9 hu7 (zI.lit (a := 0) (b := 0) (c := 0) (by decide)) (by decide)
      refine lv_aload_n hx hb dX12_need_21 rfl (lv_at hl 0 rfl) ?_
      refine lv_iload_n hx hb dX12_need_22 rfl (lv_at hl 1 rfl) ?_
      refine lv_iload_n hx hb dX12_need_23 rfl (lv_at hl 2 rfl) ?_
      refine mcallV (As := [.int a1, .int a2]) (rest := []) ⟨hx, hb, hml, hown, hts⟩ (mc_needOf l D ct h0 y a1 a2 r1 q (yu2_0 c4) (yu7_0 c9) pr1.1) (wqX12_432_mc_needOf hts ⟨Nat.le_of_ble_eq_true rfl, Nat.le_of_ble_eq_true rfl⟩) hw hS hA hK hN rfl hl.1 rfl (Nat.le_of_ble_eq_true rfl) dX12_need_24 27 rfl (fun u12 H locs pu12 hw hS => ?_)
      obtain ⟨v13, r14⟩ := u12
      have hv13 : zI (-1) 20 v13 := pu12.1
      have ju12 : mJ 20 r14 := pu12.2.1
      have fu12 : zFr [15, 16, 17, 18, 19, 20, 21, 22, 23, 24, 34, 32] r1 r14 := pu12.2.2.1
      have xu12 : (v13, r14) = (Gm_needOf a1 a2 r1 q) := pu12.2.2.2.1
      have hE := zc_vrE xu12 hE
      have hw : zPD D A (mW ct h0 y r14 q) H := hw
      refine zfr 27 [.int v13] rfl rfl ?_
      refine lv_goto (tgt := 31) hx hb dX12_need_27 (by decide) ?_
      exact ziretQ hQ hx hb hr rfl hlocks (v13, r14) rfl ⟨hv13, ju12, (pr1.2.tr fu12 rfl), (hE.symm.trans hX), trivial⟩ hw hS dX12_need_31

noncomputable def Gm_cheapest_66 (w22_4 : Int32) (ih22 : Int32 → Int32 → Int32 → zRr → (Int32 × zRr)) (w66_2 : Int32) (w66_3 : Int32) (rw66 : zRr) : Int32 × zRr :=
  ih22 w66_2 w66_3 (w22_4 + 1) rw66
noncomputable def Gm_cheapest_60 (w22_4 : Int32) (ih22 : Int32 → Int32 → Int32 → zRr → (Int32 × zRr)) (w60_5 : Int32) (rw60 : zRr) : Int32 × zRr :=
  Gm_cheapest_66 w22_4 ih22 w22_4 w60_5 rw60
noncomputable def Bm_cheapest_22 (a1 : Int32) (q : zRq) (ih22 : Int32 → Int32 → Int32 → zRr → (Int32 × zRr)) (w22_2 : Int32) (w22_3 : Int32) (w22_4 : Int32) (rw22 : zRr) : Int32 × zRr :=
  zlet (α := Int32) (rw22 1 0) <| fun v2 => zif (v2 ≤ w22_4) ((w22_2, rw22)) (zc_vr (Gm_needOf a1 w22_4 rw22 q) <| fun v7 r8 => zif (v7 ≤ (0 : Int32)) (Gm_cheapest_66 w22_4 ih22 w22_2 w22_3 r8) (zif (w22_2 < (0 : Int32)) (Gm_cheapest_60 w22_4 ih22 v7 r8) (zif (v7 < w22_3) (Gm_cheapest_60 w22_4 ih22 v7 r8) (Gm_cheapest_66 w22_4 ih22 w22_2 w22_3 r8))))
noncomputable def Gm_cheapest_22 (a1 : Int32) (q : zRq) (n : Nat) : Int32 → Int32 → Int32 → zRr → (Int32 × zRr) :=
  Nat.rec (motive := fun _ => Int32 → Int32 → Int32 → zRr → (Int32 × zRr)) (fun _ _ _ rw22 => (default, rw22)) (fun _ ih => Bm_cheapest_22 a1 q ih) n
noncomputable def Gm_cheapest (a1 : Int32) (r : zRr) (q : zRq) : Int32 × zRr :=
  zlet (α := zRr) (zset r 100 (fun _ => (0 : Int32))) <| fun r18 => zlet (α := Int32) ((Gm_isPerson a1 r18 q)) <| fun u19 => zifn (u19 = (0 : Int32)) (Gm_cheapest_22 a1 q 7 (-1) 0 0 r18) ((((-1) : Int32), r18))
set_option maxHeartbeats 4000000 in
set_option maxRecDepth 100000 in
theorem mc_cheapest (l : Launch) (D : va_G) (ct : Nat → ClassId) (h0 : Nat) (y : Nat → Nat) (a1 : Int32) (r : zRr) (q : zRq) (hJ0 : mJ 20 r) : zC l yX12_cheapest (.code yX12_cheapest cX12_cheapest 6 (some .int) :: wsL_law0) ({ frames := 11, cells := 0, slots := 0, locals := 480 }) D ct [] [.ref h0, .int a1] (mW ct h0 y r q) (S := Int32 × zRr) (fun u => some (.int u.1)) (fun u => zI (-1) 5 u.1 ∧ mJ 20 u.2 ∧ zFr [15, 16, 17, 18, 19, 20, 21, 22, 23, 24, 34, 32, 100] r u.2 ∧ u = (Gm_cheapest a1 r q) ∧ True) (fun u => mW ct h0 y u.2 q) 0 0 := by
  refine zofQ cX12_cheapest 6 (some .int) (by decide) rfl (Nat.le_of_ble_eq_true rfl) ?_
  intro p e s m below meth c A a9 Q ha9 hx hb hr hml hts hown hlocks hname hK hA hZ hN hQ
  have hown : s.vm.findClass RX12 = some m.cls := hown
  have hiX12 : ∀ w ∈ wsX120, w ∈ .code yX12_cheapest cX12_cheapest 6 (some .int) :: wsL_law0 := fun _ h => ki (zs_wsX120 _ h)
  have lf13 := hts (.fieldLink RX12 13 "BeardPassModel" "land" "[I") (ki (zr7 20 rfl))
  have lf129 := hts (.fieldLink RX12 129 "BeardPassModel" "thrown" "I") (ki (zr10 1 rfl))
  obtain ⟨X, hX⟩ : ∃ X, X = (Gm_cheapest a1 r q) := ⟨_, rfl⟩
  have cut22 : ∀ (n22 : Nat) (w22_2 : Int32) (w22_3 : Int32) (w22_4 : Int32) (rw22 : zRr) (hw22_1 : zI 0 5 a1) (hw22_2 : zI (-1) 5 w22_2) (hw22_3 : zI 0 20 w22_3) (hw22_4 : zI 0 6 w22_4) (jw22 : mJ 20 rw22) (fw22 : zFr [15, 16, 17, 18, 19, 20, 21, 22, 23, 24, 34, 32, 100] r rw22) (hE : X = Gm_cheapest_22 a1 q n22 w22_2 w22_3 w22_4 rw22), 6 - w22_4.toInt < (n22 : Int) → zKf p l e ({ frames := 11, cells := 0, slots := 0, locals := 480 }) s m a9 below meth c Q D A 22 6 [] (mW ct h0 y rw22 q) [(0, .ref h0), (1, .int a1), (2, .int w22_2), (3, .int w22_3), (4, .int w22_4)] := by
    intro n22
    induction n22 with
    | zero => intro w22_2 w22_3 w22_4 rw22 hw22_1 hw22_2 hw22_3 hw22_4 jw22 fw22 hE hm22; exact zI.no hw22_4 (by decide) hm22
    | succ n22 ih22 =>
      intro w22_2 w22_3 w22_4 rw22 hw22_1 hw22_2 hw22_3 hw22_4 jw22 fw22 hE hm22
      have hE : X = Bm_cheapest_22 a1 q (Gm_cheapest_22 a1 q n22) w22_2 w22_3 w22_4 rw22 := hE
      unfold Bm_cheapest_22 at hE
      have cut66 : ∀ (w66_2 : Int32) (w66_3 : Int32) (rw66 : zRr) (hw66_1 : zI 0 5 a1) (hw66_2 : zI (-1) 5 w66_2) (hw66_3 : zI 0 20 w66_3) (hw66_4 : zI 0 5 w22_4) (jw66 : mJ 20 rw66) (fw66 : zFr [15, 16, 17, 18, 19, 20, 21, 22, 23, 24, 34, 32, 100] r rw66) (hE : X = Gm_cheapest_66 w22_4 (Gm_cheapest_22 a1 q n22) w66_2 w66_3 rw66), zKf p l e ({ frames := 11, cells := 0, slots := 0, locals := 480 }) s m a9 below meth c Q D A 66 6 [] (mW ct h0 y rw66 q) [(0, .ref h0), (1, .int a1), (2, .int w66_2), (3, .int w66_3), (4, .int w22_4)] := by
        intro w66_2 w66_3 rw66 hw66_1 hw66_2 hw66_3 hw66_4 jw66 fw66 hE H locs ls hw hS hl
        unfold Gm_cheapest_66 at hE
        refine lv_iinc (v := w22_4 + 1) (lv' := [(4, .int (w22_4 + 1)), (0, .ref h0), (1, .int a1), (2, .int w66_2), (3, .int w66_3)]) hx hb dX12_cheapest_66 hl (k := 4) rfl (rfl) (by decide) rfl (fun ls hl => ?_)
        have k1 : zI 1 6 (w22_4 + 1) := zI.add hw66_4 (zI.lit (a := 1) (b := 1) (by decide)) (by decide)
        refine lv_goto (tgt := 22) hx hb dX12_cheapest_69 (by decide) ?_
        exact ih22 w66_2 w66_3 (w22_4 + 1) rw66 hw66_1 hw66_2 hw66_3 (k1.w (c := 0) (d := 6) (by decide)) jw66 fw66 hE (zI.up hw66_4 (by decide) hm22) H locs ls hw hS (lv_sub hl [1, 2, 3, 4, 0] rfl)
      have cut60 : ∀ (w60_5 : Int32) (rw60 : zRr) (hw60_1 : zI 0 5 a1) (hw60_4 : zI 0 5 w22_4) (hw60_5 : zI 1 20 w60_5) (jw60 : mJ 20 rw60) (fw60 : zFr [15, 16, 17, 18, 19, 20, 21, 22, 23, 24, 34, 32, 100] r rw60) (hE : X = Gm_cheapest_60 w22_4 (Gm_cheapest_22 a1 q n22) w60_5 rw60), zKf p l e ({ frames := 11, cells := 0, slots := 0, locals := 480 }) s m a9 below meth c Q D A 60 6 [] (mW ct h0 y rw60 q) [(0, .ref h0), (1, .int a1), (4, .int w22_4), (5, .int w60_5)] := by
        intro w60_5 rw60 hw60_1 hw60_4 hw60_5 jw60 fw60 hE H locs ls hw hS hl
        unfold Gm_cheapest_60 at hE
        refine lv_iload hx hb dX12_cheapest_60 (lv_at hl 2 rfl) ?_
        refine lv_istore_n (lv' := [(2, .int w22_4), (0, .ref h0), (1, .int a1), (4, .int w22_4), (5, .int w60_5)]) hx hb dX12_cheapest_62 rfl hl (by decide) rfl (fun ls hl => ?_)
        refine lv_iload hx hb dX12_cheapest_63 (lv_at hl 4 rfl) ?_
        refine lv_istore_n (lv' := [(3, .int w60_5), (2, .int w22_4), (0, .ref h0), (1, .int a1), (4, .int w22_4), (5, .int w60_5)]) hx hb dX12_cheapest_65 rfl hl (by decide) rfl (fun ls hl => ?_)
        exact cut66 w22_4 w60_5 rw60 hw60_1 (hw60_4.w (c := (-1)) (d := 5) (by decide)) (hw60_5.w (c := 0) (d := 20) (by decide)) hw60_4 jw60 fw60 hE H locs ls hw hS (lv_sub hl [2, 3, 1, 0, 4] rfl)
      intro H locs ls hw hS hl
      refine lv_iload hx hb dX12_cheapest_22 (lv_at hl 4 rfl) ?_
      refine lv_aload_n hx hb dX12_cheapest_24 rfl (lv_at hl 0 rfl) ?_
      refine mget (v := .ref (y 1)) hx hb hts hiX12 hown hK hw 10 (by decide) lf13 rfl rfl dX12_cheapest_25 ?_
      refine lv_iconst (v := 0) hx hb dX12_cheapest_28 (by decide) ?_
      refine ziald hx hb hK hw 2 mWg1 0 (by decide) (by decide) (by decide) dX12_cheapest_29 (zgenE (lo := 0) (hi := 6) ((show zI 0 6 (rw22 1 0) from jw22.i 1 0)) (fun v2 ev2 hv2 => ?_))
      have hE := zletE ev2 hE
      refine lv_icmp_ge (tgt := 72) hx hb dX12_cheapest_30 (by decide) (fun c3 => ?_) (fun c3 => ?_)
      · have hE := zifT c3 hE
        refine lv_iload_n hx hb dX12_cheapest_72 rfl (lv_at hl 2 rfl) ?_
        exact ziretQ hQ hx hb hr rfl hlocks (w22_2, rw22) rfl ⟨hw22_2, jw22, fw22, (hE.symm.trans hX), trivial⟩ hw hS dX12_cheapest_73
      · have hE := zifF c3 hE
        have k4 : zI 0 5 (w22_4) := zI.ltU (zI.nle c3) hw22_4 hv2 (by decide)
        have k5 : zI 1 6 (v2) := zI.ltD (zI.nle c3) hw22_4 hv2 (by decide)
        refine lv_aload_n hx hb dX12_cheapest_33 rfl (lv_at hl 0 rfl) ?_
        refine lv_iload_n hx hb dX12_cheapest_34 rfl (lv_at hl 1 rfl) ?_
        refine lv_iload hx hb dX12_cheapest_35 (lv_at hl 4 rfl) ?_
        refine mcallV (As := [.int a1, .int w22_4]) (rest := []) ⟨hx, hb, hml, hown, hts⟩ (mc_needOf l D ct h0 y a1 w22_4 rw22 q hw22_1 k4 jw22) (wqX12_432_mc_needOf hts ⟨Nat.le_of_ble_eq_true rfl, Nat.le_of_ble_eq_true rfl⟩) hw hS hA hK hN rfl hl.1 rfl (Nat.le_of_ble_eq_true rfl) dX12_cheapest_37 40 rfl (fun u6 H locs pu6 hw hS => ?_)
        obtain ⟨v7, r8⟩ := u6
        have hv7 : zI (-1) 20 v7 := pu6.1
        have ju6 : mJ 20 r8 := pu6.2.1
        have fu6 : zFr [15, 16, 17, 18, 19, 20, 21, 22, 23, 24, 34, 32] rw22 r8 := pu6.2.2.1
        have xu6 : (v7, r8) = (Gm_needOf a1 w22_4 rw22 q) := pu6.2.2.2.1
        have hE := zc_vrE xu6 hE
        have hw : zPD D A (mW ct h0 y r8 q) H := hw
        refine zfr 40 [.int v7] rfl rfl ?_
        refine lv_istore (lv' := [(5, .int v7), (0, .ref h0), (1, .int a1), (2, .int w22_2), (3, .int w22_3), (4, .int w22_4)]) hx hb dX12_cheapest_40 hl (by decide) rfl (fun ls hl => ?_)
        refine lv_iload hx hb dX12_cheapest_42 (lv_at hl 0 rfl) ?_
        refine lv_if_le (tgt := 66) hx hb dX12_cheapest_44 (by decide) (fun c9 => ?_) (fun c9 => ?_)
        · have hE := zifT c9 hE
          have k10 : zI (-1) 0 (v7) := zI.leU c9 hv7 (zI.lit (a := 0) (b := 0) (c := 0) (by decide)) (by decide)
          exact cut66 w22_2 w22_3 r8 hw22_1 hw22_2 hw22_3 k4 ju6 (fw22.tr fu6 rfl) hE H locs ls hw hS (lv_sub hl [1, 2, 3, 4, 5] rfl)
        · have hE := zifF c9 hE
          have k11 : zI 1 20 (v7) := zI.ltD (zI.nle c9) (zI.lit (a := 0) (b := 0) (c := 0) (by decide)) hv7 (by decide)
          refine lv_iload_n hx hb dX12_cheapest_47 rfl (lv_at hl 3 rfl) ?_
          refine lv_if_lt (tgt := 60) hx hb dX12_cheapest_48 (by decide) (fun c12 => ?_) (fun c12 => ?_)
          · have hE := zifT c12 hE
            have k13 : zI (-1) (-1) (w22_2) := zI.ltU c12 hw22_2 (zI.lit (a := 0) (b := 0) (c := 0) (by decide)) (by decide)
            exact cut60 v7 r8 hw22_1 k4 k11 ju6 (fw22.tr fu6 rfl) hE H locs ls hw hS (lv_sub hl [1, 2, 5, 0] rfl)
          · have hE := zifF c12 hE
            have k14 : zI 0 5 (w22_2) := zI.leD (zI.nlt c12) (zI.lit (a := 0) (b := 0) (c := 0) (by decide)) hw22_2 (by decide)
            refine lv_iload hx hb dX12_cheapest_51 (lv_at hl 0 rfl) ?_
            refine lv_iload_n hx hb dX12_cheapest_53 rfl (lv_at hl 4 rfl) ?_
            refine lv_icmp_lt (tgt := 60) hx hb dX12_cheapest_54 (by decide) (fun c15 => ?_) (fun c15 => ?_)
            · have hE := zifT c15 hE
              have k16 : zI 1 19 (v7) := zI.ltU c15 k11 hw22_3 (by decide)
              have k17 : zI 2 20 (w22_3) := zI.ltD c15 k11 hw22_3 (by decide)
              exact cut60 v7 r8 hw22_1 k4 (k16.w (c := 1) (d := 20) (by decide)) ju6 (fw22.tr fu6 rfl) hE H locs ls hw hS (lv_sub hl [1, 2, 5, 0] rfl)
            · have hE := zifF c15 hE
              refine lv_goto (tgt := 66) hx hb dX12_cheapest_57 (by decide) ?_
              exact cut66 w22_2 w22_3 r8 hw22_1 (k14.w (c := (-1)) (d := 5) (by decide)) hw22_3 k4 ju6 (fw22.tr fu6 rfl) hE H locs ls hw hS (lv_sub hl [1, 2, 3, 4, 5] rfl)
  intro H locs hw hS ls hl
  have hl : lv_has ls 6 [(0, .ref h0), (1, .int a1)] := hl
  have hE := hX
  unfold Gm_cheapest at hE
  refine lv_aload_n hx hb dX12_cheapest_0 rfl (lv_at hl 0 rfl) ?_
  refine lv_iconst (v := 0) hx hb dX12_cheapest_1 (by decide) ?_
  refine mput (ty := .int) (v := .int 0) hx hb hts hiX12 hown hK hw hS 0 (by decide) lf129 rfl rfl (by decide +kernel) rfl rfl dX12_cheapest_2 (zset r 100 (fun _ => (0 : Int32))) _ mWf0 (fun H locs hw hS => ?_)
  refine mgen (P := fun x => mJ 20 x ∧ zFr [15, 16, 17, 18, 19, 20, 21, 22, 23, 24, 34, 32, 100] r x) hw ⟨hJ0.setc rfl (fun _ => (zI.top _)), (zFr.refl).set rfl⟩ (fun r18 er18 hw pr18 => ?_)
  have hE := zletE er18 hE
  refine lv_aload_n hx hb dX12_cheapest_5 rfl (lv_at hl 0 rfl) ?_
  refine lv_iload_n hx hb dX12_cheapest_6 rfl (lv_at hl 1 rfl) ?_
  refine mcallV (As := [.int a1]) (rest := []) ⟨hx, hb, hml, hown, hts⟩ (mc_isPerson l D ct h0 y 20 a1 r18 q pr18.1) (wqX12_370_mc_isPerson hts ⟨Nat.le_of_ble_eq_true rfl, Nat.le_of_ble_eq_true rfl⟩) hw hS hA hK hN rfl hl.1 rfl (Nat.le_of_ble_eq_true rfl) dX12_cheapest_7 10 rfl (fun u19 H locs pu19 hw hS => ?_)
  have hu19 : zI 0 1 u19 := pu19.1
  have yu19_0 : ¬ u19 = 0 → zI 0 5 a1 := pu19.2.1
  have xu19 : u19 = (Gm_isPerson a1 r18 q) := pu19.2.2.1
  have hE := zletE xu19 hE
  have hw : zPD D A (mW ct h0 y r18 q) H := hw
  refine zfr 10 [.int u19] rfl rfl ?_
  refine lv_if_ne (tgt := 15) hx hb dX12_cheapest_10 (by decide) (fun c21 => ?_) (fun c21 => ?_)
  · have hE := zifnT c21 hE
    have k22 : zI 1 1 (u19) := zI.neD c21 hu19 (zI.lit (a := 0) (b := 0) (c := 0) (by decide)) (by decide)
    refine lv_iconst (v := (-1)) hx hb dX12_cheapest_15 (by decide) ?_
    refine lv_istore_n (lv' := [(2, .int (-1)), (0, .ref h0), (1, .int a1)]) hx hb dX12_cheapest_16 rfl hl (by decide) rfl (fun ls hl => ?_)
    refine lv_iconst (v := 0) hx hb dX12_cheapest_17 (by decide) ?_
    refine lv_istore_n (lv' := [(3, .int 0), (2, .int (-1)), (0, .ref h0), (1, .int a1)]) hx hb dX12_cheapest_18 rfl hl (by decide) rfl (fun ls hl => ?_)
    refine lv_iconst (v := 0) hx hb dX12_cheapest_19 (by decide) ?_
    refine lv_istore (lv' := [(4, .int 0), (3, .int 0), (2, .int (-1)), (0, .ref h0), (1, .int a1)]) hx hb dX12_cheapest_20 hl (by decide) rfl (fun ls hl => ?_)
    exact cut22 7 (-1) 0 0 r18 (yu19_0 c21) ((zI.lit (a := (-1)) (b := (-1)) (c := (-1)) (by decide)).w (c := (-1)) (d := 5) (by decide)) ((zI.lit (a := 0) (b := 0) (c := 0) (by decide)).w (c := 0) (d := 20) (by decide)) ((zI.lit (a := 0) (b := 0) (c := 0) (by decide)).w (c := 0) (d := 6) (by decide)) pr18.1 pr18.2 hE (zI.m0 (zI.lit (a := 0) (b := 0) (c := 0) (by decide)) (by decide)) H locs ls hw hS (lv_sub hl [3, 4, 2, 1, 0] rfl)
  · have hE := zifnF c21 hE
    have k23 : zI 0 0 (u19) := zI.eqq c21 (zI.lit (a := 0) (b := 0) (c := 0) (by decide))
    refine lv_iconst (v := (-1)) hx hb dX12_cheapest_13 (by decide) ?_
    exact ziretQ hQ hx hb hr rfl hlocks ((-1), r18) rfl ⟨((zI.lit (a := (-1)) (b := (-1)) (c := (-1)) (by decide)).w (c := (-1)) (d := 5) (by decide)), pr18.1, pr18.2, (hE.symm.trans hX), trivial⟩ hw hS dX12_cheapest_14

noncomputable def Gm_debt (a1 : Int32) (a2 : Int32) (r : zRr) (q : zRq) : Int32 × zRr :=
  zlet (α := zRr) (zset r 100 (fun _ => (0 : Int32))) <| fun r1 => zlet (α := Int32) ((Gm_isPerson a1 r1 q)) <| fun u2 => zif (u2 = (0 : Int32)) ((((-1) : Int32), r1)) (zlet (α := Int32) ((Gm_isTown a2 r1 q)) <| fun u8 => zif (u8 = (0 : Int32)) ((((-1) : Int32), r1)) (zc_vr (Gm_needOf a1 a2 r1 q) <| fun v15 r16 => zif ((0 : Int32) ≤ v15) (zlet (α := Int32) (r16 1 3) <| fun v19 => zlet (α := Int32) (v15 * v19) <| fun v20 => zlet (α := Int32) (19 + a1) <| fun v21 => zlet (α := Int32) (r16 32 (zn v21)) <| fun v22 => zlet (α := Int32) (v20 - v22) <| fun v23 => zlet (α := Int32) (if 0 < v23 then v23 else 0) <| fun v24 => (v24, r16)) ((((-1) : Int32), r16))))
set_option maxHeartbeats 4000000 in
set_option maxRecDepth 100000 in
theorem mc_debt (l : Launch) (D : va_G) (ct : Nat → ClassId) (h0 : Nat) (y : Nat → Nat) (a1 : Int32) (a2 : Int32) (r : zRr) (q : zRq) (hJ0 : mJ 20 r) : zC l yX12_debt (.code yX12_debt cX12_debt 4 (some .int) :: wsL_law0) ({ frames := 11, cells := 0, slots := 0, locals := 480 }) D ct [] [.ref h0, .int a1, .int a2] (mW ct h0 y r q) (S := Int32 × zRr) (fun u => some (.int u.1)) (fun u => zI (-2147483648) 2147483647 u.1 ∧ mJ 20 u.2 ∧ zFr [15, 16, 17, 18, 19, 20, 21, 22, 23, 24, 34, 32, 100] r u.2 ∧ u = (Gm_debt a1 a2 r q) ∧ True) (fun u => mW ct h0 y u.2 q) 0 0 := by
  refine zofQ cX12_debt 4 (some .int) (by decide) rfl (Nat.le_of_ble_eq_true rfl) ?_
  intro p e s m below meth c A a9 Q ha9 hx hb hr hml hts hown hlocks hname hK hA hZ hN hQ
  have hown : s.vm.findClass RX12 = some m.cls := hown
  have hiX12 : ∀ w ∈ wsX120, w ∈ .code yX12_debt cX12_debt 4 (some .int) :: wsL_law0 := fun _ h => ki (zs_wsX120 _ h)
  have lf13 := hts (.fieldLink RX12 13 "BeardPassModel" "land" "[I") (ki (zr7 20 rfl))
  have lf108 := hts (.fieldLink RX12 108 "BeardPassModel" "s" "[I") (ki (zr9 4 rfl))
  have lf129 := hts (.fieldLink RX12 129 "BeardPassModel" "thrown" "I") (ki (zr10 1 rfl))
  obtain ⟨X, hX⟩ : ∃ X, X = (Gm_debt a1 a2 r q) := ⟨_, rfl⟩
  intro H locs hw hS ls hl
  have hl : lv_has ls 4 [(0, .ref h0), (1, .int a1), (2, .int a2)] := hl
  have hE := hX
  unfold Gm_debt at hE
  refine lv_aload_n hx hb dX12_debt_0 rfl (lv_at hl 0 rfl) ?_
  refine lv_iconst (v := 0) hx hb dX12_debt_1 (by decide) ?_
  refine mput (ty := .int) (v := .int 0) hx hb hts hiX12 hown hK hw hS 0 (by decide) lf129 rfl rfl (by decide +kernel) rfl rfl dX12_debt_2 (zset r 100 (fun _ => (0 : Int32))) _ mWf0 (fun H locs hw hS => ?_)
  refine mgen (P := fun x => mJ 20 x ∧ zFr [15, 16, 17, 18, 19, 20, 21, 22, 23, 24, 34, 32, 100] r x) hw ⟨hJ0.setc rfl (fun _ => (zI.top _)), (zFr.refl).set rfl⟩ (fun r1 er1 hw pr1 => ?_)
  have hE := zletE er1 hE
  refine lv_aload_n hx hb dX12_debt_5 rfl (lv_at hl 0 rfl) ?_
  refine lv_iload_n hx hb dX12_debt_6 rfl (lv_at hl 1 rfl) ?_
  refine mcallV (As := [.int a1]) (rest := []) ⟨hx, hb, hml, hown, hts⟩ (mc_isPerson l D ct h0 y 20 a1 r1 q pr1.1) (wqX12_370_mc_isPerson hts ⟨Nat.le_of_ble_eq_true rfl, Nat.le_of_ble_eq_true rfl⟩) hw hS hA hK hN rfl hl.1 rfl (Nat.le_of_ble_eq_true rfl) dX12_debt_7 10 rfl (fun u2 H locs pu2 hw hS => ?_)
  have hu2 : zI 0 1 u2 := pu2.1
  have yu2_0 : ¬ u2 = 0 → zI 0 5 a1 := pu2.2.1
  have xu2 : u2 = (Gm_isPerson a1 r1 q) := pu2.2.2.1
  have hE := zletE xu2 hE
  have hw : zPD D A (mW ct h0 y r1 q) H := hw
  refine zfr 10 [.int u2] rfl rfl ?_
  refine lv_if_eq (tgt := 30) hx hb dX12_debt_10 (by decide) (fun c4 => ?_) (fun c4 => ?_)
  · have hE := zifT c4 hE
    have k5 : zI 0 0 (u2) := zI.eqq c4 (zI.lit (a := 0) (b := 0) (c := 0) (by decide))
    refine lv_iconst (v := (-1)) hx hb dX12_debt_30 (by decide) ?_
    refine lv_istore_n (lv' := [(3, .int (-1)), (0, .ref h0), (1, .int a1), (2, .int a2)]) hx hb dX12_debt_31 rfl hl (by decide) rfl (fun ls hl => ?_)
    refine lv_iload_n hx hb dX12_debt_32 rfl (lv_at hl 0 rfl) ?_
    refine lv_if_ge (tgt := 40) hx hb dX12_debt_33 (by decide) (fun h => absurd h (by decide)) (fun _ => ?_)
    refine lv_iconst (v := (-1)) hx hb dX12_debt_36 (by decide) ?_
    refine lv_goto (tgt := 62) hx hb dX12_debt_37 (by decide) ?_
    exact ziretQ hQ hx hb hr rfl hlocks ((-1), r1) rfl ⟨(zI.top _), pr1.1, pr1.2, (hE.symm.trans hX), trivial⟩ hw hS dX12_debt_62
  · have hE := zifF c4 hE
    have k7 : zI 1 1 (u2) := zI.neD c4 hu2 (zI.lit (a := 0) (b := 0) (c := 0) (by decide)) (by decide)
    refine lv_aload_n hx hb dX12_debt_13 rfl (lv_at hl 0 rfl) ?_
    refine lv_iload_n hx hb dX12_debt_14 rfl (lv_at hl 2 rfl) ?_
    refine mcallV (As := [.int a2]) (rest := []) ⟨hx, hb, hml, hown, hts⟩ (mc_isTown l D ct h0 y 20 a2 r1 q pr1.1) (wqX12_373_mc_isTown hts ⟨Nat.le_of_ble_eq_true rfl, Nat.le_of_ble_eq_true rfl⟩) hw hS hA hK hN rfl hl.1 rfl (Nat.le_of_ble_eq_true rfl) dX12_debt_15 18 rfl (fun u8 H locs pu8 hw hS => ?_)
    have hu8 : zI 0 1 u8 := pu8.1
    have yu8_0 : ¬ u8 = 0 → zI 0 5 a2 := pu8.2.1
    have xu8 : u8 = (Gm_isTown a2 r1 q) := pu8.2.2.1
    have hE := zletE xu8 hE
    have hw : zPD D A (mW ct h0 y r1 q) H := hw
    refine zfr 18 [.int u8] rfl rfl ?_
    refine lv_if_eq (tgt := 30) hx hb dX12_debt_18 (by decide) (fun c10 => ?_) (fun c10 => ?_)
    · have hE := zifT c10 hE
      have k11 : zI 0 0 (u8) := zI.eqq c10 (zI.lit (a := 0) (b := 0) (c := 0) (by decide))
      refine lv_iconst (v := (-1)) hx hb dX12_debt_30 (by decide) ?_
      refine lv_istore_n (lv' := [(3, .int (-1)), (0, .ref h0), (1, .int a1), (2, .int a2)]) hx hb dX12_debt_31 rfl hl (by decide) rfl (fun ls hl => ?_)
      refine lv_iload_n hx hb dX12_debt_32 rfl (lv_at hl 0 rfl) ?_
      refine lv_if_ge (tgt := 40) hx hb dX12_debt_33 (by decide) (fun h => absurd h (by decide)) (fun _ => ?_)
      refine lv_iconst (v := (-1)) hx hb dX12_debt_36 (by decide) ?_
      refine lv_goto (tgt := 62) hx hb dX12_debt_37 (by decide) ?_
      exact ziretQ hQ hx hb hr rfl hlocks ((-1), r1) rfl ⟨(zI.top _), pr1.1, pr1.2, (hE.symm.trans hX), trivial⟩ hw hS dX12_debt_62
    · have hE := zifF c10 hE
      have k13 : zI 1 1 (u8) := zI.neD c10 hu8 (zI.lit (a := 0) (b := 0) (c := 0) (by decide)) (by decide)
      refine lv_aload_n hx hb dX12_debt_21 rfl (lv_at hl 0 rfl) ?_
      refine lv_iload_n hx hb dX12_debt_22 rfl (lv_at hl 1 rfl) ?_
      refine lv_iload_n hx hb dX12_debt_23 rfl (lv_at hl 2 rfl) ?_
      refine mcallV (As := [.int a1, .int a2]) (rest := []) ⟨hx, hb, hml, hown, hts⟩ (mc_needOf l D ct h0 y a1 a2 r1 q (yu2_0 c4) (yu8_0 c10) pr1.1) (wqX12_432_mc_needOf hts ⟨Nat.le_of_ble_eq_true rfl, Nat.le_of_ble_eq_true rfl⟩) hw hS hA hK hN rfl hl.1 rfl (Nat.le_of_ble_eq_true rfl) dX12_debt_24 27 rfl (fun u14 H locs pu14 hw hS => ?_)
      obtain ⟨v15, r16⟩ := u14
      have hv15 : zI (-1) 20 v15 := pu14.1
      have ju14 : mJ 20 r16 := pu14.2.1
      have fu14 : zFr [15, 16, 17, 18, 19, 20, 21, 22, 23, 24, 34, 32] r1 r16 := pu14.2.2.1
      have xu14 : (v15, r16) = (Gm_needOf a1 a2 r1 q) := pu14.2.2.2.1
      have hE := zc_vrE xu14 hE
      have hw : zPD D A (mW ct h0 y r16 q) H := hw
      refine zfr 27 [.int v15] rfl rfl ?_
      refine lv_goto (tgt := 31) hx hb dX12_debt_27 (by decide) ?_
      refine lv_istore_n (lv' := [(3, .int v15), (0, .ref h0), (1, .int a1), (2, .int a2)]) hx hb dX12_debt_31 rfl hl (by decide) rfl (fun ls hl => ?_)
      refine lv_iload_n hx hb dX12_debt_32 rfl (lv_at hl 0 rfl) ?_
      refine lv_if_ge (tgt := 40) hx hb dX12_debt_33 (by decide) (fun c17 => ?_) (fun c17 => ?_)
      · have hE := zifT c17 hE
        have k18 : zI 0 20 (v15) := zI.leD c17 (zI.lit (a := 0) (b := 0) (c := 0) (by decide)) hv15 (by decide)
        refine lv_iconst (v := 0) hx hb dX12_debt_40 (by decide) ?_
        refine lv_iload_n hx hb dX12_debt_41 rfl (lv_at hl 0 rfl) ?_
        refine lv_aload_n hx hb dX12_debt_42 rfl (lv_at hl 1 rfl) ?_
        refine mget (v := .ref (y 1)) hx hb hts hiX12 hown hK hw 10 (by decide) lf13 rfl rfl dX12_debt_43 ?_
        refine lv_iconst (v := 3) hx hb dX12_debt_46 (by decide) ?_
        refine ziald hx hb hK hw 2 mWg1 3 (by decide) (by decide) (by decide) dX12_debt_47 (zgenE (zI.top _) (fun v19 ev19 _ => ?_))
        have hE := zletE ev19 hE
        refine lv_imul hx hb dX12_debt_48 (zgenE (zI.top _) (fun v20 ev20 _ => ?_))
        have hE := zletE ev20 hE
        refine lv_aload_n hx hb dX12_debt_49 rfl (lv_at hl 1 rfl) ?_
        refine mget (v := .ref (y 32)) hx hb hts hiX12 hown hK hw 45 (by decide) lf108 rfl rfl dX12_debt_50 ?_
        refine lv_bipush (v := 19) hx hb dX12_debt_53 (by decide) ?_
        refine lv_iload_n hx hb dX12_debt_55 rfl (lv_at hl 2 rfl) ?_
        refine lv_iadd hx hb dX12_debt_56 (zgenE (lo := 19) (hi := 24) (zI.add (zI.lit (a := 19) (b := 19) (c := 19) (by decide)) (yu2_0 c4) (by decide)) (fun v21 ev21 hv21 => ?_))
        have hE := zletE ev21 hE
        refine miald hx hb hK hw 33 mWg32 hv21 (by decide) dX12_debt_57 (zgenE (zI.top _) (fun v22 ev22 _ => ?_))
        have hE := zletE ev22 hE
        refine lv_isub hx hb dX12_debt_58 (zgenE (zI.top _) (fun v23 ev23 _ => ?_))
        have hE := zletE ev23 hE
        refine va_mmax hx hb (hml.trans hl.1.symm) hown (hts (.methodLink RX12 404 Lib.Math.max.name) (ki (zr41 20 rfl))) (hts (.static Lib.Math.max.name) (ki (zr40 8 rfl))) (hts (.initialized "java/lang/Math") (ki (zr35 18 rfl))) (hts (.code Lib.Math.max.name Lib.Math.max.code 2 (some .int)) (ki (zr40 9 rfl))) (Nat.le_of_ble_eq_true rfl) (Nat.le_of_ble_eq_true rfl) (Nat.le_of_ble_eq_true rfl) (Nat.le_of_ble_eq_true rfl) dX12_debt_59 (zgenE (zI.top _) (fun v24 ev24 _ => ?_))
        have hE := zletE ev24 hE
        exact ziretQ hQ hx hb hr rfl hlocks (v24, r16) rfl ⟨(zI.top _), ju14, (pr1.2.tr fu14 rfl), (hE.symm.trans hX), trivial⟩ hw hS dX12_debt_62
      · have hE := zifF c17 hE
        have k25 : zI (-1) (-1) (v15) := zI.ltU (zI.nle c17) hv15 (zI.lit (a := 0) (b := 0) (c := 0) (by decide)) (by decide)
        refine lv_iconst (v := (-1)) hx hb dX12_debt_36 (by decide) ?_
        refine lv_goto (tgt := 62) hx hb dX12_debt_37 (by decide) ?_
        exact ziretQ hQ hx hb hr rfl hlocks ((-1), r16) rfl ⟨(zI.top _), ju14, (pr1.2.tr fu14 rfl), (hE.symm.trans hX), trivial⟩ hw hS dX12_debt_62

noncomputable def Gm_shaven (a1 : Int32) (r : zRr) (q : zRq) : Int32 × zRr :=
  zlet (α := zRr) (zset r 100 (fun _ => (0 : Int32))) <| fun r1 => zlet (α := Int32) ((Gm_isPerson a1 r1 q)) <| fun u2 => zifn (u2 = (0 : Int32)) (zlet (α := zRr) (zset r1 34 (zcp (r1 32) (r1 34) (0) (0) 31)) <| fun r6 => zlet (α := zRr) ((Gm_shaves a1 r6 q)) <| fun u7 => zlet (α := Int32) (1 + a1) <| fun v9 => zlet (α := Int32) (u7 32 (zn v9)) <| fun v10 => zlet (α := Int32) (1 <<< (v10 &&& 31)) <| fun v11 => zc_vr (Gm_reachFrom a1 v11 u7 q) <| fun v13 r14 => zlet (α := zRr) (zset r14 32 (zcp (r14 34) (r14 32) (0) (0) 31)) <| fun r15 => (v13, r15)) ((((-1) : Int32), r1))
set_option maxHeartbeats 4000000 in
set_option maxRecDepth 100000 in
theorem mc_shaven (l : Launch) (D : va_G) (ct : Nat → ClassId) (h0 : Nat) (y : Nat → Nat) (a1 : Int32) (r : zRr) (q : zRq) (hJ0 : mJ 20 r) : zC l yX12_shaven (.code yX12_shaven cX12_shaven 3 (some .int) :: wsL_law0) ({ frames := 10, cells := 0, slots := 0, locals := 440 }) D ct [] [.ref h0, .int a1] (mW ct h0 y r q) (S := Int32 × zRr) (fun u => some (.int u.1)) (fun u => zI (-1) 63 u.1 ∧ mJ 20 u.2 ∧ zFr [15, 16, 17, 18, 19, 20, 21, 22, 23, 24, 34, 32, 100] r u.2 ∧ u = (Gm_shaven a1 r q) ∧ True) (fun u => mW ct h0 y u.2 q) 0 0 := by
  refine zofQ cX12_shaven 3 (some .int) (by decide) rfl (Nat.le_of_ble_eq_true rfl) ?_
  intro p e s m below meth c A a9 Q ha9 hx hb hr hml hts hown hlocks hname hK hA hZ hN hQ
  have hown : s.vm.findClass RX12 = some m.cls := hown
  have hiX12 : ∀ w ∈ wsX120, w ∈ .code yX12_shaven cX12_shaven 3 (some .int) :: wsL_law0 := fun _ h => ki (zs_wsX120 _ h)
  have lf108 := hts (.fieldLink RX12 108 "BeardPassModel" "s" "[I") (ki (zr9 4 rfl))
  have lf114 := hts (.fieldLink RX12 114 "BeardPassModel" "before" "[I") (ki (zr9 6 rfl))
  have lf129 := hts (.fieldLink RX12 129 "BeardPassModel" "thrown" "I") (ki (zr10 1 rfl))
  obtain ⟨X, hX⟩ : ∃ X, X = (Gm_shaven a1 r q) := ⟨_, rfl⟩
  intro H locs hw hS ls hl
  have hl : lv_has ls 3 [(0, .ref h0), (1, .int a1)] := hl
  have hE := hX
  unfold Gm_shaven at hE
  refine lv_aload_n hx hb dX12_shaven_0 rfl (lv_at hl 0 rfl) ?_
  refine lv_iconst (v := 0) hx hb dX12_shaven_1 (by decide) ?_
  refine mput (ty := .int) (v := .int 0) hx hb hts hiX12 hown hK hw hS 0 (by decide) lf129 rfl rfl (by decide +kernel) rfl rfl dX12_shaven_2 (zset r 100 (fun _ => (0 : Int32))) _ mWf0 (fun H locs hw hS => ?_)
  refine mgen (P := fun x => mJ 20 x ∧ zFr [15, 16, 17, 18, 19, 20, 21, 22, 23, 24, 34, 32, 100] r x) hw ⟨hJ0.setc rfl (fun _ => (zI.top _)), (zFr.refl).set rfl⟩ (fun r1 er1 hw pr1 => ?_)
  have hE := zletE er1 hE
  refine lv_aload_n hx hb dX12_shaven_5 rfl (lv_at hl 0 rfl) ?_
  refine lv_iload_n hx hb dX12_shaven_6 rfl (lv_at hl 1 rfl) ?_
  refine mcallV (As := [.int a1]) (rest := []) ⟨hx, hb, hml, hown, hts⟩ (mc_isPerson l D ct h0 y 20 a1 r1 q pr1.1) (wqX12_370_mc_isPerson hts ⟨Nat.le_of_ble_eq_true rfl, Nat.le_of_ble_eq_true rfl⟩) hw hS hA hK hN rfl hl.1 rfl (Nat.le_of_ble_eq_true rfl) dX12_shaven_7 10 rfl (fun u2 H locs pu2 hw hS => ?_)
  have hu2 : zI 0 1 u2 := pu2.1
  have yu2_0 : ¬ u2 = 0 → zI 0 5 a1 := pu2.2.1
  have xu2 : u2 = (Gm_isPerson a1 r1 q) := pu2.2.2.1
  have hE := zletE xu2 hE
  have hw : zPD D A (mW ct h0 y r1 q) H := hw
  refine zfr 10 [.int u2] rfl rfl ?_
  refine lv_if_ne (tgt := 15) hx hb dX12_shaven_10 (by decide) (fun c4 => ?_) (fun c4 => ?_)
  · have hE := zifnT c4 hE
    have k5 : zI 1 1 (u2) := zI.neD c4 hu2 (zI.lit (a := 0) (b := 0) (c := 0) (by decide)) (by decide)
    refine lv_aload_n hx hb dX12_shaven_15 rfl (lv_at hl 0 rfl) ?_
    refine mget (v := .ref (y 32)) hx hb hts hiX12 hown hK hw 45 (by decide) lf108 rfl rfl dX12_shaven_16 ?_
    refine lv_iconst (v := 0) hx hb dX12_shaven_19 (by decide) ?_
    refine lv_aload_n hx hb dX12_shaven_20 rfl (lv_at hl 0 rfl) ?_
    refine mget (v := .ref (y 34)) hx hb hts hiX12 hown hK hw 47 (by decide) lf114 rfl rfl dX12_shaven_21 ?_
    refine lv_iconst (v := 0) hx hb dX12_shaven_24 (by decide) ?_
    refine mcp2 33 35 (As := [.ref (y 32), .int 0, .ref (y 34), .int 0]) (rest := []) ⟨hx, hb, hml, hown, hts⟩ (c_copies l D ct (y 32) (0) (y 34) (0) 31 31 (r1 32) (r1 34) (by decide) (by decide) (by decide) (by decide)) (va_cwS 4 hts (kgSm (zr36 17 rfl) (zr36 18 rfl) (zr1 5 rfl) mL_X12_copies) rfl rfl rfl (by decide +kernel) ⟨Nat.le_of_ble_eq_true rfl, Nat.le_of_ble_eq_true rfl⟩) hw hS hA hK hN mWg32 mWg34 rfl rfl (by decide) rfl hl.1 rfl (Nat.le_of_ble_eq_true rfl) dX12_shaven_25 mWs34 (fun _ H locs _ hw hS => ?_)
    have hw : zPD D A (mW ct h0 y (zset r1 34 (zcp (r1 32) (r1 34) (0) (0) 31)) q) H := hw
    refine zfr 28 [] rfl rfl ?_
    refine mgen (P := fun x => mJ 20 x ∧ zFr [15, 16, 17, 18, 19, 20, 21, 22, 23, 24, 34, 32, 100] r x) hw ⟨mcp_o pr1.1 (Or.inl ⟨Or.inr rfl, rfl⟩) rfl, pr1.2.set rfl⟩ (fun r6 er6 hw pr6 => ?_)
    have hE := zletE er6 hE
    refine lv_aload_n hx hb dX12_shaven_28 rfl (lv_at hl 0 rfl) ?_
    refine lv_iload_n hx hb dX12_shaven_29 rfl (lv_at hl 1 rfl) ?_
    refine mcallV (As := [.int a1]) (rest := []) ⟨hx, hb, hml, hown, hts⟩ (mc_shaves l D ct h0 y 20 a1 r6 q (yu2_0 c4) pr6.1) (wqX12_398_mc_shaves hts ⟨Nat.le_of_ble_eq_true rfl, Nat.le_of_ble_eq_true rfl⟩) hw hS hA hK hN rfl hl.1 rfl (Nat.le_of_ble_eq_true rfl) dX12_shaven_30 33 rfl (fun u7 H locs pu7 hw hS => ?_)
    have ju7 : mJ 20 u7 := pu7.1
    have fu7 : zFr [32] r6 u7 := pu7.2.1
    have xu7 : u7 = (Gm_shaves a1 r6 q) := pu7.2.2.1
    have hE := zletE xu7 hE
    have hw : zPD D A (mW ct h0 y u7 q) H := hw
    refine zfr 33 [] rfl rfl ?_
    refine lv_aload_n hx hb dX12_shaven_33 rfl (lv_at hl 0 rfl) ?_
    refine lv_iload_n hx hb dX12_shaven_34 rfl (lv_at hl 1 rfl) ?_
    refine lv_iconst (v := 1) hx hb dX12_shaven_35 (by decide) ?_
    refine lv_aload_n hx hb dX12_shaven_36 rfl (lv_at hl 0 rfl) ?_
    refine mget (v := .ref (y 32)) hx hb hts hiX12 hown hK hw 45 (by decide) lf108 rfl rfl dX12_shaven_37 ?_
    refine lv_iconst (v := 1) hx hb dX12_shaven_40 (by decide) ?_
    refine lv_iload_n hx hb dX12_shaven_41 rfl (lv_at hl 1 rfl) ?_
    refine lv_iadd hx hb dX12_shaven_42 (zgenE (lo := 1) (hi := 6) (zI.add (zI.lit (a := 1) (b := 1) (c := 1) (by decide)) (yu2_0 c4) (by decide)) (fun v9 ev9 hv9 => ?_))
    have hE := zletE ev9 hE
    refine miald hx hb hK hw 33 mWg32 hv9 (by decide) dX12_shaven_43 (zgenE (lo := 0) (hi := 5) ((ms_1 ju7 hv9)) (fun v10 ev10 hv10 => ?_))
    have hE := zletE ev10 hE
    refine lv_ishl hx hb dX12_shaven_44 (zgenE (lo := 1) (hi := 32) (zI.shl hv10 5 (by decide)) (fun v11 ev11 hv11 => ?_))
    have hE := zletE ev11 hE
    refine mcallV (As := [.int a1, .int v11]) (rest := []) ⟨hx, hb, hml, hown, hts⟩ (mc_reachFrom l D ct h0 y 20 a1 v11 u7 q (yu2_0 c4) (hv11.w (c := 0) (d := 63) (by decide)) ju7) (wqX12_419_mc_reachFrom hts ⟨Nat.le_of_ble_eq_true rfl, Nat.le_of_ble_eq_true rfl⟩) hw hS hA hK hN rfl hl.1 rfl (Nat.le_of_ble_eq_true rfl) dX12_shaven_45 48 rfl (fun u12 H locs pu12 hw hS => ?_)
    obtain ⟨v13, r14⟩ := u12
    have hv13 : zI 0 63 v13 := pu12.1
    have ju12 : mJ 20 r14 := pu12.2.1
    have fu12 : zFr [15, 16, 17, 18, 19, 20, 21, 22, 23, 24] u7 r14 := pu12.2.2.1
    have xu12 : (v13, r14) = (Gm_reachFrom a1 v11 u7 q) := pu12.2.2.2.1
    have hE := zc_vrE xu12 hE
    have hw : zPD D A (mW ct h0 y r14 q) H := hw
    refine zfr 48 [.int v13] rfl rfl ?_
    refine lv_istore_n (lv' := [(2, .int v13), (0, .ref h0), (1, .int a1)]) hx hb dX12_shaven_48 rfl hl (by decide) rfl (fun ls hl => ?_)
    refine lv_aload_n hx hb dX12_shaven_49 rfl (lv_at hl 1 rfl) ?_
    refine mget (v := .ref (y 34)) hx hb hts hiX12 hown hK hw 47 (by decide) lf114 rfl rfl dX12_shaven_50 ?_
    refine lv_iconst (v := 0) hx hb dX12_shaven_53 (by decide) ?_
    refine lv_aload_n hx hb dX12_shaven_54 rfl (lv_at hl 1 rfl) ?_
    refine mget (v := .ref (y 32)) hx hb hts hiX12 hown hK hw 45 (by decide) lf108 rfl rfl dX12_shaven_55 ?_
    refine lv_iconst (v := 0) hx hb dX12_shaven_58 (by decide) ?_
    refine mcp2 35 33 (As := [.ref (y 34), .int 0, .ref (y 32), .int 0]) (rest := []) ⟨hx, hb, hml, hown, hts⟩ (c_copies l D ct (y 34) (0) (y 32) (0) 31 31 (r14 34) (r14 32) (by decide) (by decide) (by decide) (by decide)) (va_cwS 4 hts (kgSm (zr36 17 rfl) (zr36 18 rfl) (zr1 5 rfl) mL_X12_copies) rfl rfl rfl (by decide +kernel) ⟨Nat.le_of_ble_eq_true rfl, Nat.le_of_ble_eq_true rfl⟩) hw hS hA hK hN mWg34 mWg32 rfl rfl (by decide) rfl hl.1 rfl (Nat.le_of_ble_eq_true rfl) dX12_shaven_59 mWs32 (fun _ H locs _ hw hS => ?_)
    have hw : zPD D A (mW ct h0 y (zset r14 32 (zcp (r14 34) (r14 32) (0) (0) 31)) q) H := hw
    refine zfr 62 [] rfl rfl ?_
    refine mgen (P := fun x => mJ 20 x ∧ zFr [15, 16, 17, 18, 19, 20, 21, 22, 23, 24, 34, 32, 100] r x) hw ⟨mcp_s ju12 (Or.inl ⟨Or.inr rfl, rfl⟩), ((pr6.2.tr fu7 rfl).tr fu12 rfl).set rfl⟩ (fun r15 er15 hw pr15 => ?_)
    have hE := zletE er15 hE
    refine lv_iload_n hx hb dX12_shaven_62 rfl (lv_at hl 0 rfl) ?_
    exact ziretQ hQ hx hb hr rfl hlocks (v13, r15) rfl ⟨(hv13.w (c := (-1)) (d := 63) (by decide)), pr15.1, pr15.2, (hE.symm.trans hX), trivial⟩ hw hS dX12_shaven_63
  · have hE := zifnF c4 hE
    have k16 : zI 0 0 (u2) := zI.eqq c4 (zI.lit (a := 0) (b := 0) (c := 0) (by decide))
    refine lv_iconst (v := (-1)) hx hb dX12_shaven_13 (by decide) ?_
    exact ziretQ hQ hx hb hr rfl hlocks ((-1), r1) rfl ⟨((zI.lit (a := (-1)) (b := (-1)) (c := (-1)) (by decide)).w (c := (-1)) (d := 63) (by decide)), pr1.1, pr1.2, (hE.symm.trans hX), trivial⟩ hw hS dX12_shaven_14

noncomputable def Bm_meetsAt_4 (a1 : Int32) (q : zRq) (ih4 : Int32 → Int32 → zRr → (Int32 × zRr)) (w4_2 : Int32) (w4_3 : Int32) (rw4 : zRr) : Int32 × zRr :=
  zlet (α := Int32) (rw4 1 1) <| fun v1 => zif (v1 ≤ w4_3) ((w4_2, rw4)) (zc_vr (Gm_whenAt w4_3 a1 rw4 q) <| fun v6 r7 => zif ((0 : Int32) ≤ v6) (zlet (α := Int32) (if w4_2 < v6 then v6 else w4_2) <| fun v10 => ih4 v10 (w4_3 + 1) r7) ((((-1) : Int32), r7)))
noncomputable def Gm_meetsAt_4 (a1 : Int32) (q : zRq) (n : Nat) : Int32 → Int32 → zRr → (Int32 × zRr) :=
  Nat.rec (motive := fun _ => Int32 → Int32 → zRr → (Int32 × zRr)) (fun _ _ rw4 => (default, rw4)) (fun _ ih => Bm_meetsAt_4 a1 q ih) n
noncomputable def Gm_meetsAt (a1 : Int32) (r : zRr) (q : zRq) : Int32 × zRr :=
  Gm_meetsAt_4 a1 q 7 0 0 r
set_option maxHeartbeats 4000000 in
set_option maxRecDepth 100000 in
theorem mc_meetsAt (l : Launch) (D : va_G) (ct : Nat → ClassId) (h0 : Nat) (y : Nat → Nat) (a1 : Int32) (r : zRr) (q : zRq) (g1 : zI 0 5 a1) (hJ0 : mJ 20 r) : zC l yX12_meetsAt (.code yX12_meetsAt cX12_meetsAt 5 (some .int) :: wsL_law0) ({ frames := 11, cells := 0, slots := 0, locals := 480 }) D ct [] [.ref h0, .int a1] (mW ct h0 y r q) (S := Int32 × zRr) (fun u => some (.int u.1)) (fun u => zI (-1) 99 u.1 ∧ mJ 20 u.2 ∧ zFr [15, 16, 17, 18, 19, 20, 21, 22, 23, 24, 34, 32] r u.2 ∧ u = (Gm_meetsAt a1 r q) ∧ True) (fun u => mW ct h0 y u.2 q) 0 0 := by
  refine zofQ cX12_meetsAt 5 (some .int) (by decide) rfl (Nat.le_of_ble_eq_true rfl) ?_
  intro p e s m below meth c A a9 Q ha9 hx hb hr hml hts hown hlocks hname hK hA hZ hN hQ
  have hown : s.vm.findClass RX12 = some m.cls := hown
  have hiX12 : ∀ w ∈ wsX120, w ∈ .code yX12_meetsAt cX12_meetsAt 5 (some .int) :: wsL_law0 := fun _ h => ki (zs_wsX120 _ h)
  have lf13 := hts (.fieldLink RX12 13 "BeardPassModel" "land" "[I") (ki (zr7 20 rfl))
  obtain ⟨X, hX⟩ : ∃ X, X = (Gm_meetsAt a1 r q) := ⟨_, rfl⟩
  have cut4 : ∀ (n4 : Nat) (w4_2 : Int32) (w4_3 : Int32) (rw4 : zRr) (hw4_1 : zI 0 5 a1) (hw4_2 : zI 0 99 w4_2) (hw4_3 : zI 0 6 w4_3) (jw4 : mJ 20 rw4) (fw4 : zFr [15, 16, 17, 18, 19, 20, 21, 22, 23, 24, 34, 32] r rw4) (hE : X = Gm_meetsAt_4 a1 q n4 w4_2 w4_3 rw4), 6 - w4_3.toInt < (n4 : Int) → zKf p l e ({ frames := 11, cells := 0, slots := 0, locals := 480 }) s m a9 below meth c Q D A 4 5 [] (mW ct h0 y rw4 q) [(0, .ref h0), (1, .int a1), (2, .int w4_2), (3, .int w4_3)] := by
    intro n4
    induction n4 with
    | zero => intro w4_2 w4_3 rw4 hw4_1 hw4_2 hw4_3 jw4 fw4 hE hm4; exact zI.no hw4_3 (by decide) hm4
    | succ n4 ih4 =>
      intro w4_2 w4_3 rw4 hw4_1 hw4_2 hw4_3 jw4 fw4 hE hm4
      have hE : X = Bm_meetsAt_4 a1 q (Gm_meetsAt_4 a1 q n4) w4_2 w4_3 rw4 := hE
      unfold Bm_meetsAt_4 at hE
      intro H locs ls hw hS hl
      refine lv_iload_n hx hb dX12_meetsAt_4 rfl (lv_at hl 3 rfl) ?_
      refine lv_aload_n hx hb dX12_meetsAt_5 rfl (lv_at hl 0 rfl) ?_
      refine mget (v := .ref (y 1)) hx hb hts hiX12 hown hK hw 10 (by decide) lf13 rfl rfl dX12_meetsAt_6 ?_
      refine lv_iconst (v := 1) hx hb dX12_meetsAt_9 (by decide) ?_
      refine ziald hx hb hK hw 2 mWg1 1 (by decide) (by decide) (by decide) dX12_meetsAt_10 (zgenE (lo := 0) (hi := 6) ((show zI 0 6 (rw4 1 1) from jw4.i 1 1)) (fun v1 ev1 hv1 => ?_))
      have hE := zletE ev1 hE
      refine lv_icmp_ge (tgt := 42) hx hb dX12_meetsAt_11 (by decide) (fun c2 => ?_) (fun c2 => ?_)
      · have hE := zifT c2 hE
        refine lv_iload_n hx hb dX12_meetsAt_42 rfl (lv_at hl 2 rfl) ?_
        exact ziretQ hQ hx hb hr rfl hlocks (w4_2, rw4) rfl ⟨(hw4_2.w (c := (-1)) (d := 99) (by decide)), jw4, fw4, (hE.symm.trans hX), trivial⟩ hw hS dX12_meetsAt_43
      · have hE := zifF c2 hE
        have k3 : zI 0 5 (w4_3) := zI.ltU (zI.nle c2) hw4_3 hv1 (by decide)
        have k4 : zI 1 6 (v1) := zI.ltD (zI.nle c2) hw4_3 hv1 (by decide)
        refine lv_aload_n hx hb dX12_meetsAt_14 rfl (lv_at hl 0 rfl) ?_
        refine lv_iload_n hx hb dX12_meetsAt_15 rfl (lv_at hl 3 rfl) ?_
        refine lv_iload_n hx hb dX12_meetsAt_16 rfl (lv_at hl 1 rfl) ?_
        refine mcallV (As := [.int w4_3, .int a1]) (rest := []) ⟨hx, hb, hml, hown, hts⟩ (mc_whenAt l D ct h0 y w4_3 a1 rw4 q k3 hw4_1 jw4) (wqX12_426_mc_whenAt hts ⟨Nat.le_of_ble_eq_true rfl, Nat.le_of_ble_eq_true rfl⟩) hw hS hA hK hN rfl hl.1 rfl (Nat.le_of_ble_eq_true rfl) dX12_meetsAt_17 20 rfl (fun u5 H locs pu5 hw hS => ?_)
        obtain ⟨v6, r7⟩ := u5
        have hv6 : zI (-1) 99 v6 := pu5.1
        have ju5 : mJ 20 r7 := pu5.2.1
        have fu5 : zFr [15, 16, 17, 18, 19, 20, 21, 22, 23, 24, 34, 32] rw4 r7 := pu5.2.2.1
        have xu5 : (v6, r7) = (Gm_whenAt w4_3 a1 rw4 q) := pu5.2.2.2.1
        have hE := zc_vrE xu5 hE
        have hw : zPD D A (mW ct h0 y r7 q) H := hw
        refine zfr 20 [.int v6] rfl rfl ?_
        refine lv_istore (lv' := [(4, .int v6), (0, .ref h0), (1, .int a1), (2, .int w4_2), (3, .int w4_3)]) hx hb dX12_meetsAt_20 hl (by decide) rfl (fun ls hl => ?_)
        refine lv_iload hx hb dX12_meetsAt_22 (lv_at hl 0 rfl) ?_
        refine lv_if_ge (tgt := 29) hx hb dX12_meetsAt_24 (by decide) (fun c8 => ?_) (fun c8 => ?_)
        · have hE := zifT c8 hE
          have k9 : zI 0 99 (v6) := zI.leD c8 (zI.lit (a := 0) (b := 0) (c := 0) (by decide)) hv6 (by decide)
          refine lv_iload_n hx hb dX12_meetsAt_29 rfl (lv_at hl 3 rfl) ?_
          refine lv_iload hx hb dX12_meetsAt_30 (lv_at hl 0 rfl) ?_
          refine va_mmax hx hb (hml.trans hl.1.symm) hown (hts (.methodLink RX12 404 Lib.Math.max.name) (ki (zr41 20 rfl))) (hts (.static Lib.Math.max.name) (ki (zr40 8 rfl))) (hts (.initialized "java/lang/Math") (ki (zr35 18 rfl))) (hts (.code Lib.Math.max.name Lib.Math.max.code 2 (some .int)) (ki (zr40 9 rfl))) (Nat.le_of_ble_eq_true rfl) (Nat.le_of_ble_eq_true rfl) (Nat.le_of_ble_eq_true rfl) (Nat.le_of_ble_eq_true rfl) dX12_meetsAt_32 (zgenE (lo := 0) (hi := 99) (zI.ite k9 hw4_2) (fun v10 ev10 hv10 => ?_))
          have hE := zletE ev10 hE
          refine lv_istore_n (lv' := [(2, .int v10), (4, .int v6), (0, .ref h0), (1, .int a1), (3, .int w4_3)]) hx hb dX12_meetsAt_35 rfl hl (by decide) rfl (fun ls hl => ?_)
          refine lv_iinc (v := w4_3 + 1) (lv' := [(3, .int (w4_3 + 1)), (2, .int v10), (4, .int v6), (0, .ref h0), (1, .int a1)]) hx hb dX12_meetsAt_36 hl (k := 4) rfl (rfl) (by decide) rfl (fun ls hl => ?_)
          have k11 : zI 1 6 (w4_3 + 1) := zI.add k3 (zI.lit (a := 1) (b := 1) (by decide)) (by decide)
          refine lv_goto (tgt := 4) hx hb dX12_meetsAt_39 (by decide) ?_
          exact ih4 v10 (w4_3 + 1) r7 hw4_1 hv10 (k11.w (c := 0) (d := 6) (by decide)) ju5 (fw4.tr fu5 rfl) hE (zI.up k3 (by decide) hm4) H locs ls hw hS (lv_sub hl [3, 4, 1, 0] rfl)
        · have hE := zifF c8 hE
          have k12 : zI (-1) (-1) (v6) := zI.ltU (zI.nle c8) hv6 (zI.lit (a := 0) (b := 0) (c := 0) (by decide)) (by decide)
          refine lv_iconst (v := (-1)) hx hb dX12_meetsAt_27 (by decide) ?_
          exact ziretQ hQ hx hb hr rfl hlocks ((-1), r7) rfl ⟨((zI.lit (a := (-1)) (b := (-1)) (c := (-1)) (by decide)).w (c := (-1)) (d := 99) (by decide)), ju5, (fw4.tr fu5 rfl), (hE.symm.trans hX), trivial⟩ hw hS dX12_meetsAt_28
  intro H locs hw hS ls hl
  have hl : lv_has ls 5 [(0, .ref h0), (1, .int a1)] := hl
  have hE := hX
  unfold Gm_meetsAt at hE
  refine lv_iconst (v := 0) hx hb dX12_meetsAt_0 (by decide) ?_
  refine lv_istore_n (lv' := [(2, .int 0), (0, .ref h0), (1, .int a1)]) hx hb dX12_meetsAt_1 rfl hl (by decide) rfl (fun ls hl => ?_)
  refine lv_iconst (v := 0) hx hb dX12_meetsAt_2 (by decide) ?_
  refine lv_istore_n (lv' := [(3, .int 0), (2, .int 0), (0, .ref h0), (1, .int a1)]) hx hb dX12_meetsAt_3 rfl hl (by decide) rfl (fun ls hl => ?_)
  exact cut4 7 0 0 r g1 ((zI.lit (a := 0) (b := 0) (c := 0) (by decide)).w (c := 0) (d := 99) (by decide)) ((zI.lit (a := 0) (b := 0) (c := 0) (by decide)).w (c := 0) (d := 6) (by decide)) hJ0 (zFr.refl) hE (zI.m0 (zI.lit (a := 0) (b := 0) (c := 0) (by decide)) (by decide)) H locs ls hw hS (lv_sub hl [2, 3, 1, 0] rfl)

noncomputable def Gm_meeting_66 (w23_4 : Int32) (ih23 : Int32 → Int32 → Int32 → zRr → (Int32 × zRr)) (w66_2 : Int32) (w66_3 : Int32) (rw66 : zRr) : Int32 × zRr :=
  ih23 w66_2 w66_3 (w23_4 + 1) rw66
noncomputable def Gm_meeting_60 (w23_4 : Int32) (ih23 : Int32 → Int32 → Int32 → zRr → (Int32 × zRr)) (w60_5 : Int32) (rw60 : zRr) : Int32 × zRr :=
  Gm_meeting_66 w23_4 ih23 w23_4 w60_5 rw60
noncomputable def Bm_meeting_23 (a1 : Int32) (q : zRq) (ih23 : Int32 → Int32 → Int32 → zRr → (Int32 × zRr)) (w23_2 : Int32) (w23_3 : Int32) (w23_4 : Int32) (rw23 : zRr) : Int32 × zRr :=
  zlet (α := Int32) (rw23 1 0) <| fun v2 => zif (v2 ≤ w23_4) (zifn (a1 = (0 : Int32)) ((w23_2, rw23)) ((w23_3, rw23))) (zc_vr (Gm_meetsAt w23_4 rw23 q) <| fun v10 r11 => zif (v10 < (0 : Int32)) (Gm_meeting_66 w23_4 ih23 w23_2 w23_3 r11) (zif (w23_2 < (0 : Int32)) (Gm_meeting_60 w23_4 ih23 v10 r11) (zif (v10 < w23_3) (Gm_meeting_60 w23_4 ih23 v10 r11) (Gm_meeting_66 w23_4 ih23 w23_2 w23_3 r11))))
noncomputable def Gm_meeting_23 (a1 : Int32) (q : zRq) (n : Nat) : Int32 → Int32 → Int32 → zRr → (Int32 × zRr) :=
  Nat.rec (motive := fun _ => Int32 → Int32 → Int32 → zRr → (Int32 × zRr)) (fun _ _ _ rw23 => (default, rw23)) (fun _ ih => Bm_meeting_23 a1 q ih) n
noncomputable def Gm_meeting (a1 : Int32) (r : zRr) (q : zRq) : Int32 × zRr :=
  zlet (α := zRr) (zset r 100 (fun _ => (0 : Int32))) <| fun r21 => zlet (α := Int32) ((Gm_within a1 (0 : Int32) (1 : Int32))) <| fun u22 => zifn (u22 = (0 : Int32)) (Gm_meeting_23 a1 q 7 (-1) (-1) 0 r21) ((((-1) : Int32), r21))
set_option maxHeartbeats 4000000 in
set_option maxRecDepth 100000 in
theorem mc_meeting (l : Launch) (D : va_G) (ct : Nat → ClassId) (h0 : Nat) (y : Nat → Nat) (a1 : Int32) (r : zRr) (q : zRq) (hJ0 : mJ 20 r) : zC l yX12_meeting (.code yX12_meeting cX12_meeting 6 (some .int) :: wsL_law0) ({ frames := 12, cells := 0, slots := 0, locals := 520 }) D ct [] [.ref h0, .int a1] (mW ct h0 y r q) (S := Int32 × zRr) (fun u => some (.int u.1)) (fun u => zI (-2147483648) 2147483647 u.1 ∧ mJ 20 u.2 ∧ zFr [15, 16, 17, 18, 19, 20, 21, 22, 23, 24, 34, 32, 100] r u.2 ∧ u = (Gm_meeting a1 r q) ∧ True) (fun u => mW ct h0 y u.2 q) 0 0 := by
  refine zofQ cX12_meeting 6 (some .int) (by decide) rfl (Nat.le_of_ble_eq_true rfl) ?_
  intro p e s m below meth c A a9 Q ha9 hx hb hr hml hts hown hlocks hname hK hA hZ hN hQ
  have hown : s.vm.findClass RX12 = some m.cls := hown
  have hiX12 : ∀ w ∈ wsX120, w ∈ .code yX12_meeting cX12_meeting 6 (some .int) :: wsL_law0 := fun _ h => ki (zs_wsX120 _ h)
  have lf13 := hts (.fieldLink RX12 13 "BeardPassModel" "land" "[I") (ki (zr7 20 rfl))
  have lf129 := hts (.fieldLink RX12 129 "BeardPassModel" "thrown" "I") (ki (zr10 1 rfl))
  obtain ⟨X, hX⟩ : ∃ X, X = (Gm_meeting a1 r q) := ⟨_, rfl⟩
  have cut23 : ∀ (n23 : Nat) (w23_2 : Int32) (w23_3 : Int32) (w23_4 : Int32) (rw23 : zRr) (hw23_1 : zI 0 1 a1) (hw23_2 : zI (-1) 5 w23_2) (hw23_3 : zI (-1) 99 w23_3) (hw23_4 : zI 0 6 w23_4) (jw23 : mJ 20 rw23) (fw23 : zFr [15, 16, 17, 18, 19, 20, 21, 22, 23, 24, 34, 32, 100] r rw23) (hE : X = Gm_meeting_23 a1 q n23 w23_2 w23_3 w23_4 rw23), 6 - w23_4.toInt < (n23 : Int) → zKf p l e ({ frames := 12, cells := 0, slots := 0, locals := 520 }) s m a9 below meth c Q D A 23 6 [] (mW ct h0 y rw23 q) [(0, .ref h0), (1, .int a1), (2, .int w23_2), (3, .int w23_3), (4, .int w23_4)] := by
    intro n23
    induction n23 with
    | zero => intro w23_2 w23_3 w23_4 rw23 hw23_1 hw23_2 hw23_3 hw23_4 jw23 fw23 hE hm23; exact zI.no hw23_4 (by decide) hm23
    | succ n23 ih23 =>
      intro w23_2 w23_3 w23_4 rw23 hw23_1 hw23_2 hw23_3 hw23_4 jw23 fw23 hE hm23
      have hE : X = Bm_meeting_23 a1 q (Gm_meeting_23 a1 q n23) w23_2 w23_3 w23_4 rw23 := hE
      unfold Bm_meeting_23 at hE
      have cut66 : ∀ (w66_2 : Int32) (w66_3 : Int32) (rw66 : zRr) (hw66_1 : zI 0 1 a1) (hw66_2 : zI (-1) 5 w66_2) (hw66_3 : zI (-1) 99 w66_3) (hw66_4 : zI 0 5 w23_4) (jw66 : mJ 20 rw66) (fw66 : zFr [15, 16, 17, 18, 19, 20, 21, 22, 23, 24, 34, 32, 100] r rw66) (hE : X = Gm_meeting_66 w23_4 (Gm_meeting_23 a1 q n23) w66_2 w66_3 rw66), zKf p l e ({ frames := 12, cells := 0, slots := 0, locals := 520 }) s m a9 below meth c Q D A 66 6 [] (mW ct h0 y rw66 q) [(0, .ref h0), (1, .int a1), (2, .int w66_2), (3, .int w66_3), (4, .int w23_4)] := by
        intro w66_2 w66_3 rw66 hw66_1 hw66_2 hw66_3 hw66_4 jw66 fw66 hE H locs ls hw hS hl
        unfold Gm_meeting_66 at hE
        refine lv_iinc (v := w23_4 + 1) (lv' := [(4, .int (w23_4 + 1)), (0, .ref h0), (1, .int a1), (2, .int w66_2), (3, .int w66_3)]) hx hb dX12_meeting_66 hl (k := 4) rfl (rfl) (by decide) rfl (fun ls hl => ?_)
        have k1 : zI 1 6 (w23_4 + 1) := zI.add hw66_4 (zI.lit (a := 1) (b := 1) (by decide)) (by decide)
        refine lv_goto (tgt := 23) hx hb dX12_meeting_69 (by decide) ?_
        exact ih23 w66_2 w66_3 (w23_4 + 1) rw66 hw66_1 hw66_2 hw66_3 (k1.w (c := 0) (d := 6) (by decide)) jw66 fw66 hE (zI.up hw66_4 (by decide) hm23) H locs ls hw hS (lv_sub hl [1, 2, 3, 4, 0] rfl)
      have cut60 : ∀ (w60_5 : Int32) (rw60 : zRr) (hw60_1 : zI 0 1 a1) (hw60_4 : zI 0 5 w23_4) (hw60_5 : zI 0 99 w60_5) (jw60 : mJ 20 rw60) (fw60 : zFr [15, 16, 17, 18, 19, 20, 21, 22, 23, 24, 34, 32, 100] r rw60) (hE : X = Gm_meeting_60 w23_4 (Gm_meeting_23 a1 q n23) w60_5 rw60), zKf p l e ({ frames := 12, cells := 0, slots := 0, locals := 520 }) s m a9 below meth c Q D A 60 6 [] (mW ct h0 y rw60 q) [(0, .ref h0), (1, .int a1), (4, .int w23_4), (5, .int w60_5)] := by
        intro w60_5 rw60 hw60_1 hw60_4 hw60_5 jw60 fw60 hE H locs ls hw hS hl
        unfold Gm_meeting_60 at hE
        refine lv_iload hx hb dX12_meeting_60 (lv_at hl 2 rfl) ?_
        refine lv_istore_n (lv' := [(2, .int w23_4), (0, .ref h0), (1, .int a1), (4, .int w23_4), (5, .int w60_5)]) hx hb dX12_meeting_62 rfl hl (by decide) rfl (fun ls hl => ?_)
        refine lv_iload hx hb dX12_meeting_63 (lv_at hl 4 rfl) ?_
        refine lv_istore_n (lv' := [(3, .int w60_5), (2, .int w23_4), (0, .ref h0), (1, .int a1), (4, .int w23_4), (5, .int w60_5)]) hx hb dX12_meeting_65 rfl hl (by decide) rfl (fun ls hl => ?_)
        exact cut66 w23_4 w60_5 rw60 hw60_1 (hw60_4.w (c := (-1)) (d := 5) (by decide)) (hw60_5.w (c := (-1)) (d := 99) (by decide)) hw60_4 jw60 fw60 hE H locs ls hw hS (lv_sub hl [2, 3, 1, 0, 4] rfl)
      intro H locs ls hw hS hl
      refine lv_iload hx hb dX12_meeting_23 (lv_at hl 4 rfl) ?_
      refine lv_aload_n hx hb dX12_meeting_25 rfl (lv_at hl 0 rfl) ?_
      refine mget (v := .ref (y 1)) hx hb hts hiX12 hown hK hw 10 (by decide) lf13 rfl rfl dX12_meeting_26 ?_
      refine lv_iconst (v := 0) hx hb dX12_meeting_29 (by decide) ?_
      refine ziald hx hb hK hw 2 mWg1 0 (by decide) (by decide) (by decide) dX12_meeting_30 (zgenE (lo := 0) (hi := 6) ((show zI 0 6 (rw23 1 0) from jw23.i 1 0)) (fun v2 ev2 hv2 => ?_))
      have hE := zletE ev2 hE
      refine lv_icmp_ge (tgt := 72) hx hb dX12_meeting_31 (by decide) (fun c3 => ?_) (fun c3 => ?_)
      · have hE := zifT c3 hE
        refine lv_iload_n hx hb dX12_meeting_72 rfl (lv_at hl 1 rfl) ?_
        refine lv_if_ne (tgt := 80) hx hb dX12_meeting_73 (by decide) (fun c4 => ?_) (fun c4 => ?_)
        · have hE := zifnT c4 hE
          have k5 : zI 1 1 (a1) := zI.neD c4 hw23_1 (zI.lit (a := 0) (b := 0) (c := 0) (by decide)) (by decide)
          refine lv_iload_n hx hb dX12_meeting_80 rfl (lv_at hl 2 rfl) ?_
          exact ziretQ hQ hx hb hr rfl hlocks (w23_2, rw23) rfl ⟨(zI.top _), jw23, fw23, (hE.symm.trans hX), trivial⟩ hw hS dX12_meeting_81
        · have hE := zifnF c4 hE
          have k6 : zI 0 0 (a1) := zI.eqq c4 (zI.lit (a := 0) (b := 0) (c := 0) (by decide))
          refine lv_iload_n hx hb dX12_meeting_76 rfl (lv_at hl 3 rfl) ?_
          refine lv_goto (tgt := 81) hx hb dX12_meeting_77 (by decide) ?_
          exact ziretQ hQ hx hb hr rfl hlocks (w23_3, rw23) rfl ⟨(zI.top _), jw23, fw23, (hE.symm.trans hX), trivial⟩ hw hS dX12_meeting_81
      · have hE := zifF c3 hE
        have k7 : zI 0 5 (w23_4) := zI.ltU (zI.nle c3) hw23_4 hv2 (by decide)
        have k8 : zI 1 6 (v2) := zI.ltD (zI.nle c3) hw23_4 hv2 (by decide)
        refine lv_aload_n hx hb dX12_meeting_34 rfl (lv_at hl 0 rfl) ?_
        refine lv_iload hx hb dX12_meeting_35 (lv_at hl 4 rfl) ?_
        refine mcallV (As := [.int w23_4]) (rest := []) ⟨hx, hb, hml, hown, hts⟩ (mc_meetsAt l D ct h0 y w23_4 rw23 q k7 jw23) (wqX12_435_mc_meetsAt hts ⟨Nat.le_of_ble_eq_true rfl, Nat.le_of_ble_eq_true rfl⟩) hw hS hA hK hN rfl hl.1 rfl (Nat.le_of_ble_eq_true rfl) dX12_meeting_37 40 rfl (fun u9 H locs pu9 hw hS => ?_)
        obtain ⟨v10, r11⟩ := u9
        have hv10 : zI (-1) 99 v10 := pu9.1
        have ju9 : mJ 20 r11 := pu9.2.1
        have fu9 : zFr [15, 16, 17, 18, 19, 20, 21, 22, 23, 24, 34, 32] rw23 r11 := pu9.2.2.1
        have xu9 : (v10, r11) = (Gm_meetsAt w23_4 rw23 q) := pu9.2.2.2.1
        have hE := zc_vrE xu9 hE
        have hw : zPD D A (mW ct h0 y r11 q) H := hw
        refine zfr 40 [.int v10] rfl rfl ?_
        refine lv_istore (lv' := [(5, .int v10), (0, .ref h0), (1, .int a1), (2, .int w23_2), (3, .int w23_3), (4, .int w23_4)]) hx hb dX12_meeting_40 hl (by decide) rfl (fun ls hl => ?_)
        refine lv_iload hx hb dX12_meeting_42 (lv_at hl 0 rfl) ?_
        refine lv_if_lt (tgt := 66) hx hb dX12_meeting_44 (by decide) (fun c12 => ?_) (fun c12 => ?_)
        · have hE := zifT c12 hE
          have k13 : zI (-1) (-1) (v10) := zI.ltU c12 hv10 (zI.lit (a := 0) (b := 0) (c := 0) (by decide)) (by decide)
          exact cut66 w23_2 w23_3 r11 hw23_1 hw23_2 hw23_3 k7 ju9 (fw23.tr fu9 rfl) hE H locs ls hw hS (lv_sub hl [1, 2, 3, 4, 5] rfl)
        · have hE := zifF c12 hE
          have k14 : zI 0 99 (v10) := zI.leD (zI.nlt c12) (zI.lit (a := 0) (b := 0) (c := 0) (by decide)) hv10 (by decide)
          refine lv_iload_n hx hb dX12_meeting_47 rfl (lv_at hl 3 rfl) ?_
          refine lv_if_lt (tgt := 60) hx hb dX12_meeting_48 (by decide) (fun c15 => ?_) (fun c15 => ?_)
          · have hE := zifT c15 hE
            have k16 : zI (-1) (-1) (w23_2) := zI.ltU c15 hw23_2 (zI.lit (a := 0) (b := 0) (c := 0) (by decide)) (by decide)
            exact cut60 v10 r11 hw23_1 k7 k14 ju9 (fw23.tr fu9 rfl) hE H locs ls hw hS (lv_sub hl [1, 2, 5, 0] rfl)
          · have hE := zifF c15 hE
            have k17 : zI 0 5 (w23_2) := zI.leD (zI.nlt c15) (zI.lit (a := 0) (b := 0) (c := 0) (by decide)) hw23_2 (by decide)
            refine lv_iload hx hb dX12_meeting_51 (lv_at hl 0 rfl) ?_
            refine lv_iload_n hx hb dX12_meeting_53 rfl (lv_at hl 4 rfl) ?_
            refine lv_icmp_lt (tgt := 60) hx hb dX12_meeting_54 (by decide) (fun c18 => ?_) (fun c18 => ?_)
            · have hE := zifT c18 hE
              have k19 : zI 0 98 (v10) := zI.ltU c18 k14 hw23_3 (by decide)
              have k20 : zI 1 99 (w23_3) := zI.ltD c18 k14 hw23_3 (by decide)
              exact cut60 v10 r11 hw23_1 k7 (k19.w (c := 0) (d := 99) (by decide)) ju9 (fw23.tr fu9 rfl) hE H locs ls hw hS (lv_sub hl [1, 2, 5, 0] rfl)
            · have hE := zifF c18 hE
              refine lv_goto (tgt := 66) hx hb dX12_meeting_57 (by decide) ?_
              exact cut66 w23_2 w23_3 r11 hw23_1 (k17.w (c := (-1)) (d := 5) (by decide)) hw23_3 k7 ju9 (fw23.tr fu9 rfl) hE H locs ls hw hS (lv_sub hl [1, 2, 3, 4, 5] rfl)
  intro H locs hw hS ls hl
  have hl : lv_has ls 6 [(0, .ref h0), (1, .int a1)] := hl
  have hE := hX
  unfold Gm_meeting at hE
  refine lv_aload_n hx hb dX12_meeting_0 rfl (lv_at hl 0 rfl) ?_
  refine lv_iconst (v := 0) hx hb dX12_meeting_1 (by decide) ?_
  refine mput (ty := .int) (v := .int 0) hx hb hts hiX12 hown hK hw hS 0 (by decide) lf129 rfl rfl (by decide +kernel) rfl rfl dX12_meeting_2 (zset r 100 (fun _ => (0 : Int32))) _ mWf0 (fun H locs hw hS => ?_)
  refine mgen (P := fun x => mJ 20 x ∧ zFr [15, 16, 17, 18, 19, 20, 21, 22, 23, 24, 34, 32, 100] r x) hw ⟨hJ0.setc rfl (fun _ => (zI.top _)), (zFr.refl).set rfl⟩ (fun r21 er21 hw pr21 => ?_)
  have hE := zletE er21 hE
  refine lv_iload_n hx hb dX12_meeting_5 rfl (lv_at hl 1 rfl) ?_
  refine lv_iconst (v := 0) hx hb dX12_meeting_6 (by decide) ?_
  refine lv_iconst (v := 1) hx hb dX12_meeting_7 (by decide) ?_
  refine scallE (As := [.int a1, .int 0, .int 1]) (rest := []) ⟨hx, hb, hml, hown, hts⟩ (mc_within l D ct a1 0 1) (va_cwS 3 hts (kgS (zr25 11 rfl) (zr25 12 rfl) (zr1 5 rfl) (zr25 13 rfl)) rfl rfl rfl (by decide +kernel) ⟨Nat.le_of_ble_eq_true rfl, Nat.le_of_ble_eq_true rfl⟩) hw hS hA hK hN mWn rfl hl.1 rfl (Nat.le_of_ble_eq_true rfl) dX12_meeting_8 11 rfl (fun u22 H locs pu22 hw hS => ?_)
  have hu22 : zI 0 1 u22 := pu22.1
  have yu22_0 : ¬ u22 = 0 → (0 : Int32) ≤ a1 ∧ a1 ≤ (1 : Int32) := pu22.2.1
  have xu22 : u22 = (Gm_within a1 (0 : Int32) (1 : Int32)) := pu22.2.2.1
  have hE := zletE xu22 hE
  refine zfr 11 [.int u22] rfl rfl ?_
  refine lv_if_ne (tgt := 16) hx hb dX12_meeting_11 (by decide) (fun c24 => ?_) (fun c24 => ?_)
  · have hE := zifnT c24 hE
    have k25 : zI 1 1 (u22) := zI.neD c24 hu22 (zI.lit (a := 0) (b := 0) (c := 0) (by decide)) (by decide)
    have k26 : zI 0 2147483647 (a1) := zI.leD (yu22_0 c24).1 (zI.lit (a := 0) (b := 0) (c := 0) (by decide)) (zI.top _) (by decide)
    have k27 : zI 0 1 (a1) := zI.leU (yu22_0 c24).2 k26 (zI.lit (a := 1) (b := 1) (c := 1) (by decide)) (by decide)
    refine lv_iconst (v := (-1)) hx hb dX12_meeting_16 (by decide) ?_
    refine lv_istore_n (lv' := [(2, .int (-1)), (0, .ref h0), (1, .int a1)]) hx hb dX12_meeting_17 rfl hl (by decide) rfl (fun ls hl => ?_)
    refine lv_iconst (v := (-1)) hx hb dX12_meeting_18 (by decide) ?_
    refine lv_istore_n (lv' := [(3, .int (-1)), (2, .int (-1)), (0, .ref h0), (1, .int a1)]) hx hb dX12_meeting_19 rfl hl (by decide) rfl (fun ls hl => ?_)
    refine lv_iconst (v := 0) hx hb dX12_meeting_20 (by decide) ?_
    refine lv_istore (lv' := [(4, .int 0), (3, .int (-1)), (2, .int (-1)), (0, .ref h0), (1, .int a1)]) hx hb dX12_meeting_21 hl (by decide) rfl (fun ls hl => ?_)
    exact cut23 7 (-1) (-1) 0 r21 k27 ((zI.lit (a := (-1)) (b := (-1)) (c := (-1)) (by decide)).w (c := (-1)) (d := 5) (by decide)) ((zI.lit (a := (-1)) (b := (-1)) (c := (-1)) (by decide)).w (c := (-1)) (d := 99) (by decide)) ((zI.lit (a := 0) (b := 0) (c := 0) (by decide)).w (c := 0) (d := 6) (by decide)) pr21.1 pr21.2 hE (zI.m0 (zI.lit (a := 0) (b := 0) (c := 0) (by decide)) (by decide)) H locs ls hw hS (lv_sub hl [3, 4, 2, 1, 0] rfl)
  · have hE := zifnF c24 hE
    have k28 : zI 0 0 (u22) := zI.eqq c24 (zI.lit (a := 0) (b := 0) (c := 0) (by decide))
    refine lv_iconst (v := (-1)) hx hb dX12_meeting_14 (by decide) ?_
    exact ziretQ hQ hx hb hr rfl hlocks ((-1), r21) rfl ⟨(zI.top _), pr21.1, pr21.2, (hE.symm.trans hX), trivial⟩ hw hS dX12_meeting_15

set_option maxHeartbeats 4000000 in
set_option maxRecDepth 100000 in
theorem mc_speakers (l : Launch) (D : va_G) (ct : Nat → ClassId) (h0 : Nat) (y : Nat → Nat) (B : Int) (a1 : Int32) (a2 : Int32) (r : zRr) (q : zRq) (hJ0 : mJ B r) : zC l yX12_speakers (.code yX12_speakers cX12_speakers 3 (some .int) :: wsL_law0) ({ frames := 7, cells := 0, slots := 0, locals := 320 }) D ct [] [.ref h0, .int a1, .int a2] (mW ct h0 y r q) (S := Int32 × zRr) (fun u => some (.int u.1)) (fun u => zI (-1) 63 u.1 ∧ mJ B u.2 ∧ zFr [15, 16, 17, 18, 19, 20, 21, 22, 23, 24, 100] r u.2 ∧ True) (fun u => mW ct h0 y u.2 q) 0 0 := by
  refine zofQ cX12_speakers 3 (some .int) (by decide) rfl (Nat.le_of_ble_eq_true rfl) ?_
  intro p e s m below meth c A a9 Q ha9 hx hb hr hml hts hown hlocks hname hK hA hZ hN hQ
  have hown : s.vm.findClass RX12 = some m.cls := hown
  have hiX12 : ∀ w ∈ wsX120, w ∈ .code yX12_speakers cX12_speakers 3 (some .int) :: wsL_law0 := fun _ h => ki (zs_wsX120 _ h)
  have lf29 := hts (.fieldLink RX12 29 "BeardPassModel" "kind" "[I") (ki (zr8 1 rfl))
  have lf108 := hts (.fieldLink RX12 108 "BeardPassModel" "s" "[I") (ki (zr9 4 rfl))
  have lf129 := hts (.fieldLink RX12 129 "BeardPassModel" "thrown" "I") (ki (zr10 1 rfl))
  intro H locs hw hS ls hl
  have hl : lv_has ls 3 [(0, .ref h0), (1, .int a1), (2, .int a2)] := hl
  refine lv_aload_n hx hb dX12_speakers_0 rfl (lv_at hl 0 rfl) ?_
  refine lv_iconst (v := 0) hx hb dX12_speakers_1 (by decide) ?_
  refine mput (ty := .int) (v := .int 0) hx hb hts hiX12 hown hK hw hS 0 (by decide) lf129 rfl rfl (by decide +kernel) rfl rfl dX12_speakers_2 (zset r 100 (fun _ => (0 : Int32))) _ mWf0 (fun H locs hw hS => ?_)
  refine mgen (P := fun x => mJ B x ∧ zFr [15, 16, 17, 18, 19, 20, 21, 22, 23, 24, 100] r x) hw ⟨hJ0.setc rfl (fun _ => (zI.top _)), (zFr.refl).set rfl⟩ (fun r1 er1 hw pr1 => ?_)
  refine lv_aload_n hx hb dX12_speakers_5 rfl (lv_at hl 0 rfl) ?_
  refine lv_iload_n hx hb dX12_speakers_6 rfl (lv_at hl 1 rfl) ?_
  refine mcallV (As := [.int a1]) (rest := []) ⟨hx, hb, hml, hown, hts⟩ (mc_isPerson l D ct h0 y B a1 r1 q pr1.1) (wqX12_370_mc_isPerson hts ⟨Nat.le_of_ble_eq_true rfl, Nat.le_of_ble_eq_true rfl⟩) hw hS hA hK hN rfl hl.1 rfl (Nat.le_of_ble_eq_true rfl) dX12_speakers_7 10 rfl (fun u2 H locs pu2 hw hS => ?_)
  have hu2 : zI 0 1 u2 := pu2.1
  have yu2_0 : ¬ u2 = 0 → zI 0 5 a1 := pu2.2.1
  have xu2 : u2 = (Gm_isPerson a1 r1 q) := pu2.2.2.1
  have hw : zPD D A (mW ct h0 y r1 q) H := hw
  refine zfr 10 [.int u2] rfl rfl ?_
  refine lv_if_eq (tgt := 47) hx hb dX12_speakers_10 (by decide) (fun c4 => ?_) (fun c4 => ?_)
  · have k5 : zI 0 0 (u2) := zI.eqq c4 (zI.lit (a := 0) (b := 0) (c := 0) (by decide))
    refine lv_iconst (v := (-1)) hx hb dX12_speakers_47 (by decide) ?_
    exact ziretQ hQ hx hb hr rfl hlocks ((-1), r1) rfl ⟨((zI.lit (a := (-1)) (b := (-1)) (c := (-1)) (by decide)).w (c := (-1)) (d := 63) (by decide)), pr1.1, pr1.2, trivial⟩ hw hS dX12_speakers_48
  · have k6 : zI 1 1 (u2) := zI.neD c4 hu2 (zI.lit (a := 0) (b := 0) (c := 0) (by decide)) (by decide)
    refine lv_aload_n hx hb dX12_speakers_13 rfl (lv_at hl 0 rfl) ?_
    refine lv_iload_n hx hb dX12_speakers_14 rfl (lv_at hl 2 rfl) ?_
    refine mcallV (As := [.int a2]) (rest := []) ⟨hx, hb, hml, hown, hts⟩ (mc_isTown l D ct h0 y B a2 r1 q pr1.1) (wqX12_373_mc_isTown hts ⟨Nat.le_of_ble_eq_true rfl, Nat.le_of_ble_eq_true rfl⟩) hw hS hA hK hN rfl hl.1 rfl (Nat.le_of_ble_eq_true rfl) dX12_speakers_15 18 rfl (fun u7 H locs pu7 hw hS => ?_)
    have hu7 : zI 0 1 u7 := pu7.1
    have yu7_0 : ¬ u7 = 0 → zI 0 5 a2 := pu7.2.1
    have xu7 : u7 = (Gm_isTown a2 r1 q) := pu7.2.2.1
    have hw : zPD D A (mW ct h0 y r1 q) H := hw
    refine zfr 18 [.int u7] rfl rfl ?_
    refine lv_if_eq (tgt := 47) hx hb dX12_speakers_18 (by decide) (fun c9 => ?_) (fun c9 => ?_)
    · have k10 : zI 0 0 (u7) := zI.eqq c9 (zI.lit (a := 0) (b := 0) (c := 0) (by decide))
      refine lv_iconst (v := (-1)) hx hb dX12_speakers_47 (by decide) ?_
      exact ziretQ hQ hx hb hr rfl hlocks ((-1), r1) rfl ⟨((zI.lit (a := (-1)) (b := (-1)) (c := (-1)) (by decide)).w (c := (-1)) (d := 63) (by decide)), pr1.1, pr1.2, trivial⟩ hw hS dX12_speakers_48
    · have k11 : zI 1 1 (u7) := zI.neD c9 hu7 (zI.lit (a := 0) (b := 0) (c := 0) (by decide)) (by decide)
      refine lv_aload_n hx hb dX12_speakers_21 rfl (lv_at hl 0 rfl) ?_
      refine mget (v := .ref (y 6)) hx hb hts hiX12 hown hK hw 15 (by decide) lf29 rfl rfl dX12_speakers_22 ?_
      refine lv_iload_n hx hb dX12_speakers_25 rfl (lv_at hl 1 rfl) ?_
      refine miald hx hb hK hw 7 mWg6 (yu2_0 c4) (by decide) dX12_speakers_26 (zgen (zI.top _) (fun v12 _ => ?_))
      refine lv_iconst (v := 1) hx hb dX12_speakers_27 (by decide) ?_
      refine lv_icmp_ne (tgt := 47) hx hb dX12_speakers_28 (by decide) (fun c13 => ?_) (fun c13 => ?_)
      · refine lv_iconst (v := (-1)) hx hb dX12_speakers_47 (by decide) ?_
        exact ziretQ hQ hx hb hr rfl hlocks ((-1), r1) rfl ⟨((zI.lit (a := (-1)) (b := (-1)) (c := (-1)) (by decide)).w (c := (-1)) (d := 63) (by decide)), pr1.1, pr1.2, trivial⟩ hw hS dX12_speakers_48
      · have k14 : zI 1 1 (v12) := zI.eqq c13 (zI.lit (a := 1) (b := 1) (c := 1) (by decide))
        refine lv_aload_n hx hb dX12_speakers_31 rfl (lv_at hl 0 rfl) ?_
        refine lv_aload_n hx hb dX12_speakers_32 rfl (lv_at hl 0 rfl) ?_
        refine mget (v := .ref (y 32)) hx hb hts hiX12 hown hK hw 45 (by decide) lf108 rfl rfl dX12_speakers_33 ?_
        refine lv_iconst (v := 1) hx hb dX12_speakers_36 (by decide) ?_
        refine lv_iload_n hx hb dX12_speakers_37 rfl (lv_at hl 1 rfl) ?_
        refine lv_iadd hx hb dX12_speakers_38 (zgen (lo := 1) (hi := 6) (zI.add (zI.lit (a := 1) (b := 1) (c := 1) (by decide)) (yu2_0 c4) (by decide)) (fun v15 hv15 => ?_))
        refine miald hx hb hK hw 33 mWg32 hv15 (by decide) dX12_speakers_39 (zgen (lo := 0) (hi := 5) ((ms_1 pr1.1 hv15)) (fun v16 hv16 => ?_))
        refine lv_iload_n hx hb dX12_speakers_40 rfl (lv_at hl 2 rfl) ?_
        refine mcallV (As := [.int v16, .int a2]) (rest := []) ⟨hx, hb, hml, hown, hts⟩ (mc_speakersAt l D ct h0 y B v16 a2 r1 q (yu7_0 c9) pr1.1) (wqX12_358_mc_speakersAt hts ⟨Nat.le_of_ble_eq_true rfl, Nat.le_of_ble_eq_true rfl⟩) hw hS hA hK hN rfl hl.1 rfl (Nat.le_of_ble_eq_true rfl) dX12_speakers_41 44 rfl (fun u17 H locs pu17 hw hS => ?_)
        obtain ⟨v18, r19⟩ := u17
        have hv18 : zI 0 63 v18 := pu17.1
        have ju17 : mJ B r19 := pu17.2.1
        have fu17 : zFr [15, 16, 17, 18, 19, 20, 21, 22, 23, 24] r1 r19 := pu17.2.2.1
        have xu17 : (v18, r19) = (Gm_speakersAt v16 a2 r1 q) := pu17.2.2.2.1
        have hw : zPD D A (mW ct h0 y r19 q) H := hw
        refine zfr 44 [.int v18] rfl rfl ?_
        refine lv_goto (tgt := 48) hx hb dX12_speakers_44 (by decide) ?_
        exact ziretQ hQ hx hb hr rfl hlocks (v18, r19) rfl ⟨(hv18.w (c := (-1)) (d := 63) (by decide)), ju17, (pr1.2.tr fu17 rfl), trivial⟩ hw hS dX12_speakers_48

set_option maxHeartbeats 4000000 in
set_option maxRecDepth 100000 in
theorem mc_strict (l : Launch) (D : va_G) (ct : Nat → ClassId) (h0 : Nat) (y : Nat → Nat) (B : Int) (r : zRr) (q : zRq) (hJ0 : mJ B r) : zC l yX12_strict (.code yX12_strict cX12_strict 3 (some .int) :: wsL_law0) ({ frames := 9, cells := 0, slots := 0, locals := 400 }) D ct [] [.ref h0] (mW ct h0 y r q) (S := Int32 × zRr) (fun u => some (.int u.1)) (fun u => zI (-1) 5 u.1 ∧ mJ B u.2 ∧ zFr [15, 16, 17, 18, 19, 20, 21, 22, 23, 24, 100] r u.2 ∧ True) (fun u => mW ct h0 y u.2 q) 0 0 := by
  refine zofQ cX12_strict 3 (some .int) (by decide) rfl (Nat.le_of_ble_eq_true rfl) ?_
  intro p e s m below meth c A a9 Q ha9 hx hb hr hml hts hown hlocks hname hK hA hZ hN hQ
  have hown : s.vm.findClass RX12 = some m.cls := hown
  have hiX12 : ∀ w ∈ wsX120, w ∈ .code yX12_strict cX12_strict 3 (some .int) :: wsL_law0 := fun _ h => ki (zs_wsX120 _ h)
  have lf13 := hts (.fieldLink RX12 13 "BeardPassModel" "land" "[I") (ki (zr7 20 rfl))
  have lf129 := hts (.fieldLink RX12 129 "BeardPassModel" "thrown" "I") (ki (zr10 1 rfl))
  have cut9 : ∀ (n : Nat) (w9_1 : Int32) (w9_2 : Int32) (rw9 : zRr) (hw9_1 : zI (-1) 5 w9_1) (hw9_2 : zI 0 6 w9_2) (jw9 : mJ B rw9) (fw9 : zFr [15, 16, 17, 18, 19, 20, 21, 22, 23, 24, 100] r rw9), 6 - w9_2.toInt < (n : Int) → zKf p l e ({ frames := 9, cells := 0, slots := 0, locals := 400 }) s m a9 below meth c Q D A 9 3 [] (mW ct h0 y rw9 q) [(0, .ref h0), (1, .int w9_1), (2, .int w9_2)] := by
    intro n
    induction n with
    | zero => intro w9_1 w9_2 rw9 hw9_1 hw9_2 jw9 fw9 hm9; exact zI.no hw9_2 (by decide) hm9
    | succ n ih9 =>
      intro w9_1 w9_2 rw9 hw9_1 hw9_2 jw9 fw9 hm9
      have cut44 : ∀ (w44_1 : Int32) (rw44 : zRr) (hw44_1 : zI 0 5 w44_1) (hw44_2 : zI 0 5 w9_2) (jw44 : mJ B rw44) (fw44 : zFr [15, 16, 17, 18, 19, 20, 21, 22, 23, 24, 100] r rw44), zKf p l e ({ frames := 9, cells := 0, slots := 0, locals := 400 }) s m a9 below meth c Q D A 44 3 [] (mW ct h0 y rw44 q) [(0, .ref h0), (1, .int w44_1), (2, .int w9_2)] := by
        intro w44_1 rw44 hw44_1 hw44_2 jw44 fw44 H locs ls hw hS hl
        refine lv_iinc (v := w9_2 + 1) (lv' := [(2, .int (w9_2 + 1)), (0, .ref h0), (1, .int w44_1)]) hx hb dX12_strict_44 hl (k := 2) rfl (rfl) (by decide) rfl (fun ls hl => ?_)
        have k1 : zI 1 6 (w9_2 + 1) := zI.add hw44_2 (zI.lit (a := 1) (b := 1) (by decide)) (by decide)
        refine lv_goto (tgt := 9) hx hb dX12_strict_47 (by decide) ?_
        exact ih9 w44_1 (w9_2 + 1) rw44 (hw44_1.w (c := (-1)) (d := 5) (by decide)) (k1.w (c := 0) (d := 6) (by decide)) jw44 fw44 (zI.up hw44_2 (by decide) hm9) H locs ls hw hS (lv_sub hl [1, 2, 0] rfl)
      have cut42 : ∀ (rw42 : zRr) (hw42_2 : zI 0 5 w9_2) (jw42 : mJ B rw42) (fw42 : zFr [15, 16, 17, 18, 19, 20, 21, 22, 23, 24, 100] r rw42), zKf p l e ({ frames := 9, cells := 0, slots := 0, locals := 400 }) s m a9 below meth c Q D A 42 3 [] (mW ct h0 y rw42 q) [(0, .ref h0), (2, .int w9_2)] := by
        intro rw42 hw42_2 jw42 fw42 H locs ls hw hS hl
        refine lv_iload_n hx hb dX12_strict_42 rfl (lv_at hl 1 rfl) ?_
        refine lv_istore_n (lv' := [(1, .int w9_2), (0, .ref h0), (2, .int w9_2)]) hx hb dX12_strict_43 rfl hl (by decide) rfl (fun ls hl => ?_)
        exact cut44 w9_2 rw42 hw42_2 hw42_2 jw42 fw42 H locs ls hw hS (lv_sub hl [1, 0, 2] rfl)
      intro H locs ls hw hS hl
      refine lv_iload_n hx hb dX12_strict_9 rfl (lv_at hl 2 rfl) ?_
      refine lv_aload_n hx hb dX12_strict_10 rfl (lv_at hl 0 rfl) ?_
      refine mget (v := .ref (y 1)) hx hb hts hiX12 hown hK hw 10 (by decide) lf13 rfl rfl dX12_strict_11 ?_
      refine lv_iconst (v := 0) hx hb dX12_strict_14 (by decide) ?_
      refine ziald hx hb hK hw 2 mWg1 0 (by decide) (by decide) (by decide) dX12_strict_15 (zgen (lo := 0) (hi := 6) ((show zI 0 6 (rw9 1 0) from jw9.i 1 0)) (fun v2 hv2 => ?_))
      refine lv_icmp_ge (tgt := 50) hx hb dX12_strict_16 (by decide) (fun c3 => ?_) (fun c3 => ?_)
      · refine lv_iload_n hx hb dX12_strict_50 rfl (lv_at hl 1 rfl) ?_
        exact ziretQ hQ hx hb hr rfl hlocks (w9_1, rw9) rfl ⟨hw9_1, jw9, fw9, trivial⟩ hw hS dX12_strict_51
      · have k4 : zI 0 5 (w9_2) := zI.ltU (zI.nle c3) hw9_2 hv2 (by decide)
        have k5 : zI 1 6 (v2) := zI.ltD (zI.nle c3) hw9_2 hv2 (by decide)
        refine lv_iload_n hx hb dX12_strict_19 rfl (lv_at hl 1 rfl) ?_
        refine lv_if_lt (tgt := 42) hx hb dX12_strict_20 (by decide) (fun c6 => ?_) (fun c6 => ?_)
        · have k7 : zI (-1) (-1) (w9_1) := zI.ltU c6 hw9_1 (zI.lit (a := 0) (b := 0) (c := 0) (by decide)) (by decide)
          exact cut42 rw9 k4 jw9 fw9 H locs ls hw hS (lv_sub hl [0, 2] rfl)
        · have k8 : zI 0 5 (w9_1) := zI.leD (zI.nlt c6) (zI.lit (a := 0) (b := 0) (c := 0) (by decide)) hw9_1 (by decide)
          refine lv_aload_n hx hb dX12_strict_23 rfl (lv_at hl 0 rfl) ?_
          refine lv_iload_n hx hb dX12_strict_24 rfl (lv_at hl 2 rfl) ?_
          refine mcallV (As := [.int w9_2]) (rest := []) ⟨hx, hb, hml, hown, hts⟩ (mc_letThrough l D ct h0 y B w9_2 rw9 q k4 jw9) (wqX12_376_mc_letThrough hts ⟨Nat.le_of_ble_eq_true rfl, Nat.le_of_ble_eq_true rfl⟩) hw hS hA hK hN rfl hl.1 rfl (Nat.le_of_ble_eq_true rfl) dX12_strict_25 28 rfl (fun u9 H locs pu9 hw hS => ?_)
          obtain ⟨v10, r11⟩ := u9
          have hv10 : zI 0 63 v10 := pu9.1
          have ju9 : mJ B r11 := pu9.2.1
          have fu9 : zFr [15, 16, 17, 18, 19, 20, 21, 22, 23, 24] rw9 r11 := pu9.2.2.1
          have hw : zPD D A (mW ct h0 y r11 q) H := hw
          refine zfr 28 [.int v10] rfl rfl ?_
          refine scallE (As := [.int v10]) (rest := []) ⟨hx, hb, hml, hown, hts⟩ (mc_bits l D ct v10) (va_cwS 1 hts (kgS (zr50 23 rfl) (zr51 0 rfl) (zr1 5 rfl) (zr51 1 rfl)) rfl rfl rfl (by decide +kernel) ⟨Nat.le_of_ble_eq_true rfl, Nat.le_of_ble_eq_true rfl⟩) hw hS hA hK hN mWn rfl hl.1 rfl (Nat.le_of_ble_eq_true rfl) dX12_strict_28 31 rfl (fun u12 H locs pu12 hw hS => ?_)
          have hu12 : zI (-2147483648) 2147483647 u12 := pu12.1
          refine zfr 31 [.int u12] rfl rfl ?_
          refine lv_aload_n hx hb dX12_strict_31 rfl (lv_at hl 0 rfl) ?_
          refine lv_iload_n hx hb dX12_strict_32 rfl (lv_at hl 1 rfl) ?_
          refine mcallV (As := [.int w9_1]) (rest := [.int u12]) ⟨hx, hb, hml, hown, hts⟩ (mc_letThrough l D ct h0 y B w9_1 r11 q k8 ju9) (wqX12_376_mc_letThrough hts ⟨Nat.le_of_ble_eq_true rfl, Nat.le_of_ble_eq_true rfl⟩) hw hS hA hK hN rfl hl.1 rfl (Nat.le_of_ble_eq_true rfl) dX12_strict_33 36 rfl (fun u14 H locs pu14 hw hS => ?_)
          obtain ⟨v15, r16⟩ := u14
          have hv15 : zI 0 63 v15 := pu14.1
          have ju14 : mJ B r16 := pu14.2.1
          have fu14 : zFr [15, 16, 17, 18, 19, 20, 21, 22, 23, 24] r11 r16 := pu14.2.2.1
          have hw : zPD D A (mW ct h0 y r16 q) H := hw
          refine zfr 36 [.int v15, .int u12] rfl rfl ?_
          refine scallE (As := [.int v15]) (rest := [.int u12]) ⟨hx, hb, hml, hown, hts⟩ (mc_bits l D ct v15) (va_cwS 1 hts (kgS (zr50 23 rfl) (zr51 0 rfl) (zr1 5 rfl) (zr51 1 rfl)) rfl rfl rfl (by decide +kernel) ⟨Nat.le_of_ble_eq_true rfl, Nat.le_of_ble_eq_true rfl⟩) hw hS hA hK hN mWn rfl hl.1 rfl (Nat.le_of_ble_eq_true rfl) dX12_strict_36 39 rfl (fun u17 H locs pu17 hw hS => ?_)
          have hu17 : zI (-2147483648) 2147483647 u17 := pu17.1
          refine zfr 39 [.int u17, .int u12] rfl rfl ?_
          refine lv_icmp_ge (tgt := 44) hx hb dX12_strict_39 (by decide) (fun c19 => ?_) (fun c19 => ?_)
          · exact cut44 w9_1 r16 k8 k4 ju14 ((fw9.tr fu9 rfl).tr fu14 rfl) H locs ls hw hS (lv_sub hl [0, 1, 2] rfl)
          · exact cut42 r16 k4 ju14 ((fw9.tr fu9 rfl).tr fu14 rfl) H locs ls hw hS (lv_sub hl [0, 2] rfl)
  intro H locs hw hS ls hl
  have hl : lv_has ls 3 [(0, .ref h0)] := hl
  refine lv_aload_n hx hb dX12_strict_0 rfl (lv_at hl 0 rfl) ?_
  refine lv_iconst (v := 0) hx hb dX12_strict_1 (by decide) ?_
  refine mput (ty := .int) (v := .int 0) hx hb hts hiX12 hown hK hw hS 0 (by decide) lf129 rfl rfl (by decide +kernel) rfl rfl dX12_strict_2 (zset r 100 (fun _ => (0 : Int32))) _ mWf0 (fun H locs hw hS => ?_)
  refine mgen (P := fun x => mJ B x ∧ zFr [15, 16, 17, 18, 19, 20, 21, 22, 23, 24, 100] r x) hw ⟨hJ0.setc rfl (fun _ => (zI.top _)), (zFr.refl).set rfl⟩ (fun r20 er20 hw pr20 => ?_)
  refine lv_iconst (v := (-1)) hx hb dX12_strict_5 (by decide) ?_
  refine lv_istore_n (lv' := [(1, .int (-1)), (0, .ref h0)]) hx hb dX12_strict_6 rfl hl (by decide) rfl (fun ls hl => ?_)
  refine lv_iconst (v := 0) hx hb dX12_strict_7 (by decide) ?_
  refine lv_istore_n (lv' := [(2, .int 0), (1, .int (-1)), (0, .ref h0)]) hx hb dX12_strict_8 rfl hl (by decide) rfl (fun ls hl => ?_)
  exact cut9 7 (-1) 0 r20 ((zI.lit (a := (-1)) (b := (-1)) (c := (-1)) (by decide)).w (c := (-1)) (d := 5) (by decide)) ((zI.lit (a := 0) (b := 0) (c := 0) (by decide)).w (c := 0) (d := 6) (by decide)) pr20.1 pr20.2 (zI.m0 (zI.lit (a := 0) (b := 0) (c := 0) (by decide)) (by decide)) H locs ls hw hS (lv_sub hl [2, 1, 0] rfl)

set_option maxHeartbeats 4000000 in
set_option maxRecDepth 100000 in
theorem mc_alike (l : Launch) (D : va_G) (ct : Nat → ClassId) (h0 : Nat) (y : Nat → Nat) (B : Int) (r : zRr) (q : zRq) (hJ0 : mJ B r) : zC l yX12_alike (.code yX12_alike cX12_alike 4 (some .int) :: wsL_law0) ({ frames := 9, cells := 0, slots := 0, locals := 400 }) D ct [] [.ref h0] (mW ct h0 y r q) (S := Int32 × zRr) (fun u => some (.int u.1)) (fun u => zI (-2147483648) 2147483647 u.1 ∧ mJ B u.2 ∧ zFr [15, 16, 17, 18, 19, 20, 21, 22, 23, 24, 100] r u.2 ∧ True) (fun u => mW ct h0 y u.2 q) 0 0 := by
  refine zofQ cX12_alike 4 (some .int) (by decide) rfl (Nat.le_of_ble_eq_true rfl) ?_
  intro p e s m below meth c A a9 Q ha9 hx hb hr hml hts hown hlocks hname hK hA hZ hN hQ
  have hown : s.vm.findClass RX12 = some m.cls := hown
  have hiX12 : ∀ w ∈ wsX120, w ∈ .code yX12_alike cX12_alike 4 (some .int) :: wsL_law0 := fun _ h => ki (zs_wsX120 _ h)
  have lf13 := hts (.fieldLink RX12 13 "BeardPassModel" "land" "[I") (ki (zr7 20 rfl))
  have lf129 := hts (.fieldLink RX12 129 "BeardPassModel" "thrown" "I") (ki (zr10 1 rfl))
  have cut9 : ∀ (n : Nat) (w9_1 : Int32) (w9_2 : Int32) (rw9 : zRr) (hw9_2 : zI 0 6 w9_2) (jw9 : mJ B rw9) (fw9 : zFr [15, 16, 17, 18, 19, 20, 21, 22, 23, 24, 100] r rw9), 6 - w9_2.toInt < (n : Int) → zKf p l e ({ frames := 9, cells := 0, slots := 0, locals := 400 }) s m a9 below meth c Q D A 9 4 [] (mW ct h0 y rw9 q) [(0, .ref h0), (1, .int w9_1), (2, .int w9_2)] := by
    intro n
    induction n with
    | zero => intro w9_1 w9_2 rw9 hw9_2 jw9 fw9 hm9; exact zI.no hw9_2 (by decide) hm9
    | succ n ih9 =>
      intro w9_1 w9_2 rw9 hw9_2 jw9 fw9 hm9
      have cut21 : ∀ (n : Nat) (w21_1 : Int32) (w21_3 : Int32) (rw21 : zRr) (hw21_2 : zI 0 5 w9_2) (hw21_3 : zI 0 5 w21_3) (jw21 : mJ B rw21) (fw21 : zFr [15, 16, 17, 18, 19, 20, 21, 22, 23, 24, 100] r rw21), 5 - w21_3.toInt < (n : Int) → zKf p l e ({ frames := 9, cells := 0, slots := 0, locals := 400 }) s m a9 below meth c Q D A 21 4 [] (mW ct h0 y rw21 q) [(0, .ref h0), (1, .int w21_1), (2, .int w9_2), (3, .int w21_3)] := by
        intro n
        induction n with
        | zero => intro w21_1 w21_3 rw21 hw21_2 hw21_3 jw21 fw21 hm21; exact zI.no hw21_3 (by decide) hm21
        | succ n ih21 =>
          intro w21_1 w21_3 rw21 hw21_2 hw21_3 jw21 fw21 hm21
          have cut45 : ∀ (w45_s0 : Int32) (rw45 : zRr) (hw45_2 : zI 1 5 w9_2) (hw45_3 : zI 0 4 w21_3) (hw45_s0 : zI 0 1 w45_s0) (jw45 : mJ B rw45) (fw45 : zFr [15, 16, 17, 18, 19, 20, 21, 22, 23, 24, 100] r rw45), zKf p l e ({ frames := 9, cells := 0, slots := 0, locals := 400 }) s m a9 below meth c Q D A 45 4 [.int w45_s0, .int w21_1] (mW ct h0 y rw45 q) [(0, .ref h0), (2, .int w9_2), (3, .int w21_3)] := by
            intro w45_s0 rw45 hw45_2 hw45_3 hw45_s0 jw45 fw45 H locs ls hw hS hl
            refine lv_iadd hx hb dX12_alike_45 (zgen (zI.top _) (fun v1 _ => ?_))
            refine lv_istore_n (lv' := [(1, .int v1), (0, .ref h0), (2, .int w9_2), (3, .int w21_3)]) hx hb dX12_alike_46 rfl hl (by decide) rfl (fun ls hl => ?_)
            refine lv_iinc (v := w21_3 + 1) (lv' := [(3, .int (w21_3 + 1)), (1, .int v1), (0, .ref h0), (2, .int w9_2)]) hx hb dX12_alike_47 hl (k := 3) rfl (rfl) (by decide) rfl (fun ls hl => ?_)
            have k2 : zI 1 5 (w21_3 + 1) := zI.add hw45_3 (zI.lit (a := 1) (b := 1) (by decide)) (by decide)
            refine lv_goto (tgt := 21) hx hb dX12_alike_50 (by decide) ?_
            exact ih21 v1 (w21_3 + 1) rw45 (hw45_2.w (c := 0) (d := 5) (by decide)) (k2.w (c := 0) (d := 5) (by decide)) jw45 fw45 (zI.up hw45_3 (by decide) hm21) H locs ls hw hS (lv_sub hl [2, 1, 3, 0] rfl)
          intro H locs ls hw hS hl
          refine lv_iload_n hx hb dX12_alike_21 rfl (lv_at hl 3 rfl) ?_
          refine lv_iload_n hx hb dX12_alike_22 rfl (lv_at hl 2 rfl) ?_
          refine lv_icmp_ge (tgt := 53) hx hb dX12_alike_23 (by decide) (fun c3 => ?_) (fun c3 => ?_)
          · refine lv_iinc (v := w9_2 + 1) (lv' := [(2, .int (w9_2 + 1)), (0, .ref h0), (1, .int w21_1), (3, .int w21_3)]) hx hb dX12_alike_53 hl (k := 2) rfl (rfl) (by decide) rfl (fun ls hl => ?_)
            have k4 : zI 1 6 (w9_2 + 1) := zI.add hw21_2 (zI.lit (a := 1) (b := 1) (by decide)) (by decide)
            refine lv_goto (tgt := 9) hx hb dX12_alike_56 (by decide) ?_
            exact ih9 w21_1 (w9_2 + 1) rw21 (k4.w (c := 0) (d := 6) (by decide)) jw21 fw21 (zI.up hw21_2 (by decide) hm9) H locs ls hw hS (lv_sub hl [1, 2, 0] rfl)
          · have k5 : zI 0 4 (w21_3) := zI.ltU (zI.nle c3) hw21_3 hw21_2 (by decide)
            have k6 : zI 1 5 (w9_2) := zI.ltD (zI.nle c3) hw21_3 hw21_2 (by decide)
            refine lv_iload_n hx hb dX12_alike_26 rfl (lv_at hl 1 rfl) ?_
            refine lv_aload_n hx hb dX12_alike_27 rfl (lv_at hl 0 rfl) ?_
            refine lv_iload_n hx hb dX12_alike_28 rfl (lv_at hl 2 rfl) ?_
            refine mcallV (As := [.int w9_2]) (rest := [.int w21_1]) ⟨hx, hb, hml, hown, hts⟩ (mc_letThrough l D ct h0 y B w9_2 rw21 q (k6.w (c := 0) (d := 5) (by decide)) jw21) (wqX12_376_mc_letThrough hts ⟨Nat.le_of_ble_eq_true rfl, Nat.le_of_ble_eq_true rfl⟩) hw hS hA hK hN rfl hl.1 rfl (Nat.le_of_ble_eq_true rfl) dX12_alike_29 32 rfl (fun u7 H locs pu7 hw hS => ?_)
            obtain ⟨v8, r9⟩ := u7
            have hv8 : zI 0 63 v8 := pu7.1
            have ju7 : mJ B r9 := pu7.2.1
            have fu7 : zFr [15, 16, 17, 18, 19, 20, 21, 22, 23, 24] rw21 r9 := pu7.2.2.1
            have hw : zPD D A (mW ct h0 y r9 q) H := hw
            refine zfr 32 [.int v8, .int w21_1] rfl rfl ?_
            refine lv_aload_n hx hb dX12_alike_32 rfl (lv_at hl 0 rfl) ?_
            refine lv_iload_n hx hb dX12_alike_33 rfl (lv_at hl 3 rfl) ?_
            refine mcallV (As := [.int w21_3]) (rest := [.int v8, .int w21_1]) ⟨hx, hb, hml, hown, hts⟩ (mc_letThrough l D ct h0 y B w21_3 r9 q (k5.w (c := 0) (d := 5) (by decide)) ju7) (wqX12_376_mc_letThrough hts ⟨Nat.le_of_ble_eq_true rfl, Nat.le_of_ble_eq_true rfl⟩) hw hS hA hK hN rfl hl.1 rfl (Nat.le_of_ble_eq_true rfl) dX12_alike_34 37 rfl (fun u10 H locs pu10 hw hS => ?_)
            obtain ⟨v11, r12⟩ := u10
            have hv11 : zI 0 63 v11 := pu10.1
            have ju10 : mJ B r12 := pu10.2.1
            have fu10 : zFr [15, 16, 17, 18, 19, 20, 21, 22, 23, 24] r9 r12 := pu10.2.2.1
            have hw : zPD D A (mW ct h0 y r12 q) H := hw
            refine zfr 37 [.int v11, .int v8, .int w21_1] rfl rfl ?_
            refine lv_icmp_ne (tgt := 44) hx hb dX12_alike_37 (by decide) (fun c13 => ?_) (fun c13 => ?_)
            · refine lv_iconst (v := 0) hx hb dX12_alike_44 (by decide) ?_
              exact cut45 0 r12 k6 k5 ((zI.lit (a := 0) (b := 0) (c := 0) (by decide)).w (c := 0) (d := 1) (by decide)) ju10 ((fw21.tr fu7 rfl).tr fu10 rfl) H locs ls hw hS (lv_sub hl [0, 2, 3] rfl)
            · refine lv_iconst (v := 1) hx hb dX12_alike_40 (by decide) ?_
              refine lv_goto (tgt := 45) hx hb dX12_alike_41 (by decide) ?_
              exact cut45 1 r12 k6 k5 ((zI.lit (a := 1) (b := 1) (c := 1) (by decide)).w (c := 0) (d := 1) (by decide)) ju10 ((fw21.tr fu7 rfl).tr fu10 rfl) H locs ls hw hS (lv_sub hl [0, 2, 3] rfl)
      intro H locs ls hw hS hl
      refine lv_iload_n hx hb dX12_alike_9 rfl (lv_at hl 2 rfl) ?_
      refine lv_aload_n hx hb dX12_alike_10 rfl (lv_at hl 0 rfl) ?_
      refine mget (v := .ref (y 1)) hx hb hts hiX12 hown hK hw 10 (by decide) lf13 rfl rfl dX12_alike_11 ?_
      refine lv_iconst (v := 0) hx hb dX12_alike_14 (by decide) ?_
      refine ziald hx hb hK hw 2 mWg1 0 (by decide) (by decide) (by decide) dX12_alike_15 (zgen (lo := 0) (hi := 6) ((show zI 0 6 (rw9 1 0) from jw9.i 1 0)) (fun v14 hv14 => ?_))
      refine lv_icmp_ge (tgt := 59) hx hb dX12_alike_16 (by decide) (fun c15 => ?_) (fun c15 => ?_)
      · refine lv_iload_n hx hb dX12_alike_59 rfl (lv_at hl 1 rfl) ?_
        exact ziretQ hQ hx hb hr rfl hlocks (w9_1, rw9) rfl ⟨(zI.top _), jw9, fw9, trivial⟩ hw hS dX12_alike_60
      · have k16 : zI 0 5 (w9_2) := zI.ltU (zI.nle c15) hw9_2 hv14 (by decide)
        have k17 : zI 1 6 (v14) := zI.ltD (zI.nle c15) hw9_2 hv14 (by decide)
        refine lv_iconst (v := 0) hx hb dX12_alike_19 (by decide) ?_
        refine lv_istore_n (lv' := [(3, .int 0), (0, .ref h0), (1, .int w9_1), (2, .int w9_2)]) hx hb dX12_alike_20 rfl hl (by decide) rfl (fun ls hl => ?_)
        exact cut21 6 w9_1 0 rw9 k16 ((zI.lit (a := 0) (b := 0) (c := 0) (by decide)).w (c := 0) (d := 5) (by decide)) jw9 fw9 (zI.m0 (zI.lit (a := 0) (b := 0) (c := 0) (by decide)) (by decide)) H locs ls hw hS (lv_sub hl [1, 2, 3, 0] rfl)
  intro H locs hw hS ls hl
  have hl : lv_has ls 4 [(0, .ref h0)] := hl
  refine lv_aload_n hx hb dX12_alike_0 rfl (lv_at hl 0 rfl) ?_
  refine lv_iconst (v := 0) hx hb dX12_alike_1 (by decide) ?_
  refine mput (ty := .int) (v := .int 0) hx hb hts hiX12 hown hK hw hS 0 (by decide) lf129 rfl rfl (by decide +kernel) rfl rfl dX12_alike_2 (zset r 100 (fun _ => (0 : Int32))) _ mWf0 (fun H locs hw hS => ?_)
  refine mgen (P := fun x => mJ B x ∧ zFr [15, 16, 17, 18, 19, 20, 21, 22, 23, 24, 100] r x) hw ⟨hJ0.setc rfl (fun _ => (zI.top _)), (zFr.refl).set rfl⟩ (fun r18 er18 hw pr18 => ?_)
  refine lv_iconst (v := 0) hx hb dX12_alike_5 (by decide) ?_
  refine lv_istore_n (lv' := [(1, .int 0), (0, .ref h0)]) hx hb dX12_alike_6 rfl hl (by decide) rfl (fun ls hl => ?_)
  refine lv_iconst (v := 0) hx hb dX12_alike_7 (by decide) ?_
  refine lv_istore_n (lv' := [(2, .int 0), (1, .int 0), (0, .ref h0)]) hx hb dX12_alike_8 rfl hl (by decide) rfl (fun ls hl => ?_)
  exact cut9 7 0 0 r18 ((zI.lit (a := 0) (b := 0) (c := 0) (by decide)).w (c := 0) (d := 6) (by decide)) pr18.1 pr18.2 (zI.m0 (zI.lit (a := 0) (b := 0) (c := 0) (by decide)) (by decide)) H locs ls hw hS (lv_sub hl [2, 1, 0] rfl)

noncomputable def Gm_see (a1 : Int32) (a2 : Int32) (r : zRr) (q : zRq) : Int32 × zRr :=
  zlet (α := zRr) (zset r 100 (fun _ => (0 : Int32))) <| fun r1 => zlet (α := Int32) ((Gm_isTown a1 r1 q)) <| fun u2 => zif (u2 = (0 : Int32)) (((0 : Int32), r1)) (zifn ((r1 29 0) = (8 : Int32)) (zlet (α := zRr) (zset r1 30 (upd (r1 30) (zn (r1 29 0)) a1)) <| fun r9 => zlet (α := zRr) (zset r9 31 (upd (r9 31) (zn (r9 29 0)) a2)) <| fun r10 => zlet (α := Int32) ((r10 29 0) + 1) <| fun v11 => zlet (α := zRr) (zset r10 29 (upd (r10 29) 0 v11)) <| fun r12 => ((1 : Int32), r12)) (((0 : Int32), r1)))
set_option maxHeartbeats 4000000 in
set_option maxRecDepth 100000 in
theorem mc_see (l : Launch) (D : va_G) (ct : Nat → ClassId) (h0 : Nat) (y : Nat → Nat) (B : Int) (a1 : Int32) (a2 : Int32) (r : zRr) (q : zRq) (g2 : zI 0 1 a2) (hJ0 : mJ B r) : zC l yX12_see (.code yX12_see cX12_see 3 (some .boolean) :: wsL_law0) ({ frames := 2, cells := 0, slots := 0, locals := 120 }) D ct [] [.ref h0, .int a1, .int a2] (mW ct h0 y r q) (S := Int32 × zRr) (fun u => some (.int u.1)) (fun u => zI 0 1 u.1 ∧ mJ B u.2 ∧ zFr [100, 29, 30, 31] r u.2 ∧ u = (Gm_see a1 a2 r q) ∧ True) (fun u => mW ct h0 y u.2 q) 0 0 := by
  refine zofQ cX12_see 3 (some .boolean) (by decide) rfl (Nat.le_of_ble_eq_true rfl) ?_
  intro p e s m below meth c A a9 Q ha9 hx hb hr hml hts hown hlocks hname hK hA hZ hN hQ
  have hown : s.vm.findClass RX12 = some m.cls := hown
  have hiX12 : ∀ w ∈ wsX120, w ∈ .code yX12_see cX12_see 3 (some .boolean) :: wsL_law0 := fun _ h => ki (zs_wsX120 _ h)
  have lf99 := hts (.fieldLink RX12 99 "BeardPassModel" "seens" "[I") (ki (zr9 1 rfl))
  have lf102 := hts (.fieldLink RX12 102 "BeardPassModel" "seenTown" "[I") (ki (zr9 2 rfl))
  have lf105 := hts (.fieldLink RX12 105 "BeardPassModel" "seenLet" "[Z") (ki (zr9 3 rfl))
  have lf129 := hts (.fieldLink RX12 129 "BeardPassModel" "thrown" "I") (ki (zr10 1 rfl))
  obtain ⟨X, hX⟩ : ∃ X, X = (Gm_see a1 a2 r q) := ⟨_, rfl⟩
  intro H locs hw hS ls hl
  have hl : lv_has ls 3 [(0, .ref h0), (1, .int a1), (2, .int a2)] := hl
  have hE := hX
  unfold Gm_see at hE
  refine lv_aload_n hx hb dX12_see_0 rfl (lv_at hl 0 rfl) ?_
  refine lv_iconst (v := 0) hx hb dX12_see_1 (by decide) ?_
  refine mput (ty := .int) (v := .int 0) hx hb hts hiX12 hown hK hw hS 0 (by decide) lf129 rfl rfl (by decide +kernel) rfl rfl dX12_see_2 (zset r 100 (fun _ => (0 : Int32))) _ mWf0 (fun H locs hw hS => ?_)
  refine mgen (P := fun x => mJ B x ∧ zFr [100, 29, 30, 31] r x) hw ⟨hJ0.setc rfl (fun _ => (zI.top _)), (zFr.refl).set rfl⟩ (fun r1 er1 hw pr1 => ?_)
  have hE := zletE er1 hE
  refine lv_aload_n hx hb dX12_see_5 rfl (lv_at hl 0 rfl) ?_
  refine lv_iload_n hx hb dX12_see_6 rfl (lv_at hl 1 rfl) ?_
  refine mcallV (As := [.int a1]) (rest := []) ⟨hx, hb, hml, hown, hts⟩ (mc_isTown l D ct h0 y B a1 r1 q pr1.1) (wqX12_373_mc_isTown hts ⟨Nat.le_of_ble_eq_true rfl, Nat.le_of_ble_eq_true rfl⟩) hw hS hA hK hN rfl hl.1 rfl (Nat.le_of_ble_eq_true rfl) dX12_see_7 10 rfl (fun u2 H locs pu2 hw hS => ?_)
  have hu2 : zI 0 1 u2 := pu2.1
  have yu2_0 : ¬ u2 = 0 → zI 0 5 a1 := pu2.2.1
  have xu2 : u2 = (Gm_isTown a1 r1 q) := pu2.2.2.1
  have hE := zletE xu2 hE
  have hw : zPD D A (mW ct h0 y r1 q) H := hw
  refine zfr 10 [.int u2] rfl rfl ?_
  refine lv_if_eq (tgt := 24) hx hb dX12_see_10 (by decide) (fun c4 => ?_) (fun c4 => ?_)
  · have hE := zifT c4 hE
    have k5 : zI 0 0 (u2) := zI.eqq c4 (zI.lit (a := 0) (b := 0) (c := 0) (by decide))
    refine lv_iconst (v := 0) hx hb dX12_see_24 (by decide) ?_
    exact ziretQ hQ hx hb hr rfl hlocks (0, r1) rfl ⟨((zI.lit (a := 0) (b := 0) (c := 0) (by decide)).w (c := 0) (d := 1) (by decide)), pr1.1, pr1.2, (hE.symm.trans hX), trivial⟩ hw hS dX12_see_25
  · have hE := zifF c4 hE
    have k6 : zI 1 1 (u2) := zI.neD c4 hu2 (zI.lit (a := 0) (b := 0) (c := 0) (by decide)) (by decide)
    refine lv_aload_n hx hb dX12_see_13 rfl (lv_at hl 0 rfl) ?_
    refine mget (v := .ref (y 29)) hx hb hts hiX12 hown hK hw 42 (by decide) lf99 rfl rfl dX12_see_14 ?_
    refine lv_iconst (v := 0) hx hb dX12_see_17 (by decide) ?_
    refine ziald hx hb hK hw 30 mWg29 0 (by decide) (by decide) (by decide) dX12_see_18 ?_
    refine lv_bipush (v := 8) hx hb dX12_see_19 (by decide) ?_
    refine lv_icmp_ne (tgt := 26) hx hb dX12_see_21 (by decide) (fun c7 => ?_) (fun c7 => ?_)
    · have hE := zifnT c7 hE
      have k8 : zI 0 7 (r1 29 0) := zI.neU c7 (show zI 0 8 (r1 29 0) from pr1.1.i 29 0) (zI.lit (a := 8) (b := 8) (c := 8) (by decide)) (by decide)
      refine lv_aload_n hx hb dX12_see_26 rfl (lv_at hl 0 rfl) ?_
      refine mget (v := .ref (y 30)) hx hb hts hiX12 hown hK hw 43 (by decide) lf102 rfl rfl dX12_see_27 ?_
      refine lv_aload_n hx hb dX12_see_30 rfl (lv_at hl 0 rfl) ?_
      refine mget (v := .ref (y 29)) hx hb hts hiX12 hown hK hw 42 (by decide) lf99 rfl rfl dX12_see_31 ?_
      refine lv_iconst (v := 0) hx hb dX12_see_34 (by decide) ?_
      refine ziald hx hb hK hw 30 mWg29 0 (by decide) (by decide) (by decide) dX12_see_35 ?_
      refine lv_iload_n hx hb dX12_see_36 rfl (lv_at hl 1 rfl) ?_
      refine miast hx hb hK hw hS 31 mWg30 k8 (by decide) dX12_see_37 (mW ct h0 y (zset r1 30 (upd (r1 30) (zn (r1 29 0)) a1)) q) mWs30 (fun H locs hw hS => ?_)
      refine mgen (P := fun x => mJ B x ∧ zFr [100, 29, 30, 31] r x) hw ⟨pr1.1.set rfl (yu2_0 c4), pr1.2.set rfl⟩ (fun r9 er9 hw pr9 => ?_)
      have hE := zletE er9 hE
      refine lv_aload_n hx hb dX12_see_38 rfl (lv_at hl 0 rfl) ?_
      refine mget (v := .ref (y 31)) hx hb hts hiX12 hown hK hw 44 (by decide) lf105 rfl rfl dX12_see_39 ?_
      refine lv_aload_n hx hb dX12_see_42 rfl (lv_at hl 0 rfl) ?_
      refine mget (v := .ref (y 29)) hx hb hts hiX12 hown hK hw 42 (by decide) lf99 rfl rfl dX12_see_43 ?_
      refine lv_iconst (v := 0) hx hb dX12_see_46 (by decide) ?_
      refine ziald hx hb hK hw 30 mWg29 0 (by decide) (by decide) (by decide) dX12_see_47 ?_
      refine lv_iload_n hx hb dX12_see_48 rfl (lv_at hl 2 rfl) ?_
      refine mzast hx hb hK hw hS 32 mWg31 (zs_at er9 k8 (by decide)) (by decide)  g2 dX12_see_49 (mW ct h0 y (zset r9 31 (upd (r9 31) (zn (r9 29 0)) a2)) q) mWs31 (fun H locs hw hS => ?_)
      refine mgen (P := fun x => mJ B x ∧ zFr [100, 29, 30, 31] r x) hw ⟨pr9.1.set rfl g2, pr9.2.set rfl⟩ (fun r10 er10 hw pr10 => ?_)
      have hE := zletE er10 hE
      refine lv_aload_n hx hb dX12_see_50 rfl (lv_at hl 0 rfl) ?_
      refine mget (v := .ref (y 29)) hx hb hts hiX12 hown hK hw 42 (by decide) lf99 rfl rfl dX12_see_51 ?_
      refine lv_iconst (v := 0) hx hb dX12_see_54 (by decide) ?_
      refine lv_dup2_11 hx hb dX12_see_55 rfl rfl ?_
      refine ziald hx hb hK hw 30 mWg29 0 (by decide) (by decide) (by decide) dX12_see_56 ?_
      refine lv_iconst (v := 1) hx hb dX12_see_57 (by decide) ?_
      refine lv_iadd hx hb dX12_see_58 (zgenE (lo := 1) (hi := 8) (zI.add (zs_at er10 (zs_at er9 k8 (by decide)) (by decide)) (zI.lit (a := 1) (b := 1) (c := 1) (by decide)) (by decide)) (fun v11 ev11 hv11 => ?_))
      have hE := zletE ev11 hE
      refine ziast hx hb hK hw hS 30 mWg29 0 (by decide) (by decide) (by decide) dX12_see_59 (mW ct h0 y (zset r10 29 (upd (r10 29) 0 v11)) q) mWs29 (fun H locs hw hS => ?_)
      refine mgen (P := fun x => mJ B x ∧ zFr [100, 29, 30, 31] r x) hw ⟨pr10.1.set rfl (hv11.w (c := 0) (d := 8) (by decide)), pr10.2.set rfl⟩ (fun r12 er12 hw pr12 => ?_)
      have hE := zletE er12 hE
      refine lv_iconst (v := 1) hx hb dX12_see_60 (by decide) ?_
      exact ziretQ hQ hx hb hr rfl hlocks (1, r12) rfl ⟨((zI.lit (a := 1) (b := 1) (c := 1) (by decide)).w (c := 0) (d := 1) (by decide)), pr12.1, pr12.2, (hE.symm.trans hX), trivial⟩ hw hS dX12_see_61
    · have hE := zifnF c7 hE
      have k13 : zI 8 8 (r1 29 0) := zI.eqq c7 (zI.lit (a := 8) (b := 8) (c := 8) (by decide))
      refine lv_iconst (v := 0) hx hb dX12_see_24 (by decide) ?_
      exact ziretQ hQ hx hb hr rfl hlocks (0, r1) rfl ⟨((zI.lit (a := 0) (b := 0) (c := 0) (by decide)).w (c := 0) (d := 1) (by decide)), pr1.1, pr1.2, (hE.symm.trans hX), trivial⟩ hw hS dX12_see_25

set_option maxHeartbeats 4000000 in
set_option maxRecDepth 100000 in
theorem mc_isAsSeen (l : Launch) (D : va_G) (ct : Nat → ClassId) (h0 : Nat) (y : Nat → Nat) (B : Int) (a1 : Int32) (r : zRr) (q : zRq) (hJ0 : mJ B r) : zC l yX12_isAsSeen (.code yX12_isAsSeen cX12_isAsSeen 3 (some .boolean) :: wsL_law0) ({ frames := 5, cells := 0, slots := 0, locals := 240 }) D ct [] [.ref h0, .int a1] (mW ct h0 y r q) (S := Int32 × zRr) (fun u => some (.int u.1)) (fun u => zI 0 1 u.1 ∧ mJ B u.2 ∧ zFr [15, 16, 17, 18, 19, 20, 21, 22, 23, 24] r u.2 ∧ True) (fun u => mW ct h0 y u.2 q) 0 0 := by
  refine zofQ cX12_isAsSeen 3 (some .boolean) (by decide) rfl (Nat.le_of_ble_eq_true rfl) ?_
  intro p e s m below meth c A a9 Q ha9 hx hb hr hml hts hown hlocks hname hK hA hZ hN hQ
  have hown : s.vm.findClass RX12 = some m.cls := hown
  have hiX12 : ∀ w ∈ wsX120, w ∈ .code yX12_isAsSeen cX12_isAsSeen 3 (some .boolean) :: wsL_law0 := fun _ h => ki (zs_wsX120 _ h)
  have lf23 := hts (.fieldLink RX12 23 "BeardPassModel" "asks" "[I") (ki (zr7 23 rfl))
  have lf99 := hts (.fieldLink RX12 99 "BeardPassModel" "seens" "[I") (ki (zr9 1 rfl))
  have lf102 := hts (.fieldLink RX12 102 "BeardPassModel" "seenTown" "[I") (ki (zr9 2 rfl))
  have lf105 := hts (.fieldLink RX12 105 "BeardPassModel" "seenLet" "[Z") (ki (zr9 3 rfl))
  have cut2 : ∀ (n : Nat) (w2_2 : Int32) (rw2 : zRr) (hw2_2 : zI 0 8 w2_2) (jw2 : mJ B rw2) (fw2 : zFr [15, 16, 17, 18, 19, 20, 21, 22, 23, 24] r rw2), 8 - w2_2.toInt < (n : Int) → zKf p l e ({ frames := 5, cells := 0, slots := 0, locals := 240 }) s m a9 below meth c Q D A 2 3 [] (mW ct h0 y rw2 q) [(0, .ref h0), (1, .int a1), (2, .int w2_2)] := by
    intro n
    induction n with
    | zero => intro w2_2 rw2 hw2_2 jw2 fw2 hm2; exact zI.no hw2_2 (by decide) hm2
    | succ n ih2 =>
      intro w2_2 rw2 hw2_2 jw2 fw2 hm2
      intro H locs ls hw hS hl
      refine lv_iload_n hx hb dX12_isAsSeen_2 rfl (lv_at hl 2 rfl) ?_
      refine lv_aload_n hx hb dX12_isAsSeen_3 rfl (lv_at hl 0 rfl) ?_
      refine mget (v := .ref (y 29)) hx hb hts hiX12 hown hK hw 42 (by decide) lf99 rfl rfl dX12_isAsSeen_4 ?_
      refine lv_iconst (v := 0) hx hb dX12_isAsSeen_7 (by decide) ?_
      refine ziald hx hb hK hw 30 mWg29 0 (by decide) (by decide) (by decide) dX12_isAsSeen_8 (zgen (lo := 0) (hi := 8) ((show zI 0 8 (rw2 29 0) from jw2.i 29 0)) (fun v1 hv1 => ?_))
      refine lv_icmp_ge (tgt := 46) hx hb dX12_isAsSeen_9 (by decide) (fun c2 => ?_) (fun c2 => ?_)
      · refine lv_iconst (v := 1) hx hb dX12_isAsSeen_46 (by decide) ?_
        exact ziretQ hQ hx hb hr rfl hlocks (1, rw2) rfl ⟨((zI.lit (a := 1) (b := 1) (c := 1) (by decide)).w (c := 0) (d := 1) (by decide)), jw2, fw2, trivial⟩ hw hS dX12_isAsSeen_47
      · have k3 : zI 0 7 (w2_2) := zI.ltU (zI.nle c2) hw2_2 hv1 (by decide)
        have k4 : zI 1 8 (v1) := zI.ltD (zI.nle c2) hw2_2 hv1 (by decide)
        refine lv_aload_n hx hb dX12_isAsSeen_12 rfl (lv_at hl 0 rfl) ?_
        refine lv_iload_n hx hb dX12_isAsSeen_13 rfl (lv_at hl 1 rfl) ?_
        refine lv_iconst (v := 0) hx hb dX12_isAsSeen_14 (by decide) ?_
        refine lv_aload_n hx hb dX12_isAsSeen_15 rfl (lv_at hl 0 rfl) ?_
        refine mget (v := .ref (y 4)) hx hb hts hiX12 hown hK hw 13 (by decide) lf23 rfl rfl dX12_isAsSeen_16 ?_
        refine lv_aload_n hx hb dX12_isAsSeen_19 rfl (lv_at hl 0 rfl) ?_
        refine mget (v := .ref (y 30)) hx hb hts hiX12 hown hK hw 43 (by decide) lf102 rfl rfl dX12_isAsSeen_20 ?_
        refine lv_iload_n hx hb dX12_isAsSeen_23 rfl (lv_at hl 2 rfl) ?_
        refine miald hx hb hK hw 31 mWg30 k3 (by decide) dX12_isAsSeen_24 (zgen (lo := 0) (hi := 5) ((show zI 0 5 (rw2 30 _) from jw2.i 30 _)) (fun v5 hv5 => ?_))
        refine miald hx hb hK hw 5 mWg4 hv5 (by decide) dX12_isAsSeen_25 (zgen (zI.top _) (fun v6 _ => ?_))
        refine mcallV (As := [.int a1, .int 0, .int v6]) (rest := []) ⟨hx, hb, hml, hown, hts⟩ (mc_readsBeard l D ct h0 y B a1 0 v6 rw2 q jw2) (wqX12_352_mc_readsBeard hts ⟨Nat.le_of_ble_eq_true rfl, Nat.le_of_ble_eq_true rfl⟩) hw hS hA hK hN rfl hl.1 rfl (Nat.le_of_ble_eq_true rfl) dX12_isAsSeen_26 29 rfl (fun u7 H locs pu7 hw hS => ?_)
        obtain ⟨v8, r9⟩ := u7
        have hv8 : zI 0 1 v8 := pu7.1
        have ju7 : mJ B r9 := pu7.2.1
        have fu7 : zFr [15, 16, 17, 18, 19, 20, 21, 22, 23, 24] rw2 r9 := pu7.2.2.1
        have xu7 : (v8, r9) = (Gm_readsBeard a1 (0 : Int32) v6 rw2 q) := pu7.2.2.2.1
        have hw : zPD D A (mW ct h0 y r9 q) H := hw
        refine zfr 29 [.int v8] rfl rfl ?_
        refine lv_aload_n hx hb dX12_isAsSeen_29 rfl (lv_at hl 0 rfl) ?_
        refine mget (v := .ref (y 31)) hx hb hts hiX12 hown hK hw 44 (by decide) lf105 rfl rfl dX12_isAsSeen_30 ?_
        refine lv_iload_n hx hb dX12_isAsSeen_33 rfl (lv_at hl 2 rfl) ?_
        refine mzald hx hb hK hw 32 mWg31 k3 (by decide) dX12_isAsSeen_34 (zgen (lo := 0) (hi := 1) ((show zI 0 1 (r9 31 _) from ju7.i 31 _)) (fun v10 hv10 => ?_))
        refine lv_icmp_eq (tgt := 40) hx hb dX12_isAsSeen_35 (by decide) (fun c11 => ?_) (fun c11 => ?_)
        · refine lv_iinc (v := w2_2 + 1) (lv' := [(2, .int (w2_2 + 1)), (0, .ref h0), (1, .int a1)]) hx hb dX12_isAsSeen_40 hl (k := 2) rfl (rfl) (by decide) rfl (fun ls hl => ?_)
          have k12 : zI 1 8 (w2_2 + 1) := zI.add k3 (zI.lit (a := 1) (b := 1) (by decide)) (by decide)
          refine lv_goto (tgt := 2) hx hb dX12_isAsSeen_43 (by decide) ?_
          exact ih2 (w2_2 + 1) r9 (k12.w (c := 0) (d := 8) (by decide)) ju7 (fw2.tr fu7 rfl) (zI.up k3 (by decide) hm2) H locs ls hw hS (lv_sub hl [1, 2, 0] rfl)
        · refine lv_iconst (v := 0) hx hb dX12_isAsSeen_38 (by decide) ?_
          exact ziretQ hQ hx hb hr rfl hlocks (0, r9) rfl ⟨((zI.lit (a := 0) (b := 0) (c := 0) (by decide)).w (c := 0) (d := 1) (by decide)), ju7, (fw2.tr fu7 rfl), trivial⟩ hw hS dX12_isAsSeen_39
  intro H locs hw hS ls hl
  have hl : lv_has ls 3 [(0, .ref h0), (1, .int a1)] := hl
  refine lv_iconst (v := 0) hx hb dX12_isAsSeen_0 (by decide) ?_
  refine lv_istore_n (lv' := [(2, .int 0), (0, .ref h0), (1, .int a1)]) hx hb dX12_isAsSeen_1 rfl hl (by decide) rfl (fun ls hl => ?_)
  exact cut2 9 0 r ((zI.lit (a := 0) (b := 0) (c := 0) (by decide)).w (c := 0) (d := 8) (by decide)) hJ0 (zFr.refl) (zI.m0 (zI.lit (a := 0) (b := 0) (c := 0) (by decide)) (by decide)) H locs ls hw hS (lv_sub hl [1, 2, 0] rfl)

set_option maxHeartbeats 4000000 in
set_option maxRecDepth 100000 in
theorem mc_lengths (l : Launch) (D : va_G) (ct : Nat → ClassId) (h0 : Nat) (y : Nat → Nat) (B : Int) (a1 : Int32) (r : zRr) (q : zRq) (hJ0 : mJ B r) : zC l yX12_lengths (.code yX12_lengths cX12_lengths 6 (some .int) :: wsL_law0) ({ frames := 6, cells := 0, slots := 0, locals := 280 }) D ct [] [.ref h0, .int a1] (mW ct h0 y r q) (S := Int32 × zRr) (fun u => some (.int u.1)) (fun u => zI (-2147483648) 2147483647 u.1 ∧ mJ B u.2 ∧ zFr [15, 16, 17, 18, 19, 20, 21, 22, 23, 24, 100] r u.2 ∧ True) (fun u => mW ct h0 y u.2 q) 0 0 := by
  refine zofQ cX12_lengths 6 (some .int) (by decide) rfl (Nat.le_of_ble_eq_true rfl) ?_
  intro p e s m below meth c A a9 Q ha9 hx hb hr hml hts hown hlocks hname hK hA hZ hN hQ
  have hown : s.vm.findClass RX12 = some m.cls := hown
  have hiX12 : ∀ w ∈ wsX120, w ∈ .code yX12_lengths cX12_lengths 6 (some .int) :: wsL_law0 := fun _ h => ki (zs_wsX120 _ h)
  have lf129 := hts (.fieldLink RX12 129 "BeardPassModel" "thrown" "I") (ki (zr10 1 rfl))
  have cut26 : ∀ (n : Nat) (w26_2 : Int32) (w26_3 : Int32) (w26_4 : Int32) (w26_5 : Int32) (rw26 : zRr) (hw26_1 : zI 0 2 a1) (hw26_3 : zI (-1) 30 w26_3) (hw26_4 : zI (-1) 30 w26_4) (hw26_5 : zI 0 31 w26_5) (jw26 : mJ B rw26) (fw26 : zFr [15, 16, 17, 18, 19, 20, 21, 22, 23, 24, 100] r rw26), 31 - w26_5.toInt < (n : Int) → zKf p l e ({ frames := 6, cells := 0, slots := 0, locals := 280 }) s m a9 below meth c Q D A 26 6 [] (mW ct h0 y rw26 q) [(0, .ref h0), (1, .int a1), (2, .int w26_2), (3, .int w26_3), (4, .int w26_4), (5, .int w26_5)] := by
    intro n
    induction n with
    | zero => intro w26_2 w26_3 w26_4 w26_5 rw26 hw26_1 hw26_3 hw26_4 hw26_5 jw26 fw26 hm26; exact zI.no hw26_5 (by decide) hm26
    | succ n ih26 =>
      intro w26_2 w26_3 w26_4 w26_5 rw26 hw26_1 hw26_3 hw26_4 hw26_5 jw26 fw26 hm26
      have cut59 : ∀ (w59_2 : Int32) (w59_3 : Int32) (w59_4 : Int32) (rw59 : zRr) (hw59_1 : zI 0 2 a1) (hw59_3 : zI (-1) 30 w59_3) (hw59_4 : zI (-1) 30 w59_4) (hw59_5 : zI 0 30 w26_5) (jw59 : mJ B rw59) (fw59 : zFr [15, 16, 17, 18, 19, 20, 21, 22, 23, 24, 100] r rw59), zKf p l e ({ frames := 6, cells := 0, slots := 0, locals := 280 }) s m a9 below meth c Q D A 59 6 [] (mW ct h0 y rw59 q) [(0, .ref h0), (1, .int a1), (2, .int w59_2), (3, .int w59_3), (4, .int w59_4), (5, .int w26_5)] := by
        intro w59_2 w59_3 w59_4 rw59 hw59_1 hw59_3 hw59_4 hw59_5 jw59 fw59 H locs ls hw hS hl
        refine lv_iinc (v := w26_5 + 1) (lv' := [(5, .int (w26_5 + 1)), (0, .ref h0), (1, .int a1), (2, .int w59_2), (3, .int w59_3), (4, .int w59_4)]) hx hb dX12_lengths_59 hl (k := 5) rfl (rfl) (by decide) rfl (fun ls hl => ?_)
        have k1 : zI 1 31 (w26_5 + 1) := zI.add hw59_5 (zI.lit (a := 1) (b := 1) (by decide)) (by decide)
        refine lv_goto (tgt := 26) hx hb dX12_lengths_62 (by decide) ?_
        exact ih26 w59_2 w59_3 w59_4 (w26_5 + 1) rw59 hw59_1 hw59_3 hw59_4 (k1.w (c := 0) (d := 31) (by decide)) jw59 fw59 (zI.up hw59_5 (by decide) hm26) H locs ls hw hS (lv_sub hl [1, 2, 3, 4, 5, 0] rfl)
      have cut55 : ∀ (w55_3 : Int32) (rw55 : zRr) (hw55_1 : zI 0 2 a1) (hw55_3 : zI 0 30 w55_3) (hw55_5 : zI 0 30 w26_5) (jw55 : mJ B rw55) (fw55 : zFr [15, 16, 17, 18, 19, 20, 21, 22, 23, 24, 100] r rw55), zKf p l e ({ frames := 6, cells := 0, slots := 0, locals := 280 }) s m a9 below meth c Q D A 55 6 [] (mW ct h0 y rw55 q) [(0, .ref h0), (1, .int a1), (2, .int (w26_2 + 1)), (3, .int w55_3), (5, .int w26_5)] := by
        intro w55_3 rw55 hw55_1 hw55_3 hw55_5 jw55 fw55 H locs ls hw hS hl
        refine lv_iload hx hb dX12_lengths_55 (lv_at hl 4 rfl) ?_
        refine lv_istore (lv' := [(4, .int w26_5), (0, .ref h0), (1, .int a1), (2, .int (w26_2 + 1)), (3, .int w55_3), (5, .int w26_5)]) hx hb dX12_lengths_57 hl (by decide) rfl (fun ls hl => ?_)
        exact cut59 (w26_2 + 1) w55_3 w26_5 rw55 hw55_1 (hw55_3.w (c := (-1)) (d := 30) (by decide)) (hw55_5.w (c := (-1)) (d := 30) (by decide)) hw55_5 jw55 fw55 H locs ls hw hS (lv_sub hl [1, 2, 3, 4, 0, 5] rfl)
      intro H locs ls hw hS hl
      refine lv_iload hx hb dX12_lengths_26 (lv_at hl 5 rfl) ?_
      refine lv_bipush (v := 31) hx hb dX12_lengths_28 (by decide) ?_
      refine lv_icmp_ge (tgt := 65) hx hb dX12_lengths_30 (by decide) (fun c2 => ?_) (fun c2 => ?_)
      · have k3 : zI 31 31 (w26_5) := zI.leD c2 (zI.lit (a := 31) (b := 31) (c := 31) (by decide)) hw26_5 (by decide)
        refine lv_iload_n hx hb dX12_lengths_65 rfl (lv_at hl 1 rfl) ?_
        refine lv_if_ne (tgt := 73) hx hb dX12_lengths_66 (by decide) (fun c4 => ?_) (fun c4 => ?_)
        · have k5 : zI 1 2 (a1) := zI.neD c4 hw26_1 (zI.lit (a := 0) (b := 0) (c := 0) (by decide)) (by decide)
          refine lv_iload_n hx hb dX12_lengths_73 rfl (lv_at hl 1 rfl) ?_
          refine lv_iconst (v := 1) hx hb dX12_lengths_74 (by decide) ?_
          refine lv_icmp_ne (tgt := 82) hx hb dX12_lengths_75 (by decide) (fun c6 => ?_) (fun c6 => ?_)
          · have k7 : zI 2 2 (a1) := zI.neD c6 k5 (zI.lit (a := 1) (b := 1) (c := 1) (by decide)) (by decide)
            refine lv_iload hx hb dX12_lengths_82 (lv_at hl 4 rfl) ?_
            exact ziretQ hQ hx hb hr rfl hlocks (w26_4, rw26) rfl ⟨(zI.top _), jw26, fw26, trivial⟩ hw hS dX12_lengths_84
          · have k8 : zI 1 1 (a1) := zI.eqq c6 (zI.lit (a := 1) (b := 1) (c := 1) (by decide))
            refine lv_iload_n hx hb dX12_lengths_78 rfl (lv_at hl 3 rfl) ?_
            refine lv_goto (tgt := 84) hx hb dX12_lengths_79 (by decide) ?_
            exact ziretQ hQ hx hb hr rfl hlocks (w26_3, rw26) rfl ⟨(zI.top _), jw26, fw26, trivial⟩ hw hS dX12_lengths_84
        · have k9 : zI 0 0 (a1) := zI.eqq c4 (zI.lit (a := 0) (b := 0) (c := 0) (by decide))
          refine lv_iload_n hx hb dX12_lengths_69 rfl (lv_at hl 2 rfl) ?_
          refine lv_goto (tgt := 84) hx hb dX12_lengths_70 (by decide) ?_
          exact ziretQ hQ hx hb hr rfl hlocks (w26_2, rw26) rfl ⟨(zI.top _), jw26, fw26, trivial⟩ hw hS dX12_lengths_84
      · have k10 : zI 0 30 (w26_5) := zI.ltU (zI.nle c2) hw26_5 (zI.lit (a := 31) (b := 31) (c := 31) (by decide)) (by decide)
        refine lv_aload_n hx hb dX12_lengths_33 rfl (lv_at hl 0 rfl) ?_
        refine lv_iload hx hb dX12_lengths_34 (lv_at hl 5 rfl) ?_
        refine mcallV (As := [.int w26_5]) (rest := []) ⟨hx, hb, hml, hown, hts⟩ (mc_isAsSeen l D ct h0 y B w26_5 rw26 q jw26) (wqX12_441_mc_isAsSeen hts ⟨Nat.le_of_ble_eq_true rfl, Nat.le_of_ble_eq_true rfl⟩) hw hS hA hK hN rfl hl.1 rfl (Nat.le_of_ble_eq_true rfl) dX12_lengths_36 39 rfl (fun u11 H locs pu11 hw hS => ?_)
        obtain ⟨v12, r13⟩ := u11
        have hv12 : zI 0 1 v12 := pu11.1
        have ju11 : mJ B r13 := pu11.2.1
        have fu11 : zFr [15, 16, 17, 18, 19, 20, 21, 22, 23, 24] rw26 r13 := pu11.2.2.1
        have hw : zPD D A (mW ct h0 y r13 q) H := hw
        refine zfr 39 [.int v12] rfl rfl ?_
        refine lv_if_ne (tgt := 45) hx hb dX12_lengths_39 (by decide) (fun c14 => ?_) (fun c14 => ?_)
        · have k15 : zI 1 1 (v12) := zI.neD c14 hv12 (zI.lit (a := 0) (b := 0) (c := 0) (by decide)) (by decide)
          refine lv_iinc (v := w26_2 + 1) (lv' := [(2, .int (w26_2 + 1)), (0, .ref h0), (1, .int a1), (3, .int w26_3), (4, .int w26_4), (5, .int w26_5)]) hx hb dX12_lengths_45 hl (k := 2) rfl (rfl) (by decide) rfl (fun ls hl => ?_)
          refine lv_iload_n hx hb dX12_lengths_48 rfl (lv_at hl 3 rfl) ?_
          refine lv_if_ge (tgt := 55) hx hb dX12_lengths_49 (by decide) (fun c16 => ?_) (fun c16 => ?_)
          · have k17 : zI 0 30 (w26_3) := zI.leD c16 (zI.lit (a := 0) (b := 0) (c := 0) (by decide)) hw26_3 (by decide)
            exact cut55 w26_3 r13 hw26_1 k17 k10 ju11 (fw26.tr fu11 rfl) H locs ls hw hS (lv_sub hl [1, 2, 0, 3, 5] rfl)
          · have k18 : zI (-1) (-1) (w26_3) := zI.ltU (zI.nle c16) hw26_3 (zI.lit (a := 0) (b := 0) (c := 0) (by decide)) (by decide)
            refine lv_iload hx hb dX12_lengths_52 (lv_at hl 5 rfl) ?_
            refine lv_istore_n (lv' := [(3, .int w26_5), (2, .int (w26_2 + 1)), (0, .ref h0), (1, .int a1), (4, .int w26_4), (5, .int w26_5)]) hx hb dX12_lengths_54 rfl hl (by decide) rfl (fun ls hl => ?_)
            exact cut55 w26_5 r13 hw26_1 k10 k10 ju11 (fw26.tr fu11 rfl) H locs ls hw hS (lv_sub hl [2, 3, 1, 0, 5] rfl)
        · have k19 : zI 0 0 (v12) := zI.eqq c14 (zI.lit (a := 0) (b := 0) (c := 0) (by decide))
          refine lv_goto (tgt := 59) hx hb dX12_lengths_42 (by decide) ?_
          exact cut59 w26_2 w26_3 w26_4 r13 hw26_1 hw26_3 hw26_4 k10 ju11 (fw26.tr fu11 rfl) H locs ls hw hS (lv_sub hl [0, 1, 2, 3, 4, 5] rfl)
  intro H locs hw hS ls hl
  have hl : lv_has ls 6 [(0, .ref h0), (1, .int a1)] := hl
  refine lv_aload_n hx hb dX12_lengths_0 rfl (lv_at hl 0 rfl) ?_
  refine lv_iconst (v := 0) hx hb dX12_lengths_1 (by decide) ?_
  refine mput (ty := .int) (v := .int 0) hx hb hts hiX12 hown hK hw hS 0 (by decide) lf129 rfl rfl (by decide +kernel) rfl rfl dX12_lengths_2 (zset r 100 (fun _ => (0 : Int32))) _ mWf0 (fun H locs hw hS => ?_)
  refine mgen (P := fun x => mJ B x ∧ zFr [15, 16, 17, 18, 19, 20, 21, 22, 23, 24, 100] r x) hw ⟨hJ0.setc rfl (fun _ => (zI.top _)), (zFr.refl).set rfl⟩ (fun r20 er20 hw pr20 => ?_)
  refine lv_iload_n hx hb dX12_lengths_5 rfl (lv_at hl 1 rfl) ?_
  refine lv_iconst (v := 0) hx hb dX12_lengths_6 (by decide) ?_
  refine lv_iconst (v := 2) hx hb dX12_lengths_7 (by decide) ?_
  refine scallE (As := [.int a1, .int 0, .int 2]) (rest := []) ⟨hx, hb, hml, hown, hts⟩ (mc_within l D ct a1 0 2) (va_cwS 3 hts (kgS (zr25 11 rfl) (zr25 12 rfl) (zr1 5 rfl) (zr25 13 rfl)) rfl rfl rfl (by decide +kernel) ⟨Nat.le_of_ble_eq_true rfl, Nat.le_of_ble_eq_true rfl⟩) hw hS hA hK hN mWn rfl hl.1 rfl (Nat.le_of_ble_eq_true rfl) dX12_lengths_8 11 rfl (fun u21 H locs pu21 hw hS => ?_)
  have hu21 : zI 0 1 u21 := pu21.1
  have yu21_0 : ¬ u21 = 0 → (0 : Int32) ≤ a1 ∧ a1 ≤ (2 : Int32) := pu21.2.1
  have xu21 : u21 = (Gm_within a1 (0 : Int32) (2 : Int32)) := pu21.2.2.1
  refine zfr 11 [.int u21] rfl rfl ?_
  refine lv_if_ne (tgt := 16) hx hb dX12_lengths_11 (by decide) (fun c23 => ?_) (fun c23 => ?_)
  · have k24 : zI 1 1 (u21) := zI.neD c23 hu21 (zI.lit (a := 0) (b := 0) (c := 0) (by decide)) (by decide)
    have k25 : zI 0 2147483647 (a1) := zI.leD (yu21_0 c23).1 (zI.lit (a := 0) (b := 0) (c := 0) (by decide)) (zI.top _) (by decide)
    have k26 : zI 0 2 (a1) := zI.leU (yu21_0 c23).2 k25 (zI.lit (a := 2) (b := 2) (c := 2) (by decide)) (by decide)
    refine lv_iconst (v := 0) hx hb dX12_lengths_16 (by decide) ?_
    refine lv_istore_n (lv' := [(2, .int 0), (0, .ref h0), (1, .int a1)]) hx hb dX12_lengths_17 rfl hl (by decide) rfl (fun ls hl => ?_)
    refine lv_iconst (v := (-1)) hx hb dX12_lengths_18 (by decide) ?_
    refine lv_istore_n (lv' := [(3, .int (-1)), (2, .int 0), (0, .ref h0), (1, .int a1)]) hx hb dX12_lengths_19 rfl hl (by decide) rfl (fun ls hl => ?_)
    refine lv_iconst (v := (-1)) hx hb dX12_lengths_20 (by decide) ?_
    refine lv_istore (lv' := [(4, .int (-1)), (3, .int (-1)), (2, .int 0), (0, .ref h0), (1, .int a1)]) hx hb dX12_lengths_21 hl (by decide) rfl (fun ls hl => ?_)
    refine lv_iconst (v := 0) hx hb dX12_lengths_23 (by decide) ?_
    refine lv_istore (lv' := [(5, .int 0), (4, .int (-1)), (3, .int (-1)), (2, .int 0), (0, .ref h0), (1, .int a1)]) hx hb dX12_lengths_24 hl (by decide) rfl (fun ls hl => ?_)
    exact cut26 32 0 (-1) (-1) 0 r20 k26 ((zI.lit (a := (-1)) (b := (-1)) (c := (-1)) (by decide)).w (c := (-1)) (d := 30) (by decide)) ((zI.lit (a := (-1)) (b := (-1)) (c := (-1)) (by decide)).w (c := (-1)) (d := 30) (by decide)) ((zI.lit (a := 0) (b := 0) (c := 0) (by decide)).w (c := 0) (d := 31) (by decide)) pr20.1 pr20.2 (zI.m0 (zI.lit (a := 0) (b := 0) (c := 0) (by decide)) (by decide)) H locs ls hw hS (lv_sub hl [4, 5, 3, 2, 1, 0] rfl)
  · have k27 : zI 0 0 (u21) := zI.eqq c23 (zI.lit (a := 0) (b := 0) (c := 0) (by decide))
    refine lv_iconst (v := (-1)) hx hb dX12_lengths_14 (by decide) ?_
    exact ziretQ hQ hx hb hr rfl hlocks ((-1), r20) rfl ⟨(zI.top _), pr20.1, pr20.2, trivial⟩ hw hS dX12_lengths_15

set_option maxHeartbeats 4000000 in
set_option maxRecDepth 100000 in
theorem mc_ask (l : Launch) (D : va_G) (ct : Nat → ClassId) (h0 : Nat) (y : Nat → Nat) (B : Int) (r : zRr) (q : zRq) (hJ0 : mJ B r) : zC l yX12_ask (.code yX12_ask cX12_ask 7 (some .int) :: wsL_law0) ({ frames := 7, cells := 0, slots := 0, locals := 320 }) D ct [] [.ref h0] (mW ct h0 y r q) (S := Int32 × zRr) (fun u => some (.int u.1)) (fun u => zI (-2147483648) 2147483647 u.1 ∧ mJ B u.2 ∧ zFr [15, 16, 17, 18, 19, 20, 21, 22, 23, 24, 100] r u.2 ∧ True) (fun u => mW ct h0 y u.2 q) 0 0 := by
  refine zofQ cX12_ask 7 (some .int) (by decide) rfl (Nat.le_of_ble_eq_true rfl) ?_
  intro p e s m below meth c A a9 Q ha9 hx hb hr hml hts hown hlocks hname hK hA hZ hN hQ
  have hown : s.vm.findClass RX12 = some m.cls := hown
  have hiX12 : ∀ w ∈ wsX120, w ∈ .code yX12_ask cX12_ask 7 (some .int) :: wsL_law0 := fun _ h => ki (zs_wsX120 _ h)
  have lf13 := hts (.fieldLink RX12 13 "BeardPassModel" "land" "[I") (ki (zr7 20 rfl))
  have lf23 := hts (.fieldLink RX12 23 "BeardPassModel" "asks" "[I") (ki (zr7 23 rfl))
  have lf129 := hts (.fieldLink RX12 129 "BeardPassModel" "thrown" "I") (ki (zr10 1 rfl))
  have cut18 : ∀ (n : Nat) (w18_1 : Int32) (w18_2 : Int32) (w18_3 : Int32) (w18_4 : Int32) (rw18 : zRr) (hw18_3 : zI (-1) 5 w18_3) (hw18_4 : zI 0 6 w18_4) (jw18 : mJ B rw18) (fw18 : zFr [15, 16, 17, 18, 19, 20, 21, 22, 23, 24, 100] r rw18), 6 - w18_4.toInt < (n : Int) → zKf p l e ({ frames := 7, cells := 0, slots := 0, locals := 320 }) s m a9 below meth c Q D A 18 7 [] (mW ct h0 y rw18 q) [(0, .ref h0), (1, .int w18_1), (2, .int w18_2), (3, .int w18_3), (4, .int w18_4)] := by
    intro n
    induction n with
    | zero => intro w18_1 w18_2 w18_3 w18_4 rw18 hw18_3 hw18_4 jw18 fw18 hm18; exact zI.no hw18_4 (by decide) hm18
    | succ n ih18 =>
      intro w18_1 w18_2 w18_3 w18_4 rw18 hw18_3 hw18_4 jw18 fw18 hm18
      have cut110 : ∀ (w110_2 : Int32) (w110_3 : Int32) (rw110 : zRr) (hw110_3 : zI (-1) 5 w110_3) (hw110_4 : zI 0 5 w18_4) (jw110 : mJ B rw110) (fw110 : zFr [15, 16, 17, 18, 19, 20, 21, 22, 23, 24, 100] r rw110), zKf p l e ({ frames := 7, cells := 0, slots := 0, locals := 320 }) s m a9 below meth c Q D A 110 7 [] (mW ct h0 y rw110 q) [(0, .ref h0), (1, .int w18_1), (2, .int w110_2), (3, .int w110_3), (4, .int w18_4)] := by
        intro w110_2 w110_3 rw110 hw110_3 hw110_4 jw110 fw110 H locs ls hw hS hl
        refine lv_iinc (v := w18_4 + 1) (lv' := [(4, .int (w18_4 + 1)), (0, .ref h0), (1, .int w18_1), (2, .int w110_2), (3, .int w110_3)]) hx hb dX12_ask_110 hl (k := 4) rfl (rfl) (by decide) rfl (fun ls hl => ?_)
        have k1 : zI 1 6 (w18_4 + 1) := zI.add hw110_4 (zI.lit (a := 1) (b := 1) (by decide)) (by decide)
        refine lv_goto (tgt := 18) hx hb dX12_ask_113 (by decide) ?_
        exact ih18 w18_1 w110_2 w110_3 (w18_4 + 1) rw110 hw110_3 (k1.w (c := 0) (d := 6) (by decide)) jw110 fw110 (zI.up hw110_4 (by decide) hm18) H locs ls hw hS (lv_sub hl [1, 2, 3, 4, 0] rfl)
      have cut35 : ∀ (n : Nat) (w35_5 : Int32) (w35_6 : Int32) (rw35 : zRr) (hw35_3 : zI (-1) 5 w18_3) (hw35_4 : zI 0 5 w18_4) (hw35_6 : zI 0 31 w35_6) (jw35 : mJ B rw35) (fw35 : zFr [15, 16, 17, 18, 19, 20, 21, 22, 23, 24, 100] r rw35), 31 - w35_6.toInt < (n : Int) → zKf p l e ({ frames := 7, cells := 0, slots := 0, locals := 320 }) s m a9 below meth c Q D A 35 7 [] (mW ct h0 y rw35 q) [(0, .ref h0), (1, .int w18_1), (2, .int w18_2), (3, .int w18_3), (4, .int w18_4), (5, .int w35_5), (6, .int w35_6)] := by
        intro n
        induction n with
        | zero => intro w35_5 w35_6 rw35 hw35_3 hw35_4 hw35_6 jw35 fw35 hm35; exact zI.no hw35_6 (by decide) hm35
        | succ n ih35 =>
          intro w35_5 w35_6 rw35 hw35_3 hw35_4 hw35_6 jw35 fw35 hm35
          have cut75 : ∀ (w75_s0 : Int32) (rw75 : zRr) (hw75_3 : zI (-1) 5 w18_3) (hw75_4 : zI 0 5 w18_4) (hw75_6 : zI 0 30 w35_6) (hw75_s0 : zI 0 1 w75_s0) (jw75 : mJ B rw75) (fw75 : zFr [15, 16, 17, 18, 19, 20, 21, 22, 23, 24, 100] r rw75), zKf p l e ({ frames := 7, cells := 0, slots := 0, locals := 320 }) s m a9 below meth c Q D A 75 7 [.int w75_s0, .int w35_5] (mW ct h0 y rw75 q) [(0, .ref h0), (1, .int w18_1), (2, .int w18_2), (3, .int w18_3), (4, .int w18_4), (6, .int w35_6)] := by
            intro w75_s0 rw75 hw75_3 hw75_4 hw75_6 hw75_s0 jw75 fw75 H locs ls hw hS hl
            refine lv_iadd hx hb dX12_ask_75 (zgen (zI.top _) (fun v2 _ => ?_))
            refine lv_istore (lv' := [(5, .int v2), (0, .ref h0), (1, .int w18_1), (2, .int w18_2), (3, .int w18_3), (4, .int w18_4), (6, .int w35_6)]) hx hb dX12_ask_76 hl (by decide) rfl (fun ls hl => ?_)
            refine lv_iinc (v := w35_6 + 1) (lv' := [(6, .int (w35_6 + 1)), (5, .int v2), (0, .ref h0), (1, .int w18_1), (2, .int w18_2), (3, .int w18_3), (4, .int w18_4)]) hx hb dX12_ask_78 hl (k := 6) rfl (rfl) (by decide) rfl (fun ls hl => ?_)
            have k3 : zI 1 31 (w35_6 + 1) := zI.add hw75_6 (zI.lit (a := 1) (b := 1) (by decide)) (by decide)
            refine lv_goto (tgt := 35) hx hb dX12_ask_81 (by decide) ?_
            exact ih35 v2 (w35_6 + 1) rw75 hw75_3 hw75_4 (k3.w (c := 0) (d := 31) (by decide)) jw75 fw75 (zI.up hw75_6 (by decide) hm35) H locs ls hw hS (lv_sub hl [2, 3, 4, 5, 6, 1, 0] rfl)
          have cut74 : ∀ (rw74 : zRr) (hw74_3 : zI (-1) 5 w18_3) (hw74_4 : zI 0 5 w18_4) (hw74_6 : zI 0 30 w35_6) (jw74 : mJ B rw74) (fw74 : zFr [15, 16, 17, 18, 19, 20, 21, 22, 23, 24, 100] r rw74), zKf p l e ({ frames := 7, cells := 0, slots := 0, locals := 320 }) s m a9 below meth c Q D A 74 7 [.int w35_5] (mW ct h0 y rw74 q) [(0, .ref h0), (1, .int w18_1), (2, .int w18_2), (3, .int w18_3), (4, .int w18_4), (6, .int w35_6)] := by
            intro rw74 hw74_3 hw74_4 hw74_6 jw74 fw74 H locs ls hw hS hl
            refine lv_iconst (v := 0) hx hb dX12_ask_74 (by decide) ?_
            exact cut75 0 rw74 hw74_3 hw74_4 hw74_6 ((zI.lit (a := 0) (b := 0) (c := 0) (by decide)).w (c := 0) (d := 1) (by decide)) jw74 fw74 H locs ls hw hS (lv_sub hl [0, 1, 2, 3, 4, 5] rfl)
          intro H locs ls hw hS hl
          refine lv_iload hx hb dX12_ask_35 (lv_at hl 6 rfl) ?_
          refine lv_bipush (v := 31) hx hb dX12_ask_37 (by decide) ?_
          refine lv_icmp_ge (tgt := 84) hx hb dX12_ask_39 (by decide) (fun c4 => ?_) (fun c4 => ?_)
          · have k5 : zI 31 31 (w35_6) := zI.leD c4 (zI.lit (a := 31) (b := 31) (c := 31) (by decide)) hw35_6 (by decide)
            refine lv_iload hx hb dX12_ask_84 (lv_at hl 5 rfl) ?_
            refine lv_iload_n hx hb dX12_ask_86 rfl (lv_at hl 1 rfl) ?_
            refine lv_iload hx hb dX12_ask_87 (lv_at hl 5 rfl) ?_
            refine lv_isub hx hb dX12_ask_89 (zgen (zI.top _) (fun v6 _ => ?_))
            refine va_mmax hx hb (hml.trans hl.1.symm) hown (hts (.methodLink RX12 404 Lib.Math.max.name) (ki (zr41 20 rfl))) (hts (.static Lib.Math.max.name) (ki (zr40 8 rfl))) (hts (.initialized "java/lang/Math") (ki (zr35 18 rfl))) (hts (.code Lib.Math.max.name Lib.Math.max.code 2 (some .int)) (ki (zr40 9 rfl))) (Nat.le_of_ble_eq_true rfl) (Nat.le_of_ble_eq_true rfl) (Nat.le_of_ble_eq_true rfl) (Nat.le_of_ble_eq_true rfl) dX12_ask_90 (zgen (zI.top _) (fun v7 _ => ?_))
            refine lv_istore (lv' := [(5, .int v7), (0, .ref h0), (1, .int w18_1), (2, .int w18_2), (3, .int w18_3), (4, .int w18_4), (6, .int w35_6)]) hx hb dX12_ask_93 hl (by decide) rfl (fun ls hl => ?_)
            refine lv_iload hx hb dX12_ask_95 (lv_at hl 0 rfl) ?_
            refine lv_iload_n hx hb dX12_ask_97 rfl (lv_at hl 3 rfl) ?_
            refine lv_icmp_lt (tgt := 104) hx hb dX12_ask_98 (by decide) (fun c8 => ?_) (fun c8 => ?_)
            · refine lv_iload hx hb dX12_ask_104 (lv_at hl 0 rfl) ?_
              refine lv_istore_n (lv' := [(2, .int v7), (5, .int v7), (0, .ref h0), (1, .int w18_1), (3, .int w18_3), (4, .int w18_4), (6, .int w35_6)]) hx hb dX12_ask_106 rfl hl (by decide) rfl (fun ls hl => ?_)
              refine lv_iload hx hb dX12_ask_107 (lv_at hl 5 rfl) ?_
              refine lv_istore_n (lv' := [(3, .int w18_4), (2, .int v7), (5, .int v7), (0, .ref h0), (1, .int w18_1), (4, .int w18_4), (6, .int w35_6)]) hx hb dX12_ask_109 rfl hl (by decide) rfl (fun ls hl => ?_)
              exact cut110 v7 w18_4 rw35 (hw35_4.w (c := (-1)) (d := 5) (by decide)) hw35_4 jw35 fw35 H locs ls hw hS (lv_sub hl [3, 4, 1, 0, 5] rfl)
            · refine lv_goto (tgt := 110) hx hb dX12_ask_101 (by decide) ?_
              exact cut110 w18_2 w18_3 rw35 hw35_3 hw35_4 jw35 fw35 H locs ls hw hS (lv_sub hl [1, 2, 3, 4, 5] rfl)
          · have k9 : zI 0 30 (w35_6) := zI.ltU (zI.nle c4) hw35_6 (zI.lit (a := 31) (b := 31) (c := 31) (by decide)) (by decide)
            refine lv_iload hx hb dX12_ask_42 (lv_at hl 5 rfl) ?_
            refine lv_aload_n hx hb dX12_ask_44 rfl (lv_at hl 0 rfl) ?_
            refine lv_iload hx hb dX12_ask_45 (lv_at hl 6 rfl) ?_
            refine mcallV (As := [.int w35_6]) (rest := [.int w35_5]) ⟨hx, hb, hml, hown, hts⟩ (mc_isAsSeen l D ct h0 y B w35_6 rw35 q jw35) (wqX12_441_mc_isAsSeen hts ⟨Nat.le_of_ble_eq_true rfl, Nat.le_of_ble_eq_true rfl⟩) hw hS hA hK hN rfl hl.1 rfl (Nat.le_of_ble_eq_true rfl) dX12_ask_47 50 rfl (fun u10 H locs pu10 hw hS => ?_)
            obtain ⟨v11, r12⟩ := u10
            have hv11 : zI 0 1 v11 := pu10.1
            have ju10 : mJ B r12 := pu10.2.1
            have fu10 : zFr [15, 16, 17, 18, 19, 20, 21, 22, 23, 24] rw35 r12 := pu10.2.2.1
            have hw : zPD D A (mW ct h0 y r12 q) H := hw
            refine zfr 50 [.int v11, .int w35_5] rfl rfl ?_
            refine lv_if_eq (tgt := 74) hx hb dX12_ask_50 (by decide) (fun c13 => ?_) (fun c13 => ?_)
            · have k14 : zI 0 0 (v11) := zI.eqq c13 (zI.lit (a := 0) (b := 0) (c := 0) (by decide))
              exact cut74 r12 hw35_3 hw35_4 k9 ju10 (fw35.tr fu10 rfl) H locs ls hw hS (lv_sub hl [0, 1, 2, 3, 4, 6] rfl)
            · have k15 : zI 1 1 (v11) := zI.neD c13 hv11 (zI.lit (a := 0) (b := 0) (c := 0) (by decide)) (by decide)
              refine lv_aload_n hx hb dX12_ask_53 rfl (lv_at hl 0 rfl) ?_
              refine lv_iload hx hb dX12_ask_54 (lv_at hl 6 rfl) ?_
              refine lv_iconst (v := 0) hx hb dX12_ask_56 (by decide) ?_
              refine lv_aload_n hx hb dX12_ask_57 rfl (lv_at hl 0 rfl) ?_
              refine mget (v := .ref (y 4)) hx hb hts hiX12 hown hK hw 13 (by decide) lf23 rfl rfl dX12_ask_58 ?_
              refine lv_iload hx hb dX12_ask_61 (lv_at hl 4 rfl) ?_
              refine miald hx hb hK hw 5 mWg4 hw35_4 (by decide) dX12_ask_63 (zgen (zI.top _) (fun v16 _ => ?_))
              refine mcallV (As := [.int w35_6, .int 0, .int v16]) (rest := [.int w35_5]) ⟨hx, hb, hml, hown, hts⟩ (mc_readsBeard l D ct h0 y B w35_6 0 v16 r12 q ju10) (wqX12_352_mc_readsBeard hts ⟨Nat.le_of_ble_eq_true rfl, Nat.le_of_ble_eq_true rfl⟩) hw hS hA hK hN rfl hl.1 rfl (Nat.le_of_ble_eq_true rfl) dX12_ask_64 67 rfl (fun u17 H locs pu17 hw hS => ?_)
              obtain ⟨v18, r19⟩ := u17
              have hv18 : zI 0 1 v18 := pu17.1
              have ju17 : mJ B r19 := pu17.2.1
              have fu17 : zFr [15, 16, 17, 18, 19, 20, 21, 22, 23, 24] r12 r19 := pu17.2.2.1
              have xu17 : (v18, r19) = (Gm_readsBeard w35_6 (0 : Int32) v16 r12 q) := pu17.2.2.2.1
              have hw : zPD D A (mW ct h0 y r19 q) H := hw
              refine zfr 67 [.int v18, .int w35_5] rfl rfl ?_
              refine lv_if_eq (tgt := 74) hx hb dX12_ask_67 (by decide) (fun c20 => ?_) (fun c20 => ?_)
              · have k21 : zI 0 0 (v18) := zI.eqq c20 (zI.lit (a := 0) (b := 0) (c := 0) (by decide))
                exact cut74 r19 hw35_3 hw35_4 k9 ju17 ((fw35.tr fu10 rfl).tr fu17 rfl) H locs ls hw hS (lv_sub hl [0, 1, 2, 3, 4, 6] rfl)
              · have k22 : zI 1 1 (v18) := zI.neD c20 hv18 (zI.lit (a := 0) (b := 0) (c := 0) (by decide)) (by decide)
                refine lv_iconst (v := 1) hx hb dX12_ask_70 (by decide) ?_
                refine lv_goto (tgt := 75) hx hb dX12_ask_71 (by decide) ?_
                exact cut75 1 r19 hw35_3 hw35_4 k9 ((zI.lit (a := 1) (b := 1) (c := 1) (by decide)).w (c := 0) (d := 1) (by decide)) ju17 ((fw35.tr fu10 rfl).tr fu17 rfl) H locs ls hw hS (lv_sub hl [0, 1, 2, 3, 4, 6] rfl)
      intro H locs ls hw hS hl
      refine lv_iload hx hb dX12_ask_18 (lv_at hl 4 rfl) ?_
      refine lv_aload_n hx hb dX12_ask_20 rfl (lv_at hl 0 rfl) ?_
      refine mget (v := .ref (y 1)) hx hb hts hiX12 hown hK hw 10 (by decide) lf13 rfl rfl dX12_ask_21 ?_
      refine lv_iconst (v := 0) hx hb dX12_ask_24 (by decide) ?_
      refine ziald hx hb hK hw 2 mWg1 0 (by decide) (by decide) (by decide) dX12_ask_25 (zgen (lo := 0) (hi := 6) ((show zI 0 6 (rw18 1 0) from jw18.i 1 0)) (fun v23 hv23 => ?_))
      refine lv_icmp_ge (tgt := 116) hx hb dX12_ask_26 (by decide) (fun c24 => ?_) (fun c24 => ?_)
      · refine lv_iload_n hx hb dX12_ask_116 rfl (lv_at hl 3 rfl) ?_
        exact ziretQ hQ hx hb hr rfl hlocks (w18_3, rw18) rfl ⟨(zI.top _), jw18, fw18, trivial⟩ hw hS dX12_ask_117
      · have k25 : zI 0 5 (w18_4) := zI.ltU (zI.nle c24) hw18_4 hv23 (by decide)
        have k26 : zI 1 6 (v23) := zI.ltD (zI.nle c24) hw18_4 hv23 (by decide)
        refine lv_iconst (v := 0) hx hb dX12_ask_29 (by decide) ?_
        refine lv_istore (lv' := [(5, .int 0), (0, .ref h0), (1, .int w18_1), (2, .int w18_2), (3, .int w18_3), (4, .int w18_4)]) hx hb dX12_ask_30 hl (by decide) rfl (fun ls hl => ?_)
        refine lv_iconst (v := 0) hx hb dX12_ask_32 (by decide) ?_
        refine lv_istore (lv' := [(6, .int 0), (5, .int 0), (0, .ref h0), (1, .int w18_1), (2, .int w18_2), (3, .int w18_3), (4, .int w18_4)]) hx hb dX12_ask_33 hl (by decide) rfl (fun ls hl => ?_)
        exact cut35 32 0 0 rw18 hw18_3 k25 ((zI.lit (a := 0) (b := 0) (c := 0) (by decide)).w (c := 0) (d := 31) (by decide)) jw18 fw18 (zI.m0 (zI.lit (a := 0) (b := 0) (c := 0) (by decide)) (by decide)) H locs ls hw hS (lv_sub hl [2, 3, 4, 5, 6, 1, 0] rfl)
  intro H locs hw hS ls hl
  have hl : lv_has ls 7 [(0, .ref h0)] := hl
  refine lv_aload_n hx hb dX12_ask_0 rfl (lv_at hl 0 rfl) ?_
  refine lv_iconst (v := 0) hx hb dX12_ask_1 (by decide) ?_
  refine mput (ty := .int) (v := .int 0) hx hb hts hiX12 hown hK hw hS 0 (by decide) lf129 rfl rfl (by decide +kernel) rfl rfl dX12_ask_2 (zset r 100 (fun _ => (0 : Int32))) _ mWf0 (fun H locs hw hS => ?_)
  refine mgen (P := fun x => mJ B x ∧ zFr [15, 16, 17, 18, 19, 20, 21, 22, 23, 24, 100] r x) hw ⟨hJ0.setc rfl (fun _ => (zI.top _)), (zFr.refl).set rfl⟩ (fun r27 er27 hw pr27 => ?_)
  refine lv_aload_n hx hb dX12_ask_5 rfl (lv_at hl 0 rfl) ?_
  refine lv_iconst (v := 0) hx hb dX12_ask_6 (by decide) ?_
  refine mcallV (As := [.int 0]) (rest := []) ⟨hx, hb, hml, hown, hts⟩ (mc_lengths l D ct h0 y B 0 r27 q pr27.1) (wqX12_444_mc_lengths hts ⟨Nat.le_of_ble_eq_true rfl, Nat.le_of_ble_eq_true rfl⟩) hw hS hA hK hN rfl hl.1 rfl (Nat.le_of_ble_eq_true rfl) dX12_ask_7 10 rfl (fun u28 H locs pu28 hw hS => ?_)
  obtain ⟨v29, r30⟩ := u28
  have hv29 : zI (-2147483648) 2147483647 v29 := pu28.1
  have ju28 : mJ B r30 := pu28.2.1
  have fu28 : zFr [15, 16, 17, 18, 19, 20, 21, 22, 23, 24, 100] r27 r30 := pu28.2.2.1
  have hw : zPD D A (mW ct h0 y r30 q) H := hw
  refine zfr 10 [.int v29] rfl rfl ?_
  refine lv_istore_n (lv' := [(1, .int v29), (0, .ref h0)]) hx hb dX12_ask_10 rfl hl (by decide) rfl (fun ls hl => ?_)
  refine lv_iload_n hx hb dX12_ask_11 rfl (lv_at hl 0 rfl) ?_
  refine lv_istore_n (lv' := [(2, .int v29), (1, .int v29), (0, .ref h0)]) hx hb dX12_ask_12 rfl hl (by decide) rfl (fun ls hl => ?_)
  refine lv_iconst (v := (-1)) hx hb dX12_ask_13 (by decide) ?_
  refine lv_istore_n (lv' := [(3, .int (-1)), (2, .int v29), (1, .int v29), (0, .ref h0)]) hx hb dX12_ask_14 rfl hl (by decide) rfl (fun ls hl => ?_)
  refine lv_iconst (v := 0) hx hb dX12_ask_15 (by decide) ?_
  refine lv_istore (lv' := [(4, .int 0), (3, .int (-1)), (2, .int v29), (1, .int v29), (0, .ref h0)]) hx hb dX12_ask_16 hl (by decide) rfl (fun ls hl => ?_)
  exact cut18 7 v29 v29 (-1) 0 r30 ((zI.lit (a := (-1)) (b := (-1)) (c := (-1)) (by decide)).w (c := (-1)) (d := 5) (by decide)) ((zI.lit (a := 0) (b := 0) (c := 0) (by decide)).w (c := 0) (d := 6) (by decide)) ju28 (pr27.2.tr fu28 rfl) (zI.m0 (zI.lit (a := 0) (b := 0) (c := 0) (by decide)) (by decide)) H locs ls hw hS (lv_sub hl [4, 3, 2, 1, 0] rfl)

noncomputable def Bm_stricter_35 (a1 : Int32) (q : zRq) (ih35 : Int32 → Int32 → zRr → (Int32 × zRr)) (w35_3 : Int32) (w35_4 : Int32) (rw35 : zRr) : Int32 × zRr :=
  zlet (α := Int32) (rw35 1 1) <| fun v1 => zif (v1 ≤ w35_4) (zlet (α := zRr) (zset rw35 152 (fun _ => (0 : Int32))) <| fun r3 => (w35_3, r3)) (zlet (α := Int32) (1 + w35_4) <| fun v6 => zlet (α := Int32) (rw35 32 (zn v6)) <| fun v7 => zlet (α := Int32) (1 <<< (v7 &&& 31)) <| fun v8 => zc_vr (Gm_reachFrom w35_4 v8 rw35 q) <| fun v10 r11 => zlet (α := Int32) (v10 >>> (a1 &&& 31)) <| fun v12 => zlet (α := Int32) (v12 &&& 1) <| fun v13 => zlet (α := Int32) (v13 <<< (w35_4 &&& 31)) <| fun v14 => zlet (α := Int32) (w35_3 ||| v14) <| fun v15 => ih35 v15 (w35_4 + 1) r11)
noncomputable def Gm_stricter_35 (a1 : Int32) (q : zRq) (n : Nat) : Int32 → Int32 → zRr → (Int32 × zRr) :=
  Nat.rec (motive := fun _ => Int32 → Int32 → zRr → (Int32 × zRr)) (fun _ _ rw35 => (default, rw35)) (fun _ ih => Bm_stricter_35 a1 q ih) n
noncomputable def Gm_stricter (a1 : Int32) (a2 : Int32) (r : zRr) (q : zRq) : Int32 × zRr :=
  zlet (α := zRr) (zset r 100 (fun _ => (0 : Int32))) <| fun r17 => zlet (α := Int32) ((Gm_isTown a1 r17 q)) <| fun u18 => zif (u18 = (0 : Int32)) ((((-1) : Int32), r17)) (zlet (α := Int32) ((Gm_within a2 (0 : Int32) (9 : Int32))) <| fun u23 => zifn (u23 = (0 : Int32)) (zlet (α := zRr) (zset r17 152 (fun _ => a2)) <| fun r29 => Gm_stricter_35 a1 q 7 0 0 r29) ((((-1) : Int32), r17)))
set_option maxHeartbeats 4000000 in
set_option maxRecDepth 100000 in
theorem mc_stricter (l : Launch) (D : va_G) (ct : Nat → ClassId) (h0 : Nat) (y : Nat → Nat) (B : Int) (a1 : Int32) (a2 : Int32) (r : zRr) (q : zRq) (hJ0 : mJ B r) : zC l yX12_stricter (.code yX12_stricter cX12_stricter 5 (some .int) :: wsL_law0) ({ frames := 10, cells := 0, slots := 0, locals := 440 }) D ct [] [.ref h0, .int a1, .int a2] (mW ct h0 y r q) (S := Int32 × zRr) (fun u => some (.int u.1)) (fun u => zI (-2147483648) 2147483647 u.1 ∧ mJ B u.2 ∧ zFr [15, 16, 17, 18, 19, 20, 21, 22, 23, 24, 100, 152] r u.2 ∧ u = (Gm_stricter a1 a2 r q) ∧ True) (fun u => mW ct h0 y u.2 q) 0 0 := by
  refine zofQ cX12_stricter 5 (some .int) (by decide) rfl (Nat.le_of_ble_eq_true rfl) ?_
  intro p e s m below meth c A a9 Q ha9 hx hb hr hml hts hown hlocks hname hK hA hZ hN hQ
  have hown : s.vm.findClass RX12 = some m.cls := hown
  have hiX12 : ∀ w ∈ wsX120, w ∈ .code yX12_stricter cX12_stricter 5 (some .int) :: wsL_law0 := fun _ h => ki (zs_wsX120 _ h)
  have lf13 := hts (.fieldLink RX12 13 "BeardPassModel" "land" "[I") (ki (zr7 20 rfl))
  have lf108 := hts (.fieldLink RX12 108 "BeardPassModel" "s" "[I") (ki (zr9 4 rfl))
  have lf129 := hts (.fieldLink RX12 129 "BeardPassModel" "thrown" "I") (ki (zr10 1 rfl))
  have lf349 := hts (.fieldLink RX12 349 "BeardPassModel" "moreAsked" "I") (ki (zr34 6 rfl))
  obtain ⟨X, hX⟩ : ∃ X, X = (Gm_stricter a1 a2 r q) := ⟨_, rfl⟩
  have cut35 : ∀ (n35 : Nat) (w35_3 : Int32) (w35_4 : Int32) (rw35 : zRr) (hw35_1 : zI 0 5 a1) (hw35_4 : zI 0 6 w35_4) (jw35 : mJ B rw35) (fw35 : zFr [15, 16, 17, 18, 19, 20, 21, 22, 23, 24, 100, 152] r rw35) (hE : X = Gm_stricter_35 a1 q n35 w35_3 w35_4 rw35), 6 - w35_4.toInt < (n35 : Int) → zKf p l e ({ frames := 10, cells := 0, slots := 0, locals := 440 }) s m a9 below meth c Q D A 35 5 [] (mW ct h0 y rw35 q) [(0, .ref h0), (1, .int a1), (3, .int w35_3), (4, .int w35_4)] := by
    intro n35
    induction n35 with
    | zero => intro w35_3 w35_4 rw35 hw35_1 hw35_4 jw35 fw35 hE hm35; exact zI.no hw35_4 (by decide) hm35
    | succ n35 ih35 =>
      intro w35_3 w35_4 rw35 hw35_1 hw35_4 jw35 fw35 hE hm35
      have hE : X = Bm_stricter_35 a1 q (Gm_stricter_35 a1 q n35) w35_3 w35_4 rw35 := hE
      unfold Bm_stricter_35 at hE
      intro H locs ls hw hS hl
      refine lv_iload hx hb dX12_stricter_35 (lv_at hl 3 rfl) ?_
      refine lv_aload_n hx hb dX12_stricter_37 rfl (lv_at hl 0 rfl) ?_
      refine mget (v := .ref (y 1)) hx hb hts hiX12 hown hK hw 10 (by decide) lf13 rfl rfl dX12_stricter_38 ?_
      refine lv_iconst (v := 1) hx hb dX12_stricter_41 (by decide) ?_
      refine ziald hx hb hK hw 2 mWg1 1 (by decide) (by decide) (by decide) dX12_stricter_42 (zgenE (lo := 0) (hi := 6) ((show zI 0 6 (rw35 1 1) from jw35.i 1 1)) (fun v1 ev1 hv1 => ?_))
      have hE := zletE ev1 hE
      refine lv_icmp_ge (tgt := 79) hx hb dX12_stricter_43 (by decide) (fun c2 => ?_) (fun c2 => ?_)
      · have hE := zifT c2 hE
        refine lv_aload_n hx hb dX12_stricter_79 rfl (lv_at hl 0 rfl) ?_
        refine lv_iconst (v := 0) hx hb dX12_stricter_80 (by decide) ?_
        refine mput (ty := .int) (v := .int 0) hx hb hts hiX12 hown hK hw hS 52 (by decide) lf349 rfl rfl (by decide +kernel) rfl rfl dX12_stricter_81 (zset rw35 152 (fun _ => (0 : Int32))) _ mWf52 (fun H locs hw hS => ?_)
        refine mgen (P := fun x => mJ B x ∧ zFr [15, 16, 17, 18, 19, 20, 21, 22, 23, 24, 100, 152] r x) hw ⟨jw35.setc rfl (fun _ => (zI.top _)), fw35.set rfl⟩ (fun r3 er3 hw pr3 => ?_)
        have hE := zletE er3 hE
        refine lv_iload_n hx hb dX12_stricter_84 rfl (lv_at hl 2 rfl) ?_
        exact ziretQ hQ hx hb hr rfl hlocks (w35_3, r3) rfl ⟨(zI.top _), pr3.1, pr3.2, (hE.symm.trans hX), trivial⟩ hw hS dX12_stricter_85
      · have hE := zifF c2 hE
        have k4 : zI 0 5 (w35_4) := zI.ltU (zI.nle c2) hw35_4 hv1 (by decide)
        have k5 : zI 1 6 (v1) := zI.ltD (zI.nle c2) hw35_4 hv1 (by decide)
        refine lv_iload_n hx hb dX12_stricter_46 rfl (lv_at hl 2 rfl) ?_
        refine lv_aload_n hx hb dX12_stricter_47 rfl (lv_at hl 0 rfl) ?_
        refine lv_iload hx hb dX12_stricter_48 (lv_at hl 3 rfl) ?_
        refine lv_iconst (v := 1) hx hb dX12_stricter_50 (by decide) ?_
        refine lv_aload_n hx hb dX12_stricter_51 rfl (lv_at hl 0 rfl) ?_
        refine mget (v := .ref (y 32)) hx hb hts hiX12 hown hK hw 45 (by decide) lf108 rfl rfl dX12_stricter_52 ?_
        refine lv_iconst (v := 1) hx hb dX12_stricter_55 (by decide) ?_
        refine lv_iload hx hb dX12_stricter_56 (lv_at hl 3 rfl) ?_
        refine lv_iadd hx hb dX12_stricter_58 (zgenE (lo := 1) (hi := 6) (zI.add (zI.lit (a := 1) (b := 1) (c := 1) (by decide)) k4 (by decide)) (fun v6 ev6 hv6 => ?_))
        have hE := zletE ev6 hE
        refine miald hx hb hK hw 33 mWg32 hv6 (by decide) dX12_stricter_59 (zgenE (lo := 0) (hi := 5) ((ms_1 jw35 hv6)) (fun v7 ev7 hv7 => ?_))
        have hE := zletE ev7 hE
        refine lv_ishl hx hb dX12_stricter_60 (zgenE (lo := 1) (hi := 32) (zI.shl hv7 5 (by decide)) (fun v8 ev8 hv8 => ?_))
        have hE := zletE ev8 hE
        refine mcallV (As := [.int w35_4, .int v8]) (rest := [.int w35_3]) ⟨hx, hb, hml, hown, hts⟩ (mc_reachFrom l D ct h0 y B w35_4 v8 rw35 q k4 (hv8.w (c := 0) (d := 63) (by decide)) jw35) (wqX12_419_mc_reachFrom hts ⟨Nat.le_of_ble_eq_true rfl, Nat.le_of_ble_eq_true rfl⟩) hw hS hA hK hN rfl hl.1 rfl (Nat.le_of_ble_eq_true rfl) dX12_stricter_61 64 rfl (fun u9 H locs pu9 hw hS => ?_)
        obtain ⟨v10, r11⟩ := u9
        have hv10 : zI 0 63 v10 := pu9.1
        have ju9 : mJ B r11 := pu9.2.1
        have fu9 : zFr [15, 16, 17, 18, 19, 20, 21, 22, 23, 24] rw35 r11 := pu9.2.2.1
        have xu9 : (v10, r11) = (Gm_reachFrom w35_4 v8 rw35 q) := pu9.2.2.2.1
        have hE := zc_vrE xu9 hE
        have hw : zPD D A (mW ct h0 y r11 q) H := hw
        refine zfr 64 [.int v10, .int w35_3] rfl rfl ?_
        refine lv_iload_n hx hb dX12_stricter_64 rfl (lv_at hl 1 rfl) ?_
        refine lv_ishr hx hb dX12_stricter_65 (zgenE (lo := 0) (hi := 63) (zI.shr hv10 (by decide)) (fun v12 ev12 hv12 => ?_))
        have hE := zletE ev12 hE
        refine lv_iconst (v := 1) hx hb dX12_stricter_66 (by decide) ?_
        refine lv_iand hx hb dX12_stricter_67 (zgenE (lo := 0) (hi := 1) (zI.and (zI.lit (a := 1) (b := 1) (c := 1) (by decide)) (by decide)) (fun v13 ev13 hv13 => ?_))
        have hE := zletE ev13 hE
        refine lv_iload hx hb dX12_stricter_68 (lv_at hl 3 rfl) ?_
        refine lv_ishl hx hb dX12_stricter_70 (zgenE (zI.top _) (fun v14 ev14 _ => ?_))
        have hE := zletE ev14 hE
        refine lv_ior hx hb dX12_stricter_71 (zgenE (zI.top _) (fun v15 ev15 _ => ?_))
        have hE := zletE ev15 hE
        refine lv_istore_n (lv' := [(3, .int v15), (0, .ref h0), (1, .int a1), (4, .int w35_4)]) hx hb dX12_stricter_72 rfl hl (by decide) rfl (fun ls hl => ?_)
        refine lv_iinc (v := w35_4 + 1) (lv' := [(4, .int (w35_4 + 1)), (3, .int v15), (0, .ref h0), (1, .int a1)]) hx hb dX12_stricter_73 hl (k := 3) rfl (rfl) (by decide) rfl (fun ls hl => ?_)
        have k16 : zI 1 6 (w35_4 + 1) := zI.add k4 (zI.lit (a := 1) (b := 1) (by decide)) (by decide)
        refine lv_goto (tgt := 35) hx hb dX12_stricter_76 (by decide) ?_
        exact ih35 v15 (w35_4 + 1) r11 hw35_1 (k16.w (c := 0) (d := 6) (by decide)) ju9 (fw35.tr fu9 rfl) hE (zI.up k4 (by decide) hm35) H locs ls hw hS (lv_sub hl [2, 3, 1, 0] rfl)
  intro H locs hw hS ls hl
  have hl : lv_has ls 5 [(0, .ref h0), (1, .int a1), (2, .int a2)] := hl
  have hE := hX
  unfold Gm_stricter at hE
  refine lv_aload_n hx hb dX12_stricter_0 rfl (lv_at hl 0 rfl) ?_
  refine lv_iconst (v := 0) hx hb dX12_stricter_1 (by decide) ?_
  refine mput (ty := .int) (v := .int 0) hx hb hts hiX12 hown hK hw hS 0 (by decide) lf129 rfl rfl (by decide +kernel) rfl rfl dX12_stricter_2 (zset r 100 (fun _ => (0 : Int32))) _ mWf0 (fun H locs hw hS => ?_)
  refine mgen (P := fun x => mJ B x ∧ zFr [15, 16, 17, 18, 19, 20, 21, 22, 23, 24, 100, 152] r x) hw ⟨hJ0.setc rfl (fun _ => (zI.top _)), (zFr.refl).set rfl⟩ (fun r17 er17 hw pr17 => ?_)
  have hE := zletE er17 hE
  refine lv_aload_n hx hb dX12_stricter_5 rfl (lv_at hl 0 rfl) ?_
  refine lv_iload_n hx hb dX12_stricter_6 rfl (lv_at hl 1 rfl) ?_
  refine mcallV (As := [.int a1]) (rest := []) ⟨hx, hb, hml, hown, hts⟩ (mc_isTown l D ct h0 y B a1 r17 q pr17.1) (wqX12_373_mc_isTown hts ⟨Nat.le_of_ble_eq_true rfl, Nat.le_of_ble_eq_true rfl⟩) hw hS hA hK hN rfl hl.1 rfl (Nat.le_of_ble_eq_true rfl) dX12_stricter_7 10 rfl (fun u18 H locs pu18 hw hS => ?_)
  have hu18 : zI 0 1 u18 := pu18.1
  have yu18_0 : ¬ u18 = 0 → zI 0 5 a1 := pu18.2.1
  have xu18 : u18 = (Gm_isTown a1 r17 q) := pu18.2.2.1
  have hE := zletE xu18 hE
  have hw : zPD D A (mW ct h0 y r17 q) H := hw
  refine zfr 10 [.int u18] rfl rfl ?_
  refine lv_if_eq (tgt := 23) hx hb dX12_stricter_10 (by decide) (fun c20 => ?_) (fun c20 => ?_)
  · have hE := zifT c20 hE
    have k21 : zI 0 0 (u18) := zI.eqq c20 (zI.lit (a := 0) (b := 0) (c := 0) (by decide))
    refine lv_iconst (v := (-1)) hx hb dX12_stricter_23 (by decide) ?_
    exact ziretQ hQ hx hb hr rfl hlocks ((-1), r17) rfl ⟨(zI.top _), pr17.1, pr17.2, (hE.symm.trans hX), trivial⟩ hw hS dX12_stricter_24
  · have hE := zifF c20 hE
    have k22 : zI 1 1 (u18) := zI.neD c20 hu18 (zI.lit (a := 0) (b := 0) (c := 0) (by decide)) (by decide)
    refine lv_iload_n hx hb dX12_stricter_13 rfl (lv_at hl 2 rfl) ?_
    refine lv_iconst (v := 0) hx hb dX12_stricter_14 (by decide) ?_
    refine lv_bipush (v := 9) hx hb dX12_stricter_15 (by decide) ?_
    refine scallE (As := [.int a2, .int 0, .int 9]) (rest := []) ⟨hx, hb, hml, hown, hts⟩ (mc_within l D ct a2 0 9) (va_cwS 3 hts (kgS (zr25 11 rfl) (zr25 12 rfl) (zr1 5 rfl) (zr25 13 rfl)) rfl rfl rfl (by decide +kernel) ⟨Nat.le_of_ble_eq_true rfl, Nat.le_of_ble_eq_true rfl⟩) hw hS hA hK hN mWn rfl hl.1 rfl (Nat.le_of_ble_eq_true rfl) dX12_stricter_17 20 rfl (fun u23 H locs pu23 hw hS => ?_)
    have hu23 : zI 0 1 u23 := pu23.1
    have yu23_0 : ¬ u23 = 0 → (0 : Int32) ≤ a2 ∧ a2 ≤ (9 : Int32) := pu23.2.1
    have xu23 : u23 = (Gm_within a2 (0 : Int32) (9 : Int32)) := pu23.2.2.1
    have hE := zletE xu23 hE
    refine zfr 20 [.int u23] rfl rfl ?_
    refine lv_if_ne (tgt := 25) hx hb dX12_stricter_20 (by decide) (fun c25 => ?_) (fun c25 => ?_)
    · have hE := zifnT c25 hE
      have k26 : zI 1 1 (u23) := zI.neD c25 hu23 (zI.lit (a := 0) (b := 0) (c := 0) (by decide)) (by decide)
      have k27 : zI 0 2147483647 (a2) := zI.leD (yu23_0 c25).1 (zI.lit (a := 0) (b := 0) (c := 0) (by decide)) (zI.top _) (by decide)
      have k28 : zI 0 9 (a2) := zI.leU (yu23_0 c25).2 k27 (zI.lit (a := 9) (b := 9) (c := 9) (by decide)) (by decide)
      refine lv_aload_n hx hb dX12_stricter_25 rfl (lv_at hl 0 rfl) ?_
      refine lv_iload_n hx hb dX12_stricter_26 rfl (lv_at hl 2 rfl) ?_
      refine mput (ty := .int) (v := .int a2) hx hb hts hiX12 hown hK hw hS 52 (by decide) lf349 rfl rfl (by decide +kernel) rfl rfl dX12_stricter_27 (zset r17 152 (fun _ => a2)) _ mWf52 (fun H locs hw hS => ?_)
      refine mgen (P := fun x => mJ B x ∧ zFr [15, 16, 17, 18, 19, 20, 21, 22, 23, 24, 100, 152] r x) hw ⟨pr17.1.setc rfl (fun _ => (zI.top _)), pr17.2.set rfl⟩ (fun r29 er29 hw pr29 => ?_)
      have hE := zletE er29 hE
      refine lv_iconst (v := 0) hx hb dX12_stricter_30 (by decide) ?_
      refine lv_istore_n (lv' := [(3, .int 0), (0, .ref h0), (1, .int a1), (2, .int a2)]) hx hb dX12_stricter_31 rfl hl (by decide) rfl (fun ls hl => ?_)
      refine lv_iconst (v := 0) hx hb dX12_stricter_32 (by decide) ?_
      refine lv_istore (lv' := [(4, .int 0), (3, .int 0), (0, .ref h0), (1, .int a1), (2, .int a2)]) hx hb dX12_stricter_33 hl (by decide) rfl (fun ls hl => ?_)
      exact cut35 7 0 0 r29 (yu18_0 c20) ((zI.lit (a := 0) (b := 0) (c := 0) (by decide)).w (c := 0) (d := 6) (by decide)) pr29.1 pr29.2 hE (zI.m0 (zI.lit (a := 0) (b := 0) (c := 0) (by decide)) (by decide)) H locs ls hw hS (lv_sub hl [2, 3, 1, 0] rfl)
    · have hE := zifnF c25 hE
      have k30 : zI 0 0 (u23) := zI.eqq c25 (zI.lit (a := 0) (b := 0) (c := 0) (by decide))
      refine lv_iconst (v := (-1)) hx hb dX12_stricter_23 (by decide) ?_
      exact ziretQ hQ hx hb hr rfl hlocks ((-1), r17) rfl ⟨(zI.top _), pr17.1, pr17.2, (hE.symm.trans hX), trivial⟩ hw hS dX12_stricter_24

set_option maxHeartbeats 4000000 in
set_option maxRecDepth 100000 in
theorem mc_count (l : Launch) (D : va_G) (ct : Nat → ClassId) (h0 : Nat) (y : Nat → Nat) (B : Int) (a1 : Int32) (r : zRr) (q : zRq) (hJ0 : mJ B r) : zC l yX12_count (.code yX12_count cX12_count 2 (some .int) :: wsL_law0) ({ frames := 2, cells := 0, slots := 0, locals := 120 }) D ct [] [.ref h0, .int a1] (mW ct h0 y r q) (S := Int32 × zRr) (fun u => some (.int u.1)) (fun u => zI (-2147483648) 2147483647 u.1 ∧ mJ B u.2 ∧ zFr [100] r u.2 ∧ True) (fun u => mW ct h0 y u.2 q) 0 0 := by
  refine zofQ cX12_count 2 (some .int) (by decide) rfl (Nat.le_of_ble_eq_true rfl) ?_
  intro p e s m below meth c A a9 Q ha9 hx hb hr hml hts hown hlocks hname hK hA hZ hN hQ
  have hown : s.vm.findClass RX12 = some m.cls := hown
  have hiX12 : ∀ w ∈ wsX120, w ∈ .code yX12_count cX12_count 2 (some .int) :: wsL_law0 := fun _ h => ki (zs_wsX120 _ h)
  have lf13 := hts (.fieldLink RX12 13 "BeardPassModel" "land" "[I") (ki (zr7 20 rfl))
  have lf87 := hts (.fieldLink RX12 87 "BeardPassModel" "lines" "[I") (ki (zr8 21 rfl))
  have lf99 := hts (.fieldLink RX12 99 "BeardPassModel" "seens" "[I") (ki (zr9 1 rfl))
  have lf108 := hts (.fieldLink RX12 108 "BeardPassModel" "s" "[I") (ki (zr9 4 rfl))
  have lf129 := hts (.fieldLink RX12 129 "BeardPassModel" "thrown" "I") (ki (zr10 1 rfl))
  have lf135 := hts (.fieldLink RX12 135 "BeardPassModel" "taped" "I") (ki (zr10 3 rfl))
  have lf336 := hts (.fieldLink RX12 336 "BeardPassModel" "done" "I") (ki (zr21 17 rfl))
  intro H locs hw hS ls hl
  have hl : lv_has ls 2 [(0, .ref h0), (1, .int a1)] := hl
  refine lv_aload_n hx hb dX12_count_0 rfl (lv_at hl 0 rfl) ?_
  refine lv_iconst (v := 0) hx hb dX12_count_1 (by decide) ?_
  refine mput (ty := .int) (v := .int 0) hx hb hts hiX12 hown hK hw hS 0 (by decide) lf129 rfl rfl (by decide +kernel) rfl rfl dX12_count_2 (zset r 100 (fun _ => (0 : Int32))) _ mWf0 (fun H locs hw hS => ?_)
  refine mgen (P := fun x => mJ B x ∧ zFr [100] r x) hw ⟨hJ0.setc rfl (fun _ => (zI.top _)), (zFr.refl).set rfl⟩ (fun r1 er1 hw pr1 => ?_)
  refine lv_iload_n hx hb dX12_count_5 rfl (lv_at hl 1 rfl) ?_
  refine lv_iconst (v := 0) hx hb dX12_count_6 (by decide) ?_
  refine lv_bipush (v := 11) hx hb dX12_count_7 (by decide) ?_
  refine scallE (As := [.int a1, .int 0, .int 11]) (rest := []) ⟨hx, hb, hml, hown, hts⟩ (mc_within l D ct a1 0 11) (va_cwS 3 hts (kgS (zr25 11 rfl) (zr25 12 rfl) (zr1 5 rfl) (zr25 13 rfl)) rfl rfl rfl (by decide +kernel) ⟨Nat.le_of_ble_eq_true rfl, Nat.le_of_ble_eq_true rfl⟩) hw hS hA hK hN mWn rfl hl.1 rfl (Nat.le_of_ble_eq_true rfl) dX12_count_9 12 rfl (fun u2 H locs pu2 hw hS => ?_)
  have hu2 : zI 0 1 u2 := pu2.1
  have yu2_0 : ¬ u2 = 0 → (0 : Int32) ≤ a1 ∧ a1 ≤ (11 : Int32) := pu2.2.1
  have xu2 : u2 = (Gm_within a1 (0 : Int32) (11 : Int32)) := pu2.2.2.1
  refine zfr 12 [.int u2] rfl rfl ?_
  refine lv_if_ne (tgt := 17) hx hb dX12_count_12 (by decide) (fun c4 => ?_) (fun c4 => ?_)
  · have k5 : zI 1 1 (u2) := zI.neD c4 hu2 (zI.lit (a := 0) (b := 0) (c := 0) (by decide)) (by decide)
    have k6 : zI 0 2147483647 (a1) := zI.leD (yu2_0 c4).1 (zI.lit (a := 0) (b := 0) (c := 0) (by decide)) (zI.top _) (by decide)
    have k7 : zI 0 11 (a1) := zI.leU (yu2_0 c4).2 k6 (zI.lit (a := 11) (b := 11) (c := 11) (by decide)) (by decide)
    refine lv_iload_n hx hb dX12_count_17 rfl (lv_at hl 1 rfl) ?_
    refine lv_iconst (v := 4) hx hb dX12_count_18 (by decide) ?_
    refine lv_icmp_ge (tgt := 29) hx hb dX12_count_19 (by decide) (fun c8 => ?_) (fun c8 => ?_)
    · have k9 : zI 4 11 (a1) := zI.leD c8 (zI.lit (a := 4) (b := 4) (c := 4) (by decide)) k7 (by decide)
      refine lv_iload_n hx hb dX12_count_29 rfl (lv_at hl 1 rfl) ?_
      refine lv_bipush (v := 6) hx hb dX12_count_30 (by decide) ?_
      refine lv_icmp_ge (tgt := 54) hx hb dX12_count_32 (by decide) (fun c10 => ?_) (fun c10 => ?_)
      · have k11 : zI 6 11 (a1) := zI.leD c10 (zI.lit (a := 6) (b := 6) (c := 6) (by decide)) k9 (by decide)
        refine lv_iload_n hx hb dX12_count_54 rfl (lv_at hl 1 rfl) ?_
        refine lv_bipush (v := 8) hx hb dX12_count_55 (by decide) ?_
        refine lv_icmp_ge (tgt := 82) hx hb dX12_count_57 (by decide) (fun c12 => ?_) (fun c12 => ?_)
        · have k13 : zI 8 11 (a1) := zI.leD c12 (zI.lit (a := 8) (b := 8) (c := 8) (by decide)) k11 (by decide)
          refine lv_iload_n hx hb dX12_count_82 rfl (lv_at hl 1 rfl) ?_
          refine lv_bipush (v := 10) hx hb dX12_count_83 (by decide) ?_
          refine lv_icmp_ge (tgt := 110) hx hb dX12_count_85 (by decide) (fun c14 => ?_) (fun c14 => ?_)
          · have k15 : zI 10 11 (a1) := zI.leD c14 (zI.lit (a := 10) (b := 10) (c := 10) (by decide)) k13 (by decide)
            refine lv_iload_n hx hb dX12_count_110 rfl (lv_at hl 1 rfl) ?_
            refine lv_bipush (v := 10) hx hb dX12_count_111 (by decide) ?_
            refine lv_icmp_ne (tgt := 123) hx hb dX12_count_113 (by decide) (fun c16 => ?_) (fun c16 => ?_)
            · have k17 : zI 11 11 (a1) := zI.neD c16 k15 (zI.lit (a := 10) (b := 10) (c := 10) (by decide)) (by decide)
              refine lv_aload_n hx hb dX12_count_123 rfl (lv_at hl 0 rfl) ?_
              refine mget (v := .int (r1 101 0)) hx hb hts hiX12 hown hK hw 1 (by decide) lf135 rfl rfl dX12_count_124 (zgen (lo := 0) (hi := 1000) ((show zI 0 1000 (r1 101 0) from pr1.1.i 101 0)) (fun v18 hv18 => ?_))
              exact ziretQ hQ hx hb hr rfl hlocks (v18, r1) rfl ⟨(zI.top _), pr1.1, pr1.2, trivial⟩ hw hS dX12_count_127
            · have k19 : zI 10 10 (a1) := zI.eqq c16 (zI.lit (a := 10) (b := 10) (c := 10) (by decide))
              refine lv_aload_n hx hb dX12_count_116 rfl (lv_at hl 0 rfl) ?_
              refine mget (v := .int (r1 151 0)) hx hb hts hiX12 hown hK hw 51 (by decide) lf336 rfl rfl dX12_count_117 (zgen (lo := 0) (hi := 16) ((show zI 0 16 (r1 151 0) from pr1.1.i 151 0)) (fun v20 hv20 => ?_))
              refine lv_goto (tgt := 127) hx hb dX12_count_120 (by decide) ?_
              exact ziretQ hQ hx hb hr rfl hlocks (v20, r1) rfl ⟨(zI.top _), pr1.1, pr1.2, trivial⟩ hw hS dX12_count_127
          · have k21 : zI 8 9 (a1) := zI.ltU (zI.nle c14) k13 (zI.lit (a := 10) (b := 10) (c := 10) (by decide)) (by decide)
            refine lv_iload_n hx hb dX12_count_88 rfl (lv_at hl 1 rfl) ?_
            refine lv_bipush (v := 8) hx hb dX12_count_89 (by decide) ?_
            refine lv_icmp_ne (tgt := 103) hx hb dX12_count_91 (by decide) (fun c22 => ?_) (fun c22 => ?_)
            · have k23 : zI 9 9 (a1) := zI.neD c22 k21 (zI.lit (a := 8) (b := 8) (c := 8) (by decide)) (by decide)
              refine lv_aload_n hx hb dX12_count_103 rfl (lv_at hl 0 rfl) ?_
              refine mget (v := .ref (y 29)) hx hb hts hiX12 hown hK hw 42 (by decide) lf99 rfl rfl dX12_count_104 ?_
              refine lv_iconst (v := 0) hx hb dX12_count_107 (by decide) ?_
              refine ziald hx hb hK hw 30 mWg29 0 (by decide) (by decide) (by decide) dX12_count_108 (zgen (lo := 0) (hi := 8) ((show zI 0 8 (r1 29 0) from pr1.1.i 29 0)) (fun v24 hv24 => ?_))
              exact ziretQ hQ hx hb hr rfl hlocks (v24, r1) rfl ⟨(zI.top _), pr1.1, pr1.2, trivial⟩ hw hS dX12_count_109
            · have k25 : zI 8 8 (a1) := zI.eqq c22 (zI.lit (a := 8) (b := 8) (c := 8) (by decide))
              refine lv_aload_n hx hb dX12_count_94 rfl (lv_at hl 0 rfl) ?_
              refine mget (v := .ref (y 25)) hx hb hts hiX12 hown hK hw 38 (by decide) lf87 rfl rfl dX12_count_95 ?_
              refine lv_iconst (v := 0) hx hb dX12_count_98 (by decide) ?_
              refine ziald hx hb hK hw 26 mWg25 0 (by decide) (by decide) (by decide) dX12_count_99 (zgen (lo := 0) (hi := 40) ((show zI 0 40 (r1 25 0) from pr1.1.i 25 0)) (fun v26 hv26 => ?_))
              refine lv_goto (tgt := 109) hx hb dX12_count_100 (by decide) ?_
              exact ziretQ hQ hx hb hr rfl hlocks (v26, r1) rfl ⟨(zI.top _), pr1.1, pr1.2, trivial⟩ hw hS dX12_count_109
        · have k27 : zI 6 7 (a1) := zI.ltU (zI.nle c12) k11 (zI.lit (a := 8) (b := 8) (c := 8) (by decide)) (by decide)
          refine lv_iload_n hx hb dX12_count_60 rfl (lv_at hl 1 rfl) ?_
          refine lv_bipush (v := 6) hx hb dX12_count_61 (by decide) ?_
          refine lv_icmp_ne (tgt := 75) hx hb dX12_count_63 (by decide) (fun c28 => ?_) (fun c28 => ?_)
          · have k29 : zI 7 7 (a1) := zI.neD c28 k27 (zI.lit (a := 6) (b := 6) (c := 6) (by decide)) (by decide)
            refine lv_aload_n hx hb dX12_count_75 rfl (lv_at hl 0 rfl) ?_
            refine lv_bipush (v := 19) hx hb dX12_count_76 (by decide) ?_
            refine mcallV (As := [.int 19]) (rest := []) ⟨hx, hb, hml, hown, hts⟩ (mc_allOf l D ct h0 y B 19 r1 q ((zI.lit (a := 19) (b := 19) (c := 19) (by decide)).w (c := 13) (d := 19) (by decide)) pr1.1) (wqX12_407_mc_allOf hts ⟨Nat.le_of_ble_eq_true rfl, Nat.le_of_ble_eq_true rfl⟩) hw hS hA hK hN rfl hl.1 rfl (Nat.le_of_ble_eq_true rfl) dX12_count_78 81 rfl (fun u30 H locs pu30 hw hS => ?_)
            have hu30 : zI (-2147483648) 2147483647 u30 := pu30.1
            have xu30 : u30 = (Gm_allOf (19 : Int32) r1 q) := pu30.2.1
            have hw : zPD D A (mW ct h0 y r1 q) H := hw
            refine zfr 81 [.int u30] rfl rfl ?_
            exact ziretQ hQ hx hb hr rfl hlocks (u30, r1) rfl ⟨(zI.top _), pr1.1, pr1.2, trivial⟩ hw hS dX12_count_81
          · have k32 : zI 6 6 (a1) := zI.eqq c28 (zI.lit (a := 6) (b := 6) (c := 6) (by decide))
            refine lv_aload_n hx hb dX12_count_66 rfl (lv_at hl 0 rfl) ?_
            refine lv_bipush (v := 13) hx hb dX12_count_67 (by decide) ?_
            refine mcallV (As := [.int 13]) (rest := []) ⟨hx, hb, hml, hown, hts⟩ (mc_allOf l D ct h0 y B 13 r1 q ((zI.lit (a := 13) (b := 13) (c := 13) (by decide)).w (c := 13) (d := 19) (by decide)) pr1.1) (wqX12_407_mc_allOf hts ⟨Nat.le_of_ble_eq_true rfl, Nat.le_of_ble_eq_true rfl⟩) hw hS hA hK hN rfl hl.1 rfl (Nat.le_of_ble_eq_true rfl) dX12_count_69 72 rfl (fun u33 H locs pu33 hw hS => ?_)
            have hu33 : zI (-2147483648) 2147483647 u33 := pu33.1
            have xu33 : u33 = (Gm_allOf (13 : Int32) r1 q) := pu33.2.1
            have hw : zPD D A (mW ct h0 y r1 q) H := hw
            refine zfr 72 [.int u33] rfl rfl ?_
            refine lv_goto (tgt := 81) hx hb dX12_count_72 (by decide) ?_
            exact ziretQ hQ hx hb hr rfl hlocks (u33, r1) rfl ⟨(zI.top _), pr1.1, pr1.2, trivial⟩ hw hS dX12_count_81
      · have k35 : zI 4 5 (a1) := zI.ltU (zI.nle c10) k9 (zI.lit (a := 6) (b := 6) (c := 6) (by decide)) (by decide)
        refine lv_iload_n hx hb dX12_count_35 rfl (lv_at hl 1 rfl) ?_
        refine lv_iconst (v := 4) hx hb dX12_count_36 (by decide) ?_
        refine lv_icmp_ne (tgt := 49) hx hb dX12_count_37 (by decide) (fun c36 => ?_) (fun c36 => ?_)
        · have k37 : zI 5 5 (a1) := zI.neD c36 k35 (zI.lit (a := 4) (b := 4) (c := 4) (by decide)) (by decide)
          refine lv_aload_n hx hb dX12_count_49 rfl (lv_at hl 0 rfl) ?_
          refine mcallV (As := []) (rest := []) ⟨hx, hb, hml, hown, hts⟩ (mc_peopled l D ct h0 y B r1 q pr1.1) (wqX12_477_mc_peopled hts ⟨Nat.le_of_ble_eq_true rfl, Nat.le_of_ble_eq_true rfl⟩) hw hS hA hK hN rfl hl.1 rfl (Nat.le_of_ble_eq_true rfl) dX12_count_50 53 rfl (fun u38 H locs pu38 hw hS => ?_)
          have hu38 : zI 0 63 u38 := pu38.1
          have xu38 : u38 = (Gm_peopled r1 q) := pu38.2.1
          have hw : zPD D A (mW ct h0 y r1 q) H := hw
          refine zfr 53 [.int u38] rfl rfl ?_
          exact ziretQ hQ hx hb hr rfl hlocks (u38, r1) rfl ⟨(zI.top _), pr1.1, pr1.2, trivial⟩ hw hS dX12_count_53
        · have k40 : zI 4 4 (a1) := zI.eqq c36 (zI.lit (a := 4) (b := 4) (c := 4) (by decide))
          refine lv_aload_n hx hb dX12_count_40 rfl (lv_at hl 0 rfl) ?_
          refine mget (v := .ref (y 32)) hx hb hts hiX12 hown hK hw 45 (by decide) lf108 rfl rfl dX12_count_41 ?_
          refine lv_iconst (v := 0) hx hb dX12_count_44 (by decide) ?_
          refine ziald hx hb hK hw 33 mWg32 0 (by decide) (by decide) (by decide) dX12_count_45 (zgen (zI.top _) (fun v41 _ => ?_))
          refine lv_goto (tgt := 53) hx hb dX12_count_46 (by decide) ?_
          exact ziretQ hQ hx hb hr rfl hlocks (v41, r1) rfl ⟨(zI.top _), pr1.1, pr1.2, trivial⟩ hw hS dX12_count_53
    · have k42 : zI 0 3 (a1) := zI.ltU (zI.nle c8) k7 (zI.lit (a := 4) (b := 4) (c := 4) (by decide)) (by decide)
      refine lv_aload_n hx hb dX12_count_22 rfl (lv_at hl 0 rfl) ?_
      refine mget (v := .ref (y 1)) hx hb hts hiX12 hown hK hw 10 (by decide) lf13 rfl rfl dX12_count_23 ?_
      refine lv_iload_n hx hb dX12_count_26 rfl (lv_at hl 1 rfl) ?_
      refine miald hx hb hK hw 2 mWg1 k42 (by decide) dX12_count_27 (zgen (zI.top _) (fun v43 _ => ?_))
      exact ziretQ hQ hx hb hr rfl hlocks (v43, r1) rfl ⟨(zI.top _), pr1.1, pr1.2, trivial⟩ hw hS dX12_count_28
  · have k44 : zI 0 0 (u2) := zI.eqq c4 (zI.lit (a := 0) (b := 0) (c := 0) (by decide))
    refine lv_iconst (v := (-1)) hx hb dX12_count_15 (by decide) ?_
    exact ziretQ hQ hx hb hr rfl hlocks ((-1), r1) rfl ⟨(zI.top _), pr1.1, pr1.2, trivial⟩ hw hS dX12_count_16

noncomputable def Gm_roams_162 (w25_5 : Int32) (ih25 : Int32 → Int32 → Int32 → zRr → (Int32 × zRr)) (w162_3 : Int32) (w162_4 : Int32) (rw162 : zRr) : Int32 × zRr :=
  ih25 w162_3 w162_4 (w25_5 + 1) rw162
noncomputable def Gm_roams_156 (w77_4 : Int32) (w77_6 : Int32) (w77_7 : Int32) (ih77 : Int32 → Int32 → Int32 → Int32 → zRr → (Int32 × zRr)) (w156_3 : Int32) (rw156 : zRr) : Int32 × zRr :=
  ih77 w156_3 w77_4 w77_6 (w77_7 + 1) rw156
noncomputable def Bm_roams_77 (a1 : Int32) (q : zRq) (w25_5 : Int32) (ih25 : Int32 → Int32 → Int32 → zRr → (Int32 × zRr)) (ih77 : Int32 → Int32 → Int32 → Int32 → zRr → (Int32 × zRr)) (w77_3 : Int32) (w77_4 : Int32) (w77_6 : Int32) (w77_7 : Int32) (rw77 : zRr) : Int32 × zRr :=
  zlet (α := Int32) (rw77 1 0) <| fun v3 => zif (v3 ≤ w77_7) (Gm_roams_162 w25_5 ih25 w77_3 w77_4 rw77) (zlet (α := Int32) (64 * w77_7) <| fun v7 => zlet (α := Int32) (w25_5 - w25_5 / 64 * 64) <| fun v8 => zlet (α := Int32) (1 <<< (w77_7 &&& 31)) <| fun v9 => zlet (α := Int32) (v8 ||| v9) <| fun v10 => zlet (α := Int32) (v7 + v10) <| fun v11 => zlet (α := Int32) (rw77 5 (zn w77_6)) <| fun v12 => zlet (α := Int32) (v12 >>> (w77_7 &&& 31)) <| fun v13 => zlet (α := Int32) (v13 &&& 1) <| fun v14 => zif (v14 = (0 : Int32)) (Gm_roams_156 w77_4 w77_6 w77_7 ih77 w77_3 rw77) (zifn ((rw77 38 (zn v11)) = (0 : Int32)) (Gm_roams_156 w77_4 w77_6 w77_7 ih77 w77_3 rw77) (zc_vr (Gm_lets w77_7 a1 w77_6 rw77 q) <| fun v23 r24 => zifn (v23 = (0 : Int32)) (zlet (α := zRr) (zset r24 38 (upd (r24 38) (zn v11) (1 : Int32))) <| fun r27 => Gm_roams_156 w77_4 w77_6 w77_7 ih77 1 r27) (Gm_roams_156 w77_4 w77_6 w77_7 ih77 w77_3 r24))))
noncomputable def Gm_roams_77 (a1 : Int32) (q : zRq) (w25_5 : Int32) (ih25 : Int32 → Int32 → Int32 → zRr → (Int32 × zRr)) (n : Nat) : Int32 → Int32 → Int32 → Int32 → zRr → (Int32 × zRr) :=
  Nat.rec (motive := fun _ => Int32 → Int32 → Int32 → Int32 → zRr → (Int32 × zRr)) (fun _ _ _ _ rw77 => (default, rw77)) (fun _ ih => Bm_roams_77 a1 q w25_5 ih25 ih) n
noncomputable def Gm_roams_72 (a1 : Int32) (q : zRq) (w25_3 : Int32) (w25_5 : Int32) (rw25 : zRr) (ih25 : Int32 → Int32 → Int32 → zRr → (Int32 × zRr)) (w72_6 : Int32) (w72_s0 : Int32) : Int32 × zRr :=
  Gm_roams_77 a1 q w25_5 ih25 7 w25_3 w72_s0 w72_6 0 rw25
noncomputable def Gm_roams_67 (a1 : Int32) (q : zRq) (w25_3 : Int32) (w25_5 : Int32) (rw25 : zRr) (ih25 : Int32 → Int32 → Int32 → zRr → (Int32 × zRr)) (w67_6 : Int32) : Int32 × zRr :=
  Gm_roams_72 a1 q w25_3 w25_5 rw25 ih25 w67_6 1
noncomputable def Bm_roams_25 (a1 : Int32) (q : zRq) (w16_2 : Int32) (ih16 : Int32 → Int32 → Int32 → zRr → (Int32 × zRr)) (ih25 : Int32 → Int32 → Int32 → zRr → (Int32 × zRr)) (w25_3 : Int32) (w25_4 : Int32) (w25_5 : Int32) (rw25 : zRr) : Int32 × zRr :=
  zif ((384 : Int32) ≤ w25_5) (ih16 w16_2 w25_3 w25_4 rw25) (zlet (α := Int32) (rw25 38 (zn w25_5)) <| fun v32 => zifn (v32 = (0 : Int32)) (zlet (α := Int32) (w25_5 / 64) <| fun v35 => zifn (w25_4 = (0 : Int32)) (Gm_roams_67 a1 q w25_3 w25_5 rw25 ih25 v35) (zlet (α := Int32) (w25_5 - w25_5 / 64 * 64) <| fun v39 => zifn (v39 = w16_2) (Gm_roams_72 a1 q w25_3 w25_5 rw25 ih25 v35 0) (Gm_roams_67 a1 q w25_3 w25_5 rw25 ih25 v35))) (Gm_roams_162 w25_5 ih25 w25_3 w25_4 rw25))
noncomputable def Gm_roams_25 (a1 : Int32) (q : zRq) (w16_2 : Int32) (ih16 : Int32 → Int32 → Int32 → zRr → (Int32 × zRr)) (n : Nat) : Int32 → Int32 → Int32 → zRr → (Int32 × zRr) :=
  Nat.rec (motive := fun _ => Int32 → Int32 → Int32 → zRr → (Int32 × zRr)) (fun _ _ _ rw25 => (default, rw25)) (fun _ ih => Bm_roams_25 a1 q w16_2 ih16 ih) n
noncomputable def Bm_roams_16 (a1 : Int32) (q : zRq) (ih16 : Int32 → Int32 → Int32 → zRr → (Int32 × zRr)) (w16_2 : Int32) (w16_3 : Int32) (w16_4 : Int32) (rw16 : zRr) : Int32 × zRr :=
  zif (w16_3 = (0 : Int32)) ((w16_4, rw16)) (Gm_roams_25 a1 q w16_2 ih16 385 0 w16_4 0 rw16)
noncomputable def Gm_roams_16 (a1 : Int32) (q : zRq) (n : Nat) : Int32 → Int32 → Int32 → zRr → (Int32 × zRr) :=
  Nat.rec (motive := fun _ => Int32 → Int32 → Int32 → zRr → (Int32 × zRr)) (fun _ _ _ rw16 => (default, rw16)) (fun _ ih => Bm_roams_16 a1 q ih) n
noncomputable def Gm_roams (a1 : Int32) (r : zRr) (q : zRq) : Int32 × zRr :=
  zlet (α := Int32) (r 1 0) <| fun v45 => zlet (α := Int32) (1 <<< (v45 &&& 31)) <| fun v46 => zlet (α := Int32) (v46 - 1) <| fun v47 => Gm_roams_16 a1 q 386 v47 1 0 r
set_option maxHeartbeats 4000000 in
set_option maxRecDepth 100000 in
theorem mc_roams (l : Launch) (D : va_G) (ct : Nat → ClassId) (h0 : Nat) (y : Nat → Nat) (B : Int) (a1 : Int32) (r : zRr) (q : zRq) (g1 : zI 0 5 a1) (hJ0 : mJ B r) : zC l yX12_roams (.code yX12_roams cX12_roams 9 (some .boolean) :: wsL_law0) ({ frames := 8, cells := 0, slots := 0, locals := 360 }) D ct [] [.ref h0, .int a1] (mW ct h0 y r q) (S := Int32 × zRr) (fun u => some (.int u.1)) (fun u => zI 0 1 u.1 ∧ mJ B u.2 ∧ zFr [15, 16, 17, 18, 19, 20, 21, 22, 23, 24, 38] r u.2 ∧ u = (Gm_roams a1 r q) ∧ True) (fun u => mW ct h0 y u.2 q) 0 0 := by
  refine zofQ cX12_roams 9 (some .boolean) (by decide) rfl (Nat.le_of_ble_eq_true rfl) ?_
  intro p e s m below meth c A a9 Q ha9 hx hb hr hml hts hown hlocks hname hK hA hZ hN hQ
  have hown : s.vm.findClass RX12 = some m.cls := hown
  have hiX12 : ∀ w ∈ wsX120, w ∈ .code yX12_roams cX12_roams 9 (some .boolean) :: wsL_law0 := fun _ h => ki (zs_wsX120 _ h)
  have lf13 := hts (.fieldLink RX12 13 "BeardPassModel" "land" "[I") (ki (zr7 20 rfl))
  have lf26 := hts (.fieldLink RX12 26 "BeardPassModel" "roads" "[I") (ki (zr8 0 rfl))
  have lf126 := hts (.fieldLink RX12 126 "BeardPassModel" "stands" "[Z") (ki (zr9 10 rfl))
  obtain ⟨X, hX⟩ : ∃ X, X = (Gm_roams a1 r q) := ⟨_, rfl⟩
  have cut16 : ∀ (n16 : Nat) (w16_2 : Int32) (w16_3 : Int32) (w16_4 : Int32) (rw16 : zRr) (hw16_1 : zI 0 5 a1) (hw16_2 : zI 0 63 w16_2) (hw16_3 : zI 0 1 w16_3) (hw16_4 : zI 0 1 w16_4) (jw16 : mJ B rw16) (fw16 : zFr [15, 16, 17, 18, 19, 20, 21, 22, 23, 24, 38] r rw16) (hE : X = Gm_roams_16 a1 q n16 w16_2 w16_3 w16_4 rw16), ((mz (rw16 38) 384 : Nat) : Int) + w16_3.toInt < (n16 : Int) → zKf p l e ({ frames := 8, cells := 0, slots := 0, locals := 360 }) s m a9 below meth c Q D A 16 9 [] (mW ct h0 y rw16 q) [(0, .ref h0), (1, .int a1), (2, .int w16_2), (3, .int w16_3), (4, .int w16_4)] := by
    intro n16
    induction n16 with
    | zero => intro w16_2 w16_3 w16_4 rw16 hw16_1 hw16_2 hw16_3 hw16_4 jw16 fw16 hE hm16; exact absurd hm16 (by have h9 := hw16_3.1; omega)
    | succ n16 ih16 =>
      intro w16_2 w16_3 w16_4 rw16 hw16_1 hw16_2 hw16_3 hw16_4 jw16 fw16 hE hm16
      have hE : X = Bm_roams_16 a1 q (Gm_roams_16 a1 q n16) w16_2 w16_3 w16_4 rw16 := hE
      unfold Bm_roams_16 at hE
      have cut25 : ∀ (n25 : Nat) (w25_3 : Int32) (w25_4 : Int32) (w25_5 : Int32) (rw25 : zRr) (hw25_1 : zI 0 5 a1) (hw25_2 : zI 0 63 w16_2) (hw25_3 : zI 0 1 w25_3) (hw25_4 : zI 0 1 w25_4) (hw25_5 : zI 0 384 w25_5) (jw25 : mJ B rw25) (fw25 : zFr [15, 16, 17, 18, 19, 20, 21, 22, 23, 24, 38] r rw25) (x25 : ((mz (rw25 38) 384 : Nat) : Int) + w25_3.toInt + 1 ≤ ((mz (rw16 38) 384 : Nat) : Int) + w16_3.toInt) (hE : X = Gm_roams_25 a1 q w16_2 (Gm_roams_16 a1 q n16) n25 w25_3 w25_4 w25_5 rw25), 384 - w25_5.toInt < (n25 : Int) → zKf p l e ({ frames := 8, cells := 0, slots := 0, locals := 360 }) s m a9 below meth c Q D A 25 9 [] (mW ct h0 y rw25 q) [(0, .ref h0), (1, .int a1), (2, .int w16_2), (3, .int w25_3), (4, .int w25_4), (5, .int w25_5)] := by
        intro n25
        induction n25 with
        | zero => intro w25_3 w25_4 w25_5 rw25 hw25_1 hw25_2 hw25_3 hw25_4 hw25_5 jw25 fw25 x25 hE hm25; exact zI.no hw25_5 (by decide) hm25
        | succ n25 ih25 =>
          intro w25_3 w25_4 w25_5 rw25 hw25_1 hw25_2 hw25_3 hw25_4 hw25_5 jw25 fw25 x25 hE hm25
          have hE : X = Bm_roams_25 a1 q w16_2 (Gm_roams_16 a1 q n16) (Gm_roams_25 a1 q w16_2 (Gm_roams_16 a1 q n16) n25) w25_3 w25_4 w25_5 rw25 := hE
          unfold Bm_roams_25 at hE
          have cut162 : ∀ (w162_3 : Int32) (w162_4 : Int32) (rw162 : zRr) (hw162_1 : zI 0 5 a1) (hw162_2 : zI 0 63 w16_2) (hw162_3 : zI 0 1 w162_3) (hw162_4 : zI 0 1 w162_4) (hw162_5 : zI 0 383 w25_5) (jw162 : mJ B rw162) (fw162 : zFr [15, 16, 17, 18, 19, 20, 21, 22, 23, 24, 38] r rw162) (x162 : ((mz (rw162 38) 384 : Nat) : Int) + w162_3.toInt + 1 ≤ ((mz (rw16 38) 384 : Nat) : Int) + w16_3.toInt) (hE : X = Gm_roams_162 w25_5 (Gm_roams_25 a1 q w16_2 (Gm_roams_16 a1 q n16) n25) w162_3 w162_4 rw162), zKf p l e ({ frames := 8, cells := 0, slots := 0, locals := 360 }) s m a9 below meth c Q D A 162 9 [] (mW ct h0 y rw162 q) [(0, .ref h0), (1, .int a1), (2, .int w16_2), (3, .int w162_3), (4, .int w162_4), (5, .int w25_5)] := by
            intro w162_3 w162_4 rw162 hw162_1 hw162_2 hw162_3 hw162_4 hw162_5 jw162 fw162 x162 hE H locs ls hw hS hl
            unfold Gm_roams_162 at hE
            refine lv_iinc (v := w25_5 + 1) (lv' := [(5, .int (w25_5 + 1)), (0, .ref h0), (1, .int a1), (2, .int w16_2), (3, .int w162_3), (4, .int w162_4)]) hx hb dX12_roams_162 hl (k := 5) rfl (rfl) (by decide) rfl (fun ls hl => ?_)
            have k1 : zI 1 384 (w25_5 + 1) := zI.add hw162_5 (zI.lit (a := 1) (b := 1) (by decide)) (by decide)
            refine lv_goto (tgt := 25) hx hb dX12_roams_165 (by decide) ?_
            exact ih25 w162_3 w162_4 (w25_5 + 1) rw162 hw162_1 hw162_2 hw162_3 hw162_4 (k1.w (c := 0) (d := 384) (by decide)) jw162 fw162 (x162) hE (zI.up hw162_5 (by decide) hm25) H locs ls hw hS (lv_sub hl [1, 2, 3, 4, 5, 0] rfl)
          have cut77 : ∀ (n77 : Nat) (w77_3 : Int32) (w77_4 : Int32) (w77_6 : Int32) (w77_7 : Int32) (rw77 : zRr) (hw77_1 : zI 0 5 a1) (hw77_2 : zI 0 63 w16_2) (hw77_3 : zI 0 1 w77_3) (hw77_4 : zI 0 1 w77_4) (hw77_5 : zI 0 383 w25_5) (hw77_6 : zI 0 5 w77_6) (hw77_7 : zI 0 6 w77_7) (jw77 : mJ B rw77) (fw77 : zFr [15, 16, 17, 18, 19, 20, 21, 22, 23, 24, 38] r rw77) (x77 : ((mz (rw77 38) 384 : Nat) : Int) + w77_3.toInt + 1 ≤ ((mz (rw16 38) 384 : Nat) : Int) + w16_3.toInt) (hE : X = Gm_roams_77 a1 q w25_5 (Gm_roams_25 a1 q w16_2 (Gm_roams_16 a1 q n16) n25) n77 w77_3 w77_4 w77_6 w77_7 rw77), 6 - w77_7.toInt < (n77 : Int) → zKf p l e ({ frames := 8, cells := 0, slots := 0, locals := 360 }) s m a9 below meth c Q D A 77 9 [] (mW ct h0 y rw77 q) [(0, .ref h0), (1, .int a1), (2, .int w16_2), (3, .int w77_3), (4, .int w77_4), (5, .int w25_5), (6, .int w77_6), (7, .int w77_7)] := by
            intro n77
            induction n77 with
            | zero => intro w77_3 w77_4 w77_6 w77_7 rw77 hw77_1 hw77_2 hw77_3 hw77_4 hw77_5 hw77_6 hw77_7 jw77 fw77 x77 hE hm77; exact zI.no hw77_7 (by decide) hm77
            | succ n77 ih77 =>
              intro w77_3 w77_4 w77_6 w77_7 rw77 hw77_1 hw77_2 hw77_3 hw77_4 hw77_5 hw77_6 hw77_7 jw77 fw77 x77 hE hm77
              have hE : X = Bm_roams_77 a1 q w25_5 (Gm_roams_25 a1 q w16_2 (Gm_roams_16 a1 q n16) n25) (Gm_roams_77 a1 q w25_5 (Gm_roams_25 a1 q w16_2 (Gm_roams_16 a1 q n16) n25) n77) w77_3 w77_4 w77_6 w77_7 rw77 := hE
              unfold Bm_roams_77 at hE
              have cut156 : ∀ (w156_3 : Int32) (rw156 : zRr) (hw156_1 : zI 0 5 a1) (hw156_2 : zI 0 63 w16_2) (hw156_3 : zI 0 1 w156_3) (hw156_4 : zI 0 1 w77_4) (hw156_5 : zI 0 383 w25_5) (hw156_6 : zI 0 5 w77_6) (hw156_7 : zI 0 5 w77_7) (jw156 : mJ B rw156) (fw156 : zFr [15, 16, 17, 18, 19, 20, 21, 22, 23, 24, 38] r rw156) (x156 : ((mz (rw156 38) 384 : Nat) : Int) + w156_3.toInt + 1 ≤ ((mz (rw16 38) 384 : Nat) : Int) + w16_3.toInt) (hE : X = Gm_roams_156 w77_4 w77_6 w77_7 (Gm_roams_77 a1 q w25_5 (Gm_roams_25 a1 q w16_2 (Gm_roams_16 a1 q n16) n25) n77) w156_3 rw156), zKf p l e ({ frames := 8, cells := 0, slots := 0, locals := 360 }) s m a9 below meth c Q D A 156 9 [] (mW ct h0 y rw156 q) [(0, .ref h0), (1, .int a1), (2, .int w16_2), (3, .int w156_3), (4, .int w77_4), (5, .int w25_5), (6, .int w77_6), (7, .int w77_7)] := by
                intro w156_3 rw156 hw156_1 hw156_2 hw156_3 hw156_4 hw156_5 hw156_6 hw156_7 jw156 fw156 x156 hE H locs ls hw hS hl
                unfold Gm_roams_156 at hE
                refine lv_iinc (v := w77_7 + 1) (lv' := [(7, .int (w77_7 + 1)), (0, .ref h0), (1, .int a1), (2, .int w16_2), (3, .int w156_3), (4, .int w77_4), (5, .int w25_5), (6, .int w77_6)]) hx hb dX12_roams_156 hl (k := 7) rfl (rfl) (by decide) rfl (fun ls hl => ?_)
                have k2 : zI 1 6 (w77_7 + 1) := zI.add hw156_7 (zI.lit (a := 1) (b := 1) (by decide)) (by decide)
                refine lv_goto (tgt := 77) hx hb dX12_roams_159 (by decide) ?_
                exact ih77 w156_3 w77_4 w77_6 (w77_7 + 1) rw156 hw156_1 hw156_2 hw156_3 hw156_4 hw156_5 hw156_6 (k2.w (c := 0) (d := 6) (by decide)) jw156 fw156 (x156) hE (zI.up hw156_7 (by decide) hm77) H locs ls hw hS (lv_sub hl [1, 2, 3, 4, 5, 6, 7, 0] rfl)
              intro H locs ls hw hS hl
              refine lv_iload hx hb dX12_roams_77 (lv_at hl 7 rfl) ?_
              refine lv_aload_n hx hb dX12_roams_79 rfl (lv_at hl 0 rfl) ?_
              refine mget (v := .ref (y 1)) hx hb hts hiX12 hown hK hw 10 (by decide) lf13 rfl rfl dX12_roams_80 ?_
              refine lv_iconst (v := 0) hx hb dX12_roams_83 (by decide) ?_
              refine ziald hx hb hK hw 2 mWg1 0 (by decide) (by decide) (by decide) dX12_roams_84 (zgenE (lo := 0) (hi := 6) ((show zI 0 6 (rw77 1 0) from jw77.i 1 0)) (fun v3 ev3 hv3 => ?_))
              have hE := zletE ev3 hE
              refine lv_icmp_ge (tgt := 162) hx hb dX12_roams_85 (by decide) (fun c4 => ?_) (fun c4 => ?_)
              · have hE := zifT c4 hE
                exact cut162 w77_3 w77_4 rw77 hw77_1 hw77_2 hw77_3 hw77_4 hw77_5 jw77 fw77 (x77) hE H locs ls hw hS (lv_sub hl [0, 1, 2, 3, 4, 5] rfl)
              · have hE := zifF c4 hE
                have k5 : zI 0 5 (w77_7) := zI.ltU (zI.nle c4) hw77_7 hv3 (by decide)
                have k6 : zI 1 6 (v3) := zI.ltD (zI.nle c4) hw77_7 hv3 (by decide)
                refine lv_bipush (v := 64) hx hb dX12_roams_88 (by decide) ?_
                refine lv_iload hx hb dX12_roams_90 (lv_at hl 7 rfl) ?_
                refine lv_imul hx hb dX12_roams_92 (zgenE (lo := 0) (hi := 320) (zI.mul (zI.lit (a := 64) (b := 64) (c := 64) (by decide)) k5 (by decide)) (fun v7 ev7 hv7 => ?_))
                have hE := zletE ev7 hE
                refine lv_iload hx hb dX12_roams_93 (lv_at hl 5 rfl) ?_
                refine lv_bipush (v := 64) hx hb dX12_roams_95 (by decide) ?_
                refine lv_irem hx hb dX12_roams_97 (by decide) (zgenE (lo := 0) (hi := 63) (zI.rem hw77_5 (zI.lit (a := 64) (b := 64) (c := 64) (by decide)) (by decide)) (fun v8 ev8 hv8 => ?_))
                have hE := zletE ev8 hE
                refine lv_iconst (v := 1) hx hb dX12_roams_98 (by decide) ?_
                refine lv_iload hx hb dX12_roams_99 (lv_at hl 7 rfl) ?_
                refine lv_ishl hx hb dX12_roams_101 (zgenE (lo := 1) (hi := 32) (zI.shl k5 5 (by decide)) (fun v9 ev9 hv9 => ?_))
                have hE := zletE ev9 hE
                refine lv_ior hx hb dX12_roams_102 (zgenE (lo := 0) (hi := 63) (zI.or 6 hv8 hv9 (by decide)) (fun v10 ev10 hv10 => ?_))
                have hE := zletE ev10 hE
                refine lv_iadd hx hb dX12_roams_103 (zgenE (lo := 0) (hi := 383) (zI.add hv7 hv10 (by decide)) (fun v11 ev11 hv11 => ?_))
                have hE := zletE ev11 hE
                refine lv_istore (lv' := [(8, .int v11), (0, .ref h0), (1, .int a1), (2, .int w16_2), (3, .int w77_3), (4, .int w77_4), (5, .int w25_5), (6, .int w77_6), (7, .int w77_7)]) hx hb dX12_roams_104 hl (by decide) rfl (fun ls hl => ?_)
                refine lv_aload_n hx hb dX12_roams_106 rfl (lv_at hl 1 rfl) ?_
                refine mget (v := .ref (y 5)) hx hb hts hiX12 hown hK hw 14 (by decide) lf26 rfl rfl dX12_roams_107 ?_
                refine lv_iload hx hb dX12_roams_110 (lv_at hl 7 rfl) ?_
                refine miald hx hb hK hw 6 mWg5 hw77_6 (by decide) dX12_roams_112 (zgenE (zI.top _) (fun v12 ev12 _ => ?_))
                have hE := zletE ev12 hE
                refine lv_iload hx hb dX12_roams_113 (lv_at hl 8 rfl) ?_
                refine lv_ishr hx hb dX12_roams_115 (zgenE (zI.top _) (fun v13 ev13 _ => ?_))
                have hE := zletE ev13 hE
                refine lv_iconst (v := 1) hx hb dX12_roams_116 (by decide) ?_
                refine lv_iand hx hb dX12_roams_117 (zgenE (lo := 0) (hi := 1) (zI.and (zI.lit (a := 1) (b := 1) (c := 1) (by decide)) (by decide)) (fun v14 ev14 hv14 => ?_))
                have hE := zletE ev14 hE
                refine lv_if_eq (tgt := 156) hx hb dX12_roams_118 (by decide) (fun c15 => ?_) (fun c15 => ?_)
                · have hE := zifT c15 hE
                  have k16 : zI 0 0 (v14) := zI.eqq c15 (zI.lit (a := 0) (b := 0) (c := 0) (by decide))
                  exact cut156 w77_3 rw77 hw77_1 hw77_2 hw77_3 hw77_4 hw77_5 hw77_6 k5 jw77 fw77 (x77) hE H locs ls hw hS (lv_sub hl [1, 2, 3, 4, 5, 6, 7, 8] rfl)
                · have hE := zifF c15 hE
                  have k17 : zI 1 1 (v14) := zI.neD c15 hv14 (zI.lit (a := 0) (b := 0) (c := 0) (by decide)) (by decide)
                  refine lv_aload_n hx hb dX12_roams_121 rfl (lv_at hl 1 rfl) ?_
                  refine mget (v := .ref (y 38)) hx hb hts hiX12 hown hK hw 53 (by decide) lf126 rfl rfl dX12_roams_122 ?_
                  refine lv_iload hx hb dX12_roams_125 (lv_at hl 0 rfl) ?_
                  refine mzald hx hb hK hw 39 mWg38 hv11 (by decide) dX12_roams_127 ?_
                  have k18 : zI 0 1 (rw77 38 (zn v11)) := (show zI 0 1 (rw77 38 _) from jw77.i 38 _)
                  refine lv_if_ne (tgt := 156) hx hb dX12_roams_128 (by decide) (fun c19 => ?_) (fun c19 => ?_)
                  · have hE := zifnT c19 hE
                    have k20 : zI 1 1 (rw77 38 (zn v11)) := zI.neD c19 k18 (zI.lit (a := 0) (b := 0) (c := 0) (by decide)) (by decide)
                    exact cut156 w77_3 rw77 hw77_1 hw77_2 hw77_3 hw77_4 hw77_5 hw77_6 k5 jw77 fw77 (x77) hE H locs ls hw hS (lv_sub hl [1, 2, 3, 4, 5, 6, 7, 8] rfl)
                  · have hE := zifnF c19 hE
                    have k21 : zI 0 0 (rw77 38 (zn v11)) := zI.eqq c19 (zI.lit (a := 0) (b := 0) (c := 0) (by decide))
                    refine lv_aload_n hx hb dX12_roams_131 rfl (lv_at hl 1 rfl) ?_
                    refine lv_iload hx hb dX12_roams_132 (lv_at hl 8 rfl) ?_
                    refine lv_iload_n hx hb dX12_roams_134 rfl (lv_at hl 2 rfl) ?_
                    refine lv_iload hx hb dX12_roams_135 (lv_at hl 7 rfl) ?_
                    refine mcallV (As := [.int w77_7, .int a1, .int w77_6]) (rest := []) ⟨hx, hb, hml, hown, hts⟩ (mc_lets l D ct h0 y B w77_7 a1 w77_6 rw77 q k5 hw77_1 jw77) (wqX12_362_mc_lets hts ⟨Nat.le_of_ble_eq_true rfl, Nat.le_of_ble_eq_true rfl⟩) hw hS hA hK hN rfl hl.1 rfl (Nat.le_of_ble_eq_true rfl) dX12_roams_137 140 rfl (fun u22 H locs pu22 hw hS => ?_)
                    obtain ⟨v23, r24⟩ := u22
                    have hv23 : zI 0 1 v23 := pu22.1
                    have ju22 : mJ B r24 := pu22.2.1
                    have fu22 : zFr [15, 16, 17, 18, 19, 20, 21, 22, 23, 24] rw77 r24 := pu22.2.2.1
                    have xu22 : (v23, r24) = (Gm_lets w77_7 a1 w77_6 rw77 q) := pu22.2.2.2.1
                    have hE := zc_vrE xu22 hE
                    have hw : zPD D A (mW ct h0 y r24 q) H := hw
                    refine zfr 140 [.int v23] rfl rfl ?_
                    refine lv_if_ne (tgt := 146) hx hb dX12_roams_140 (by decide) (fun c25 => ?_) (fun c25 => ?_)
                    · have hE := zifnT c25 hE
                      have k26 : zI 1 1 (v23) := zI.neD c25 hv23 (zI.lit (a := 0) (b := 0) (c := 0) (by decide)) (by decide)
                      refine lv_aload_n hx hb dX12_roams_146 rfl (lv_at hl 1 rfl) ?_
                      refine mget (v := .ref (y 38)) hx hb hts hiX12 hown hK hw 53 (by decide) lf126 rfl rfl dX12_roams_147 ?_
                      refine lv_iload hx hb dX12_roams_150 (lv_at hl 0 rfl) ?_
                      refine lv_iconst (v := 1) hx hb dX12_roams_152 (by decide) ?_
                      refine mzast hx hb hK hw hS 39 mWg38 hv11 (by decide)  ((zI.lit (a := 1) (b := 1) (c := 1) (by decide)).w (c := 0) (d := 1) (by decide)) dX12_roams_153 (mW ct h0 y (zset r24 38 (upd (r24 38) (zn v11) (1 : Int32))) q) mWs38 (fun H locs hw hS => ?_)
                      refine mgen (P := fun x => mJ B x ∧ zFr [15, 16, 17, 18, 19, 20, 21, 22, 23, 24, 38] r x) hw ⟨ju22.set rfl ((zI.lit (a := 1) (b := 1) (c := 1) (by decide)).w (c := 0) (d := 1) (by decide)), (fw77.tr fu22 rfl).set rfl⟩ (fun r27 er27 hw pr27 => ?_)
                      have hE := zletE er27 hE
                      refine lv_iconst (v := 1) hx hb dX12_roams_154 (by decide) ?_
                      refine lv_istore_n (lv' := [(3, .int 1), (8, .int v11), (0, .ref h0), (1, .int a1), (2, .int w16_2), (4, .int w77_4), (5, .int w25_5), (6, .int w77_6), (7, .int w77_7)]) hx hb dX12_roams_155 rfl hl (by decide) rfl (fun ls hl => ?_)
                      exact cut156 1 r27 hw77_1 hw77_2 ((zI.lit (a := 1) (b := 1) (c := 1) (by decide)).w (c := 0) (d := 1) (by decide)) hw77_4 hw77_5 hw77_6 k5 pr27.1 pr27.2 (by have h7 := mz_set (f := rw77 38) (j := zn v11) c19 384 (zI.ix (n := 384) hv11 (by decide)).2; have h8 : r27 38 = upd (rw77 38) (zn v11) 1 := (zs_self er27).trans (congrArg (fun f => upd f (zn v11) 1) (fu22 38 rfl)); rw [h8]; have h9 := hw77_3.1; have e1 : (1 : Int32).toInt = 1 := (by decide); omega) hE H locs ls hw hS (lv_sub hl [2, 3, 4, 0, 5, 6, 7, 8] rfl)
                    · have hE := zifnF c25 hE
                      have k28 : zI 0 0 (v23) := zI.eqq c25 (zI.lit (a := 0) (b := 0) (c := 0) (by decide))
                      refine lv_goto (tgt := 156) hx hb dX12_roams_143 (by decide) ?_
                      exact cut156 w77_3 r24 hw77_1 hw77_2 hw77_3 hw77_4 hw77_5 hw77_6 k5 ju22 (fw77.tr fu22 rfl) (by rw [(fu22 38 rfl)]; exact x77) hE H locs ls hw hS (lv_sub hl [1, 2, 3, 4, 5, 6, 7, 8] rfl)
          have cut72 : ∀ (w72_6 : Int32) (w72_s0 : Int32) (hw72_1 : zI 0 5 a1) (hw72_2 : zI 0 63 w16_2) (hw72_3 : zI 0 1 w25_3) (hw72_5 : zI 0 383 w25_5) (hw72_6 : zI 0 5 w72_6) (hw72_s0 : zI 0 1 w72_s0) (hE : X = Gm_roams_72 a1 q w25_3 w25_5 rw25 (Gm_roams_25 a1 q w16_2 (Gm_roams_16 a1 q n16) n25) w72_6 w72_s0), zKf p l e ({ frames := 8, cells := 0, slots := 0, locals := 360 }) s m a9 below meth c Q D A 72 9 [.int w72_s0] (mW ct h0 y rw25 q) [(0, .ref h0), (1, .int a1), (2, .int w16_2), (3, .int w25_3), (5, .int w25_5), (6, .int w72_6)] := by
            intro w72_6 w72_s0 hw72_1 hw72_2 hw72_3 hw72_5 hw72_6 hw72_s0 hE H locs ls hw hS hl
            unfold Gm_roams_72 at hE
            refine lv_istore (lv' := [(4, .int w72_s0), (0, .ref h0), (1, .int a1), (2, .int w16_2), (3, .int w25_3), (5, .int w25_5), (6, .int w72_6)]) hx hb dX12_roams_72 hl (by decide) rfl (fun ls hl => ?_)
            refine lv_iconst (v := 0) hx hb dX12_roams_74 (by decide) ?_
            refine lv_istore (lv' := [(7, .int 0), (4, .int w72_s0), (0, .ref h0), (1, .int a1), (2, .int w16_2), (3, .int w25_3), (5, .int w25_5), (6, .int w72_6)]) hx hb dX12_roams_75 hl (by decide) rfl (fun ls hl => ?_)
            exact cut77 7 w25_3 w72_s0 w72_6 0 rw25 hw72_1 hw72_2 hw72_3 hw72_s0 hw72_5 hw72_6 ((zI.lit (a := 0) (b := 0) (c := 0) (by decide)).w (c := 0) (d := 6) (by decide)) jw25 fw25 (x25) hE (zI.m0 (zI.lit (a := 0) (b := 0) (c := 0) (by decide)) (by decide)) H locs ls hw hS (lv_sub hl [2, 3, 4, 5, 1, 6, 7, 0] rfl)
          have cut67 : ∀ (w67_6 : Int32) (hw67_1 : zI 0 5 a1) (hw67_2 : zI 0 63 w16_2) (hw67_3 : zI 0 1 w25_3) (hw67_5 : zI 0 383 w25_5) (hw67_6 : zI 0 5 w67_6) (hE : X = Gm_roams_67 a1 q w25_3 w25_5 rw25 (Gm_roams_25 a1 q w16_2 (Gm_roams_16 a1 q n16) n25) w67_6), zKf p l e ({ frames := 8, cells := 0, slots := 0, locals := 360 }) s m a9 below meth c Q D A 67 9 [] (mW ct h0 y rw25 q) [(0, .ref h0), (1, .int a1), (2, .int w16_2), (3, .int w25_3), (5, .int w25_5), (6, .int w67_6)] := by
            intro w67_6 hw67_1 hw67_2 hw67_3 hw67_5 hw67_6 hE H locs ls hw hS hl
            unfold Gm_roams_67 at hE
            refine lv_iconst (v := 1) hx hb dX12_roams_67 (by decide) ?_
            refine lv_goto (tgt := 72) hx hb dX12_roams_68 (by decide) ?_
            exact cut72 w67_6 1 hw67_1 hw67_2 hw67_3 hw67_5 hw67_6 ((zI.lit (a := 1) (b := 1) (c := 1) (by decide)).w (c := 0) (d := 1) (by decide)) hE H locs ls hw hS (lv_sub hl [0, 1, 2, 3, 4, 5] rfl)
          intro H locs ls hw hS hl
          refine lv_iload hx hb dX12_roams_25 (lv_at hl 5 rfl) ?_
          refine lv_sipush (v := 384) hx hb dX12_roams_27 (by decide) ?_
          refine lv_icmp_ge (tgt := 168) hx hb dX12_roams_30 (by decide) (fun c29 => ?_) (fun c29 => ?_)
          · have hE := zifT c29 hE
            have k30 : zI 384 384 (w25_5) := zI.leD c29 (zI.lit (a := 384) (b := 384) (c := 384) (by decide)) hw25_5 (by decide)
            refine lv_goto (tgt := 16) hx hb dX12_roams_168 (by decide) ?_
            exact ih16 w16_2 w25_3 w25_4 rw25 hw25_1 hw25_2 hw25_3 hw25_4 jw25 fw25 hE (by have h9 := x25; omega) H locs ls hw hS (lv_sub hl [0, 1, 2, 3, 4] rfl)
          · have hE := zifF c29 hE
            have k31 : zI 0 383 (w25_5) := zI.ltU (zI.nle c29) hw25_5 (zI.lit (a := 384) (b := 384) (c := 384) (by decide)) (by decide)
            refine lv_aload_n hx hb dX12_roams_33 rfl (lv_at hl 0 rfl) ?_
            refine mget (v := .ref (y 38)) hx hb hts hiX12 hown hK hw 53 (by decide) lf126 rfl rfl dX12_roams_34 ?_
            refine lv_iload hx hb dX12_roams_37 (lv_at hl 5 rfl) ?_
            refine mzald hx hb hK hw 39 mWg38 k31 (by decide) dX12_roams_39 (zgenE (lo := 0) (hi := 1) ((show zI 0 1 (rw25 38 _) from jw25.i 38 _)) (fun v32 ev32 hv32 => ?_))
            have hE := zletE ev32 hE
            refine lv_if_ne (tgt := 46) hx hb dX12_roams_40 (by decide) (fun c33 => ?_) (fun c33 => ?_)
            · have hE := zifnT c33 hE
              have k34 : zI 1 1 (v32) := zI.neD c33 hv32 (zI.lit (a := 0) (b := 0) (c := 0) (by decide)) (by decide)
              refine lv_iload hx hb dX12_roams_46 (lv_at hl 5 rfl) ?_
              refine lv_bipush (v := 64) hx hb dX12_roams_48 (by decide) ?_
              refine lv_idiv hx hb dX12_roams_50 (by decide) (zgenE (lo := 0) (hi := 5) (zI.div k31 (zI.lit (a := 64) (b := 64) (c := 64) (by decide)) (by decide)) (fun v35 ev35 hv35 => ?_))
              have hE := zletE ev35 hE
              refine lv_istore (lv' := [(6, .int v35), (0, .ref h0), (1, .int a1), (2, .int w16_2), (3, .int w25_3), (4, .int w25_4), (5, .int w25_5)]) hx hb dX12_roams_51 hl (by decide) rfl (fun ls hl => ?_)
              refine lv_iload hx hb dX12_roams_53 (lv_at hl 5 rfl) ?_
              refine lv_if_ne (tgt := 67) hx hb dX12_roams_55 (by decide) (fun c36 => ?_) (fun c36 => ?_)
              · have hE := zifnT c36 hE
                have k37 : zI 1 1 (w25_4) := zI.neD c36 hw25_4 (zI.lit (a := 0) (b := 0) (c := 0) (by decide)) (by decide)
                exact cut67 v35 hw25_1 hw25_2 hw25_3 k31 hv35 hE H locs ls hw hS (lv_sub hl [1, 2, 3, 4, 6, 0] rfl)
              · have hE := zifnF c36 hE
                have k38 : zI 0 0 (w25_4) := zI.eqq c36 (zI.lit (a := 0) (b := 0) (c := 0) (by decide))
                refine lv_iload hx hb dX12_roams_58 (lv_at hl 6 rfl) ?_
                refine lv_bipush (v := 64) hx hb dX12_roams_60 (by decide) ?_
                refine lv_irem hx hb dX12_roams_62 (by decide) (zgenE (lo := 0) (hi := 63) (zI.rem k31 (zI.lit (a := 64) (b := 64) (c := 64) (by decide)) (by decide)) (fun v39 ev39 hv39 => ?_))
                have hE := zletE ev39 hE
                refine lv_iload_n hx hb dX12_roams_63 rfl (lv_at hl 3 rfl) ?_
                refine lv_icmp_ne (tgt := 71) hx hb dX12_roams_64 (by decide) (fun c40 => ?_) (fun c40 => ?_)
                · have hE := zifnT c40 hE
                  refine lv_iconst (v := 0) hx hb dX12_roams_71 (by decide) ?_
                  exact cut72 v35 0 hw25_1 hw25_2 hw25_3 k31 hv35 ((zI.lit (a := 0) (b := 0) (c := 0) (by decide)).w (c := 0) (d := 1) (by decide)) hE H locs ls hw hS (lv_sub hl [1, 2, 3, 4, 6, 0] rfl)
                · have hE := zifnF c40 hE
                  exact cut67 v35 hw25_1 hw25_2 hw25_3 k31 hv35 hE H locs ls hw hS (lv_sub hl [1, 2, 3, 4, 6, 0] rfl)
            · have hE := zifnF c33 hE
              have k41 : zI 0 0 (v32) := zI.eqq c33 (zI.lit (a := 0) (b := 0) (c := 0) (by decide))
              refine lv_goto (tgt := 162) hx hb dX12_roams_43 (by decide) ?_
              exact cut162 w25_3 w25_4 rw25 hw25_1 hw25_2 hw25_3 hw25_4 k31 jw25 fw25 (x25) hE H locs ls hw hS (lv_sub hl [0, 1, 2, 3, 4, 5] rfl)
      intro H locs ls hw hS hl
      refine lv_iload_n hx hb dX12_roams_16 rfl (lv_at hl 3 rfl) ?_
      refine lv_if_eq (tgt := 171) hx hb dX12_roams_17 (by decide) (fun c42 => ?_) (fun c42 => ?_)
      · have hE := zifT c42 hE
        have k43 : zI 0 0 (w16_3) := zI.eqq c42 (zI.lit (a := 0) (b := 0) (c := 0) (by decide))
        refine lv_iload hx hb dX12_roams_171 (lv_at hl 4 rfl) ?_
        exact ziretQ hQ hx hb hr (hw16_4.rn) hlocks (w16_4, rw16) rfl ⟨hw16_4, jw16, fw16, (hE.symm.trans hX), trivial⟩ hw hS dX12_roams_173
      · have hE := zifF c42 hE
        have k44 : zI 1 1 (w16_3) := zI.neD c42 hw16_3 (zI.lit (a := 0) (b := 0) (c := 0) (by decide)) (by decide)
        refine lv_iconst (v := 0) hx hb dX12_roams_20 (by decide) ?_
        refine lv_istore_n (lv' := [(3, .int 0), (0, .ref h0), (1, .int a1), (2, .int w16_2), (4, .int w16_4)]) hx hb dX12_roams_21 rfl hl (by decide) rfl (fun ls hl => ?_)
        refine lv_iconst (v := 0) hx hb dX12_roams_22 (by decide) ?_
        refine lv_istore (lv' := [(5, .int 0), (3, .int 0), (0, .ref h0), (1, .int a1), (2, .int w16_2), (4, .int w16_4)]) hx hb dX12_roams_23 hl (by decide) rfl (fun ls hl => ?_)
        exact cut25 385 0 w16_4 0 rw16 hw16_1 hw16_2 ((zI.lit (a := 0) (b := 0) (c := 0) (by decide)).w (c := 0) (d := 1) (by decide)) hw16_4 ((zI.lit (a := 0) (b := 0) (c := 0) (by decide)).w (c := 0) (d := 384) (by decide)) jw16 fw16 (by have h8 := (k44).1; have e0 : (0 : Int32).toInt = 0 := (by decide); omega) hE (zI.m0 (zI.lit (a := 0) (b := 0) (c := 0) (by decide)) (by decide)) H locs ls hw hS (lv_sub hl [2, 3, 4, 1, 5, 0] rfl)
  intro H locs hw hS ls hl
  have hl : lv_has ls 9 [(0, .ref h0), (1, .int a1)] := hl
  have hE := hX
  unfold Gm_roams at hE
  refine lv_iconst (v := 1) hx hb dX12_roams_0 (by decide) ?_
  refine lv_aload_n hx hb dX12_roams_1 rfl (lv_at hl 0 rfl) ?_
  refine mget (v := .ref (y 1)) hx hb hts hiX12 hown hK hw 10 (by decide) lf13 rfl rfl dX12_roams_2 ?_
  refine lv_iconst (v := 0) hx hb dX12_roams_5 (by decide) ?_
  refine ziald hx hb hK hw 2 mWg1 0 (by decide) (by decide) (by decide) dX12_roams_6 (zgenE (lo := 0) (hi := 6) ((show zI 0 6 (r 1 0) from hJ0.i 1 0)) (fun v45 ev45 hv45 => ?_))
  have hE := zletE ev45 hE
  refine lv_ishl hx hb dX12_roams_7 (zgenE (lo := 1) (hi := 64) (zI.shl hv45 6 (by decide)) (fun v46 ev46 hv46 => ?_))
  have hE := zletE ev46 hE
  refine lv_iconst (v := 1) hx hb dX12_roams_8 (by decide) ?_
  refine lv_isub hx hb dX12_roams_9 (zgenE (lo := 0) (hi := 63) (zI.sub hv46 (zI.lit (a := 1) (b := 1) (c := 1) (by decide)) (by decide)) (fun v47 ev47 hv47 => ?_))
  have hE := zletE ev47 hE
  refine lv_istore_n (lv' := [(2, .int v47), (0, .ref h0), (1, .int a1)]) hx hb dX12_roams_10 rfl hl (by decide) rfl (fun ls hl => ?_)
  refine lv_iconst (v := 1) hx hb dX12_roams_11 (by decide) ?_
  refine lv_istore_n (lv' := [(3, .int 1), (2, .int v47), (0, .ref h0), (1, .int a1)]) hx hb dX12_roams_12 rfl hl (by decide) rfl (fun ls hl => ?_)
  refine lv_iconst (v := 0) hx hb dX12_roams_13 (by decide) ?_
  refine lv_istore (lv' := [(4, .int 0), (3, .int 1), (2, .int v47), (0, .ref h0), (1, .int a1)]) hx hb dX12_roams_14 hl (by decide) rfl (fun ls hl => ?_)
  exact cut16 386 v47 1 0 r g1 hv47 ((zI.lit (a := 1) (b := 1) (c := 1) (by decide)).w (c := 0) (d := 1) (by decide)) ((zI.lit (a := 0) (b := 0) (c := 0) (by decide)).w (c := 0) (d := 1) (by decide)) hJ0 (zFr.refl) hE (by have h9 := mz_le (r 38) 384; have e1 : (1 : Int32).toInt = 1 := (by decide); omega) H locs ls hw hS (lv_sub hl [3, 4, 2, 1, 0] rfl)

noncomputable def Gm_round_103 (w103_2 : Int32) (rw103 : zRr) : Int32 × zRr :=
  zlet (α := zRr) (zset rw103 32 (zcp (rw103 34) (rw103 32) (0) (0) 31)) <| fun r1 => zif (w103_2 ≤ (99 : Int32)) ((w103_2, r1)) ((((-1) : Int32), r1))
noncomputable def Bm_round_79 (a1 : Int32) (q : zRq) (ih79 : Int32 → zRr → (Int32 × zRr)) (w79_2 : Int32) (rw79 : zRr) : Int32 × zRr :=
  zif ((100 : Int32) ≤ w79_2) (Gm_round_103 w79_2 rw79) (zc_vr (Gm_roams a1 rw79 q) <| fun v9 r10 => zifn (v9 = (0 : Int32)) (Gm_round_103 w79_2 r10) (zlet (α := zRr) ((Gm_passes r10 q)) <| fun u14 => ih79 (w79_2 + 1) u14))
noncomputable def Gm_round_79 (a1 : Int32) (q : zRq) (n : Nat) : Int32 → zRr → (Int32 × zRr) :=
  Nat.rec (motive := fun _ => Int32 → zRr → (Int32 × zRr)) (fun _ rw79 => (default, rw79)) (fun _ ih => Bm_round_79 a1 q ih) n
noncomputable def Bm_round_30 (a1 : Int32) (q : zRq) (ih30 : Int32 → zRr → (Int32 × zRr)) (w30_2 : Int32) (rw30 : zRr) : Int32 × zRr :=
  zif ((384 : Int32) ≤ w30_2) (zlet (α := Int32) (1 + a1) <| fun v19 => zlet (α := Int32) (rw30 32 (zn v19)) <| fun v20 => zlet (α := Int32) (64 * v20) <| fun v21 => zlet (α := Int32) (25 + a1) <| fun v22 => zlet (α := Int32) (rw30 32 (zn v22)) <| fun v23 => zlet (α := Int32) (v21 + v23) <| fun v24 => zlet (α := zRr) (zset rw30 38 (upd (rw30 38) (zn v24) (1 : Int32))) <| fun r25 => Gm_round_79 a1 q 101 0 r25) (zlet (α := zRr) (zset rw30 38 (upd (rw30 38) (zn w30_2) (0 : Int32))) <| fun r27 => ih30 (w30_2 + 1) r27)
noncomputable def Gm_round_30 (a1 : Int32) (q : zRq) (n : Nat) : Int32 → zRr → (Int32 × zRr) :=
  Nat.rec (motive := fun _ => Int32 → zRr → (Int32 × zRr)) (fun _ rw30 => (default, rw30)) (fun _ ih => Bm_round_30 a1 q ih) n
noncomputable def Gm_round (a1 : Int32) (r : zRr) (q : zRq) : Int32 × zRr :=
  zlet (α := zRr) (zset r 100 (fun _ => (0 : Int32))) <| fun r29 => zlet (α := Int32) ((Gm_isPerson a1 r29 q)) <| fun u30 => zifn (u30 = (0 : Int32)) (zlet (α := zRr) (zset r29 34 (zcp (r29 32) (r29 34) (0) (0) 31)) <| fun r34 => Gm_round_30 a1 q 385 0 r34) ((((-1) : Int32), r29))
set_option maxHeartbeats 4000000 in
set_option maxRecDepth 100000 in
theorem mc_round (l : Launch) (D : va_G) (ct : Nat → ClassId) (h0 : Nat) (y : Nat → Nat) (a1 : Int32) (r : zRr) (q : zRq) (hJ0 : mJ 20 r) : zC l yX12_round (.code yX12_round cX12_round 3 (some .int) :: wsL_law0) ({ frames := 9, cells := 0, slots := 0, locals := 400 }) D ct [] [.ref h0, .int a1] (mW ct h0 y r q) (S := Int32 × zRr) (fun u => some (.int u.1)) (fun u => zI (-1) 99 u.1 ∧ mJ 20 u.2 ∧ zFr [15, 16, 17, 18, 19, 20, 21, 22, 23, 24, 34, 32, 100, 38] r u.2 ∧ u = (Gm_round a1 r q) ∧ True) (fun u => mW ct h0 y u.2 q) 0 0 := by
  refine zofQ cX12_round 3 (some .int) (by decide) rfl (Nat.le_of_ble_eq_true rfl) ?_
  intro p e s m below meth c A a9 Q ha9 hx hb hr hml hts hown hlocks hname hK hA hZ hN hQ
  have hown : s.vm.findClass RX12 = some m.cls := hown
  have hiX12 : ∀ w ∈ wsX120, w ∈ .code yX12_round cX12_round 3 (some .int) :: wsL_law0 := fun _ h => ki (zs_wsX120 _ h)
  have lf108 := hts (.fieldLink RX12 108 "BeardPassModel" "s" "[I") (ki (zr9 4 rfl))
  have lf114 := hts (.fieldLink RX12 114 "BeardPassModel" "before" "[I") (ki (zr9 6 rfl))
  have lf126 := hts (.fieldLink RX12 126 "BeardPassModel" "stands" "[Z") (ki (zr9 10 rfl))
  have lf129 := hts (.fieldLink RX12 129 "BeardPassModel" "thrown" "I") (ki (zr10 1 rfl))
  obtain ⟨X, hX⟩ : ∃ X, X = (Gm_round a1 r q) := ⟨_, rfl⟩
  have cut103 : ∀ (w103_2 : Int32) (rw103 : zRr) (hw103_2 : zI 0 100 w103_2) (jw103 : mJ 20 rw103) (fw103 : zFr [15, 16, 17, 18, 19, 20, 21, 22, 23, 24, 34, 32, 100, 38] r rw103) (hE : X = Gm_round_103 w103_2 rw103), zKf p l e ({ frames := 9, cells := 0, slots := 0, locals := 400 }) s m a9 below meth c Q D A 103 3 [] (mW ct h0 y rw103 q) [(0, .ref h0), (2, .int w103_2)] := by
    intro w103_2 rw103 hw103_2 jw103 fw103 hE H locs ls hw hS hl
    unfold Gm_round_103 at hE
    refine lv_aload_n hx hb dX12_round_103 rfl (lv_at hl 0 rfl) ?_
    refine mget (v := .ref (y 34)) hx hb hts hiX12 hown hK hw 47 (by decide) lf114 rfl rfl dX12_round_104 ?_
    refine lv_iconst (v := 0) hx hb dX12_round_107 (by decide) ?_
    refine lv_aload_n hx hb dX12_round_108 rfl (lv_at hl 0 rfl) ?_
    refine mget (v := .ref (y 32)) hx hb hts hiX12 hown hK hw 45 (by decide) lf108 rfl rfl dX12_round_109 ?_
    refine lv_iconst (v := 0) hx hb dX12_round_112 (by decide) ?_
    refine mcp2 35 33 (As := [.ref (y 34), .int 0, .ref (y 32), .int 0]) (rest := []) ⟨hx, hb, hml, hown, hts⟩ (c_copies l D ct (y 34) (0) (y 32) (0) 31 31 (rw103 34) (rw103 32) (by decide) (by decide) (by decide) (by decide)) (va_cwS 4 hts (kgSm (zr36 17 rfl) (zr36 18 rfl) (zr1 5 rfl) mL_X12_copies) rfl rfl rfl (by decide +kernel) ⟨Nat.le_of_ble_eq_true rfl, Nat.le_of_ble_eq_true rfl⟩) hw hS hA hK hN mWg34 mWg32 rfl rfl (by decide) rfl hl.1 rfl (Nat.le_of_ble_eq_true rfl) dX12_round_113 mWs32 (fun _ H locs _ hw hS => ?_)
    have hw : zPD D A (mW ct h0 y (zset rw103 32 (zcp (rw103 34) (rw103 32) (0) (0) 31)) q) H := hw
    refine zfr 116 [] rfl rfl ?_
    refine mgen (P := fun x => mJ 20 x ∧ zFr [15, 16, 17, 18, 19, 20, 21, 22, 23, 24, 34, 32, 100, 38] r x) hw ⟨mcp_s jw103 (Or.inl ⟨Or.inr rfl, rfl⟩), fw103.set rfl⟩ (fun r1 er1 hw pr1 => ?_)
    have hE := zletE er1 hE
    refine lv_iload_n hx hb dX12_round_116 rfl (lv_at hl 1 rfl) ?_
    refine lv_bipush (v := 99) hx hb dX12_round_117 (by decide) ?_
    refine lv_icmp_le (tgt := 126) hx hb dX12_round_119 (by decide) (fun c2 => ?_) (fun c2 => ?_)
    · have hE := zifT c2 hE
      have k3 : zI 0 99 (w103_2) := zI.leU c2 hw103_2 (zI.lit (a := 99) (b := 99) (c := 99) (by decide)) (by decide)
      refine lv_iload_n hx hb dX12_round_126 rfl (lv_at hl 1 rfl) ?_
      exact ziretQ hQ hx hb hr rfl hlocks (w103_2, r1) rfl ⟨(k3.w (c := (-1)) (d := 99) (by decide)), pr1.1, pr1.2, (hE.symm.trans hX), trivial⟩ hw hS dX12_round_127
    · have hE := zifF c2 hE
      have k4 : zI 100 100 (w103_2) := zI.ltD (zI.nle c2) (zI.lit (a := 99) (b := 99) (c := 99) (by decide)) hw103_2 (by decide)
      refine lv_iconst (v := (-1)) hx hb dX12_round_122 (by decide) ?_
      refine lv_goto (tgt := 127) hx hb dX12_round_123 (by decide) ?_
      exact ziretQ hQ hx hb hr rfl hlocks ((-1), r1) rfl ⟨((zI.lit (a := (-1)) (b := (-1)) (c := (-1)) (by decide)).w (c := (-1)) (d := 99) (by decide)), pr1.1, pr1.2, (hE.symm.trans hX), trivial⟩ hw hS dX12_round_127
  have cut79 : ∀ (n79 : Nat) (w79_2 : Int32) (rw79 : zRr) (hw79_1 : zI 0 5 a1) (hw79_2 : zI 0 100 w79_2) (jw79 : mJ 20 rw79) (fw79 : zFr [15, 16, 17, 18, 19, 20, 21, 22, 23, 24, 34, 32, 100, 38] r rw79) (hE : X = Gm_round_79 a1 q n79 w79_2 rw79), 100 - w79_2.toInt < (n79 : Int) → zKf p l e ({ frames := 9, cells := 0, slots := 0, locals := 400 }) s m a9 below meth c Q D A 79 3 [] (mW ct h0 y rw79 q) [(0, .ref h0), (1, .int a1), (2, .int w79_2)] := by
    intro n79
    induction n79 with
    | zero => intro w79_2 rw79 hw79_1 hw79_2 jw79 fw79 hE hm79; exact zI.no hw79_2 (by decide) hm79
    | succ n79 ih79 =>
      intro w79_2 rw79 hw79_1 hw79_2 jw79 fw79 hE hm79
      have hE : X = Bm_round_79 a1 q (Gm_round_79 a1 q n79) w79_2 rw79 := hE
      unfold Bm_round_79 at hE
      intro H locs ls hw hS hl
      refine lv_iload_n hx hb dX12_round_79 rfl (lv_at hl 2 rfl) ?_
      refine lv_bipush (v := 100) hx hb dX12_round_80 (by decide) ?_
      refine lv_icmp_ge (tgt := 103) hx hb dX12_round_82 (by decide) (fun c5 => ?_) (fun c5 => ?_)
      · have hE := zifT c5 hE
        have k6 : zI 100 100 (w79_2) := zI.leD c5 (zI.lit (a := 100) (b := 100) (c := 100) (by decide)) hw79_2 (by decide)
        exact cut103 w79_2 rw79 (k6.w (c := 0) (d := 100) (by decide)) jw79 fw79 hE H locs ls hw hS (lv_sub hl [0, 2] rfl)
      · have hE := zifF c5 hE
        have k7 : zI 0 99 (w79_2) := zI.ltU (zI.nle c5) hw79_2 (zI.lit (a := 100) (b := 100) (c := 100) (by decide)) (by decide)
        refine lv_aload_n hx hb dX12_round_85 rfl (lv_at hl 0 rfl) ?_
        refine lv_iload_n hx hb dX12_round_86 rfl (lv_at hl 1 rfl) ?_
        refine mcallV (As := [.int a1]) (rest := []) ⟨hx, hb, hml, hown, hts⟩ (mc_roams l D ct h0 y 20 a1 rw79 q hw79_1 jw79) (wqX12_429_mc_roams hts ⟨Nat.le_of_ble_eq_true rfl, Nat.le_of_ble_eq_true rfl⟩) hw hS hA hK hN rfl hl.1 rfl (Nat.le_of_ble_eq_true rfl) dX12_round_87 90 rfl (fun u8 H locs pu8 hw hS => ?_)
        obtain ⟨v9, r10⟩ := u8
        have hv9 : zI 0 1 v9 := pu8.1
        have ju8 : mJ 20 r10 := pu8.2.1
        have fu8 : zFr [15, 16, 17, 18, 19, 20, 21, 22, 23, 24, 38] rw79 r10 := pu8.2.2.1
        have xu8 : (v9, r10) = (Gm_roams a1 rw79 q) := pu8.2.2.2.1
        have hE := zc_vrE xu8 hE
        have hw : zPD D A (mW ct h0 y r10 q) H := hw
        refine zfr 90 [.int v9] rfl rfl ?_
        refine lv_if_ne (tgt := 103) hx hb dX12_round_90 (by decide) (fun c11 => ?_) (fun c11 => ?_)
        · have hE := zifnT c11 hE
          have k12 : zI 1 1 (v9) := zI.neD c11 hv9 (zI.lit (a := 0) (b := 0) (c := 0) (by decide)) (by decide)
          exact cut103 w79_2 r10 (k7.w (c := 0) (d := 100) (by decide)) ju8 (fw79.tr fu8 rfl) hE H locs ls hw hS (lv_sub hl [0, 2] rfl)
        · have hE := zifnF c11 hE
          have k13 : zI 0 0 (v9) := zI.eqq c11 (zI.lit (a := 0) (b := 0) (c := 0) (by decide))
          refine lv_aload_n hx hb dX12_round_93 rfl (lv_at hl 0 rfl) ?_
          refine mcallV (As := []) (rest := []) ⟨hx, hb, hml, hown, hts⟩ (mc_passes l D ct h0 y 20 r10 q ju8) (wqX12_401_mc_passes hts ⟨Nat.le_of_ble_eq_true rfl, Nat.le_of_ble_eq_true rfl⟩) hw hS hA hK hN rfl hl.1 rfl (Nat.le_of_ble_eq_true rfl) dX12_round_94 97 rfl (fun u14 H locs pu14 hw hS => ?_)
          have ju14 : mJ 20 u14 := pu14.1
          have fu14 : zFr [32] r10 u14 := pu14.2.1
          have xu14 : u14 = (Gm_passes r10 q) := pu14.2.2.1
          have hE := zletE xu14 hE
          have hw : zPD D A (mW ct h0 y u14 q) H := hw
          refine zfr 97 [] rfl rfl ?_
          refine lv_iinc (v := w79_2 + 1) (lv' := [(2, .int (w79_2 + 1)), (0, .ref h0), (1, .int a1)]) hx hb dX12_round_97 hl (k := 2) rfl (rfl) (by decide) rfl (fun ls hl => ?_)
          have k16 : zI 1 100 (w79_2 + 1) := zI.add k7 (zI.lit (a := 1) (b := 1) (by decide)) (by decide)
          refine lv_goto (tgt := 79) hx hb dX12_round_100 (by decide) ?_
          exact ih79 (w79_2 + 1) u14 hw79_1 (k16.w (c := 0) (d := 100) (by decide)) ju14 ((fw79.tr fu8 rfl).tr fu14 rfl) hE (zI.up k7 (by decide) hm79) H locs ls hw hS (lv_sub hl [1, 2, 0] rfl)
  have cut30 : ∀ (n30 : Nat) (w30_2 : Int32) (rw30 : zRr) (hw30_1 : zI 0 5 a1) (hw30_2 : zI 0 384 w30_2) (jw30 : mJ 20 rw30) (fw30 : zFr [15, 16, 17, 18, 19, 20, 21, 22, 23, 24, 34, 32, 100, 38] r rw30) (hE : X = Gm_round_30 a1 q n30 w30_2 rw30), 384 - w30_2.toInt < (n30 : Int) → zKf p l e ({ frames := 9, cells := 0, slots := 0, locals := 400 }) s m a9 below meth c Q D A 30 3 [] (mW ct h0 y rw30 q) [(0, .ref h0), (1, .int a1), (2, .int w30_2)] := by
    intro n30
    induction n30 with
    | zero => intro w30_2 rw30 hw30_1 hw30_2 jw30 fw30 hE hm30; exact zI.no hw30_2 (by decide) hm30
    | succ n30 ih30 =>
      intro w30_2 rw30 hw30_1 hw30_2 jw30 fw30 hE hm30
      have hE : X = Bm_round_30 a1 q (Gm_round_30 a1 q n30) w30_2 rw30 := hE
      unfold Bm_round_30 at hE
      intro H locs ls hw hS hl
      refine lv_iload_n hx hb dX12_round_30 rfl (lv_at hl 2 rfl) ?_
      refine lv_sipush (v := 384) hx hb dX12_round_31 (by decide) ?_
      refine lv_icmp_ge (tgt := 50) hx hb dX12_round_34 (by decide) (fun c17 => ?_) (fun c17 => ?_)
      · have hE := zifT c17 hE
        have k18 : zI 384 384 (w30_2) := zI.leD c17 (zI.lit (a := 384) (b := 384) (c := 384) (by decide)) hw30_2 (by decide)
        refine lv_aload_n hx hb dX12_round_50 rfl (lv_at hl 0 rfl) ?_
        refine mget (v := .ref (y 38)) hx hb hts hiX12 hown hK hw 53 (by decide) lf126 rfl rfl dX12_round_51 ?_
        refine lv_bipush (v := 64) hx hb dX12_round_54 (by decide) ?_
        refine lv_aload_n hx hb dX12_round_56 rfl (lv_at hl 0 rfl) ?_
        refine mget (v := .ref (y 32)) hx hb hts hiX12 hown hK hw 45 (by decide) lf108 rfl rfl dX12_round_57 ?_
        refine lv_iconst (v := 1) hx hb dX12_round_60 (by decide) ?_
        refine lv_iload_n hx hb dX12_round_61 rfl (lv_at hl 1 rfl) ?_
        refine lv_iadd hx hb dX12_round_62 (zgenE (lo := 1) (hi := 6) (zI.add (zI.lit (a := 1) (b := 1) (c := 1) (by decide)) hw30_1 (by decide)) (fun v19 ev19 hv19 => ?_))
        have hE := zletE ev19 hE
        refine miald hx hb hK hw 33 mWg32 hv19 (by decide) dX12_round_63 (zgenE (lo := 0) (hi := 5) ((ms_1 jw30 hv19)) (fun v20 ev20 hv20 => ?_))
        have hE := zletE ev20 hE
        refine lv_imul hx hb dX12_round_64 (zgenE (lo := 0) (hi := 320) (zI.mul (zI.lit (a := 64) (b := 64) (c := 64) (by decide)) hv20 (by decide)) (fun v21 ev21 hv21 => ?_))
        have hE := zletE ev21 hE
        refine lv_aload_n hx hb dX12_round_65 rfl (lv_at hl 0 rfl) ?_
        refine mget (v := .ref (y 32)) hx hb hts hiX12 hown hK hw 45 (by decide) lf108 rfl rfl dX12_round_66 ?_
        refine lv_bipush (v := 25) hx hb dX12_round_69 (by decide) ?_
        refine lv_iload_n hx hb dX12_round_71 rfl (lv_at hl 1 rfl) ?_
        refine lv_iadd hx hb dX12_round_72 (zgenE (lo := 25) (hi := 30) (zI.add (zI.lit (a := 25) (b := 25) (c := 25) (by decide)) hw30_1 (by decide)) (fun v22 ev22 hv22 => ?_))
        have hE := zletE ev22 hE
        refine miald hx hb hK hw 33 mWg32 hv22 (by decide) dX12_round_73 (zgenE (lo := 0) (hi := 63) ((ms_25 jw30 hv22)) (fun v23 ev23 hv23 => ?_))
        have hE := zletE ev23 hE
        refine lv_iadd hx hb dX12_round_74 (zgenE (lo := 0) (hi := 383) (zI.add hv21 hv23 (by decide)) (fun v24 ev24 hv24 => ?_))
        have hE := zletE ev24 hE
        refine lv_iconst (v := 1) hx hb dX12_round_75 (by decide) ?_
        refine mzast hx hb hK hw hS 39 mWg38 hv24 (by decide)  ((zI.lit (a := 1) (b := 1) (c := 1) (by decide)).w (c := 0) (d := 1) (by decide)) dX12_round_76 (mW ct h0 y (zset rw30 38 (upd (rw30 38) (zn v24) (1 : Int32))) q) mWs38 (fun H locs hw hS => ?_)
        refine mgen (P := fun x => mJ 20 x ∧ zFr [15, 16, 17, 18, 19, 20, 21, 22, 23, 24, 34, 32, 100, 38] r x) hw ⟨jw30.set rfl ((zI.lit (a := 1) (b := 1) (c := 1) (by decide)).w (c := 0) (d := 1) (by decide)), fw30.set rfl⟩ (fun r25 er25 hw pr25 => ?_)
        have hE := zletE er25 hE
        refine lv_iconst (v := 0) hx hb dX12_round_77 (by decide) ?_
        refine lv_istore_n (lv' := [(2, .int 0), (0, .ref h0), (1, .int a1)]) hx hb dX12_round_78 rfl hl (by decide) rfl (fun ls hl => ?_)
        exact cut79 101 0 r25 hw30_1 ((zI.lit (a := 0) (b := 0) (c := 0) (by decide)).w (c := 0) (d := 100) (by decide)) pr25.1 pr25.2 hE (zI.m0 (zI.lit (a := 0) (b := 0) (c := 0) (by decide)) (by decide)) H locs ls hw hS (lv_sub hl [1, 2, 0] rfl)
      · have hE := zifF c17 hE
        have k26 : zI 0 383 (w30_2) := zI.ltU (zI.nle c17) hw30_2 (zI.lit (a := 384) (b := 384) (c := 384) (by decide)) (by decide)
        refine lv_aload_n hx hb dX12_round_37 rfl (lv_at hl 0 rfl) ?_
        refine mget (v := .ref (y 38)) hx hb hts hiX12 hown hK hw 53 (by decide) lf126 rfl rfl dX12_round_38 ?_
        refine lv_iload_n hx hb dX12_round_41 rfl (lv_at hl 2 rfl) ?_
        refine lv_iconst (v := 0) hx hb dX12_round_42 (by decide) ?_
        refine mzast hx hb hK hw hS 39 mWg38 k26 (by decide)  ((zI.lit (a := 0) (b := 0) (c := 0) (by decide)).w (c := 0) (d := 1) (by decide)) dX12_round_43 (mW ct h0 y (zset rw30 38 (upd (rw30 38) (zn w30_2) (0 : Int32))) q) mWs38 (fun H locs hw hS => ?_)
        refine mgen (P := fun x => mJ 20 x ∧ zFr [15, 16, 17, 18, 19, 20, 21, 22, 23, 24, 34, 32, 100, 38] r x) hw ⟨jw30.set rfl ((zI.lit (a := 0) (b := 0) (c := 0) (by decide)).w (c := 0) (d := 1) (by decide)), fw30.set rfl⟩ (fun r27 er27 hw pr27 => ?_)
        have hE := zletE er27 hE
        refine lv_iinc (v := w30_2 + 1) (lv' := [(2, .int (w30_2 + 1)), (0, .ref h0), (1, .int a1)]) hx hb dX12_round_44 hl (k := 2) rfl (rfl) (by decide) rfl (fun ls hl => ?_)
        have k28 : zI 1 384 (w30_2 + 1) := zI.add k26 (zI.lit (a := 1) (b := 1) (by decide)) (by decide)
        refine lv_goto (tgt := 30) hx hb dX12_round_47 (by decide) ?_
        exact ih30 (w30_2 + 1) r27 hw30_1 (k28.w (c := 0) (d := 384) (by decide)) pr27.1 pr27.2 hE (zI.up k26 (by decide) hm30) H locs ls hw hS (lv_sub hl [1, 2, 0] rfl)
  intro H locs hw hS ls hl
  have hl : lv_has ls 3 [(0, .ref h0), (1, .int a1)] := hl
  have hE := hX
  unfold Gm_round at hE
  refine lv_aload_n hx hb dX12_round_0 rfl (lv_at hl 0 rfl) ?_
  refine lv_iconst (v := 0) hx hb dX12_round_1 (by decide) ?_
  refine mput (ty := .int) (v := .int 0) hx hb hts hiX12 hown hK hw hS 0 (by decide) lf129 rfl rfl (by decide +kernel) rfl rfl dX12_round_2 (zset r 100 (fun _ => (0 : Int32))) _ mWf0 (fun H locs hw hS => ?_)
  refine mgen (P := fun x => mJ 20 x ∧ zFr [15, 16, 17, 18, 19, 20, 21, 22, 23, 24, 34, 32, 100, 38] r x) hw ⟨hJ0.setc rfl (fun _ => (zI.top _)), (zFr.refl).set rfl⟩ (fun r29 er29 hw pr29 => ?_)
  have hE := zletE er29 hE
  refine lv_aload_n hx hb dX12_round_5 rfl (lv_at hl 0 rfl) ?_
  refine lv_iload_n hx hb dX12_round_6 rfl (lv_at hl 1 rfl) ?_
  refine mcallV (As := [.int a1]) (rest := []) ⟨hx, hb, hml, hown, hts⟩ (mc_isPerson l D ct h0 y 20 a1 r29 q pr29.1) (wqX12_370_mc_isPerson hts ⟨Nat.le_of_ble_eq_true rfl, Nat.le_of_ble_eq_true rfl⟩) hw hS hA hK hN rfl hl.1 rfl (Nat.le_of_ble_eq_true rfl) dX12_round_7 10 rfl (fun u30 H locs pu30 hw hS => ?_)
  have hu30 : zI 0 1 u30 := pu30.1
  have yu30_0 : ¬ u30 = 0 → zI 0 5 a1 := pu30.2.1
  have xu30 : u30 = (Gm_isPerson a1 r29 q) := pu30.2.2.1
  have hE := zletE xu30 hE
  have hw : zPD D A (mW ct h0 y r29 q) H := hw
  refine zfr 10 [.int u30] rfl rfl ?_
  refine lv_if_ne (tgt := 15) hx hb dX12_round_10 (by decide) (fun c32 => ?_) (fun c32 => ?_)
  · have hE := zifnT c32 hE
    have k33 : zI 1 1 (u30) := zI.neD c32 hu30 (zI.lit (a := 0) (b := 0) (c := 0) (by decide)) (by decide)
    refine lv_aload_n hx hb dX12_round_15 rfl (lv_at hl 0 rfl) ?_
    refine mget (v := .ref (y 32)) hx hb hts hiX12 hown hK hw 45 (by decide) lf108 rfl rfl dX12_round_16 ?_
    refine lv_iconst (v := 0) hx hb dX12_round_19 (by decide) ?_
    refine lv_aload_n hx hb dX12_round_20 rfl (lv_at hl 0 rfl) ?_
    refine mget (v := .ref (y 34)) hx hb hts hiX12 hown hK hw 47 (by decide) lf114 rfl rfl dX12_round_21 ?_
    refine lv_iconst (v := 0) hx hb dX12_round_24 (by decide) ?_
    refine mcp2 33 35 (As := [.ref (y 32), .int 0, .ref (y 34), .int 0]) (rest := []) ⟨hx, hb, hml, hown, hts⟩ (c_copies l D ct (y 32) (0) (y 34) (0) 31 31 (r29 32) (r29 34) (by decide) (by decide) (by decide) (by decide)) (va_cwS 4 hts (kgSm (zr36 17 rfl) (zr36 18 rfl) (zr1 5 rfl) mL_X12_copies) rfl rfl rfl (by decide +kernel) ⟨Nat.le_of_ble_eq_true rfl, Nat.le_of_ble_eq_true rfl⟩) hw hS hA hK hN mWg32 mWg34 rfl rfl (by decide) rfl hl.1 rfl (Nat.le_of_ble_eq_true rfl) dX12_round_25 mWs34 (fun _ H locs _ hw hS => ?_)
    have hw : zPD D A (mW ct h0 y (zset r29 34 (zcp (r29 32) (r29 34) (0) (0) 31)) q) H := hw
    refine zfr 28 [] rfl rfl ?_
    refine mgen (P := fun x => mJ 20 x ∧ zFr [15, 16, 17, 18, 19, 20, 21, 22, 23, 24, 34, 32, 100, 38] r x) hw ⟨mcp_o pr29.1 (Or.inl ⟨Or.inr rfl, rfl⟩) rfl, pr29.2.set rfl⟩ (fun r34 er34 hw pr34 => ?_)
    have hE := zletE er34 hE
    refine lv_iconst (v := 0) hx hb dX12_round_28 (by decide) ?_
    refine lv_istore_n (lv' := [(2, .int 0), (0, .ref h0), (1, .int a1)]) hx hb dX12_round_29 rfl hl (by decide) rfl (fun ls hl => ?_)
    exact cut30 385 0 r34 (yu30_0 c32) ((zI.lit (a := 0) (b := 0) (c := 0) (by decide)).w (c := 0) (d := 384) (by decide)) pr34.1 pr34.2 hE (zI.m0 (zI.lit (a := 0) (b := 0) (c := 0) (by decide)) (by decide)) H locs ls hw hS (lv_sub hl [1, 2, 0] rfl)
  · have hE := zifnF c32 hE
    have k35 : zI 0 0 (u30) := zI.eqq c32 (zI.lit (a := 0) (b := 0) (c := 0) (by decide))
    refine lv_iconst (v := (-1)) hx hb dX12_round_13 (by decide) ?_
    exact ziretQ hQ hx hb hr rfl hlocks ((-1), r29) rfl ⟨((zI.lit (a := (-1)) (b := (-1)) (c := (-1)) (by decide)).w (c := (-1)) (d := 99) (by decide)), pr29.1, pr29.2, (hE.symm.trans hX), trivial⟩ hw hS dX12_round_14
noncomputable def Gm_draws20 (r : zRr) (q : zRq) : Int32 × zRq :=
  zlet (α := zRq) (zset q 154 (fun _ => (((q 154 0) * (1103515245 : Int64)) + (12345 : Int64)) - (((q 154 0) * (1103515245 : Int64)) + (12345 : Int64)) / (2147483648 : Int64) * (2147483648 : Int64))) <| fun q1 => zlet (α := Int32) ((((q1 154 0) / (65536 : Int64)) - ((q1 154 0) / (65536 : Int64)) / (20 : Int64) * (20 : Int64)).toInt32) <| fun v2 => (v2, q1)
set_option maxHeartbeats 4000000 in
set_option maxRecDepth 100000 in
theorem mc_draws20 (l : Launch) (D : va_G) (ct : Nat → ClassId) (h0 : Nat) (y : Nat → Nat) (B : Int) (r : zRr) (q : zRq) (hJ0 : mJ B r) (x1 : mQ (q 154 0)) : zC l yX12_draws (.code yX12_draws cX12_draws 2 (some .int) :: wsL_law0) ({ frames := 1, cells := 0, slots := 0, locals := 80 }) D ct [] [.ref h0, .int 20] (mW ct h0 y r q) (S := Int32 × zRq) (fun u => some (.int u.1)) (fun u => zI (-2147483648) 2147483647 u.1 ∧ (mQ (u.2 154 0)) ∧ (mNm q u.2) ∧ u = (Gm_draws20 r q) ∧ True) (fun u => mW ct h0 y r u.2) 0 0 := by
  refine zofQ cX12_draws 2 (some .int) (by decide) rfl (Nat.le_of_ble_eq_true rfl) ?_
  intro p e s m below meth c A a9 Q ha9 hx hb hr hml hts hown hlocks hname hK hA hZ hN hQ
  have hown : s.vm.findClass RX12 = some m.cls := hown
  have hiX12 : ∀ w ∈ wsX120, w ∈ .code yX12_draws cX12_draws 2 (some .int) :: wsL_law0 := fun _ h => ki (zs_wsX120 _ h)
  have lf454 := hts (.fieldLink RX12 454 "BeardPassModel" "g" "J") (ki (zr56 0 rfl))
  obtain ⟨X, hX⟩ : ∃ X, X = (Gm_draws20 r q) := ⟨_, rfl⟩
  intro H locs hw hS ls hl
  have hl : lv_has ls 2 [(0, .ref h0), (1, .int 20)] := hl
  have hE := hX
  unfold Gm_draws20 at hE
  refine lv_aload_n hx hb dX12_draws_0 rfl (lv_at hl 0 rfl) ?_
  refine lv_aload_n hx hb dX12_draws_1 rfl (lv_at hl 0 rfl) ?_
  refine mget (v := .long (q 154 0)) hx hb hts hiX12 hown hK hw 54 (by decide) lf454 rfl rfl dX12_draws_2 ?_
  refine lv_ldc2 hx hb hown (hts (.constantLong RX12 457 1103515245) (ki (zr56 11 rfl))) dX12_draws_5 ?_
  refine lv_lmul hx hb dX12_draws_8 ?_
  refine lv_ldc2 hx hb hown (hts (.constantLong RX12 459 12345) (ki (zr56 12 rfl))) dX12_draws_9 ?_
  refine lv_ladd hx hb dX12_draws_12 ?_
  refine lv_ldc2 hx hb hown (hts (.constantLong RX12 461 2147483648) (ki (zr56 13 rfl))) dX12_draws_13 ?_
  refine lv_lrem hx hb dX12_draws_16 (by decide) ?_
  refine mput (ty := .long) (v := .long ((((q 154 0) * (1103515245 : Int64)) + (12345 : Int64)) - (((q 154 0) * (1103515245 : Int64)) + (12345 : Int64)) / (2147483648 : Int64) * (2147483648 : Int64))) hx hb hts hiX12 hown hK hw hS 54 (by decide) lf454 rfl rfl (by decide +kernel) rfl rfl dX12_draws_17 _ (zset q 154 (fun _ => (((q 154 0) * (1103515245 : Int64)) + (12345 : Int64)) - (((q 154 0) * (1103515245 : Int64)) + (12345 : Int64)) / (2147483648 : Int64) * (2147483648 : Int64))) mWf54 (fun H locs hw hS => ?_)
  refine mqgen hw (fun q1 eq1 hw => ?_)
  have hE := zletE eq1 hE
  have hq1 : mQ (q1 154 0) := by rw [zq_in eq1]; exact x1.step
  have hn1 : mNm q q1 := by rw [eq1]; exact ⟨zset_ne (by decide), zset_ne (by decide)⟩
  refine lv_aload_n hx hb dX12_draws_20 rfl (lv_at hl 0 rfl) ?_
  refine mget (v := .long (q1 154 0)) hx hb hts hiX12 hown hK hw 54 (by decide) lf454 rfl rfl dX12_draws_21 ?_
  refine lv_ldc2 hx hb hown (hts (.constantLong RX12 463 65536) (ki (zr56 14 rfl))) dX12_draws_24 ?_
  refine lv_ldiv hx hb dX12_draws_27 (by decide) ?_
  refine lv_iload_n hx hb dX12_draws_28 rfl (lv_at hl 1 rfl) ?_
  refine lv_i2l (v := 20) hx hb dX12_draws_29 (by decide) ?_
  refine lv_lrem hx hb dX12_draws_30 (by decide) ?_
  refine lv_l2i (v := (((q1 154 0) / (65536 : Int64)) - ((q1 154 0) / (65536 : Int64)) / (20 : Int64) * (20 : Int64)).toInt32) hx hb dX12_draws_31 rfl (zgenE (zI.top _) (fun v2 ev2 _ => ?_))
  have hE := zletE ev2 hE
  exact ziretQ hQ hx hb hr rfl hlocks (v2, q1) rfl ⟨(zI.top _), (show mQ (q1 154 0) from hq1), (show mNm q q1 from hn1), (hE.symm.trans hX), trivial⟩ hw hS dX12_draws_32

noncomputable def Gm_draws (a1 : Int32) (r : zRr) (q : zRq) : Int32 × zRq :=
  zlet (α := zRq) (zset q 154 (fun _ => (((q 154 0) * (1103515245 : Int64)) + (12345 : Int64)) - (((q 154 0) * (1103515245 : Int64)) + (12345 : Int64)) / (2147483648 : Int64) * (2147483648 : Int64))) <| fun q1 => zlet (α := Int32) ((((q1 154 0) / (65536 : Int64)) - ((q1 154 0) / (65536 : Int64)) / a1.toInt64 * a1.toInt64).toInt32) <| fun v2 => (v2, q1)
set_option maxHeartbeats 4000000 in
set_option maxRecDepth 100000 in
theorem mc_draws (l : Launch) (D : va_G) (ct : Nat → ClassId) (h0 : Nat) (y : Nat → Nat) (B : Int) (a1 : Int32) (r : zRr) (q : zRq) (g1 : zI 1 6 a1) (hJ0 : mJ B r) (x1 : mQ (q 154 0)) : zC l yX12_draws (.code yX12_draws cX12_draws 2 (some .int) :: wsL_law0) ({ frames := 1, cells := 0, slots := 0, locals := 80 }) D ct [] [.ref h0, .int a1] (mW ct h0 y r q) (S := Int32 × zRq) (fun u => some (.int u.1)) (fun u => zI 0 5 u.1 ∧ (mQ (u.2 154 0)) ∧ (mNm q u.2) ∧ u = (Gm_draws a1 r q) ∧ True) (fun u => mW ct h0 y r u.2) 0 0 := by
  refine zofQ cX12_draws 2 (some .int) (by decide) rfl (Nat.le_of_ble_eq_true rfl) ?_
  intro p e s m below meth c A a9 Q ha9 hx hb hr hml hts hown hlocks hname hK hA hZ hN hQ
  have hown : s.vm.findClass RX12 = some m.cls := hown
  have hiX12 : ∀ w ∈ wsX120, w ∈ .code yX12_draws cX12_draws 2 (some .int) :: wsL_law0 := fun _ h => ki (zs_wsX120 _ h)
  have lf454 := hts (.fieldLink RX12 454 "BeardPassModel" "g" "J") (ki (zr56 0 rfl))
  obtain ⟨X, hX⟩ : ∃ X, X = (Gm_draws a1 r q) := ⟨_, rfl⟩
  intro H locs hw hS ls hl
  have hl : lv_has ls 2 [(0, .ref h0), (1, .int a1)] := hl
  have hE := hX
  unfold Gm_draws at hE
  refine lv_aload_n hx hb dX12_draws_0 rfl (lv_at hl 0 rfl) ?_
  refine lv_aload_n hx hb dX12_draws_1 rfl (lv_at hl 0 rfl) ?_
  refine mget (v := .long (q 154 0)) hx hb hts hiX12 hown hK hw 54 (by decide) lf454 rfl rfl dX12_draws_2 ?_
  refine lv_ldc2 hx hb hown (hts (.constantLong RX12 457 1103515245) (ki (zr56 11 rfl))) dX12_draws_5 ?_
  refine lv_lmul hx hb dX12_draws_8 ?_
  refine lv_ldc2 hx hb hown (hts (.constantLong RX12 459 12345) (ki (zr56 12 rfl))) dX12_draws_9 ?_
  refine lv_ladd hx hb dX12_draws_12 ?_
  refine lv_ldc2 hx hb hown (hts (.constantLong RX12 461 2147483648) (ki (zr56 13 rfl))) dX12_draws_13 ?_
  refine lv_lrem hx hb dX12_draws_16 (by decide) ?_
  refine mput (ty := .long) (v := .long ((((q 154 0) * (1103515245 : Int64)) + (12345 : Int64)) - (((q 154 0) * (1103515245 : Int64)) + (12345 : Int64)) / (2147483648 : Int64) * (2147483648 : Int64))) hx hb hts hiX12 hown hK hw hS 54 (by decide) lf454 rfl rfl (by decide +kernel) rfl rfl dX12_draws_17 _ (zset q 154 (fun _ => (((q 154 0) * (1103515245 : Int64)) + (12345 : Int64)) - (((q 154 0) * (1103515245 : Int64)) + (12345 : Int64)) / (2147483648 : Int64) * (2147483648 : Int64))) mWf54 (fun H locs hw hS => ?_)
  refine mqgen hw (fun q1 eq1 hw => ?_)
  have hE := zletE eq1 hE
  have hq1 : mQ (q1 154 0) := by rw [zq_in eq1]; exact x1.step
  have hn1 : mNm q q1 := by rw [eq1]; exact ⟨zset_ne (by decide), zset_ne (by decide)⟩
  refine lv_aload_n hx hb dX12_draws_20 rfl (lv_at hl 0 rfl) ?_
  refine mget (v := .long (q1 154 0)) hx hb hts hiX12 hown hK hw 54 (by decide) lf454 rfl rfl dX12_draws_21 ?_
  refine lv_ldc2 hx hb hown (hts (.constantLong RX12 463 65536) (ki (zr56 14 rfl))) dX12_draws_24 ?_
  refine lv_ldiv hx hb dX12_draws_27 (by decide) ?_
  refine lv_iload_n hx hb dX12_draws_28 rfl (lv_at hl 1 rfl) ?_
  refine lv_i2l (v := a1.toInt64) hx hb dX12_draws_29 rfl ?_
  refine lv_lrem hx hb dX12_draws_30 (i64ne g1 (by decide)) ?_
  refine lv_l2i (v := (((q1 154 0) / (65536 : Int64)) - ((q1 154 0) / (65536 : Int64)) / a1.toInt64 * a1.toInt64).toInt32) hx hb dX12_draws_31 rfl (zgenE (lo := 0) (hi := 5) ((hq1.draw g1 (by decide))) (fun v2 ev2 hv2 => ?_))
  have hE := zletE ev2 hE
  exact ziretQ hQ hx hb hr rfl hlocks (v2, q1) rfl ⟨hv2, (show mQ (q1 154 0) from hq1), (show mNm q q1 from hn1), (hE.symm.trans hX), trivial⟩ hw hS dX12_draws_32

noncomputable def Gm_livesWeek_96 (w2_1 : Int32) (ih2 : Int32 → zRr → zRq → (zRr × zRq)) (rw96 : zRr) (qw96 : zRq) : zRr × zRq :=
  ih2 (w2_1 + 1) rw96 qw96
noncomputable def Gm_livesWeek_82 (w2_1 : Int32) (ih2 : Int32 → zRr → zRq → (zRr × zRq)) (rw82 : zRr) (qw82 : zRq) : zRr × zRq :=
  zc_vq (Gm_draws20 rw82 qw82) <| fun v3 q4 => zifn (v3 = (0 : Int32)) (Gm_livesWeek_96 w2_1 ih2 rw82 q4) (zlet (α := zRr) ((Gm_shaves w2_1 rw82 q4)) <| fun u7 => Gm_livesWeek_96 w2_1 ih2 u7 q4)
noncomputable def Bm_livesWeek_2 (ih2 : Int32 → zRr → zRq → (zRr × zRq)) (w2_1 : Int32) (rw2 : zRr) (qw2 : zRq) : zRr × zRq :=
  zif ((rw2 1 1) ≤ w2_1) (zlet (α := zRr) ((Gm_passes rw2 qw2)) <| fun u10 => (u10, qw2)) (zlet (α := Int32) (rw2 1 0) <| fun v14 => zc_vq (Gm_draws v14 rw2 qw2) <| fun v16 q17 => zlet (α := Int32) (1 + w2_1) <| fun v18 => zlet (α := Int32) (rw2 32 (zn v18)) <| fun v19 => zlet (α := Int32) (rw2 5 (zn v19)) <| fun v20 => zlet (α := Int32) (v20 >>> (v16 &&& 31)) <| fun v21 => zlet (α := Int32) (v21 &&& 1) <| fun v22 => zifn (v22 = (1 : Int32)) (Gm_livesWeek_82 w2_1 ih2 rw2 q17) (zc_vr (Gm_canGo w2_1 v16 rw2 q17) <| fun v27 r28 => zif (v27 = (0 : Int32)) (zlet (α := Int32) (r28 156 0) <| fun v31 => zlet (α := Int32) (v31 + 1) <| fun v32 => zlet (α := zRr) (zset r28 156 (fun _ => v32)) <| fun r33 => Gm_livesWeek_82 w2_1 ih2 r33 q17) (zlet (α := zRr) ((Gm_goes w2_1 v16 r28 q17)) <| fun u35 => zlet (α := Int32) (u35 155 0) <| fun v37 => zlet (α := Int32) (v37 + 1) <| fun v38 => zlet (α := zRr) (zset u35 155 (fun _ => v38)) <| fun r39 => Gm_livesWeek_82 w2_1 ih2 r39 q17)))
noncomputable def Gm_livesWeek_2 (n : Nat) : Int32 → zRr → zRq → (zRr × zRq) :=
  Nat.rec (motive := fun _ => Int32 → zRr → zRq → (zRr × zRq)) (fun _ rw2 qw2 => (rw2, qw2)) (fun _ ih => Bm_livesWeek_2 ih) n
noncomputable def Gm_livesWeek (r : zRr) (q : zRq) : zRr × zRq :=
  Gm_livesWeek_2 7 0 r q
set_option maxHeartbeats 4000000 in
set_option maxRecDepth 100000 in
theorem mc_livesWeek (l : Launch) (D : va_G) (ct : Nat → ClassId) (h0 : Nat) (y : Nat → Nat) (B : Int) (r : zRr) (q : zRq) (hJ0 : mJ B r) (x1 : mQ (q 154 0)) : zC l yX12_livesWeek (.code yX12_livesWeek cX12_livesWeek 3 none :: wsL_law0) ({ frames := 9, cells := 0, slots := 0, locals := 400 }) D ct [] [.ref h0] (mW ct h0 y r q) (S := zRr × zRq) (fun u => none) (fun u => mJ B u.1 ∧ zFr [15, 16, 17, 18, 19, 20, 21, 22, 23, 24, 32, 155, 156] r u.1 ∧ (mQ (u.2 154 0)) ∧ (mNm q u.2) ∧ u = (Gm_livesWeek r q) ∧ True) (fun u => mW ct h0 y u.1 u.2) 0 0 := by
  refine zofQ cX12_livesWeek 3 none (by decide) rfl (Nat.le_of_ble_eq_true rfl) ?_
  intro p e s m below meth c A a9 Q ha9 hx hb hr hml hts hown hlocks hname hK hA hZ hN hQ
  have hown : s.vm.findClass RX12 = some m.cls := hown
  have hiX12 : ∀ w ∈ wsX120, w ∈ .code yX12_livesWeek cX12_livesWeek 3 none :: wsL_law0 := fun _ h => ki (zs_wsX120 _ h)
  have lf13 := hts (.fieldLink RX12 13 "BeardPassModel" "land" "[I") (ki (zr7 20 rfl))
  have lf26 := hts (.fieldLink RX12 26 "BeardPassModel" "roads" "[I") (ki (zr8 0 rfl))
  have lf108 := hts (.fieldLink RX12 108 "BeardPassModel" "s" "[I") (ki (zr9 4 rfl))
  have lf468 := hts (.fieldLink RX12 468 "BeardPassModel" "gone" "I") (ki (zr56 1 rfl))
  have lf471 := hts (.fieldLink RX12 471 "BeardPassModel" "stopped" "I") (ki (zr56 2 rfl))
  obtain ⟨X, hX⟩ : ∃ X, X = (Gm_livesWeek r q) := ⟨_, rfl⟩
  have cut2 : ∀ (n2 : Nat) (w2_1 : Int32) (rw2 : zRr) (qw2 : zRq) (hw2_1 : zI 0 6 w2_1) (jw2 : mJ B rw2) (fw2 : zFr [15, 16, 17, 18, 19, 20, 21, 22, 23, 24, 32, 155, 156] r rw2) (xq2 : mQ (qw2 154 0)) (xn2 : mNm q qw2) (hE : X = Gm_livesWeek_2 n2 w2_1 rw2 qw2), 6 - w2_1.toInt < (n2 : Int) → zKf p l e ({ frames := 9, cells := 0, slots := 0, locals := 400 }) s m a9 below meth c Q D A 2 3 [] (mW ct h0 y rw2 qw2) [(0, .ref h0), (1, .int w2_1)] := by
    intro n2
    induction n2 with
    | zero => intro w2_1 rw2 qw2 hw2_1 jw2 fw2 xq2 xn2 hE hm2; exact zI.no hw2_1 (by decide) hm2
    | succ n2 ih2 =>
      intro w2_1 rw2 qw2 hw2_1 jw2 fw2 xq2 xn2 hE hm2
      have hE : X = Bm_livesWeek_2 (Gm_livesWeek_2 n2) w2_1 rw2 qw2 := hE
      unfold Bm_livesWeek_2 at hE
      have cut96 : ∀ (rw96 : zRr) (qw96 : zRq) (hw96_1 : zI 0 5 w2_1) (jw96 : mJ B rw96) (fw96 : zFr [15, 16, 17, 18, 19, 20, 21, 22, 23, 24, 32, 155, 156] r rw96) (mw96_1_1 : zI 1 6 (rw96 1 1)) (xq96 : mQ (qw96 154 0)) (xn96 : mNm q qw96) (hE : X = Gm_livesWeek_96 w2_1 (Gm_livesWeek_2 n2) rw96 qw96), zKf p l e ({ frames := 9, cells := 0, slots := 0, locals := 400 }) s m a9 below meth c Q D A 96 3 [] (mW ct h0 y rw96 qw96) [(0, .ref h0), (1, .int w2_1)] := by
        intro rw96 qw96 hw96_1 jw96 fw96 mw96_1_1 xq96 xn96 hE H locs ls hw hS hl
        unfold Gm_livesWeek_96 at hE
        refine lv_iinc (v := w2_1 + 1) (lv' := [(1, .int (w2_1 + 1)), (0, .ref h0)]) hx hb dX12_livesWeek_96 hl (k := 1) rfl (rfl) (by decide) rfl (fun ls hl => ?_)
        have k1 : zI 1 6 (w2_1 + 1) := zI.add hw96_1 (zI.lit (a := 1) (b := 1) (by decide)) (by decide)
        refine lv_goto (tgt := 2) hx hb dX12_livesWeek_99 (by decide) ?_
        exact ih2 (w2_1 + 1) rw96 qw96 (k1.w (c := 0) (d := 6) (by decide)) jw96 fw96 (xq96) (xn96) hE (zI.up hw96_1 (by decide) hm2) H locs ls hw hS (lv_sub hl [1, 0] rfl)
      have cut82 : ∀ (rw82 : zRr) (qw82 : zRq) (hw82_1 : zI 0 5 w2_1) (jw82 : mJ B rw82) (fw82 : zFr [15, 16, 17, 18, 19, 20, 21, 22, 23, 24, 32, 155, 156] r rw82) (mw82_1_1 : zI 1 6 (rw82 1 1)) (xq82 : mQ (qw82 154 0)) (xn82 : mNm q qw82) (hE : X = Gm_livesWeek_82 w2_1 (Gm_livesWeek_2 n2) rw82 qw82), zKf p l e ({ frames := 9, cells := 0, slots := 0, locals := 400 }) s m a9 below meth c Q D A 82 3 [] (mW ct h0 y rw82 qw82) [(0, .ref h0), (1, .int w2_1)] := by
        intro rw82 qw82 hw82_1 jw82 fw82 mw82_1_1 xq82 xn82 hE H locs ls hw hS hl
        unfold Gm_livesWeek_82 at hE
        refine lv_aload_n hx hb dX12_livesWeek_82 rfl (lv_at hl 0 rfl) ?_
        refine lv_bipush (v := 20) hx hb dX12_livesWeek_83 (by decide) ?_
        refine mcallV (As := [.int 20]) (rest := []) ⟨hx, hb, hml, hown, hts⟩ (mc_draws20 l D ct h0 y B rw82 qw82 jw82 (xq82)) (wqX12_465_mc_draws20 hts ⟨Nat.le_of_ble_eq_true rfl, Nat.le_of_ble_eq_true rfl⟩) hw hS hA hK hN rfl hl.1 rfl (Nat.le_of_ble_eq_true rfl) dX12_livesWeek_85 88 rfl (fun u2 H locs pu2 hw hS => ?_)
        obtain ⟨v3, q4⟩ := u2
        have hv3 : zI (-2147483648) 2147483647 v3 := pu2.1
        have yu2_0 : mQ (q4 154 0) := pu2.2.1
        have yu2_1 : mNm qw82 q4 := pu2.2.2.1
        have xu2 : (v3, q4) = (Gm_draws20 rw82 qw82) := pu2.2.2.2.1
        have hE := zc_vqE xu2 hE
        have hw : zPD D A (mW ct h0 y rw82 q4) H := hw
        refine zfr 88 [.int v3] rfl rfl ?_
        refine lv_if_ne (tgt := 96) hx hb dX12_livesWeek_88 (by decide) (fun c5 => ?_) (fun c5 => ?_)
        · have hE := zifnT c5 hE
          exact cut96 rw82 q4 hw82_1 jw82 fw82 mw82_1_1 (yu2_0) ((xn82.tr yu2_1)) hE H locs ls hw hS (lv_sub hl [0, 1] rfl)
        · have hE := zifnF c5 hE
          have k6 : zI 0 0 (v3) := zI.eqq c5 (zI.lit (a := 0) (b := 0) (c := 0) (by decide))
          refine lv_aload_n hx hb dX12_livesWeek_91 rfl (lv_at hl 0 rfl) ?_
          refine lv_iload_n hx hb dX12_livesWeek_92 rfl (lv_at hl 1 rfl) ?_
          refine mcallV (As := [.int w2_1]) (rest := []) ⟨hx, hb, hml, hown, hts⟩ (mc_shaves l D ct h0 y B w2_1 rw82 q4 hw82_1 jw82) (wqX12_398_mc_shaves hts ⟨Nat.le_of_ble_eq_true rfl, Nat.le_of_ble_eq_true rfl⟩) hw hS hA hK hN rfl hl.1 rfl (Nat.le_of_ble_eq_true rfl) dX12_livesWeek_93 96 rfl (fun u7 H locs pu7 hw hS => ?_)
          have ju7 : mJ B u7 := pu7.1
          have fu7 : zFr [32] rw82 u7 := pu7.2.1
          have xu7 : u7 = (Gm_shaves w2_1 rw82 q4) := pu7.2.2.1
          have hE := zletE xu7 hE
          have hw : zPD D A (mW ct h0 y u7 q4) H := hw
          refine zfr 96 [] rfl rfl ?_
          exact cut96 u7 q4 hw82_1 ju7 (fw82.tr fu7 rfl) (fu7.at mw82_1_1 rfl) (yu2_0) ((xn82.tr yu2_1)) hE H locs ls hw hS (lv_sub hl [0, 1] rfl)
      intro H locs ls hw hS hl
      refine lv_iload_n hx hb dX12_livesWeek_2 rfl (lv_at hl 1 rfl) ?_
      refine lv_aload_n hx hb dX12_livesWeek_3 rfl (lv_at hl 0 rfl) ?_
      refine mget (v := .ref (y 1)) hx hb hts hiX12 hown hK hw 10 (by decide) lf13 rfl rfl dX12_livesWeek_4 ?_
      refine lv_iconst (v := 1) hx hb dX12_livesWeek_7 (by decide) ?_
      refine ziald hx hb hK hw 2 mWg1 1 (by decide) (by decide) (by decide) dX12_livesWeek_8 ?_
      refine lv_icmp_ge (tgt := 102) hx hb dX12_livesWeek_9 (by decide) (fun c9 => ?_) (fun c9 => ?_)
      · have hE := zifT c9 hE
        refine lv_aload_n hx hb dX12_livesWeek_102 rfl (lv_at hl 0 rfl) ?_
        refine mcallV (As := []) (rest := []) ⟨hx, hb, hml, hown, hts⟩ (mc_passes l D ct h0 y B rw2 qw2 jw2) (wqX12_401_mc_passes hts ⟨Nat.le_of_ble_eq_true rfl, Nat.le_of_ble_eq_true rfl⟩) hw hS hA hK hN rfl hl.1 rfl (Nat.le_of_ble_eq_true rfl) dX12_livesWeek_103 106 rfl (fun u10 H locs pu10 hw hS => ?_)
        have ju10 : mJ B u10 := pu10.1
        have fu10 : zFr [32] rw2 u10 := pu10.2.1
        have xu10 : u10 = (Gm_passes rw2 qw2) := pu10.2.2.1
        have hE := zletE xu10 hE
        have hw : zPD D A (mW ct h0 y u10 qw2) H := hw
        refine zfr 106 [] rfl rfl ?_
        exact zvretQ hQ hx hb hr hlocks (u10, qw2) rfl ⟨ju10, (fw2.tr fu10 rfl), (show mQ (qw2 154 0) from xq2), (show mNm q qw2 from xn2), (hE.symm.trans hX), trivial⟩ hw hS dX12_livesWeek_106
      · have hE := zifF c9 hE
        have k12 : zI 0 5 (w2_1) := zI.ltU (zI.nle c9) hw2_1 (show zI 0 6 (rw2 1 1) from jw2.i 1 1) (by decide)
        have k13 : zI 1 6 (rw2 1 1) := zI.ltD (zI.nle c9) hw2_1 (show zI 0 6 (rw2 1 1) from jw2.i 1 1) (by decide)
        refine lv_aload_n hx hb dX12_livesWeek_12 rfl (lv_at hl 0 rfl) ?_
        refine lv_aload_n hx hb dX12_livesWeek_13 rfl (lv_at hl 0 rfl) ?_
        refine mget (v := .ref (y 1)) hx hb hts hiX12 hown hK hw 10 (by decide) lf13 rfl rfl dX12_livesWeek_14 ?_
        refine lv_iconst (v := 0) hx hb dX12_livesWeek_17 (by decide) ?_
        refine ziald hx hb hK hw 2 mWg1 0 (by decide) (by decide) (by decide) dX12_livesWeek_18 (zgenE (lo := 1) (hi := 6) ((mT_use jw2 k12 (zI.nle c9) (by decide))) (fun v14 ev14 hv14 => ?_))
        have hE := zletE ev14 hE
        refine mcallV (As := [.int v14]) (rest := []) ⟨hx, hb, hml, hown, hts⟩ (mc_draws l D ct h0 y B v14 rw2 qw2 hv14 jw2 (xq2)) (wqX12_465_mc_draws hts ⟨Nat.le_of_ble_eq_true rfl, Nat.le_of_ble_eq_true rfl⟩) hw hS hA hK hN rfl hl.1 rfl (Nat.le_of_ble_eq_true rfl) dX12_livesWeek_19 22 rfl (fun u15 H locs pu15 hw hS => ?_)
        obtain ⟨v16, q17⟩ := u15
        have hv16 : zI 0 5 v16 := pu15.1
        have yu15_0 : mQ (q17 154 0) := pu15.2.1
        have yu15_1 : mNm qw2 q17 := pu15.2.2.1
        have xu15 : (v16, q17) = (Gm_draws v14 rw2 qw2) := pu15.2.2.2.1
        have hE := zc_vqE xu15 hE
        have hw : zPD D A (mW ct h0 y rw2 q17) H := hw
        refine zfr 22 [.int v16] rfl rfl ?_
        refine lv_istore_n (lv' := [(2, .int v16), (0, .ref h0), (1, .int w2_1)]) hx hb dX12_livesWeek_22 rfl hl (by decide) rfl (fun ls hl => ?_)
        refine lv_aload_n hx hb dX12_livesWeek_23 rfl (lv_at hl 1 rfl) ?_
        refine mget (v := .ref (y 5)) hx hb hts hiX12 hown hK hw 14 (by decide) lf26 rfl rfl dX12_livesWeek_24 ?_
        refine lv_aload_n hx hb dX12_livesWeek_27 rfl (lv_at hl 1 rfl) ?_
        refine mget (v := .ref (y 32)) hx hb hts hiX12 hown hK hw 45 (by decide) lf108 rfl rfl dX12_livesWeek_28 ?_
        refine lv_iconst (v := 1) hx hb dX12_livesWeek_31 (by decide) ?_
        refine lv_iload_n hx hb dX12_livesWeek_32 rfl (lv_at hl 2 rfl) ?_
        refine lv_iadd hx hb dX12_livesWeek_33 (zgenE (lo := 1) (hi := 6) (zI.add (zI.lit (a := 1) (b := 1) (c := 1) (by decide)) k12 (by decide)) (fun v18 ev18 hv18 => ?_))
        have hE := zletE ev18 hE
        refine miald hx hb hK hw 33 mWg32 hv18 (by decide) dX12_livesWeek_34 (zgenE (lo := 0) (hi := 5) ((ms_1 jw2 hv18)) (fun v19 ev19 hv19 => ?_))
        have hE := zletE ev19 hE
        refine miald hx hb hK hw 6 mWg5 hv19 (by decide) dX12_livesWeek_35 (zgenE (zI.top _) (fun v20 ev20 _ => ?_))
        have hE := zletE ev20 hE
        refine lv_iload_n hx hb dX12_livesWeek_36 rfl (lv_at hl 0 rfl) ?_
        refine lv_ishr hx hb dX12_livesWeek_37 (zgenE (zI.top _) (fun v21 ev21 _ => ?_))
        have hE := zletE ev21 hE
        refine lv_iconst (v := 1) hx hb dX12_livesWeek_38 (by decide) ?_
        refine lv_iand hx hb dX12_livesWeek_39 (zgenE (lo := 0) (hi := 1) (zI.and (zI.lit (a := 1) (b := 1) (c := 1) (by decide)) (by decide)) (fun v22 ev22 hv22 => ?_))
        have hE := zletE ev22 hE
        refine lv_iconst (v := 1) hx hb dX12_livesWeek_40 (by decide) ?_
        refine lv_icmp_ne (tgt := 82) hx hb dX12_livesWeek_41 (by decide) (fun c23 => ?_) (fun c23 => ?_)
        · have hE := zifnT c23 hE
          have k24 : zI 0 0 (v22) := zI.neU c23 hv22 (zI.lit (a := 1) (b := 1) (c := 1) (by decide)) (by decide)
          exact cut82 rw2 q17 k12 jw2 fw2 k13 (yu15_0) ((xn2.tr yu15_1)) hE H locs ls hw hS (lv_sub hl [1, 2] rfl)
        · have hE := zifnF c23 hE
          have k25 : zI 1 1 (v22) := zI.eqq c23 (zI.lit (a := 1) (b := 1) (c := 1) (by decide))
          refine lv_aload_n hx hb dX12_livesWeek_44 rfl (lv_at hl 1 rfl) ?_
          refine lv_iload_n hx hb dX12_livesWeek_45 rfl (lv_at hl 2 rfl) ?_
          refine lv_iload_n hx hb dX12_livesWeek_46 rfl (lv_at hl 0 rfl) ?_
          refine mcallV (As := [.int w2_1, .int v16]) (rest := []) ⟨hx, hb, hml, hown, hts⟩ (mc_canGo l D ct h0 y B w2_1 v16 rw2 q17 k12 hv16 jw2) (wqX12_383_mc_canGo hts ⟨Nat.le_of_ble_eq_true rfl, Nat.le_of_ble_eq_true rfl⟩) hw hS hA hK hN rfl hl.1 rfl (Nat.le_of_ble_eq_true rfl) dX12_livesWeek_47 50 rfl (fun u26 H locs pu26 hw hS => ?_)
          obtain ⟨v27, r28⟩ := u26
          have hv27 : zI 0 1 v27 := pu26.1
          have ju26 : mJ B r28 := pu26.2.1
          have fu26 : zFr [15, 16, 17, 18, 19, 20, 21, 22, 23, 24] rw2 r28 := pu26.2.2.1
          have xu26 : (v27, r28) = (Gm_canGo w2_1 v16 rw2 q17) := pu26.2.2.2.1
          have hE := zc_vrE xu26 hE
          have hw : zPD D A (mW ct h0 y r28 q17) H := hw
          refine zfr 50 [.int v27] rfl rfl ?_
          refine lv_if_eq (tgt := 72) hx hb dX12_livesWeek_50 (by decide) (fun c29 => ?_) (fun c29 => ?_)
          · have hE := zifT c29 hE
            have k30 : zI 0 0 (v27) := zI.eqq c29 (zI.lit (a := 0) (b := 0) (c := 0) (by decide))
            refine lv_aload_n hx hb dX12_livesWeek_72 rfl (lv_at hl 1 rfl) ?_
            refine lv_dup hx hb dX12_livesWeek_73 rfl ?_
            refine mget (v := .int (r28 156 0)) hx hb hts hiX12 hown hK hw 56 (by decide) lf471 rfl rfl dX12_livesWeek_74 (zgenE (zI.top _) (fun v31 ev31 _ => ?_))
            have hE := zletE ev31 hE
            refine lv_iconst (v := 1) hx hb dX12_livesWeek_77 (by decide) ?_
            refine lv_iadd hx hb dX12_livesWeek_78 (zgenE (zI.top _) (fun v32 ev32 _ => ?_))
            have hE := zletE ev32 hE
            refine mput (ty := .int) (v := .int v32) hx hb hts hiX12 hown hK hw hS 56 (by decide) lf471 rfl rfl (by decide +kernel) rfl rfl dX12_livesWeek_79 (zset r28 156 (fun _ => v32)) _ mWf56 (fun H locs hw hS => ?_)
            refine mgen (P := fun x => mJ B x ∧ zFr [15, 16, 17, 18, 19, 20, 21, 22, 23, 24, 32, 155, 156] r x) hw ⟨ju26.setc rfl (fun _ => (zI.top _)), (fw2.tr fu26 rfl).set rfl⟩ (fun r33 er33 hw pr33 => ?_)
            have hE := zletE er33 hE
            exact cut82 r33 q17 k12 pr33.1 pr33.2 (zs_at er33 (fu26.at k13 rfl) (by decide)) (yu15_0) ((xn2.tr yu15_1)) hE H locs ls hw hS (lv_sub hl [1, 2] rfl)
          · have hE := zifF c29 hE
            have k34 : zI 1 1 (v27) := zI.neD c29 hv27 (zI.lit (a := 0) (b := 0) (c := 0) (by decide)) (by decide)
            refine lv_aload_n hx hb dX12_livesWeek_53 rfl (lv_at hl 1 rfl) ?_
            refine lv_iload_n hx hb dX12_livesWeek_54 rfl (lv_at hl 2 rfl) ?_
            refine lv_iload_n hx hb dX12_livesWeek_55 rfl (lv_at hl 0 rfl) ?_
            refine mcallV (As := [.int w2_1, .int v16]) (rest := []) ⟨hx, hb, hml, hown, hts⟩ (mc_goes l D ct h0 y B w2_1 v16 r28 q17 k12 hv16 ju26) (wqX12_389_mc_goes hts ⟨Nat.le_of_ble_eq_true rfl, Nat.le_of_ble_eq_true rfl⟩) hw hS hA hK hN rfl hl.1 rfl (Nat.le_of_ble_eq_true rfl) dX12_livesWeek_56 59 rfl (fun u35 H locs pu35 hw hS => ?_)
            have ju35 : mJ B u35 := pu35.1
            have fu35 : zFr [32] r28 u35 := pu35.2.1
            have xu35 : u35 = (Gm_goes w2_1 v16 r28 q17) := pu35.2.2.1
            have hE := zletE xu35 hE
            have hw : zPD D A (mW ct h0 y u35 q17) H := hw
            refine zfr 59 [] rfl rfl ?_
            refine lv_aload_n hx hb dX12_livesWeek_59 rfl (lv_at hl 1 rfl) ?_
            refine lv_dup hx hb dX12_livesWeek_60 rfl ?_
            refine mget (v := .int (u35 155 0)) hx hb hts hiX12 hown hK hw 55 (by decide) lf468 rfl rfl dX12_livesWeek_61 (zgenE (zI.top _) (fun v37 ev37 _ => ?_))
            have hE := zletE ev37 hE
            refine lv_iconst (v := 1) hx hb dX12_livesWeek_64 (by decide) ?_
            refine lv_iadd hx hb dX12_livesWeek_65 (zgenE (zI.top _) (fun v38 ev38 _ => ?_))
            have hE := zletE ev38 hE
            refine mput (ty := .int) (v := .int v38) hx hb hts hiX12 hown hK hw hS 55 (by decide) lf468 rfl rfl (by decide +kernel) rfl rfl dX12_livesWeek_66 (zset u35 155 (fun _ => v38)) _ mWf55 (fun H locs hw hS => ?_)
            refine mgen (P := fun x => mJ B x ∧ zFr [15, 16, 17, 18, 19, 20, 21, 22, 23, 24, 32, 155, 156] r x) hw ⟨ju35.setc rfl (fun _ => (zI.top _)), ((fw2.tr fu26 rfl).tr fu35 rfl).set rfl⟩ (fun r39 er39 hw pr39 => ?_)
            have hE := zletE er39 hE
            refine lv_goto (tgt := 82) hx hb dX12_livesWeek_69 (by decide) ?_
            exact cut82 r39 q17 k12 pr39.1 pr39.2 (zs_at er39 (fu35.at (fu26.at k13 rfl) rfl) (by decide)) (yu15_0) ((xn2.tr yu15_1)) hE H locs ls hw hS (lv_sub hl [1, 2] rfl)
  intro H locs hw hS ls hl
  have hl : lv_has ls 3 [(0, .ref h0)] := hl
  have hE := hX
  unfold Gm_livesWeek at hE
  refine lv_iconst (v := 0) hx hb dX12_livesWeek_0 (by decide) ?_
  refine lv_istore_n (lv' := [(1, .int 0), (0, .ref h0)]) hx hb dX12_livesWeek_1 rfl hl (by decide) rfl (fun ls hl => ?_)
  exact cut2 7 0 r q ((zI.lit (a := 0) (b := 0) (c := 0) (by decide)).w (c := 0) (d := 6) (by decide)) hJ0 (zFr.refl) (x1) (mNm.refl) hE (zI.m0 (zI.lit (a := 0) (b := 0) (c := 0) (by decide)) (by decide)) H locs ls hw hS (lv_sub hl [1, 0] rfl)

noncomputable def Bm_years_69 (a2 : Int32) (a3 : Int32) (ih69 : Int32 → zRr → zRq → (Int32 × zRr × zRq)) (w69_4 : Int32) (rw69 : zRr) (qw69 : zRq) : Int32 × zRr × zRq :=
  zif (a2 ≤ w69_4) (zlet (α := Int32) ((Gm_peopled rw69 qw69)) <| fun u3 => zlet (α := zRr) (zset rw69 32 (zcp (rw69 33) (rw69 32) (0) (0) 31)) <| fun r5 => zifn (a3 = (0 : Int32)) (zifn (a3 = (1 : Int32)) ((u3, r5, qw69)) (zlet (α := Int32) (r5 156 0) <| fun v11 => (v11, r5, qw69))) (zlet (α := Int32) (r5 155 0) <| fun v13 => (v13, r5, qw69))) (zc_rq (Gm_livesWeek rw69 qw69) <| fun r16 q17 => ih69 (w69_4 + 1) r16 q17)
noncomputable def Gm_years_69 (a2 : Int32) (a3 : Int32) (n : Nat) : Int32 → zRr → zRq → (Int32 × zRr × zRq) :=
  Nat.rec (motive := fun _ => Int32 → zRr → zRq → (Int32 × zRr × zRq)) (fun _ rw69 qw69 => (default, rw69, qw69)) (fun _ ih => Bm_years_69 a2 a3 ih) n
noncomputable def Gm_years (a1 : Int32) (a2 : Int32) (a3 : Int32) (r : zRr) (q : zRq) : Int32 × zRr × zRq :=
  zlet (α := zRr) (zset r 100 (fun _ => (0 : Int32))) <| fun r19 => zlet (α := Int32) ((Gm_within a1 (0 : Int32) (9999 : Int32))) <| fun u20 => zif (u20 = (0 : Int32)) ((((-1) : Int32), r19, q)) (zlet (α := Int32) ((Gm_within a2 (1 : Int32) (99 : Int32))) <| fun u27 => zif (u27 = (0 : Int32)) ((((-1) : Int32), r19, q)) (zlet (α := Int32) ((Gm_within a3 (0 : Int32) (2 : Int32))) <| fun u34 => zifn (u34 = (0 : Int32)) (zlet (α := zRq) (zset q 154 (fun _ => a1.toInt64)) <| fun q40 => zlet (α := zRr) (zset r19 155 (fun _ => (0 : Int32))) <| fun r41 => zlet (α := zRr) (zset r41 156 (fun _ => (0 : Int32))) <| fun r42 => zlet (α := zRr) (zset r42 33 (zcp (r42 32) (r42 33) (0) (0) 31)) <| fun r43 => Gm_years_69 a2 a3 100 0 r43 q40) ((((-1) : Int32), r19, q))))
set_option maxHeartbeats 4000000 in
set_option maxRecDepth 100000 in
theorem mc_years (l : Launch) (D : va_G) (ct : Nat → ClassId) (h0 : Nat) (y : Nat → Nat) (a1 : Int32) (a2 : Int32) (a3 : Int32) (r : zRr) (q : zRq) (hJ0 : mJ 20 r) : zC l yX12_years (.code yX12_years cX12_years 5 (some .int) :: wsL_law0) ({ frames := 10, cells := 0, slots := 0, locals := 440 }) D ct [] [.ref h0, .int a1, .int a2, .int a3] (mW ct h0 y r q) (S := Int32 × zRr × zRq) (fun u => some (.int u.1)) (fun u => zI (-2147483648) 2147483647 u.1 ∧ mJ 20 u.2.1 ∧ zFr [15, 16, 17, 18, 19, 20, 21, 22, 23, 24, 32, 155, 156, 33, 100] r u.2.1 ∧ (mNm q u.2.2) ∧ u = (Gm_years a1 a2 a3 r q) ∧ True) (fun u => mW ct h0 y u.2.1 u.2.2) 0 0 := by
  refine zofQ cX12_years 5 (some .int) (by decide) rfl (Nat.le_of_ble_eq_true rfl) ?_
  intro p e s m below meth c A a9 Q ha9 hx hb hr hml hts hown hlocks hname hK hA hZ hN hQ
  have hown : s.vm.findClass RX12 = some m.cls := hown
  have hiX12 : ∀ w ∈ wsX120, w ∈ .code yX12_years cX12_years 5 (some .int) :: wsL_law0 := fun _ h => ki (zs_wsX120 _ h)
  have lf108 := hts (.fieldLink RX12 108 "BeardPassModel" "s" "[I") (ki (zr9 4 rfl))
  have lf111 := hts (.fieldLink RX12 111 "BeardPassModel" "aside" "[I") (ki (zr9 5 rfl))
  have lf129 := hts (.fieldLink RX12 129 "BeardPassModel" "thrown" "I") (ki (zr10 1 rfl))
  have lf454 := hts (.fieldLink RX12 454 "BeardPassModel" "g" "J") (ki (zr56 0 rfl))
  have lf468 := hts (.fieldLink RX12 468 "BeardPassModel" "gone" "I") (ki (zr56 1 rfl))
  have lf471 := hts (.fieldLink RX12 471 "BeardPassModel" "stopped" "I") (ki (zr56 2 rfl))
  obtain ⟨X, hX⟩ : ∃ X, X = (Gm_years a1 a2 a3 r q) := ⟨_, rfl⟩
  have cut69 : ∀ (n69 : Nat) (w69_4 : Int32) (rw69 : zRr) (qw69 : zRq) (hw69_2 : zI 1 99 a2) (hw69_3 : zI 0 2 a3) (hw69_4 : zI 0 99 w69_4) (jw69 : mJ 20 rw69) (fw69 : zFr [15, 16, 17, 18, 19, 20, 21, 22, 23, 24, 32, 155, 156, 33, 100] r rw69) (xq69 : mQ (qw69 154 0)) (xn69 : mNm q qw69) (hE : X = Gm_years_69 a2 a3 n69 w69_4 rw69 qw69), 99 - w69_4.toInt < (n69 : Int) → zKf p l e ({ frames := 10, cells := 0, slots := 0, locals := 440 }) s m a9 below meth c Q D A 69 5 [] (mW ct h0 y rw69 qw69) [(0, .ref h0), (2, .int a2), (3, .int a3), (4, .int w69_4)] := by
    intro n69
    induction n69 with
    | zero => intro w69_4 rw69 qw69 hw69_2 hw69_3 hw69_4 jw69 fw69 xq69 xn69 hE hm69; exact zI.no hw69_4 (by decide) hm69
    | succ n69 ih69 =>
      intro w69_4 rw69 qw69 hw69_2 hw69_3 hw69_4 jw69 fw69 xq69 xn69 hE hm69
      have hE : X = Bm_years_69 a2 a3 (Gm_years_69 a2 a3 n69) w69_4 rw69 qw69 := hE
      unfold Bm_years_69 at hE
      intro H locs ls hw hS hl
      refine lv_iload hx hb dX12_years_69 (lv_at hl 3 rfl) ?_
      refine lv_iload_n hx hb dX12_years_71 rfl (lv_at hl 1 rfl) ?_
      refine lv_icmp_ge (tgt := 85) hx hb dX12_years_72 (by decide) (fun c1 => ?_) (fun c1 => ?_)
      · have hE := zifT c1 hE
        have k2 : zI 1 99 (w69_4) := zI.leD c1 hw69_2 hw69_4 (by decide)
        refine lv_aload_n hx hb dX12_years_85 rfl (lv_at hl 0 rfl) ?_
        refine mcallV (As := []) (rest := []) ⟨hx, hb, hml, hown, hts⟩ (mc_peopled l D ct h0 y 20 rw69 qw69 jw69) (wqX12_477_mc_peopled hts ⟨Nat.le_of_ble_eq_true rfl, Nat.le_of_ble_eq_true rfl⟩) hw hS hA hK hN rfl hl.1 rfl (Nat.le_of_ble_eq_true rfl) dX12_years_86 89 rfl (fun u3 H locs pu3 hw hS => ?_)
        have hu3 : zI 0 63 u3 := pu3.1
        have xu3 : u3 = (Gm_peopled rw69 qw69) := pu3.2.1
        have hE := zletE xu3 hE
        have hw : zPD D A (mW ct h0 y rw69 qw69) H := hw
        refine zfr 89 [.int u3] rfl rfl ?_
        refine lv_istore (lv' := [(4, .int u3), (0, .ref h0), (2, .int a2), (3, .int a3)]) hx hb dX12_years_89 hl (by decide) rfl (fun ls hl => ?_)
        refine lv_aload_n hx hb dX12_years_91 rfl (lv_at hl 1 rfl) ?_
        refine mget (v := .ref (y 33)) hx hb hts hiX12 hown hK hw 46 (by decide) lf111 rfl rfl dX12_years_92 ?_
        refine lv_iconst (v := 0) hx hb dX12_years_95 (by decide) ?_
        refine lv_aload_n hx hb dX12_years_96 rfl (lv_at hl 1 rfl) ?_
        refine mget (v := .ref (y 32)) hx hb hts hiX12 hown hK hw 45 (by decide) lf108 rfl rfl dX12_years_97 ?_
        refine lv_iconst (v := 0) hx hb dX12_years_100 (by decide) ?_
        refine mcp2 34 33 (As := [.ref (y 33), .int 0, .ref (y 32), .int 0]) (rest := []) ⟨hx, hb, hml, hown, hts⟩ (c_copies l D ct (y 33) (0) (y 32) (0) 31 31 (rw69 33) (rw69 32) (by decide) (by decide) (by decide) (by decide)) (va_cwS 4 hts (kgSm (zr36 17 rfl) (zr36 18 rfl) (zr1 5 rfl) mL_X12_copies) rfl rfl rfl (by decide +kernel) ⟨Nat.le_of_ble_eq_true rfl, Nat.le_of_ble_eq_true rfl⟩) hw hS hA hK hN mWg33 mWg32 rfl rfl (by decide) rfl hl.1 rfl (Nat.le_of_ble_eq_true rfl) dX12_years_101 mWs32 (fun _ H locs _ hw hS => ?_)
        have hw : zPD D A (mW ct h0 y (zset rw69 32 (zcp (rw69 33) (rw69 32) (0) (0) 31)) qw69) H := hw
        refine zfr 104 [] rfl rfl ?_
        refine mgen (P := fun x => mJ 20 x ∧ zFr [15, 16, 17, 18, 19, 20, 21, 22, 23, 24, 32, 155, 156, 33, 100] r x) hw ⟨mcp_s jw69 (Or.inl ⟨Or.inl rfl, rfl⟩), fw69.set rfl⟩ (fun r5 er5 hw pr5 => ?_)
        have hE := zletE er5 hE
        refine lv_iload_n hx hb dX12_years_104 rfl (lv_at hl 3 rfl) ?_
        refine lv_if_ne (tgt := 115) hx hb dX12_years_105 (by decide) (fun c6 => ?_) (fun c6 => ?_)
        · have hE := zifnT c6 hE
          have k7 : zI 1 2 (a3) := zI.neD c6 hw69_3 (zI.lit (a := 0) (b := 0) (c := 0) (by decide)) (by decide)
          refine lv_iload_n hx hb dX12_years_115 rfl (lv_at hl 3 rfl) ?_
          refine lv_iconst (v := 1) hx hb dX12_years_116 (by decide) ?_
          refine lv_icmp_ne (tgt := 127) hx hb dX12_years_117 (by decide) (fun c8 => ?_) (fun c8 => ?_)
          · have hE := zifnT c8 hE
            have k9 : zI 2 2 (a3) := zI.neD c8 k7 (zI.lit (a := 1) (b := 1) (c := 1) (by decide)) (by decide)
            refine lv_iload hx hb dX12_years_127 (lv_at hl 0 rfl) ?_
            exact ziretQ hQ hx hb hr rfl hlocks (u3, r5, qw69) rfl ⟨(zI.top _), pr5.1, pr5.2, (show mNm q qw69 from xn69), (hE.symm.trans hX), trivial⟩ hw hS dX12_years_129
          · have hE := zifnF c8 hE
            have k10 : zI 1 1 (a3) := zI.eqq c8 (zI.lit (a := 1) (b := 1) (c := 1) (by decide))
            refine lv_aload_n hx hb dX12_years_120 rfl (lv_at hl 1 rfl) ?_
            refine mget (v := .int (r5 156 0)) hx hb hts hiX12 hown hK hw 56 (by decide) lf471 rfl rfl dX12_years_121 (zgenE (zI.top _) (fun v11 ev11 _ => ?_))
            have hE := zletE ev11 hE
            refine lv_goto (tgt := 129) hx hb dX12_years_124 (by decide) ?_
            exact ziretQ hQ hx hb hr rfl hlocks (v11, r5, qw69) rfl ⟨(zI.top _), pr5.1, pr5.2, (show mNm q qw69 from xn69), (hE.symm.trans hX), trivial⟩ hw hS dX12_years_129
        · have hE := zifnF c6 hE
          have k12 : zI 0 0 (a3) := zI.eqq c6 (zI.lit (a := 0) (b := 0) (c := 0) (by decide))
          refine lv_aload_n hx hb dX12_years_108 rfl (lv_at hl 1 rfl) ?_
          refine mget (v := .int (r5 155 0)) hx hb hts hiX12 hown hK hw 55 (by decide) lf468 rfl rfl dX12_years_109 (zgenE (zI.top _) (fun v13 ev13 _ => ?_))
          have hE := zletE ev13 hE
          refine lv_goto (tgt := 129) hx hb dX12_years_112 (by decide) ?_
          exact ziretQ hQ hx hb hr rfl hlocks (v13, r5, qw69) rfl ⟨(zI.top _), pr5.1, pr5.2, (show mNm q qw69 from xn69), (hE.symm.trans hX), trivial⟩ hw hS dX12_years_129
      · have hE := zifF c1 hE
        have k14 : zI 0 98 (w69_4) := zI.ltU (zI.nle c1) hw69_4 hw69_2 (by decide)
        refine lv_aload_n hx hb dX12_years_75 rfl (lv_at hl 0 rfl) ?_
        refine mcallV (As := []) (rest := []) ⟨hx, hb, hml, hown, hts⟩ (mc_livesWeek l D ct h0 y 20 rw69 qw69 jw69 (xq69)) (wqX12_474_mc_livesWeek hts ⟨Nat.le_of_ble_eq_true rfl, Nat.le_of_ble_eq_true rfl⟩) hw hS hA hK hN rfl hl.1 rfl (Nat.le_of_ble_eq_true rfl) dX12_years_76 79 rfl (fun u15 H locs pu15 hw hS => ?_)
        obtain ⟨r16, q17⟩ := u15
        have ju15 : mJ 20 r16 := pu15.1
        have fu15 : zFr [15, 16, 17, 18, 19, 20, 21, 22, 23, 24, 32, 155, 156] rw69 r16 := pu15.2.1
        have yu15_0 : mQ (q17 154 0) := pu15.2.2.1
        have yu15_1 : mNm qw69 q17 := pu15.2.2.2.1
        have xu15 : (r16, q17) = (Gm_livesWeek rw69 qw69) := pu15.2.2.2.2.1
        have hE := zc_rqE xu15 hE
        have hw : zPD D A (mW ct h0 y r16 q17) H := hw
        refine zfr 79 [] rfl rfl ?_
        refine lv_iinc (v := w69_4 + 1) (lv' := [(4, .int (w69_4 + 1)), (0, .ref h0), (2, .int a2), (3, .int a3)]) hx hb dX12_years_79 hl (k := 3) rfl (rfl) (by decide) rfl (fun ls hl => ?_)
        have k18 : zI 1 99 (w69_4 + 1) := zI.add k14 (zI.lit (a := 1) (b := 1) (by decide)) (by decide)
        refine lv_goto (tgt := 69) hx hb dX12_years_82 (by decide) ?_
        exact ih69 (w69_4 + 1) r16 q17 hw69_2 hw69_3 (k18.w (c := 0) (d := 99) (by decide)) ju15 (fw69.tr fu15 rfl) (yu15_0) ((xn69.tr yu15_1)) hE (zI.up k14 (by decide) hm69) H locs ls hw hS (lv_sub hl [1, 2, 3, 0] rfl)
  intro H locs hw hS ls hl
  have hl : lv_has ls 5 [(0, .ref h0), (1, .int a1), (2, .int a2), (3, .int a3)] := hl
  have hE := hX
  unfold Gm_years at hE
  refine lv_aload_n hx hb dX12_years_0 rfl (lv_at hl 0 rfl) ?_
  refine lv_iconst (v := 0) hx hb dX12_years_1 (by decide) ?_
  refine mput (ty := .int) (v := .int 0) hx hb hts hiX12 hown hK hw hS 0 (by decide) lf129 rfl rfl (by decide +kernel) rfl rfl dX12_years_2 (zset r 100 (fun _ => (0 : Int32))) _ mWf0 (fun H locs hw hS => ?_)
  refine mgen (P := fun x => mJ 20 x ∧ zFr [15, 16, 17, 18, 19, 20, 21, 22, 23, 24, 32, 155, 156, 33, 100] r x) hw ⟨hJ0.setc rfl (fun _ => (zI.top _)), (zFr.refl).set rfl⟩ (fun r19 er19 hw pr19 => ?_)
  have hE := zletE er19 hE
  refine lv_iload_n hx hb dX12_years_5 rfl (lv_at hl 1 rfl) ?_
  refine lv_iconst (v := 0) hx hb dX12_years_6 (by decide) ?_
  refine lv_sipush (v := 9999) hx hb dX12_years_7 (by decide) ?_
  refine scallE (As := [.int a1, .int 0, .int 9999]) (rest := []) ⟨hx, hb, hml, hown, hts⟩ (mc_within l D ct a1 0 9999) (va_cwS 3 hts (kgS (zr25 11 rfl) (zr25 12 rfl) (zr1 5 rfl) (zr25 13 rfl)) rfl rfl rfl (by decide +kernel) ⟨Nat.le_of_ble_eq_true rfl, Nat.le_of_ble_eq_true rfl⟩) hw hS hA hK hN mWn rfl hl.1 rfl (Nat.le_of_ble_eq_true rfl) dX12_years_10 13 rfl (fun u20 H locs pu20 hw hS => ?_)
  have hu20 : zI 0 1 u20 := pu20.1
  have yu20_0 : ¬ u20 = 0 → (0 : Int32) ≤ a1 ∧ a1 ≤ (9999 : Int32) := pu20.2.1
  have xu20 : u20 = (Gm_within a1 (0 : Int32) (9999 : Int32)) := pu20.2.2.1
  have hE := zletE xu20 hE
  refine zfr 13 [.int u20] rfl rfl ?_
  refine lv_if_eq (tgt := 35) hx hb dX12_years_13 (by decide) (fun c22 => ?_) (fun c22 => ?_)
  · have hE := zifT c22 hE
    have k23 : zI 0 0 (u20) := zI.eqq c22 (zI.lit (a := 0) (b := 0) (c := 0) (by decide))
    refine lv_iconst (v := (-1)) hx hb dX12_years_35 (by decide) ?_
    exact ziretQ hQ hx hb hr rfl hlocks ((-1), r19, q) rfl ⟨(zI.top _), pr19.1, pr19.2, (show mNm q q from mNm.refl), (hE.symm.trans hX), trivial⟩ hw hS dX12_years_36
  · have hE := zifF c22 hE
    have k24 : zI 1 1 (u20) := zI.neD c22 hu20 (zI.lit (a := 0) (b := 0) (c := 0) (by decide)) (by decide)
    have k25 : zI 0 2147483647 (a1) := zI.leD (yu20_0 c22).1 (zI.lit (a := 0) (b := 0) (c := 0) (by decide)) (zI.top _) (by decide)
    have k26 : zI 0 9999 (a1) := zI.leU (yu20_0 c22).2 k25 (zI.lit (a := 9999) (b := 9999) (c := 9999) (by decide)) (by decide)
    refine lv_iload_n hx hb dX12_years_16 rfl (lv_at hl 2 rfl) ?_
    refine lv_iconst (v := 1) hx hb dX12_years_17 (by decide) ?_
    refine lv_bipush (v := 99) hx hb dX12_years_18 (by decide) ?_
    refine scallE (As := [.int a2, .int 1, .int 99]) (rest := []) ⟨hx, hb, hml, hown, hts⟩ (mc_within l D ct a2 1 99) (va_cwS 3 hts (kgS (zr25 11 rfl) (zr25 12 rfl) (zr1 5 rfl) (zr25 13 rfl)) rfl rfl rfl (by decide +kernel) ⟨Nat.le_of_ble_eq_true rfl, Nat.le_of_ble_eq_true rfl⟩) hw hS hA hK hN mWn rfl hl.1 rfl (Nat.le_of_ble_eq_true rfl) dX12_years_20 23 rfl (fun u27 H locs pu27 hw hS => ?_)
    have hu27 : zI 0 1 u27 := pu27.1
    have yu27_0 : ¬ u27 = 0 → (1 : Int32) ≤ a2 ∧ a2 ≤ (99 : Int32) := pu27.2.1
    have xu27 : u27 = (Gm_within a2 (1 : Int32) (99 : Int32)) := pu27.2.2.1
    have hE := zletE xu27 hE
    refine zfr 23 [.int u27] rfl rfl ?_
    refine lv_if_eq (tgt := 35) hx hb dX12_years_23 (by decide) (fun c29 => ?_) (fun c29 => ?_)
    · have hE := zifT c29 hE
      have k30 : zI 0 0 (u27) := zI.eqq c29 (zI.lit (a := 0) (b := 0) (c := 0) (by decide))
      refine lv_iconst (v := (-1)) hx hb dX12_years_35 (by decide) ?_
      exact ziretQ hQ hx hb hr rfl hlocks ((-1), r19, q) rfl ⟨(zI.top _), pr19.1, pr19.2, (show mNm q q from mNm.refl), (hE.symm.trans hX), trivial⟩ hw hS dX12_years_36
    · have hE := zifF c29 hE
      have k31 : zI 1 1 (u27) := zI.neD c29 hu27 (zI.lit (a := 0) (b := 0) (c := 0) (by decide)) (by decide)
      have k32 : zI 1 2147483647 (a2) := zI.leD (yu27_0 c29).1 (zI.lit (a := 1) (b := 1) (c := 1) (by decide)) (zI.top _) (by decide)
      have k33 : zI 1 99 (a2) := zI.leU (yu27_0 c29).2 k32 (zI.lit (a := 99) (b := 99) (c := 99) (by decide)) (by decide)
      refine lv_iload_n hx hb dX12_years_26 rfl (lv_at hl 3 rfl) ?_
      refine lv_iconst (v := 0) hx hb dX12_years_27 (by decide) ?_
      refine lv_iconst (v := 2) hx hb dX12_years_28 (by decide) ?_
      refine scallE (As := [.int a3, .int 0, .int 2]) (rest := []) ⟨hx, hb, hml, hown, hts⟩ (mc_within l D ct a3 0 2) (va_cwS 3 hts (kgS (zr25 11 rfl) (zr25 12 rfl) (zr1 5 rfl) (zr25 13 rfl)) rfl rfl rfl (by decide +kernel) ⟨Nat.le_of_ble_eq_true rfl, Nat.le_of_ble_eq_true rfl⟩) hw hS hA hK hN mWn rfl hl.1 rfl (Nat.le_of_ble_eq_true rfl) dX12_years_29 32 rfl (fun u34 H locs pu34 hw hS => ?_)
      have hu34 : zI 0 1 u34 := pu34.1
      have yu34_0 : ¬ u34 = 0 → (0 : Int32) ≤ a3 ∧ a3 ≤ (2 : Int32) := pu34.2.1
      have xu34 : u34 = (Gm_within a3 (0 : Int32) (2 : Int32)) := pu34.2.2.1
      have hE := zletE xu34 hE
      refine zfr 32 [.int u34] rfl rfl ?_
      refine lv_if_ne (tgt := 37) hx hb dX12_years_32 (by decide) (fun c36 => ?_) (fun c36 => ?_)
      · have hE := zifnT c36 hE
        have k37 : zI 1 1 (u34) := zI.neD c36 hu34 (zI.lit (a := 0) (b := 0) (c := 0) (by decide)) (by decide)
        have k38 : zI 0 2147483647 (a3) := zI.leD (yu34_0 c36).1 (zI.lit (a := 0) (b := 0) (c := 0) (by decide)) (zI.top _) (by decide)
        have k39 : zI 0 2 (a3) := zI.leU (yu34_0 c36).2 k38 (zI.lit (a := 2) (b := 2) (c := 2) (by decide)) (by decide)
        refine lv_aload_n hx hb dX12_years_37 rfl (lv_at hl 0 rfl) ?_
        refine lv_iload_n hx hb dX12_years_38 rfl (lv_at hl 1 rfl) ?_
        refine lv_i2l (v := a1.toInt64) hx hb dX12_years_39 rfl ?_
        refine mput (ty := .long) (v := .long a1.toInt64) hx hb hts hiX12 hown hK hw hS 54 (by decide) lf454 rfl rfl (by decide +kernel) rfl rfl dX12_years_40 _ (zset q 154 (fun _ => a1.toInt64)) mWf54 (fun H locs hw hS => ?_)
        refine mqgen hw (fun q40 eq40 hw => ?_)
        have hE := zletE eq40 hE
        have hn0 : mNm q q40 := by rw [eq40]; exact ⟨zset_ne (by decide), zset_ne (by decide)⟩
        have hq0 : mQ (q40 154 0) := by rw [zq_in eq40]; exact mQ.of k26 (by decide)
        refine lv_aload_n hx hb dX12_years_43 rfl (lv_at hl 0 rfl) ?_
        refine lv_iconst (v := 0) hx hb dX12_years_44 (by decide) ?_
        refine mput (ty := .int) (v := .int 0) hx hb hts hiX12 hown hK hw hS 55 (by decide) lf468 rfl rfl (by decide +kernel) rfl rfl dX12_years_45 (zset r19 155 (fun _ => (0 : Int32))) _ mWf55 (fun H locs hw hS => ?_)
        refine mgen (P := fun x => mJ 20 x ∧ zFr [15, 16, 17, 18, 19, 20, 21, 22, 23, 24, 32, 155, 156, 33, 100] r x) hw ⟨pr19.1.setc rfl (fun _ => (zI.top _)), pr19.2.set rfl⟩ (fun r41 er41 hw pr41 => ?_)
        have hE := zletE er41 hE
        refine lv_aload_n hx hb dX12_years_48 rfl (lv_at hl 0 rfl) ?_
        refine lv_iconst (v := 0) hx hb dX12_years_49 (by decide) ?_
        refine mput (ty := .int) (v := .int 0) hx hb hts hiX12 hown hK hw hS 56 (by decide) lf471 rfl rfl (by decide +kernel) rfl rfl dX12_years_50 (zset r41 156 (fun _ => (0 : Int32))) _ mWf56 (fun H locs hw hS => ?_)
        refine mgen (P := fun x => mJ 20 x ∧ zFr [15, 16, 17, 18, 19, 20, 21, 22, 23, 24, 32, 155, 156, 33, 100] r x) hw ⟨pr41.1.setc rfl (fun _ => (zI.top _)), pr41.2.set rfl⟩ (fun r42 er42 hw pr42 => ?_)
        have hE := zletE er42 hE
        refine lv_aload_n hx hb dX12_years_53 rfl (lv_at hl 0 rfl) ?_
        refine mget (v := .ref (y 32)) hx hb hts hiX12 hown hK hw 45 (by decide) lf108 rfl rfl dX12_years_54 ?_
        refine lv_iconst (v := 0) hx hb dX12_years_57 (by decide) ?_
        refine lv_aload_n hx hb dX12_years_58 rfl (lv_at hl 0 rfl) ?_
        refine mget (v := .ref (y 33)) hx hb hts hiX12 hown hK hw 46 (by decide) lf111 rfl rfl dX12_years_59 ?_
        refine lv_iconst (v := 0) hx hb dX12_years_62 (by decide) ?_
        refine mcp2 33 34 (As := [.ref (y 32), .int 0, .ref (y 33), .int 0]) (rest := []) ⟨hx, hb, hml, hown, hts⟩ (c_copies l D ct (y 32) (0) (y 33) (0) 31 31 (r42 32) (r42 33) (by decide) (by decide) (by decide) (by decide)) (va_cwS 4 hts (kgSm (zr36 17 rfl) (zr36 18 rfl) (zr1 5 rfl) mL_X12_copies) rfl rfl rfl (by decide +kernel) ⟨Nat.le_of_ble_eq_true rfl, Nat.le_of_ble_eq_true rfl⟩) hw hS hA hK hN mWg32 mWg33 rfl rfl (by decide) rfl hl.1 rfl (Nat.le_of_ble_eq_true rfl) dX12_years_63 mWs33 (fun _ H locs _ hw hS => ?_)
        have hw : zPD D A (mW ct h0 y (zset r42 33 (zcp (r42 32) (r42 33) (0) (0) 31)) q40) H := hw
        refine zfr 66 [] rfl rfl ?_
        refine mgen (P := fun x => mJ 20 x ∧ zFr [15, 16, 17, 18, 19, 20, 21, 22, 23, 24, 32, 155, 156, 33, 100] r x) hw ⟨mcp_o pr42.1 (Or.inl ⟨Or.inl rfl, rfl⟩) rfl, pr42.2.set rfl⟩ (fun r43 er43 hw pr43 => ?_)
        have hE := zletE er43 hE
        refine lv_iconst (v := 0) hx hb dX12_years_66 (by decide) ?_
        refine lv_istore (lv' := [(4, .int 0), (0, .ref h0), (1, .int a1), (2, .int a2), (3, .int a3)]) hx hb dX12_years_67 hl (by decide) rfl (fun ls hl => ?_)
        exact cut69 100 0 r43 q40 k33 k39 ((zI.lit (a := 0) (b := 0) (c := 0) (by decide)).w (c := 0) (d := 99) (by decide)) pr43.1 pr43.2 (hq0) (hn0) hE (zI.m0 (zI.lit (a := 0) (b := 0) (c := 0) (by decide)) (by decide)) H locs ls hw hS (lv_sub hl [1, 3, 4, 0] rfl)
      · have hE := zifnF c36 hE
        have k44 : zI 0 0 (u34) := zI.eqq c36 (zI.lit (a := 0) (b := 0) (c := 0) (by decide))
        refine lv_iconst (v := (-1)) hx hb dX12_years_35 (by decide) ?_
        exact ziretQ hQ hx hb hr rfl hlocks ((-1), r19, q) rfl ⟨(zI.top _), pr19.1, pr19.2, (show mNm q q from mNm.refl), (hE.symm.trans hX), trivial⟩ hw hS dX12_years_36

set_option maxHeartbeats 4000000 in
set_option maxRecDepth 100000 in
theorem mc_laysLines (l : Launch) (D : va_G) (ct : Nat → ClassId) (h0 : Nat) (y : Nat → Nat) (B : Int) (a1 : Int32) (a2 : Int32) (r : zRr) (q : zRq) (g1 : zI 0 5 a1) (g2 : zI 0 5 a2) (hJ0 : mJ B r) (x1 : zn a1 ≠ zn a2) : zC l yX12_laysLines (.code yX12_laysLines cX12_laysLines 4 none :: wsL_law0) ({ frames := 1, cells := 0, slots := 0, locals := 80 }) D ct [] [.ref h0, .int a1, .int a2] (mW ct h0 y r q) (S := zRr) (fun u => none) (fun u => mJ B u ∧ zFr [25, 26, 27, 28] r u ∧ u = (Gm_laysLines a1 a2 r q) ∧ True) (fun u => mW ct h0 y u q) 0 0 := by
  refine zofQ cX12_laysLines 4 none (by decide) rfl (Nat.le_of_ble_eq_true rfl) ?_
  intro p e s m below meth c A a9 Q ha9 hx hb hr hml hts hown hlocks hname hK hA hZ hN hQ
  have hown : s.vm.findClass RX12 = some m.cls := hown
  have hiX12 : ∀ w ∈ wsX120, w ∈ .code yX12_laysLines cX12_laysLines 4 none :: wsL_law0 := fun _ h => ki (zs_wsX120 _ h)
  have lf87 := hts (.fieldLink RX12 87 "BeardPassModel" "lines" "[I") (ki (zr8 21 rfl))
  have lf90 := hts (.fieldLink RX12 90 "BeardPassModel" "lineWhat" "[I") (ki (zr8 22 rfl))
  have lf93 := hts (.fieldLink RX12 93 "BeardPassModel" "lineA" "[I") (ki (zr8 23 rfl))
  have lf96 := hts (.fieldLink RX12 96 "BeardPassModel" "lineB" "[I") (ki (zr9 0 rfl))
  obtain ⟨X, hX⟩ : ∃ X, X = (Gm_laysLines a1 a2 r q) := ⟨_, rfl⟩
  have cut14 : ∀ (n14 : Nat) (w14_3 : Int32) (rw14 : zRr) (hw14_1 : zI 0 5 a1) (hw14_2 : zI 0 5 a2) (hw14_3 : zI 0 40 w14_3) (jw14 : mN B rw14) (fw14 : zFr [25, 26, 27, 28] r rw14) (x14a : rw14 26 = zcp (r 26) (r 26) (40 * zn a1) (40 * zn a2) (zn w14_3)) (x14b : rw14 28 = zcp (r 28) (r 28) (40 * zn a1) (40 * zn a2) (zn w14_3)) (x14c : rw14 25 = upd (r 25) (zn a2) (r 25 (zn a1))) (hE : X = Gm_laysLines_14 a1 a2 n14 w14_3 rw14), 40 - w14_3.toInt < (n14 : Int) → zKf p l e ({ frames := 1, cells := 0, slots := 0, locals := 80 }) s m a9 below meth c Q D A 14 4 [] (mW ct h0 y rw14 q) [(0, .ref h0), (1, .int a1), (2, .int a2), (3, .int w14_3)] := by
    intro n14
    induction n14 with
    | zero => intro w14_3 rw14 hw14_1 hw14_2 hw14_3 jw14 fw14 x14a x14b x14c hE hm14; exact zI.no hw14_3 (by decide) hm14
    | succ n14 ih14 =>
      intro w14_3 rw14 hw14_1 hw14_2 hw14_3 jw14 fw14 x14a x14b x14c hE hm14
      have hE : X = Bm_laysLines_14 a1 a2 (Gm_laysLines_14 a1 a2 n14) w14_3 rw14 := hE
      unfold Bm_laysLines_14 at hE
      intro H locs ls hw hS hl
      refine lv_iload_n hx hb dX12_laysLines_14 rfl (lv_at hl 3 rfl) ?_
      refine lv_bipush (v := 40) hx hb dX12_laysLines_15 (by decide) ?_
      refine lv_icmp_ge (tgt := 92) hx hb dX12_laysLines_17 (by decide) (fun c1 => ?_) (fun c1 => ?_)
      · have hE := zifT c1 hE
        have k2 : zI 40 40 (w14_3) := zI.leD c1 (zI.lit (a := 40) (b := 40) (c := 40) (by decide)) hw14_3 (by decide)
        exact zvretQ hQ hx hb hr hlocks rw14 rfl ⟨(by have e40 : zn w14_3 = 40 := (by have h9 := (k2).nn (by decide); omega); rw [e40] at x14a x14b; exact ml_end hJ0 jw14 fw14 (by have h9 := g1.nn (by decide); omega) x14c x14a x14b), fw14, (hE.symm.trans hX), trivial⟩ hw hS dX12_laysLines_92
      · have hE := zifF c1 hE
        have k3 : zI 0 39 (w14_3) := zI.ltU (zI.nle c1) hw14_3 (zI.lit (a := 40) (b := 40) (c := 40) (by decide)) (by decide)
        refine lv_aload_n hx hb dX12_laysLines_20 rfl (lv_at hl 0 rfl) ?_
        refine mget (v := .ref (y 26)) hx hb hts hiX12 hown hK hw 39 (by decide) lf90 rfl rfl dX12_laysLines_21 ?_
        refine lv_bipush (v := 40) hx hb dX12_laysLines_24 (by decide) ?_
        refine lv_iload_n hx hb dX12_laysLines_26 rfl (lv_at hl 2 rfl) ?_
        refine lv_imul hx hb dX12_laysLines_27 ?_
        have k4 : zI 0 200 (40 * a2) := zI.mul (zI.lit (a := 40) (b := 40) (c := 40) (by decide)) hw14_2 (by decide)
        refine lv_iload_n hx hb dX12_laysLines_28 rfl (lv_at hl 3 rfl) ?_
        refine lv_iadd hx hb dX12_laysLines_29 ?_
        have k5 : zI 0 239 ((40 * a2) + w14_3) := zI.add k4 k3 (by decide)
        refine lv_aload_n hx hb dX12_laysLines_30 rfl (lv_at hl 0 rfl) ?_
        refine mget (v := .ref (y 26)) hx hb hts hiX12 hown hK hw 39 (by decide) lf90 rfl rfl dX12_laysLines_31 ?_
        refine lv_bipush (v := 40) hx hb dX12_laysLines_34 (by decide) ?_
        refine lv_iload_n hx hb dX12_laysLines_36 rfl (lv_at hl 1 rfl) ?_
        refine lv_imul hx hb dX12_laysLines_37 ?_
        have k6 : zI 0 200 (40 * a1) := zI.mul (zI.lit (a := 40) (b := 40) (c := 40) (by decide)) hw14_1 (by decide)
        refine lv_iload_n hx hb dX12_laysLines_38 rfl (lv_at hl 3 rfl) ?_
        refine lv_iadd hx hb dX12_laysLines_39 ?_
        have k7 : zI 0 239 ((40 * a1) + w14_3) := zI.add k6 k3 (by decide)
        refine miald hx hb hK hw 27 mWg26 k7 (by decide) dX12_laysLines_40 ?_
        refine miast hx hb hK hw hS 27 mWg26 k5 (by decide) dX12_laysLines_41 (mW ct h0 y (zset rw14 26 (upd (rw14 26) (zn ((40 * a2) + w14_3)) (rw14 26 (zn ((40 * a1) + w14_3))))) q) mWs26 (fun H locs hw hS => ?_)
        refine mgen (P := fun x => mN B x ∧ zFr [25, 26, 27, 28] r x) hw ⟨jw14.set rfl (zI.top _), fw14.set rfl⟩ (fun r8 er8 hw pr8 => ?_)
        have hE := zletE er8 hE
        refine lv_aload_n hx hb dX12_laysLines_42 rfl (lv_at hl 0 rfl) ?_
        refine mget (v := .ref (y 27)) hx hb hts hiX12 hown hK hw 40 (by decide) lf93 rfl rfl dX12_laysLines_43 ?_
        refine lv_bipush (v := 40) hx hb dX12_laysLines_46 (by decide) ?_
        refine lv_iload_n hx hb dX12_laysLines_48 rfl (lv_at hl 2 rfl) ?_
        refine lv_imul hx hb dX12_laysLines_49 (zgenE (lo := 0) (hi := 200) (zI.mul (zI.lit (a := 40) (b := 40) (c := 40) (by decide)) hw14_2 (by decide)) (fun v9 ev9 hv9 => ?_))
        have hE := zletE ev9 hE
        refine lv_iload_n hx hb dX12_laysLines_50 rfl (lv_at hl 3 rfl) ?_
        refine lv_iadd hx hb dX12_laysLines_51 (zgenE (lo := 0) (hi := 239) (zI.add hv9 k3 (by decide)) (fun v10 ev10 hv10 => ?_))
        have hE := zletE ev10 hE
        refine lv_aload_n hx hb dX12_laysLines_52 rfl (lv_at hl 0 rfl) ?_
        refine mget (v := .ref (y 27)) hx hb hts hiX12 hown hK hw 40 (by decide) lf93 rfl rfl dX12_laysLines_53 ?_
        refine lv_bipush (v := 40) hx hb dX12_laysLines_56 (by decide) ?_
        refine lv_iload_n hx hb dX12_laysLines_58 rfl (lv_at hl 1 rfl) ?_
        refine lv_imul hx hb dX12_laysLines_59 (zgenE (lo := 0) (hi := 200) (zI.mul (zI.lit (a := 40) (b := 40) (c := 40) (by decide)) hw14_1 (by decide)) (fun v11 ev11 hv11 => ?_))
        have hE := zletE ev11 hE
        refine lv_iload_n hx hb dX12_laysLines_60 rfl (lv_at hl 3 rfl) ?_
        refine lv_iadd hx hb dX12_laysLines_61 (zgenE (lo := 0) (hi := 239) (zI.add hv11 k3 (by decide)) (fun v12 ev12 hv12 => ?_))
        have hE := zletE ev12 hE
        refine miald hx hb hK hw 28 mWg27 hv12 (by decide) dX12_laysLines_62 (zgenE (lo := 0) (hi := 5) ((show zI 0 5 (r8 27 _) from pr8.1.i 27 _)) (fun v13 ev13 hv13 => ?_))
        have hE := zletE ev13 hE
        refine miast hx hb hK hw hS 28 mWg27 hv10 (by decide) dX12_laysLines_63 (mW ct h0 y (zset r8 27 (upd (r8 27) (zn v10) v13)) q) mWs27 (fun H locs hw hS => ?_)
        refine mgen (P := fun x => mN B x ∧ zFr [25, 26, 27, 28] r x) hw ⟨pr8.1.set rfl hv13, pr8.2.set rfl⟩ (fun r14 er14 hw pr14 => ?_)
        have hE := zletE er14 hE
        refine lv_aload_n hx hb dX12_laysLines_64 rfl (lv_at hl 0 rfl) ?_
        refine mget (v := .ref (y 28)) hx hb hts hiX12 hown hK hw 41 (by decide) lf96 rfl rfl dX12_laysLines_65 ?_
        refine lv_bipush (v := 40) hx hb dX12_laysLines_68 (by decide) ?_
        refine lv_iload_n hx hb dX12_laysLines_70 rfl (lv_at hl 2 rfl) ?_
        refine lv_imul hx hb dX12_laysLines_71 ?_
        refine lv_iload_n hx hb dX12_laysLines_72 rfl (lv_at hl 3 rfl) ?_
        refine lv_iadd hx hb dX12_laysLines_73 ?_
        refine lv_aload_n hx hb dX12_laysLines_74 rfl (lv_at hl 0 rfl) ?_
        refine mget (v := .ref (y 28)) hx hb hts hiX12 hown hK hw 41 (by decide) lf96 rfl rfl dX12_laysLines_75 ?_
        refine lv_bipush (v := 40) hx hb dX12_laysLines_78 (by decide) ?_
        refine lv_iload_n hx hb dX12_laysLines_80 rfl (lv_at hl 1 rfl) ?_
        refine lv_imul hx hb dX12_laysLines_81 ?_
        refine lv_iload_n hx hb dX12_laysLines_82 rfl (lv_at hl 3 rfl) ?_
        refine lv_iadd hx hb dX12_laysLines_83 ?_
        refine miald hx hb hK hw 29 mWg28 k7 (by decide) dX12_laysLines_84 ?_
        have k15 : zI 0 9999 (r14 28 (zn ((40 * a1) + w14_3))) := (show zI 0 9999 (r14 28 _) from pr14.1.i 28 _)
        refine miast hx hb hK hw hS 29 mWg28 k5 (by decide) dX12_laysLines_85 (mW ct h0 y (zset r14 28 (upd (r14 28) (zn ((40 * a2) + w14_3)) (r14 28 (zn ((40 * a1) + w14_3))))) q) mWs28 (fun H locs hw hS => ?_)
        refine mgen (P := fun x => mN B x ∧ zFr [25, 26, 27, 28] r x) hw ⟨pr14.1.set rfl k15, pr14.2.set rfl⟩ (fun r16 er16 hw pr16 => ?_)
        have hE := zletE er16 hE
        refine lv_iinc (v := w14_3 + 1) (lv' := [(3, .int (w14_3 + 1)), (0, .ref h0), (1, .int a1), (2, .int a2)]) hx hb dX12_laysLines_86 hl (k := 3) rfl (rfl) (by decide) rfl (fun ls hl => ?_)
        have k17 : zI 1 40 (w14_3 + 1) := zI.add k3 (zI.lit (a := 1) (b := 1) (by decide)) (by decide)
        refine lv_goto (tgt := 14) hx hb dX12_laysLines_89 (by decide) ?_
        exact ih14 (w14_3 + 1) r16 hw14_1 hw14_2 (k17.w (c := 0) (d := 40) (by decide)) pr16.1 pr16.2 (by rw [zn_s k3 (by decide)]; exact ml_step x1 (by have h9 := (k3).nn (by decide); omega) x14a (zn40 g1 k3 (by decide)) (zn40 g2 k3 (by decide)) (((zs_row (k := 26) er16 (by decide)).trans (zs_row (k := 26) er14 (by decide))).trans (zs_self er8))) (by rw [zn_s k3 (by decide)]; exact ml_step x1 (by have h9 := (k3).nn (by decide); omega) x14b (zn40 g1 k3 (by decide)) (zn40 g2 k3 (by decide)) ((zs_self er16).trans (by rw [((zs_row (k := 28) er14 (by decide)).trans (zs_row (k := 28) er8 (by decide)))]))) (((zs_row (k := 25) er16 (by decide)).trans ((zs_row (k := 25) er14 (by decide)).trans (zs_row (k := 25) er8 (by decide)))).trans x14c) hE (zI.up k3 (by decide) hm14) H locs ls hw hS (lv_sub hl [1, 2, 3, 0] rfl)
  intro H locs hw hS ls hl
  have hl : lv_has ls 4 [(0, .ref h0), (1, .int a1), (2, .int a2)] := hl
  have hE := hX
  unfold Gm_laysLines at hE
  refine lv_aload_n hx hb dX12_laysLines_0 rfl (lv_at hl 0 rfl) ?_
  refine mget (v := .ref (y 25)) hx hb hts hiX12 hown hK hw 38 (by decide) lf87 rfl rfl dX12_laysLines_1 ?_
  refine lv_iload_n hx hb dX12_laysLines_4 rfl (lv_at hl 2 rfl) ?_
  refine lv_aload_n hx hb dX12_laysLines_5 rfl (lv_at hl 0 rfl) ?_
  refine mget (v := .ref (y 25)) hx hb hts hiX12 hown hK hw 38 (by decide) lf87 rfl rfl dX12_laysLines_6 ?_
  refine lv_iload_n hx hb dX12_laysLines_9 rfl (lv_at hl 1 rfl) ?_
  refine miald hx hb hK hw 26 mWg25 g1 (by decide) dX12_laysLines_10 ?_
  have k18 : zI 0 40 (r 25 (zn a1)) := (show zI 0 40 (r 25 _) from hJ0.n.i 25 _)
  refine miast hx hb hK hw hS 26 mWg25 g2 (by decide) dX12_laysLines_11 (mW ct h0 y (zset r 25 (upd (r 25) (zn a2) (r 25 (zn a1)))) q) mWs25 (fun H locs hw hS => ?_)
  refine mgen (P := fun x => mN B x ∧ zFr [25, 26, 27, 28] r x) hw ⟨hJ0.n.set rfl k18, (zFr.refl).set rfl⟩ (fun r19 er19 hw pr19 => ?_)
  have hE := zletE er19 hE
  refine lv_iconst (v := 0) hx hb dX12_laysLines_12 (by decide) ?_
  refine lv_istore_n (lv' := [(3, .int 0), (0, .ref h0), (1, .int a1), (2, .int a2)]) hx hb dX12_laysLines_13 rfl hl (by decide) rfl (fun ls hl => ?_)
  exact cut14 41 0 r19 g1 g2 ((zI.lit (a := 0) (b := 0) (c := 0) (by decide)).w (c := 0) (d := 40) (by decide)) pr19.1 pr19.2 (by rw [(zs_row (k := 26) er19 (by decide))]; exact (zcp_0 _ _ _ _).symm) (by rw [(zs_row (k := 28) er19 (by decide))]; exact (zcp_0 _ _ _ _).symm) (zs_self er19) hE (zI.m0 (zI.lit (a := 0) (b := 0) (c := 0) (by decide)) (by decide)) H locs ls hw hS (lv_sub hl [1, 2, 3, 0] rfl)

noncomputable def Bm_laysSeen_14 (a1 : Int32) (a2 : Int32) (ih14 : Int32 → zRr → zRr) (w14_3 : Int32) (rw14 : zRr) : zRr :=
  zif ((8 : Int32) ≤ w14_3) (rw14) (zlet (α := Int32) (8 * a2) <| fun v4 => zlet (α := Int32) (v4 + w14_3) <| fun v5 => zlet (α := Int32) (8 * a1) <| fun v6 => zlet (α := Int32) (v6 + w14_3) <| fun v7 => zlet (α := Int32) (rw14 30 (zn v7)) <| fun v8 => zlet (α := zRr) (zset rw14 30 (upd (rw14 30) (zn v5) v8)) <| fun r9 => zlet (α := Int32) (8 * a2) <| fun v10 => zlet (α := Int32) (v10 + w14_3) <| fun v11 => zlet (α := Int32) (8 * a1) <| fun v12 => zlet (α := Int32) (v12 + w14_3) <| fun v13 => zlet (α := Int32) (r9 31 (zn v13)) <| fun v14 => zlet (α := zRr) (zset r9 31 (upd (r9 31) (zn v11) v14)) <| fun r15 => ih14 (w14_3 + 1) r15)
noncomputable def Gm_laysSeen_14 (a1 : Int32) (a2 : Int32) (n : Nat) : Int32 → zRr → zRr :=
  Nat.rec (motive := fun _ => Int32 → zRr → zRr) (fun _ rw14 => rw14) (fun _ ih => Bm_laysSeen_14 a1 a2 ih) n
noncomputable def Gm_laysSeen (a1 : Int32) (a2 : Int32) (r : zRr) (q : zRq) : zRr :=
  zlet (α := Int32) (r 29 (zn a1)) <| fun v17 => zlet (α := zRr) (zset r 29 (upd (r 29) (zn a2) v17)) <| fun r18 => Gm_laysSeen_14 a1 a2 9 0 r18
set_option maxHeartbeats 4000000 in
set_option maxRecDepth 100000 in
theorem mc_laysSeen (l : Launch) (D : va_G) (ct : Nat → ClassId) (h0 : Nat) (y : Nat → Nat) (B : Int) (a1 : Int32) (a2 : Int32) (r : zRr) (q : zRq) (g1 : zI 0 4 a1) (g2 : zI 0 4 a2) (hJ0 : mJ B r) : zC l yX12_laysSeen (.code yX12_laysSeen cX12_laysSeen 4 none :: wsL_law0) ({ frames := 1, cells := 0, slots := 0, locals := 80 }) D ct [] [.ref h0, .int a1, .int a2] (mW ct h0 y r q) (S := zRr) (fun u => none) (fun u => mJ B u ∧ zFr [29, 30, 31] r u ∧ u = (Gm_laysSeen a1 a2 r q) ∧ True) (fun u => mW ct h0 y u q) 0 0 := by
  refine zofQ cX12_laysSeen 4 none (by decide) rfl (Nat.le_of_ble_eq_true rfl) ?_
  intro p e s m below meth c A a9 Q ha9 hx hb hr hml hts hown hlocks hname hK hA hZ hN hQ
  have hown : s.vm.findClass RX12 = some m.cls := hown
  have hiX12 : ∀ w ∈ wsX120, w ∈ .code yX12_laysSeen cX12_laysSeen 4 none :: wsL_law0 := fun _ h => ki (zs_wsX120 _ h)
  have lf99 := hts (.fieldLink RX12 99 "BeardPassModel" "seens" "[I") (ki (zr9 1 rfl))
  have lf102 := hts (.fieldLink RX12 102 "BeardPassModel" "seenTown" "[I") (ki (zr9 2 rfl))
  have lf105 := hts (.fieldLink RX12 105 "BeardPassModel" "seenLet" "[Z") (ki (zr9 3 rfl))
  obtain ⟨X, hX⟩ : ∃ X, X = (Gm_laysSeen a1 a2 r q) := ⟨_, rfl⟩
  have cut14 : ∀ (n14 : Nat) (w14_3 : Int32) (rw14 : zRr) (hw14_1 : zI 0 4 a1) (hw14_2 : zI 0 4 a2) (hw14_3 : zI 0 8 w14_3) (jw14 : mJ B rw14) (fw14 : zFr [29, 30, 31] r rw14) (hE : X = Gm_laysSeen_14 a1 a2 n14 w14_3 rw14), 8 - w14_3.toInt < (n14 : Int) → zKf p l e ({ frames := 1, cells := 0, slots := 0, locals := 80 }) s m a9 below meth c Q D A 14 4 [] (mW ct h0 y rw14 q) [(0, .ref h0), (1, .int a1), (2, .int a2), (3, .int w14_3)] := by
    intro n14
    induction n14 with
    | zero => intro w14_3 rw14 hw14_1 hw14_2 hw14_3 jw14 fw14 hE hm14; exact zI.no hw14_3 (by decide) hm14
    | succ n14 ih14 =>
      intro w14_3 rw14 hw14_1 hw14_2 hw14_3 jw14 fw14 hE hm14
      have hE : X = Bm_laysSeen_14 a1 a2 (Gm_laysSeen_14 a1 a2 n14) w14_3 rw14 := hE
      unfold Bm_laysSeen_14 at hE
      intro H locs ls hw hS hl
      refine lv_iload_n hx hb dX12_laysSeen_14 rfl (lv_at hl 3 rfl) ?_
      refine lv_bipush (v := 8) hx hb dX12_laysSeen_15 (by decide) ?_
      refine lv_icmp_ge (tgt := 70) hx hb dX12_laysSeen_17 (by decide) (fun c1 => ?_) (fun c1 => ?_)
      · have hE := zifT c1 hE
        have k2 : zI 8 8 (w14_3) := zI.leD c1 (zI.lit (a := 8) (b := 8) (c := 8) (by decide)) hw14_3 (by decide)
        exact zvretQ hQ hx hb hr hlocks rw14 rfl ⟨jw14, fw14, (hE.symm.trans hX), trivial⟩ hw hS dX12_laysSeen_70
      · have hE := zifF c1 hE
        have k3 : zI 0 7 (w14_3) := zI.ltU (zI.nle c1) hw14_3 (zI.lit (a := 8) (b := 8) (c := 8) (by decide)) (by decide)
        refine lv_aload_n hx hb dX12_laysSeen_20 rfl (lv_at hl 0 rfl) ?_
        refine mget (v := .ref (y 30)) hx hb hts hiX12 hown hK hw 43 (by decide) lf102 rfl rfl dX12_laysSeen_21 ?_
        refine lv_bipush (v := 8) hx hb dX12_laysSeen_24 (by decide) ?_
        refine lv_iload_n hx hb dX12_laysSeen_26 rfl (lv_at hl 2 rfl) ?_
        refine lv_imul hx hb dX12_laysSeen_27 (zgenE (lo := 0) (hi := 32) (zI.mul (zI.lit (a := 8) (b := 8) (c := 8) (by decide)) hw14_2 (by decide)) (fun v4 ev4 hv4 => ?_))
        have hE := zletE ev4 hE
        refine lv_iload_n hx hb dX12_laysSeen_28 rfl (lv_at hl 3 rfl) ?_
        refine lv_iadd hx hb dX12_laysSeen_29 (zgenE (lo := 0) (hi := 39) (zI.add hv4 k3 (by decide)) (fun v5 ev5 hv5 => ?_))
        have hE := zletE ev5 hE
        refine lv_aload_n hx hb dX12_laysSeen_30 rfl (lv_at hl 0 rfl) ?_
        refine mget (v := .ref (y 30)) hx hb hts hiX12 hown hK hw 43 (by decide) lf102 rfl rfl dX12_laysSeen_31 ?_
        refine lv_bipush (v := 8) hx hb dX12_laysSeen_34 (by decide) ?_
        refine lv_iload_n hx hb dX12_laysSeen_36 rfl (lv_at hl 1 rfl) ?_
        refine lv_imul hx hb dX12_laysSeen_37 (zgenE (lo := 0) (hi := 32) (zI.mul (zI.lit (a := 8) (b := 8) (c := 8) (by decide)) hw14_1 (by decide)) (fun v6 ev6 hv6 => ?_))
        have hE := zletE ev6 hE
        refine lv_iload_n hx hb dX12_laysSeen_38 rfl (lv_at hl 3 rfl) ?_
        refine lv_iadd hx hb dX12_laysSeen_39 (zgenE (lo := 0) (hi := 39) (zI.add hv6 k3 (by decide)) (fun v7 ev7 hv7 => ?_))
        have hE := zletE ev7 hE
        refine miald hx hb hK hw 31 mWg30 hv7 (by decide) dX12_laysSeen_40 (zgenE (lo := 0) (hi := 5) ((show zI 0 5 (rw14 30 _) from jw14.i 30 _)) (fun v8 ev8 hv8 => ?_))
        have hE := zletE ev8 hE
        refine miast hx hb hK hw hS 31 mWg30 hv5 (by decide) dX12_laysSeen_41 (mW ct h0 y (zset rw14 30 (upd (rw14 30) (zn v5) v8)) q) mWs30 (fun H locs hw hS => ?_)
        refine mgen (P := fun x => mJ B x ∧ zFr [29, 30, 31] r x) hw ⟨jw14.set rfl hv8, fw14.set rfl⟩ (fun r9 er9 hw pr9 => ?_)
        have hE := zletE er9 hE
        refine lv_aload_n hx hb dX12_laysSeen_42 rfl (lv_at hl 0 rfl) ?_
        refine mget (v := .ref (y 31)) hx hb hts hiX12 hown hK hw 44 (by decide) lf105 rfl rfl dX12_laysSeen_43 ?_
        refine lv_bipush (v := 8) hx hb dX12_laysSeen_46 (by decide) ?_
        refine lv_iload_n hx hb dX12_laysSeen_48 rfl (lv_at hl 2 rfl) ?_
        refine lv_imul hx hb dX12_laysSeen_49 (zgenE (lo := 0) (hi := 32) (zI.mul (zI.lit (a := 8) (b := 8) (c := 8) (by decide)) hw14_2 (by decide)) (fun v10 ev10 hv10 => ?_))
        have hE := zletE ev10 hE
        refine lv_iload_n hx hb dX12_laysSeen_50 rfl (lv_at hl 3 rfl) ?_
        refine lv_iadd hx hb dX12_laysSeen_51 (zgenE (lo := 0) (hi := 39) (zI.add hv10 k3 (by decide)) (fun v11 ev11 hv11 => ?_))
        have hE := zletE ev11 hE
        refine lv_aload_n hx hb dX12_laysSeen_52 rfl (lv_at hl 0 rfl) ?_
        refine mget (v := .ref (y 31)) hx hb hts hiX12 hown hK hw 44 (by decide) lf105 rfl rfl dX12_laysSeen_53 ?_
        refine lv_bipush (v := 8) hx hb dX12_laysSeen_56 (by decide) ?_
        refine lv_iload_n hx hb dX12_laysSeen_58 rfl (lv_at hl 1 rfl) ?_
        refine lv_imul hx hb dX12_laysSeen_59 (zgenE (lo := 0) (hi := 32) (zI.mul (zI.lit (a := 8) (b := 8) (c := 8) (by decide)) hw14_1 (by decide)) (fun v12 ev12 hv12 => ?_))
        have hE := zletE ev12 hE
        refine lv_iload_n hx hb dX12_laysSeen_60 rfl (lv_at hl 3 rfl) ?_
        refine lv_iadd hx hb dX12_laysSeen_61 (zgenE (lo := 0) (hi := 39) (zI.add hv12 k3 (by decide)) (fun v13 ev13 hv13 => ?_))
        have hE := zletE ev13 hE
        refine mzald hx hb hK hw 32 mWg31 hv13 (by decide) dX12_laysSeen_62 (zgenE (lo := 0) (hi := 1) ((show zI 0 1 (r9 31 _) from pr9.1.i 31 _)) (fun v14 ev14 hv14 => ?_))
        have hE := zletE ev14 hE
        refine mzast hx hb hK hw hS 32 mWg31 hv11 (by decide)  hv14 dX12_laysSeen_63 (mW ct h0 y (zset r9 31 (upd (r9 31) (zn v11) v14)) q) mWs31 (fun H locs hw hS => ?_)
        refine mgen (P := fun x => mJ B x ∧ zFr [29, 30, 31] r x) hw ⟨pr9.1.set rfl hv14, pr9.2.set rfl⟩ (fun r15 er15 hw pr15 => ?_)
        have hE := zletE er15 hE
        refine lv_iinc (v := w14_3 + 1) (lv' := [(3, .int (w14_3 + 1)), (0, .ref h0), (1, .int a1), (2, .int a2)]) hx hb dX12_laysSeen_64 hl (k := 3) rfl (rfl) (by decide) rfl (fun ls hl => ?_)
        have k16 : zI 1 8 (w14_3 + 1) := zI.add k3 (zI.lit (a := 1) (b := 1) (by decide)) (by decide)
        refine lv_goto (tgt := 14) hx hb dX12_laysSeen_67 (by decide) ?_
        exact ih14 (w14_3 + 1) r15 hw14_1 hw14_2 (k16.w (c := 0) (d := 8) (by decide)) pr15.1 pr15.2 hE (zI.up k3 (by decide) hm14) H locs ls hw hS (lv_sub hl [1, 2, 3, 0] rfl)
  intro H locs hw hS ls hl
  have hl : lv_has ls 4 [(0, .ref h0), (1, .int a1), (2, .int a2)] := hl
  have hE := hX
  unfold Gm_laysSeen at hE
  refine lv_aload_n hx hb dX12_laysSeen_0 rfl (lv_at hl 0 rfl) ?_
  refine mget (v := .ref (y 29)) hx hb hts hiX12 hown hK hw 42 (by decide) lf99 rfl rfl dX12_laysSeen_1 ?_
  refine lv_iload_n hx hb dX12_laysSeen_4 rfl (lv_at hl 2 rfl) ?_
  refine lv_aload_n hx hb dX12_laysSeen_5 rfl (lv_at hl 0 rfl) ?_
  refine mget (v := .ref (y 29)) hx hb hts hiX12 hown hK hw 42 (by decide) lf99 rfl rfl dX12_laysSeen_6 ?_
  refine lv_iload_n hx hb dX12_laysSeen_9 rfl (lv_at hl 1 rfl) ?_
  refine miald hx hb hK hw 30 mWg29 g1 (by decide) dX12_laysSeen_10 (zgenE (lo := 0) (hi := 8) ((show zI 0 8 (r 29 _) from hJ0.i 29 _)) (fun v17 ev17 hv17 => ?_))
  have hE := zletE ev17 hE
  refine miast hx hb hK hw hS 30 mWg29 g2 (by decide) dX12_laysSeen_11 (mW ct h0 y (zset r 29 (upd (r 29) (zn a2) v17)) q) mWs29 (fun H locs hw hS => ?_)
  refine mgen (P := fun x => mJ B x ∧ zFr [29, 30, 31] r x) hw ⟨hJ0.set rfl hv17, (zFr.refl).set rfl⟩ (fun r18 er18 hw pr18 => ?_)
  have hE := zletE er18 hE
  refine lv_iconst (v := 0) hx hb dX12_laysSeen_12 (by decide) ?_
  refine lv_istore_n (lv' := [(3, .int 0), (0, .ref h0), (1, .int a1), (2, .int a2)]) hx hb dX12_laysSeen_13 rfl hl (by decide) rfl (fun ls hl => ?_)
  exact cut14 9 0 r18 g1 g2 ((zI.lit (a := 0) (b := 0) (c := 0) (by decide)).w (c := 0) (d := 8) (by decide)) pr18.1 pr18.2 hE (zI.m0 (zI.lit (a := 0) (b := 0) (c := 0) (by decide)) (by decide)) H locs ls hw hS (lv_sub hl [1, 2, 3, 0] rfl)

noncomputable def Gm_mark_29 (a1 : Int32) (a2 : Int32) (q : zRq) (rw29 : zRr) : Int32 × zRr :=
  zlet (α := zRr) (zset rw29 37 (upd (rw29 37) (zn a1) (1 : Int32))) <| fun r1 => zif (a2 = (0 : Int32)) (zif (a2 = (0 : Int32)) (zlet (α := Int32) (1 + a1) <| fun v5 => zlet (α := zRr) ((Gm_laysLines (0 : Int32) v5 r1 q)) <| fun u6 => zlet (α := zRr) ((Gm_laysSeen (0 : Int32) v5 u6 q)) <| fun u8 => zif (a2 = (0 : Int32)) (zlet (α := zRr) (zset u8 35 (zcp (u8 32) (u8 35) (0) (zn (31 * a1)) 31)) <| fun r12 => ((1 : Int32), r12)) (default)) (default)) (zlet (α := Int32) (1 + a1) <| fun v14 => zif (a2 = (0 : Int32)) (default) (zlet (α := zRr) ((Gm_laysLines v14 (0 : Int32) r1 q)) <| fun u16 => zlet (α := zRr) ((Gm_laysSeen v14 (0 : Int32) u16 q)) <| fun u18 => zif (a2 = (0 : Int32)) (default) (zlet (α := zRr) (zset u18 32 (zcp (u18 35) (u18 32) (zn (31 * a1)) (0) 31)) <| fun r22 => zlet (α := zRr) (zset r22 151 (fun _ => (0 : Int32))) <| fun r23 => ((1 : Int32), r23))))
noncomputable def Gm_mark (a1 : Int32) (a2 : Int32) (r : zRr) (q : zRq) : Int32 × zRr :=
  zlet (α := zRr) (zset r 100 (fun _ => (0 : Int32))) <| fun r24 => zlet (α := Int32) ((Gm_within a1 (0 : Int32) (3 : Int32))) <| fun u25 => zif (u25 = (0 : Int32)) (((0 : Int32), r24)) (zif (a2 = (0 : Int32)) (Gm_mark_29 a1 a2 q r24) (zlet (α := Int32) (r24 37 (zn a1)) <| fun v35 => zifn (v35 = (0 : Int32)) (Gm_mark_29 a1 a2 q r24) (((0 : Int32), r24))))
set_option maxHeartbeats 4000000 in
set_option maxRecDepth 100000 in
theorem mc_mark (l : Launch) (D : va_G) (ct : Nat → ClassId) (h0 : Nat) (y : Nat → Nat) (a1 : Int32) (a2 : Int32) (r : zRr) (q : zRq) (g2 : zI 0 1 a2) (hJ0 : mJ 20 r) : zC l yX12_mark (.code yX12_mark cX12_mark 5 (some .boolean) :: wsL_law0) ({ frames := 2, cells := 0, slots := 0, locals := 120 }) D ct [] [.ref h0, .int a1, .int a2] (mW ct h0 y r q) (S := Int32 × zRr) (fun u => some (.int u.1)) (fun u => zI 0 1 u.1 ∧ mJ 20 u.2 ∧ zFr [100, 37, 25, 26, 27, 28, 29, 30, 31, 32, 151, 35] r u.2 ∧ u = (Gm_mark a1 a2 r q) ∧ True) (fun u => mW ct h0 y u.2 q) 0 0 := by
  refine zofQ cX12_mark 5 (some .boolean) (by decide) rfl (Nat.le_of_ble_eq_true rfl) ?_
  intro p e s m below meth c A a9 Q ha9 hx hb hr hml hts hown hlocks hname hK hA hZ hN hQ
  have hown : s.vm.findClass RX12 = some m.cls := hown
  have hiX12 : ∀ w ∈ wsX120, w ∈ .code yX12_mark cX12_mark 5 (some .boolean) :: wsL_law0 := fun _ h => ki (zs_wsX120 _ h)
  have lf108 := hts (.fieldLink RX12 108 "BeardPassModel" "s" "[I") (ki (zr9 4 rfl))
  have lf117 := hts (.fieldLink RX12 117 "BeardPassModel" "marked" "[I") (ki (zr9 7 rfl))
  have lf123 := hts (.fieldLink RX12 123 "BeardPassModel" "isLaid" "[Z") (ki (zr9 9 rfl))
  have lf129 := hts (.fieldLink RX12 129 "BeardPassModel" "thrown" "I") (ki (zr10 1 rfl))
  have lf336 := hts (.fieldLink RX12 336 "BeardPassModel" "done" "I") (ki (zr21 17 rfl))
  obtain ⟨X, hX⟩ : ∃ X, X = (Gm_mark a1 a2 r q) := ⟨_, rfl⟩
  have cut29 : ∀ (rw29 : zRr) (hw29_1 : zI 0 3 a1) (hw29_2 : zI 0 1 a2) (jw29 : mJ 20 rw29) (fw29 : zFr [100, 37, 25, 26, 27, 28, 29, 30, 31, 32, 151, 35] r rw29) (hE : X = Gm_mark_29 a1 a2 q rw29), zKf p l e ({ frames := 2, cells := 0, slots := 0, locals := 120 }) s m a9 below meth c Q D A 29 5 [] (mW ct h0 y rw29 q) [(0, .ref h0), (1, .int a1), (2, .int a2)] := by
    intro rw29 hw29_1 hw29_2 jw29 fw29 hE H locs ls hw hS hl
    unfold Gm_mark_29 at hE
    refine lv_aload_n hx hb dX12_mark_29 rfl (lv_at hl 0 rfl) ?_
    refine mget (v := .ref (y 37)) hx hb hts hiX12 hown hK hw 50 (by decide) lf123 rfl rfl dX12_mark_30 ?_
    refine lv_iload_n hx hb dX12_mark_33 rfl (lv_at hl 1 rfl) ?_
    refine lv_iconst (v := 1) hx hb dX12_mark_34 (by decide) ?_
    refine mzast hx hb hK hw hS 38 mWg37 hw29_1 (by decide)  ((zI.lit (a := 1) (b := 1) (c := 1) (by decide)).w (c := 0) (d := 1) (by decide)) dX12_mark_35 (mW ct h0 y (zset rw29 37 (upd (rw29 37) (zn a1) (1 : Int32))) q) mWs37 (fun H locs hw hS => ?_)
    refine mgen (P := fun x => mJ 20 x ∧ zFr [100, 37, 25, 26, 27, 28, 29, 30, 31, 32, 151, 35] r x) hw ⟨jw29.set rfl ((zI.lit (a := 1) (b := 1) (c := 1) (by decide)).w (c := 0) (d := 1) (by decide)), fw29.set rfl⟩ (fun r1 er1 hw pr1 => ?_)
    have hE := zletE er1 hE
    refine lv_iload_n hx hb dX12_mark_36 rfl (lv_at hl 2 rfl) ?_
    refine lv_if_eq (tgt := 46) hx hb dX12_mark_37 (by decide) (fun c2 => ?_) (fun c2 => ?_)
    · have hE := zifT c2 hE
      have k3 : zI 0 0 (a2) := zI.eqq c2 (zI.lit (a := 0) (b := 0) (c := 0) (by decide))
      refine lv_iconst (v := 0) hx hb dX12_mark_46 (by decide) ?_
      refine lv_istore_n (lv' := [(3, .int 0), (0, .ref h0), (1, .int a1), (2, .int a2)]) hx hb dX12_mark_47 rfl hl (by decide) rfl (fun ls hl => ?_)
      refine lv_iload_n hx hb dX12_mark_48 rfl (lv_at hl 3 rfl) ?_
      refine lv_if_eq (tgt := 56) hx hb dX12_mark_49 (by decide) (fun c4 => ?_) (fun c4 => ?_)
      · have hE := zifT c4 hE
        refine lv_iconst (v := 1) hx hb dX12_mark_56 (by decide) ?_
        refine lv_iload_n hx hb dX12_mark_57 rfl (lv_at hl 2 rfl) ?_
        refine lv_iadd hx hb dX12_mark_58 (zgenE (lo := 1) (hi := 4) (zI.add (zI.lit (a := 1) (b := 1) (c := 1) (by decide)) hw29_1 (by decide)) (fun v5 ev5 hv5 => ?_))
        have hE := zletE ev5 hE
        refine lv_istore (lv' := [(4, .int v5), (3, .int 0), (0, .ref h0), (1, .int a1), (2, .int a2)]) hx hb dX12_mark_59 hl (by decide) rfl (fun ls hl => ?_)
        refine lv_aload_n hx hb dX12_mark_61 rfl (lv_at hl 2 rfl) ?_
        refine lv_iload_n hx hb dX12_mark_62 rfl (lv_at hl 1 rfl) ?_
        refine lv_iload hx hb dX12_mark_63 (lv_at hl 0 rfl) ?_
        refine mcallV (As := [.int 0, .int v5]) (rest := []) ⟨hx, hb, hml, hown, hts⟩ (mc_laysLines l D ct h0 y 20 0 v5 r1 q ((zI.lit (a := 0) (b := 0) (c := 0) (by decide)).w (c := 0) (d := 5) (by decide)) (hv5.w (c := 0) (d := 5) (by decide)) pr1.1 (zn_ne (zI.lit (a := 0) (b := 0) (c := 0) (by decide)) hv5 (by decide))) (wqX12_342_mc_laysLines hts ⟨Nat.le_of_ble_eq_true rfl, Nat.le_of_ble_eq_true rfl⟩) hw hS hA hK hN rfl hl.1 rfl (Nat.le_of_ble_eq_true rfl) dX12_mark_65 68 rfl (fun u6 H locs pu6 hw hS => ?_)
        have ju6 : mJ 20 u6 := pu6.1
        have fu6 : zFr [25, 26, 27, 28] r1 u6 := pu6.2.1
        have xu6 : u6 = (Gm_laysLines (0 : Int32) v5 r1 q) := pu6.2.2.1
        have hE := zletE xu6 hE
        have hw : zPD D A (mW ct h0 y u6 q) H := hw
        refine zfr 68 [] rfl rfl ?_
        refine lv_aload_n hx hb dX12_mark_68 rfl (lv_at hl 2 rfl) ?_
        refine lv_iload_n hx hb dX12_mark_69 rfl (lv_at hl 1 rfl) ?_
        refine lv_iload hx hb dX12_mark_70 (lv_at hl 0 rfl) ?_
        refine mcallV (As := [.int 0, .int v5]) (rest := []) ⟨hx, hb, hml, hown, hts⟩ (mc_laysSeen l D ct h0 y 20 0 v5 u6 q ((zI.lit (a := 0) (b := 0) (c := 0) (by decide)).w (c := 0) (d := 4) (by decide)) (hv5.w (c := 0) (d := 4) (by decide)) ju6) (wqX12_480_mc_laysSeen hts ⟨Nat.le_of_ble_eq_true rfl, Nat.le_of_ble_eq_true rfl⟩) hw hS hA hK hN rfl hl.1 rfl (Nat.le_of_ble_eq_true rfl) dX12_mark_72 75 rfl (fun u8 H locs pu8 hw hS => ?_)
        have ju8 : mJ 20 u8 := pu8.1
        have fu8 : zFr [29, 30, 31] u6 u8 := pu8.2.1
        have xu8 : u8 = (Gm_laysSeen (0 : Int32) v5 u6 q) := pu8.2.2.1
        have hE := zletE xu8 hE
        have hw : zPD D A (mW ct h0 y u8 q) H := hw
        refine zfr 75 [] rfl rfl ?_
        refine lv_iload_n hx hb dX12_mark_75 rfl (lv_at hl 4 rfl) ?_
        refine lv_if_eq (tgt := 103) hx hb dX12_mark_76 (by decide) (fun c10 => ?_) (fun c10 => ?_)
        · have hE := zifT c10 hE
          refine lv_aload_n hx hb dX12_mark_103 rfl (lv_at hl 2 rfl) ?_
          refine mget (v := .ref (y 32)) hx hb hts hiX12 hown hK hw 45 (by decide) lf108 rfl rfl dX12_mark_104 ?_
          refine lv_iconst (v := 0) hx hb dX12_mark_107 (by decide) ?_
          refine lv_aload_n hx hb dX12_mark_108 rfl (lv_at hl 2 rfl) ?_
          refine mget (v := .ref (y 35)) hx hb hts hiX12 hown hK hw 48 (by decide) lf117 rfl rfl dX12_mark_109 ?_
          refine lv_bipush (v := 31) hx hb dX12_mark_112 (by decide) ?_
          refine lv_iload_n hx hb dX12_mark_114 rfl (lv_at hl 3 rfl) ?_
          refine lv_imul hx hb dX12_mark_115 ?_
          have k11 : zI 0 93 (31 * a1) := zI.mul (zI.lit (a := 31) (b := 31) (c := 31) (by decide)) hw29_1 (by decide)
          refine zfr 116 [.int (nI (zn (31 * a1))), .ref (y 35), .int 0, .ref (y 32)] rfl (congrArg (fun x => ([.int x, .ref (y 35), .int 0, .ref (y 32)] : List Value)) (zI.ix (n := 466) k11 (by decide)).1) ?_
          refine mcp2 33 36 (As := [.ref (y 32), .int 0, .ref (y 35), .int (nI (zn (31 * a1)))]) (rest := []) ⟨hx, hb, hml, hown, hts⟩ (c_copies l D ct (y 32) (0) (y 35) (zn (31 * a1)) 31 124 (u8 32) (u8 35) (by decide) (by have h9 := (k11).nn (by decide); omega) (by decide) (by decide)) (va_cwS 4 hts (kgSm (zr36 17 rfl) (zr36 18 rfl) (zr1 5 rfl) mL_X12_copies) rfl rfl rfl (by decide +kernel) ⟨Nat.le_of_ble_eq_true rfl, Nat.le_of_ble_eq_true rfl⟩) hw hS hA hK hN mWg32 mWg35 rfl rfl (by decide) rfl hl.1 rfl (Nat.le_of_ble_eq_true rfl) dX12_mark_116 mWs35 (fun _ H locs _ hw hS => ?_)
          have hw : zPD D A (mW ct h0 y (zset u8 35 (zcp (u8 32) (u8 35) (0) (zn (31 * a1)) 31)) q) H := hw
          refine zfr 119 [] rfl rfl ?_
          refine mgen (P := fun x => mJ 20 x ∧ zFr [100, 37, 25, 26, 27, 28, 29, 30, 31, 32, 151, 35] r x) hw ⟨mcp_o ju8 (Or.inr ⟨Or.inl rfl, zn31 hw29_1 (by decide)⟩) rfl, ((pr1.2.tr fu6 rfl).tr fu8 rfl).set rfl⟩ (fun r12 er12 hw pr12 => ?_)
          have hE := zletE er12 hE
          refine lv_iconst (v := 1) hx hb dX12_mark_119 (by decide) ?_
          exact ziretQ hQ hx hb hr rfl hlocks (1, r12) rfl ⟨((zI.lit (a := 1) (b := 1) (c := 1) (by decide)).w (c := 0) (d := 1) (by decide)), pr12.1, pr12.2, (hE.symm.trans hX), trivial⟩ hw hS dX12_mark_120
        · have hE := zifF c10 hE
          exact zI.abs (a := 1) (b := 0) (zI.neD c10 k3 (zI.lit (a := 0) (b := 0) (c := 0) (by decide)) (by decide)) (by decide)
      · have hE := zifF c4 hE
        exact zI.abs (a := 1) (b := 0) (zI.neD c4 k3 (zI.lit (a := 0) (b := 0) (c := 0) (by decide)) (by decide)) (by decide)
    · have hE := zifF c2 hE
      have k13 : zI 1 1 (a2) := zI.neD c2 hw29_2 (zI.lit (a := 0) (b := 0) (c := 0) (by decide)) (by decide)
      refine lv_iconst (v := 1) hx hb dX12_mark_40 (by decide) ?_
      refine lv_iload_n hx hb dX12_mark_41 rfl (lv_at hl 1 rfl) ?_
      refine lv_iadd hx hb dX12_mark_42 (zgenE (lo := 1) (hi := 4) (zI.add (zI.lit (a := 1) (b := 1) (c := 1) (by decide)) hw29_1 (by decide)) (fun v14 ev14 hv14 => ?_))
      have hE := zletE ev14 hE
      refine lv_goto (tgt := 47) hx hb dX12_mark_43 (by decide) ?_
      refine lv_istore_n (lv' := [(3, .int v14), (0, .ref h0), (1, .int a1), (2, .int a2)]) hx hb dX12_mark_47 rfl hl (by decide) rfl (fun ls hl => ?_)
      refine lv_iload_n hx hb dX12_mark_48 rfl (lv_at hl 3 rfl) ?_
      refine lv_if_eq (tgt := 56) hx hb dX12_mark_49 (by decide) (fun c15 => ?_) (fun c15 => ?_)
      · have hE := zifT c15 hE
        exact absurd (congrArg Int32.toInt c15) (by have := k13.1; have := (zI.lit (a := 0) (b := 0) (c := 0) (by decide)).2; omega)
      · have hE := zifF c15 hE
        refine lv_iconst (v := 0) hx hb dX12_mark_52 (by decide) ?_
        refine lv_goto (tgt := 59) hx hb dX12_mark_53 (by decide) ?_
        refine lv_istore (lv' := [(4, .int 0), (3, .int v14), (0, .ref h0), (1, .int a1), (2, .int a2)]) hx hb dX12_mark_59 hl (by decide) rfl (fun ls hl => ?_)
        refine lv_aload_n hx hb dX12_mark_61 rfl (lv_at hl 2 rfl) ?_
        refine lv_iload_n hx hb dX12_mark_62 rfl (lv_at hl 1 rfl) ?_
        refine lv_iload hx hb dX12_mark_63 (lv_at hl 0 rfl) ?_
        refine mcallV (As := [.int v14, .int 0]) (rest := []) ⟨hx, hb, hml, hown, hts⟩ (mc_laysLines l D ct h0 y 20 v14 0 r1 q (hv14.w (c := 0) (d := 5) (by decide)) ((zI.lit (a := 0) (b := 0) (c := 0) (by decide)).w (c := 0) (d := 5) (by decide)) pr1.1 (zn_ne hv14 (zI.lit (a := 0) (b := 0) (c := 0) (by decide)) (by decide))) (wqX12_342_mc_laysLines hts ⟨Nat.le_of_ble_eq_true rfl, Nat.le_of_ble_eq_true rfl⟩) hw hS hA hK hN rfl hl.1 rfl (Nat.le_of_ble_eq_true rfl) dX12_mark_65 68 rfl (fun u16 H locs pu16 hw hS => ?_)
        have ju16 : mJ 20 u16 := pu16.1
        have fu16 : zFr [25, 26, 27, 28] r1 u16 := pu16.2.1
        have xu16 : u16 = (Gm_laysLines v14 (0 : Int32) r1 q) := pu16.2.2.1
        have hE := zletE xu16 hE
        have hw : zPD D A (mW ct h0 y u16 q) H := hw
        refine zfr 68 [] rfl rfl ?_
        refine lv_aload_n hx hb dX12_mark_68 rfl (lv_at hl 2 rfl) ?_
        refine lv_iload_n hx hb dX12_mark_69 rfl (lv_at hl 1 rfl) ?_
        refine lv_iload hx hb dX12_mark_70 (lv_at hl 0 rfl) ?_
        refine mcallV (As := [.int v14, .int 0]) (rest := []) ⟨hx, hb, hml, hown, hts⟩ (mc_laysSeen l D ct h0 y 20 v14 0 u16 q (hv14.w (c := 0) (d := 4) (by decide)) ((zI.lit (a := 0) (b := 0) (c := 0) (by decide)).w (c := 0) (d := 4) (by decide)) ju16) (wqX12_480_mc_laysSeen hts ⟨Nat.le_of_ble_eq_true rfl, Nat.le_of_ble_eq_true rfl⟩) hw hS hA hK hN rfl hl.1 rfl (Nat.le_of_ble_eq_true rfl) dX12_mark_72 75 rfl (fun u18 H locs pu18 hw hS => ?_)
        have ju18 : mJ 20 u18 := pu18.1
        have fu18 : zFr [29, 30, 31] u16 u18 := pu18.2.1
        have xu18 : u18 = (Gm_laysSeen v14 (0 : Int32) u16 q) := pu18.2.2.1
        have hE := zletE xu18 hE
        have hw : zPD D A (mW ct h0 y u18 q) H := hw
        refine zfr 75 [] rfl rfl ?_
        refine lv_iload_n hx hb dX12_mark_75 rfl (lv_at hl 4 rfl) ?_
        refine lv_if_eq (tgt := 103) hx hb dX12_mark_76 (by decide) (fun c20 => ?_) (fun c20 => ?_)
        · have hE := zifT c20 hE
          exact absurd (congrArg Int32.toInt c20) (by have := k13.1; have := (zI.lit (a := 0) (b := 0) (c := 0) (by decide)).2; omega)
        · have hE := zifF c20 hE
          refine lv_aload_n hx hb dX12_mark_79 rfl (lv_at hl 2 rfl) ?_
          refine mget (v := .ref (y 35)) hx hb hts hiX12 hown hK hw 48 (by decide) lf117 rfl rfl dX12_mark_80 ?_
          refine lv_bipush (v := 31) hx hb dX12_mark_83 (by decide) ?_
          refine lv_iload_n hx hb dX12_mark_85 rfl (lv_at hl 3 rfl) ?_
          refine lv_imul hx hb dX12_mark_86 ?_
          have k21 : zI 0 93 (31 * a1) := zI.mul (zI.lit (a := 31) (b := 31) (c := 31) (by decide)) hw29_1 (by decide)
          refine lv_aload_n hx hb dX12_mark_87 rfl (lv_at hl 2 rfl) ?_
          refine mget (v := .ref (y 32)) hx hb hts hiX12 hown hK hw 45 (by decide) lf108 rfl rfl dX12_mark_88 ?_
          refine lv_iconst (v := 0) hx hb dX12_mark_91 (by decide) ?_
          refine zfr 92 [.int 0, .ref (y 32), .int (nI (zn (31 * a1))), .ref (y 35)] rfl (congrArg (fun x => ([.int 0, .ref (y 32), .int x, .ref (y 35)] : List Value)) (zI.ix (n := 466) k21 (by decide)).1) ?_
          refine mcp2 36 33 (As := [.ref (y 35), .int (nI (zn (31 * a1))), .ref (y 32), .int 0]) (rest := []) ⟨hx, hb, hml, hown, hts⟩ (c_copies l D ct (y 35) (zn (31 * a1)) (y 32) (0) 124 31 (u18 35) (u18 32) (by have h9 := (k21).nn (by decide); omega) (by decide) (by decide) (by decide)) (va_cwS 4 hts (kgSm (zr36 17 rfl) (zr36 18 rfl) (zr1 5 rfl) mL_X12_copies) rfl rfl rfl (by decide +kernel) ⟨Nat.le_of_ble_eq_true rfl, Nat.le_of_ble_eq_true rfl⟩) hw hS hA hK hN mWg35 mWg32 rfl rfl (by decide) rfl hl.1 rfl (Nat.le_of_ble_eq_true rfl) dX12_mark_92 mWs32 (fun _ H locs _ hw hS => ?_)
          have hw : zPD D A (mW ct h0 y (zset u18 32 (zcp (u18 35) (u18 32) (zn (31 * a1)) (0) 31)) q) H := hw
          refine zfr 95 [] rfl rfl ?_
          refine mgen (P := fun x => mJ 20 x ∧ zFr [100, 37, 25, 26, 27, 28, 29, 30, 31, 32, 151, 35] r x) hw ⟨mcp_s ju18 (Or.inr ⟨Or.inl rfl, zn31 hw29_1 (by decide)⟩), ((pr1.2.tr fu16 rfl).tr fu18 rfl).set rfl⟩ (fun r22 er22 hw pr22 => ?_)
          have hE := zletE er22 hE
          refine lv_aload_n hx hb dX12_mark_95 rfl (lv_at hl 2 rfl) ?_
          refine lv_iconst (v := 0) hx hb dX12_mark_96 (by decide) ?_
          refine mput (ty := .int) (v := .int 0) hx hb hts hiX12 hown hK hw hS 51 (by decide) lf336 rfl rfl (by decide +kernel) rfl rfl dX12_mark_97 (zset r22 151 (fun _ => (0 : Int32))) _ mWf51 (fun H locs hw hS => ?_)
          refine mgen (P := fun x => mJ 20 x ∧ zFr [100, 37, 25, 26, 27, 28, 29, 30, 31, 32, 151, 35] r x) hw ⟨pr22.1.setc rfl (fun _ => ((zI.lit (a := 0) (b := 0) (c := 0) (by decide)).w (c := 0) (d := 16) (by decide))), pr22.2.set rfl⟩ (fun r23 er23 hw pr23 => ?_)
          have hE := zletE er23 hE
          refine lv_goto (tgt := 119) hx hb dX12_mark_100 (by decide) ?_
          refine lv_iconst (v := 1) hx hb dX12_mark_119 (by decide) ?_
          exact ziretQ hQ hx hb hr rfl hlocks (1, r23) rfl ⟨((zI.lit (a := 1) (b := 1) (c := 1) (by decide)).w (c := 0) (d := 1) (by decide)), pr23.1, pr23.2, (hE.symm.trans hX), trivial⟩ hw hS dX12_mark_120
  intro H locs hw hS ls hl
  have hl : lv_has ls 5 [(0, .ref h0), (1, .int a1), (2, .int a2)] := hl
  have hE := hX
  unfold Gm_mark at hE
  refine lv_aload_n hx hb dX12_mark_0 rfl (lv_at hl 0 rfl) ?_
  refine lv_iconst (v := 0) hx hb dX12_mark_1 (by decide) ?_
  refine mput (ty := .int) (v := .int 0) hx hb hts hiX12 hown hK hw hS 0 (by decide) lf129 rfl rfl (by decide +kernel) rfl rfl dX12_mark_2 (zset r 100 (fun _ => (0 : Int32))) _ mWf0 (fun H locs hw hS => ?_)
  refine mgen (P := fun x => mJ 20 x ∧ zFr [100, 37, 25, 26, 27, 28, 29, 30, 31, 32, 151, 35] r x) hw ⟨hJ0.setc rfl (fun _ => (zI.top _)), (zFr.refl).set rfl⟩ (fun r24 er24 hw pr24 => ?_)
  have hE := zletE er24 hE
  refine lv_iload_n hx hb dX12_mark_5 rfl (lv_at hl 1 rfl) ?_
  refine lv_iconst (v := 0) hx hb dX12_mark_6 (by decide) ?_
  refine lv_iconst (v := 3) hx hb dX12_mark_7 (by decide) ?_
  refine scallE (As := [.int a1, .int 0, .int 3]) (rest := []) ⟨hx, hb, hml, hown, hts⟩ (mc_within l D ct a1 0 3) (va_cwS 3 hts (kgS (zr25 11 rfl) (zr25 12 rfl) (zr1 5 rfl) (zr25 13 rfl)) rfl rfl rfl (by decide +kernel) ⟨Nat.le_of_ble_eq_true rfl, Nat.le_of_ble_eq_true rfl⟩) hw hS hA hK hN mWn rfl hl.1 rfl (Nat.le_of_ble_eq_true rfl) dX12_mark_8 11 rfl (fun u25 H locs pu25 hw hS => ?_)
  have hu25 : zI 0 1 u25 := pu25.1
  have yu25_0 : ¬ u25 = 0 → (0 : Int32) ≤ a1 ∧ a1 ≤ (3 : Int32) := pu25.2.1
  have xu25 : u25 = (Gm_within a1 (0 : Int32) (3 : Int32)) := pu25.2.2.1
  have hE := zletE xu25 hE
  refine zfr 11 [.int u25] rfl rfl ?_
  refine lv_if_eq (tgt := 27) hx hb dX12_mark_11 (by decide) (fun c27 => ?_) (fun c27 => ?_)
  · have hE := zifT c27 hE
    have k28 : zI 0 0 (u25) := zI.eqq c27 (zI.lit (a := 0) (b := 0) (c := 0) (by decide))
    refine lv_iconst (v := 0) hx hb dX12_mark_27 (by decide) ?_
    exact ziretQ hQ hx hb hr rfl hlocks (0, r24) rfl ⟨((zI.lit (a := 0) (b := 0) (c := 0) (by decide)).w (c := 0) (d := 1) (by decide)), pr24.1, pr24.2, (hE.symm.trans hX), trivial⟩ hw hS dX12_mark_28
  · have hE := zifF c27 hE
    have k29 : zI 1 1 (u25) := zI.neD c27 hu25 (zI.lit (a := 0) (b := 0) (c := 0) (by decide)) (by decide)
    have k30 : zI 0 2147483647 (a1) := zI.leD (yu25_0 c27).1 (zI.lit (a := 0) (b := 0) (c := 0) (by decide)) (zI.top _) (by decide)
    have k31 : zI 0 3 (a1) := zI.leU (yu25_0 c27).2 k30 (zI.lit (a := 3) (b := 3) (c := 3) (by decide)) (by decide)
    refine lv_iload_n hx hb dX12_mark_14 rfl (lv_at hl 2 rfl) ?_
    refine lv_if_eq (tgt := 29) hx hb dX12_mark_15 (by decide) (fun c32 => ?_) (fun c32 => ?_)
    · have hE := zifT c32 hE
      have k33 : zI 0 0 (a2) := zI.eqq c32 (zI.lit (a := 0) (b := 0) (c := 0) (by decide))
      exact cut29 r24 k31 (k33.w (c := 0) (d := 1) (by decide)) pr24.1 pr24.2 hE H locs ls hw hS (lv_sub hl [0, 1, 2] rfl)
    · have hE := zifF c32 hE
      have k34 : zI 1 1 (a2) := zI.neD c32 g2 (zI.lit (a := 0) (b := 0) (c := 0) (by decide)) (by decide)
      refine lv_aload_n hx hb dX12_mark_18 rfl (lv_at hl 0 rfl) ?_
      refine mget (v := .ref (y 37)) hx hb hts hiX12 hown hK hw 50 (by decide) lf123 rfl rfl dX12_mark_19 ?_
      refine lv_iload_n hx hb dX12_mark_22 rfl (lv_at hl 1 rfl) ?_
      refine mzald hx hb hK hw 38 mWg37 k31 (by decide) dX12_mark_23 (zgenE (lo := 0) (hi := 1) ((show zI 0 1 (r24 37 _) from pr24.1.i 37 _)) (fun v35 ev35 hv35 => ?_))
      have hE := zletE ev35 hE
      refine lv_if_ne (tgt := 29) hx hb dX12_mark_24 (by decide) (fun c36 => ?_) (fun c36 => ?_)
      · have hE := zifnT c36 hE
        have k37 : zI 1 1 (v35) := zI.neD c36 hv35 (zI.lit (a := 0) (b := 0) (c := 0) (by decide)) (by decide)
        exact cut29 r24 k31 (k34.w (c := 0) (d := 1) (by decide)) pr24.1 pr24.2 hE H locs ls hw hS (lv_sub hl [0, 1, 2] rfl)
      · have hE := zifnF c36 hE
        have k38 : zI 0 0 (v35) := zI.eqq c36 (zI.lit (a := 0) (b := 0) (c := 0) (by decide))
        refine lv_iconst (v := 0) hx hb dX12_mark_27 (by decide) ?_
        exact ziretQ hQ hx hb hr rfl hlocks (0, r24) rfl ⟨((zI.lit (a := 0) (b := 0) (c := 0) (by decide)).w (c := 0) (d := 1) (by decide)), pr24.1, pr24.2, (hE.symm.trans hX), trivial⟩ hw hS dX12_mark_28
