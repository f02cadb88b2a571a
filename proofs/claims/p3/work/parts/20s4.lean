noncomputable def Bm_fresh0_23 (ih23 : Int32 → zRr → zRr) (w23_1 : Int32) (rw23 : zRr) : zRr :=
  zlet (α := Int32) (rw23 1 1) <| fun v1 => zif (v1 ≤ w23_1) (rw23) (zlet (α := Int32) (1 + w23_1) <| fun v5 => zlet (α := Int32) (rw23 7 (zn w23_1)) <| fun v6 => zlet (α := zRr) (zset rw23 32 (upd (rw23 32) (zn v5) v6)) <| fun r7 => zlet (α := Int32) (7 + w23_1) <| fun v8 => zlet (α := Int32) (r7 8 (zn w23_1)) <| fun v9 => zlet (α := zRr) (zset r7 32 (upd (r7 32) (zn v8) v9)) <| fun r10 => zlet (α := Int32) (19 + w23_1) <| fun v11 => zlet (α := Int32) (r10 9 (zn w23_1)) <| fun v12 => zlet (α := zRr) (zset r10 32 (upd (r10 32) (zn v11) v12)) <| fun r13 => zlet (α := Int32) (25 + w23_1) <| fun v14 => zlet (α := Int32) (r13 7 (zn w23_1)) <| fun v15 => zlet (α := Int32) (1 <<< (v15 &&& 31)) <| fun v16 => zlet (α := zRr) (zset r13 32 (upd (r13 32) (zn v14) v16)) <| fun r17 => ih23 (w23_1 + 1) r17)
noncomputable def Gm_fresh0_23 (n : Nat) : Int32 → zRr → zRr :=
  Nat.rec (motive := fun _ => Int32 → zRr → zRr) (fun _ rw23 => rw23) (fun _ ih => Bm_fresh0_23 ih) n
noncomputable def Bm_fresh0_2 (ih2 : Int32 → zRr → zRr) (w2_1 : Int32) (rw2 : zRr) : zRr :=
  zif ((31 : Int32) ≤ w2_1) (Gm_fresh0_23 7 0 rw2) (zlet (α := zRr) (zset rw2 32 (upd (rw2 32) (zn w2_1) (0 : Int32))) <| fun r22 => ih2 (w2_1 + 1) r22)
noncomputable def Gm_fresh0_2 (n : Nat) : Int32 → zRr → zRr :=
  Nat.rec (motive := fun _ => Int32 → zRr → zRr) (fun _ rw2 => rw2) (fun _ ih => Bm_fresh0_2 ih) n
noncomputable def Gm_fresh0 (r : zRr) (q : zRq) : zRr :=
  Gm_fresh0_2 32 0 r
set_option maxHeartbeats 4000000 in
set_option maxRecDepth 100000 in
theorem mc_fresh0 (l : Launch) (D : va_G) (ct : Nat → ClassId) (h0 : Nat) (y : Nat → Nat) (B : Int) (r : zRr) (q : zRq) (hJ0 : mJ B r) : zC l yX12_fresh0 (.code yX12_fresh0 cX12_fresh0 2 none :: wsL_law0) ({ frames := 1, cells := 0, slots := 0, locals := 80 }) D ct [] [.ref h0] (mW ct h0 y r q) (S := zRr) (fun u => none) (fun u => mJ B u ∧ zFr [32] r u ∧ u = (Gm_fresh0 r q) ∧ True) (fun u => mW ct h0 y u q) 0 0 := by
  refine zofQ cX12_fresh0 2 none (by decide) rfl (Nat.le_of_ble_eq_true rfl) ?_
  intro p e s m below meth c A a9 Q ha9 hx hb hr hml hts hown hlocks hname hK hA hZ hN hQ
  have hown : s.vm.findClass RX12 = some m.cls := hown
  have hiX12 : ∀ w ∈ wsX120, w ∈ .code yX12_fresh0 cX12_fresh0 2 none :: wsL_law0 := fun _ h => ki (zs_wsX120 _ h)
  have lf13 := hts (.fieldLink RX12 13 "BeardPassModel" "land" "[I") (ki (zr7 20 rfl))
  have lf32 := hts (.fieldLink RX12 32 "BeardPassModel" "atTold" "[I") (ki (zr8 2 rfl))
  have lf35 := hts (.fieldLink RX12 35 "BeardPassModel" "beardTold" "[I") (ki (zr8 3 rfl))
  have lf38 := hts (.fieldLink RX12 38 "BeardPassModel" "purseTold" "[I") (ki (zr8 4 rfl))
  have lf108 := hts (.fieldLink RX12 108 "BeardPassModel" "s" "[I") (ki (zr9 4 rfl))
  obtain ⟨X, hX⟩ : ∃ X, X = (Gm_fresh0 r q) := ⟨_, rfl⟩
  have cut23 : ∀ (n23 : Nat) (w23_1 : Int32) (rw23 : zRr) (hw23_1 : zI 0 6 w23_1) (jw23 : mJ B rw23) (fw23 : zFr [32] r rw23) (hE : X = Gm_fresh0_23 n23 w23_1 rw23), 6 - w23_1.toInt < (n23 : Int) → zKf p l e ({ frames := 1, cells := 0, slots := 0, locals := 80 }) s m a9 below meth c Q D A 23 2 [] (mW ct h0 y rw23 q) [(0, .ref h0), (1, .int w23_1)] := by
    intro n23
    induction n23 with
    | zero => intro w23_1 rw23 hw23_1 jw23 fw23 hE hm23; exact zI.no hw23_1 (by decide) hm23
    | succ n23 ih23 =>
      intro w23_1 rw23 hw23_1 jw23 fw23 hE hm23
      have hE : X = Bm_fresh0_23 (Gm_fresh0_23 n23) w23_1 rw23 := hE
      unfold Bm_fresh0_23 at hE
      intro H locs ls hw hS hl
      refine lv_iload_n hx hb dX12_fresh0_23 rfl (lv_at hl 1 rfl) ?_
      refine lv_aload_n hx hb dX12_fresh0_24 rfl (lv_at hl 0 rfl) ?_
      refine mget (v := .ref (y 1)) hx hb hts hiX12 hown hK hw 10 (by decide) lf13 rfl rfl dX12_fresh0_25 ?_
      refine lv_iconst (v := 1) hx hb dX12_fresh0_28 (by decide) ?_
      refine ziald hx hb hK hw 2 mWg1 1 (by decide) (by decide) (by decide) dX12_fresh0_29 (zgenE (lo := 0) (hi := 6) ((show zI 0 6 (rw23 1 1) from jw23.i 1 1)) (fun v1 ev1 hv1 => ?_))
      have hE := zletE ev1 hE
      refine lv_icmp_ge (tgt := 100) hx hb dX12_fresh0_30 (by decide) (fun c2 => ?_) (fun c2 => ?_)
      · have hE := zifT c2 hE
        exact zvretQ hQ hx hb hr hlocks rw23 rfl ⟨jw23, fw23, (hE.symm.trans hX), trivial⟩ hw hS dX12_fresh0_100
      · have hE := zifF c2 hE
        have k3 : zI 0 5 (w23_1) := zI.ltU (zI.nle c2) hw23_1 hv1 (by decide)
        have k4 : zI 1 6 (v1) := zI.ltD (zI.nle c2) hw23_1 hv1 (by decide)
        refine lv_aload_n hx hb dX12_fresh0_33 rfl (lv_at hl 0 rfl) ?_
        refine mget (v := .ref (y 32)) hx hb hts hiX12 hown hK hw 45 (by decide) lf108 rfl rfl dX12_fresh0_34 ?_
        refine lv_iconst (v := 1) hx hb dX12_fresh0_37 (by decide) ?_
        refine lv_iload_n hx hb dX12_fresh0_38 rfl (lv_at hl 1 rfl) ?_
        refine lv_iadd hx hb dX12_fresh0_39 (zgenE (lo := 1) (hi := 6) (zI.add (zI.lit (a := 1) (b := 1) (c := 1) (by decide)) k3 (by decide)) (fun v5 ev5 hv5 => ?_))
        have hE := zletE ev5 hE
        refine lv_aload_n hx hb dX12_fresh0_40 rfl (lv_at hl 0 rfl) ?_
        refine mget (v := .ref (y 7)) hx hb hts hiX12 hown hK hw 16 (by decide) lf32 rfl rfl dX12_fresh0_41 ?_
        refine lv_iload_n hx hb dX12_fresh0_44 rfl (lv_at hl 1 rfl) ?_
        refine miald hx hb hK hw 8 mWg7 k3 (by decide) dX12_fresh0_45 (zgenE (lo := 0) (hi := 5) ((show zI 0 5 (rw23 7 _) from jw23.i 7 _)) (fun v6 ev6 hv6 => ?_))
        have hE := zletE ev6 hE
        refine miast hx hb hK hw hS 33 mWg32 hv5 (by decide) dX12_fresh0_46 (mW ct h0 y (zset rw23 32 (upd (rw23 32) (zn v5) v6)) q) mWs32 (fun H locs hw hS => ?_)
        refine mgen (P := fun x => mJ B x ∧ zFr [32] r x) hw ⟨jw23.set rfl (ms_1w hv5 hv6), fw23.set rfl⟩ (fun r7 er7 hw pr7 => ?_)
        have hE := zletE er7 hE
        refine lv_aload_n hx hb dX12_fresh0_47 rfl (lv_at hl 0 rfl) ?_
        refine mget (v := .ref (y 32)) hx hb hts hiX12 hown hK hw 45 (by decide) lf108 rfl rfl dX12_fresh0_48 ?_
        refine lv_bipush (v := 7) hx hb dX12_fresh0_51 (by decide) ?_
        refine lv_iload_n hx hb dX12_fresh0_53 rfl (lv_at hl 1 rfl) ?_
        refine lv_iadd hx hb dX12_fresh0_54 (zgenE (lo := 7) (hi := 12) (zI.add (zI.lit (a := 7) (b := 7) (c := 7) (by decide)) k3 (by decide)) (fun v8 ev8 hv8 => ?_))
        have hE := zletE ev8 hE
        refine lv_aload_n hx hb dX12_fresh0_55 rfl (lv_at hl 0 rfl) ?_
        refine mget (v := .ref (y 8)) hx hb hts hiX12 hown hK hw 17 (by decide) lf35 rfl rfl dX12_fresh0_56 ?_
        refine lv_iload_n hx hb dX12_fresh0_59 rfl (lv_at hl 1 rfl) ?_
        refine miald hx hb hK hw 9 mWg8 k3 (by decide) dX12_fresh0_60 (zgenE (zI.top _) (fun v9 ev9 _ => ?_))
        have hE := zletE ev9 hE
        refine miast hx hb hK hw hS 33 mWg32 hv8 (by decide) dX12_fresh0_61 (mW ct h0 y (zset r7 32 (upd (r7 32) (zn v8) v9)) q) mWs32 (fun H locs hw hS => ?_)
        refine mgen (P := fun x => mJ B x ∧ zFr [32] r x) hw ⟨pr7.1.set rfl (ms_7w hv8), pr7.2.set rfl⟩ (fun r10 er10 hw pr10 => ?_)
        have hE := zletE er10 hE
        refine lv_aload_n hx hb dX12_fresh0_62 rfl (lv_at hl 0 rfl) ?_
        refine mget (v := .ref (y 32)) hx hb hts hiX12 hown hK hw 45 (by decide) lf108 rfl rfl dX12_fresh0_63 ?_
        refine lv_bipush (v := 19) hx hb dX12_fresh0_66 (by decide) ?_
        refine lv_iload_n hx hb dX12_fresh0_68 rfl (lv_at hl 1 rfl) ?_
        refine lv_iadd hx hb dX12_fresh0_69 (zgenE (lo := 19) (hi := 24) (zI.add (zI.lit (a := 19) (b := 19) (c := 19) (by decide)) k3 (by decide)) (fun v11 ev11 hv11 => ?_))
        have hE := zletE ev11 hE
        refine lv_aload_n hx hb dX12_fresh0_70 rfl (lv_at hl 0 rfl) ?_
        refine mget (v := .ref (y 9)) hx hb hts hiX12 hown hK hw 18 (by decide) lf38 rfl rfl dX12_fresh0_71 ?_
        refine lv_iload_n hx hb dX12_fresh0_74 rfl (lv_at hl 1 rfl) ?_
        refine miald hx hb hK hw 10 mWg9 k3 (by decide) dX12_fresh0_75 (zgenE (zI.top _) (fun v12 ev12 _ => ?_))
        have hE := zletE ev12 hE
        refine miast hx hb hK hw hS 33 mWg32 hv11 (by decide) dX12_fresh0_76 (mW ct h0 y (zset r10 32 (upd (r10 32) (zn v11) v12)) q) mWs32 (fun H locs hw hS => ?_)
        refine mgen (P := fun x => mJ B x ∧ zFr [32] r x) hw ⟨pr10.1.set rfl (ms_19w hv11), pr10.2.set rfl⟩ (fun r13 er13 hw pr13 => ?_)
        have hE := zletE er13 hE
        refine lv_aload_n hx hb dX12_fresh0_77 rfl (lv_at hl 0 rfl) ?_
        refine mget (v := .ref (y 32)) hx hb hts hiX12 hown hK hw 45 (by decide) lf108 rfl rfl dX12_fresh0_78 ?_
        refine lv_bipush (v := 25) hx hb dX12_fresh0_81 (by decide) ?_
        refine lv_iload_n hx hb dX12_fresh0_83 rfl (lv_at hl 1 rfl) ?_
        refine lv_iadd hx hb dX12_fresh0_84 (zgenE (lo := 25) (hi := 30) (zI.add (zI.lit (a := 25) (b := 25) (c := 25) (by decide)) k3 (by decide)) (fun v14 ev14 hv14 => ?_))
        have hE := zletE ev14 hE
        refine lv_iconst (v := 1) hx hb dX12_fresh0_85 (by decide) ?_
        refine lv_aload_n hx hb dX12_fresh0_86 rfl (lv_at hl 0 rfl) ?_
        refine mget (v := .ref (y 7)) hx hb hts hiX12 hown hK hw 16 (by decide) lf32 rfl rfl dX12_fresh0_87 ?_
        refine lv_iload_n hx hb dX12_fresh0_90 rfl (lv_at hl 1 rfl) ?_
        refine miald hx hb hK hw 8 mWg7 k3 (by decide) dX12_fresh0_91 (zgenE (lo := 0) (hi := 5) ((show zI 0 5 (r13 7 _) from pr13.1.i 7 _)) (fun v15 ev15 hv15 => ?_))
        have hE := zletE ev15 hE
        refine lv_ishl hx hb dX12_fresh0_92 (zgenE (lo := 1) (hi := 32) (zI.shl hv15 5 (by decide)) (fun v16 ev16 hv16 => ?_))
        have hE := zletE ev16 hE
        refine miast hx hb hK hw hS 33 mWg32 hv14 (by decide) dX12_fresh0_93 (mW ct h0 y (zset r13 32 (upd (r13 32) (zn v14) v16)) q) mWs32 (fun H locs hw hS => ?_)
        refine mgen (P := fun x => mJ B x ∧ zFr [32] r x) hw ⟨pr13.1.set rfl (ms_25w hv14 (hv16.w (c := 0) (d := 63) (by decide))), pr13.2.set rfl⟩ (fun r17 er17 hw pr17 => ?_)
        have hE := zletE er17 hE
        refine lv_iinc (v := w23_1 + 1) (lv' := [(1, .int (w23_1 + 1)), (0, .ref h0)]) hx hb dX12_fresh0_94 hl (k := 1) rfl (rfl) (by decide) rfl (fun ls hl => ?_)
        have k18 : zI 1 6 (w23_1 + 1) := zI.add k3 (zI.lit (a := 1) (b := 1) (by decide)) (by decide)
        refine lv_goto (tgt := 23) hx hb dX12_fresh0_97 (by decide) ?_
        exact ih23 (w23_1 + 1) r17 (k18.w (c := 0) (d := 6) (by decide)) pr17.1 pr17.2 hE (zI.up k3 (by decide) hm23) H locs ls hw hS (lv_sub hl [1, 0] rfl)
  have cut2 : ∀ (n2 : Nat) (w2_1 : Int32) (rw2 : zRr) (hw2_1 : zI 0 31 w2_1) (jw2 : mJ B rw2) (fw2 : zFr [32] r rw2) (hE : X = Gm_fresh0_2 n2 w2_1 rw2), 31 - w2_1.toInt < (n2 : Int) → zKf p l e ({ frames := 1, cells := 0, slots := 0, locals := 80 }) s m a9 below meth c Q D A 2 2 [] (mW ct h0 y rw2 q) [(0, .ref h0), (1, .int w2_1)] := by
    intro n2
    induction n2 with
    | zero => intro w2_1 rw2 hw2_1 jw2 fw2 hE hm2; exact zI.no hw2_1 (by decide) hm2
    | succ n2 ih2 =>
      intro w2_1 rw2 hw2_1 jw2 fw2 hE hm2
      have hE : X = Bm_fresh0_2 (Gm_fresh0_2 n2) w2_1 rw2 := hE
      unfold Bm_fresh0_2 at hE
      intro H locs ls hw hS hl
      refine lv_iload_n hx hb dX12_fresh0_2 rfl (lv_at hl 1 rfl) ?_
      refine lv_bipush (v := 31) hx hb dX12_fresh0_3 (by decide) ?_
      refine lv_icmp_ge (tgt := 21) hx hb dX12_fresh0_5 (by decide) (fun c19 => ?_) (fun c19 => ?_)
      · have hE := zifT c19 hE
        have k20 : zI 31 31 (w2_1) := zI.leD c19 (zI.lit (a := 31) (b := 31) (c := 31) (by decide)) hw2_1 (by decide)
        refine lv_iconst (v := 0) hx hb dX12_fresh0_21 (by decide) ?_
        refine lv_istore_n (lv' := [(1, .int 0), (0, .ref h0)]) hx hb dX12_fresh0_22 rfl hl (by decide) rfl (fun ls hl => ?_)
        exact cut23 7 0 rw2 ((zI.lit (a := 0) (b := 0) (c := 0) (by decide)).w (c := 0) (d := 6) (by decide)) jw2 fw2 hE (zI.m0 (zI.lit (a := 0) (b := 0) (c := 0) (by decide)) (by decide)) H locs ls hw hS (lv_sub hl [1, 0] rfl)
      · have hE := zifF c19 hE
        have k21 : zI 0 30 (w2_1) := zI.ltU (zI.nle c19) hw2_1 (zI.lit (a := 31) (b := 31) (c := 31) (by decide)) (by decide)
        refine lv_aload_n hx hb dX12_fresh0_8 rfl (lv_at hl 0 rfl) ?_
        refine mget (v := .ref (y 32)) hx hb hts hiX12 hown hK hw 45 (by decide) lf108 rfl rfl dX12_fresh0_9 ?_
        refine lv_iload_n hx hb dX12_fresh0_12 rfl (lv_at hl 1 rfl) ?_
        refine lv_iconst (v := 0) hx hb dX12_fresh0_13 (by decide) ?_
        refine miast hx hb hK hw hS 33 mWg32 k21 (by decide) dX12_fresh0_14 (mW ct h0 y (zset rw2 32 (upd (rw2 32) (zn w2_1) (0 : Int32))) q) mWs32 (fun H locs hw hS => ?_)
        refine mgen (P := fun x => mJ B x ∧ zFr [32] r x) hw ⟨jw2.set rfl (ms_z jw2.b _), fw2.set rfl⟩ (fun r22 er22 hw pr22 => ?_)
        have hE := zletE er22 hE
        refine lv_iinc (v := w2_1 + 1) (lv' := [(1, .int (w2_1 + 1)), (0, .ref h0)]) hx hb dX12_fresh0_15 hl (k := 1) rfl (rfl) (by decide) rfl (fun ls hl => ?_)
        have k23 : zI 1 31 (w2_1 + 1) := zI.add k21 (zI.lit (a := 1) (b := 1) (by decide)) (by decide)
        refine lv_goto (tgt := 2) hx hb dX12_fresh0_18 (by decide) ?_
        exact ih2 (w2_1 + 1) r22 (k23.w (c := 0) (d := 31) (by decide)) pr22.1 pr22.2 hE (zI.up k21 (by decide) hm2) H locs ls hw hS (lv_sub hl [1, 0] rfl)
  intro H locs hw hS ls hl
  have hl : lv_has ls 2 [(0, .ref h0)] := hl
  have hE := hX
  unfold Gm_fresh0 at hE
  refine lv_iconst (v := 0) hx hb dX12_fresh0_0 (by decide) ?_
  refine lv_istore_n (lv' := [(1, .int 0), (0, .ref h0)]) hx hb dX12_fresh0_1 rfl hl (by decide) rfl (fun ls hl => ?_)
  exact cut2 32 0 r ((zI.lit (a := 0) (b := 0) (c := 0) (by decide)).w (c := 0) (d := 31) (by decide)) hJ0 (zFr.refl) hE (zI.m0 (zI.lit (a := 0) (b := 0) (c := 0) (by decide)) (by decide)) H locs ls hw hS (lv_sub hl [1, 0] rfl)

noncomputable def Gm_follows (a1 : Int32) (r : zRr) (q : zRq) : Int32 × zRr :=
  zlet (α := Int32) (r 27 (zn a1)) <| fun v1 => zlet (α := Int32) (r 26 (zn a1)) <| fun v2 => zifn (v2 = (0 : Int32)) (zifn (v2 = (1 : Int32)) (zifn (v2 = (2 : Int32)) (zlet (α := zRr) ((Gm_passes r q)) <| fun u6 => ((1 : Int32), u6)) (zlet (α := zRr) ((Gm_shaves v1 r q)) <| fun u9 => ((1 : Int32), u9))) (zlet (α := Int32) ((Gm_canForge v1 (r 28 (zn a1)) r q)) <| fun u13 => zifn (u13 = (0 : Int32)) (zlet (α := zRr) ((Gm_forges v1 (r 28 (zn a1)) r q)) <| fun u17 => ((1 : Int32), u17)) (((0 : Int32), r)))) (zc_vr (Gm_canGo v1 (r 28 (zn a1)) r q) <| fun v23 r24 => zifn (v23 = (0 : Int32)) (zlet (α := zRr) ((Gm_goes v1 (r24 28 (zn a1)) r24 q)) <| fun u28 => ((1 : Int32), u28)) (((0 : Int32), r24)))
set_option maxHeartbeats 4000000 in
set_option maxRecDepth 100000 in
theorem mc_follows (l : Launch) (D : va_G) (ct : Nat → ClassId) (h0 : Nat) (y : Nat → Nat) (B : Int) (a1 : Int32) (r : zRr) (q : zRq) (g1 : zI 0 39 a1) (hJ0 : mJ B r) (x1 : a1.toInt < (r 25 0).toInt) : zC l yX12_follows (.code yX12_follows cX12_follows 4 (some .boolean) :: wsL_law0) ({ frames := 9, cells := 0, slots := 0, locals := 400 }) D ct [] [.ref h0, .int a1] (mW ct h0 y r q) (S := Int32 × zRr) (fun u => some (.int u.1)) (fun u => zI 0 1 u.1 ∧ mJ B u.2 ∧ zFr [15, 16, 17, 18, 19, 20, 21, 22, 23, 24, 32] r u.2 ∧ u = (Gm_follows a1 r q) ∧ True) (fun u => mW ct h0 y u.2 q) 0 0 := by
  refine zofQ cX12_follows 4 (some .boolean) (by decide) rfl (Nat.le_of_ble_eq_true rfl) ?_
  intro p e s m below meth c A a9 Q ha9 hx hb hr hml hts hown hlocks hname hK hA hZ hN hQ
  have hown : s.vm.findClass RX12 = some m.cls := hown
  have hiX12 : ∀ w ∈ wsX120, w ∈ .code yX12_follows cX12_follows 4 (some .boolean) :: wsL_law0 := fun _ h => ki (zs_wsX120 _ h)
  have lf90 := hts (.fieldLink RX12 90 "BeardPassModel" "lineWhat" "[I") (ki (zr8 22 rfl))
  have lf93 := hts (.fieldLink RX12 93 "BeardPassModel" "lineA" "[I") (ki (zr8 23 rfl))
  have lf96 := hts (.fieldLink RX12 96 "BeardPassModel" "lineB" "[I") (ki (zr9 0 rfl))
  obtain ⟨X, hX⟩ : ∃ X, X = (Gm_follows a1 r q) := ⟨_, rfl⟩
  intro H locs hw hS ls hl
  have hl : lv_has ls 4 [(0, .ref h0), (1, .int a1)] := hl
  have hE := hX
  unfold Gm_follows at hE
  refine lv_aload_n hx hb dX12_follows_0 rfl (lv_at hl 0 rfl) ?_
  refine mget (v := .ref (y 27)) hx hb hts hiX12 hown hK hw 40 (by decide) lf93 rfl rfl dX12_follows_1 ?_
  refine lv_iload_n hx hb dX12_follows_4 rfl (lv_at hl 1 rfl) ?_
  refine miald hx hb hK hw 28 mWg27 g1 (by decide) dX12_follows_5 (zgenE (lo := 0) (hi := 5) ((show zI 0 5 (r 27 _) from hJ0.i 27 _)) (fun v1 ev1 hv1 => ?_))
  have hE := zletE ev1 hE
  refine lv_istore_n (lv' := [(2, .int v1), (0, .ref h0), (1, .int a1)]) hx hb dX12_follows_6 rfl hl (by decide) rfl (fun ls hl => ?_)
  refine lv_aload_n hx hb dX12_follows_7 rfl (lv_at hl 1 rfl) ?_
  refine mget (v := .ref (y 26)) hx hb hts hiX12 hown hK hw 39 (by decide) lf90 rfl rfl dX12_follows_8 ?_
  refine lv_iload_n hx hb dX12_follows_11 rfl (lv_at hl 2 rfl) ?_
  refine miald hx hb hK hw 27 mWg26 g1 (by decide) dX12_follows_12 (zgenE (lo := (-2147483648)) (hi := 2147483647) ((zI.top _)) (fun v2 ev2 hv2 => ?_))
  have hE := zletE ev2 hE
  refine lv_istore_n (lv' := [(3, .int v2), (2, .int v1), (0, .ref h0), (1, .int a1)]) hx hb dX12_follows_13 rfl hl (by decide) rfl (fun ls hl => ?_)
  refine lv_iload_n hx hb dX12_follows_14 rfl (lv_at hl 0 rfl) ?_
  refine lv_if_ne (tgt := 48) hx hb dX12_follows_15 (by decide) (fun c3 => ?_) (fun c3 => ?_)
  · have hE := zifnT c3 hE
    refine lv_iload_n hx hb dX12_follows_48 rfl (lv_at hl 0 rfl) ?_
    refine lv_iconst (v := 1) hx hb dX12_follows_49 (by decide) ?_
    refine lv_icmp_ne (tgt := 83) hx hb dX12_follows_50 (by decide) (fun c4 => ?_) (fun c4 => ?_)
    · have hE := zifnT c4 hE
      refine lv_iload_n hx hb dX12_follows_83 rfl (lv_at hl 0 rfl) ?_
      refine lv_iconst (v := 2) hx hb dX12_follows_84 (by decide) ?_
      refine lv_icmp_ne (tgt := 96) hx hb dX12_follows_85 (by decide) (fun c5 => ?_) (fun c5 => ?_)
      · have hE := zifnT c5 hE
        refine lv_aload_n hx hb dX12_follows_96 rfl (lv_at hl 2 rfl) ?_
        refine mcallV (As := []) (rest := []) ⟨hx, hb, hml, hown, hts⟩ (mc_passes l D ct h0 y B r q hJ0) (wqX12_401_mc_passes hts ⟨Nat.le_of_ble_eq_true rfl, Nat.le_of_ble_eq_true rfl⟩) hw hS hA hK hN rfl hl.1 rfl (Nat.le_of_ble_eq_true rfl) dX12_follows_97 100 rfl (fun u6 H locs pu6 hw hS => ?_)
        have ju6 : mJ B u6 := pu6.1
        have fu6 : zFr [32] r u6 := pu6.2.1
        have xu6 : u6 = (Gm_passes r q) := pu6.2.2.1
        have hE := zletE xu6 hE
        have hw : zPD D A (mW ct h0 y u6 q) H := hw
        refine zfr 100 [] rfl rfl ?_
        refine lv_iconst (v := 1) hx hb dX12_follows_100 (by decide) ?_
        exact ziretQ hQ hx hb hr rfl hlocks (1, u6) rfl ⟨((zI.lit (a := 1) (b := 1) (c := 1) (by decide)).w (c := 0) (d := 1) (by decide)), ju6, ((zFr.refl).tr fu6 rfl), (hE.symm.trans hX), trivial⟩ hw hS dX12_follows_101
      · have hE := zifnF c5 hE
        have k8 : zI 2 2 (v2) := zI.eqq c5 (zI.lit (a := 2) (b := 2) (c := 2) (by decide))
        refine lv_aload_n hx hb dX12_follows_88 rfl (lv_at hl 2 rfl) ?_
        refine lv_iload_n hx hb dX12_follows_89 rfl (lv_at hl 1 rfl) ?_
        refine mcallV (As := [.int v1]) (rest := []) ⟨hx, hb, hml, hown, hts⟩ (mc_shaves l D ct h0 y B v1 r q hv1 hJ0) (wqX12_398_mc_shaves hts ⟨Nat.le_of_ble_eq_true rfl, Nat.le_of_ble_eq_true rfl⟩) hw hS hA hK hN rfl hl.1 rfl (Nat.le_of_ble_eq_true rfl) dX12_follows_90 93 rfl (fun u9 H locs pu9 hw hS => ?_)
        have ju9 : mJ B u9 := pu9.1
        have fu9 : zFr [32] r u9 := pu9.2.1
        have xu9 : u9 = (Gm_shaves v1 r q) := pu9.2.2.1
        have hE := zletE xu9 hE
        have hw : zPD D A (mW ct h0 y u9 q) H := hw
        refine zfr 93 [] rfl rfl ?_
        refine lv_goto (tgt := 100) hx hb dX12_follows_93 (by decide) ?_
        refine lv_iconst (v := 1) hx hb dX12_follows_100 (by decide) ?_
        exact ziretQ hQ hx hb hr rfl hlocks (1, u9) rfl ⟨((zI.lit (a := 1) (b := 1) (c := 1) (by decide)).w (c := 0) (d := 1) (by decide)), ju9, ((zFr.refl).tr fu9 rfl), (hE.symm.trans hX), trivial⟩ hw hS dX12_follows_101
    · have hE := zifnF c4 hE
      have k11 : zI 1 1 (v2) := zI.eqq c4 (zI.lit (a := 1) (b := 1) (c := 1) (by decide))
      refine lv_aload_n hx hb dX12_follows_53 rfl (lv_at hl 2 rfl) ?_
      refine lv_iload_n hx hb dX12_follows_54 rfl (lv_at hl 1 rfl) ?_
      refine lv_aload_n hx hb dX12_follows_55 rfl (lv_at hl 2 rfl) ?_
      refine mget (v := .ref (y 28)) hx hb hts hiX12 hown hK hw 41 (by decide) lf96 rfl rfl dX12_follows_56 ?_
      refine lv_iload_n hx hb dX12_follows_59 rfl (lv_at hl 3 rfl) ?_
      refine miald hx hb hK hw 29 mWg28 g1 (by decide) dX12_follows_60 ?_
      have k12 : zI 0 9999 (r 28 (zn a1)) := (show zI 0 9999 (r 28 _) from hJ0.i 28 _)
      refine mcallV (As := [.int v1, .int (r 28 (zn a1))]) (rest := []) ⟨hx, hb, hml, hown, hts⟩ (mc_canForge l D ct h0 y B v1 (r 28 (zn a1)) r q hv1 k12 hJ0) (wqX12_392_mc_canForge hts ⟨Nat.le_of_ble_eq_true rfl, Nat.le_of_ble_eq_true rfl⟩) hw hS hA hK hN rfl hl.1 rfl (Nat.le_of_ble_eq_true rfl) dX12_follows_61 64 rfl (fun u13 H locs pu13 hw hS => ?_)
      have hu13 : zI 0 1 u13 := pu13.1
      have yu13_0 : ¬ u13 = 0 → zI 0 20 (r 32 (zn (13 + v1)) + (r 28 (zn a1))) := pu13.2.1
      have xu13 : u13 = (Gm_canForge v1 (r 28 (zn a1)) r q) := pu13.2.2.1
      have hE := zletE xu13 hE
      have hw : zPD D A (mW ct h0 y r q) H := hw
      refine zfr 64 [.int u13] rfl rfl ?_
      refine lv_if_ne (tgt := 69) hx hb dX12_follows_64 (by decide) (fun c15 => ?_) (fun c15 => ?_)
      · have hE := zifnT c15 hE
        have k16 : zI 1 1 (u13) := zI.neD c15 hu13 (zI.lit (a := 0) (b := 0) (c := 0) (by decide)) (by decide)
        refine lv_aload_n hx hb dX12_follows_69 rfl (lv_at hl 2 rfl) ?_
        refine lv_iload_n hx hb dX12_follows_70 rfl (lv_at hl 1 rfl) ?_
        refine lv_aload_n hx hb dX12_follows_71 rfl (lv_at hl 2 rfl) ?_
        refine mget (v := .ref (y 28)) hx hb hts hiX12 hown hK hw 41 (by decide) lf96 rfl rfl dX12_follows_72 ?_
        refine lv_iload_n hx hb dX12_follows_75 rfl (lv_at hl 3 rfl) ?_
        refine miald hx hb hK hw 29 mWg28 g1 (by decide) dX12_follows_76 ?_
        refine mcallV (As := [.int v1, .int (r 28 (zn a1))]) (rest := []) ⟨hx, hb, hml, hown, hts⟩ (mc_forges l D ct h0 y B v1 (r 28 (zn a1)) r q hv1 k12 hJ0 (yu13_0 c15)) (wqX12_395_mc_forges hts ⟨Nat.le_of_ble_eq_true rfl, Nat.le_of_ble_eq_true rfl⟩) hw hS hA hK hN rfl hl.1 rfl (Nat.le_of_ble_eq_true rfl) dX12_follows_77 80 rfl (fun u17 H locs pu17 hw hS => ?_)
        have ju17 : mJ B u17 := pu17.1
        have fu17 : zFr [32] r u17 := pu17.2.1
        have xu17 : u17 = (Gm_forges v1 (r 28 (zn a1)) r q) := pu17.2.2.1
        have hE := zletE xu17 hE
        have hw : zPD D A (mW ct h0 y u17 q) H := hw
        refine zfr 80 [] rfl rfl ?_
        refine lv_goto (tgt := 100) hx hb dX12_follows_80 (by decide) ?_
        refine lv_iconst (v := 1) hx hb dX12_follows_100 (by decide) ?_
        exact ziretQ hQ hx hb hr rfl hlocks (1, u17) rfl ⟨((zI.lit (a := 1) (b := 1) (c := 1) (by decide)).w (c := 0) (d := 1) (by decide)), ju17, ((zFr.refl).tr fu17 rfl), (hE.symm.trans hX), trivial⟩ hw hS dX12_follows_101
      · have hE := zifnF c15 hE
        have k19 : zI 0 0 (u13) := zI.eqq c15 (zI.lit (a := 0) (b := 0) (c := 0) (by decide))
        refine lv_iconst (v := 0) hx hb dX12_follows_67 (by decide) ?_
        exact ziretQ hQ hx hb hr rfl hlocks (0, r) rfl ⟨((zI.lit (a := 0) (b := 0) (c := 0) (by decide)).w (c := 0) (d := 1) (by decide)), hJ0, (zFr.refl), (hE.symm.trans hX), trivial⟩ hw hS dX12_follows_68
  · have hE := zifnF c3 hE
    have k20 : zI 0 0 (v2) := zI.eqq c3 (zI.lit (a := 0) (b := 0) (c := 0) (by decide))
    refine lv_aload_n hx hb dX12_follows_18 rfl (lv_at hl 2 rfl) ?_
    refine lv_iload_n hx hb dX12_follows_19 rfl (lv_at hl 1 rfl) ?_
    refine lv_aload_n hx hb dX12_follows_20 rfl (lv_at hl 2 rfl) ?_
    refine mget (v := .ref (y 28)) hx hb hts hiX12 hown hK hw 41 (by decide) lf96 rfl rfl dX12_follows_21 ?_
    refine lv_iload_n hx hb dX12_follows_24 rfl (lv_at hl 3 rfl) ?_
    have hlb : zI 0 5 (r 28 (zn a1)) := mL_use hJ0 g1 x1 (ev2.symm.trans c3)
    refine miald hx hb hK hw 29 mWg28 g1 (by decide) dX12_follows_25 ?_
    have k21 : zI 0 5 (r 28 (zn a1)) := hlb
    refine mcallV (As := [.int v1, .int (r 28 (zn a1))]) (rest := []) ⟨hx, hb, hml, hown, hts⟩ (mc_canGo l D ct h0 y B v1 (r 28 (zn a1)) r q hv1 k21 hJ0) (wqX12_383_mc_canGo hts ⟨Nat.le_of_ble_eq_true rfl, Nat.le_of_ble_eq_true rfl⟩) hw hS hA hK hN rfl hl.1 rfl (Nat.le_of_ble_eq_true rfl) dX12_follows_26 29 rfl (fun u22 H locs pu22 hw hS => ?_)
    obtain ⟨v23, r24⟩ := u22
    have hv23 : zI 0 1 v23 := pu22.1
    have ju22 : mJ B r24 := pu22.2.1
    have fu22 : zFr [15, 16, 17, 18, 19, 20, 21, 22, 23, 24] r r24 := pu22.2.2.1
    have xu22 : (v23, r24) = (Gm_canGo v1 (r 28 (zn a1)) r q) := pu22.2.2.2.1
    have hE := zc_vrE xu22 hE
    have hw : zPD D A (mW ct h0 y r24 q) H := hw
    refine zfr 29 [.int v23] rfl rfl ?_
    refine lv_if_ne (tgt := 34) hx hb dX12_follows_29 (by decide) (fun c25 => ?_) (fun c25 => ?_)
    · have hE := zifnT c25 hE
      have k26 : zI 1 1 (v23) := zI.neD c25 hv23 (zI.lit (a := 0) (b := 0) (c := 0) (by decide)) (by decide)
      refine lv_aload_n hx hb dX12_follows_34 rfl (lv_at hl 2 rfl) ?_
      refine lv_iload_n hx hb dX12_follows_35 rfl (lv_at hl 1 rfl) ?_
      refine lv_aload_n hx hb dX12_follows_36 rfl (lv_at hl 2 rfl) ?_
      refine mget (v := .ref (y 28)) hx hb hts hiX12 hown hK hw 41 (by decide) lf96 rfl rfl dX12_follows_37 ?_
      refine lv_iload_n hx hb dX12_follows_40 rfl (lv_at hl 3 rfl) ?_
      refine miald hx hb hK hw 29 mWg28 g1 (by decide) dX12_follows_41 ?_
      have k27 : zI 0 5 (r24 28 (zn a1)) := (show zI 0 5 (r24 28 (zn a1)) by rw [(fu22 28 rfl)]; exact hlb)
      refine mcallV (As := [.int v1, .int (r24 28 (zn a1))]) (rest := []) ⟨hx, hb, hml, hown, hts⟩ (mc_goes l D ct h0 y B v1 (r24 28 (zn a1)) r24 q hv1 k27 ju22) (wqX12_389_mc_goes hts ⟨Nat.le_of_ble_eq_true rfl, Nat.le_of_ble_eq_true rfl⟩) hw hS hA hK hN rfl hl.1 rfl (Nat.le_of_ble_eq_true rfl) dX12_follows_42 45 rfl (fun u28 H locs pu28 hw hS => ?_)
      have ju28 : mJ B u28 := pu28.1
      have fu28 : zFr [32] r24 u28 := pu28.2.1
      have xu28 : u28 = (Gm_goes v1 (r24 28 (zn a1)) r24 q) := pu28.2.2.1
      have hE := zletE xu28 hE
      have hw : zPD D A (mW ct h0 y u28 q) H := hw
      refine zfr 45 [] rfl rfl ?_
      refine lv_goto (tgt := 100) hx hb dX12_follows_45 (by decide) ?_
      refine lv_iconst (v := 1) hx hb dX12_follows_100 (by decide) ?_
      exact ziretQ hQ hx hb hr rfl hlocks (1, u28) rfl ⟨((zI.lit (a := 1) (b := 1) (c := 1) (by decide)).w (c := 0) (d := 1) (by decide)), ju28, (((zFr.refl).tr fu22 rfl).tr fu28 rfl), (hE.symm.trans hX), trivial⟩ hw hS dX12_follows_101
    · have hE := zifnF c25 hE
      have k30 : zI 0 0 (v23) := zI.eqq c25 (zI.lit (a := 0) (b := 0) (c := 0) (by decide))
      refine lv_iconst (v := 0) hx hb dX12_follows_32 (by decide) ?_
      exact ziretQ hQ hx hb hr rfl hlocks (0, r24) rfl ⟨((zI.lit (a := 0) (b := 0) (c := 0) (by decide)).w (c := 0) (d := 1) (by decide)), ju22, ((zFr.refl).tr fu22 rfl), (hE.symm.trans hX), trivial⟩ hw hS dX12_follows_33

noncomputable def Gm_judged_123 (w49_2 : Int32) (w49_5 : Int32) (ih49 : Int32 → Int32 → Int32 → Int32 → zRr → (Int32 × zRr)) (w123_3 : Int32) (w123_4 : Int32) (rw123 : zRr) : Int32 × zRr :=
  ih49 w49_2 w123_3 w123_4 (w49_5 + 1) rw123
noncomputable def Gm_judged_80 (q : zRq) (w49_2 : Int32) (w49_4 : Int32) (w49_5 : Int32) (ih49 : Int32 → Int32 → Int32 → Int32 → zRr → (Int32 × zRr)) (w80_3 : Int32) (w80_6 : Int32) (rw80 : zRr) : Int32 × zRr :=
  zif (w80_6 = (0 : Int32)) (Gm_judged_123 w49_2 w49_5 ih49 w80_3 w49_4 rw80) (zlet (α := Int32) (rw80 26 (zn w49_5)) <| fun v5 => zifn (v5 = (0 : Int32)) (Gm_judged_123 w49_2 w49_5 ih49 w80_3 w49_4 rw80) (zif ((0 : Int32) ≤ w49_4) (Gm_judged_123 w49_2 w49_5 ih49 w80_3 w49_4 rw80) (zlet (α := Int32) (rw80 28 (zn w49_5)) <| fun v11 => zlet (α := Int32) (rw80 4 (zn v11)) <| fun v12 => zlet (α := Int32) ((Gm_mostAsked rw80 q)) <| fun u13 => zifn (v12 = u13) (Gm_judged_123 w49_2 w49_5 ih49 w80_3 w49_4 rw80) (Gm_judged_123 w49_2 w49_5 ih49 w80_3 w49_5 rw80))))
noncomputable def Bm_judged_49 (a1 : Int32) (q : zRq) (ih49 : Int32 → Int32 → Int32 → Int32 → zRr → (Int32 × zRr)) (w49_2 : Int32) (w49_3 : Int32) (w49_4 : Int32) (w49_5 : Int32) (rw49 : zRr) : Int32 × zRr :=
  zif ((rw49 25 0) ≤ w49_5) (zlet (α := Int32) ((Gm_allOf (19 : Int32) rw49 q)) <| fun u17 => zlet (α := Int32) (w49_2 - u17) <| fun v19 => zlet (α := zRr) (zset rw49 32 (zcp (rw49 33) (rw49 32) (0) (0) 31)) <| fun r20 => zifn (a1 = (0 : Int32)) (zifn (a1 = (1 : Int32)) ((v19, r20)) ((w49_4, r20))) ((w49_3, r20))) (zc_vr (Gm_follows w49_5 rw49 q) <| fun v30 r31 => zifn (v30 = (0 : Int32)) (Gm_judged_80 q w49_2 w49_4 w49_5 ih49 w49_3 v30 r31) (zif ((0 : Int32) ≤ w49_3) (Gm_judged_80 q w49_2 w49_4 w49_5 ih49 w49_3 v30 r31) (Gm_judged_80 q w49_2 w49_4 w49_5 ih49 w49_5 v30 r31)))
noncomputable def Gm_judged_49 (a1 : Int32) (q : zRq) (n : Nat) : Int32 → Int32 → Int32 → Int32 → zRr → (Int32 × zRr) :=
  Nat.rec (motive := fun _ => Int32 → Int32 → Int32 → Int32 → zRr → (Int32 × zRr)) (fun _ _ _ _ rw49 => (default, rw49)) (fun _ ih => Bm_judged_49 a1 q ih) n
noncomputable def Gm_judged (a1 : Int32) (r : zRr) (q : zRq) : Int32 × zRr :=
  zlet (α := zRr) (zset r 100 (fun _ => (0 : Int32))) <| fun r38 => zlet (α := Int32) ((Gm_within a1 (0 : Int32) (2 : Int32))) <| fun u39 => zifn (u39 = (0 : Int32)) (zlet (α := zRr) (zset r38 33 (zcp (r38 32) (r38 33) (0) (0) 31)) <| fun r45 => zlet (α := zRr) ((Gm_fresh0 r45 q)) <| fun u46 => zlet (α := Int32) ((Gm_allOf (19 : Int32) u46 q)) <| fun u48 => Gm_judged_49 a1 q 41 u48 (-1) (-1) 0 u46) ((((-2) : Int32), r38))
set_option maxHeartbeats 4000000 in
set_option maxRecDepth 100000 in
theorem mc_judged (l : Launch) (D : va_G) (ct : Nat → ClassId) (h0 : Nat) (y : Nat → Nat) (a1 : Int32) (r : zRr) (q : zRq) (hJ0 : mJ 20 r) : zC l yX12_judged (.code yX12_judged cX12_judged 7 (some .int) :: wsL_law0) ({ frames := 10, cells := 0, slots := 0, locals := 440 }) D ct [] [.ref h0, .int a1] (mW ct h0 y r q) (S := Int32 × zRr) (fun u => some (.int u.1)) (fun u => zI (-2147483648) 2147483647 u.1 ∧ mJ 20 u.2 ∧ zFr [15, 16, 17, 18, 19, 20, 21, 22, 23, 24, 100, 33, 32] r u.2 ∧ u = (Gm_judged a1 r q) ∧ True) (fun u => mW ct h0 y u.2 q) 0 0 := by
  refine zofQ cX12_judged 7 (some .int) (by decide) rfl (Nat.le_of_ble_eq_true rfl) ?_
  intro p e s m below meth c A a9 Q ha9 hx hb hr hml hts hown hlocks hname hK hA hZ hN hQ
  have hown : s.vm.findClass RX12 = some m.cls := hown
  have hiX12 : ∀ w ∈ wsX120, w ∈ .code yX12_judged cX12_judged 7 (some .int) :: wsL_law0 := fun _ h => ki (zs_wsX120 _ h)
  have lf23 := hts (.fieldLink RX12 23 "BeardPassModel" "asks" "[I") (ki (zr7 23 rfl))
  have lf87 := hts (.fieldLink RX12 87 "BeardPassModel" "lines" "[I") (ki (zr8 21 rfl))
  have lf90 := hts (.fieldLink RX12 90 "BeardPassModel" "lineWhat" "[I") (ki (zr8 22 rfl))
  have lf96 := hts (.fieldLink RX12 96 "BeardPassModel" "lineB" "[I") (ki (zr9 0 rfl))
  have lf108 := hts (.fieldLink RX12 108 "BeardPassModel" "s" "[I") (ki (zr9 4 rfl))
  have lf111 := hts (.fieldLink RX12 111 "BeardPassModel" "aside" "[I") (ki (zr9 5 rfl))
  have lf129 := hts (.fieldLink RX12 129 "BeardPassModel" "thrown" "I") (ki (zr10 1 rfl))
  obtain ⟨X, hX⟩ : ∃ X, X = (Gm_judged a1 r q) := ⟨_, rfl⟩
  have cut49 : ∀ (n49 : Nat) (w49_2 : Int32) (w49_3 : Int32) (w49_4 : Int32) (w49_5 : Int32) (rw49 : zRr) (hw49_1 : zI 0 2 a1) (hw49_3 : zI (-1) 39 w49_3) (hw49_4 : zI (-1) 39 w49_4) (hw49_5 : zI 0 40 w49_5) (jw49 : mJ 20 rw49) (fw49 : zFr [15, 16, 17, 18, 19, 20, 21, 22, 23, 24, 100, 33, 32] r rw49) (hE : X = Gm_judged_49 a1 q n49 w49_2 w49_3 w49_4 w49_5 rw49), 40 - w49_5.toInt < (n49 : Int) → zKf p l e ({ frames := 10, cells := 0, slots := 0, locals := 440 }) s m a9 below meth c Q D A 49 7 [] (mW ct h0 y rw49 q) [(0, .ref h0), (1, .int a1), (2, .int w49_2), (3, .int w49_3), (4, .int w49_4), (5, .int w49_5)] := by
    intro n49
    induction n49 with
    | zero => intro w49_2 w49_3 w49_4 w49_5 rw49 hw49_1 hw49_3 hw49_4 hw49_5 jw49 fw49 hE hm49; exact zI.no hw49_5 (by decide) hm49
    | succ n49 ih49 =>
      intro w49_2 w49_3 w49_4 w49_5 rw49 hw49_1 hw49_3 hw49_4 hw49_5 jw49 fw49 hE hm49
      have hE : X = Bm_judged_49 a1 q (Gm_judged_49 a1 q n49) w49_2 w49_3 w49_4 w49_5 rw49 := hE
      unfold Bm_judged_49 at hE
      have cut123 : ∀ (w123_3 : Int32) (w123_4 : Int32) (rw123 : zRr) (hw123_1 : zI 0 2 a1) (hw123_3 : zI (-1) 39 w123_3) (hw123_4 : zI (-1) 39 w123_4) (hw123_5 : zI 0 39 w49_5) (jw123 : mJ 20 rw123) (fw123 : zFr [15, 16, 17, 18, 19, 20, 21, 22, 23, 24, 100, 33, 32] r rw123) (mw123_25_0 : zI 1 40 (rw123 25 0)) (hE : X = Gm_judged_123 w49_2 w49_5 (Gm_judged_49 a1 q n49) w123_3 w123_4 rw123), zKf p l e ({ frames := 10, cells := 0, slots := 0, locals := 440 }) s m a9 below meth c Q D A 123 7 [] (mW ct h0 y rw123 q) [(0, .ref h0), (1, .int a1), (2, .int w49_2), (3, .int w123_3), (4, .int w123_4), (5, .int w49_5)] := by
        intro w123_3 w123_4 rw123 hw123_1 hw123_3 hw123_4 hw123_5 jw123 fw123 mw123_25_0 hE H locs ls hw hS hl
        unfold Gm_judged_123 at hE
        refine lv_iinc (v := w49_5 + 1) (lv' := [(5, .int (w49_5 + 1)), (0, .ref h0), (1, .int a1), (2, .int w49_2), (3, .int w123_3), (4, .int w123_4)]) hx hb dX12_judged_123 hl (k := 5) rfl (rfl) (by decide) rfl (fun ls hl => ?_)
        have k1 : zI 1 40 (w49_5 + 1) := zI.add hw123_5 (zI.lit (a := 1) (b := 1) (by decide)) (by decide)
        refine lv_goto (tgt := 49) hx hb dX12_judged_126 (by decide) ?_
        exact ih49 w49_2 w123_3 w123_4 (w49_5 + 1) rw123 hw123_1 hw123_3 hw123_4 (k1.w (c := 0) (d := 40) (by decide)) jw123 fw123 hE (zI.up hw123_5 (by decide) hm49) H locs ls hw hS (lv_sub hl [1, 2, 3, 4, 5, 0] rfl)
      have cut80 : ∀ (w80_3 : Int32) (w80_6 : Int32) (rw80 : zRr) (hw80_1 : zI 0 2 a1) (hw80_3 : zI (-1) 39 w80_3) (hw80_4 : zI (-1) 39 w49_4) (hw80_5 : zI 0 39 w49_5) (hw80_6 : zI 0 1 w80_6) (jw80 : mJ 20 rw80) (fw80 : zFr [15, 16, 17, 18, 19, 20, 21, 22, 23, 24, 100, 33, 32] r rw80) (mw80_25_0 : zI 1 40 (rw80 25 0)) (x80 : w49_5.toInt < (rw80 25 0).toInt) (hE : X = Gm_judged_80 q w49_2 w49_4 w49_5 (Gm_judged_49 a1 q n49) w80_3 w80_6 rw80), zKf p l e ({ frames := 10, cells := 0, slots := 0, locals := 440 }) s m a9 below meth c Q D A 80 7 [] (mW ct h0 y rw80 q) [(0, .ref h0), (1, .int a1), (2, .int w49_2), (3, .int w80_3), (4, .int w49_4), (5, .int w49_5), (6, .int w80_6)] := by
        intro w80_3 w80_6 rw80 hw80_1 hw80_3 hw80_4 hw80_5 hw80_6 jw80 fw80 mw80_25_0 x80 hE H locs ls hw hS hl
        unfold Gm_judged_80 at hE
        refine lv_iload hx hb dX12_judged_80 (lv_at hl 6 rfl) ?_
        refine lv_if_eq (tgt := 123) hx hb dX12_judged_82 (by decide) (fun c2 => ?_) (fun c2 => ?_)
        · have hE := zifT c2 hE
          have k3 : zI 0 0 (w80_6) := zI.eqq c2 (zI.lit (a := 0) (b := 0) (c := 0) (by decide))
          exact cut123 w80_3 w49_4 rw80 hw80_1 hw80_3 hw80_4 hw80_5 jw80 fw80 mw80_25_0 hE H locs ls hw hS (lv_sub hl [0, 1, 2, 3, 4, 5] rfl)
        · have hE := zifF c2 hE
          have k4 : zI 1 1 (w80_6) := zI.neD c2 hw80_6 (zI.lit (a := 0) (b := 0) (c := 0) (by decide)) (by decide)
          refine lv_aload_n hx hb dX12_judged_85 rfl (lv_at hl 0 rfl) ?_
          refine mget (v := .ref (y 26)) hx hb hts hiX12 hown hK hw 39 (by decide) lf90 rfl rfl dX12_judged_86 ?_
          refine lv_iload hx hb dX12_judged_89 (lv_at hl 5 rfl) ?_
          refine miald hx hb hK hw 27 mWg26 hw80_5 (by decide) dX12_judged_91 (zgenE (lo := (-2147483648)) (hi := 2147483647) ((zI.top _)) (fun v5 ev5 hv5 => ?_))
          have hE := zletE ev5 hE
          refine lv_if_ne (tgt := 123) hx hb dX12_judged_92 (by decide) (fun c6 => ?_) (fun c6 => ?_)
          · have hE := zifnT c6 hE
            exact cut123 w80_3 w49_4 rw80 hw80_1 hw80_3 hw80_4 hw80_5 jw80 fw80 mw80_25_0 hE H locs ls hw hS (lv_sub hl [0, 1, 2, 3, 4, 5] rfl)
          · have hE := zifnF c6 hE
            have k7 : zI 0 0 (v5) := zI.eqq c6 (zI.lit (a := 0) (b := 0) (c := 0) (by decide))
            refine lv_iload hx hb dX12_judged_95 (lv_at hl 4 rfl) ?_
            refine lv_if_ge (tgt := 123) hx hb dX12_judged_97 (by decide) (fun c8 => ?_) (fun c8 => ?_)
            · have hE := zifT c8 hE
              have k9 : zI 0 39 (w49_4) := zI.leD c8 (zI.lit (a := 0) (b := 0) (c := 0) (by decide)) hw80_4 (by decide)
              exact cut123 w80_3 w49_4 rw80 hw80_1 hw80_3 (k9.w (c := (-1)) (d := 39) (by decide)) hw80_5 jw80 fw80 mw80_25_0 hE H locs ls hw hS (lv_sub hl [0, 1, 2, 3, 4, 5] rfl)
            · have hE := zifF c8 hE
              have k10 : zI (-1) (-1) (w49_4) := zI.ltU (zI.nle c8) hw80_4 (zI.lit (a := 0) (b := 0) (c := 0) (by decide)) (by decide)
              refine lv_aload_n hx hb dX12_judged_100 rfl (lv_at hl 0 rfl) ?_
              refine mget (v := .ref (y 4)) hx hb hts hiX12 hown hK hw 13 (by decide) lf23 rfl rfl dX12_judged_101 ?_
              refine lv_aload_n hx hb dX12_judged_104 rfl (lv_at hl 0 rfl) ?_
              refine mget (v := .ref (y 28)) hx hb hts hiX12 hown hK hw 41 (by decide) lf96 rfl rfl dX12_judged_105 ?_
              refine lv_iload hx hb dX12_judged_108 (lv_at hl 5 rfl) ?_
              refine miald hx hb hK hw 29 mWg28 hw80_5 (by decide) dX12_judged_110 (zgenE (lo := 0) (hi := 5) ((mL_use jw80 hw80_5 x80 (ev5.symm.trans c6))) (fun v11 ev11 hv11 => ?_))
              have hE := zletE ev11 hE
              refine miald hx hb hK hw 5 mWg4 hv11 (by decide) dX12_judged_111 (zgenE (zI.top _) (fun v12 ev12 _ => ?_))
              have hE := zletE ev12 hE
              refine lv_aload_n hx hb dX12_judged_112 rfl (lv_at hl 0 rfl) ?_
              refine mcallV (As := []) (rest := [.int v12]) ⟨hx, hb, hml, hown, hts⟩ (mc_mostAsked l D ct h0 y 20 rw80 q jw80) (wqX12_413_mc_mostAsked hts ⟨Nat.le_of_ble_eq_true rfl, Nat.le_of_ble_eq_true rfl⟩) hw hS hA hK hN rfl hl.1 rfl (Nat.le_of_ble_eq_true rfl) dX12_judged_113 116 rfl (fun u13 H locs pu13 hw hS => ?_)
              have hu13 : zI (-2147483648) 2147483647 u13 := pu13.1
              have xu13 : u13 = (Gm_mostAsked rw80 q) := pu13.2.1
              have hE := zletE xu13 hE
              have hw : zPD D A (mW ct h0 y rw80 q) H := hw
              refine zfr 116 [.int u13, .int v12] rfl rfl ?_
              refine lv_icmp_ne (tgt := 123) hx hb dX12_judged_116 (by decide) (fun c15 => ?_) (fun c15 => ?_)
              · have hE := zifnT c15 hE
                exact cut123 w80_3 w49_4 rw80 hw80_1 hw80_3 (k10.w (c := (-1)) (d := 39) (by decide)) hw80_5 jw80 fw80 mw80_25_0 hE H locs ls hw hS (lv_sub hl [0, 1, 2, 3, 4, 5] rfl)
              · have hE := zifnF c15 hE
                refine lv_iload hx hb dX12_judged_119 (lv_at hl 5 rfl) ?_
                refine lv_istore (lv' := [(4, .int w49_5), (0, .ref h0), (1, .int a1), (2, .int w49_2), (3, .int w80_3), (5, .int w49_5), (6, .int w80_6)]) hx hb dX12_judged_121 hl (by decide) rfl (fun ls hl => ?_)
                exact cut123 w80_3 w49_5 rw80 hw80_1 hw80_3 (hw80_5.w (c := (-1)) (d := 39) (by decide)) hw80_5 jw80 fw80 mw80_25_0 hE H locs ls hw hS (lv_sub hl [1, 2, 3, 4, 0, 5] rfl)
      intro H locs ls hw hS hl
      refine lv_iload hx hb dX12_judged_49 (lv_at hl 5 rfl) ?_
      refine lv_aload_n hx hb dX12_judged_51 rfl (lv_at hl 0 rfl) ?_
      refine mget (v := .ref (y 25)) hx hb hts hiX12 hown hK hw 38 (by decide) lf87 rfl rfl dX12_judged_52 ?_
      refine lv_iconst (v := 0) hx hb dX12_judged_55 (by decide) ?_
      refine ziald hx hb hK hw 26 mWg25 0 (by decide) (by decide) (by decide) dX12_judged_56 ?_
      refine lv_icmp_ge (tgt := 129) hx hb dX12_judged_57 (by decide) (fun c16 => ?_) (fun c16 => ?_)
      · have hE := zifT c16 hE
        refine lv_iload_n hx hb dX12_judged_129 rfl (lv_at hl 2 rfl) ?_
        refine lv_aload_n hx hb dX12_judged_130 rfl (lv_at hl 0 rfl) ?_
        refine lv_bipush (v := 19) hx hb dX12_judged_131 (by decide) ?_
        refine mcallV (As := [.int 19]) (rest := [.int w49_2]) ⟨hx, hb, hml, hown, hts⟩ (mc_allOf l D ct h0 y 20 19 rw49 q ((zI.lit (a := 19) (b := 19) (c := 19) (by decide)).w (c := 13) (d := 19) (by decide)) jw49) (wqX12_407_mc_allOf hts ⟨Nat.le_of_ble_eq_true rfl, Nat.le_of_ble_eq_true rfl⟩) hw hS hA hK hN rfl hl.1 rfl (Nat.le_of_ble_eq_true rfl) dX12_judged_133 136 rfl (fun u17 H locs pu17 hw hS => ?_)
        have hu17 : zI (-2147483648) 2147483647 u17 := pu17.1
        have xu17 : u17 = (Gm_allOf (19 : Int32) rw49 q) := pu17.2.1
        have hE := zletE xu17 hE
        have hw : zPD D A (mW ct h0 y rw49 q) H := hw
        refine zfr 136 [.int u17, .int w49_2] rfl rfl ?_
        refine lv_isub hx hb dX12_judged_136 (zgenE (zI.top _) (fun v19 ev19 _ => ?_))
        have hE := zletE ev19 hE
        refine lv_istore (lv' := [(5, .int v19), (0, .ref h0), (1, .int a1), (2, .int w49_2), (3, .int w49_3), (4, .int w49_4)]) hx hb dX12_judged_137 hl (by decide) rfl (fun ls hl => ?_)
        refine lv_aload_n hx hb dX12_judged_139 rfl (lv_at hl 1 rfl) ?_
        refine mget (v := .ref (y 33)) hx hb hts hiX12 hown hK hw 46 (by decide) lf111 rfl rfl dX12_judged_140 ?_
        refine lv_iconst (v := 0) hx hb dX12_judged_143 (by decide) ?_
        refine lv_aload_n hx hb dX12_judged_144 rfl (lv_at hl 1 rfl) ?_
        refine mget (v := .ref (y 32)) hx hb hts hiX12 hown hK hw 45 (by decide) lf108 rfl rfl dX12_judged_145 ?_
        refine lv_iconst (v := 0) hx hb dX12_judged_148 (by decide) ?_
        refine mcp2 34 33 (As := [.ref (y 33), .int 0, .ref (y 32), .int 0]) (rest := []) ⟨hx, hb, hml, hown, hts⟩ (c_copies l D ct (y 33) (0) (y 32) (0) 31 31 (rw49 33) (rw49 32) (by decide) (by decide) (by decide) (by decide)) (va_cwS 4 hts (kgSm (zr36 17 rfl) (zr36 18 rfl) (zr1 5 rfl) mL_X12_copies) rfl rfl rfl (by decide +kernel) ⟨Nat.le_of_ble_eq_true rfl, Nat.le_of_ble_eq_true rfl⟩) hw hS hA hK hN mWg33 mWg32 rfl rfl (by decide) rfl hl.1 rfl (Nat.le_of_ble_eq_true rfl) dX12_judged_149 mWs32 (fun _ H locs _ hw hS => ?_)
        have hw : zPD D A (mW ct h0 y (zset rw49 32 (zcp (rw49 33) (rw49 32) (0) (0) 31)) q) H := hw
        refine zfr 152 [] rfl rfl ?_
        refine mgen (P := fun x => mJ 20 x ∧ zFr [15, 16, 17, 18, 19, 20, 21, 22, 23, 24, 100, 33, 32] r x) hw ⟨mcp_s jw49 (Or.inl ⟨Or.inl rfl, rfl⟩), fw49.set rfl⟩ (fun r20 er20 hw pr20 => ?_)
        have hE := zletE er20 hE
        refine lv_iload_n hx hb dX12_judged_152 rfl (lv_at hl 2 rfl) ?_
        refine lv_if_ne (tgt := 160) hx hb dX12_judged_153 (by decide) (fun c21 => ?_) (fun c21 => ?_)
        · have hE := zifnT c21 hE
          have k22 : zI 1 2 (a1) := zI.neD c21 hw49_1 (zI.lit (a := 0) (b := 0) (c := 0) (by decide)) (by decide)
          refine lv_iload_n hx hb dX12_judged_160 rfl (lv_at hl 2 rfl) ?_
          refine lv_iconst (v := 1) hx hb dX12_judged_161 (by decide) ?_
          refine lv_icmp_ne (tgt := 170) hx hb dX12_judged_162 (by decide) (fun c23 => ?_) (fun c23 => ?_)
          · have hE := zifnT c23 hE
            have k24 : zI 2 2 (a1) := zI.neD c23 k22 (zI.lit (a := 1) (b := 1) (c := 1) (by decide)) (by decide)
            refine lv_iload hx hb dX12_judged_170 (lv_at hl 0 rfl) ?_
            exact ziretQ hQ hx hb hr rfl hlocks (v19, r20) rfl ⟨(zI.top _), pr20.1, pr20.2, (hE.symm.trans hX), trivial⟩ hw hS dX12_judged_172
          · have hE := zifnF c23 hE
            have k25 : zI 1 1 (a1) := zI.eqq c23 (zI.lit (a := 1) (b := 1) (c := 1) (by decide))
            refine lv_iload hx hb dX12_judged_165 (lv_at hl 5 rfl) ?_
            refine lv_goto (tgt := 172) hx hb dX12_judged_167 (by decide) ?_
            exact ziretQ hQ hx hb hr rfl hlocks (w49_4, r20) rfl ⟨(zI.top _), pr20.1, pr20.2, (hE.symm.trans hX), trivial⟩ hw hS dX12_judged_172
        · have hE := zifnF c21 hE
          have k26 : zI 0 0 (a1) := zI.eqq c21 (zI.lit (a := 0) (b := 0) (c := 0) (by decide))
          refine lv_iload_n hx hb dX12_judged_156 rfl (lv_at hl 4 rfl) ?_
          refine lv_goto (tgt := 172) hx hb dX12_judged_157 (by decide) ?_
          exact ziretQ hQ hx hb hr rfl hlocks (w49_3, r20) rfl ⟨(zI.top _), pr20.1, pr20.2, (hE.symm.trans hX), trivial⟩ hw hS dX12_judged_172
      · have hE := zifF c16 hE
        have k27 : zI 0 39 (w49_5) := zI.ltU (zI.nle c16) hw49_5 (show zI 0 40 (rw49 25 0) from jw49.i 25 0) (by decide)
        have k28 : zI 1 40 (rw49 25 0) := zI.ltD (zI.nle c16) hw49_5 (show zI 0 40 (rw49 25 0) from jw49.i 25 0) (by decide)
        refine lv_aload_n hx hb dX12_judged_60 rfl (lv_at hl 0 rfl) ?_
        refine lv_iload hx hb dX12_judged_61 (lv_at hl 5 rfl) ?_
        refine mcallV (As := [.int w49_5]) (rest := []) ⟨hx, hb, hml, hown, hts⟩ (mc_follows l D ct h0 y 20 w49_5 rw49 q k27 jw49 (Int32.lt_iff_toInt_lt.mp (zI.nle c16))) (wqX12_410_mc_follows hts ⟨Nat.le_of_ble_eq_true rfl, Nat.le_of_ble_eq_true rfl⟩) hw hS hA hK hN rfl hl.1 rfl (Nat.le_of_ble_eq_true rfl) dX12_judged_63 66 rfl (fun u29 H locs pu29 hw hS => ?_)
        obtain ⟨v30, r31⟩ := u29
        have hv30 : zI 0 1 v30 := pu29.1
        have ju29 : mJ 20 r31 := pu29.2.1
        have fu29 : zFr [15, 16, 17, 18, 19, 20, 21, 22, 23, 24, 32] rw49 r31 := pu29.2.2.1
        have xu29 : (v30, r31) = (Gm_follows w49_5 rw49 q) := pu29.2.2.2.1
        have hE := zc_vrE xu29 hE
        have hw : zPD D A (mW ct h0 y r31 q) H := hw
        refine zfr 66 [.int v30] rfl rfl ?_
        refine lv_istore (lv' := [(6, .int v30), (0, .ref h0), (1, .int a1), (2, .int w49_2), (3, .int w49_3), (4, .int w49_4), (5, .int w49_5)]) hx hb dX12_judged_66 hl (by decide) rfl (fun ls hl => ?_)
        refine lv_iload hx hb dX12_judged_68 (lv_at hl 0 rfl) ?_
        refine lv_if_ne (tgt := 80) hx hb dX12_judged_70 (by decide) (fun c32 => ?_) (fun c32 => ?_)
        · have hE := zifnT c32 hE
          have k33 : zI 1 1 (v30) := zI.neD c32 hv30 (zI.lit (a := 0) (b := 0) (c := 0) (by decide)) (by decide)
          exact cut80 w49_3 v30 r31 hw49_1 hw49_3 hw49_4 k27 (k33.w (c := 0) (d := 1) (by decide)) ju29 (fw49.tr fu29 rfl) (fu29.at k28 rfl) (by rw [(fu29 25 rfl)]; exact Int32.lt_iff_toInt_lt.mp (zI.nle c16)) hE H locs ls hw hS (lv_sub hl [1, 2, 3, 4, 5, 6, 0] rfl)
        · have hE := zifnF c32 hE
          have k34 : zI 0 0 (v30) := zI.eqq c32 (zI.lit (a := 0) (b := 0) (c := 0) (by decide))
          refine lv_iload_n hx hb dX12_judged_73 rfl (lv_at hl 4 rfl) ?_
          refine lv_if_ge (tgt := 80) hx hb dX12_judged_74 (by decide) (fun c35 => ?_) (fun c35 => ?_)
          · have hE := zifT c35 hE
            have k36 : zI 0 39 (w49_3) := zI.leD c35 (zI.lit (a := 0) (b := 0) (c := 0) (by decide)) hw49_3 (by decide)
            exact cut80 w49_3 v30 r31 hw49_1 (k36.w (c := (-1)) (d := 39) (by decide)) hw49_4 k27 (k34.w (c := 0) (d := 1) (by decide)) ju29 (fw49.tr fu29 rfl) (fu29.at k28 rfl) (by rw [(fu29 25 rfl)]; exact Int32.lt_iff_toInt_lt.mp (zI.nle c16)) hE H locs ls hw hS (lv_sub hl [1, 2, 3, 4, 5, 6, 0] rfl)
          · have hE := zifF c35 hE
            have k37 : zI (-1) (-1) (w49_3) := zI.ltU (zI.nle c35) hw49_3 (zI.lit (a := 0) (b := 0) (c := 0) (by decide)) (by decide)
            refine lv_iload hx hb dX12_judged_77 (lv_at hl 6 rfl) ?_
            refine lv_istore_n (lv' := [(3, .int w49_5), (6, .int v30), (0, .ref h0), (1, .int a1), (2, .int w49_2), (4, .int w49_4), (5, .int w49_5)]) hx hb dX12_judged_79 rfl hl (by decide) rfl (fun ls hl => ?_)
            exact cut80 w49_5 v30 r31 hw49_1 (k27.w (c := (-1)) (d := 39) (by decide)) hw49_4 k27 (k34.w (c := 0) (d := 1) (by decide)) ju29 (fw49.tr fu29 rfl) (fu29.at k28 rfl) (by rw [(fu29 25 rfl)]; exact Int32.lt_iff_toInt_lt.mp (zI.nle c16)) hE H locs ls hw hS (lv_sub hl [2, 3, 4, 0, 5, 6, 1] rfl)
  intro H locs hw hS ls hl
  have hl : lv_has ls 7 [(0, .ref h0), (1, .int a1)] := hl
  have hE := hX
  unfold Gm_judged at hE
  refine lv_aload_n hx hb dX12_judged_0 rfl (lv_at hl 0 rfl) ?_
  refine lv_iconst (v := 0) hx hb dX12_judged_1 (by decide) ?_
  refine mput (ty := .int) (v := .int 0) hx hb hts hiX12 hown hK hw hS 0 (by decide) lf129 rfl rfl (by decide +kernel) rfl rfl dX12_judged_2 (zset r 100 (fun _ => (0 : Int32))) _ mWf0 (fun H locs hw hS => ?_)
  refine mgen (P := fun x => mJ 20 x ∧ zFr [15, 16, 17, 18, 19, 20, 21, 22, 23, 24, 100, 33, 32] r x) hw ⟨hJ0.setc rfl (fun _ => (zI.top _)), (zFr.refl).set rfl⟩ (fun r38 er38 hw pr38 => ?_)
  have hE := zletE er38 hE
  refine lv_iload_n hx hb dX12_judged_5 rfl (lv_at hl 1 rfl) ?_
  refine lv_iconst (v := 0) hx hb dX12_judged_6 (by decide) ?_
  refine lv_iconst (v := 2) hx hb dX12_judged_7 (by decide) ?_
  refine scallE (As := [.int a1, .int 0, .int 2]) (rest := []) ⟨hx, hb, hml, hown, hts⟩ (mc_within l D ct a1 0 2) (va_cwS 3 hts (kgS (zr25 11 rfl) (zr25 12 rfl) (zr1 5 rfl) (zr25 13 rfl)) rfl rfl rfl (by decide +kernel) ⟨Nat.le_of_ble_eq_true rfl, Nat.le_of_ble_eq_true rfl⟩) hw hS hA hK hN mWn rfl hl.1 rfl (Nat.le_of_ble_eq_true rfl) dX12_judged_8 11 rfl (fun u39 H locs pu39 hw hS => ?_)
  have hu39 : zI 0 1 u39 := pu39.1
  have yu39_0 : ¬ u39 = 0 → (0 : Int32) ≤ a1 ∧ a1 ≤ (2 : Int32) := pu39.2.1
  have xu39 : u39 = (Gm_within a1 (0 : Int32) (2 : Int32)) := pu39.2.2.1
  have hE := zletE xu39 hE
  refine zfr 11 [.int u39] rfl rfl ?_
  refine lv_if_ne (tgt := 17) hx hb dX12_judged_11 (by decide) (fun c41 => ?_) (fun c41 => ?_)
  · have hE := zifnT c41 hE
    have k42 : zI 1 1 (u39) := zI.neD c41 hu39 (zI.lit (a := 0) (b := 0) (c := 0) (by decide)) (by decide)
    have k43 : zI 0 2147483647 (a1) := zI.leD (yu39_0 c41).1 (zI.lit (a := 0) (b := 0) (c := 0) (by decide)) (zI.top _) (by decide)
    have k44 : zI 0 2 (a1) := zI.leU (yu39_0 c41).2 k43 (zI.lit (a := 2) (b := 2) (c := 2) (by decide)) (by decide)
    refine lv_aload_n hx hb dX12_judged_17 rfl (lv_at hl 0 rfl) ?_
    refine mget (v := .ref (y 32)) hx hb hts hiX12 hown hK hw 45 (by decide) lf108 rfl rfl dX12_judged_18 ?_
    refine lv_iconst (v := 0) hx hb dX12_judged_21 (by decide) ?_
    refine lv_aload_n hx hb dX12_judged_22 rfl (lv_at hl 0 rfl) ?_
    refine mget (v := .ref (y 33)) hx hb hts hiX12 hown hK hw 46 (by decide) lf111 rfl rfl dX12_judged_23 ?_
    refine lv_iconst (v := 0) hx hb dX12_judged_26 (by decide) ?_
    refine mcp2 33 34 (As := [.ref (y 32), .int 0, .ref (y 33), .int 0]) (rest := []) ⟨hx, hb, hml, hown, hts⟩ (c_copies l D ct (y 32) (0) (y 33) (0) 31 31 (r38 32) (r38 33) (by decide) (by decide) (by decide) (by decide)) (va_cwS 4 hts (kgSm (zr36 17 rfl) (zr36 18 rfl) (zr1 5 rfl) mL_X12_copies) rfl rfl rfl (by decide +kernel) ⟨Nat.le_of_ble_eq_true rfl, Nat.le_of_ble_eq_true rfl⟩) hw hS hA hK hN mWg32 mWg33 rfl rfl (by decide) rfl hl.1 rfl (Nat.le_of_ble_eq_true rfl) dX12_judged_27 mWs33 (fun _ H locs _ hw hS => ?_)
    have hw : zPD D A (mW ct h0 y (zset r38 33 (zcp (r38 32) (r38 33) (0) (0) 31)) q) H := hw
    refine zfr 30 [] rfl rfl ?_
    refine mgen (P := fun x => mJ 20 x ∧ zFr [15, 16, 17, 18, 19, 20, 21, 22, 23, 24, 100, 33, 32] r x) hw ⟨mcp_o pr38.1 (Or.inl ⟨Or.inl rfl, rfl⟩) rfl, pr38.2.set rfl⟩ (fun r45 er45 hw pr45 => ?_)
    have hE := zletE er45 hE
    refine lv_aload_n hx hb dX12_judged_30 rfl (lv_at hl 0 rfl) ?_
    refine mcallV (As := []) (rest := []) ⟨hx, hb, hml, hown, hts⟩ (mc_fresh0 l D ct h0 y 20 r45 q pr45.1) (wqX12_333_mc_fresh0 hts ⟨Nat.le_of_ble_eq_true rfl, Nat.le_of_ble_eq_true rfl⟩) hw hS hA hK hN rfl hl.1 rfl (Nat.le_of_ble_eq_true rfl) dX12_judged_31 34 rfl (fun u46 H locs pu46 hw hS => ?_)
    have ju46 : mJ 20 u46 := pu46.1
    have fu46 : zFr [32] r45 u46 := pu46.2.1
    have xu46 : u46 = (Gm_fresh0 r45 q) := pu46.2.2.1
    have hE := zletE xu46 hE
    have hw : zPD D A (mW ct h0 y u46 q) H := hw
    refine zfr 34 [] rfl rfl ?_
    refine lv_aload_n hx hb dX12_judged_34 rfl (lv_at hl 0 rfl) ?_
    refine lv_bipush (v := 19) hx hb dX12_judged_35 (by decide) ?_
    refine mcallV (As := [.int 19]) (rest := []) ⟨hx, hb, hml, hown, hts⟩ (mc_allOf l D ct h0 y 20 19 u46 q ((zI.lit (a := 19) (b := 19) (c := 19) (by decide)).w (c := 13) (d := 19) (by decide)) ju46) (wqX12_407_mc_allOf hts ⟨Nat.le_of_ble_eq_true rfl, Nat.le_of_ble_eq_true rfl⟩) hw hS hA hK hN rfl hl.1 rfl (Nat.le_of_ble_eq_true rfl) dX12_judged_37 40 rfl (fun u48 H locs pu48 hw hS => ?_)
    have hu48 : zI (-2147483648) 2147483647 u48 := pu48.1
    have xu48 : u48 = (Gm_allOf (19 : Int32) u46 q) := pu48.2.1
    have hE := zletE xu48 hE
    have hw : zPD D A (mW ct h0 y u46 q) H := hw
    refine zfr 40 [.int u48] rfl rfl ?_
    refine lv_istore_n (lv' := [(2, .int u48), (0, .ref h0), (1, .int a1)]) hx hb dX12_judged_40 rfl hl (by decide) rfl (fun ls hl => ?_)
    refine lv_iconst (v := (-1)) hx hb dX12_judged_41 (by decide) ?_
    refine lv_istore_n (lv' := [(3, .int (-1)), (2, .int u48), (0, .ref h0), (1, .int a1)]) hx hb dX12_judged_42 rfl hl (by decide) rfl (fun ls hl => ?_)
    refine lv_iconst (v := (-1)) hx hb dX12_judged_43 (by decide) ?_
    refine lv_istore (lv' := [(4, .int (-1)), (3, .int (-1)), (2, .int u48), (0, .ref h0), (1, .int a1)]) hx hb dX12_judged_44 hl (by decide) rfl (fun ls hl => ?_)
    refine lv_iconst (v := 0) hx hb dX12_judged_46 (by decide) ?_
    refine lv_istore (lv' := [(5, .int 0), (4, .int (-1)), (3, .int (-1)), (2, .int u48), (0, .ref h0), (1, .int a1)]) hx hb dX12_judged_47 hl (by decide) rfl (fun ls hl => ?_)
    exact cut49 41 u48 (-1) (-1) 0 u46 k44 ((zI.lit (a := (-1)) (b := (-1)) (c := (-1)) (by decide)).w (c := (-1)) (d := 39) (by decide)) ((zI.lit (a := (-1)) (b := (-1)) (c := (-1)) (by decide)).w (c := (-1)) (d := 39) (by decide)) ((zI.lit (a := 0) (b := 0) (c := 0) (by decide)).w (c := 0) (d := 40) (by decide)) ju46 (pr45.2.tr fu46 rfl) hE (zI.m0 (zI.lit (a := 0) (b := 0) (c := 0) (by decide)) (by decide)) H locs ls hw hS (lv_sub hl [4, 5, 3, 2, 1, 0] rfl)
  · have hE := zifnF c41 hE
    have k50 : zI 0 0 (u39) := zI.eqq c41 (zI.lit (a := 0) (b := 0) (c := 0) (by decide))
    refine lv_bipush (v := (-2)) hx hb dX12_judged_14 (by decide) ?_
    exact ziretQ hQ hx hb hr rfl hlocks ((-2), r38) rfl ⟨(zI.top _), pr38.1, pr38.2, (hE.symm.trans hX), trivial⟩ hw hS dX12_judged_16

noncomputable def Gm_spreads_87 (w5_4 : Int32) (ih5 : Int32 → Int32 → zRr → (Int32 × zRr)) (w87_3 : Int32) (rw87 : zRr) : Int32 × zRr :=
  ih5 w87_3 (w5_4 + 1) rw87
noncomputable def Gm_spreads_79 (w31_3 : Int32) (w31_5 : Int32) (ih31 : Int32 → Int32 → zRr → (Int32 × zRr)) (w79_s0 : Int32) (rw79 : zRr) : Int32 × zRr :=
  ih31 (w31_3 ||| w79_s0) (w31_5 + 1) rw79
noncomputable def Gm_spreads_78 (w31_3 : Int32) (w31_5 : Int32) (ih31 : Int32 → Int32 → zRr → (Int32 × zRr)) (rw78 : zRr) : Int32 × zRr :=
  Gm_spreads_79 w31_3 w31_5 ih31 0 rw78
noncomputable def Bm_spreads_31 (a1 : Int32) (q : zRq) (w5_4 : Int32) (ih5 : Int32 → Int32 → zRr → (Int32 × zRr)) (ih31 : Int32 → Int32 → zRr → (Int32 × zRr)) (w31_3 : Int32) (w31_5 : Int32) (rw31 : zRr) : Int32 × zRr :=
  zlet (α := Int32) (rw31 1 0) <| fun v4 => zif (v4 ≤ w31_5) (Gm_spreads_87 w5_4 ih5 w31_3 rw31) (zlet (α := Int32) (rw31 5 (zn w5_4)) <| fun v8 => zlet (α := Int32) (v8 >>> (w31_5 &&& 31)) <| fun v9 => zlet (α := Int32) (v9 &&& 1) <| fun v10 => zifn (v10 = (1 : Int32)) (Gm_spreads_78 w31_3 w31_5 ih31 rw31) (zc_vr (Gm_lets w31_5 a1 w5_4 rw31 q) <| fun v15 r16 => zif (v15 = (0 : Int32)) (Gm_spreads_78 w31_3 w31_5 ih31 r16) (zlet (α := Int32) (1 <<< (w31_5 &&& 31)) <| fun v20 => Gm_spreads_79 w31_3 w31_5 ih31 v20 r16)))
noncomputable def Gm_spreads_31 (a1 : Int32) (q : zRq) (w5_4 : Int32) (ih5 : Int32 → Int32 → zRr → (Int32 × zRr)) (n : Nat) : Int32 → Int32 → zRr → (Int32 × zRr) :=
  Nat.rec (motive := fun _ => Int32 → Int32 → zRr → (Int32 × zRr)) (fun _ _ rw31 => (default, rw31)) (fun _ ih => Bm_spreads_31 a1 q w5_4 ih5 ih) n
noncomputable def Bm_spreads_5 (a1 : Int32) (a2 : Int32) (q : zRq) (ih5 : Int32 → Int32 → zRr → (Int32 × zRr)) (w5_3 : Int32) (w5_4 : Int32) (rw5 : zRr) : Int32 × zRr :=
  zlet (α := Int32) (rw5 1 0) <| fun v21 => zif (v21 ≤ w5_4) ((w5_3, rw5)) (zlet (α := Int32) (a2 >>> (w5_4 &&& 31)) <| fun v25 => zlet (α := Int32) (v25 &&& 1) <| fun v26 => zifn (v26 = (0 : Int32)) (Gm_spreads_31 a1 q w5_4 ih5 7 w5_3 0 rw5) (Gm_spreads_87 w5_4 ih5 w5_3 rw5))
noncomputable def Gm_spreads_5 (a1 : Int32) (a2 : Int32) (q : zRq) (n : Nat) : Int32 → Int32 → zRr → (Int32 × zRr) :=
  Nat.rec (motive := fun _ => Int32 → Int32 → zRr → (Int32 × zRr)) (fun _ _ rw5 => (default, rw5)) (fun _ ih => Bm_spreads_5 a1 a2 q ih) n
noncomputable def Gm_spreads (a1 : Int32) (a2 : Int32) (r : zRr) (q : zRq) : Int32 × zRr :=
  Gm_spreads_5 a1 a2 q 7 a2 0 r
set_option maxHeartbeats 4000000 in
set_option maxRecDepth 100000 in
theorem mc_spreads (l : Launch) (D : va_G) (ct : Nat → ClassId) (h0 : Nat) (y : Nat → Nat) (B : Int) (a1 : Int32) (a2 : Int32) (r : zRr) (q : zRq) (g1 : zI 0 5 a1) (g2 : zI 0 63 a2) (hJ0 : mJ B r) : zC l yX12_spreads (.code yX12_spreads cX12_spreads 6 (some .int) :: wsL_law0) ({ frames := 8, cells := 0, slots := 0, locals := 360 }) D ct [] [.ref h0, .int a1, .int a2] (mW ct h0 y r q) (S := Int32 × zRr) (fun u => some (.int u.1)) (fun u => zI 0 63 u.1 ∧ mJ B u.2 ∧ zFr [15, 16, 17, 18, 19, 20, 21, 22, 23, 24] r u.2 ∧ (a2.toInt ≤ u.1.toInt) ∧ u = (Gm_spreads a1 a2 r q) ∧ True) (fun u => mW ct h0 y u.2 q) 0 0 := by
  refine zofQ cX12_spreads 6 (some .int) (by decide) rfl (Nat.le_of_ble_eq_true rfl) ?_
  intro p e s m below meth c A a9 Q ha9 hx hb hr hml hts hown hlocks hname hK hA hZ hN hQ
  have hown : s.vm.findClass RX12 = some m.cls := hown
  have hiX12 : ∀ w ∈ wsX120, w ∈ .code yX12_spreads cX12_spreads 6 (some .int) :: wsL_law0 := fun _ h => ki (zs_wsX120 _ h)
  have lf13 := hts (.fieldLink RX12 13 "BeardPassModel" "land" "[I") (ki (zr7 20 rfl))
  have lf26 := hts (.fieldLink RX12 26 "BeardPassModel" "roads" "[I") (ki (zr8 0 rfl))
  obtain ⟨X, hX⟩ : ∃ X, X = (Gm_spreads a1 a2 r q) := ⟨_, rfl⟩
  have cut5 : ∀ (n5 : Nat) (w5_3 : Int32) (w5_4 : Int32) (rw5 : zRr) (hw5_1 : zI 0 5 a1) (hw5_2 : zI 0 63 a2) (hw5_3 : zI 0 63 w5_3) (hw5_4 : zI 0 6 w5_4) (jw5 : mJ B rw5) (fw5 : zFr [15, 16, 17, 18, 19, 20, 21, 22, 23, 24] r rw5) (x5 : a2.toInt ≤ w5_3.toInt) (hE : X = Gm_spreads_5 a1 a2 q n5 w5_3 w5_4 rw5), 6 - w5_4.toInt < (n5 : Int) → zKf p l e ({ frames := 8, cells := 0, slots := 0, locals := 360 }) s m a9 below meth c Q D A 5 6 [] (mW ct h0 y rw5 q) [(0, .ref h0), (1, .int a1), (2, .int a2), (3, .int w5_3), (4, .int w5_4)] := by
    intro n5
    induction n5 with
    | zero => intro w5_3 w5_4 rw5 hw5_1 hw5_2 hw5_3 hw5_4 jw5 fw5 x5 hE hm5; exact zI.no hw5_4 (by decide) hm5
    | succ n5 ih5 =>
      intro w5_3 w5_4 rw5 hw5_1 hw5_2 hw5_3 hw5_4 jw5 fw5 x5 hE hm5
      have hE : X = Bm_spreads_5 a1 a2 q (Gm_spreads_5 a1 a2 q n5) w5_3 w5_4 rw5 := hE
      unfold Bm_spreads_5 at hE
      have cut87 : ∀ (w87_3 : Int32) (rw87 : zRr) (hw87_1 : zI 0 5 a1) (hw87_2 : zI 0 63 a2) (hw87_3 : zI 0 63 w87_3) (hw87_4 : zI 0 5 w5_4) (jw87 : mJ B rw87) (fw87 : zFr [15, 16, 17, 18, 19, 20, 21, 22, 23, 24] r rw87) (x87 : a2.toInt ≤ w87_3.toInt) (hE : X = Gm_spreads_87 w5_4 (Gm_spreads_5 a1 a2 q n5) w87_3 rw87), zKf p l e ({ frames := 8, cells := 0, slots := 0, locals := 360 }) s m a9 below meth c Q D A 87 6 [] (mW ct h0 y rw87 q) [(0, .ref h0), (1, .int a1), (2, .int a2), (3, .int w87_3), (4, .int w5_4)] := by
        intro w87_3 rw87 hw87_1 hw87_2 hw87_3 hw87_4 jw87 fw87 x87 hE H locs ls hw hS hl
        unfold Gm_spreads_87 at hE
        refine lv_iinc (v := w5_4 + 1) (lv' := [(4, .int (w5_4 + 1)), (0, .ref h0), (1, .int a1), (2, .int a2), (3, .int w87_3)]) hx hb dX12_spreads_87 hl (k := 4) rfl (rfl) (by decide) rfl (fun ls hl => ?_)
        have k1 : zI 1 6 (w5_4 + 1) := zI.add hw87_4 (zI.lit (a := 1) (b := 1) (by decide)) (by decide)
        refine lv_goto (tgt := 5) hx hb dX12_spreads_90 (by decide) ?_
        exact ih5 w87_3 (w5_4 + 1) rw87 hw87_1 hw87_2 hw87_3 (k1.w (c := 0) (d := 6) (by decide)) jw87 fw87 (x87) hE (zI.up hw87_4 (by decide) hm5) H locs ls hw hS (lv_sub hl [1, 2, 3, 4, 0] rfl)
      have cut31 : ∀ (n31 : Nat) (w31_3 : Int32) (w31_5 : Int32) (rw31 : zRr) (hw31_1 : zI 0 5 a1) (hw31_2 : zI 0 63 a2) (hw31_3 : zI 0 63 w31_3) (hw31_4 : zI 0 5 w5_4) (hw31_5 : zI 0 6 w31_5) (jw31 : mJ B rw31) (fw31 : zFr [15, 16, 17, 18, 19, 20, 21, 22, 23, 24] r rw31) (x31 : a2.toInt ≤ w31_3.toInt) (hE : X = Gm_spreads_31 a1 q w5_4 (Gm_spreads_5 a1 a2 q n5) n31 w31_3 w31_5 rw31), 6 - w31_5.toInt < (n31 : Int) → zKf p l e ({ frames := 8, cells := 0, slots := 0, locals := 360 }) s m a9 below meth c Q D A 31 6 [] (mW ct h0 y rw31 q) [(0, .ref h0), (1, .int a1), (2, .int a2), (3, .int w31_3), (4, .int w5_4), (5, .int w31_5)] := by
        intro n31
        induction n31 with
        | zero => intro w31_3 w31_5 rw31 hw31_1 hw31_2 hw31_3 hw31_4 hw31_5 jw31 fw31 x31 hE hm31; exact zI.no hw31_5 (by decide) hm31
        | succ n31 ih31 =>
          intro w31_3 w31_5 rw31 hw31_1 hw31_2 hw31_3 hw31_4 hw31_5 jw31 fw31 x31 hE hm31
          have hE : X = Bm_spreads_31 a1 q w5_4 (Gm_spreads_5 a1 a2 q n5) (Gm_spreads_31 a1 q w5_4 (Gm_spreads_5 a1 a2 q n5) n31) w31_3 w31_5 rw31 := hE
          unfold Bm_spreads_31 at hE
          have cut79 : ∀ (w79_s0 : Int32) (rw79 : zRr) (hw79_1 : zI 0 5 a1) (hw79_2 : zI 0 63 a2) (hw79_4 : zI 0 5 w5_4) (hw79_5 : zI 0 5 w31_5) (hw79_s0 : zI 0 39 w79_s0) (hw79_s1 : zI 0 63 w31_3) (jw79 : mJ B rw79) (fw79 : zFr [15, 16, 17, 18, 19, 20, 21, 22, 23, 24] r rw79) (x79 : a2.toInt ≤ w31_3.toInt) (hE : X = Gm_spreads_79 w31_3 w31_5 (Gm_spreads_31 a1 q w5_4 (Gm_spreads_5 a1 a2 q n5) n31) w79_s0 rw79), zKf p l e ({ frames := 8, cells := 0, slots := 0, locals := 360 }) s m a9 below meth c Q D A 79 6 [.int w79_s0, .int w31_3] (mW ct h0 y rw79 q) [(0, .ref h0), (1, .int a1), (2, .int a2), (4, .int w5_4), (5, .int w31_5)] := by
            intro w79_s0 rw79 hw79_1 hw79_2 hw79_4 hw79_5 hw79_s0 hw79_s1 jw79 fw79 x79 hE H locs ls hw hS hl
            unfold Gm_spreads_79 at hE
            refine lv_ior hx hb dX12_spreads_79 ?_
            have k2 : zI 0 63 (w31_3 ||| w79_s0) := zI.or 6 hw79_s1 hw79_s0 (by decide)
            refine lv_istore_n (lv' := [(3, .int (w31_3 ||| w79_s0)), (0, .ref h0), (1, .int a1), (2, .int a2), (4, .int w5_4), (5, .int w31_5)]) hx hb dX12_spreads_80 rfl hl (by decide) rfl (fun ls hl => ?_)
            refine lv_iinc (v := w31_5 + 1) (lv' := [(5, .int (w31_5 + 1)), (3, .int (w31_3 ||| w79_s0)), (0, .ref h0), (1, .int a1), (2, .int a2), (4, .int w5_4)]) hx hb dX12_spreads_81 hl (k := 5) rfl (rfl) (by decide) rfl (fun ls hl => ?_)
            have k3 : zI 1 6 (w31_5 + 1) := zI.add hw79_5 (zI.lit (a := 1) (b := 1) (by decide)) (by decide)
            refine lv_goto (tgt := 31) hx hb dX12_spreads_84 (by decide) ?_
            exact ih31 (w31_3 ||| w79_s0) (w31_5 + 1) rw79 hw79_1 hw79_2 k2 hw79_4 (k3.w (c := 0) (d := 6) (by decide)) jw79 fw79 (Int.le_trans x79 (zI.orle hw79_s1 hw79_s0 (by decide))) hE (zI.up hw79_5 (by decide) hm31) H locs ls hw hS (lv_sub hl [2, 3, 4, 1, 5, 0] rfl)
          have cut78 : ∀ (rw78 : zRr) (hw78_1 : zI 0 5 a1) (hw78_2 : zI 0 63 a2) (hw78_4 : zI 0 5 w5_4) (hw78_5 : zI 0 5 w31_5) (hw78_s0 : zI 0 63 w31_3) (jw78 : mJ B rw78) (fw78 : zFr [15, 16, 17, 18, 19, 20, 21, 22, 23, 24] r rw78) (x78 : a2.toInt ≤ w31_3.toInt) (hE : X = Gm_spreads_78 w31_3 w31_5 (Gm_spreads_31 a1 q w5_4 (Gm_spreads_5 a1 a2 q n5) n31) rw78), zKf p l e ({ frames := 8, cells := 0, slots := 0, locals := 360 }) s m a9 below meth c Q D A 78 6 [.int w31_3] (mW ct h0 y rw78 q) [(0, .ref h0), (1, .int a1), (2, .int a2), (4, .int w5_4), (5, .int w31_5)] := by
            intro rw78 hw78_1 hw78_2 hw78_4 hw78_5 hw78_s0 jw78 fw78 x78 hE H locs ls hw hS hl
            unfold Gm_spreads_78 at hE
            refine lv_iconst (v := 0) hx hb dX12_spreads_78 (by decide) ?_
            exact cut79 0 rw78 hw78_1 hw78_2 hw78_4 hw78_5 ((zI.lit (a := 0) (b := 0) (c := 0) (by decide)).w (c := 0) (d := 39) (by decide)) hw78_s0 jw78 fw78 (x78) hE H locs ls hw hS (lv_sub hl [0, 1, 2, 3, 4] rfl)
          intro H locs ls hw hS hl
          refine lv_iload hx hb dX12_spreads_31 (lv_at hl 5 rfl) ?_
          refine lv_aload_n hx hb dX12_spreads_33 rfl (lv_at hl 0 rfl) ?_
          refine mget (v := .ref (y 1)) hx hb hts hiX12 hown hK hw 10 (by decide) lf13 rfl rfl dX12_spreads_34 ?_
          refine lv_iconst (v := 0) hx hb dX12_spreads_37 (by decide) ?_
          refine ziald hx hb hK hw 2 mWg1 0 (by decide) (by decide) (by decide) dX12_spreads_38 (zgenE (lo := 0) (hi := 6) ((show zI 0 6 (rw31 1 0) from jw31.i 1 0)) (fun v4 ev4 hv4 => ?_))
          have hE := zletE ev4 hE
          refine lv_icmp_ge (tgt := 87) hx hb dX12_spreads_39 (by decide) (fun c5 => ?_) (fun c5 => ?_)
          · have hE := zifT c5 hE
            exact cut87 w31_3 rw31 hw31_1 hw31_2 hw31_3 hw31_4 jw31 fw31 (x31) hE H locs ls hw hS (lv_sub hl [0, 1, 2, 3, 4] rfl)
          · have hE := zifF c5 hE
            have k6 : zI 0 5 (w31_5) := zI.ltU (zI.nle c5) hw31_5 hv4 (by decide)
            have k7 : zI 1 6 (v4) := zI.ltD (zI.nle c5) hw31_5 hv4 (by decide)
            refine lv_iload_n hx hb dX12_spreads_42 rfl (lv_at hl 3 rfl) ?_
            refine lv_aload_n hx hb dX12_spreads_43 rfl (lv_at hl 0 rfl) ?_
            refine mget (v := .ref (y 5)) hx hb hts hiX12 hown hK hw 14 (by decide) lf26 rfl rfl dX12_spreads_44 ?_
            refine lv_iload hx hb dX12_spreads_47 (lv_at hl 4 rfl) ?_
            refine miald hx hb hK hw 6 mWg5 hw31_4 (by decide) dX12_spreads_49 (zgenE (zI.top _) (fun v8 ev8 _ => ?_))
            have hE := zletE ev8 hE
            refine lv_iload hx hb dX12_spreads_50 (lv_at hl 5 rfl) ?_
            refine lv_ishr hx hb dX12_spreads_52 (zgenE (zI.top _) (fun v9 ev9 _ => ?_))
            have hE := zletE ev9 hE
            refine lv_iconst (v := 1) hx hb dX12_spreads_53 (by decide) ?_
            refine lv_iand hx hb dX12_spreads_54 (zgenE (lo := 0) (hi := 1) (zI.and (zI.lit (a := 1) (b := 1) (c := 1) (by decide)) (by decide)) (fun v10 ev10 hv10 => ?_))
            have hE := zletE ev10 hE
            refine lv_iconst (v := 1) hx hb dX12_spreads_55 (by decide) ?_
            refine lv_icmp_ne (tgt := 78) hx hb dX12_spreads_56 (by decide) (fun c11 => ?_) (fun c11 => ?_)
            · have hE := zifnT c11 hE
              have k12 : zI 0 0 (v10) := zI.neU c11 hv10 (zI.lit (a := 1) (b := 1) (c := 1) (by decide)) (by decide)
              exact cut78 rw31 hw31_1 hw31_2 hw31_4 k6 hw31_3 jw31 fw31 (x31) hE H locs ls hw hS (lv_sub hl [0, 1, 2, 4, 5] rfl)
            · have hE := zifnF c11 hE
              have k13 : zI 1 1 (v10) := zI.eqq c11 (zI.lit (a := 1) (b := 1) (c := 1) (by decide))
              refine lv_aload_n hx hb dX12_spreads_59 rfl (lv_at hl 0 rfl) ?_
              refine lv_iload hx hb dX12_spreads_60 (lv_at hl 5 rfl) ?_
              refine lv_iload_n hx hb dX12_spreads_62 rfl (lv_at hl 1 rfl) ?_
              refine lv_iload hx hb dX12_spreads_63 (lv_at hl 4 rfl) ?_
              refine mcallV (As := [.int w31_5, .int a1, .int w5_4]) (rest := [.int w31_3]) ⟨hx, hb, hml, hown, hts⟩ (mc_lets l D ct h0 y B w31_5 a1 w5_4 rw31 q k6 hw31_1 jw31) (wqX12_362_mc_lets hts ⟨Nat.le_of_ble_eq_true rfl, Nat.le_of_ble_eq_true rfl⟩) hw hS hA hK hN rfl hl.1 rfl (Nat.le_of_ble_eq_true rfl) dX12_spreads_65 68 rfl (fun u14 H locs pu14 hw hS => ?_)
              obtain ⟨v15, r16⟩ := u14
              have hv15 : zI 0 1 v15 := pu14.1
              have ju14 : mJ B r16 := pu14.2.1
              have fu14 : zFr [15, 16, 17, 18, 19, 20, 21, 22, 23, 24] rw31 r16 := pu14.2.2.1
              have xu14 : (v15, r16) = (Gm_lets w31_5 a1 w5_4 rw31 q) := pu14.2.2.2.1
              have hE := zc_vrE xu14 hE
              have hw : zPD D A (mW ct h0 y r16 q) H := hw
              refine zfr 68 [.int v15, .int w31_3] rfl rfl ?_
              refine lv_if_eq (tgt := 78) hx hb dX12_spreads_68 (by decide) (fun c17 => ?_) (fun c17 => ?_)
              · have hE := zifT c17 hE
                have k18 : zI 0 0 (v15) := zI.eqq c17 (zI.lit (a := 0) (b := 0) (c := 0) (by decide))
                exact cut78 r16 hw31_1 hw31_2 hw31_4 k6 hw31_3 ju14 (fw31.tr fu14 rfl) (x31) hE H locs ls hw hS (lv_sub hl [0, 1, 2, 4, 5] rfl)
              · have hE := zifF c17 hE
                have k19 : zI 1 1 (v15) := zI.neD c17 hv15 (zI.lit (a := 0) (b := 0) (c := 0) (by decide)) (by decide)
                refine lv_iconst (v := 1) hx hb dX12_spreads_71 (by decide) ?_
                refine lv_iload hx hb dX12_spreads_72 (lv_at hl 5 rfl) ?_
                refine lv_ishl hx hb dX12_spreads_74 (zgenE (lo := 1) (hi := 32) (zI.shl k6 5 (by decide)) (fun v20 ev20 hv20 => ?_))
                have hE := zletE ev20 hE
                refine lv_goto (tgt := 79) hx hb dX12_spreads_75 (by decide) ?_
                exact cut79 v20 r16 hw31_1 hw31_2 hw31_4 k6 (hv20.w (c := 0) (d := 39) (by decide)) hw31_3 ju14 (fw31.tr fu14 rfl) (x31) hE H locs ls hw hS (lv_sub hl [0, 1, 2, 4, 5] rfl)
      intro H locs ls hw hS hl
      refine lv_iload hx hb dX12_spreads_5 (lv_at hl 4 rfl) ?_
      refine lv_aload_n hx hb dX12_spreads_7 rfl (lv_at hl 0 rfl) ?_
      refine mget (v := .ref (y 1)) hx hb hts hiX12 hown hK hw 10 (by decide) lf13 rfl rfl dX12_spreads_8 ?_
      refine lv_iconst (v := 0) hx hb dX12_spreads_11 (by decide) ?_
      refine ziald hx hb hK hw 2 mWg1 0 (by decide) (by decide) (by decide) dX12_spreads_12 (zgenE (lo := 0) (hi := 6) ((show zI 0 6 (rw5 1 0) from jw5.i 1 0)) (fun v21 ev21 hv21 => ?_))
      have hE := zletE ev21 hE
      refine lv_icmp_ge (tgt := 93) hx hb dX12_spreads_13 (by decide) (fun c22 => ?_) (fun c22 => ?_)
      · have hE := zifT c22 hE
        refine lv_iload_n hx hb dX12_spreads_93 rfl (lv_at hl 3 rfl) ?_
        exact ziretQ hQ hx hb hr rfl hlocks (w5_3, rw5) rfl ⟨hw5_3, jw5, fw5, (show a2.toInt ≤ w5_3.toInt from x5), (hE.symm.trans hX), trivial⟩ hw hS dX12_spreads_94
      · have hE := zifF c22 hE
        have k23 : zI 0 5 (w5_4) := zI.ltU (zI.nle c22) hw5_4 hv21 (by decide)
        have k24 : zI 1 6 (v21) := zI.ltD (zI.nle c22) hw5_4 hv21 (by decide)
        refine lv_iload_n hx hb dX12_spreads_16 rfl (lv_at hl 2 rfl) ?_
        refine lv_iload hx hb dX12_spreads_17 (lv_at hl 4 rfl) ?_
        refine lv_ishr hx hb dX12_spreads_19 (zgenE (lo := 0) (hi := 63) (zI.shr hw5_2 (by decide)) (fun v25 ev25 hv25 => ?_))
        have hE := zletE ev25 hE
        refine lv_iconst (v := 1) hx hb dX12_spreads_20 (by decide) ?_
        refine lv_iand hx hb dX12_spreads_21 (zgenE (lo := 0) (hi := 1) (zI.and (zI.lit (a := 1) (b := 1) (c := 1) (by decide)) (by decide)) (fun v26 ev26 hv26 => ?_))
        have hE := zletE ev26 hE
        refine lv_if_ne (tgt := 28) hx hb dX12_spreads_22 (by decide) (fun c27 => ?_) (fun c27 => ?_)
        · have hE := zifnT c27 hE
          have k28 : zI 1 1 (v26) := zI.neD c27 hv26 (zI.lit (a := 0) (b := 0) (c := 0) (by decide)) (by decide)
          refine lv_iconst (v := 0) hx hb dX12_spreads_28 (by decide) ?_
          refine lv_istore (lv' := [(5, .int 0), (0, .ref h0), (1, .int a1), (2, .int a2), (3, .int w5_3), (4, .int w5_4)]) hx hb dX12_spreads_29 hl (by decide) rfl (fun ls hl => ?_)
          exact cut31 7 w5_3 0 rw5 hw5_1 hw5_2 hw5_3 k23 ((zI.lit (a := 0) (b := 0) (c := 0) (by decide)).w (c := 0) (d := 6) (by decide)) jw5 fw5 (x5) hE (zI.m0 (zI.lit (a := 0) (b := 0) (c := 0) (by decide)) (by decide)) H locs ls hw hS (lv_sub hl [1, 2, 3, 4, 5, 0] rfl)
        · have hE := zifnF c27 hE
          have k29 : zI 0 0 (v26) := zI.eqq c27 (zI.lit (a := 0) (b := 0) (c := 0) (by decide))
          refine lv_goto (tgt := 87) hx hb dX12_spreads_25 (by decide) ?_
          exact cut87 w5_3 rw5 hw5_1 hw5_2 hw5_3 k23 jw5 fw5 (x5) hE H locs ls hw hS (lv_sub hl [0, 1, 2, 3, 4] rfl)
  intro H locs hw hS ls hl
  have hl : lv_has ls 6 [(0, .ref h0), (1, .int a1), (2, .int a2)] := hl
  have hE := hX
  unfold Gm_spreads at hE
  refine lv_iload_n hx hb dX12_spreads_0 rfl (lv_at hl 2 rfl) ?_
  refine lv_istore_n (lv' := [(3, .int a2), (0, .ref h0), (1, .int a1), (2, .int a2)]) hx hb dX12_spreads_1 rfl hl (by decide) rfl (fun ls hl => ?_)
  refine lv_iconst (v := 0) hx hb dX12_spreads_2 (by decide) ?_
  refine lv_istore (lv' := [(4, .int 0), (3, .int a2), (0, .ref h0), (1, .int a1), (2, .int a2)]) hx hb dX12_spreads_3 hl (by decide) rfl (fun ls hl => ?_)
  exact cut5 7 a2 0 r g1 g2 g2 ((zI.lit (a := 0) (b := 0) (c := 0) (by decide)).w (c := 0) (d := 6) (by decide)) hJ0 (zFr.refl) (Int.le_refl _) hE (zI.m0 (zI.lit (a := 0) (b := 0) (c := 0) (by decide)) (by decide)) H locs ls hw hS (lv_sub hl [2, 3, 4, 1, 0] rfl)

noncomputable def Bm_reachFrom_5 (a1 : Int32) (q : zRq) (ih5 : Int32 → Int32 → zRr → (Int32 × zRr)) (w5_3 : Int32) (w5_4 : Int32) (rw5 : zRr) : Int32 × zRr :=
  zif (w5_3 = w5_4) ((w5_3, rw5)) (zc_vr (Gm_spreads a1 w5_3 rw5 q) <| fun v3 r4 => ih5 v3 w5_3 r4)
noncomputable def Gm_reachFrom_5 (a1 : Int32) (q : zRq) (n : Nat) : Int32 → Int32 → zRr → (Int32 × zRr) :=
  Nat.rec (motive := fun _ => Int32 → Int32 → zRr → (Int32 × zRr)) (fun _ _ rw5 => (default, rw5)) (fun _ ih => Bm_reachFrom_5 a1 q ih) n
noncomputable def Gm_reachFrom (a1 : Int32) (a2 : Int32) (r : zRr) (q : zRq) : Int32 × zRr :=
  Gm_reachFrom_5 a1 q 64 a2 0 r
set_option maxHeartbeats 4000000 in
set_option maxRecDepth 100000 in
theorem mc_reachFrom (l : Launch) (D : va_G) (ct : Nat → ClassId) (h0 : Nat) (y : Nat → Nat) (B : Int) (a1 : Int32) (a2 : Int32) (r : zRr) (q : zRq) (g1 : zI 0 5 a1) (g2 : zI 0 63 a2) (hJ0 : mJ B r) : zC l yX12_reachFrom (.code yX12_reachFrom cX12_reachFrom 5 (some .int) :: wsL_law0) ({ frames := 9, cells := 0, slots := 0, locals := 400 }) D ct [] [.ref h0, .int a1, .int a2] (mW ct h0 y r q) (S := Int32 × zRr) (fun u => some (.int u.1)) (fun u => zI 0 63 u.1 ∧ mJ B u.2 ∧ zFr [15, 16, 17, 18, 19, 20, 21, 22, 23, 24] r u.2 ∧ u = (Gm_reachFrom a1 a2 r q) ∧ True) (fun u => mW ct h0 y u.2 q) 0 0 := by
  refine zofQ cX12_reachFrom 5 (some .int) (by decide) rfl (Nat.le_of_ble_eq_true rfl) ?_
  intro p e s m below meth c A a9 Q ha9 hx hb hr hml hts hown hlocks hname hK hA hZ hN hQ
  have hown : s.vm.findClass RX12 = some m.cls := hown
  obtain ⟨X, hX⟩ : ∃ X, X = (Gm_reachFrom a1 a2 r q) := ⟨_, rfl⟩
  have cut5 : ∀ (n5 : Nat) (w5_3 : Int32) (w5_4 : Int32) (rw5 : zRr) (hw5_1 : zI 0 5 a1) (hw5_3 : zI 0 63 w5_3) (hw5_4 : zI 0 63 w5_4) (jw5 : mJ B rw5) (fw5 : zFr [15, 16, 17, 18, 19, 20, 21, 22, 23, 24] r rw5) (x5 : w5_4.toInt ≤ w5_3.toInt) (hE : X = Gm_reachFrom_5 a1 q n5 w5_3 w5_4 rw5), 63 - w5_4.toInt < (n5 : Int) → zKf p l e ({ frames := 9, cells := 0, slots := 0, locals := 400 }) s m a9 below meth c Q D A 5 5 [] (mW ct h0 y rw5 q) [(0, .ref h0), (1, .int a1), (3, .int w5_3), (4, .int w5_4)] := by
    intro n5
    induction n5 with
    | zero => intro w5_3 w5_4 rw5 hw5_1 hw5_3 hw5_4 jw5 fw5 x5 hE hm5; exact zI.no hw5_4 (by decide) hm5
    | succ n5 ih5 =>
      intro w5_3 w5_4 rw5 hw5_1 hw5_3 hw5_4 jw5 fw5 x5 hE hm5
      have hE : X = Bm_reachFrom_5 a1 q (Gm_reachFrom_5 a1 q n5) w5_3 w5_4 rw5 := hE
      unfold Bm_reachFrom_5 at hE
      intro H locs ls hw hS hl
      refine lv_iload_n hx hb dX12_reachFrom_5 rfl (lv_at hl 2 rfl) ?_
      refine lv_iload hx hb dX12_reachFrom_6 (lv_at hl 3 rfl) ?_
      refine lv_icmp_eq (tgt := 25) hx hb dX12_reachFrom_8 (by decide) (fun c1 => ?_) (fun c1 => ?_)
      · have hE := zifT c1 hE
        refine lv_iload_n hx hb dX12_reachFrom_25 rfl (lv_at hl 2 rfl) ?_
        exact ziretQ hQ hx hb hr rfl hlocks (w5_3, rw5) rfl ⟨hw5_3, jw5, fw5, (hE.symm.trans hX), trivial⟩ hw hS dX12_reachFrom_26
      · have hE := zifF c1 hE
        refine lv_iload_n hx hb dX12_reachFrom_11 rfl (lv_at hl 2 rfl) ?_
        refine lv_istore (lv' := [(4, .int w5_3), (0, .ref h0), (1, .int a1), (3, .int w5_3)]) hx hb dX12_reachFrom_12 hl (by decide) rfl (fun ls hl => ?_)
        refine lv_aload_n hx hb dX12_reachFrom_14 rfl (lv_at hl 1 rfl) ?_
        refine lv_iload_n hx hb dX12_reachFrom_15 rfl (lv_at hl 2 rfl) ?_
        refine lv_iload hx hb dX12_reachFrom_16 (lv_at hl 0 rfl) ?_
        refine mcallV (As := [.int a1, .int w5_3]) (rest := []) ⟨hx, hb, hml, hown, hts⟩ (mc_spreads l D ct h0 y B a1 w5_3 rw5 q hw5_1 hw5_3 jw5) (wqX12_416_mc_spreads hts ⟨Nat.le_of_ble_eq_true rfl, Nat.le_of_ble_eq_true rfl⟩) hw hS hA hK hN rfl hl.1 rfl (Nat.le_of_ble_eq_true rfl) dX12_reachFrom_18 21 rfl (fun u2 H locs pu2 hw hS => ?_)
        obtain ⟨v3, r4⟩ := u2
        have hv3 : zI 0 63 v3 := pu2.1
        have ju2 : mJ B r4 := pu2.2.1
        have fu2 : zFr [15, 16, 17, 18, 19, 20, 21, 22, 23, 24] rw5 r4 := pu2.2.2.1
        have yu2_0 : w5_3.toInt ≤ v3.toInt := pu2.2.2.2.1
        have xu2 : (v3, r4) = (Gm_spreads a1 w5_3 rw5 q) := pu2.2.2.2.2.1
        have hE := zc_vrE xu2 hE
        have hw : zPD D A (mW ct h0 y r4 q) H := hw
        refine zfr 21 [.int v3] rfl rfl ?_
        refine lv_istore_n (lv' := [(3, .int v3), (4, .int w5_3), (0, .ref h0), (1, .int a1)]) hx hb dX12_reachFrom_21 rfl hl (by decide) rfl (fun ls hl => ?_)
        refine lv_goto (tgt := 5) hx hb dX12_reachFrom_22 (by decide) ?_
        exact ih5 v3 w5_3 r4 hw5_1 hv3 hw5_3 ju2 (fw5.tr fu2 rfl) (yu2_0) hE (by have h8 : w5_3.toInt ≠ w5_4.toInt := fun e => c1 (Int32.toInt_inj.mp e); omega) H locs ls hw hS (lv_sub hl [2, 3, 0, 1] rfl)
  intro H locs hw hS ls hl
  have hl : lv_has ls 5 [(0, .ref h0), (1, .int a1), (2, .int a2)] := hl
  have hE := hX
  unfold Gm_reachFrom at hE
  refine lv_iload_n hx hb dX12_reachFrom_0 rfl (lv_at hl 2 rfl) ?_
  refine lv_istore_n (lv' := [(3, .int a2), (0, .ref h0), (1, .int a1), (2, .int a2)]) hx hb dX12_reachFrom_1 rfl hl (by decide) rfl (fun ls hl => ?_)
  refine lv_iconst (v := 0) hx hb dX12_reachFrom_2 (by decide) ?_
  refine lv_istore (lv' := [(4, .int 0), (3, .int a2), (0, .ref h0), (1, .int a1), (2, .int a2)]) hx hb dX12_reachFrom_3 hl (by decide) rfl (fun ls hl => ?_)
  exact cut5 64 a2 0 r g1 g2 ((zI.lit (a := 0) (b := 0) (c := 0) (by decide)).w (c := 0) (d := 63) (by decide)) hJ0 (zFr.refl) (by have h9 := g2.1; have e0 : (0 : Int32).toInt = 0 := (by decide); omega) hE (by decide) H locs ls hw hS (lv_sub hl [2, 3, 1, 0] rfl)

set_option maxHeartbeats 4000000 in
set_option maxRecDepth 100000 in
theorem mc_reach (l : Launch) (D : va_G) (ct : Nat → ClassId) (h0 : Nat) (y : Nat → Nat) (B : Int) (a1 : Int32) (r : zRr) (q : zRq) (hJ0 : mJ B r) : zC l yX12_reach (.code yX12_reach cX12_reach 2 (some .int) :: wsL_law0) ({ frames := 10, cells := 0, slots := 0, locals := 440 }) D ct [] [.ref h0, .int a1] (mW ct h0 y r q) (S := Int32 × zRr) (fun u => some (.int u.1)) (fun u => zI (-1) 63 u.1 ∧ mJ B u.2 ∧ zFr [15, 16, 17, 18, 19, 20, 21, 22, 23, 24, 100] r u.2 ∧ True) (fun u => mW ct h0 y u.2 q) 0 0 := by
  refine zofQ cX12_reach 2 (some .int) (by decide) rfl (Nat.le_of_ble_eq_true rfl) ?_
  intro p e s m below meth c A a9 Q ha9 hx hb hr hml hts hown hlocks hname hK hA hZ hN hQ
  have hown : s.vm.findClass RX12 = some m.cls := hown
  have hiX12 : ∀ w ∈ wsX120, w ∈ .code yX12_reach cX12_reach 2 (some .int) :: wsL_law0 := fun _ h => ki (zs_wsX120 _ h)
  have lf108 := hts (.fieldLink RX12 108 "BeardPassModel" "s" "[I") (ki (zr9 4 rfl))
  have lf129 := hts (.fieldLink RX12 129 "BeardPassModel" "thrown" "I") (ki (zr10 1 rfl))
  intro H locs hw hS ls hl
  have hl : lv_has ls 2 [(0, .ref h0), (1, .int a1)] := hl
  refine lv_aload_n hx hb dX12_reach_0 rfl (lv_at hl 0 rfl) ?_
  refine lv_iconst (v := 0) hx hb dX12_reach_1 (by decide) ?_
  refine mput (ty := .int) (v := .int 0) hx hb hts hiX12 hown hK hw hS 0 (by decide) lf129 rfl rfl (by decide +kernel) rfl rfl dX12_reach_2 (zset r 100 (fun _ => (0 : Int32))) _ mWf0 (fun H locs hw hS => ?_)
  refine mgen (P := fun x => mJ B x ∧ zFr [15, 16, 17, 18, 19, 20, 21, 22, 23, 24, 100] r x) hw ⟨hJ0.setc rfl (fun _ => (zI.top _)), (zFr.refl).set rfl⟩ (fun r1 er1 hw pr1 => ?_)
  refine lv_aload_n hx hb dX12_reach_5 rfl (lv_at hl 0 rfl) ?_
  refine lv_iload_n hx hb dX12_reach_6 rfl (lv_at hl 1 rfl) ?_
  refine mcallV (As := [.int a1]) (rest := []) ⟨hx, hb, hml, hown, hts⟩ (mc_isPerson l D ct h0 y B a1 r1 q pr1.1) (wqX12_370_mc_isPerson hts ⟨Nat.le_of_ble_eq_true rfl, Nat.le_of_ble_eq_true rfl⟩) hw hS hA hK hN rfl hl.1 rfl (Nat.le_of_ble_eq_true rfl) dX12_reach_7 10 rfl (fun u2 H locs pu2 hw hS => ?_)
  have hu2 : zI 0 1 u2 := pu2.1
  have yu2_0 : ¬ u2 = 0 → zI 0 5 a1 := pu2.2.1
  have xu2 : u2 = (Gm_isPerson a1 r1 q) := pu2.2.2.1
  have hw : zPD D A (mW ct h0 y r1 q) H := hw
  refine zfr 10 [.int u2] rfl rfl ?_
  refine lv_if_eq (tgt := 31) hx hb dX12_reach_10 (by decide) (fun c4 => ?_) (fun c4 => ?_)
  · have k5 : zI 0 0 (u2) := zI.eqq c4 (zI.lit (a := 0) (b := 0) (c := 0) (by decide))
    refine lv_iconst (v := (-1)) hx hb dX12_reach_31 (by decide) ?_
    exact ziretQ hQ hx hb hr rfl hlocks ((-1), r1) rfl ⟨((zI.lit (a := (-1)) (b := (-1)) (c := (-1)) (by decide)).w (c := (-1)) (d := 63) (by decide)), pr1.1, pr1.2, trivial⟩ hw hS dX12_reach_32
  · have k6 : zI 1 1 (u2) := zI.neD c4 hu2 (zI.lit (a := 0) (b := 0) (c := 0) (by decide)) (by decide)
    refine lv_aload_n hx hb dX12_reach_13 rfl (lv_at hl 0 rfl) ?_
    refine lv_iload_n hx hb dX12_reach_14 rfl (lv_at hl 1 rfl) ?_
    refine lv_iconst (v := 1) hx hb dX12_reach_15 (by decide) ?_
    refine lv_aload_n hx hb dX12_reach_16 rfl (lv_at hl 0 rfl) ?_
    refine mget (v := .ref (y 32)) hx hb hts hiX12 hown hK hw 45 (by decide) lf108 rfl rfl dX12_reach_17 ?_
    refine lv_iconst (v := 1) hx hb dX12_reach_20 (by decide) ?_
    refine lv_iload_n hx hb dX12_reach_21 rfl (lv_at hl 1 rfl) ?_
    refine lv_iadd hx hb dX12_reach_22 (zgen (lo := 1) (hi := 6) (zI.add (zI.lit (a := 1) (b := 1) (c := 1) (by decide)) (yu2_0 c4) (by decide)) (fun v7 hv7 => ?_))
    refine miald hx hb hK hw 33 mWg32 hv7 (by decide) dX12_reach_23 (zgen (lo := 0) (hi := 5) ((ms_1 pr1.1 hv7)) (fun v8 hv8 => ?_))
    refine lv_ishl hx hb dX12_reach_24 (zgen (lo := 1) (hi := 32) (zI.shl hv8 5 (by decide)) (fun v9 hv9 => ?_))
    refine mcallV (As := [.int a1, .int v9]) (rest := []) ⟨hx, hb, hml, hown, hts⟩ (mc_reachFrom l D ct h0 y B a1 v9 r1 q (yu2_0 c4) (hv9.w (c := 0) (d := 63) (by decide)) pr1.1) (wqX12_419_mc_reachFrom hts ⟨Nat.le_of_ble_eq_true rfl, Nat.le_of_ble_eq_true rfl⟩) hw hS hA hK hN rfl hl.1 rfl (Nat.le_of_ble_eq_true rfl) dX12_reach_25 28 rfl (fun u10 H locs pu10 hw hS => ?_)
    obtain ⟨v11, r12⟩ := u10
    have hv11 : zI 0 63 v11 := pu10.1
    have ju10 : mJ B r12 := pu10.2.1
    have fu10 : zFr [15, 16, 17, 18, 19, 20, 21, 22, 23, 24] r1 r12 := pu10.2.2.1
    have xu10 : (v11, r12) = (Gm_reachFrom a1 v9 r1 q) := pu10.2.2.2.1
    have hw : zPD D A (mW ct h0 y r12 q) H := hw
    refine zfr 28 [.int v11] rfl rfl ?_
    refine lv_goto (tgt := 32) hx hb dX12_reach_28 (by decide) ?_
    exact ziretQ hQ hx hb hr rfl hlocks (v11, r12) rfl ⟨(hv11.w (c := (-1)) (d := 63) (by decide)), ju10, (pr1.2.tr fu10 rfl), trivial⟩ hw hS dX12_reach_32

set_option maxHeartbeats 4000000 in
set_option maxRecDepth 100000 in
theorem mc_farFrom (l : Launch) (D : va_G) (ct : Nat → ClassId) (h0 : Nat) (y : Nat → Nat) (B : Int) (a1 : Int32) (a2 : Int32) (a3 : Int32) (r : zRr) (q : zRq) (g1 : zI 0 5 a1) (g2 : zI 0 5 a2) (g3 : zI 0 5 a3) (hJ0 : mJ B r) : zC l yX12_farFrom (.code yX12_farFrom cX12_farFrom 6 (some .int) :: wsL_law0) ({ frames := 9, cells := 0, slots := 0, locals := 400 }) D ct [] [.ref h0, .int a1, .int a2, .int a3] (mW ct h0 y r q) (S := Int32 × zRr) (fun u => some (.int u.1)) (fun u => zI (-1) 5 u.1 ∧ mJ B u.2 ∧ zFr [15, 16, 17, 18, 19, 20, 21, 22, 23, 24] r u.2 ∧ True) (fun u => mW ct h0 y u.2 q) 0 0 := by
  refine zofQ cX12_farFrom 6 (some .int) (by decide) rfl (Nat.le_of_ble_eq_true rfl) ?_
  intro p e s m below meth c A a9 Q ha9 hx hb hr hml hts hown hlocks hname hK hA hZ hN hQ
  have hown : s.vm.findClass RX12 = some m.cls := hown
  have cut8 : ∀ (n : Nat) (w8_4 : Int32) (w8_5 : Int32) (rw8 : zRr) (hw8_1 : zI 0 5 a1) (hw8_3 : zI 0 5 a3) (hw8_4 : zI 0 63 w8_4) (hw8_5 : zI 0 6 w8_5) (jw8 : mJ B rw8) (fw8 : zFr [15, 16, 17, 18, 19, 20, 21, 22, 23, 24] r rw8), 6 - w8_5.toInt < (n : Int) → zKf p l e ({ frames := 9, cells := 0, slots := 0, locals := 400 }) s m a9 below meth c Q D A 8 6 [] (mW ct h0 y rw8 q) [(0, .ref h0), (1, .int a1), (3, .int a3), (4, .int w8_4), (5, .int w8_5)] := by
    intro n
    induction n with
    | zero => intro w8_4 w8_5 rw8 hw8_1 hw8_3 hw8_4 hw8_5 jw8 fw8 hm8; exact zI.no hw8_5 (by decide) hm8
    | succ n ih8 =>
      intro w8_4 w8_5 rw8 hw8_1 hw8_3 hw8_4 hw8_5 jw8 fw8 hm8
      intro H locs ls hw hS hl
      refine lv_iload hx hb dX12_farFrom_8 (lv_at hl 4 rfl) ?_
      refine lv_bipush (v := 6) hx hb dX12_farFrom_10 (by decide) ?_
      refine lv_icmp_ge (tgt := 43) hx hb dX12_farFrom_12 (by decide) (fun c1 => ?_) (fun c1 => ?_)
      · have k2 : zI 6 6 (w8_5) := zI.leD c1 (zI.lit (a := 6) (b := 6) (c := 6) (by decide)) hw8_5 (by decide)
        refine lv_iconst (v := (-1)) hx hb dX12_farFrom_43 (by decide) ?_
        exact ziretQ hQ hx hb hr rfl hlocks ((-1), rw8) rfl ⟨((zI.lit (a := (-1)) (b := (-1)) (c := (-1)) (by decide)).w (c := (-1)) (d := 5) (by decide)), jw8, fw8, trivial⟩ hw hS dX12_farFrom_44
      · have k3 : zI 0 5 (w8_5) := zI.ltU (zI.nle c1) hw8_5 (zI.lit (a := 6) (b := 6) (c := 6) (by decide)) (by decide)
        refine lv_iload hx hb dX12_farFrom_15 (lv_at hl 3 rfl) ?_
        refine lv_iload_n hx hb dX12_farFrom_17 rfl (lv_at hl 2 rfl) ?_
        refine lv_ishr hx hb dX12_farFrom_18 (zgen (lo := 0) (hi := 63) (zI.shr hw8_4 (by decide)) (fun v4 hv4 => ?_))
        refine lv_iconst (v := 1) hx hb dX12_farFrom_19 (by decide) ?_
        refine lv_iand hx hb dX12_farFrom_20 (zgen (lo := 0) (hi := 1) (zI.and (zI.lit (a := 1) (b := 1) (c := 1) (by decide)) (by decide)) (fun v5 hv5 => ?_))
        refine lv_iconst (v := 1) hx hb dX12_farFrom_21 (by decide) ?_
        refine lv_icmp_ne (tgt := 28) hx hb dX12_farFrom_22 (by decide) (fun c6 => ?_) (fun c6 => ?_)
        · have k7 : zI 0 0 (v5) := zI.neU c6 hv5 (zI.lit (a := 1) (b := 1) (c := 1) (by decide)) (by decide)
          refine lv_aload_n hx hb dX12_farFrom_28 rfl (lv_at hl 0 rfl) ?_
          refine lv_iload_n hx hb dX12_farFrom_29 rfl (lv_at hl 1 rfl) ?_
          refine lv_iload hx hb dX12_farFrom_30 (lv_at hl 3 rfl) ?_
          refine mcallV (As := [.int a1, .int w8_4]) (rest := []) ⟨hx, hb, hml, hown, hts⟩ (mc_spreads l D ct h0 y B a1 w8_4 rw8 q hw8_1 hw8_4 jw8) (wqX12_416_mc_spreads hts ⟨Nat.le_of_ble_eq_true rfl, Nat.le_of_ble_eq_true rfl⟩) hw hS hA hK hN rfl hl.1 rfl (Nat.le_of_ble_eq_true rfl) dX12_farFrom_32 35 rfl (fun u8 H locs pu8 hw hS => ?_)
          obtain ⟨v9, r10⟩ := u8
          have hv9 : zI 0 63 v9 := pu8.1
          have ju8 : mJ B r10 := pu8.2.1
          have fu8 : zFr [15, 16, 17, 18, 19, 20, 21, 22, 23, 24] rw8 r10 := pu8.2.2.1
          have yu8_0 : w8_4.toInt ≤ v9.toInt := pu8.2.2.2.1
          have xu8 : (v9, r10) = (Gm_spreads a1 w8_4 rw8 q) := pu8.2.2.2.2.1
          have hw : zPD D A (mW ct h0 y r10 q) H := hw
          refine zfr 35 [.int v9] rfl rfl ?_
          refine lv_istore (lv' := [(4, .int v9), (0, .ref h0), (1, .int a1), (3, .int a3), (5, .int w8_5)]) hx hb dX12_farFrom_35 hl (by decide) rfl (fun ls hl => ?_)
          refine lv_iinc (v := w8_5 + 1) (lv' := [(5, .int (w8_5 + 1)), (4, .int v9), (0, .ref h0), (1, .int a1), (3, .int a3)]) hx hb dX12_farFrom_37 hl (k := 4) rfl (rfl) (by decide) rfl (fun ls hl => ?_)
          have k11 : zI 1 6 (w8_5 + 1) := zI.add k3 (zI.lit (a := 1) (b := 1) (by decide)) (by decide)
          refine lv_goto (tgt := 8) hx hb dX12_farFrom_40 (by decide) ?_
          exact ih8 v9 (w8_5 + 1) r10 hw8_1 hw8_3 hv9 (k11.w (c := 0) (d := 6) (by decide)) ju8 (fw8.tr fu8 rfl) (zI.up k3 (by decide) hm8) H locs ls hw hS (lv_sub hl [2, 3, 4, 1, 0] rfl)
        · have k12 : zI 1 1 (v5) := zI.eqq c6 (zI.lit (a := 1) (b := 1) (c := 1) (by decide))
          refine lv_iload hx hb dX12_farFrom_25 (lv_at hl 4 rfl) ?_
          exact ziretQ hQ hx hb hr rfl hlocks (w8_5, rw8) rfl ⟨(k3.w (c := (-1)) (d := 5) (by decide)), jw8, fw8, trivial⟩ hw hS dX12_farFrom_27
  intro H locs hw hS ls hl
  have hl : lv_has ls 6 [(0, .ref h0), (1, .int a1), (2, .int a2), (3, .int a3)] := hl
  refine lv_iconst (v := 1) hx hb dX12_farFrom_0 (by decide) ?_
  refine lv_iload_n hx hb dX12_farFrom_1 rfl (lv_at hl 2 rfl) ?_
  refine lv_ishl hx hb dX12_farFrom_2 (zgen (lo := 1) (hi := 32) (zI.shl g2 5 (by decide)) (fun v13 hv13 => ?_))
  refine lv_istore (lv' := [(4, .int v13), (0, .ref h0), (1, .int a1), (2, .int a2), (3, .int a3)]) hx hb dX12_farFrom_3 hl (by decide) rfl (fun ls hl => ?_)
  refine lv_iconst (v := 0) hx hb dX12_farFrom_5 (by decide) ?_
  refine lv_istore (lv' := [(5, .int 0), (4, .int v13), (0, .ref h0), (1, .int a1), (2, .int a2), (3, .int a3)]) hx hb dX12_farFrom_6 hl (by decide) rfl (fun ls hl => ?_)
  exact cut8 7 v13 0 r g1 g3 (hv13.w (c := 0) (d := 63) (by decide)) ((zI.lit (a := 0) (b := 0) (c := 0) (by decide)).w (c := 0) (d := 6) (by decide)) hJ0 (zFr.refl) (zI.m0 (zI.lit (a := 0) (b := 0) (c := 0) (by decide)) (by decide)) H locs ls hw hS (lv_sub hl [2, 3, 5, 1, 0] rfl)

set_option maxHeartbeats 4000000 in
set_option maxRecDepth 100000 in
theorem mc_frontiers (l : Launch) (D : va_G) (ct : Nat → ClassId) (h0 : Nat) (y : Nat → Nat) (B : Int) (a1 : Int32) (a2 : Int32) (r : zRr) (q : zRq) (hJ0 : mJ B r) : zC l yX12_frontiers (.code yX12_frontiers cX12_frontiers 3 (some .int) :: wsL_law0) ({ frames := 10, cells := 0, slots := 0, locals := 440 }) D ct [] [.ref h0, .int a1, .int a2] (mW ct h0 y r q) (S := Int32 × zRr) (fun u => some (.int u.1)) (fun u => zI (-1) 5 u.1 ∧ mJ B u.2 ∧ zFr [15, 16, 17, 18, 19, 20, 21, 22, 23, 24, 100] r u.2 ∧ True) (fun u => mW ct h0 y u.2 q) 0 0 := by
  refine zofQ cX12_frontiers 3 (some .int) (by decide) rfl (Nat.le_of_ble_eq_true rfl) ?_
  intro p e s m below meth c A a9 Q ha9 hx hb hr hml hts hown hlocks hname hK hA hZ hN hQ
  have hown : s.vm.findClass RX12 = some m.cls := hown
  have hiX12 : ∀ w ∈ wsX120, w ∈ .code yX12_frontiers cX12_frontiers 3 (some .int) :: wsL_law0 := fun _ h => ki (zs_wsX120 _ h)
  have lf108 := hts (.fieldLink RX12 108 "BeardPassModel" "s" "[I") (ki (zr9 4 rfl))
  have lf129 := hts (.fieldLink RX12 129 "BeardPassModel" "thrown" "I") (ki (zr10 1 rfl))
  intro H locs hw hS ls hl
  have hl : lv_has ls 3 [(0, .ref h0), (1, .int a1), (2, .int a2)] := hl
  refine lv_aload_n hx hb dX12_frontiers_0 rfl (lv_at hl 0 rfl) ?_
  refine lv_iconst (v := 0) hx hb dX12_frontiers_1 (by decide) ?_
  refine mput (ty := .int) (v := .int 0) hx hb hts hiX12 hown hK hw hS 0 (by decide) lf129 rfl rfl (by decide +kernel) rfl rfl dX12_frontiers_2 (zset r 100 (fun _ => (0 : Int32))) _ mWf0 (fun H locs hw hS => ?_)
  refine mgen (P := fun x => mJ B x ∧ zFr [15, 16, 17, 18, 19, 20, 21, 22, 23, 24, 100] r x) hw ⟨hJ0.setc rfl (fun _ => (zI.top _)), (zFr.refl).set rfl⟩ (fun r1 er1 hw pr1 => ?_)
  refine lv_aload_n hx hb dX12_frontiers_5 rfl (lv_at hl 0 rfl) ?_
  refine lv_iload_n hx hb dX12_frontiers_6 rfl (lv_at hl 1 rfl) ?_
  refine mcallV (As := [.int a1]) (rest := []) ⟨hx, hb, hml, hown, hts⟩ (mc_isPerson l D ct h0 y B a1 r1 q pr1.1) (wqX12_370_mc_isPerson hts ⟨Nat.le_of_ble_eq_true rfl, Nat.le_of_ble_eq_true rfl⟩) hw hS hA hK hN rfl hl.1 rfl (Nat.le_of_ble_eq_true rfl) dX12_frontiers_7 10 rfl (fun u2 H locs pu2 hw hS => ?_)
  have hu2 : zI 0 1 u2 := pu2.1
  have yu2_0 : ¬ u2 = 0 → zI 0 5 a1 := pu2.2.1
  have xu2 : u2 = (Gm_isPerson a1 r1 q) := pu2.2.2.1
  have hw : zPD D A (mW ct h0 y r1 q) H := hw
  refine zfr 10 [.int u2] rfl rfl ?_
  refine lv_if_eq (tgt := 38) hx hb dX12_frontiers_10 (by decide) (fun c4 => ?_) (fun c4 => ?_)
  · have k5 : zI 0 0 (u2) := zI.eqq c4 (zI.lit (a := 0) (b := 0) (c := 0) (by decide))
    refine lv_iconst (v := (-1)) hx hb dX12_frontiers_38 (by decide) ?_
    exact ziretQ hQ hx hb hr rfl hlocks ((-1), r1) rfl ⟨((zI.lit (a := (-1)) (b := (-1)) (c := (-1)) (by decide)).w (c := (-1)) (d := 5) (by decide)), pr1.1, pr1.2, trivial⟩ hw hS dX12_frontiers_39
  · have k6 : zI 1 1 (u2) := zI.neD c4 hu2 (zI.lit (a := 0) (b := 0) (c := 0) (by decide)) (by decide)
    refine lv_aload_n hx hb dX12_frontiers_13 rfl (lv_at hl 0 rfl) ?_
    refine lv_iload_n hx hb dX12_frontiers_14 rfl (lv_at hl 2 rfl) ?_
    refine mcallV (As := [.int a2]) (rest := []) ⟨hx, hb, hml, hown, hts⟩ (mc_isTown l D ct h0 y B a2 r1 q pr1.1) (wqX12_373_mc_isTown hts ⟨Nat.le_of_ble_eq_true rfl, Nat.le_of_ble_eq_true rfl⟩) hw hS hA hK hN rfl hl.1 rfl (Nat.le_of_ble_eq_true rfl) dX12_frontiers_15 18 rfl (fun u7 H locs pu7 hw hS => ?_)
    have hu7 : zI 0 1 u7 := pu7.1
    have yu7_0 : ¬ u7 = 0 → zI 0 5 a2 := pu7.2.1
    have xu7 : u7 = (Gm_isTown a2 r1 q) := pu7.2.2.1
    have hw : zPD D A (mW ct h0 y r1 q) H := hw
    refine zfr 18 [.int u7] rfl rfl ?_
    refine lv_if_eq (tgt := 38) hx hb dX12_frontiers_18 (by decide) (fun c9 => ?_) (fun c9 => ?_)
    · have k10 : zI 0 0 (u7) := zI.eqq c9 (zI.lit (a := 0) (b := 0) (c := 0) (by decide))
      refine lv_iconst (v := (-1)) hx hb dX12_frontiers_38 (by decide) ?_
      exact ziretQ hQ hx hb hr rfl hlocks ((-1), r1) rfl ⟨((zI.lit (a := (-1)) (b := (-1)) (c := (-1)) (by decide)).w (c := (-1)) (d := 5) (by decide)), pr1.1, pr1.2, trivial⟩ hw hS dX12_frontiers_39
    · have k11 : zI 1 1 (u7) := zI.neD c9 hu7 (zI.lit (a := 0) (b := 0) (c := 0) (by decide)) (by decide)
      refine lv_aload_n hx hb dX12_frontiers_21 rfl (lv_at hl 0 rfl) ?_
      refine lv_iload_n hx hb dX12_frontiers_22 rfl (lv_at hl 1 rfl) ?_
      refine lv_aload_n hx hb dX12_frontiers_23 rfl (lv_at hl 0 rfl) ?_
      refine mget (v := .ref (y 32)) hx hb hts hiX12 hown hK hw 45 (by decide) lf108 rfl rfl dX12_frontiers_24 ?_
      refine lv_iconst (v := 1) hx hb dX12_frontiers_27 (by decide) ?_
      refine lv_iload_n hx hb dX12_frontiers_28 rfl (lv_at hl 1 rfl) ?_
      refine lv_iadd hx hb dX12_frontiers_29 (zgen (lo := 1) (hi := 6) (zI.add (zI.lit (a := 1) (b := 1) (c := 1) (by decide)) (yu2_0 c4) (by decide)) (fun v12 hv12 => ?_))
      refine miald hx hb hK hw 33 mWg32 hv12 (by decide) dX12_frontiers_30 (zgen (lo := 0) (hi := 5) ((ms_1 pr1.1 hv12)) (fun v13 hv13 => ?_))
      refine lv_iload_n hx hb dX12_frontiers_31 rfl (lv_at hl 2 rfl) ?_
      refine mcallV (As := [.int a1, .int v13, .int a2]) (rest := []) ⟨hx, hb, hml, hown, hts⟩ (mc_farFrom l D ct h0 y B a1 v13 a2 r1 q (yu2_0 c4) hv13 (yu7_0 c9) pr1.1) (wqX12_422_mc_farFrom hts ⟨Nat.le_of_ble_eq_true rfl, Nat.le_of_ble_eq_true rfl⟩) hw hS hA hK hN rfl hl.1 rfl (Nat.le_of_ble_eq_true rfl) dX12_frontiers_32 35 rfl (fun u14 H locs pu14 hw hS => ?_)
      obtain ⟨v15, r16⟩ := u14
      have hv15 : zI (-1) 5 v15 := pu14.1
      have ju14 : mJ B r16 := pu14.2.1
      have fu14 : zFr [15, 16, 17, 18, 19, 20, 21, 22, 23, 24] r1 r16 := pu14.2.2.1
      have hw : zPD D A (mW ct h0 y r16 q) H := hw
      refine zfr 35 [.int v15] rfl rfl ?_
      refine lv_goto (tgt := 39) hx hb dX12_frontiers_35 (by decide) ?_
      exact ziretQ hQ hx hb hr rfl hlocks (v15, r16) rfl ⟨hv15, ju14, (pr1.2.tr fu14 rfl), trivial⟩ hw hS dX12_frontiers_39

set_option maxHeartbeats 4000000 in
set_option maxRecDepth 100000 in
theorem mc_guide (l : Launch) (D : va_G) (ct : Nat → ClassId) (h0 : Nat) (y : Nat → Nat) (B : Int) (a1 : Int32) (a2 : Int32) (r : zRr) (q : zRq) (hJ0 : mJ B r) : zC l yX12_guide (.code yX12_guide cX12_guide 6 (some .int) :: wsL_law0) ({ frames := 10, cells := 0, slots := 0, locals := 440 }) D ct [] [.ref h0, .int a1, .int a2] (mW ct h0 y r q) (S := Int32 × zRr) (fun u => some (.int u.1)) (fun u => zI (-1) 5 u.1 ∧ mJ B u.2 ∧ zFr [15, 16, 17, 18, 19, 20, 21, 22, 23, 24, 100] r u.2 ∧ True) (fun u => mW ct h0 y u.2 q) 0 0 := by
  refine zofQ cX12_guide 6 (some .int) (by decide) rfl (Nat.le_of_ble_eq_true rfl) ?_
  intro p e s m below meth c A a9 Q ha9 hx hb hr hml hts hown hlocks hname hK hA hZ hN hQ
  have hown : s.vm.findClass RX12 = some m.cls := hown
  have hiX12 : ∀ w ∈ wsX120, w ∈ .code yX12_guide cX12_guide 6 (some .int) :: wsL_law0 := fun _ h => ki (zs_wsX120 _ h)
  have lf13 := hts (.fieldLink RX12 13 "BeardPassModel" "land" "[I") (ki (zr7 20 rfl))
  have lf108 := hts (.fieldLink RX12 108 "BeardPassModel" "s" "[I") (ki (zr9 4 rfl))
  have lf129 := hts (.fieldLink RX12 129 "BeardPassModel" "thrown" "I") (ki (zr10 1 rfl))
  have cut59 : ∀ (n : Nat) (w59_3 : Int32) (w59_4 : Int32) (w59_5 : Int32) (rw59 : zRr) (hw59_1 : zI 0 5 a1) (hw59_2 : zI 0 5 a2) (hw59_3 : zI 1 5 w59_3) (hw59_4 : zI (-1) 5 w59_4) (hw59_5 : zI (-1) 5 w59_5) (jw59 : mJ B rw59) (fw59 : zFr [15, 16, 17, 18, 19, 20, 21, 22, 23, 24, 100] r rw59), w59_5.toInt - (-1) < (n : Int) → zKf p l e ({ frames := 10, cells := 0, slots := 0, locals := 440 }) s m a9 below meth c Q D A 59 6 [] (mW ct h0 y rw59 q) [(0, .ref h0), (1, .int a1), (2, .int a2), (3, .int w59_3), (4, .int w59_4), (5, .int w59_5)] := by
    intro n
    induction n with
    | zero => intro w59_3 w59_4 w59_5 rw59 hw59_1 hw59_2 hw59_3 hw59_4 hw59_5 jw59 fw59 hm59; exact zI.no1 hw59_5 (by decide) hm59
    | succ n ih59 =>
      intro w59_3 w59_4 w59_5 rw59 hw59_1 hw59_2 hw59_3 hw59_4 hw59_5 jw59 fw59 hm59
      have cut92 : ∀ (w92_4 : Int32) (rw92 : zRr) (hw92_1 : zI 0 5 a1) (hw92_2 : zI 0 5 a2) (hw92_3 : zI 1 5 w59_3) (hw92_4 : zI (-1) 5 w92_4) (hw92_5 : zI 0 5 w59_5) (jw92 : mJ B rw92) (fw92 : zFr [15, 16, 17, 18, 19, 20, 21, 22, 23, 24, 100] r rw92), zKf p l e ({ frames := 10, cells := 0, slots := 0, locals := 440 }) s m a9 below meth c Q D A 92 6 [] (mW ct h0 y rw92 q) [(0, .ref h0), (1, .int a1), (2, .int a2), (3, .int w59_3), (4, .int w92_4), (5, .int w59_5)] := by
        intro w92_4 rw92 hw92_1 hw92_2 hw92_3 hw92_4 hw92_5 jw92 fw92 H locs ls hw hS hl
        refine lv_iinc (v := w59_5 + (-1)) (lv' := [(5, .int (w59_5 + (-1))), (0, .ref h0), (1, .int a1), (2, .int a2), (3, .int w59_3), (4, .int w92_4)]) hx hb dX12_guide_92 hl (k := 5) rfl (rfl) (by decide) rfl (fun ls hl => ?_)
        have k1 : zI (-1) 4 (w59_5 + (-1)) := zI.add hw92_5 (zI.lit (a := (-1)) (b := (-1)) (by decide)) (by decide)
        refine lv_goto (tgt := 59) hx hb dX12_guide_95 (by decide) ?_
        exact ih59 w59_3 w92_4 (w59_5 + (-1)) rw92 hw92_1 hw92_2 hw92_3 hw92_4 (k1.w (c := (-1)) (d := 5) (by decide)) jw92 fw92 (zI.down hw92_5 (by decide) hm59) H locs ls hw hS (lv_sub hl [1, 2, 3, 4, 5, 0] rfl)
      intro H locs ls hw hS hl
      refine lv_iload hx hb dX12_guide_59 (lv_at hl 5 rfl) ?_
      refine lv_if_lt (tgt := 98) hx hb dX12_guide_61 (by decide) (fun c2 => ?_) (fun c2 => ?_)
      · have k3 : zI (-1) (-1) (w59_5) := zI.ltU c2 hw59_5 (zI.lit (a := 0) (b := 0) (c := 0) (by decide)) (by decide)
        refine lv_iload hx hb dX12_guide_98 (lv_at hl 4 rfl) ?_
        exact ziretQ hQ hx hb hr rfl hlocks (w59_4, rw59) rfl ⟨hw59_4, jw59, fw59, trivial⟩ hw hS dX12_guide_100
      · have k4 : zI 0 5 (w59_5) := zI.leD (zI.nlt c2) (zI.lit (a := 0) (b := 0) (c := 0) (by decide)) hw59_5 (by decide)
        refine lv_aload_n hx hb dX12_guide_64 rfl (lv_at hl 0 rfl) ?_
        refine lv_iload_n hx hb dX12_guide_65 rfl (lv_at hl 1 rfl) ?_
        refine lv_iload hx hb dX12_guide_66 (lv_at hl 5 rfl) ?_
        refine mcallV (As := [.int a1, .int w59_5]) (rest := []) ⟨hx, hb, hml, hown, hts⟩ (mc_canGo l D ct h0 y B a1 w59_5 rw59 q hw59_1 k4 jw59) (wqX12_383_mc_canGo hts ⟨Nat.le_of_ble_eq_true rfl, Nat.le_of_ble_eq_true rfl⟩) hw hS hA hK hN rfl hl.1 rfl (Nat.le_of_ble_eq_true rfl) dX12_guide_68 71 rfl (fun u5 H locs pu5 hw hS => ?_)
        obtain ⟨v6, r7⟩ := u5
        have hv6 : zI 0 1 v6 := pu5.1
        have ju5 : mJ B r7 := pu5.2.1
        have fu5 : zFr [15, 16, 17, 18, 19, 20, 21, 22, 23, 24] rw59 r7 := pu5.2.2.1
        have xu5 : (v6, r7) = (Gm_canGo a1 w59_5 rw59 q) := pu5.2.2.2.1
        have hw : zPD D A (mW ct h0 y r7 q) H := hw
        refine zfr 71 [.int v6] rfl rfl ?_
        refine lv_if_eq (tgt := 92) hx hb dX12_guide_71 (by decide) (fun c8 => ?_) (fun c8 => ?_)
        · have k9 : zI 0 0 (v6) := zI.eqq c8 (zI.lit (a := 0) (b := 0) (c := 0) (by decide))
          exact cut92 w59_4 r7 hw59_1 hw59_2 hw59_3 hw59_4 k4 ju5 (fw59.tr fu5 rfl) H locs ls hw hS (lv_sub hl [0, 1, 2, 3, 4, 5] rfl)
        · have k10 : zI 1 1 (v6) := zI.neD c8 hv6 (zI.lit (a := 0) (b := 0) (c := 0) (by decide)) (by decide)
          refine lv_aload_n hx hb dX12_guide_74 rfl (lv_at hl 0 rfl) ?_
          refine lv_iload_n hx hb dX12_guide_75 rfl (lv_at hl 1 rfl) ?_
          refine lv_iload hx hb dX12_guide_76 (lv_at hl 5 rfl) ?_
          refine lv_iload_n hx hb dX12_guide_78 rfl (lv_at hl 2 rfl) ?_
          refine mcallV (As := [.int a1, .int w59_5, .int a2]) (rest := []) ⟨hx, hb, hml, hown, hts⟩ (mc_farFrom l D ct h0 y B a1 w59_5 a2 r7 q hw59_1 k4 hw59_2 ju5) (wqX12_422_mc_farFrom hts ⟨Nat.le_of_ble_eq_true rfl, Nat.le_of_ble_eq_true rfl⟩) hw hS hA hK hN rfl hl.1 rfl (Nat.le_of_ble_eq_true rfl) dX12_guide_79 82 rfl (fun u11 H locs pu11 hw hS => ?_)
          obtain ⟨v12, r13⟩ := u11
          have hv12 : zI (-1) 5 v12 := pu11.1
          have ju11 : mJ B r13 := pu11.2.1
          have fu11 : zFr [15, 16, 17, 18, 19, 20, 21, 22, 23, 24] r7 r13 := pu11.2.2.1
          have hw : zPD D A (mW ct h0 y r13 q) H := hw
          refine zfr 82 [.int v12] rfl rfl ?_
          refine lv_iload_n hx hb dX12_guide_82 rfl (lv_at hl 3 rfl) ?_
          refine lv_iconst (v := 1) hx hb dX12_guide_83 (by decide) ?_
          refine lv_isub hx hb dX12_guide_84 (zgen (lo := 0) (hi := 4) (zI.sub hw59_3 (zI.lit (a := 1) (b := 1) (c := 1) (by decide)) (by decide)) (fun v14 hv14 => ?_))
          refine lv_icmp_ne (tgt := 92) hx hb dX12_guide_85 (by decide) (fun c15 => ?_) (fun c15 => ?_)
          · exact cut92 w59_4 r13 hw59_1 hw59_2 hw59_3 hw59_4 k4 ju11 ((fw59.tr fu5 rfl).tr fu11 rfl) H locs ls hw hS (lv_sub hl [0, 1, 2, 3, 4, 5] rfl)
          · have k16 : zI 0 4 (v12) := zI.eqq c15 hv14
            refine lv_iload hx hb dX12_guide_88 (lv_at hl 5 rfl) ?_
            refine lv_istore (lv' := [(4, .int w59_5), (0, .ref h0), (1, .int a1), (2, .int a2), (3, .int w59_3), (5, .int w59_5)]) hx hb dX12_guide_90 hl (by decide) rfl (fun ls hl => ?_)
            exact cut92 w59_5 r13 hw59_1 hw59_2 hw59_3 (k4.w (c := (-1)) (d := 5) (by decide)) k4 ju11 ((fw59.tr fu5 rfl).tr fu11 rfl) H locs ls hw hS (lv_sub hl [1, 2, 3, 4, 0, 5] rfl)
  intro H locs hw hS ls hl
  have hl : lv_has ls 6 [(0, .ref h0), (1, .int a1), (2, .int a2)] := hl
  refine lv_aload_n hx hb dX12_guide_0 rfl (lv_at hl 0 rfl) ?_
  refine lv_iconst (v := 0) hx hb dX12_guide_1 (by decide) ?_
  refine mput (ty := .int) (v := .int 0) hx hb hts hiX12 hown hK hw hS 0 (by decide) lf129 rfl rfl (by decide +kernel) rfl rfl dX12_guide_2 (zset r 100 (fun _ => (0 : Int32))) _ mWf0 (fun H locs hw hS => ?_)
  refine mgen (P := fun x => mJ B x ∧ zFr [15, 16, 17, 18, 19, 20, 21, 22, 23, 24, 100] r x) hw ⟨hJ0.setc rfl (fun _ => (zI.top _)), (zFr.refl).set rfl⟩ (fun r17 er17 hw pr17 => ?_)
  refine lv_aload_n hx hb dX12_guide_5 rfl (lv_at hl 0 rfl) ?_
  refine lv_iload_n hx hb dX12_guide_6 rfl (lv_at hl 1 rfl) ?_
  refine mcallV (As := [.int a1]) (rest := []) ⟨hx, hb, hml, hown, hts⟩ (mc_isPerson l D ct h0 y B a1 r17 q pr17.1) (wqX12_370_mc_isPerson hts ⟨Nat.le_of_ble_eq_true rfl, Nat.le_of_ble_eq_true rfl⟩) hw hS hA hK hN rfl hl.1 rfl (Nat.le_of_ble_eq_true rfl) dX12_guide_7 10 rfl (fun u18 H locs pu18 hw hS => ?_)
  have hu18 : zI 0 1 u18 := pu18.1
  have yu18_0 : ¬ u18 = 0 → zI 0 5 a1 := pu18.2.1
  have xu18 : u18 = (Gm_isPerson a1 r17 q) := pu18.2.2.1
  have hw : zPD D A (mW ct h0 y r17 q) H := hw
  refine zfr 10 [.int u18] rfl rfl ?_
  refine lv_if_eq (tgt := 38) hx hb dX12_guide_10 (by decide) (fun c20 => ?_) (fun c20 => ?_)
  · have k21 : zI 0 0 (u18) := zI.eqq c20 (zI.lit (a := 0) (b := 0) (c := 0) (by decide))
    refine lv_iconst (v := 0) hx hb dX12_guide_38 (by decide) ?_
    refine lv_istore_n (lv' := [(3, .int 0), (0, .ref h0), (1, .int a1), (2, .int a2)]) hx hb dX12_guide_39 rfl hl (by decide) rfl (fun ls hl => ?_)
    refine lv_iload_n hx hb dX12_guide_40 rfl (lv_at hl 0 rfl) ?_
    refine lv_if_gt (tgt := 46) hx hb dX12_guide_41 (by decide) (fun h => absurd h (by decide)) (fun _ => ?_)
    refine lv_iconst (v := (-1)) hx hb dX12_guide_44 (by decide) ?_
    exact ziretQ hQ hx hb hr rfl hlocks ((-1), r17) rfl ⟨((zI.lit (a := (-1)) (b := (-1)) (c := (-1)) (by decide)).w (c := (-1)) (d := 5) (by decide)), pr17.1, pr17.2, trivial⟩ hw hS dX12_guide_45
  · have k23 : zI 1 1 (u18) := zI.neD c20 hu18 (zI.lit (a := 0) (b := 0) (c := 0) (by decide)) (by decide)
    refine lv_aload_n hx hb dX12_guide_13 rfl (lv_at hl 0 rfl) ?_
    refine lv_iload_n hx hb dX12_guide_14 rfl (lv_at hl 2 rfl) ?_
    refine mcallV (As := [.int a2]) (rest := []) ⟨hx, hb, hml, hown, hts⟩ (mc_isTown l D ct h0 y B a2 r17 q pr17.1) (wqX12_373_mc_isTown hts ⟨Nat.le_of_ble_eq_true rfl, Nat.le_of_ble_eq_true rfl⟩) hw hS hA hK hN rfl hl.1 rfl (Nat.le_of_ble_eq_true rfl) dX12_guide_15 18 rfl (fun u24 H locs pu24 hw hS => ?_)
    have hu24 : zI 0 1 u24 := pu24.1
    have yu24_0 : ¬ u24 = 0 → zI 0 5 a2 := pu24.2.1
    have xu24 : u24 = (Gm_isTown a2 r17 q) := pu24.2.2.1
    have hw : zPD D A (mW ct h0 y r17 q) H := hw
    refine zfr 18 [.int u24] rfl rfl ?_
    refine lv_if_eq (tgt := 38) hx hb dX12_guide_18 (by decide) (fun c26 => ?_) (fun c26 => ?_)
    · have k27 : zI 0 0 (u24) := zI.eqq c26 (zI.lit (a := 0) (b := 0) (c := 0) (by decide))
      refine lv_iconst (v := 0) hx hb dX12_guide_38 (by decide) ?_
      refine lv_istore_n (lv' := [(3, .int 0), (0, .ref h0), (1, .int a1), (2, .int a2)]) hx hb dX12_guide_39 rfl hl (by decide) rfl (fun ls hl => ?_)
      refine lv_iload_n hx hb dX12_guide_40 rfl (lv_at hl 0 rfl) ?_
      refine lv_if_gt (tgt := 46) hx hb dX12_guide_41 (by decide) (fun h => absurd h (by decide)) (fun _ => ?_)
      refine lv_iconst (v := (-1)) hx hb dX12_guide_44 (by decide) ?_
      exact ziretQ hQ hx hb hr rfl hlocks ((-1), r17) rfl ⟨((zI.lit (a := (-1)) (b := (-1)) (c := (-1)) (by decide)).w (c := (-1)) (d := 5) (by decide)), pr17.1, pr17.2, trivial⟩ hw hS dX12_guide_45
    · have k29 : zI 1 1 (u24) := zI.neD c26 hu24 (zI.lit (a := 0) (b := 0) (c := 0) (by decide)) (by decide)
      refine lv_aload_n hx hb dX12_guide_21 rfl (lv_at hl 0 rfl) ?_
      refine lv_iload_n hx hb dX12_guide_22 rfl (lv_at hl 1 rfl) ?_
      refine lv_aload_n hx hb dX12_guide_23 rfl (lv_at hl 0 rfl) ?_
      refine mget (v := .ref (y 32)) hx hb hts hiX12 hown hK hw 45 (by decide) lf108 rfl rfl dX12_guide_24 ?_
      refine lv_iconst (v := 1) hx hb dX12_guide_27 (by decide) ?_
      refine lv_iload_n hx hb dX12_guide_28 rfl (lv_at hl 1 rfl) ?_
      refine lv_iadd hx hb dX12_guide_29 (zgen (lo := 1) (hi := 6) (zI.add (zI.lit (a := 1) (b := 1) (c := 1) (by decide)) (yu18_0 c20) (by decide)) (fun v30 hv30 => ?_))
      refine miald hx hb hK hw 33 mWg32 hv30 (by decide) dX12_guide_30 (zgen (lo := 0) (hi := 5) ((ms_1 pr17.1 hv30)) (fun v31 hv31 => ?_))
      refine lv_iload_n hx hb dX12_guide_31 rfl (lv_at hl 2 rfl) ?_
      refine mcallV (As := [.int a1, .int v31, .int a2]) (rest := []) ⟨hx, hb, hml, hown, hts⟩ (mc_farFrom l D ct h0 y B a1 v31 a2 r17 q (yu18_0 c20) hv31 (yu24_0 c26) pr17.1) (wqX12_422_mc_farFrom hts ⟨Nat.le_of_ble_eq_true rfl, Nat.le_of_ble_eq_true rfl⟩) hw hS hA hK hN rfl hl.1 rfl (Nat.le_of_ble_eq_true rfl) dX12_guide_32 35 rfl (fun u32 H locs pu32 hw hS => ?_)
      obtain ⟨v33, r34⟩ := u32
      have hv33 : zI (-1) 5 v33 := pu32.1
      have ju32 : mJ B r34 := pu32.2.1
      have fu32 : zFr [15, 16, 17, 18, 19, 20, 21, 22, 23, 24] r17 r34 := pu32.2.2.1
      have hw : zPD D A (mW ct h0 y r34 q) H := hw
      refine zfr 35 [.int v33] rfl rfl ?_
      refine lv_goto (tgt := 39) hx hb dX12_guide_35 (by decide) ?_
      refine lv_istore_n (lv' := [(3, .int v33), (0, .ref h0), (1, .int a1), (2, .int a2)]) hx hb dX12_guide_39 rfl hl (by decide) rfl (fun ls hl => ?_)
      refine lv_iload_n hx hb dX12_guide_40 rfl (lv_at hl 0 rfl) ?_
      refine lv_if_gt (tgt := 46) hx hb dX12_guide_41 (by decide) (fun c35 => ?_) (fun c35 => ?_)
      · have k36 : zI 1 5 (v33) := zI.ltD c35 (zI.lit (a := 0) (b := 0) (c := 0) (by decide)) hv33 (by decide)
        refine lv_iconst (v := (-1)) hx hb dX12_guide_46 (by decide) ?_
        refine lv_istore (lv' := [(4, .int (-1)), (3, .int v33), (0, .ref h0), (1, .int a1), (2, .int a2)]) hx hb dX12_guide_47 hl (by decide) rfl (fun ls hl => ?_)
        refine lv_aload_n hx hb dX12_guide_49 rfl (lv_at hl 2 rfl) ?_
        refine mget (v := .ref (y 1)) hx hb hts hiX12 hown hK hw 10 (by decide) lf13 rfl rfl dX12_guide_50 ?_
        refine lv_iconst (v := 0) hx hb dX12_guide_53 (by decide) ?_
        refine ziald hx hb hK hw 2 mWg1 0 (by decide) (by decide) (by decide) dX12_guide_54 (zgen (lo := 0) (hi := 6) ((show zI 0 6 (r34 1 0) from ju32.i 1 0)) (fun v37 hv37 => ?_))
        refine lv_iconst (v := 1) hx hb dX12_guide_55 (by decide) ?_
        refine lv_isub hx hb dX12_guide_56 (zgen (lo := (-1)) (hi := 5) (zI.sub hv37 (zI.lit (a := 1) (b := 1) (c := 1) (by decide)) (by decide)) (fun v38 hv38 => ?_))
        refine lv_istore (lv' := [(5, .int v38), (4, .int (-1)), (3, .int v33), (0, .ref h0), (1, .int a1), (2, .int a2)]) hx hb dX12_guide_57 hl (by decide) rfl (fun ls hl => ?_)
        exact cut59 7 v33 (-1) v38 r34 (yu18_0 c20) (yu24_0 c26) k36 ((zI.lit (a := (-1)) (b := (-1)) (c := (-1)) (by decide)).w (c := (-1)) (d := 5) (by decide)) hv38 ju32 (pr17.2.tr fu32 rfl) (zI.m1 hv38 (by decide)) H locs ls hw hS (lv_sub hl [3, 4, 5, 2, 1, 0] rfl)
      · have k39 : zI (-1) 0 (v33) := zI.leU (zI.nlt c35) hv33 (zI.lit (a := 0) (b := 0) (c := 0) (by decide)) (by decide)
        refine lv_iconst (v := (-1)) hx hb dX12_guide_44 (by decide) ?_
        exact ziretQ hQ hx hb hr rfl hlocks ((-1), r34) rfl ⟨((zI.lit (a := (-1)) (b := (-1)) (c := (-1)) (by decide)).w (c := (-1)) (d := 5) (by decide)), ju32, (pr17.2.tr fu32 rfl), trivial⟩ hw hS dX12_guide_45

set_option maxHeartbeats 4000000 in
set_option maxRecDepth 100000 in
theorem mc_trapped (l : Launch) (D : va_G) (ct : Nat → ClassId) (h0 : Nat) (y : Nat → Nat) (B : Int) (r : zRr) (q : zRq) (hJ0 : mJ B r) : zC l yX12_trapped (.code yX12_trapped cX12_trapped 5 (some .int) :: wsL_law0) ({ frames := 9, cells := 0, slots := 0, locals := 400 }) D ct [] [.ref h0] (mW ct h0 y r q) (S := Int32 × zRr) (fun u => some (.int u.1)) (fun u => zI 0 63 u.1 ∧ mJ B u.2 ∧ zFr [15, 16, 17, 18, 19, 20, 21, 22, 23, 24, 100] r u.2 ∧ True) (fun u => mW ct h0 y u.2 q) 0 0 := by
  refine zofQ cX12_trapped 5 (some .int) (by decide) rfl (Nat.le_of_ble_eq_true rfl) ?_
  intro p e s m below meth c A a9 Q ha9 hx hb hr hml hts hown hlocks hname hK hA hZ hN hQ
  have hown : s.vm.findClass RX12 = some m.cls := hown
  have hiX12 : ∀ w ∈ wsX120, w ∈ .code yX12_trapped cX12_trapped 5 (some .int) :: wsL_law0 := fun _ h => ki (zs_wsX120 _ h)
  have lf13 := hts (.fieldLink RX12 13 "BeardPassModel" "land" "[I") (ki (zr7 20 rfl))
  have lf129 := hts (.fieldLink RX12 129 "BeardPassModel" "thrown" "I") (ki (zr10 1 rfl))
  have cut9 : ∀ (n : Nat) (w9_1 : Int32) (w9_2 : Int32) (rw9 : zRr) (hw9_1 : zI 0 63 w9_1) (hw9_2 : zI 0 6 w9_2) (jw9 : mJ B rw9) (fw9 : zFr [15, 16, 17, 18, 19, 20, 21, 22, 23, 24, 100] r rw9), 6 - w9_2.toInt < (n : Int) → zKf p l e ({ frames := 9, cells := 0, slots := 0, locals := 400 }) s m a9 below meth c Q D A 9 5 [] (mW ct h0 y rw9 q) [(0, .ref h0), (1, .int w9_1), (2, .int w9_2)] := by
    intro n
    induction n with
    | zero => intro w9_1 w9_2 rw9 hw9_1 hw9_2 jw9 fw9 hm9; exact zI.no hw9_2 (by decide) hm9
    | succ n ih9 =>
      intro w9_1 w9_2 rw9 hw9_1 hw9_2 jw9 fw9 hm9
      have cut73 : ∀ (w73_s0 : Int32) (rw73 : zRr) (hw73_2 : zI 0 5 w9_2) (hw73_s0 : zI 0 39 w73_s0) (hw73_s1 : zI 0 63 w9_1) (jw73 : mJ B rw73) (fw73 : zFr [15, 16, 17, 18, 19, 20, 21, 22, 23, 24, 100] r rw73), zKf p l e ({ frames := 9, cells := 0, slots := 0, locals := 400 }) s m a9 below meth c Q D A 73 5 [.int w73_s0, .int w9_1] (mW ct h0 y rw73 q) [(0, .ref h0), (2, .int w9_2)] := by
        intro w73_s0 rw73 hw73_2 hw73_s0 hw73_s1 jw73 fw73 H locs ls hw hS hl
        refine lv_ior hx hb dX12_trapped_73 (zgen (lo := 0) (hi := 63) (zI.or 6 hw73_s1 hw73_s0 (by decide)) (fun v1 hv1 => ?_))
        refine lv_istore_n (lv' := [(1, .int v1), (0, .ref h0), (2, .int w9_2)]) hx hb dX12_trapped_74 rfl hl (by decide) rfl (fun ls hl => ?_)
        refine lv_iinc (v := w9_2 + 1) (lv' := [(2, .int (w9_2 + 1)), (1, .int v1), (0, .ref h0)]) hx hb dX12_trapped_75 hl (k := 2) rfl (rfl) (by decide) rfl (fun ls hl => ?_)
        have k2 : zI 1 6 (w9_2 + 1) := zI.add hw73_2 (zI.lit (a := 1) (b := 1) (by decide)) (by decide)
        refine lv_goto (tgt := 9) hx hb dX12_trapped_78 (by decide) ?_
        exact ih9 v1 (w9_2 + 1) rw73 hv1 (k2.w (c := 0) (d := 6) (by decide)) jw73 fw73 (zI.up hw73_2 (by decide) hm9) H locs ls hw hS (lv_sub hl [2, 1, 0] rfl)
      have cut24 : ∀ (n : Nat) (w24_3 : Int32) (w24_4 : Int32) (rw24 : zRr) (hw24_1 : zI 0 63 w9_1) (hw24_2 : zI 0 5 w9_2) (hw24_3 : zI 0 1 w24_3) (hw24_4 : zI 0 6 w24_4) (jw24 : mJ B rw24) (fw24 : zFr [15, 16, 17, 18, 19, 20, 21, 22, 23, 24, 100] r rw24), 6 - w24_4.toInt < (n : Int) → zKf p l e ({ frames := 9, cells := 0, slots := 0, locals := 400 }) s m a9 below meth c Q D A 24 5 [] (mW ct h0 y rw24 q) [(0, .ref h0), (1, .int w9_1), (2, .int w9_2), (3, .int w24_3), (4, .int w24_4)] := by
        intro n
        induction n with
        | zero => intro w24_3 w24_4 rw24 hw24_1 hw24_2 hw24_3 hw24_4 jw24 fw24 hm24; exact zI.no hw24_4 (by decide) hm24
        | succ n ih24 =>
          intro w24_3 w24_4 rw24 hw24_1 hw24_2 hw24_3 hw24_4 jw24 fw24 hm24
          have cut54 : ∀ (w54_s0 : Int32) (rw54 : zRr) (hw54_1 : zI 0 63 w9_1) (hw54_2 : zI 0 5 w9_2) (hw54_4 : zI 0 5 w24_4) (hw54_s0 : zI 0 1 w54_s0) (jw54 : mJ B rw54) (fw54 : zFr [15, 16, 17, 18, 19, 20, 21, 22, 23, 24, 100] r rw54), zKf p l e ({ frames := 9, cells := 0, slots := 0, locals := 400 }) s m a9 below meth c Q D A 54 5 [.int w54_s0] (mW ct h0 y rw54 q) [(0, .ref h0), (1, .int w9_1), (2, .int w9_2), (4, .int w24_4)] := by
            intro w54_s0 rw54 hw54_1 hw54_2 hw54_4 hw54_s0 jw54 fw54 H locs ls hw hS hl
            refine lv_istore_n (lv' := [(3, .int w54_s0), (0, .ref h0), (1, .int w9_1), (2, .int w9_2), (4, .int w24_4)]) hx hb dX12_trapped_54 rfl hl (by decide) rfl (fun ls hl => ?_)
            refine lv_iinc (v := w24_4 + 1) (lv' := [(4, .int (w24_4 + 1)), (3, .int w54_s0), (0, .ref h0), (1, .int w9_1), (2, .int w9_2)]) hx hb dX12_trapped_55 hl (k := 4) rfl (rfl) (by decide) rfl (fun ls hl => ?_)
            have k3 : zI 1 6 (w24_4 + 1) := zI.add hw54_4 (zI.lit (a := 1) (b := 1) (by decide)) (by decide)
            refine lv_goto (tgt := 24) hx hb dX12_trapped_58 (by decide) ?_
            exact ih24 w54_s0 (w24_4 + 1) rw54 hw54_1 hw54_2 hw54_s0 (k3.w (c := 0) (d := 6) (by decide)) jw54 fw54 (zI.up hw54_4 (by decide) hm24) H locs ls hw hS (lv_sub hl [2, 3, 4, 1, 0] rfl)
          have cut53 : ∀ (rw53 : zRr) (hw53_1 : zI 0 63 w9_1) (hw53_2 : zI 0 5 w9_2) (hw53_4 : zI 0 5 w24_4) (jw53 : mJ B rw53) (fw53 : zFr [15, 16, 17, 18, 19, 20, 21, 22, 23, 24, 100] r rw53), zKf p l e ({ frames := 9, cells := 0, slots := 0, locals := 400 }) s m a9 below meth c Q D A 53 5 [] (mW ct h0 y rw53 q) [(0, .ref h0), (1, .int w9_1), (2, .int w9_2), (4, .int w24_4)] := by
            intro rw53 hw53_1 hw53_2 hw53_4 jw53 fw53 H locs ls hw hS hl
            refine lv_iconst (v := 0) hx hb dX12_trapped_53 (by decide) ?_
            exact cut54 0 rw53 hw53_1 hw53_2 hw53_4 ((zI.lit (a := 0) (b := 0) (c := 0) (by decide)).w (c := 0) (d := 1) (by decide)) jw53 fw53 H locs ls hw hS (lv_sub hl [0, 1, 2, 3] rfl)
          intro H locs ls hw hS hl
          refine lv_iload hx hb dX12_trapped_24 (lv_at hl 4 rfl) ?_
          refine lv_aload_n hx hb dX12_trapped_26 rfl (lv_at hl 0 rfl) ?_
          refine mget (v := .ref (y 1)) hx hb hts hiX12 hown hK hw 10 (by decide) lf13 rfl rfl dX12_trapped_27 ?_
          refine lv_iconst (v := 0) hx hb dX12_trapped_30 (by decide) ?_
          refine ziald hx hb hK hw 2 mWg1 0 (by decide) (by decide) (by decide) dX12_trapped_31 (zgen (lo := 0) (hi := 6) ((show zI 0 6 (rw24 1 0) from jw24.i 1 0)) (fun v4 hv4 => ?_))
          refine lv_icmp_ge (tgt := 61) hx hb dX12_trapped_32 (by decide) (fun c5 => ?_) (fun c5 => ?_)
          · refine lv_iload_n hx hb dX12_trapped_61 rfl (lv_at hl 1 rfl) ?_
            refine lv_iload_n hx hb dX12_trapped_62 rfl (lv_at hl 3 rfl) ?_
            refine lv_if_eq (tgt := 72) hx hb dX12_trapped_63 (by decide) (fun c6 => ?_) (fun c6 => ?_)
            · have k7 : zI 0 0 (w24_3) := zI.eqq c6 (zI.lit (a := 0) (b := 0) (c := 0) (by decide))
              refine lv_iconst (v := 0) hx hb dX12_trapped_72 (by decide) ?_
              exact cut73 0 rw24 hw24_2 ((zI.lit (a := 0) (b := 0) (c := 0) (by decide)).w (c := 0) (d := 39) (by decide)) hw24_1 jw24 fw24 H locs ls hw hS (lv_sub hl [0, 2] rfl)
            · have k8 : zI 1 1 (w24_3) := zI.neD c6 hw24_3 (zI.lit (a := 0) (b := 0) (c := 0) (by decide)) (by decide)
              refine lv_iconst (v := 1) hx hb dX12_trapped_66 (by decide) ?_
              refine lv_iload_n hx hb dX12_trapped_67 rfl (lv_at hl 2 rfl) ?_
              refine lv_ishl hx hb dX12_trapped_68 (zgen (lo := 1) (hi := 32) (zI.shl hw24_2 5 (by decide)) (fun v9 hv9 => ?_))
              refine lv_goto (tgt := 73) hx hb dX12_trapped_69 (by decide) ?_
              exact cut73 v9 rw24 hw24_2 (hv9.w (c := 0) (d := 39) (by decide)) hw24_1 jw24 fw24 H locs ls hw hS (lv_sub hl [0, 2] rfl)
          · have k10 : zI 0 5 (w24_4) := zI.ltU (zI.nle c5) hw24_4 hv4 (by decide)
            have k11 : zI 1 6 (v4) := zI.ltD (zI.nle c5) hw24_4 hv4 (by decide)
            refine lv_iload_n hx hb dX12_trapped_35 rfl (lv_at hl 3 rfl) ?_
            refine lv_if_eq (tgt := 53) hx hb dX12_trapped_36 (by decide) (fun c12 => ?_) (fun c12 => ?_)
            · have k13 : zI 0 0 (w24_3) := zI.eqq c12 (zI.lit (a := 0) (b := 0) (c := 0) (by decide))
              exact cut53 rw24 hw24_1 hw24_2 k10 jw24 fw24 H locs ls hw hS (lv_sub hl [0, 1, 2, 4] rfl)
            · have k14 : zI 1 1 (w24_3) := zI.neD c12 hw24_3 (zI.lit (a := 0) (b := 0) (c := 0) (by decide)) (by decide)
              refine lv_aload_n hx hb dX12_trapped_39 rfl (lv_at hl 0 rfl) ?_
              refine lv_iload_n hx hb dX12_trapped_40 rfl (lv_at hl 2 rfl) ?_
              refine lv_iload hx hb dX12_trapped_41 (lv_at hl 4 rfl) ?_
              refine mcallV (As := [.int w9_2, .int w24_4]) (rest := []) ⟨hx, hb, hml, hown, hts⟩ (mc_canGo l D ct h0 y B w9_2 w24_4 rw24 q hw24_2 k10 jw24) (wqX12_383_mc_canGo hts ⟨Nat.le_of_ble_eq_true rfl, Nat.le_of_ble_eq_true rfl⟩) hw hS hA hK hN rfl hl.1 rfl (Nat.le_of_ble_eq_true rfl) dX12_trapped_43 46 rfl (fun u15 H locs pu15 hw hS => ?_)
              obtain ⟨v16, r17⟩ := u15
              have hv16 : zI 0 1 v16 := pu15.1
              have ju15 : mJ B r17 := pu15.2.1
              have fu15 : zFr [15, 16, 17, 18, 19, 20, 21, 22, 23, 24] rw24 r17 := pu15.2.2.1
              have xu15 : (v16, r17) = (Gm_canGo w9_2 w24_4 rw24 q) := pu15.2.2.2.1
              have hw : zPD D A (mW ct h0 y r17 q) H := hw
              refine zfr 46 [.int v16] rfl rfl ?_
              refine lv_if_ne (tgt := 53) hx hb dX12_trapped_46 (by decide) (fun c18 => ?_) (fun c18 => ?_)
              · have k19 : zI 1 1 (v16) := zI.neD c18 hv16 (zI.lit (a := 0) (b := 0) (c := 0) (by decide)) (by decide)
                exact cut53 r17 hw24_1 hw24_2 k10 ju15 (fw24.tr fu15 rfl) H locs ls hw hS (lv_sub hl [0, 1, 2, 4] rfl)
              · have k20 : zI 0 0 (v16) := zI.eqq c18 (zI.lit (a := 0) (b := 0) (c := 0) (by decide))
                refine lv_iconst (v := 1) hx hb dX12_trapped_49 (by decide) ?_
                refine lv_goto (tgt := 54) hx hb dX12_trapped_50 (by decide) ?_
                exact cut54 1 r17 hw24_1 hw24_2 k10 ((zI.lit (a := 1) (b := 1) (c := 1) (by decide)).w (c := 0) (d := 1) (by decide)) ju15 (fw24.tr fu15 rfl) H locs ls hw hS (lv_sub hl [0, 1, 2, 4] rfl)
      intro H locs ls hw hS hl
      refine lv_iload_n hx hb dX12_trapped_9 rfl (lv_at hl 2 rfl) ?_
      refine lv_aload_n hx hb dX12_trapped_10 rfl (lv_at hl 0 rfl) ?_
      refine mget (v := .ref (y 1)) hx hb hts hiX12 hown hK hw 10 (by decide) lf13 rfl rfl dX12_trapped_11 ?_
      refine lv_iconst (v := 1) hx hb dX12_trapped_14 (by decide) ?_
      refine ziald hx hb hK hw 2 mWg1 1 (by decide) (by decide) (by decide) dX12_trapped_15 (zgen (lo := 0) (hi := 6) ((show zI 0 6 (rw9 1 1) from jw9.i 1 1)) (fun v21 hv21 => ?_))
      refine lv_icmp_ge (tgt := 81) hx hb dX12_trapped_16 (by decide) (fun c22 => ?_) (fun c22 => ?_)
      · refine lv_iload_n hx hb dX12_trapped_81 rfl (lv_at hl 1 rfl) ?_
        exact ziretQ hQ hx hb hr rfl hlocks (w9_1, rw9) rfl ⟨hw9_1, jw9, fw9, trivial⟩ hw hS dX12_trapped_82
      · have k23 : zI 0 5 (w9_2) := zI.ltU (zI.nle c22) hw9_2 hv21 (by decide)
        have k24 : zI 1 6 (v21) := zI.ltD (zI.nle c22) hw9_2 hv21 (by decide)
        refine lv_iconst (v := 1) hx hb dX12_trapped_19 (by decide) ?_
        refine lv_istore_n (lv' := [(3, .int 1), (0, .ref h0), (1, .int w9_1), (2, .int w9_2)]) hx hb dX12_trapped_20 rfl hl (by decide) rfl (fun ls hl => ?_)
        refine lv_iconst (v := 0) hx hb dX12_trapped_21 (by decide) ?_
        refine lv_istore (lv' := [(4, .int 0), (3, .int 1), (0, .ref h0), (1, .int w9_1), (2, .int w9_2)]) hx hb dX12_trapped_22 hl (by decide) rfl (fun ls hl => ?_)
        exact cut24 7 1 0 rw9 hw9_1 k23 ((zI.lit (a := 1) (b := 1) (c := 1) (by decide)).w (c := 0) (d := 1) (by decide)) ((zI.lit (a := 0) (b := 0) (c := 0) (by decide)).w (c := 0) (d := 6) (by decide)) jw9 fw9 (zI.m0 (zI.lit (a := 0) (b := 0) (c := 0) (by decide)) (by decide)) H locs ls hw hS (lv_sub hl [2, 3, 4, 1, 0] rfl)
  intro H locs hw hS ls hl
  have hl : lv_has ls 5 [(0, .ref h0)] := hl
  refine lv_aload_n hx hb dX12_trapped_0 rfl (lv_at hl 0 rfl) ?_
  refine lv_iconst (v := 0) hx hb dX12_trapped_1 (by decide) ?_
  refine mput (ty := .int) (v := .int 0) hx hb hts hiX12 hown hK hw hS 0 (by decide) lf129 rfl rfl (by decide +kernel) rfl rfl dX12_trapped_2 (zset r 100 (fun _ => (0 : Int32))) _ mWf0 (fun H locs hw hS => ?_)
  refine mgen (P := fun x => mJ B x ∧ zFr [15, 16, 17, 18, 19, 20, 21, 22, 23, 24, 100] r x) hw ⟨hJ0.setc rfl (fun _ => (zI.top _)), (zFr.refl).set rfl⟩ (fun r25 er25 hw pr25 => ?_)
  refine lv_iconst (v := 0) hx hb dX12_trapped_5 (by decide) ?_
  refine lv_istore_n (lv' := [(1, .int 0), (0, .ref h0)]) hx hb dX12_trapped_6 rfl hl (by decide) rfl (fun ls hl => ?_)
  refine lv_iconst (v := 0) hx hb dX12_trapped_7 (by decide) ?_
  refine lv_istore_n (lv' := [(2, .int 0), (1, .int 0), (0, .ref h0)]) hx hb dX12_trapped_8 rfl hl (by decide) rfl (fun ls hl => ?_)
  exact cut9 7 0 0 r25 ((zI.lit (a := 0) (b := 0) (c := 0) (by decide)).w (c := 0) (d := 63) (by decide)) ((zI.lit (a := 0) (b := 0) (c := 0) (by decide)).w (c := 0) (d := 6) (by decide)) pr25.1 pr25.2 (zI.m0 (zI.lit (a := 0) (b := 0) (c := 0) (by decide)) (by decide)) H locs ls hw hS (lv_sub hl [2, 1, 0] rfl)

noncomputable def Gm_whenAt_64 (w64_4 : Int32) (rw64 : zRr) : Int32 × zRr :=
  zlet (α := zRr) (zset rw64 32 (zcp (rw64 34) (rw64 32) (0) (0) 31)) <| fun r1 => zif (w64_4 ≤ (99 : Int32)) ((w64_4, r1)) ((((-1) : Int32), r1))
noncomputable def Bm_whenAt_32 (a1 : Int32) (a2 : Int32) (q : zRq) (ih32 : Int32 → Int32 → zRr → (Int32 × zRr)) (w32_3 : Int32) (w32_4 : Int32) (rw32 : zRr) : Int32 × zRr :=
  zif ((100 : Int32) ≤ w32_4) (Gm_whenAt_64 w32_4 rw32) (zlet (α := Int32) (w32_3 >>> (a2 &&& 31)) <| fun v8 => zlet (α := Int32) (v8 &&& 1) <| fun v9 => zifn (v9 = (0 : Int32)) (Gm_whenAt_64 w32_4 rw32) (zlet (α := zRr) ((Gm_passes rw32 q)) <| fun u13 => zc_vr (Gm_reachFrom a1 w32_3 u13 q) <| fun v17 r18 => ih32 v17 (w32_4 + 1) r18))
noncomputable def Gm_whenAt_32 (a1 : Int32) (a2 : Int32) (q : zRq) (n : Nat) : Int32 → Int32 → zRr → (Int32 × zRr) :=
  Nat.rec (motive := fun _ => Int32 → Int32 → zRr → (Int32 × zRr)) (fun _ _ rw32 => (default, rw32)) (fun _ ih => Bm_whenAt_32 a1 a2 q ih) n
noncomputable def Gm_whenAt (a1 : Int32) (a2 : Int32) (r : zRr) (q : zRq) : Int32 × zRr :=
  zlet (α := zRr) (zset r 34 (zcp (r 32) (r 34) (0) (0) 31)) <| fun r19 => zlet (α := Int32) (1 + a1) <| fun v20 => zlet (α := Int32) (r19 32 (zn v20)) <| fun v21 => zlet (α := Int32) (1 <<< (v21 &&& 31)) <| fun v22 => zc_vr (Gm_reachFrom a1 v22 r19 q) <| fun v24 r25 => Gm_whenAt_32 a1 a2 q 101 v24 0 r25
set_option maxHeartbeats 4000000 in
set_option maxRecDepth 100000 in
theorem mc_whenAt (l : Launch) (D : va_G) (ct : Nat → ClassId) (h0 : Nat) (y : Nat → Nat) (a1 : Int32) (a2 : Int32) (r : zRr) (q : zRq) (g1 : zI 0 5 a1) (g2 : zI 0 5 a2) (hJ0 : mJ 20 r) : zC l yX12_whenAt (.code yX12_whenAt cX12_whenAt 5 (some .int) :: wsL_law0) ({ frames := 10, cells := 0, slots := 0, locals := 440 }) D ct [] [.ref h0, .int a1, .int a2] (mW ct h0 y r q) (S := Int32 × zRr) (fun u => some (.int u.1)) (fun u => zI (-1) 99 u.1 ∧ mJ 20 u.2 ∧ zFr [15, 16, 17, 18, 19, 20, 21, 22, 23, 24, 34, 32] r u.2 ∧ u = (Gm_whenAt a1 a2 r q) ∧ True) (fun u => mW ct h0 y u.2 q) 0 0 := by
  refine zofQ cX12_whenAt 5 (some .int) (by decide) rfl (Nat.le_of_ble_eq_true rfl) ?_
  intro p e s m below meth c A a9 Q ha9 hx hb hr hml hts hown hlocks hname hK hA hZ hN hQ
  have hown : s.vm.findClass RX12 = some m.cls := hown
  have hiX12 : ∀ w ∈ wsX120, w ∈ .code yX12_whenAt cX12_whenAt 5 (some .int) :: wsL_law0 := fun _ h => ki (zs_wsX120 _ h)
  have lf108 := hts (.fieldLink RX12 108 "BeardPassModel" "s" "[I") (ki (zr9 4 rfl))
  have lf114 := hts (.fieldLink RX12 114 "BeardPassModel" "before" "[I") (ki (zr9 6 rfl))
  obtain ⟨X, hX⟩ : ∃ X, X = (Gm_whenAt a1 a2 r q) := ⟨_, rfl⟩
  have cut64 : ∀ (w64_4 : Int32) (rw64 : zRr) (hw64_4 : zI 0 100 w64_4) (jw64 : mJ 20 rw64) (fw64 : zFr [15, 16, 17, 18, 19, 20, 21, 22, 23, 24, 34, 32] r rw64) (hE : X = Gm_whenAt_64 w64_4 rw64), zKf p l e ({ frames := 10, cells := 0, slots := 0, locals := 440 }) s m a9 below meth c Q D A 64 5 [] (mW ct h0 y rw64 q) [(0, .ref h0), (4, .int w64_4)] := by
    intro w64_4 rw64 hw64_4 jw64 fw64 hE H locs ls hw hS hl
    unfold Gm_whenAt_64 at hE
    refine lv_aload_n hx hb dX12_whenAt_64 rfl (lv_at hl 0 rfl) ?_
    refine mget (v := .ref (y 34)) hx hb hts hiX12 hown hK hw 47 (by decide) lf114 rfl rfl dX12_whenAt_65 ?_
    refine lv_iconst (v := 0) hx hb dX12_whenAt_68 (by decide) ?_
    refine lv_aload_n hx hb dX12_whenAt_69 rfl (lv_at hl 0 rfl) ?_
    refine mget (v := .ref (y 32)) hx hb hts hiX12 hown hK hw 45 (by decide) lf108 rfl rfl dX12_whenAt_70 ?_
    refine lv_iconst (v := 0) hx hb dX12_whenAt_73 (by decide) ?_
    refine mcp2 35 33 (As := [.ref (y 34), .int 0, .ref (y 32), .int 0]) (rest := []) ⟨hx, hb, hml, hown, hts⟩ (c_copies l D ct (y 34) (0) (y 32) (0) 31 31 (rw64 34) (rw64 32) (by decide) (by decide) (by decide) (by decide)) (va_cwS 4 hts (kgSm (zr36 17 rfl) (zr36 18 rfl) (zr1 5 rfl) mL_X12_copies) rfl rfl rfl (by decide +kernel) ⟨Nat.le_of_ble_eq_true rfl, Nat.le_of_ble_eq_true rfl⟩) hw hS hA hK hN mWg34 mWg32 rfl rfl (by decide) rfl hl.1 rfl (Nat.le_of_ble_eq_true rfl) dX12_whenAt_74 mWs32 (fun _ H locs _ hw hS => ?_)
    have hw : zPD D A (mW ct h0 y (zset rw64 32 (zcp (rw64 34) (rw64 32) (0) (0) 31)) q) H := hw
    refine zfr 77 [] rfl rfl ?_
    refine mgen (P := fun x => mJ 20 x ∧ zFr [15, 16, 17, 18, 19, 20, 21, 22, 23, 24, 34, 32] r x) hw ⟨mcp_s jw64 (Or.inl ⟨Or.inr rfl, rfl⟩), fw64.set rfl⟩ (fun r1 er1 hw pr1 => ?_)
    have hE := zletE er1 hE
    refine lv_iload hx hb dX12_whenAt_77 (lv_at hl 1 rfl) ?_
    refine lv_bipush (v := 99) hx hb dX12_whenAt_79 (by decide) ?_
    refine lv_icmp_le (tgt := 88) hx hb dX12_whenAt_81 (by decide) (fun c2 => ?_) (fun c2 => ?_)
    · have hE := zifT c2 hE
      have k3 : zI 0 99 (w64_4) := zI.leU c2 hw64_4 (zI.lit (a := 99) (b := 99) (c := 99) (by decide)) (by decide)
      refine lv_iload hx hb dX12_whenAt_88 (lv_at hl 1 rfl) ?_
      exact ziretQ hQ hx hb hr rfl hlocks (w64_4, r1) rfl ⟨(k3.w (c := (-1)) (d := 99) (by decide)), pr1.1, pr1.2, (hE.symm.trans hX), trivial⟩ hw hS dX12_whenAt_90
    · have hE := zifF c2 hE
      have k4 : zI 100 100 (w64_4) := zI.ltD (zI.nle c2) (zI.lit (a := 99) (b := 99) (c := 99) (by decide)) hw64_4 (by decide)
      refine lv_iconst (v := (-1)) hx hb dX12_whenAt_84 (by decide) ?_
      refine lv_goto (tgt := 90) hx hb dX12_whenAt_85 (by decide) ?_
      exact ziretQ hQ hx hb hr rfl hlocks ((-1), r1) rfl ⟨((zI.lit (a := (-1)) (b := (-1)) (c := (-1)) (by decide)).w (c := (-1)) (d := 99) (by decide)), pr1.1, pr1.2, (hE.symm.trans hX), trivial⟩ hw hS dX12_whenAt_90
  have cut32 : ∀ (n32 : Nat) (w32_3 : Int32) (w32_4 : Int32) (rw32 : zRr) (hw32_1 : zI 0 5 a1) (hw32_2 : zI 0 5 a2) (hw32_3 : zI 0 63 w32_3) (hw32_4 : zI 0 100 w32_4) (jw32 : mJ 20 rw32) (fw32 : zFr [15, 16, 17, 18, 19, 20, 21, 22, 23, 24, 34, 32] r rw32) (hE : X = Gm_whenAt_32 a1 a2 q n32 w32_3 w32_4 rw32), 100 - w32_4.toInt < (n32 : Int) → zKf p l e ({ frames := 10, cells := 0, slots := 0, locals := 440 }) s m a9 below meth c Q D A 32 5 [] (mW ct h0 y rw32 q) [(0, .ref h0), (1, .int a1), (2, .int a2), (3, .int w32_3), (4, .int w32_4)] := by
    intro n32
    induction n32 with
    | zero => intro w32_3 w32_4 rw32 hw32_1 hw32_2 hw32_3 hw32_4 jw32 fw32 hE hm32; exact zI.no hw32_4 (by decide) hm32
    | succ n32 ih32 =>
      intro w32_3 w32_4 rw32 hw32_1 hw32_2 hw32_3 hw32_4 jw32 fw32 hE hm32
      have hE : X = Bm_whenAt_32 a1 a2 q (Gm_whenAt_32 a1 a2 q n32) w32_3 w32_4 rw32 := hE
      unfold Bm_whenAt_32 at hE
      intro H locs ls hw hS hl
      refine lv_iload hx hb dX12_whenAt_32 (lv_at hl 4 rfl) ?_
      refine lv_bipush (v := 100) hx hb dX12_whenAt_34 (by decide) ?_
      refine lv_icmp_ge (tgt := 64) hx hb dX12_whenAt_36 (by decide) (fun c5 => ?_) (fun c5 => ?_)
      · have hE := zifT c5 hE
        have k6 : zI 100 100 (w32_4) := zI.leD c5 (zI.lit (a := 100) (b := 100) (c := 100) (by decide)) hw32_4 (by decide)
        exact cut64 w32_4 rw32 (k6.w (c := 0) (d := 100) (by decide)) jw32 fw32 hE H locs ls hw hS (lv_sub hl [0, 4] rfl)
      · have hE := zifF c5 hE
        have k7 : zI 0 99 (w32_4) := zI.ltU (zI.nle c5) hw32_4 (zI.lit (a := 100) (b := 100) (c := 100) (by decide)) (by decide)
        refine lv_iload_n hx hb dX12_whenAt_39 rfl (lv_at hl 3 rfl) ?_
        refine lv_iload_n hx hb dX12_whenAt_40 rfl (lv_at hl 2 rfl) ?_
        refine lv_ishr hx hb dX12_whenAt_41 (zgenE (lo := 0) (hi := 63) (zI.shr hw32_3 (by decide)) (fun v8 ev8 hv8 => ?_))
        have hE := zletE ev8 hE
        refine lv_iconst (v := 1) hx hb dX12_whenAt_42 (by decide) ?_
        refine lv_iand hx hb dX12_whenAt_43 (zgenE (lo := 0) (hi := 1) (zI.and (zI.lit (a := 1) (b := 1) (c := 1) (by decide)) (by decide)) (fun v9 ev9 hv9 => ?_))
        have hE := zletE ev9 hE
        refine lv_if_ne (tgt := 64) hx hb dX12_whenAt_44 (by decide) (fun c10 => ?_) (fun c10 => ?_)
        · have hE := zifnT c10 hE
          have k11 : zI 1 1 (v9) := zI.neD c10 hv9 (zI.lit (a := 0) (b := 0) (c := 0) (by decide)) (by decide)
          exact cut64 w32_4 rw32 (k7.w (c := 0) (d := 100) (by decide)) jw32 fw32 hE H locs ls hw hS (lv_sub hl [0, 4] rfl)
        · have hE := zifnF c10 hE
          have k12 : zI 0 0 (v9) := zI.eqq c10 (zI.lit (a := 0) (b := 0) (c := 0) (by decide))
          refine lv_aload_n hx hb dX12_whenAt_47 rfl (lv_at hl 0 rfl) ?_
          refine mcallV (As := []) (rest := []) ⟨hx, hb, hml, hown, hts⟩ (mc_passes l D ct h0 y 20 rw32 q jw32) (wqX12_401_mc_passes hts ⟨Nat.le_of_ble_eq_true rfl, Nat.le_of_ble_eq_true rfl⟩) hw hS hA hK hN rfl hl.1 rfl (Nat.le_of_ble_eq_true rfl) dX12_whenAt_48 51 rfl (fun u13 H locs pu13 hw hS => ?_)
          have ju13 : mJ 20 u13 := pu13.1
          have fu13 : zFr [32] rw32 u13 := pu13.2.1
          have xu13 : u13 = (Gm_passes rw32 q) := pu13.2.2.1
          have hE := zletE xu13 hE
          have hw : zPD D A (mW ct h0 y u13 q) H := hw
          refine zfr 51 [] rfl rfl ?_
          refine lv_iinc (v := w32_4 + 1) (lv' := [(4, .int (w32_4 + 1)), (0, .ref h0), (1, .int a1), (2, .int a2), (3, .int w32_3)]) hx hb dX12_whenAt_51 hl (k := 4) rfl (rfl) (by decide) rfl (fun ls hl => ?_)
          have k15 : zI 1 100 (w32_4 + 1) := zI.add k7 (zI.lit (a := 1) (b := 1) (by decide)) (by decide)
          refine lv_aload_n hx hb dX12_whenAt_54 rfl (lv_at hl 1 rfl) ?_
          refine lv_iload_n hx hb dX12_whenAt_55 rfl (lv_at hl 2 rfl) ?_
          refine lv_iload_n hx hb dX12_whenAt_56 rfl (lv_at hl 4 rfl) ?_
          refine mcallV (As := [.int a1, .int w32_3]) (rest := []) ⟨hx, hb, hml, hown, hts⟩ (mc_reachFrom l D ct h0 y 20 a1 w32_3 u13 q hw32_1 hw32_3 ju13) (wqX12_419_mc_reachFrom hts ⟨Nat.le_of_ble_eq_true rfl, Nat.le_of_ble_eq_true rfl⟩) hw hS hA hK hN rfl hl.1 rfl (Nat.le_of_ble_eq_true rfl) dX12_whenAt_57 60 rfl (fun u16 H locs pu16 hw hS => ?_)
          obtain ⟨v17, r18⟩ := u16
          have hv17 : zI 0 63 v17 := pu16.1
          have ju16 : mJ 20 r18 := pu16.2.1
          have fu16 : zFr [15, 16, 17, 18, 19, 20, 21, 22, 23, 24] u13 r18 := pu16.2.2.1
          have xu16 : (v17, r18) = (Gm_reachFrom a1 w32_3 u13 q) := pu16.2.2.2.1
          have hE := zc_vrE xu16 hE
          have hw : zPD D A (mW ct h0 y r18 q) H := hw
          refine zfr 60 [.int v17] rfl rfl ?_
          refine lv_istore_n (lv' := [(3, .int v17), (4, .int (w32_4 + 1)), (0, .ref h0), (1, .int a1), (2, .int a2)]) hx hb dX12_whenAt_60 rfl hl (by decide) rfl (fun ls hl => ?_)
          refine lv_goto (tgt := 32) hx hb dX12_whenAt_61 (by decide) ?_
          exact ih32 v17 (w32_4 + 1) r18 hw32_1 hw32_2 hv17 (k15.w (c := 0) (d := 100) (by decide)) ju16 ((fw32.tr fu13 rfl).tr fu16 rfl) hE (zI.up k7 (by decide) hm32) H locs ls hw hS (lv_sub hl [2, 3, 4, 0, 1] rfl)
  intro H locs hw hS ls hl
  have hl : lv_has ls 5 [(0, .ref h0), (1, .int a1), (2, .int a2)] := hl
  have hE := hX
  unfold Gm_whenAt at hE
  refine lv_aload_n hx hb dX12_whenAt_0 rfl (lv_at hl 0 rfl) ?_
  refine mget (v := .ref (y 32)) hx hb hts hiX12 hown hK hw 45 (by decide) lf108 rfl rfl dX12_whenAt_1 ?_
  refine lv_iconst (v := 0) hx hb dX12_whenAt_4 (by decide) ?_
  refine lv_aload_n hx hb dX12_whenAt_5 rfl (lv_at hl 0 rfl) ?_
  refine mget (v := .ref (y 34)) hx hb hts hiX12 hown hK hw 47 (by decide) lf114 rfl rfl dX12_whenAt_6 ?_
  refine lv_iconst (v := 0) hx hb dX12_whenAt_9 (by decide) ?_
  refine mcp2 33 35 (As := [.ref (y 32), .int 0, .ref (y 34), .int 0]) (rest := []) ⟨hx, hb, hml, hown, hts⟩ (c_copies l D ct (y 32) (0) (y 34) (0) 31 31 (r 32) (r 34) (by decide) (by decide) (by decide) (by decide)) (va_cwS 4 hts (kgSm (zr36 17 rfl) (zr36 18 rfl) (zr1 5 rfl) mL_X12_copies) rfl rfl rfl (by decide +kernel) ⟨Nat.le_of_ble_eq_true rfl, Nat.le_of_ble_eq_true rfl⟩) hw hS hA hK hN mWg32 mWg34 rfl rfl (by decide) rfl hl.1 rfl (Nat.le_of_ble_eq_true rfl) dX12_whenAt_10 mWs34 (fun _ H locs _ hw hS => ?_)
  have hw : zPD D A (mW ct h0 y (zset r 34 (zcp (r 32) (r 34) (0) (0) 31)) q) H := hw
  refine zfr 13 [] rfl rfl ?_
  refine mgen (P := fun x => mJ 20 x ∧ zFr [15, 16, 17, 18, 19, 20, 21, 22, 23, 24, 34, 32] r x) hw ⟨mcp_o hJ0 (Or.inl ⟨Or.inr rfl, rfl⟩) rfl, (zFr.refl).set rfl⟩ (fun r19 er19 hw pr19 => ?_)
  have hE := zletE er19 hE
  refine lv_aload_n hx hb dX12_whenAt_13 rfl (lv_at hl 0 rfl) ?_
  refine lv_iload_n hx hb dX12_whenAt_14 rfl (lv_at hl 1 rfl) ?_
  refine lv_iconst (v := 1) hx hb dX12_whenAt_15 (by decide) ?_
  refine lv_aload_n hx hb dX12_whenAt_16 rfl (lv_at hl 0 rfl) ?_
  refine mget (v := .ref (y 32)) hx hb hts hiX12 hown hK hw 45 (by decide) lf108 rfl rfl dX12_whenAt_17 ?_
  refine lv_iconst (v := 1) hx hb dX12_whenAt_20 (by decide) ?_
  refine lv_iload_n hx hb dX12_whenAt_21 rfl (lv_at hl 1 rfl) ?_
  refine lv_iadd hx hb dX12_whenAt_22 (zgenE (lo := 1) (hi := 6) (zI.add (zI.lit (a := 1) (b := 1) (c := 1) (by decide)) g1 (by decide)) (fun v20 ev20 hv20 => ?_))
  have hE := zletE ev20 hE
  refine miald hx hb hK hw 33 mWg32 hv20 (by decide) dX12_whenAt_23 (zgenE (lo := 0) (hi := 5) ((ms_1 pr19.1 hv20)) (fun v21 ev21 hv21 => ?_))
  have hE := zletE ev21 hE
  refine lv_ishl hx hb dX12_whenAt_24 (zgenE (lo := 1) (hi := 32) (zI.shl hv21 5 (by decide)) (fun v22 ev22 hv22 => ?_))
  have hE := zletE ev22 hE
  refine mcallV (As := [.int a1, .int v22]) (rest := []) ⟨hx, hb, hml, hown, hts⟩ (mc_reachFrom l D ct h0 y 20 a1 v22 r19 q g1 (hv22.w (c := 0) (d := 63) (by decide)) pr19.1) (wqX12_419_mc_reachFrom hts ⟨Nat.le_of_ble_eq_true rfl, Nat.le_of_ble_eq_true rfl⟩) hw hS hA hK hN rfl hl.1 rfl (Nat.le_of_ble_eq_true rfl) dX12_whenAt_25 28 rfl (fun u23 H locs pu23 hw hS => ?_)
  obtain ⟨v24, r25⟩ := u23
  have hv24 : zI 0 63 v24 := pu23.1
  have ju23 : mJ 20 r25 := pu23.2.1
  have fu23 : zFr [15, 16, 17, 18, 19, 20, 21, 22, 23, 24] r19 r25 := pu23.2.2.1
  have xu23 : (v24, r25) = (Gm_reachFrom a1 v22 r19 q) := pu23.2.2.2.1
  have hE := zc_vrE xu23 hE
  have hw : zPD D A (mW ct h0 y r25 q) H := hw
  refine zfr 28 [.int v24] rfl rfl ?_
  refine lv_istore_n (lv' := [(3, .int v24), (0, .ref h0), (1, .int a1), (2, .int a2)]) hx hb dX12_whenAt_28 rfl hl (by decide) rfl (fun ls hl => ?_)
  refine lv_iconst (v := 0) hx hb dX12_whenAt_29 (by decide) ?_
  refine lv_istore (lv' := [(4, .int 0), (3, .int v24), (0, .ref h0), (1, .int a1), (2, .int a2)]) hx hb dX12_whenAt_30 hl (by decide) rfl (fun ls hl => ?_)
  exact cut32 101 v24 0 r25 g1 g2 hv24 ((zI.lit (a := 0) (b := 0) (c := 0) (by decide)).w (c := 0) (d := 100) (by decide)) ju23 (pr19.2.tr fu23 rfl) hE (zI.m0 (zI.lit (a := 0) (b := 0) (c := 0) (by decide)) (by decide)) H locs ls hw hS (lv_sub hl [2, 3, 4, 1, 0] rfl)

noncomputable def Gm_when (a1 : Int32) (a2 : Int32) (r : zRr) (q : zRq) : Int32 × zRr :=
  zlet (α := zRr) (zset r 100 (fun _ => (0 : Int32))) <| fun r1 => zlet (α := Int32) ((Gm_isPerson a1 r1 q)) <| fun u2 => zif (u2 = (0 : Int32)) ((((-1) : Int32), r1)) (zlet (α := Int32) ((Gm_isTown a2 r1 q)) <| fun u7 => zif (u7 = (0 : Int32)) ((((-1) : Int32), r1)) (zc_vr (Gm_whenAt a1 a2 r1 q) <| fun v13 r14 => (v13, r14)))
set_option maxHeartbeats 4000000 in
set_option maxRecDepth 100000 in
theorem mc_when (l : Launch) (D : va_G) (ct : Nat → ClassId) (h0 : Nat) (y : Nat → Nat) (a1 : Int32) (a2 : Int32) (r : zRr) (q : zRq) (hJ0 : mJ 20 r) : zC l yX12_when (.code yX12_when cX12_when 3 (some .int) :: wsL_law0) ({ frames := 11, cells := 0, slots := 0, locals := 480 }) D ct [] [.ref h0, .int a1, .int a2] (mW ct h0 y r q) (S := Int32 × zRr) (fun u => some (.int u.1)) (fun u => zI (-1) 99 u.1 ∧ mJ 20 u.2 ∧ zFr [15, 16, 17, 18, 19, 20, 21, 22, 23, 24, 34, 32, 100] r u.2 ∧ u = (Gm_when a1 a2 r q) ∧ True) (fun u => mW ct h0 y u.2 q) 0 0 := by
  refine zofQ cX12_when 3 (some .int) (by decide) rfl (Nat.le_of_ble_eq_true rfl) ?_
  intro p e s m below meth c A a9 Q ha9 hx hb hr hml hts hown hlocks hname hK hA hZ hN hQ
  have hown : s.vm.findClass RX12 = some m.cls := hown
  have hiX12 : ∀ w ∈ wsX120, w ∈ .code yX12_when cX12_when 3 (some .int) :: wsL_law0 := fun _ h => ki (zs_wsX120 _ h)
  have lf129 := hts (.fieldLink RX12 129 "BeardPassModel" "thrown" "I") (ki (zr10 1 rfl))
  obtain ⟨X, hX⟩ : ∃ X, X = (Gm_when a1 a2 r q) := ⟨_, rfl⟩
  intro H locs hw hS ls hl
  have hl : lv_has ls 3 [(0, .ref h0), (1, .int a1), (2, .int a2)] := hl
  have hE := hX
  unfold Gm_when at hE
  refine lv_aload_n hx hb dX12_when_0 rfl (lv_at hl 0 rfl) ?_
  refine lv_iconst (v := 0) hx hb dX12_when_1 (by decide) ?_
  refine mput (ty := .int) (v := .int 0) hx hb hts hiX12 hown hK hw hS 0 (by decide) lf129 rfl rfl (by decide +kernel) rfl rfl dX12_when_2 (zset r 100 (fun _ => (0 : Int32))) _ mWf0 (fun H locs hw hS => ?_)
  refine mgen (P := fun x => mJ 20 x ∧ zFr [15, 16, 17, 18, 19, 20, 21, 22, 23, 24, 34, 32, 100] r x) hw ⟨hJ0.setc rfl (fun _ => (zI.top _)), (zFr.refl).set rfl⟩ (fun r1 er1 hw pr1 => ?_)
  have hE := zletE er1 hE
  refine lv_aload_n hx hb dX12_when_5 rfl (lv_at hl 0 rfl) ?_
  refine lv_iload_n hx hb dX12_when_6 rfl (lv_at hl 1 rfl) ?_
  refine mcallV (As := [.int a1]) (rest := []) ⟨hx, hb, hml, hown, hts⟩ (mc_isPerson l D ct h0 y 20 a1 r1 q pr1.1) (wqX12_370_mc_isPerson hts ⟨Nat.le_of_ble_eq_true rfl, Nat.le_of_ble_eq_true rfl⟩) hw hS hA hK hN rfl hl.1 rfl (Nat.le_of_ble_eq_true rfl) dX12_when_7 10 rfl (fun u2 H locs pu2 hw hS => ?_)
  have hu2 : zI 0 1 u2 := pu2.1
  have yu2_0 : ¬ u2 = 0 → zI 0 5 a1 := pu2.2.1
  have xu2 : u2 = (Gm_isPerson a1 r1 q) := pu2.2.2.1
  have hE := zletE xu2 hE
  have hw : zPD D A (mW ct h0 y r1 q) H := hw
  refine zfr 10 [.int u2] rfl rfl ?_
  refine lv_if_eq (tgt := 30) hx hb dX12_when_10 (by decide) (fun c4 => ?_) (fun c4 => ?_)
  · have hE := zifT c4 hE
    have k5 : zI 0 0 (u2) := zI.eqq c4 (zI.lit (a := 0) (b := 0) (c := 0) (by decide))
    refine lv_iconst (v := (-1)) hx hb dX12_when_30 (by decide) ?_
    exact ziretQ hQ hx hb hr rfl hlocks ((-1), r1) rfl ⟨((zI.lit (a := (-1)) (b := (-1)) (c := (-1)) (by decide)).w (c := (-1)) (d := 99) (by decide)), pr1.1, pr1.2, (hE.symm.trans hX), trivial⟩ hw hS dX12_when_31
  · have hE := zifF c4 hE
    have k6 : zI 1 1 (u2) := zI.neD c4 hu2 (zI.lit (a := 0) (b := 0) (c := 0) (by decide)) (by decide)
    refine lv_aload_n hx hb dX12_when_13 rfl (lv_at hl 0 rfl) ?_
    refine lv_iload_n hx hb dX12_when_14 rfl (lv_at hl 2 rfl) ?_
    refine mcallV (As := [.int a2]) (rest := []) ⟨hx, hb, hml, hown, hts⟩ (mc_isTown l D ct h0 y 20 a2 r1 q pr1.1) (wqX12_373_mc_isTown hts ⟨Nat.le_of_ble_eq_true rfl, Nat.le_of_ble_eq_true rfl⟩) hw hS hA hK hN rfl hl.1 rfl (Nat.le_of_ble_eq_true rfl) dX12_when_15 18 rfl (fun u7 H locs pu7 hw hS => ?_)
    have hu7 : zI 0 1 u7 := pu7.1
    have yu7_0 : ¬ u7 = 0 → zI 0 5 a2 := pu7.2.1
    have xu7 : u7 = (Gm_isTown a2 r1 q) := pu7.2.2.1
    have hE := zletE xu7 hE
    have hw : zPD D A (mW ct h0 y r1 q) H := hw
    refine zfr 18 [.int u7] rfl rfl ?_
    refine lv_if_eq (tgt := 30) hx hb dX12_when_18 (by decide) (fun c9 => ?_) (fun c9 => ?_)
    · have hE := zifT c9 hE
      have k10 : zI 0 0 (u7) := zI.eqq c9 (zI.lit (a := 0) (b := 0) (c := 0) (by decide))
      refine lv_iconst (v := (-1)) hx hb dX12_when_30 (by decide) ?_
      exact ziretQ hQ hx hb hr rfl hlocks ((-1), r1) rfl ⟨((zI.lit (a := (-1)) (b := (-1)) (c := (-1)) (by decide)).w (c := (-1)) (d := 99) (by decide)), pr1.1, pr1.2, (hE.symm.trans hX), trivial⟩ hw hS dX12_when_31
    · have hE := zifF c9 hE
      have k11 : zI 1 1 (u7) := zI.neD c9 hu7 (zI.lit (a := 0) (b := 0) (c := 0) (by decide)) (by decide)
      refine lv_aload_n hx hb dX12_when_21 rfl (lv_at hl 0 rfl) ?_
      refine lv_iload_n hx hb dX12_when_22 rfl (lv_at hl 1 rfl) ?_
      refine lv_iload_n hx hb dX12_when_23 rfl (lv_at hl 2 rfl) ?_
      refine mcallV (As := [.int a1, .int a2]) (rest := []) ⟨hx, hb, hml, hown, hts⟩ (mc_whenAt l D ct h0 y a1 a2 r1 q (yu2_0 c4) (yu7_0 c9) pr1.1) (wqX12_426_mc_whenAt hts ⟨Nat.le_of_ble_eq_true rfl, Nat.le_of_ble_eq_true rfl⟩) hw hS hA hK hN rfl hl.1 rfl (Nat.le_of_ble_eq_true rfl) dX12_when_24 27 rfl (fun u12 H locs pu12 hw hS => ?_)
      obtain ⟨v13, r14⟩ := u12
      have hv13 : zI (-1) 99 v13 := pu12.1
      have ju12 : mJ 20 r14 := pu12.2.1
      have fu12 : zFr [15, 16, 17, 18, 19, 20, 21, 22, 23, 24, 34, 32] r1 r14 := pu12.2.2.1
      have xu12 : (v13, r14) = (Gm_whenAt a1 a2 r1 q) := pu12.2.2.2.1
      have hE := zc_vrE xu12 hE
      have hw : zPD D A (mW ct h0 y r14 q) H := hw
      refine zfr 27 [.int v13] rfl rfl ?_
      refine lv_goto (tgt := 31) hx hb dX12_when_27 (by decide) ?_
      exact ziretQ hQ hx hb hr rfl hlocks (v13, r14) rfl ⟨hv13, ju12, (pr1.2.tr fu12 rfl), (hE.symm.trans hX), trivial⟩ hw hS dX12_when_31
