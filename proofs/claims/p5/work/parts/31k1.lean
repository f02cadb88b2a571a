set_option maxHeartbeats 4000000 in
set_option maxRecDepth 100000 in
theorem kc_bitCount (l : Launch) (D : va_G) (ct : Nat → ClassId) (a0 : Int32) : zC l yJ6_bitCount_0f7a4 (.code yJ6_bitCount_0f7a4 cJ6_bitCount_0f7a4 1 (some .int) :: wsL_law0) ({ frames := 1, cells := 0, slots := 0, locals := 80 }) D ct [] [.int a0] ([]) (S := Int32) (fun u => some (.int u)) (fun u => zI (-2147483648) 2147483647 u ∧ True) (fun u => []) 0 0 := by
  refine zofQ cJ6_bitCount_0f7a4 1 (some .int) (by decide) rfl (Nat.le_of_ble_eq_true rfl) ?_
  intro p e s m below meth c A a9 Q ha9 hx hb hr hml hts hown hlocks hname hK hA hZ hN hQ
  have hown : s.vm.findClass RJ6 = some m.cls := hown
  intro H locs hw hS ls hl
  have hl : lv_has ls 1 [(0, .int a0)] := hl
  refine lv_iload_n hx hb dJ6_bitCount_0f7a4_0 rfl (lv_at hl 0 rfl) ?_
  refine lv_iload_n hx hb dJ6_bitCount_0f7a4_1 rfl (lv_at hl 0 rfl) ?_
  refine lv_iconst (v := 1) hx hb dJ6_bitCount_0f7a4_2 (by decide) ?_
  refine lv_iushr (v := (a0.toUInt32 >>> ((1 : Int32).toUInt32 &&& Int32.toUInt32 31)).toInt32) hx hb dJ6_bitCount_0f7a4_3 rfl (zgen (zI.top _) (fun v1 _ => ?_))
  refine lv_ldcw hx hb hown (hts (.constant RJ6 265 1431655765) (ki (zr50 16 rfl))) dJ6_bitCount_0f7a4_4 ?_
  refine lv_iand hx hb dJ6_bitCount_0f7a4_7 (zgen (lo := 0) (hi := 1431655765) (zI.and (zI.lit (a := 1431655765) (b := 1431655765) (c := 1431655765) (by decide)) (by decide)) (fun v2 hv2 => ?_))
  refine lv_isub hx hb dJ6_bitCount_0f7a4_8 (zgen (zI.top _) (fun v3 _ => ?_))
  refine lv_istore_n (lv' := [(0, .int v3)]) hx hb dJ6_bitCount_0f7a4_9 rfl hl (by decide) rfl (fun ls hl => ?_)
  refine lv_iload_n hx hb dJ6_bitCount_0f7a4_10 rfl (lv_at hl 0 rfl) ?_
  refine lv_ldcw hx hb hown (hts (.constant RJ6 266 858993459) (ki (zr50 17 rfl))) dJ6_bitCount_0f7a4_11 ?_
  refine lv_iand hx hb dJ6_bitCount_0f7a4_14 (zgen (lo := 0) (hi := 858993459) (zI.and (zI.lit (a := 858993459) (b := 858993459) (c := 858993459) (by decide)) (by decide)) (fun v4 hv4 => ?_))
  refine lv_iload_n hx hb dJ6_bitCount_0f7a4_15 rfl (lv_at hl 0 rfl) ?_
  refine lv_iconst (v := 2) hx hb dJ6_bitCount_0f7a4_16 (by decide) ?_
  refine lv_iushr (v := (v3.toUInt32 >>> ((2 : Int32).toUInt32 &&& Int32.toUInt32 31)).toInt32) hx hb dJ6_bitCount_0f7a4_17 rfl (zgen (zI.top _) (fun v5 _ => ?_))
  refine lv_ldcw hx hb hown (hts (.constant RJ6 266 858993459) (ki (zr50 17 rfl))) dJ6_bitCount_0f7a4_18 ?_
  refine lv_iand hx hb dJ6_bitCount_0f7a4_21 (zgen (lo := 0) (hi := 858993459) (zI.and (zI.lit (a := 858993459) (b := 858993459) (c := 858993459) (by decide)) (by decide)) (fun v6 hv6 => ?_))
  refine lv_iadd hx hb dJ6_bitCount_0f7a4_22 (zgen (lo := 0) (hi := 1717986918) (zI.add hv4 hv6 (by decide)) (fun v7 hv7 => ?_))
  refine lv_istore_n (lv' := [(0, .int v7)]) hx hb dJ6_bitCount_0f7a4_23 rfl hl (by decide) rfl (fun ls hl => ?_)
  refine lv_iload_n hx hb dJ6_bitCount_0f7a4_24 rfl (lv_at hl 0 rfl) ?_
  refine lv_iload_n hx hb dJ6_bitCount_0f7a4_25 rfl (lv_at hl 0 rfl) ?_
  refine lv_iconst (v := 4) hx hb dJ6_bitCount_0f7a4_26 (by decide) ?_
  refine lv_iushr (v := (v7.toUInt32 >>> ((4 : Int32).toUInt32 &&& Int32.toUInt32 31)).toInt32) hx hb dJ6_bitCount_0f7a4_27 rfl (zgen (zI.top _) (fun v8 _ => ?_))
  refine lv_iadd hx hb dJ6_bitCount_0f7a4_28 (zgen (zI.top _) (fun v9 _ => ?_))
  refine lv_ldcw hx hb hown (hts (.constant RJ6 267 252645135) (ki (zr50 18 rfl))) dJ6_bitCount_0f7a4_29 ?_
  refine lv_iand hx hb dJ6_bitCount_0f7a4_32 (zgen (lo := 0) (hi := 252645135) (zI.and (zI.lit (a := 252645135) (b := 252645135) (c := 252645135) (by decide)) (by decide)) (fun v10 hv10 => ?_))
  refine lv_istore_n (lv' := [(0, .int v10)]) hx hb dJ6_bitCount_0f7a4_33 rfl hl (by decide) rfl (fun ls hl => ?_)
  refine lv_iload_n hx hb dJ6_bitCount_0f7a4_34 rfl (lv_at hl 0 rfl) ?_
  refine lv_iload_n hx hb dJ6_bitCount_0f7a4_35 rfl (lv_at hl 0 rfl) ?_
  refine lv_bipush (v := 8) hx hb dJ6_bitCount_0f7a4_36 (by decide) ?_
  refine lv_iushr (v := (v10.toUInt32 >>> ((8 : Int32).toUInt32 &&& Int32.toUInt32 31)).toInt32) hx hb dJ6_bitCount_0f7a4_38 rfl (zgen (zI.top _) (fun v11 _ => ?_))
  refine lv_iadd hx hb dJ6_bitCount_0f7a4_39 (zgen (zI.top _) (fun v12 _ => ?_))
  refine lv_istore_n (lv' := [(0, .int v12)]) hx hb dJ6_bitCount_0f7a4_40 rfl hl (by decide) rfl (fun ls hl => ?_)
  refine lv_iload_n hx hb dJ6_bitCount_0f7a4_41 rfl (lv_at hl 0 rfl) ?_
  refine lv_iload_n hx hb dJ6_bitCount_0f7a4_42 rfl (lv_at hl 0 rfl) ?_
  refine lv_bipush (v := 16) hx hb dJ6_bitCount_0f7a4_43 (by decide) ?_
  refine lv_iushr (v := (v12.toUInt32 >>> ((16 : Int32).toUInt32 &&& Int32.toUInt32 31)).toInt32) hx hb dJ6_bitCount_0f7a4_45 rfl (zgen (zI.top _) (fun v13 _ => ?_))
  refine lv_iadd hx hb dJ6_bitCount_0f7a4_46 (zgen (zI.top _) (fun v14 _ => ?_))
  refine lv_istore_n (lv' := [(0, .int v14)]) hx hb dJ6_bitCount_0f7a4_47 rfl hl (by decide) rfl (fun ls hl => ?_)
  refine lv_iload_n hx hb dJ6_bitCount_0f7a4_48 rfl (lv_at hl 0 rfl) ?_
  refine lv_bipush (v := 63) hx hb dJ6_bitCount_0f7a4_49 (by decide) ?_
  refine lv_iand hx hb dJ6_bitCount_0f7a4_51 (zgen (lo := 0) (hi := 63) (zI.and (zI.lit (a := 63) (b := 63) (c := 63) (by decide)) (by decide)) (fun v15 hv15 => ?_))
  exact ziretQ hQ hx hb hr rfl hlocks v15 rfl ⟨(zI.top _), trivial⟩ hw hS dJ6_bitCount_0f7a4_52

set_option maxHeartbeats 4000000 in
set_option maxRecDepth 100000 in
theorem kc_ntz (l : Launch) (D : va_G) (ct : Nat → ClassId) (a0 : Int32) : zC l yJ6_numberOfTrailingZeros_0f7a4 (.code yJ6_numberOfTrailingZeros_0f7a4 cJ6_numberOfTrailingZeros_0f7a4 2 (some .int) :: wsL_law0) ({ frames := 1, cells := 0, slots := 0, locals := 80 }) D ct [] [.int a0] ([]) (S := Int32) (fun u => some (.int u)) (fun u => zI (-2147483648) 2147483647 u ∧ True) (fun u => []) 0 0 := by
  refine zofQ cJ6_numberOfTrailingZeros_0f7a4 2 (some .int) (by decide) rfl (Nat.le_of_ble_eq_true rfl) ?_
  intro p e s m below meth c A a9 Q ha9 hx hb hr hml hts hown hlocks hname hK hA hZ hN hQ
  have hown : s.vm.findClass RJ6 = some m.cls := hown
  have cut62 : ∀ (w62_0 : Int32) (w62_1 : Int32) (hw62_1 : zI 1 36 w62_1), zKf p l e ({ frames := 1, cells := 0, slots := 0, locals := 80 }) s m a9 below meth c Q D A 62 2 [] ([]) [(0, .int w62_0), (1, .int w62_1)] := by
    intro w62_0 w62_1 hw62_1 H locs ls hw hS hl
    refine lv_iload_n hx hb dJ6_numberOfTrailingZeros_0f7a4_62 rfl (lv_at hl 0 rfl) ?_
    refine lv_iconst (v := 4) hx hb dJ6_numberOfTrailingZeros_0f7a4_63 (by decide) ?_
    refine lv_icmp_le (tgt := 74) hx hb dJ6_numberOfTrailingZeros_0f7a4_64 (by decide) (fun c1 => ?_) (fun c1 => ?_)
    · have k2 : zI (-2147483648) 4 (w62_0) := zI.leU c1 (zI.top _) (zI.lit (a := 4) (b := 4) (c := 4) (by decide)) (by decide)
      refine lv_iload_n hx hb dJ6_numberOfTrailingZeros_0f7a4_74 rfl (lv_at hl 1 rfl) ?_
      refine lv_iload_n hx hb dJ6_numberOfTrailingZeros_0f7a4_75 rfl (lv_at hl 0 rfl) ?_
      refine lv_iconst (v := 1) hx hb dJ6_numberOfTrailingZeros_0f7a4_76 (by decide) ?_
      refine lv_iushr (v := (w62_0.toUInt32 >>> ((1 : Int32).toUInt32 &&& Int32.toUInt32 31)).toInt32) hx hb dJ6_numberOfTrailingZeros_0f7a4_77 rfl (zgen (zI.top _) (fun v3 _ => ?_))
      refine lv_iadd hx hb dJ6_numberOfTrailingZeros_0f7a4_78 (zgen (zI.top _) (fun v4 _ => ?_))
      exact ziretQ hQ hx hb hr rfl hlocks v4 rfl ⟨(zI.top _), trivial⟩ hw hS dJ6_numberOfTrailingZeros_0f7a4_79
    · have k5 : zI 5 2147483647 (w62_0) := zI.ltD (zI.nle c1) (zI.lit (a := 4) (b := 4) (c := 4) (by decide)) (zI.top _) (by decide)
      refine lv_iinc (v := w62_1 + 2) (lv' := [(1, .int (w62_1 + 2)), (0, .int w62_0)]) hx hb dJ6_numberOfTrailingZeros_0f7a4_67 hl (k := 1) rfl (rfl) (by decide) rfl (fun ls hl => ?_)
      have k6 : zI 3 38 (w62_1 + 2) := zI.add hw62_1 (zI.lit (a := 2) (b := 2) (by decide)) (by decide)
      refine lv_iload_n hx hb dJ6_numberOfTrailingZeros_0f7a4_70 rfl (lv_at hl 1 rfl) ?_
      refine lv_iconst (v := 2) hx hb dJ6_numberOfTrailingZeros_0f7a4_71 (by decide) ?_
      refine lv_iushr (v := (w62_0.toUInt32 >>> ((2 : Int32).toUInt32 &&& Int32.toUInt32 31)).toInt32) hx hb dJ6_numberOfTrailingZeros_0f7a4_72 rfl (zgen (zI.top _) (fun v7 _ => ?_))
      refine lv_istore_n (lv' := [(0, .int v7), (1, .int (w62_1 + 2))]) hx hb dJ6_numberOfTrailingZeros_0f7a4_73 rfl hl (by decide) rfl (fun ls hl => ?_)
      refine lv_iload_n hx hb dJ6_numberOfTrailingZeros_0f7a4_74 rfl (lv_at hl 1 rfl) ?_
      refine lv_iload_n hx hb dJ6_numberOfTrailingZeros_0f7a4_75 rfl (lv_at hl 0 rfl) ?_
      refine lv_iconst (v := 1) hx hb dJ6_numberOfTrailingZeros_0f7a4_76 (by decide) ?_
      refine lv_iushr (v := (v7.toUInt32 >>> ((1 : Int32).toUInt32 &&& Int32.toUInt32 31)).toInt32) hx hb dJ6_numberOfTrailingZeros_0f7a4_77 rfl (zgen (zI.top _) (fun v8 _ => ?_))
      refine lv_iadd hx hb dJ6_numberOfTrailingZeros_0f7a4_78 (zgen (zI.top _) (fun v9 _ => ?_))
      exact ziretQ hQ hx hb hr rfl hlocks v9 rfl ⟨(zI.top _), trivial⟩ hw hS dJ6_numberOfTrailingZeros_0f7a4_79
  have cut49 : ∀ (w49_0 : Int32) (w49_1 : Int32) (hw49_1 : zI 1 30 w49_1), zKf p l e ({ frames := 1, cells := 0, slots := 0, locals := 80 }) s m a9 below meth c Q D A 49 2 [] ([]) [(0, .int w49_0), (1, .int w49_1)] := by
    intro w49_0 w49_1 hw49_1 H locs ls hw hS hl
    refine lv_iload_n hx hb dJ6_numberOfTrailingZeros_0f7a4_49 rfl (lv_at hl 0 rfl) ?_
    refine lv_bipush (v := 16) hx hb dJ6_numberOfTrailingZeros_0f7a4_50 (by decide) ?_
    refine lv_icmp_le (tgt := 62) hx hb dJ6_numberOfTrailingZeros_0f7a4_52 (by decide) (fun c10 => ?_) (fun c10 => ?_)
    · have k11 : zI (-2147483648) 16 (w49_0) := zI.leU c10 (zI.top _) (zI.lit (a := 16) (b := 16) (c := 16) (by decide)) (by decide)
      exact cut62 w49_0 w49_1 (hw49_1.w (c := 1) (d := 36) (by decide)) H locs ls hw hS (lv_sub hl [0, 1] rfl)
    · have k12 : zI 17 2147483647 (w49_0) := zI.ltD (zI.nle c10) (zI.lit (a := 16) (b := 16) (c := 16) (by decide)) (zI.top _) (by decide)
      refine lv_iinc (v := w49_1 + 4) (lv' := [(1, .int (w49_1 + 4)), (0, .int w49_0)]) hx hb dJ6_numberOfTrailingZeros_0f7a4_55 hl (k := 1) rfl (rfl) (by decide) rfl (fun ls hl => ?_)
      have k13 : zI 5 34 (w49_1 + 4) := zI.add hw49_1 (zI.lit (a := 4) (b := 4) (by decide)) (by decide)
      refine lv_iload_n hx hb dJ6_numberOfTrailingZeros_0f7a4_58 rfl (lv_at hl 1 rfl) ?_
      refine lv_iconst (v := 4) hx hb dJ6_numberOfTrailingZeros_0f7a4_59 (by decide) ?_
      refine lv_iushr (v := (w49_0.toUInt32 >>> ((4 : Int32).toUInt32 &&& Int32.toUInt32 31)).toInt32) hx hb dJ6_numberOfTrailingZeros_0f7a4_60 rfl (zgen (zI.top _) (fun v14 _ => ?_))
      refine lv_istore_n (lv' := [(0, .int v14), (1, .int (w49_1 + 4))]) hx hb dJ6_numberOfTrailingZeros_0f7a4_61 rfl hl (by decide) rfl (fun ls hl => ?_)
      exact cut62 v14 (w49_1 + 4) (k13.w (c := 1) (d := 36) (by decide)) H locs ls hw hS (lv_sub hl [0, 1] rfl)
  have cut34 : ∀ (w34_0 : Int32) (w34_1 : Int32) (hw34_1 : zI 1 17 w34_1), zKf p l e ({ frames := 1, cells := 0, slots := 0, locals := 80 }) s m a9 below meth c Q D A 34 2 [] ([]) [(0, .int w34_0), (1, .int w34_1)] := by
    intro w34_0 w34_1 hw34_1 H locs ls hw hS hl
    refine lv_iload_n hx hb dJ6_numberOfTrailingZeros_0f7a4_34 rfl (lv_at hl 0 rfl) ?_
    refine lv_sipush (v := 256) hx hb dJ6_numberOfTrailingZeros_0f7a4_35 (by decide) ?_
    refine lv_icmp_le (tgt := 49) hx hb dJ6_numberOfTrailingZeros_0f7a4_38 (by decide) (fun c15 => ?_) (fun c15 => ?_)
    · have k16 : zI (-2147483648) 256 (w34_0) := zI.leU c15 (zI.top _) (zI.lit (a := 256) (b := 256) (c := 256) (by decide)) (by decide)
      exact cut49 w34_0 w34_1 (hw34_1.w (c := 1) (d := 30) (by decide)) H locs ls hw hS (lv_sub hl [0, 1] rfl)
    · have k17 : zI 257 2147483647 (w34_0) := zI.ltD (zI.nle c15) (zI.lit (a := 256) (b := 256) (c := 256) (by decide)) (zI.top _) (by decide)
      refine lv_iinc (v := w34_1 + 8) (lv' := [(1, .int (w34_1 + 8)), (0, .int w34_0)]) hx hb dJ6_numberOfTrailingZeros_0f7a4_41 hl (k := 1) rfl (rfl) (by decide) rfl (fun ls hl => ?_)
      have k18 : zI 9 25 (w34_1 + 8) := zI.add hw34_1 (zI.lit (a := 8) (b := 8) (by decide)) (by decide)
      refine lv_iload_n hx hb dJ6_numberOfTrailingZeros_0f7a4_44 rfl (lv_at hl 1 rfl) ?_
      refine lv_bipush (v := 8) hx hb dJ6_numberOfTrailingZeros_0f7a4_45 (by decide) ?_
      refine lv_iushr (v := (w34_0.toUInt32 >>> ((8 : Int32).toUInt32 &&& Int32.toUInt32 31)).toInt32) hx hb dJ6_numberOfTrailingZeros_0f7a4_47 rfl (zgen (zI.top _) (fun v19 _ => ?_))
      refine lv_istore_n (lv' := [(0, .int v19), (1, .int (w34_1 + 8))]) hx hb dJ6_numberOfTrailingZeros_0f7a4_48 rfl hl (by decide) rfl (fun ls hl => ?_)
      exact cut49 v19 (w34_1 + 8) (k18.w (c := 1) (d := 30) (by decide)) H locs ls hw hS (lv_sub hl [0, 1] rfl)
  intro H locs hw hS ls hl
  have hl : lv_has ls 2 [(0, .int a0)] := hl
  refine lv_iload_n hx hb dJ6_numberOfTrailingZeros_0f7a4_0 rfl (lv_at hl 0 rfl) ?_
  refine lv_iconst (v := (-1)) hx hb dJ6_numberOfTrailingZeros_0f7a4_1 (by decide) ?_
  refine lv_ixor hx hb dJ6_numberOfTrailingZeros_0f7a4_2 (zgen (zI.top _) (fun v20 _ => ?_))
  refine lv_iload_n hx hb dJ6_numberOfTrailingZeros_0f7a4_3 rfl (lv_at hl 0 rfl) ?_
  refine lv_iconst (v := 1) hx hb dJ6_numberOfTrailingZeros_0f7a4_4 (by decide) ?_
  refine lv_isub hx hb dJ6_numberOfTrailingZeros_0f7a4_5 (zgen (zI.top _) (fun v21 _ => ?_))
  refine lv_iand hx hb dJ6_numberOfTrailingZeros_0f7a4_6 (zgen (zI.top _) (fun v22 _ => ?_))
  refine lv_istore_n (lv' := [(0, .int v22)]) hx hb dJ6_numberOfTrailingZeros_0f7a4_7 rfl hl (by decide) rfl (fun ls hl => ?_)
  refine lv_iload_n hx hb dJ6_numberOfTrailingZeros_0f7a4_8 rfl (lv_at hl 0 rfl) ?_
  refine lv_if_gt (tgt := 17) hx hb dJ6_numberOfTrailingZeros_0f7a4_9 (by decide) (fun c23 => ?_) (fun c23 => ?_)
  · have k24 : zI 1 2147483647 (v22) := zI.ltD c23 (zI.lit (a := 0) (b := 0) (c := 0) (by decide)) (zI.top _) (by decide)
    refine lv_iconst (v := 1) hx hb dJ6_numberOfTrailingZeros_0f7a4_17 (by decide) ?_
    refine lv_istore_n (lv' := [(1, .int 1), (0, .int v22)]) hx hb dJ6_numberOfTrailingZeros_0f7a4_18 rfl hl (by decide) rfl (fun ls hl => ?_)
    refine lv_iload_n hx hb dJ6_numberOfTrailingZeros_0f7a4_19 rfl (lv_at hl 1 rfl) ?_
    refine lv_ldcw hx hb hown (hts (.constant RJ6 264 65536) (ki (zr52 12 rfl))) dJ6_numberOfTrailingZeros_0f7a4_20 ?_
    refine lv_icmp_le (tgt := 34) hx hb dJ6_numberOfTrailingZeros_0f7a4_23 (by decide) (fun c25 => ?_) (fun c25 => ?_)
    · have k26 : zI 1 65536 (v22) := zI.leU c25 k24 (zI.lit (a := 65536) (b := 65536) (c := 65536) (by decide)) (by decide)
      exact cut34 v22 1 ((zI.lit (a := 1) (b := 1) (c := 1) (by decide)).w (c := 1) (d := 17) (by decide)) H locs ls hw hS (lv_sub hl [1, 0] rfl)
    · have k27 : zI 65537 2147483647 (v22) := zI.ltD (zI.nle c25) (zI.lit (a := 65536) (b := 65536) (c := 65536) (by decide)) k24 (by decide)
      refine lv_iinc (v := 17) (lv' := [(1, .int 17), (0, .int v22)]) hx hb dJ6_numberOfTrailingZeros_0f7a4_26 hl (k := 0) rfl (by decide) (by decide) rfl (fun ls hl => ?_)
      refine lv_iload_n hx hb dJ6_numberOfTrailingZeros_0f7a4_29 rfl (lv_at hl 1 rfl) ?_
      refine lv_bipush (v := 16) hx hb dJ6_numberOfTrailingZeros_0f7a4_30 (by decide) ?_
      refine lv_iushr (v := (v22.toUInt32 >>> ((16 : Int32).toUInt32 &&& Int32.toUInt32 31)).toInt32) hx hb dJ6_numberOfTrailingZeros_0f7a4_32 rfl (zgen (zI.top _) (fun v28 _ => ?_))
      refine lv_istore_n (lv' := [(0, .int v28), (1, .int 17)]) hx hb dJ6_numberOfTrailingZeros_0f7a4_33 rfl hl (by decide) rfl (fun ls hl => ?_)
      exact cut34 v28 17 ((zI.lit (a := 17) (b := 17) (c := 17) (by decide)).w (c := 1) (d := 17) (by decide)) H locs ls hw hS (lv_sub hl [0, 1] rfl)
  · have k29 : zI (-2147483648) 0 (v22) := zI.leU (zI.nlt c23) (zI.top _) (zI.lit (a := 0) (b := 0) (c := 0) (by decide)) (by decide)
    refine lv_iload_n hx hb dJ6_numberOfTrailingZeros_0f7a4_12 rfl (lv_at hl 0 rfl) ?_
    refine lv_bipush (v := 32) hx hb dJ6_numberOfTrailingZeros_0f7a4_13 (by decide) ?_
    refine lv_iand hx hb dJ6_numberOfTrailingZeros_0f7a4_15 (zgen (lo := 0) (hi := 32) (zI.and (zI.lit (a := 32) (b := 32) (c := 32) (by decide)) (by decide)) (fun v30 hv30 => ?_))
    exact ziretQ hQ hx hb hr rfl hlocks v30 rfl ⟨(zI.top _), trivial⟩ hw hS dJ6_numberOfTrailingZeros_0f7a4_16

set_option maxHeartbeats 4000000 in
set_option maxRecDepth 100000 in
theorem kc_nlz (l : Launch) (D : va_G) (ct : Nat → ClassId) (a0 : Int32) : zC l yJ6_numberOfLeadingZeros_0f7a4 (.code yJ6_numberOfLeadingZeros_0f7a4 cJ6_numberOfLeadingZeros_0f7a4 2 (some .int) :: wsL_law0) ({ frames := 1, cells := 0, slots := 0, locals := 80 }) D ct [] [.int a0] ([]) (S := Int32) (fun u => some (.int u)) (fun u => zI (-2147483648) 2147483647 u ∧ True) (fun u => []) 0 0 := by
  refine zofQ cJ6_numberOfLeadingZeros_0f7a4 2 (some .int) (by decide) rfl (Nat.le_of_ble_eq_true rfl) ?_
  intro p e s m below meth c A a9 Q ha9 hx hb hr hml hts hown hlocks hname hK hA hZ hN hQ
  have hown : s.vm.findClass RJ6 = some m.cls := hown
  have cut61 : ∀ (w61_0 : Int32) (w61_1 : Int32) (hw61_1 : zI 3 31 w61_1), zKf p l e ({ frames := 1, cells := 0, slots := 0, locals := 80 }) s m a9 below meth c Q D A 61 2 [] ([]) [(0, .int w61_0), (1, .int w61_1)] := by
    intro w61_0 w61_1 hw61_1 H locs ls hw hS hl
    refine lv_iload_n hx hb dJ6_numberOfLeadingZeros_0f7a4_61 rfl (lv_at hl 0 rfl) ?_
    refine lv_iconst (v := 4) hx hb dJ6_numberOfLeadingZeros_0f7a4_62 (by decide) ?_
    refine lv_icmp_lt (tgt := 73) hx hb dJ6_numberOfLeadingZeros_0f7a4_63 (by decide) (fun c1 => ?_) (fun c1 => ?_)
    · have k2 : zI (-2147483648) 3 (w61_0) := zI.ltU c1 (zI.top _) (zI.lit (a := 4) (b := 4) (c := 4) (by decide)) (by decide)
      refine lv_iload_n hx hb dJ6_numberOfLeadingZeros_0f7a4_73 rfl (lv_at hl 1 rfl) ?_
      refine lv_iload_n hx hb dJ6_numberOfLeadingZeros_0f7a4_74 rfl (lv_at hl 0 rfl) ?_
      refine lv_iconst (v := 1) hx hb dJ6_numberOfLeadingZeros_0f7a4_75 (by decide) ?_
      refine lv_iushr (v := (w61_0.toUInt32 >>> ((1 : Int32).toUInt32 &&& Int32.toUInt32 31)).toInt32) hx hb dJ6_numberOfLeadingZeros_0f7a4_76 rfl (zgen (zI.top _) (fun v3 _ => ?_))
      refine lv_isub hx hb dJ6_numberOfLeadingZeros_0f7a4_77 (zgen (zI.top _) (fun v4 _ => ?_))
      exact ziretQ hQ hx hb hr rfl hlocks v4 rfl ⟨(zI.top _), trivial⟩ hw hS dJ6_numberOfLeadingZeros_0f7a4_78
    · have k5 : zI 4 2147483647 (w61_0) := zI.leD (zI.nlt c1) (zI.lit (a := 4) (b := 4) (c := 4) (by decide)) (zI.top _) (by decide)
      refine lv_iinc (v := w61_1 + (-2)) (lv' := [(1, .int (w61_1 + (-2))), (0, .int w61_0)]) hx hb dJ6_numberOfLeadingZeros_0f7a4_66 hl (k := 1) rfl (rfl) (by decide) rfl (fun ls hl => ?_)
      have k6 : zI 1 29 (w61_1 + (-2)) := zI.add hw61_1 (zI.lit (a := (-2)) (b := (-2)) (by decide)) (by decide)
      refine lv_iload_n hx hb dJ6_numberOfLeadingZeros_0f7a4_69 rfl (lv_at hl 1 rfl) ?_
      refine lv_iconst (v := 2) hx hb dJ6_numberOfLeadingZeros_0f7a4_70 (by decide) ?_
      refine lv_iushr (v := (w61_0.toUInt32 >>> ((2 : Int32).toUInt32 &&& Int32.toUInt32 31)).toInt32) hx hb dJ6_numberOfLeadingZeros_0f7a4_71 rfl (zgen (zI.top _) (fun v7 _ => ?_))
      refine lv_istore_n (lv' := [(0, .int v7), (1, .int (w61_1 + (-2)))]) hx hb dJ6_numberOfLeadingZeros_0f7a4_72 rfl hl (by decide) rfl (fun ls hl => ?_)
      refine lv_iload_n hx hb dJ6_numberOfLeadingZeros_0f7a4_73 rfl (lv_at hl 1 rfl) ?_
      refine lv_iload_n hx hb dJ6_numberOfLeadingZeros_0f7a4_74 rfl (lv_at hl 0 rfl) ?_
      refine lv_iconst (v := 1) hx hb dJ6_numberOfLeadingZeros_0f7a4_75 (by decide) ?_
      refine lv_iushr (v := (v7.toUInt32 >>> ((1 : Int32).toUInt32 &&& Int32.toUInt32 31)).toInt32) hx hb dJ6_numberOfLeadingZeros_0f7a4_76 rfl (zgen (zI.top _) (fun v8 _ => ?_))
      refine lv_isub hx hb dJ6_numberOfLeadingZeros_0f7a4_77 (zgen (zI.top _) (fun v9 _ => ?_))
      exact ziretQ hQ hx hb hr rfl hlocks v9 rfl ⟨(zI.top _), trivial⟩ hw hS dJ6_numberOfLeadingZeros_0f7a4_78
  have cut48 : ∀ (w48_0 : Int32) (w48_1 : Int32) (hw48_1 : zI 7 31 w48_1), zKf p l e ({ frames := 1, cells := 0, slots := 0, locals := 80 }) s m a9 below meth c Q D A 48 2 [] ([]) [(0, .int w48_0), (1, .int w48_1)] := by
    intro w48_0 w48_1 hw48_1 H locs ls hw hS hl
    refine lv_iload_n hx hb dJ6_numberOfLeadingZeros_0f7a4_48 rfl (lv_at hl 0 rfl) ?_
    refine lv_bipush (v := 16) hx hb dJ6_numberOfLeadingZeros_0f7a4_49 (by decide) ?_
    refine lv_icmp_lt (tgt := 61) hx hb dJ6_numberOfLeadingZeros_0f7a4_51 (by decide) (fun c10 => ?_) (fun c10 => ?_)
    · have k11 : zI (-2147483648) 15 (w48_0) := zI.ltU c10 (zI.top _) (zI.lit (a := 16) (b := 16) (c := 16) (by decide)) (by decide)
      exact cut61 w48_0 w48_1 (hw48_1.w (c := 3) (d := 31) (by decide)) H locs ls hw hS (lv_sub hl [0, 1] rfl)
    · have k12 : zI 16 2147483647 (w48_0) := zI.leD (zI.nlt c10) (zI.lit (a := 16) (b := 16) (c := 16) (by decide)) (zI.top _) (by decide)
      refine lv_iinc (v := w48_1 + (-4)) (lv' := [(1, .int (w48_1 + (-4))), (0, .int w48_0)]) hx hb dJ6_numberOfLeadingZeros_0f7a4_54 hl (k := 1) rfl (rfl) (by decide) rfl (fun ls hl => ?_)
      have k13 : zI 3 27 (w48_1 + (-4)) := zI.add hw48_1 (zI.lit (a := (-4)) (b := (-4)) (by decide)) (by decide)
      refine lv_iload_n hx hb dJ6_numberOfLeadingZeros_0f7a4_57 rfl (lv_at hl 1 rfl) ?_
      refine lv_iconst (v := 4) hx hb dJ6_numberOfLeadingZeros_0f7a4_58 (by decide) ?_
      refine lv_iushr (v := (w48_0.toUInt32 >>> ((4 : Int32).toUInt32 &&& Int32.toUInt32 31)).toInt32) hx hb dJ6_numberOfLeadingZeros_0f7a4_59 rfl (zgen (zI.top _) (fun v14 _ => ?_))
      refine lv_istore_n (lv' := [(0, .int v14), (1, .int (w48_1 + (-4)))]) hx hb dJ6_numberOfLeadingZeros_0f7a4_60 rfl hl (by decide) rfl (fun ls hl => ?_)
      exact cut61 v14 (w48_1 + (-4)) (k13.w (c := 3) (d := 31) (by decide)) H locs ls hw hS (lv_sub hl [0, 1] rfl)
  have cut33 : ∀ (w33_0 : Int32) (w33_1 : Int32) (hw33_1 : zI 15 31 w33_1), zKf p l e ({ frames := 1, cells := 0, slots := 0, locals := 80 }) s m a9 below meth c Q D A 33 2 [] ([]) [(0, .int w33_0), (1, .int w33_1)] := by
    intro w33_0 w33_1 hw33_1 H locs ls hw hS hl
    refine lv_iload_n hx hb dJ6_numberOfLeadingZeros_0f7a4_33 rfl (lv_at hl 0 rfl) ?_
    refine lv_sipush (v := 256) hx hb dJ6_numberOfLeadingZeros_0f7a4_34 (by decide) ?_
    refine lv_icmp_lt (tgt := 48) hx hb dJ6_numberOfLeadingZeros_0f7a4_37 (by decide) (fun c15 => ?_) (fun c15 => ?_)
    · have k16 : zI (-2147483648) 255 (w33_0) := zI.ltU c15 (zI.top _) (zI.lit (a := 256) (b := 256) (c := 256) (by decide)) (by decide)
      exact cut48 w33_0 w33_1 (hw33_1.w (c := 7) (d := 31) (by decide)) H locs ls hw hS (lv_sub hl [0, 1] rfl)
    · have k17 : zI 256 2147483647 (w33_0) := zI.leD (zI.nlt c15) (zI.lit (a := 256) (b := 256) (c := 256) (by decide)) (zI.top _) (by decide)
      refine lv_iinc (v := w33_1 + (-8)) (lv' := [(1, .int (w33_1 + (-8))), (0, .int w33_0)]) hx hb dJ6_numberOfLeadingZeros_0f7a4_40 hl (k := 1) rfl (rfl) (by decide) rfl (fun ls hl => ?_)
      have k18 : zI 7 23 (w33_1 + (-8)) := zI.add hw33_1 (zI.lit (a := (-8)) (b := (-8)) (by decide)) (by decide)
      refine lv_iload_n hx hb dJ6_numberOfLeadingZeros_0f7a4_43 rfl (lv_at hl 1 rfl) ?_
      refine lv_bipush (v := 8) hx hb dJ6_numberOfLeadingZeros_0f7a4_44 (by decide) ?_
      refine lv_iushr (v := (w33_0.toUInt32 >>> ((8 : Int32).toUInt32 &&& Int32.toUInt32 31)).toInt32) hx hb dJ6_numberOfLeadingZeros_0f7a4_46 rfl (zgen (zI.top _) (fun v19 _ => ?_))
      refine lv_istore_n (lv' := [(0, .int v19), (1, .int (w33_1 + (-8)))]) hx hb dJ6_numberOfLeadingZeros_0f7a4_47 rfl hl (by decide) rfl (fun ls hl => ?_)
      exact cut48 v19 (w33_1 + (-8)) (k18.w (c := 7) (d := 31) (by decide)) H locs ls hw hS (lv_sub hl [0, 1] rfl)
  intro H locs hw hS ls hl
  have hl : lv_has ls 2 [(0, .int a0)] := hl
  refine lv_iload_n hx hb dJ6_numberOfLeadingZeros_0f7a4_0 rfl (lv_at hl 0 rfl) ?_
  refine lv_if_gt (tgt := 15) hx hb dJ6_numberOfLeadingZeros_0f7a4_1 (by decide) (fun c20 => ?_) (fun c20 => ?_)
  · have k21 : zI 1 2147483647 (a0) := zI.ltD c20 (zI.lit (a := 0) (b := 0) (c := 0) (by decide)) (zI.top _) (by decide)
    refine lv_bipush (v := 31) hx hb dJ6_numberOfLeadingZeros_0f7a4_15 (by decide) ?_
    refine lv_istore_n (lv' := [(1, .int 31), (0, .int a0)]) hx hb dJ6_numberOfLeadingZeros_0f7a4_17 rfl hl (by decide) rfl (fun ls hl => ?_)
    refine lv_iload_n hx hb dJ6_numberOfLeadingZeros_0f7a4_18 rfl (lv_at hl 1 rfl) ?_
    refine lv_ldcw hx hb hown (hts (.constant RJ6 264 65536) (ki (zr52 12 rfl))) dJ6_numberOfLeadingZeros_0f7a4_19 ?_
    refine lv_icmp_lt (tgt := 33) hx hb dJ6_numberOfLeadingZeros_0f7a4_22 (by decide) (fun c22 => ?_) (fun c22 => ?_)
    · have k23 : zI 1 65535 (a0) := zI.ltU c22 k21 (zI.lit (a := 65536) (b := 65536) (c := 65536) (by decide)) (by decide)
      exact cut33 a0 31 ((zI.lit (a := 31) (b := 31) (c := 31) (by decide)).w (c := 15) (d := 31) (by decide)) H locs ls hw hS (lv_sub hl [1, 0] rfl)
    · have k24 : zI 65536 2147483647 (a0) := zI.leD (zI.nlt c22) (zI.lit (a := 65536) (b := 65536) (c := 65536) (by decide)) k21 (by decide)
      refine lv_iinc (v := 15) (lv' := [(1, .int 15), (0, .int a0)]) hx hb dJ6_numberOfLeadingZeros_0f7a4_25 hl (k := 0) rfl (by decide) (by decide) rfl (fun ls hl => ?_)
      refine lv_iload_n hx hb dJ6_numberOfLeadingZeros_0f7a4_28 rfl (lv_at hl 1 rfl) ?_
      refine lv_bipush (v := 16) hx hb dJ6_numberOfLeadingZeros_0f7a4_29 (by decide) ?_
      refine lv_iushr (v := (a0.toUInt32 >>> ((16 : Int32).toUInt32 &&& Int32.toUInt32 31)).toInt32) hx hb dJ6_numberOfLeadingZeros_0f7a4_31 rfl (zgen (zI.top _) (fun v25 _ => ?_))
      refine lv_istore_n (lv' := [(0, .int v25), (1, .int 15)]) hx hb dJ6_numberOfLeadingZeros_0f7a4_32 rfl hl (by decide) rfl (fun ls hl => ?_)
      exact cut33 v25 15 ((zI.lit (a := 15) (b := 15) (c := 15) (by decide)).w (c := 15) (d := 31) (by decide)) H locs ls hw hS (lv_sub hl [0, 1] rfl)
  · have k26 : zI (-2147483648) 0 (a0) := zI.leU (zI.nlt c20) (zI.top _) (zI.lit (a := 0) (b := 0) (c := 0) (by decide)) (by decide)
    refine lv_iload_n hx hb dJ6_numberOfLeadingZeros_0f7a4_4 rfl (lv_at hl 0 rfl) ?_
    refine lv_if_ne (tgt := 13) hx hb dJ6_numberOfLeadingZeros_0f7a4_5 (by decide) (fun c27 => ?_) (fun c27 => ?_)
    · have k28 : zI (-2147483648) (-1) (a0) := zI.neU c27 k26 (zI.lit (a := 0) (b := 0) (c := 0) (by decide)) (by decide)
      refine lv_iconst (v := 0) hx hb dJ6_numberOfLeadingZeros_0f7a4_13 (by decide) ?_
      exact ziretQ hQ hx hb hr rfl hlocks (0 : Int32) rfl ⟨(zI.top _), trivial⟩ hw hS dJ6_numberOfLeadingZeros_0f7a4_14
    · have k29 : zI 0 0 (a0) := zI.eqq c27 (zI.lit (a := 0) (b := 0) (c := 0) (by decide))
      refine lv_bipush (v := 32) hx hb dJ6_numberOfLeadingZeros_0f7a4_8 (by decide) ?_
      refine lv_goto (tgt := 14) hx hb dJ6_numberOfLeadingZeros_0f7a4_10 (by decide) ?_
      exact ziretQ hQ hx hb hr rfl hlocks (32 : Int32) rfl ⟨(zI.top _), trivial⟩ hw hS dJ6_numberOfLeadingZeros_0f7a4_14

set_option maxHeartbeats 4000000 in
set_option maxRecDepth 100000 in
theorem kc_has (l : Launch) (D : va_G) (ct : Nat → ClassId) (a0 : Int32) (a1 : Int32) : zC l yX11_has (.code yX11_has cX11_has 2 (some .boolean) :: wsL_law0) ({ frames := 1, cells := 0, slots := 0, locals := 80 }) D ct [] [.int a0, .int a1] ([]) (S := Int32) (fun u => some (.int u)) (fun u => zI 0 1 u ∧ u = (Gk_has a0 a1) ∧ True) (fun u => []) 0 0 := by
  refine zofQ cX11_has 2 (some .boolean) (by decide) rfl (Nat.le_of_ble_eq_true rfl) ?_
  intro p e s m below meth c A a9 Q ha9 hx hb hr hml hts hown hlocks hname hK hA hZ hN hQ
  have hown : s.vm.findClass RX11 = some m.cls := hown
  obtain ⟨X, hX⟩ : ∃ X, X = (Gk_has a0 a1) := ⟨_, rfl⟩
  intro H locs hw hS ls hl
  have hl : lv_has ls 2 [(0, .int a0), (1, .int a1)] := hl
  have hE := hX
  unfold Gk_has at hE
  refine lv_iload_n hx hb dX11_has_0 rfl (lv_at hl 0 rfl) ?_
  refine lv_iload_n hx hb dX11_has_1 rfl (lv_at hl 1 rfl) ?_
  refine lv_ishr hx hb dX11_has_2 (zgenE (zI.top _) (fun v1 ev1 _ => ?_))
  have hE := zletE ev1 hE
  refine lv_iconst (v := 1) hx hb dX11_has_3 (by decide) ?_
  refine lv_iand hx hb dX11_has_4 (zgenE (lo := 0) (hi := 1) (zI.and (zI.lit (a := 1) (b := 1) (c := 1) (by decide)) (by decide)) (fun v2 ev2 hv2 => ?_))
  have hE := zletE ev2 hE
  refine lv_if_eq (tgt := 12) hx hb dX11_has_5 (by decide) (fun c3 => ?_) (fun c3 => ?_)
  · have hE := zifT c3 hE
    have k4 : zI 0 0 (v2) := zI.eqq c3 (zI.lit (a := 0) (b := 0) (c := 0) (by decide))
    refine lv_iconst (v := 0) hx hb dX11_has_12 (by decide) ?_
    exact ziretQ hQ hx hb hr rfl hlocks (0 : Int32) rfl ⟨((zI.lit (a := 0) (b := 0) (c := 0) (by decide)).w (c := 0) (d := 1) (by decide)), (hE.symm.trans hX), trivial⟩ hw hS dX11_has_13
  · have hE := zifF c3 hE
    have k5 : zI 1 1 (v2) := zI.neD c3 hv2 (zI.lit (a := 0) (b := 0) (c := 0) (by decide)) (by decide)
    refine lv_iconst (v := 1) hx hb dX11_has_8 (by decide) ?_
    refine lv_goto (tgt := 13) hx hb dX11_has_9 (by decide) ?_
    exact ziretQ hQ hx hb hr rfl hlocks (1 : Int32) rfl ⟨((zI.lit (a := 1) (b := 1) (c := 1) (by decide)).w (c := 0) (d := 1) (by decide)), (hE.symm.trans hX), trivial⟩ hw hS dX11_has_13

set_option maxHeartbeats 4000000 in
set_option maxRecDepth 100000 in
theorem kc_isStake (l : Launch) (D : va_G) (ct : Nat → ClassId) (a0 : Int32) : zC l yX11_isStake (.code yX11_isStake cX11_isStake 1 (some .boolean) :: wsL_law0) ({ frames := 1, cells := 0, slots := 0, locals := 80 }) D ct [] [.int a0] ([]) (S := Int32) (fun u => some (.int u)) (fun u => zI 0 1 u ∧ True) (fun u => []) 0 0 := by
  refine zofQ cX11_isStake 1 (some .boolean) (by decide) rfl (Nat.le_of_ble_eq_true rfl) ?_
  intro p e s m below meth c A a9 Q ha9 hx hb hr hml hts hown hlocks hname hK hA hZ hN hQ
  have hown : s.vm.findClass RX11 = some m.cls := hown
  intro H locs hw hS ls hl
  have hl : lv_has ls 1 [(0, .int a0)] := hl
  refine lv_iload_n hx hb dX11_isStake_0 rfl (lv_at hl 0 rfl) ?_
  refine lv_if_lt (tgt := 14) hx hb dX11_isStake_1 (by decide) (fun c1 => ?_) (fun c1 => ?_)
  · have k2 : zI (-2147483648) (-1) (a0) := zI.ltU c1 (zI.top _) (zI.lit (a := 0) (b := 0) (c := 0) (by decide)) (by decide)
    refine lv_iconst (v := 0) hx hb dX11_isStake_14 (by decide) ?_
    exact ziretQ hQ hx hb hr rfl hlocks (0 : Int32) rfl ⟨((zI.lit (a := 0) (b := 0) (c := 0) (by decide)).w (c := 0) (d := 1) (by decide)), trivial⟩ hw hS dX11_isStake_15
  · have k3 : zI 0 2147483647 (a0) := zI.leD (zI.nlt c1) (zI.lit (a := 0) (b := 0) (c := 0) (by decide)) (zI.top _) (by decide)
    refine lv_iload_n hx hb dX11_isStake_4 rfl (lv_at hl 0 rfl) ?_
    refine lv_bipush (v := 9) hx hb dX11_isStake_5 (by decide) ?_
    refine lv_icmp_gt (tgt := 14) hx hb dX11_isStake_7 (by decide) (fun c4 => ?_) (fun c4 => ?_)
    · have k5 : zI 10 2147483647 (a0) := zI.ltD c4 (zI.lit (a := 9) (b := 9) (c := 9) (by decide)) k3 (by decide)
      refine lv_iconst (v := 0) hx hb dX11_isStake_14 (by decide) ?_
      exact ziretQ hQ hx hb hr rfl hlocks (0 : Int32) rfl ⟨((zI.lit (a := 0) (b := 0) (c := 0) (by decide)).w (c := 0) (d := 1) (by decide)), trivial⟩ hw hS dX11_isStake_15
    · have k6 : zI 0 9 (a0) := zI.leU (zI.nlt c4) k3 (zI.lit (a := 9) (b := 9) (c := 9) (by decide)) (by decide)
      refine lv_iconst (v := 1) hx hb dX11_isStake_10 (by decide) ?_
      refine lv_goto (tgt := 15) hx hb dX11_isStake_11 (by decide) ?_
      exact ziretQ hQ hx hb hr rfl hlocks (1 : Int32) rfl ⟨((zI.lit (a := 1) (b := 1) (c := 1) (by decide)).w (c := 0) (d := 1) (by decide)), trivial⟩ hw hS dX11_isStake_15

set_option maxHeartbeats 4000000 in
set_option maxRecDepth 100000 in
theorem kc_isLetter (l : Launch) (D : va_G) (ct : Nat → ClassId) (a0 : Int32) : zC l yX9_isLetter (.code yX9_isLetter cX9_isLetter 1 (some .boolean) :: wsL_law0) ({ frames := 1, cells := 0, slots := 0, locals := 80 }) D ct [] [.int a0] ([]) (S := Int32) (fun u => some (.int u)) (fun u => zI 0 1 u ∧ u = (Gk_isLetter a0) ∧ True) (fun u => []) 0 0 := by
  refine zofQ cX9_isLetter 1 (some .boolean) (by decide) rfl (Nat.le_of_ble_eq_true rfl) ?_
  intro p e s m below meth c A a9 Q ha9 hx hb hr hml hts hown hlocks hname hK hA hZ hN hQ
  have hown : s.vm.findClass RX9 = some m.cls := hown
  obtain ⟨X, hX⟩ : ∃ X, X = (Gk_isLetter a0) := ⟨_, rfl⟩
  intro H locs hw hS ls hl
  have hl : lv_has ls 1 [(0, .int a0)] := hl
  have hE := hX
  unfold Gk_isLetter at hE
  refine lv_iload_n hx hb dX9_isLetter_0 rfl (lv_at hl 0 rfl) ?_
  refine lv_bipush (v := 97) hx hb dX9_isLetter_1 (by decide) ?_
  refine lv_icmp_lt (tgt := 16) hx hb dX9_isLetter_3 (by decide) (fun c1 => ?_) (fun c1 => ?_)
  · have hE := zifT c1 hE
    have k2 : zI (-2147483648) 96 (a0) := zI.ltU c1 (zI.top _) (zI.lit (a := 97) (b := 97) (c := 97) (by decide)) (by decide)
    refine lv_iconst (v := 0) hx hb dX9_isLetter_16 (by decide) ?_
    exact ziretQ hQ hx hb hr rfl hlocks (0 : Int32) rfl ⟨((zI.lit (a := 0) (b := 0) (c := 0) (by decide)).w (c := 0) (d := 1) (by decide)), (hE.symm.trans hX), trivial⟩ hw hS dX9_isLetter_17
  · have hE := zifF c1 hE
    have k3 : zI 97 2147483647 (a0) := zI.leD (zI.nlt c1) (zI.lit (a := 97) (b := 97) (c := 97) (by decide)) (zI.top _) (by decide)
    refine lv_iload_n hx hb dX9_isLetter_6 rfl (lv_at hl 0 rfl) ?_
    refine lv_bipush (v := 122) hx hb dX9_isLetter_7 (by decide) ?_
    refine lv_icmp_gt (tgt := 16) hx hb dX9_isLetter_9 (by decide) (fun c4 => ?_) (fun c4 => ?_)
    · have hE := zifT c4 hE
      have k5 : zI 123 2147483647 (a0) := zI.ltD c4 (zI.lit (a := 122) (b := 122) (c := 122) (by decide)) k3 (by decide)
      refine lv_iconst (v := 0) hx hb dX9_isLetter_16 (by decide) ?_
      exact ziretQ hQ hx hb hr rfl hlocks (0 : Int32) rfl ⟨((zI.lit (a := 0) (b := 0) (c := 0) (by decide)).w (c := 0) (d := 1) (by decide)), (hE.symm.trans hX), trivial⟩ hw hS dX9_isLetter_17
    · have hE := zifF c4 hE
      have k6 : zI 97 122 (a0) := zI.leU (zI.nlt c4) k3 (zI.lit (a := 122) (b := 122) (c := 122) (by decide)) (by decide)
      refine lv_iconst (v := 1) hx hb dX9_isLetter_12 (by decide) ?_
      refine lv_goto (tgt := 17) hx hb dX9_isLetter_13 (by decide) ?_
      exact ziretQ hQ hx hb hr rfl hlocks (1 : Int32) rfl ⟨((zI.lit (a := 1) (b := 1) (c := 1) (by decide)).w (c := 0) (d := 1) (by decide)), (hE.symm.trans hX), trivial⟩ hw hS dX9_isLetter_17

set_option maxHeartbeats 4000000 in
set_option maxRecDepth 100000 in
theorem kc_isDigit (l : Launch) (D : va_G) (ct : Nat → ClassId) (a0 : Int32) : zC l yX9_isDigit (.code yX9_isDigit cX9_isDigit 1 (some .boolean) :: wsL_law0) ({ frames := 1, cells := 0, slots := 0, locals := 80 }) D ct [] [.int a0] ([]) (S := Int32) (fun u => some (.int u)) (fun u => zI 0 1 u ∧ u = (Gk_isDigit a0) ∧ True) (fun u => []) 0 0 := by
  refine zofQ cX9_isDigit 1 (some .boolean) (by decide) rfl (Nat.le_of_ble_eq_true rfl) ?_
  intro p e s m below meth c A a9 Q ha9 hx hb hr hml hts hown hlocks hname hK hA hZ hN hQ
  have hown : s.vm.findClass RX9 = some m.cls := hown
  obtain ⟨X, hX⟩ : ∃ X, X = (Gk_isDigit a0) := ⟨_, rfl⟩
  intro H locs hw hS ls hl
  have hl : lv_has ls 1 [(0, .int a0)] := hl
  have hE := hX
  unfold Gk_isDigit at hE
  refine lv_iload_n hx hb dX9_isDigit_0 rfl (lv_at hl 0 rfl) ?_
  refine lv_bipush (v := 48) hx hb dX9_isDigit_1 (by decide) ?_
  refine lv_icmp_lt (tgt := 16) hx hb dX9_isDigit_3 (by decide) (fun c1 => ?_) (fun c1 => ?_)
  · have hE := zifT c1 hE
    have k2 : zI (-2147483648) 47 (a0) := zI.ltU c1 (zI.top _) (zI.lit (a := 48) (b := 48) (c := 48) (by decide)) (by decide)
    refine lv_iconst (v := 0) hx hb dX9_isDigit_16 (by decide) ?_
    exact ziretQ hQ hx hb hr rfl hlocks (0 : Int32) rfl ⟨((zI.lit (a := 0) (b := 0) (c := 0) (by decide)).w (c := 0) (d := 1) (by decide)), (hE.symm.trans hX), trivial⟩ hw hS dX9_isDigit_17
  · have hE := zifF c1 hE
    have k3 : zI 48 2147483647 (a0) := zI.leD (zI.nlt c1) (zI.lit (a := 48) (b := 48) (c := 48) (by decide)) (zI.top _) (by decide)
    refine lv_iload_n hx hb dX9_isDigit_6 rfl (lv_at hl 0 rfl) ?_
    refine lv_bipush (v := 57) hx hb dX9_isDigit_7 (by decide) ?_
    refine lv_icmp_gt (tgt := 16) hx hb dX9_isDigit_9 (by decide) (fun c4 => ?_) (fun c4 => ?_)
    · have hE := zifT c4 hE
      have k5 : zI 58 2147483647 (a0) := zI.ltD c4 (zI.lit (a := 57) (b := 57) (c := 57) (by decide)) k3 (by decide)
      refine lv_iconst (v := 0) hx hb dX9_isDigit_16 (by decide) ?_
      exact ziretQ hQ hx hb hr rfl hlocks (0 : Int32) rfl ⟨((zI.lit (a := 0) (b := 0) (c := 0) (by decide)).w (c := 0) (d := 1) (by decide)), (hE.symm.trans hX), trivial⟩ hw hS dX9_isDigit_17
    · have hE := zifF c4 hE
      have k6 : zI 48 57 (a0) := zI.leU (zI.nlt c4) k3 (zI.lit (a := 57) (b := 57) (c := 57) (by decide)) (by decide)
      refine lv_iconst (v := 1) hx hb dX9_isDigit_12 (by decide) ?_
      refine lv_goto (tgt := 17) hx hb dX9_isDigit_13 (by decide) ?_
      exact ziretQ hQ hx hb hr rfl hlocks (1 : Int32) rfl ⟨((zI.lit (a := 1) (b := 1) (c := 1) (by decide)).w (c := 0) (d := 1) (by decide)), (hE.symm.trans hX), trivial⟩ hw hS dX9_isDigit_17

set_option maxHeartbeats 4000000 in
set_option maxRecDepth 100000 in
theorem kc_nextDraw (l : Launch) (D : va_G) (ct : Nat → ClassId) (a0 : Int64) (x1 : mQ a0) : zC l yX11_nextDraw (.code yX11_nextDraw cX11_nextDraw 2 (some .long) :: wsL_law0) ({ frames := 1, cells := 0, slots := 0, locals := 80 }) D ct [] [.long a0] ([]) (S := Int64) (fun u => some (.long u)) (fun u => (mQ u) ∧ True) (fun u => []) 0 0 := by
  refine zofQ cX11_nextDraw 2 (some .long) (by decide) rfl (Nat.le_of_ble_eq_true rfl) ?_
  intro p e s m below meth c A a9 Q ha9 hx hb hr hml hts hown hlocks hname hK hA hZ hN hQ
  have hown : s.vm.findClass RX11 = some m.cls := hown
  intro H locs hw hS ls hl
  have hl : lv_has ls 2 [(0, .long a0)] := hl
  refine lv_lload_n hx hb dX11_nextDraw_0 rfl (lv_at hl 0 rfl) ?_
  refine lv_ldc2 hx hb hown (hts (.constantLong RX11 356 1103515245) (ki (zr55 9 rfl))) dX11_nextDraw_1 ?_
  refine lv_lmul hx hb dX11_nextDraw_4 ?_
  refine lv_ldc2 hx hb hown (hts (.constantLong RX11 358 12345) (ki (zr55 10 rfl))) dX11_nextDraw_5 ?_
  refine lv_ladd hx hb dX11_nextDraw_8 ?_
  refine lv_ldc2 hx hb hown (hts (.constantLong RX11 360 2147483648) (ki (zr55 11 rfl))) dX11_nextDraw_9 ?_
  refine lv_lrem hx hb dX11_nextDraw_12 (by decide) ?_
  exact clretQ hQ hx hb hr hlocks (((a0 * (1103515245 : Int64)) + (12345 : Int64)) - ((a0 * (1103515245 : Int64)) + (12345 : Int64)) / (2147483648 : Int64) * (2147483648 : Int64)) rfl ⟨(show mQ (((a0 * (1103515245 : Int64)) + (12345 : Int64)) - ((a0 * (1103515245 : Int64)) + (12345 : Int64)) / (2147483648 : Int64) * (2147483648 : Int64)) from (x1.step)), trivial⟩ hw hS dX11_nextDraw_13

set_option maxHeartbeats 4000000 in
set_option maxRecDepth 100000 in
theorem kc_below6 (l : Launch) (D : va_G) (ct : Nat → ClassId) (a0 : Int64) (a1 : Int32) (g1 : zI 0 6 a1) (x1 : mQ a0) : zC l yX11_below (.code yX11_below cX11_below 3 (some .int) :: wsL_law0) ({ frames := 1, cells := 0, slots := 0, locals := 80 }) D ct [] [.long a0, .int a1] ([]) (S := Int32) (fun u => some (.int u)) (fun u => zI 0 5 u ∧ True) (fun u => []) 0 0 := by
  refine zofQ cX11_below 3 (some .int) (by decide) rfl (Nat.le_of_ble_eq_true rfl) ?_
  intro p e s m below meth c A a9 Q ha9 hx hb hr hml hts hown hlocks hname hK hA hZ hN hQ
  have hown : s.vm.findClass RX11 = some m.cls := hown
  intro H locs hw hS ls hl
  have hl : lv_has ls 3 [(0, .long a0), (2, .int a1)] := hl
  refine lv_iload_n hx hb dX11_below_0 rfl (lv_at hl 1 rfl) ?_
  refine lv_iconst (v := 1) hx hb dX11_below_1 (by decide) ?_
  refine lv_icmp_ge (tgt := 9) hx hb dX11_below_2 (by decide) (fun c1 => ?_) (fun c1 => ?_)
  · have k2 : zI 1 6 (a1) := zI.leD c1 (zI.lit (a := 1) (b := 1) (c := 1) (by decide)) g1 (by decide)
    refine lv_lload_n hx hb dX11_below_9 rfl (lv_at hl 0 rfl) ?_
    refine lv_ldc2 hx hb hown (hts (.constantLong RX11 362 65536) (ki (zr55 15 rfl))) dX11_below_10 ?_
    refine lv_ldiv hx hb dX11_below_13 (by decide) ?_
    refine lv_iload_n hx hb dX11_below_14 rfl (lv_at hl 1 rfl) ?_
    refine lv_i2l (v := a1.toInt64) hx hb dX11_below_15 rfl ?_
    refine lv_lrem hx hb dX11_below_16 (i64ne k2 (by decide)) ?_
    refine lv_l2i (v := ((a0 / (65536 : Int64)) - (a0 / (65536 : Int64)) / a1.toInt64 * a1.toInt64).toInt32) hx hb dX11_below_17 rfl (zgen (lo := 0) (hi := 5) ((x1.draw k2 (by decide))) (fun v3 hv3 => ?_))
    exact ziretQ hQ hx hb hr rfl hlocks v3 rfl ⟨hv3, trivial⟩ hw hS dX11_below_18
  · have k4 : zI 0 0 (a1) := zI.ltU (zI.nle c1) g1 (zI.lit (a := 1) (b := 1) (c := 1) (by decide)) (by decide)
    refine lv_iconst (v := 0) hx hb dX11_below_5 (by decide) ?_
    refine lv_goto (tgt := 18) hx hb dX11_below_6 (by decide) ?_
    exact ziretQ hQ hx hb hr rfl hlocks (0 : Int32) rfl ⟨((zI.lit (a := 0) (b := 0) (c := 0) (by decide)).w (c := 0) (d := 5) (by decide)), trivial⟩ hw hS dX11_below_18

set_option maxHeartbeats 4000000 in
set_option maxRecDepth 100000 in
theorem kc_below20 (l : Launch) (D : va_G) (ct : Nat → ClassId) (a0 : Int64) : zC l yX11_below (.code yX11_below cX11_below 3 (some .int) :: wsL_law0) ({ frames := 1, cells := 0, slots := 0, locals := 80 }) D ct [] [.long a0, .int 20] ([]) (S := Int32) (fun u => some (.int u)) (fun u => zI (-2147483648) 2147483647 u ∧ True) (fun u => []) 0 0 := by
  refine zofQ cX11_below 3 (some .int) (by decide) rfl (Nat.le_of_ble_eq_true rfl) ?_
  intro p e s m below meth c A a9 Q ha9 hx hb hr hml hts hown hlocks hname hK hA hZ hN hQ
  have hown : s.vm.findClass RX11 = some m.cls := hown
  intro H locs hw hS ls hl
  have hl : lv_has ls 3 [(0, .long a0), (2, .int 20)] := hl
  refine lv_iload_n hx hb dX11_below_0 rfl (lv_at hl 1 rfl) ?_
  refine lv_iconst (v := 1) hx hb dX11_below_1 (by decide) ?_
  refine lv_icmp_ge (tgt := 9) hx hb dX11_below_2 (by decide) (fun _ => ?_) (fun h => absurd (by decide) h)
  refine lv_lload_n hx hb dX11_below_9 rfl (lv_at hl 0 rfl) ?_
  refine lv_ldc2 hx hb hown (hts (.constantLong RX11 362 65536) (ki (zr55 15 rfl))) dX11_below_10 ?_
  refine lv_ldiv hx hb dX11_below_13 (by decide) (zgenL (fun v2 => ?_))
  refine lv_iload_n hx hb dX11_below_14 rfl (lv_at hl 1 rfl) ?_
  refine lv_i2l (v := 20) hx hb dX11_below_15 (by decide) ?_
  refine lv_lrem hx hb dX11_below_16 (by decide) (zgenL (fun v3 => ?_))
  refine lv_l2i (v := v3.toInt32) hx hb dX11_below_17 rfl (zgen (zI.top _) (fun v4 _ => ?_))
  exact ziretQ hQ hx hb hr rfl hlocks v4 rfl ⟨(zI.top _), trivial⟩ hw hS dX11_below_18

set_option maxHeartbeats 4000000 in
set_option maxRecDepth 100000 in
theorem kc_coder (l : Launch) (D : va_G) (ct : Nat → ClassId) (E : Nat → Nat) (a0 : Nat) (g0 : a0 < 37) (hEi : kEi E) : cC l yJ0_coder_7d493 (.code yJ0_coder_7d493 cJ0_coder_7d493 1 (some .byte) :: wsL_law0) ({ frames := 1, cells := 0, slots := 0, locals := 80 }) D ct E [.ref (E (40 + a0))] ([]) (S := Int32) (fun u => some (.int u)) (fun u => zI 0 0 u ∧ u = (Gk_coder a0) ∧ True) (fun u => []) := by
  refine cofQ cJ0_coder_7d493 1 (some .byte) (by decide) rfl (Nat.le_of_ble_eq_true rfl) ?_
  intro p e s m below meth c A a9 Q ha9 hx hb hr hml hts hown hlocks hname hK hA hZ hN hQ
  have hown : s.vm.findClass RJ0 = some m.cls := hown
  have lf15 := hts (.fieldLink RJ0 15 "java/lang/String" "coder" "B") (ki (zr12 16 rfl))
  have lf38 := hts (.fieldLink RJ0 38 "java/lang/String" "COMPACT_STRINGS" "Z") (ki (zr12 15 rfl))
  obtain ⟨X, hX⟩ : ∃ X, X = (Gk_coder a0) := ⟨_, rfl⟩
  intro H locs hw hS ls hl
  have hl : lv_has ls 1 [(0, .ref (E (40 + a0)))] := hl
  have hE := hX
  unfold Gk_coder at hE
  refine va_gets (C := RJ0) (v := .int 1) hx hb hZ.2.2.2.2.2.2.1 hS hown lf38 (fun _ h9 => h9) dJ0_coder_7d493_0 ?_
  refine lv_if_eq (tgt := 13) hx hb dJ0_coder_7d493_3 (by decide) (fun h => absurd h (by decide)) (fun _ => ?_)
  refine lv_aload_n hx hb dJ0_coder_7d493_6 rfl (lv_at hl 0 rfl) ?_
  refine vk_getf (o := RJ0) hx hb (hZ.2.2.2.2.1 _ g0).2.1 hS hown lf15 (fun _ h9 => h9) dJ0_coder_7d493_7 ?_
  refine lv_goto (tgt := 14) hx hb dJ0_coder_7d493_10 (by decide) ?_
  exact ziretQ hQ hx hb hr rfl hlocks (0 : Int32) rfl ⟨(zI.lit (a := 0) (b := 0) (c := 0) (by decide)), (hE.symm.trans hX), trivial⟩ hw hS dJ0_coder_7d493_14

set_option maxHeartbeats 4000000 in
set_option maxRecDepth 100000 in
theorem kc_isLatin1 (l : Launch) (D : va_G) (ct : Nat → ClassId) (E : Nat → Nat) (a0 : Nat) (g0 : a0 < 37) (hEi : kEi E) : cC l yJ0_isLatin1_aae02 (.code yJ0_isLatin1_aae02 cJ0_isLatin1_aae02 1 (some .boolean) :: wsL_law0) ({ frames := 1, cells := 0, slots := 0, locals := 80 }) D ct E [.ref (E (40 + a0))] ([]) (S := Int32) (fun u => some (.int u)) (fun u => zI 1 1 u ∧ u = (Gk_isLatin1 a0) ∧ True) (fun u => []) := by
  refine cofQ cJ0_isLatin1_aae02 1 (some .boolean) (by decide) rfl (Nat.le_of_ble_eq_true rfl) ?_
  intro p e s m below meth c A a9 Q ha9 hx hb hr hml hts hown hlocks hname hK hA hZ hN hQ
  have hown : s.vm.findClass RJ0 = some m.cls := hown
  have lf15 := hts (.fieldLink RJ0 15 "java/lang/String" "coder" "B") (ki (zr12 16 rfl))
  have lf38 := hts (.fieldLink RJ0 38 "java/lang/String" "COMPACT_STRINGS" "Z") (ki (zr12 15 rfl))
  obtain ⟨X, hX⟩ : ∃ X, X = (Gk_isLatin1 a0) := ⟨_, rfl⟩
  intro H locs hw hS ls hl
  have hl : lv_has ls 1 [(0, .ref (E (40 + a0)))] := hl
  have hE := hX
  unfold Gk_isLatin1 at hE
  refine va_gets (C := RJ0) (v := .int 1) hx hb hZ.2.2.2.2.2.2.1 hS hown lf38 (fun _ h9 => h9) dJ0_isLatin1_aae02_0 ?_
  refine lv_if_eq (tgt := 17) hx hb dJ0_isLatin1_aae02_3 (by decide) (fun h => absurd h (by decide)) (fun _ => ?_)
  refine lv_aload_n hx hb dJ0_isLatin1_aae02_6 rfl (lv_at hl 0 rfl) ?_
  refine vk_getf (o := RJ0) hx hb (hZ.2.2.2.2.1 _ g0).2.1 hS hown lf15 (fun _ h9 => h9) dJ0_isLatin1_aae02_7 ?_
  refine lv_if_ne (tgt := 17) hx hb dJ0_isLatin1_aae02_10 (by decide) (fun h => absurd (by decide) h) (fun _ => ?_)
  refine lv_iconst (v := 1) hx hb dJ0_isLatin1_aae02_13 (by decide) ?_
  refine lv_goto (tgt := 18) hx hb dJ0_isLatin1_aae02_14 (by decide) ?_
  exact ziretQ hQ hx hb hr rfl hlocks (1 : Int32) rfl ⟨(zI.lit (a := 1) (b := 1) (c := 1) (by decide)), (hE.symm.trans hX), trivial⟩ hw hS dJ0_isLatin1_aae02_18

set_option maxHeartbeats 4000000 in
set_option maxRecDepth 100000 in
theorem kc_length (l : Launch) (D : va_G) (ct : Nat → ClassId) (E : Nat → Nat) (a0 : Nat) (g0 : a0 < 37) (hEi : kEi E) : cC l yJ0_length_8abf5 (.code yJ0_length_8abf5 cJ0_length_8abf5 1 (some .int) :: wsL_law0) ({ frames := 2, cells := 0, slots := 0, locals := 120 }) D ct E [.ref (E (40 + a0))] ([]) (S := Int32) (fun u => some (.int u)) (fun u => zI 0 8 u ∧ (u = nI (eL.getD a0 0)) ∧ u = (Gk_length a0) ∧ True) (fun u => []) := by
  refine cofQ cJ0_length_8abf5 1 (some .int) (by decide) rfl (Nat.le_of_ble_eq_true rfl) ?_
  intro p e s m below meth c A a9 Q ha9 hx hb hr hml hts hown hlocks hname hK hA hZ hN hQ
  have hown : s.vm.findClass RJ0 = some m.cls := hown
  have lf9 := hts (.fieldLink RJ0 9 "java/lang/String" "value" "[B") (ki (zr12 10 rfl))
  obtain ⟨X, hX⟩ : ∃ X, X = (Gk_length a0) := ⟨_, rfl⟩
  intro H locs hw hS ls hl
  have hl : lv_has ls 1 [(0, .ref (E (40 + a0)))] := hl
  have hE := hX
  unfold Gk_length at hE
  refine lv_aload_n hx hb dJ0_length_8abf5_0 rfl (lv_at hl 0 rfl) ?_
  refine vk_getf (o := RJ0) hx hb (hZ.2.2.2.2.1 _ g0).2.2.1 hS hown lf9 (fun _ h9 => h9) dJ0_length_8abf5_1 ?_
  refine va_tlen (v := nI (eL.getD a0 0)) hx hb (hZ.2.2.2.2.1 _ g0).2.2.2 hS rfl dJ0_length_8abf5_4 ?_
  have k2 : zI 0 8 (nI (eL.getD a0 0)) := eLb g0
  refine lv_aload_n hx hb dJ0_length_8abf5_5 rfl (lv_at hl 0 rfl) ?_
  refine zcallE (va_runV (As := []) (rest := [.int (nI (eL.getD a0 0))]) ⟨hx, hb, hml, hown, hts⟩ (kc_coder l D ct E a0 g0 hEi H.size) (cwV 0 hts (kgV (zr12 11 rfl) (zr12 12 rfl) (zr12 13 rfl) (zr12 8 rfl) (zr12 14 rfl)) rfl rfl rfl (by decide +kernel) ⟨Nat.le_of_ble_eq_true rfl, Nat.le_of_ble_eq_true rfl⟩) (cpreT hK hw hS hA hZ hN g0) rfl rfl hl.1 rfl (lv_room (Nat.le_of_ble_eq_true rfl)) dJ0_length_8abf5_6 ⟨Nat.le_of_ble_eq_true rfl, Nat.le_of_ble_eq_true rfl⟩) hw hS hA rfl 9 rfl (fun u3 H locs pu3 hw hS => ?_)
  have hu3 : zI 0 0 u3 := pu3.1
  have xu3 : u3 = (Gk_coder a0) := pu3.2.1
  have hE := zletE xu3 hE
  refine zfr 9 [.int u3, .int (nI (eL.getD a0 0))] rfl rfl ?_
  refine lv_ishr hx hb dJ0_length_8abf5_9 ?_
  have k5 : zI 0 8 ((nI (eL.getD a0 0)) >>> (u3 &&& 31)) := zI.shr k2 (by decide)
  exact ziretQ hQ hx hb hr rfl hlocks ((nI (eL.getD a0 0)) >>> (u3 &&& 31)) rfl ⟨k5, (show ((nI (eL.getD a0 0)) >>> (u3 &&& 31)) = nI (eL.getD a0 0) from (by rw [zI.eq0 hu3]; exact sc_shr0 (by have h9 := eLn g0; omega))), (hE.symm.trans hX), trivial⟩ hw hS dJ0_length_8abf5_10

set_option maxHeartbeats 4000000 in
set_option maxRecDepth 100000 in
theorem kc_check3 (l : Launch) (D : va_G) (ct : Nat → ClassId) (a0 : Int32) (a1 : Int32) (a2 : Option Nat) (g0 : zI 0 2147483647 a0) (x1 : a0 < a1) : zC l yJ3_checkIndex_8e157 (.code yJ3_checkIndex_8e157 cJ3_checkIndex_8e157 3 (some .int) :: wsL_law0) ({ frames := 1, cells := 0, slots := 0, locals := 80 }) D ct [] [.int a0, .int a1, (va_rf a2)] ([]) (S := Int32) (fun u => some (.int u)) (fun u => zI (-2147483648) 2147483647 u ∧ True) (fun u => []) 0 0 := by
  refine zofQ cJ3_checkIndex_8e157 3 (some .int) (by decide) rfl (by cases a2 <;> exact Nat.le_of_ble_eq_true rfl) ?_
  intro p e s m below meth c A a9 Q ha9 hx hb hr hml hts hown hlocks hname hK hA hZ hN hQ
  have hown : s.vm.findClass RJ3 = some m.cls := hown
  intro H locs hw hS ls hl
  have hl : lv_has ls 3 [(0, .int a0), (1, .int a1), (2, (va_rf a2))] := hl
  refine lv_iload_n hx hb dJ3_checkIndex_8e157_0 rfl (lv_at hl 0 rfl) ?_
  refine lv_if_lt (tgt := 9) hx hb dJ3_checkIndex_8e157_1 (by decide) (fun c1 => ?_) (fun c1 => ?_)
  · exact zI.abs (a := 0) (b := (-1)) (zI.ltU c1 g0 (zI.lit (a := 0) (b := 0) (c := 0) (by decide)) (by decide)) (by decide)
  · refine lv_iload_n hx hb dJ3_checkIndex_8e157_4 rfl (lv_at hl 0 rfl) ?_
    refine lv_iload_n hx hb dJ3_checkIndex_8e157_5 rfl (lv_at hl 1 rfl) ?_
    refine lv_icmp_lt (tgt := 16) hx hb dJ3_checkIndex_8e157_6 (by decide) (fun c2 => ?_) (fun c2 => ?_)
    · have k3 : zI 0 2147483646 (a0) := zI.ltU c2 g0 (zI.top _) (by decide)
      have k4 : zI 1 2147483647 (a1) := zI.ltD c2 g0 (zI.top _) (by decide)
      refine lv_iload_n hx hb dJ3_checkIndex_8e157_16 rfl (lv_at hl 0 rfl) ?_
      exact ziretQ hQ hx hb hr rfl hlocks a0 rfl ⟨(zI.top _), trivial⟩ hw hS dJ3_checkIndex_8e157_17
    · exact absurd x1 c2

set_option maxHeartbeats 4000000 in
set_option maxRecDepth 100000 in
theorem kc_check (l : Launch) (D : va_G) (ct : Nat → ClassId) (E : Nat → Nat) (a0 : Int32) (a1 : Int32) (g0 : zI 0 2147483647 a0) (hEi : kEi E) (x1 : a0 < a1) : cC l yJ0_checkIndex_df160 (.code yJ0_checkIndex_df160 cJ0_checkIndex_df160 2 none :: wsL_law0) ({ frames := 2, cells := 0, slots := 0, locals := 120 }) D ct E [.int a0, .int a1] ([]) (S := Unit) (fun u => none) (fun u => True) (fun u => []) := by
  refine cofQ cJ0_checkIndex_df160 2 none (by decide) rfl (Nat.le_of_ble_eq_true rfl) ?_
  intro p e s m below meth c A a9 Q ha9 hx hb hr hml hts hown hlocks hname hK hA hZ hN hQ
  have hown : s.vm.findClass RJ0 = some m.cls := hown
  have lf1053 := hts (.fieldLink RJ0 1053 "jdk/internal/util/Preconditions" "SIOOBE_FORMATTER" "Ljava/util/function/BiFunction;") (ki (zr13 8 rfl))
  intro H locs hw hS ls hl
  have hl : lv_has ls 2 [(0, .int a0), (1, .int a1)] := hl
  refine lv_iload_n hx hb dJ0_checkIndex_df160_0 rfl (lv_at hl 0 rfl) ?_
  refine lv_iload_n hx hb dJ0_checkIndex_df160_1 rfl (lv_at hl 1 rfl) ?_
  obtain ⟨o9, ho9⟩ := hZ.2.2.2.2.2.2.2.1
  refine va_gets (C := RJ3) (v := va_rf o9) hx hb ho9 hS hown lf1053 (fun _ h9 => h9) dJ0_checkIndex_df160_2 ?_
  refine zcallE (va_runS (As := [.int a0, .int a1, (va_rf o9)]) (rest := []) ⟨hx, hb, hml, hown, hts⟩ (kc_check3 l D ct a0 a1 o9 g0 (x1) H.size) (va_cwS 3 hts (kgS (zr13 9 rfl) (zr13 10 rfl) (zr13 11 rfl) (zr13 12 rfl)) rfl rfl rfl (by decide +kernel) ⟨Nat.le_of_ble_eq_true rfl, Nat.le_of_ble_eq_true rfl⟩) (zpreS hK hw hS hA zZ.nil hN [] rfl rfl) rfl rfl hl.1 rfl (lv_room (Nat.le_of_ble_eq_true rfl)) dJ0_checkIndex_df160_5 ⟨Nat.le_of_ble_eq_true rfl, Nat.le_of_ble_eq_true rfl⟩) hw hS hA rfl 8 rfl (fun u1 H locs pu1 hw hS => ?_)
  have hu1 : zI (-2147483648) 2147483647 u1 := pu1.1
  refine zfr 8 [.int u1] rfl rfl ?_
  refine lv_pop hx hb dJ0_checkIndex_df160_8 rfl ?_
  exact zvretQ hQ hx hb hr hlocks () rfl trivial hw hS dJ0_checkIndex_df160_9

set_option maxHeartbeats 4000000 in
set_option maxRecDepth 100000 in
theorem kc_charAt1 (l : Launch) (D : va_G) (ct : Nat → ClassId) (E : Nat → Nat) (a0 : Nat) (a1 : Int32) (g0 : a0 < 37) (g1 : zI 0 7 a1) (hEi : kEi E) (x1 : a1 < nI (eL.getD a0 0)) : cC l yJ1_charAt_3b067 (.code yJ1_charAt_3b067 cJ1_charAt_3b067 2 (some .char) :: wsL_law0) ({ frames := 3, cells := 0, slots := 0, locals := 160 }) D ct E [.ref (E (80 + a0)), .int a1] ([]) (S := Int32) (fun u => some (.int u)) (fun u => zI (-2147483648) 2147483647 u ∧ (narrow .char (.int u) = .int u) ∧ u = (Gk_charAt1 a0 a1) ∧ True) (fun u => []) := by
  refine cofQ cJ1_charAt_3b067 2 (some .char) (by decide) rfl (Nat.le_of_ble_eq_true rfl) ?_
  intro p e s m below meth c A a9 Q ha9 hx hb hr hml hts hown hlocks hname hK hA hZ hN hQ
  have hown : s.vm.findClass RJ1 = some m.cls := hown
  obtain ⟨X, hX⟩ : ∃ X, X = (Gk_charAt1 a0 a1) := ⟨_, rfl⟩
  intro H locs hw hS ls hl
  have hl : lv_has ls 2 [(0, .ref (E (80 + a0))), (1, .int a1)] := hl
  have hE := hX
  unfold Gk_charAt1 at hE
  refine lv_iload_n hx hb dJ1_charAt_3b067_0 rfl (lv_at hl 1 rfl) ?_
  refine lv_aload_n hx hb dJ1_charAt_3b067_1 rfl (lv_at hl 0 rfl) ?_
  refine va_tlen (v := nI (eL.getD a0 0)) hx hb (hZ.2.2.2.2.1 _ g0).2.2.2 hS rfl dJ1_charAt_3b067_2 ?_
  have k2 : zI 0 8 (nI (eL.getD a0 0)) := eLb g0
  refine zcallE (va_runS (As := [.int a1, .int (nI (eL.getD a0 0))]) (rest := []) ⟨hx, hb, hml, hown, hts⟩ (kc_check l D ct E a1 (nI (eL.getD a0 0)) (g1.w (c := 0) (d := 2147483647) (by decide)) hEi (x1) H.size) (va_cwS 2 hts (kgS (zr13 5 rfl) (zr13 6 rfl) (zr12 8 rfl) (zr13 7 rfl)) rfl rfl rfl (by decide +kernel) ⟨Nat.le_of_ble_eq_true rfl, Nat.le_of_ble_eq_true rfl⟩) (cpreS hK hw hS hA hZ hN [] rfl rfl) rfl rfl hl.1 rfl (lv_room (Nat.le_of_ble_eq_true rfl)) dJ1_charAt_3b067_3 ⟨Nat.le_of_ble_eq_true rfl, Nat.le_of_ble_eq_true rfl⟩) hw hS hA rfl 6 rfl (fun u3 H locs pu3 hw hS => ?_)
  refine zfr 6 [] rfl rfl ?_
  refine lv_aload_n hx hb dJ1_charAt_3b067_6 rfl (lv_at hl 0 rfl) ?_
  refine lv_iload_n hx hb dJ1_charAt_3b067_7 rfl (lv_at hl 1 rfl) ?_
  refine va_tb hx hb (hZ.2.2.2.2.1 _ g0).2.2.2 hS (eLin g0 g1 x1) (v := .int _) rfl dJ1_charAt_3b067_8 (zgenE (zI.top _) (fun v4 ev4 _ => ?_))
  have hE := zletE ev4 hE
  refine lv_sipush (v := 255) hx hb dJ1_charAt_3b067_9 (by decide) ?_
  refine lv_iand hx hb dJ1_charAt_3b067_12 (zgenE (lo := 0) (hi := 255) (zI.and (zI.lit (a := 255) (b := 255) (c := 255) (by decide)) (by decide)) (fun v5 ev5 hv5 => ?_))
  have hE := zletE ev5 hE
  refine lv_i2c (v := (v5.toUInt32 % 65536).toInt32) hx hb dJ1_charAt_3b067_13 rfl (zgenE (zI.top _) (fun v6 ev6 _ => ?_))
  have hE := zletE ev6 hE
  exact ziretQ hQ hx hb hr (by rw [ev6]; exact pk_nc _) hlocks v6 rfl ⟨(zI.top _), (show narrow .char (.int v6) = .int v6 from (by rw [ev6]; exact pk_nc _)), (hE.symm.trans hX), trivial⟩ hw hS dJ1_charAt_3b067_14

set_option maxHeartbeats 4000000 in
set_option maxRecDepth 100000 in
theorem kc_charAt (l : Launch) (D : va_G) (ct : Nat → ClassId) (E : Nat → Nat) (a0 : Nat) (a1 : Int32) (g0 : a0 < 37) (g1 : zI 0 7 a1) (hEi : kEi E) (x1 : a1 < nI (eL.getD a0 0)) : cC l yJ0_charAt_5068e (.code yJ0_charAt_5068e cJ0_charAt_5068e 2 (some .char) :: wsL_law0) ({ frames := 4, cells := 0, slots := 0, locals := 200 }) D ct E [.ref (E (40 + a0)), .int a1] ([]) (S := Int32) (fun u => some (.int u)) (fun u => zI (-2147483648) 2147483647 u ∧ u = (Gk_charAt a0 a1) ∧ True) (fun u => []) := by
  refine cofQ cJ0_charAt_5068e 2 (some .char) (by decide) rfl (Nat.le_of_ble_eq_true rfl) ?_
  intro p e s m below meth c A a9 Q ha9 hx hb hr hml hts hown hlocks hname hK hA hZ hN hQ
  have hown : s.vm.findClass RJ0 = some m.cls := hown
  have lf9 := hts (.fieldLink RJ0 9 "java/lang/String" "value" "[B") (ki (zr12 10 rfl))
  obtain ⟨X, hX⟩ : ∃ X, X = (Gk_charAt a0 a1) := ⟨_, rfl⟩
  intro H locs hw hS ls hl
  have hl : lv_has ls 2 [(0, .ref (E (40 + a0))), (1, .int a1)] := hl
  have hE := hX
  unfold Gk_charAt at hE
  refine lv_aload_n hx hb dJ0_charAt_5068e_0 rfl (lv_at hl 0 rfl) ?_
  refine zcallE (va_runV (As := []) (rest := []) ⟨hx, hb, hml, hown, hts⟩ (kc_isLatin1 l D ct E a0 g0 hEi H.size) (cwV 0 hts (kgV (zr12 21 rfl) (zr12 22 rfl) (zr12 23 rfl) (zr12 8 rfl) (zr13 0 rfl)) rfl rfl rfl (by decide +kernel) ⟨Nat.le_of_ble_eq_true rfl, Nat.le_of_ble_eq_true rfl⟩) (cpreT hK hw hS hA hZ hN g0) rfl rfl hl.1 rfl (lv_room (Nat.le_of_ble_eq_true rfl)) dJ0_charAt_5068e_1 ⟨Nat.le_of_ble_eq_true rfl, Nat.le_of_ble_eq_true rfl⟩) hw hS hA rfl 4 rfl (fun u1 H locs pu1 hw hS => ?_)
  have hu1 : zI 1 1 u1 := pu1.1
  have xu1 : u1 = (Gk_isLatin1 a0) := pu1.2.1
  have hE := zletE xu1 hE
  refine zfr 4 [.int u1] rfl rfl ?_
  refine lv_if_eq (tgt := 16) hx hb dJ0_charAt_5068e_4 (by decide) (fun c3 => ?_) (fun c3 => ?_)
  · have hE := zifT c3 hE
    exact absurd (congrArg Int32.toInt c3) (by have := hu1.1; have := (zI.lit (a := 0) (b := 0) (c := 0) (by decide)).2; omega)
  · have hE := zifF c3 hE
    refine lv_aload_n hx hb dJ0_charAt_5068e_7 rfl (lv_at hl 0 rfl) ?_
    refine vk_getf (o := RJ0) hx hb (hZ.2.2.2.2.1 _ g0).2.2.1 hS hown lf9 (fun _ h9 => h9) dJ0_charAt_5068e_8 ?_
    refine lv_iload_n hx hb dJ0_charAt_5068e_11 rfl (lv_at hl 1 rfl) ?_
    refine zcallE (va_runS (As := [.ref (E (80 + a0)), .int a1]) (rest := []) ⟨hx, hb, hml, hown, hts⟩ (kc_charAt1 l D ct E a0 a1 g0 g1 hEi (x1) H.size) (va_cwS 2 hts (kgS (zr13 1 rfl) (zr13 2 rfl) (zr13 3 rfl) (zr13 4 rfl)) rfl rfl rfl (by decide +kernel) ⟨Nat.le_of_ble_eq_true rfl, Nat.le_of_ble_eq_true rfl⟩) (cpreS hK hw hS hA hZ hN [] rfl rfl) rfl rfl hl.1 rfl (lv_room (Nat.le_of_ble_eq_true rfl)) dJ0_charAt_5068e_12 ⟨Nat.le_of_ble_eq_true rfl, Nat.le_of_ble_eq_true rfl⟩) hw hS hA rfl 15 rfl (fun u4 H locs pu4 hw hS => ?_)
    have hu4 : zI (-2147483648) 2147483647 u4 := pu4.1
    have yu4_0 : (narrow .char (.int u4) = .int u4) := pu4.2.1
    have xu4 : u4 = (Gk_charAt1 a0 a1) := pu4.2.2.1
    have hE := zletE xu4 hE
    refine zfr 15 [.int u4] rfl rfl ?_
    exact ziretQ hQ hx hb hr yu4_0 hlocks u4 rfl ⟨(zI.top _), (hE.symm.trans hX), trivial⟩ hw hS dJ0_charAt_5068e_15
