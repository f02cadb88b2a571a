theorem zlcmp0 {r w q : Int32} (h : zth r w q = 0) : lg_cmp (zou (fun _ => 0) r w q 0) (zrv r w q).toInt64 = 0 := by
  obtain ⟨v, hv⟩ := zth_0 h
  rw [zou_some hv, zrv_some hv, pk_uLs]
  simp [lg_cmp]
set_option maxRecDepth 100000 in
theorem zXof {s : State} {args : Array Value} (hts : ∀ w ∈ lw_tbl, w.before args s = true) (hgv : (Jvm.Cond.and given_1 narrow_1).before args s = true) : ∃ sa sb : Nat, zXF (fun q : Nat => s.heap.size ≤ q) s s.heap sa sb := by
  have hs := flat_of_before _ hgv
  obtain ⟨sa, _, _, _, q1, -⟩ := Cond.exactly_spec (hs (.exactly (.string "BeardPass" 330) "java/lang/String") (by decide +kernel))
  obtain ⟨sb, _, _, _, q2, -⟩ := Cond.exactly_spec (hs (.exactly (.string "BeardPass" 339) "java/lang/String") (by decide +kernel))
  refine ⟨sa, sb, vx_Zqof (hts (.laysStatic "java/lang/Throwable" "UNASSIGNED_STACK" "[Ljava/lang/StackTraceElement;") (ztm5 137 (by decide +kernel))) (hts (.initialized "java/lang/Throwable") (ztm1 23 (by decide +kernel))) (hs (.isRef (.static "java/lang/Throwable" "UNASSIGNED_STACK" "[Ljava/lang/StackTraceElement;")) (by decide +kernel)) (fun a h => Nat.not_le.mpr h), vx_Zqof (hts (.laysStatic "java/lang/Throwable" "SUPPRESSED_SENTINEL" "Ljava/util/List;") (ztm5 139 (by decide +kernel))) (hts (.initialized "java/lang/Throwable") (ztm1 23 (by decide +kernel))) (hs (.isRef (.static "java/lang/Throwable" "SUPPRESSED_SENTINEL" "Ljava/util/List;")) (by decide +kernel)) (fun a h => Nat.not_le.mpr h), vk_R.of (hts (.stringRef RX11 330 "no such frontier") (ztm5 149 (by decide +kernel))) q1, vk_R.of (hts (.stringRef RX11 339 "no such rest") (ztm5 184 (by decide +kernel))) q2⟩
set_option maxHeartbeats 4000000 in
set_option maxRecDepth 100000 in
theorem law_29 {p : Program} {l : Launch} {e : Env} {s : State} {m : MethodId} {below : List Frame} {meth : Method} {c : Code} {b : Nat} {xs : Nat → Int32} (hst : l.stackTraces = false) (C0 : lw_At p s m meth c b 7 xs) {D : va_G} {ct : Nat → ClassId} (hK : va_K D vwCl (zT ct) s) (hN : zN s) (h1 h2 h3 : Nat) (x y : Nat → Nat) (H : Heap) (locs : List Loc) (hw : zPD D (fun q : Nat => s.heap.size ≤ q) [(h1, .inr (10, [.ref (x 1), .ref (x 3), .ref (x 15), .ref (x 27), .ref (x 28), .ref (x 32), .ref (x 36), .ref (x 37), .ref (x 48), .ref (x 54), .ref (x 60), .ref (x 61), .ref (x 68), .int 0, .int 0])), (h2, .inr (11, [.int 0, .int 0, .ref (y 0), .int 0, .int 0, .int 0, .int 0, .long 0, .int 0, .int 0, .ref (y 1), .ref (y 2), .ref (y 3), .ref (y 4), .ref (y 5), .ref (y 6), .ref (y 7), .ref (y 8), .ref (y 9), .ref (y 10), .ref (y 11), .ref (y 12), .int 0, .int 0, .ref (y 13), .ref (y 14), .ref (y 15), .ref (y 16), .ref (y 17), .ref (y 18), .ref (y 19), .ref (y 20), .ref (y 21), .ref (y 22), .ref (y 23), .ref (y 24), .int 0, .long 0, .ref (y 25), .ref (y 26), .ref (y 27), .ref (y 28), .ref (y 29), .ref (y 30), .ref (y 31), .ref (y 32), .ref (y 33), .ref (y 34), .ref (y 35), .ref (y 36), .ref (y 37), .int 0, .int 0, .ref (y 38), .long 0, .int 0, .int 0])), (h3, .inl (ct 1, 1, .inr (.inl (fun _ => 0))))] H) (hS : va_S (fun q : Nat => s.heap.size ≤ q) s.heap H locs) (ls : Array Slot) (hl : lv_has ls 7 [(4, .int 0), (3, .ref h3), (2, .ref h2), (1, .ref h1), (0, .ref b)]) : W p l e room_1 s m #[Value.ref b] below meth c H locs 248 10101 (lw_Z below #[Value.ref b] s) (F0 m 1099 ls []) := by
  obtain ⟨hx, hb, hr, hml, hown, hts, hX, hbl, hlocks, hgv⟩ := id C0
  have hown : s.vm.findClass RL = some m.cls := hown
  have htl : ∀ w ∈ wsL_law0, w.before #[Value.ref b] s = true := fun w h => hts w (wsL_law_in0 w h)
  have hA : ∀ q : Nat, s.heap.size ≤ q → (fun q : Nat => s.heap.size ≤ q) q := fun _ h => h
  have hbA : ¬ (fun q : Nat => s.heap.size ≤ q) b := Nat.not_le.mpr hbl
  obtain ⟨sa, sb, hX9⟩ := zXof hts hgv
  have htB : ∀ w ∈ va_wsS RL 145 yL_rests zwsRL, w.before #[Value.ref b] s = true := fun w h => hts w (zBig_in w h)
  refine lv_aload_n hx hb dL_law_1099 rfl (lv_at hl 3 rfl) ?_
  refine lv_aload_n hx hb dL_law_1100 rfl (lv_at hl 4 rfl) ?_
  refine lv_iload hx hb dL_law_1101 (lv_at hl 0 rfl) ?_
  refine lv_iconst (v := 1) hx hb dL_law_1103 (by decide) ?_
  refine lv_iadd hx hb dL_law_1104 ?_
  refine ztop (.int 1) (congrArg Value.int (by decide)) ?_
  refine va_sld hx hb hX hbl hbA hS (zix (k := 1) (by decide) (by decide) (by decide)).1 dL_law_1105 ?_
  refine ztop (.int (xs 1)) (congrArg Value.int (congrArg xs (by decide))) ?_
  refine lv_aload_n hx hb dL_law_1106 rfl (lv_at hl 4 rfl) ?_
  refine lv_iload hx hb dL_law_1107 (lv_at hl 0 rfl) ?_
  refine lv_iconst (v := 2) hx hb dL_law_1109 (by decide) ?_
  refine lv_iadd hx hb dL_law_1110 ?_
  refine ztop (.int 2) (congrArg Value.int (by decide)) ?_
  refine va_sld hx hb hX hbl hbA hS (zix (k := 2) (by decide) (by decide) (by decide)).1 dL_law_1111 ?_
  refine ztop (.int (xs 2)) (congrArg Value.int (congrArg xs (by decide))) ?_
  refine lv_aload_n hx hb dL_law_1112 rfl (lv_at hl 4 rfl) ?_
  refine lv_iload hx hb dL_law_1113 (lv_at hl 0 rfl) ?_
  refine lv_iconst (v := 3) hx hb dL_law_1115 (by decide) ?_
  refine lv_iadd hx hb dL_law_1116 ?_
  refine ztop (.int 3) (congrArg Value.int (by decide)) ?_
  refine va_sld hx hb hX hbl hbA hS (zix (k := 3) (by decide) (by decide) (by decide)).1 dL_law_1117 ?_
  refine ztop (.int (xs 3)) (congrArg Value.int (congrArg xs (by decide))) ?_
  refine lv_aload_n hx hb dL_law_1118 rfl (lv_at hl 1 rfl) ?_
  refine zxcall (w0 := [(h1, .inr (10, [.ref (x 1), .ref (x 3), .ref (x 15), .ref (x 27), .ref (x 28), .ref (x 32), .ref (x 36), .ref (x 37), .ref (x 48), .ref (x 54), .ref (x 60), .ref (x 61), .ref (x 68), .int 0, .int 0])), (h3, .inl (ct 1, 1, .inr (.inl (fun _ => 0))))]) (wr := [(h2, .inr (11, [.int 0, .int 0, .ref (y 0), .int 0, .int 0, .int 0, .int 0, .long 0, .int 0, .int 0, .ref (y 1), .ref (y 2), .ref (y 3), .ref (y 4), .ref (y 5), .ref (y 6), .ref (y 7), .ref (y 8), .ref (y 9), .ref (y 10), .ref (y 11), .ref (y 12), .int 0, .int 0, .ref (y 13), .ref (y 14), .ref (y 15), .ref (y 16), .ref (y 17), .ref (y 18), .ref (y 19), .ref (y 20), .ref (y 21), .ref (y 22), .ref (y 23), .ref (y 24), .int 0, .long 0, .ref (y 25), .ref (y 26), .ref (y 27), .ref (y 28), .ref (y 29), .ref (y 30), .ref (y 31), .ref (y 32), .ref (y 33), .ref (y 34), .ref (y 35), .ref (y 36), .ref (y 37), .int 0, .int 0, .ref (y 38), .long 0, .int 0, .int 0]))]) (vx_runSX (As := [.ref h1, .int (xs 1), .int (xs 2), .int (xs 3), .ref h3]) (rest := []) ⟨hx, hb, hml, hown, htB⟩ (c_restsL l hst D ct h1 h3 x (fun _ => 0) (xs 1) (xs 2) (xs 3) sa sb H.size) (vx_cwSW (hh := [(0, 12, 15, 13)]) 5 htB gL_law_L_rests rfl rfl rfl (by decide +kernel) ⟨Nat.le_of_ble_eq_true rfl, Nat.le_of_ble_eq_true rfl⟩) (zprexS hK hw hS hA hX9 hN [0, 2] rfl rfl) rfl rfl hl.1 rfl (lv_room (Nat.le_of_ble_eq_true rfl)) dL_law_1119 ⟨Nat.le_of_ble_eq_true rfl, Nat.le_of_ble_eq_true rfl⟩) hw hS hA [0, 2] [1] rfl rfl rfl (by decide) (fun E ce q9 t H locs hp hE hw hS hce hcv hcl => hp.elim) (fun _ H locs hp hw hS => ?_)
  have hw : zPD D (fun q : Nat => s.heap.size ≤ q) [(h2, .inr (11, [.int 0, .int 0, .ref (y 0), .int 0, .int 0, .int 0, .int 0, .long 0, .int 0, .int 0, .ref (y 1), .ref (y 2), .ref (y 3), .ref (y 4), .ref (y 5), .ref (y 6), .ref (y 7), .ref (y 8), .ref (y 9), .ref (y 10), .ref (y 11), .ref (y 12), .int 0, .int 0, .ref (y 13), .ref (y 14), .ref (y 15), .ref (y 16), .ref (y 17), .ref (y 18), .ref (y 19), .ref (y 20), .ref (y 21), .ref (y 22), .ref (y 23), .ref (y 24), .int 0, .long 0, .ref (y 25), .ref (y 26), .ref (y 27), .ref (y 28), .ref (y 29), .ref (y 30), .ref (y 31), .ref (y 32), .ref (y 33), .ref (y 34), .ref (y 35), .ref (y 36), .ref (y 37), .int 0, .int 0, .ref (y 38), .long 0, .int 0, .int 0])), (h1, .inr (10, [.ref (x 1), .ref (x 3), .ref (x 15), .ref (x 27), .ref (x 28), .ref (x 32), .ref (x 36), .ref (x 37), .ref (x 48), .ref (x 54), .ref (x 60), .ref (x 61), .ref (x 68), .int 0, .int 0])), (h3, .inl (ct 1, 1, .inr (.inl (zou (fun _ => 0) (xs 1) (xs 2) (xs 3)))))] H := hw
  refine zfr 1122 [.int (zth (xs 1) (xs 2) (xs 3))] rfl rfl ?_
  refine lv_istore (lv' := [(5, .int (zth (xs 1) (xs 2) (xs 3))), (4, .int 0), (3, .ref h3), (2, .ref h2), (1, .ref h1), (0, .ref b)]) hx hb dL_law_1122 hl (by decide) rfl (fun ls hl => ?_)
  refine lv_aload_n hx hb dL_law_1124 rfl (lv_at hl 3 rfl) ?_
  refine lv_aload_n hx hb dL_law_1125 rfl (lv_at hl 5 rfl) ?_
  refine lv_iload hx hb dL_law_1126 (lv_at hl 1 rfl) ?_
  refine lv_iconst (v := 1) hx hb dL_law_1128 (by decide) ?_
  refine lv_iadd hx hb dL_law_1129 ?_
  refine ztop (.int 1) (congrArg Value.int (by decide)) ?_
  refine va_sld hx hb hX hbl hbA hS (zix (k := 1) (by decide) (by decide) (by decide)).1 dL_law_1130 ?_
  refine ztop (.int (xs 1)) (congrArg Value.int (congrArg xs (by decide))) ?_
  refine lv_aload_n hx hb dL_law_1131 rfl (lv_at hl 5 rfl) ?_
  refine lv_iload hx hb dL_law_1132 (lv_at hl 1 rfl) ?_
  refine lv_iconst (v := 2) hx hb dL_law_1134 (by decide) ?_
  refine lv_iadd hx hb dL_law_1135 ?_
  refine ztop (.int 2) (congrArg Value.int (by decide)) ?_
  refine va_sld hx hb hX hbl hbA hS (zix (k := 2) (by decide) (by decide) (by decide)).1 dL_law_1136 ?_
  refine ztop (.int (xs 2)) (congrArg Value.int (congrArg xs (by decide))) ?_
  refine lv_aload_n hx hb dL_law_1137 rfl (lv_at hl 5 rfl) ?_
  refine lv_iload hx hb dL_law_1138 (lv_at hl 1 rfl) ?_
  refine lv_iconst (v := 3) hx hb dL_law_1140 (by decide) ?_
  refine lv_iadd hx hb dL_law_1141 ?_
  refine ztop (.int 3) (congrArg Value.int (by decide)) ?_
  refine va_sld hx hb hX hbl hbA hS (zix (k := 3) (by decide) (by decide) (by decide)).1 dL_law_1142 ?_
  refine ztop (.int (xs 3)) (congrArg Value.int (congrArg xs (by decide))) ?_
  refine zcall2 (va_runV (As := [.int (xs 1), .int (xs 2), .int (xs 3)]) (rest := []) ⟨hx, hb, hml, hown, htl⟩ (r_rests l D ct h2 y (xs 1) (xs 2) (xs 3) H.size) (cwV 3 htl gL_law_X12_rests rfl rfl rfl (by decide +kernel) ⟨Nat.le_of_ble_eq_true rfl, Nat.le_of_ble_eq_true rfl⟩) (zpreV hK hw hS hA zZ.nil hN [0] rfl rfl 11 0 rfl rfl) rfl rfl hl.1 rfl (lv_room (Nat.le_of_ble_eq_true rfl)) dL_law_1143 ⟨Nat.le_of_ble_eq_true rfl, Nat.le_of_ble_eq_true rfl⟩) hw hS hA [0] [1, 2] rfl rfl rfl rfl (fun _ H locs hp1 hw hS => ?_)
  have hw : zPD D (fun q : Nat => s.heap.size ≤ q) [(h1, .inr (10, [.ref (x 1), .ref (x 3), .ref (x 15), .ref (x 27), .ref (x 28), .ref (x 32), .ref (x 36), .ref (x 37), .ref (x 48), .ref (x 54), .ref (x 60), .ref (x 61), .ref (x 68), .int 0, .int 0])), (h3, .inl (ct 1, 1, .inr (.inl (zou (fun _ => 0) (xs 1) (xs 2) (xs 3))))), (h2, .inr (11, [.int (zth (xs 1) (xs 2) (xs 3)), .int 0, .ref (y 0), .int 0, .int 0, .int 0, .int 0, .long 0, .int 0, .int 0, .ref (y 1), .ref (y 2), .ref (y 3), .ref (y 4), .ref (y 5), .ref (y 6), .ref (y 7), .ref (y 8), .ref (y 9), .ref (y 10), .ref (y 11), .ref (y 12), .int 0, .int 0, .ref (y 13), .ref (y 14), .ref (y 15), .ref (y 16), .ref (y 17), .ref (y 18), .ref (y 19), .ref (y 20), .ref (y 21), .ref (y 22), .ref (y 23), .ref (y 24), .int 0, .long 0, .ref (y 25), .ref (y 26), .ref (y 27), .ref (y 28), .ref (y 29), .ref (y 30), .ref (y 31), .ref (y 32), .ref (y 33), .ref (y 34), .ref (y 35), .ref (y 36), .ref (y 37), .int 0, .int 0, .ref (y 38), .long 0, .int 0, .int 0]))] H := hw
  refine zfr 1146 [.int (zrv (xs 1) (xs 2) (xs 3))] rfl rfl ?_
  refine lv_istore (lv' := [(6, .int (zrv (xs 1) (xs 2) (xs 3))), (5, .int (zth (xs 1) (xs 2) (xs 3))), (4, .int 0), (3, .ref h3), (2, .ref h2), (1, .ref h1), (0, .ref b)]) hx hb dL_law_1146 hl (by decide) rfl (fun ls hl => ?_)
  refine lv_aload_n hx hb dL_law_1148 rfl (lv_at hl 4 rfl) ?_
  refine zcall2 (va_runV (As := []) (rest := []) ⟨hx, hb, hml, hown, htl⟩ (r_thrown2 l D ct h2 y (zth (xs 1) (xs 2) (xs 3)) 0 0 0 0 0 0 0 0 0 0 0 0 0 0 0 0 0 H.size) (cwV 0 htl gL_law_X12_thrown rfl rfl rfl (by decide +kernel) ⟨Nat.le_of_ble_eq_true rfl, Nat.le_of_ble_eq_true rfl⟩) (zpreV hK hw hS hA zZ.nil hN [2] rfl rfl 11 2 rfl rfl) rfl rfl hl.1 rfl (lv_room (Nat.le_of_ble_eq_true rfl)) dL_law_1149 ⟨Nat.le_of_ble_eq_true rfl, Nat.le_of_ble_eq_true rfl⟩) hw hS hA [2] [0, 1] rfl rfl rfl rfl (fun _ H locs hp2 hw hS => ?_)
  have hw : zPD D (fun q : Nat => s.heap.size ≤ q) [(h1, .inr (10, [.ref (x 1), .ref (x 3), .ref (x 15), .ref (x 27), .ref (x 28), .ref (x 32), .ref (x 36), .ref (x 37), .ref (x 48), .ref (x 54), .ref (x 60), .ref (x 61), .ref (x 68), .int 0, .int 0])), (h3, .inl (ct 1, 1, .inr (.inl (zou (fun _ => 0) (xs 1) (xs 2) (xs 3))))), (h2, .inr (11, [.int (zth (xs 1) (xs 2) (xs 3)), .int 0, .ref (y 0), .int 0, .int 0, .int 0, .int 0, .long 0, .int 0, .int 0, .ref (y 1), .ref (y 2), .ref (y 3), .ref (y 4), .ref (y 5), .ref (y 6), .ref (y 7), .ref (y 8), .ref (y 9), .ref (y 10), .ref (y 11), .ref (y 12), .int 0, .int 0, .ref (y 13), .ref (y 14), .ref (y 15), .ref (y 16), .ref (y 17), .ref (y 18), .ref (y 19), .ref (y 20), .ref (y 21), .ref (y 22), .ref (y 23), .ref (y 24), .int 0, .long 0, .ref (y 25), .ref (y 26), .ref (y 27), .ref (y 28), .ref (y 29), .ref (y 30), .ref (y 31), .ref (y 32), .ref (y 33), .ref (y 34), .ref (y 35), .ref (y 36), .ref (y 37), .int 0, .int 0, .ref (y 38), .long 0, .int 0, .int 0]))] H := hw
  refine zfr 1152 [.int (zth (xs 1) (xs 2) (xs 3))] rfl rfl ?_
  refine lv_iload hx hb dL_law_1152 (lv_at hl 1 rfl) ?_
  refine lv_icmp_eq (tgt := 1159) hx hb dL_law_1154 (by decide) (fun _ => ?_) (fun h => absurd (rfl) h)
  refine lv_iload hx hb dL_law_1159 (lv_at hl 1 rfl) ?_
  refine lv_if_ne (tgt := 1176) hx hb dL_law_1161 (by decide) (fun c_4 => ?_) (fun c_4 => ?_)
  · refine lv_goto (tgt := 1306) hx hb dL_law_1176 (by decide) ?_
    exact law_end C0 hS ls (lv_sub hl [2, 6] rfl)
  · refine lv_aload_n hx hb dL_law_1164 rfl (lv_at hl 3 rfl) ?_
    refine lv_iconst (v := 0) hx hb dL_law_1165 (by decide) ?_
    refine zlald hx hb hK hw 1 rfl 0 (by decide) (by decide) (by decide) dL_law_1166 ?_
    refine lv_iload hx hb dL_law_1167 (lv_at hl 0 rfl) ?_
    refine lv_i2l (v := (zrv (xs 1) (xs 2) (xs 3)).toInt64) hx hb dL_law_1169 rfl ?_
    refine W.lcmp hx hb dL_law_1170 ?_
    refine ztop (.int 0) (congrArg Value.int (zlcmp0 c_4)) ?_
    refine lv_if_eq (tgt := 1176) hx hb dL_law_1171 (by decide) (fun _ => ?_) (fun h => absurd (by decide) h)
    refine lv_goto (tgt := 1306) hx hb dL_law_1176 (by decide) ?_
    exact law_end C0 hS ls (lv_sub hl [2, 6] rfl)
