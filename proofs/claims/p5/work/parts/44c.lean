set_option maxHeartbeats 4000000 in
set_option maxRecDepth 100000 in
theorem kl_29 {p : Program} {l : Launch} {e : Env} {s : State} {m : MethodId} {below : List Frame} {meth : Method} {c : Code} {b L : Nat} {xs : Nat → Int32} (hst : l.stackTraces = false) (C0 : lw_At p s m meth c b L xs) {D : va_G} {ct : Nat → ClassId} {E : Nat → Nat} (hK : va_K D vwCl (zT ct) s) (hN : zN s) (hZ : eZ E (fun q : Nat => s.heap.size ≤ q) s s.heap) (y ym : Nat → Nat) (h2 h3 t : Nat) (ht : 7 * t + 7 ≤ L) (hL : L ≤ 3584) (r : zRr) (q : zRq) (rm : zRr) (qm : zRq) (fo : Nat → Int64) (hJ : kJ r) (hM : mJ 20 rm) (hT : lR r q rm qm) (hEi : kEi E) (cells slots : Nat) (hcs : cells ≤ 600000 ∧ slots ≤ 7290000)
    (kk : kEnd p l e s m below meth c b D ct E y ym h2 h3 t cells slots) (H : Heap) (locs : List Loc) (hw : zPD D (fun q : Nat => s.heap.size ≤ q) (lW ct E y r q h2 ym rm qm h3 fo) H) (hS : va_S (fun q : Nat => s.heap.size ≤ q) s.heap H locs) (ls : Array Slot) (hl : lv_has ls 7 [(4, .int (nI (7 * t))), (3, .ref h3), (2, .ref h2), (1, .ref (y 195)), (0, .ref b)]) : W p l e room_1 s m #[Value.ref b] below meth c H locs cells slots (lw_Z below #[Value.ref b] s) (F0 m 1099 ls []) := by
  obtain ⟨hx, hb, hr, hml, hown, hts, hX, hbl, hlocks, hgv⟩ := id C0
  have hown : s.vm.findClass RL = some m.cls := hown
  have htl : ∀ w ∈ wsL_law0, w.before #[Value.ref b] s = true := fun w h => hts w (wsL_law_in0 w h)
  have hA : ∀ q : Nat, s.heap.size ≤ q → (fun q : Nat => s.heap.size ≤ q) q := fun _ h => h
  have hbA : ¬ (fun q : Nat => s.heap.size ≤ q) b := Nat.not_le.mpr hbl
  obtain ⟨sa, sb, hX9⟩ := zXof hts hgv
  have htB : ∀ w ∈ va_wsS RL 145 yL_rests zwsRL, w.before #[Value.ref b] s = true := fun w h => hts w (zBig_in w h)
  refine lv_aload_n hx hb dL_law_1099 rfl (lv_at hl 3 rfl) ?_
  refine lv_aload_n hx hb dL_law_1100 rfl (lv_at hl 4 rfl) ?_
  refine lv_iload hx hb dL_law_1101 (lv_at hl 0 rfl) ?_
  refine lv_iconst (v := 1) hx hb dL_law_1103 (by decide) ?_
  refine lv_iadd hx hb dL_law_1104 (ztop (.int (nI (7 * t + 1))) (congrArg Value.int (nI_add _ 1)) ?_)
  refine va_sld hx hb hX hbl hbA hS (zix (k := 7 * t + 1) rfl (by omega) (by omega)).1 dL_law_1105 (ztop (.int (xs (7 * t + 1))) (congrArg Value.int (congrArg xs (nI_clamp (by omega)))) ?_)
  refine lv_aload_n hx hb dL_law_1106 rfl (lv_at hl 4 rfl) ?_
  refine lv_iload hx hb dL_law_1107 (lv_at hl 0 rfl) ?_
  refine lv_iconst (v := 2) hx hb dL_law_1109 (by decide) ?_
  refine lv_iadd hx hb dL_law_1110 (ztop (.int (nI (7 * t + 2))) (congrArg Value.int (nI_add _ 2)) ?_)
  refine va_sld hx hb hX hbl hbA hS (zix (k := 7 * t + 2) rfl (by omega) (by omega)).1 dL_law_1111 (ztop (.int (xs (7 * t + 2))) (congrArg Value.int (congrArg xs (nI_clamp (by omega)))) ?_)
  refine lv_aload_n hx hb dL_law_1112 rfl (lv_at hl 4 rfl) ?_
  refine lv_iload hx hb dL_law_1113 (lv_at hl 0 rfl) ?_
  refine lv_iconst (v := 3) hx hb dL_law_1115 (by decide) ?_
  refine lv_iadd hx hb dL_law_1116 (ztop (.int (nI (7 * t + 3))) (congrArg Value.int (nI_add _ 3)) ?_)
  refine va_sld hx hb hX hbl hbA hS (zix (k := 7 * t + 3) rfl (by omega) (by omega)).1 dL_law_1117 (ztop (.int (xs (7 * t + 3))) (congrArg Value.int (congrArg xs (nI_clamp (by omega)))) ?_)
  refine lv_aload_n hx hb dL_law_1118 rfl (lv_at hl 1 rfl) ?_
  refine lxcell (x0 := (y 195, .inr (10, [.ref (y 196), .ref (y 171), .ref (y 183), .ref (y 198), .ref (y 138), .ref (y 142), .ref (y 199), .ref (y 200), .ref (y 6), .ref (y 12), .ref (y 162), .ref (y 205), .ref (y 206), .int (r 195 13), .int (r 195 14)]))) (x := (h3, .inl (ct 1, 1, .inr (.inl fo)))) (c' := (h3, .inl (ct 1, 1, .inr (.inl (zou fo (xs (7 * t + 1)) (xs (7 * t + 2)) (xs (7 * t + 3))))))) 195 247 l195 l247 (by decide) rfl (vx_runSX (As := [.ref (y 195), .int (xs (7 * t + 1)), .int (xs (7 * t + 2)), .int (xs (7 * t + 3)), .ref h3]) (rest := []) ⟨hx, hb, hml, hown, htB⟩ (c_restsL l hst D ct (y 195) h3 [.ref (y 196), .ref (y 171), .ref (y 183), .ref (y 198), .ref (y 138), .ref (y 142), .ref (y 199), .ref (y 200), .ref (y 6), .ref (y 12), .ref (y 162), .ref (y 205), .ref (y 206), .int (r 195 13), .int (r 195 14)] fo (xs (7 * t + 1)) (xs (7 * t + 2)) (xs (7 * t + 3)) sa sb H.size) (vx_cwSW (hh := [(0, 12, 15, 13)]) 5 htB gL_law_L_rests rfl rfl rfl (by decide +kernel) ⟨Nat.le_of_ble_eq_true rfl, Nat.le_of_ble_eq_true rfl⟩) (zprexS hK hw hS hA hX9 hN [195, 247] rfl (ktwo l195 l247)) rfl rfl hl.1 rfl (lv_room (Nat.le_of_ble_eq_true rfl)) dL_law_1119 (lroom1 hcs)) hw hS hA 1122 rfl (fun _ h => h) (fun _ H locs _ hw hS => ?_)
  rw [ls247] at hw
  refine zfr 1122 [.int (zth (xs (7 * t + 1)) (xs (7 * t + 2)) (xs (7 * t + 3)))] rfl rfl ?_
  refine lv_istore (lv' := [(5, .int (zth (xs (7 * t + 1)) (xs (7 * t + 2)) (xs (7 * t + 3)))), (4, .int (nI (7 * t))), (3, .ref h3), (2, .ref h2), (1, .ref (y 195)), (0, .ref b)]) hx hb dL_law_1122 hl (by decide) rfl (fun ls hl => ?_)
  refine lv_aload_n hx hb dL_law_1124 rfl (lv_at hl 3 rfl) ?_
  refine lv_aload_n hx hb dL_law_1125 rfl (lv_at hl 5 rfl) ?_
  refine lv_iload hx hb dL_law_1126 (lv_at hl 1 rfl) ?_
  refine lv_iconst (v := 1) hx hb dL_law_1128 (by decide) ?_
  refine lv_iadd hx hb dL_law_1129 (ztop (.int (nI (7 * t + 1))) (congrArg Value.int (nI_add _ 1)) ?_)
  refine va_sld hx hb hX hbl hbA hS (zix (k := 7 * t + 1) rfl (by omega) (by omega)).1 dL_law_1130 (ztop (.int (xs (7 * t + 1))) (congrArg Value.int (congrArg xs (nI_clamp (by omega)))) ?_)
  refine lv_aload_n hx hb dL_law_1131 rfl (lv_at hl 5 rfl) ?_
  refine lv_iload hx hb dL_law_1132 (lv_at hl 1 rfl) ?_
  refine lv_iconst (v := 2) hx hb dL_law_1134 (by decide) ?_
  refine lv_iadd hx hb dL_law_1135 (ztop (.int (nI (7 * t + 2))) (congrArg Value.int (nI_add _ 2)) ?_)
  refine va_sld hx hb hX hbl hbA hS (zix (k := 7 * t + 2) rfl (by omega) (by omega)).1 dL_law_1136 (ztop (.int (xs (7 * t + 2))) (congrArg Value.int (congrArg xs (nI_clamp (by omega)))) ?_)
  refine lv_aload_n hx hb dL_law_1137 rfl (lv_at hl 5 rfl) ?_
  refine lv_iload hx hb dL_law_1138 (lv_at hl 1 rfl) ?_
  refine lv_iconst (v := 3) hx hb dL_law_1140 (by decide) ?_
  refine lv_iadd hx hb dL_law_1141 (ztop (.int (nI (7 * t + 3))) (congrArg Value.int (nI_add _ 3)) ?_)
  refine va_sld hx hb hX hbl hbA hS (zix (k := 7 * t + 3) rfl (by omega) (by omega)).1 dL_law_1142 (ztop (.int (xs (7 * t + 3))) (congrArg Value.int (congrArg xs (nI_clamp (by omega)))) ?_)
  refine lcell (x := (h2, .inr (11, mF ym rm qm))) (c' := (h2, .inr (11, (mF ym rm qm).set 0 (.int (zth (xs (7 * t + 1)) (xs (7 * t + 2)) (xs (7 * t + 3))))))) 207 l207 rfl (va_runV (As := [.int (xs (7 * t + 1)), .int (xs (7 * t + 2)), .int (xs (7 * t + 3))]) (rest := []) ⟨hx, hb, hml, hown, htl⟩ (r_rests l D ct h2 ym (rm 100 0) (rm 101 0) (rm 103 0) (rm 104 0) (rm 105 0) (rm 106 0) (qm 107 0) (rm 108 0) (rm 109 0) (rm 122 0) (rm 123 0) (rm 136 0) (qm 137 0) (rm 151 0) (rm 152 0) (qm 154 0) (rm 155 0) (rm 156 0) (xs (7 * t + 1)) (xs (7 * t + 2)) (xs (7 * t + 3)) H.size) (cwV 3 htl (klVm (zr54 16 rfl) (zr54 17 rfl) (zr54 18 rfl) (zr1 5 rfl) mL_X12_rests) rfl rfl rfl (by decide +kernel) ⟨Nat.le_of_ble_eq_true rfl, Nat.le_of_ble_eq_true rfl⟩) (zpreV hK hw hS hA zZ.nil hN [207] rfl (kone l207) 11 207 rfl l207) rfl rfl hl.1 rfl (lv_room (Nat.le_of_ble_eq_true rfl)) dL_law_1143 (lroom2 hcs)) hw hS hA 1146 rfl (fun _ H locs _ hw hS => ?_)
  rw [ls207] at hw
  have hM1 : mJ 20 (zset rm 100 (fun _ => zth (xs (7 * t + 1)) (xs (7 * t + 2)) (xs (7 * t + 3)))) := hM.setc rfl (fun _ => zI.top _)
  refine zfr 1146 [.int (zrv (xs (7 * t + 1)) (xs (7 * t + 2)) (xs (7 * t + 3)))] rfl rfl ?_
  refine lv_istore (lv' := [(6, .int (zrv (xs (7 * t + 1)) (xs (7 * t + 2)) (xs (7 * t + 3)))), (5, .int (zth (xs (7 * t + 1)) (xs (7 * t + 2)) (xs (7 * t + 3)))), (4, .int (nI (7 * t))), (3, .ref h3), (2, .ref h2), (1, .ref (y 195)), (0, .ref b)]) hx hb dL_law_1146 hl (by decide) rfl (fun ls hl => ?_)
  refine lv_goto (tgt := 1278) hx hb dL_law_1148 (by decide) ?_
  exact kk r q (zset rm 100 (fun _ => zth (xs (7 * t + 1)) (xs (7 * t + 2)) (xs (7 * t + 3)))) qm (zou fo (xs (7 * t + 1)) (xs (7 * t + 2)) (xs (7 * t + 3))) (cells + 1) (slots + 6) hJ hM1 hT (Nat.le_refl _) (Nat.le_refl _) H locs ls hw hS (lv_sub hl [2, 3, 4, 5, 6] rfl)
