set_option maxHeartbeats 4000000 in
set_option maxRecDepth 100000 in
theorem kl_16 {p : Program} {l : Launch} {e : Env} {s : State} {m : MethodId} {below : List Frame} {meth : Method} {c : Code} {b L : Nat} {xs : Nat → Int32} (C0 : lw_At p s m meth c b L xs) {D : va_G} {ct : Nat → ClassId} {E : Nat → Nat} (hK : va_K D vwCl (zT ct) s) (hN : zN s) (hZ : eZ E (fun q : Nat => s.heap.size ≤ q) s s.heap) (y ym : Nat → Nat) (h2 h3 t : Nat) (ht : 7 * t + 7 ≤ L) (hL : L ≤ 3584) (r : zRr) (q : zRq) (rm : zRr) (qm : zRq) (fo : Nat → Int64) (hJ : kJ r) (hM : mJ 20 rm) (hT : lR r q rm qm) (hEi : kEi E) (cells slots : Nat) (hcs : cells ≤ 600000 ∧ slots ≤ 7290000)
    (kk : kEnd p l e s m below meth c b D ct E y ym h2 h3 t cells slots) (H : Heap) (locs : List Loc) (hw : zPD D (fun q : Nat => s.heap.size ≤ q) (lW ct E y r q h2 ym rm qm h3 fo) H) (hS : va_S (fun q : Nat => s.heap.size ≤ q) s.heap H locs) (ls : Array Slot) (hl : lv_has ls 7 [(4, .int (nI (7 * t))), (3, .ref h3), (2, .ref h2), (1, .ref (y 195)), (0, .ref b)]) : W p l e room_1 s m #[Value.ref b] below meth c H locs cells slots (lw_Z below #[Value.ref b] s) (F0 m 746 ls []) := by
  obtain ⟨hx, hb, hr, hml, hown, hts, hX, hbl, hlocks, hgv⟩ := id C0
  have hown : s.vm.findClass RL = some m.cls := hown
  have htl : ∀ w ∈ wsL_law0, w.before #[Value.ref b] s = true := fun w h => hts w (wsL_law_in0 w h)
  have hA : ∀ q : Nat, s.heap.size ≤ q → (fun q : Nat => s.heap.size ≤ q) q := fun _ h => h
  have hbA : ¬ (fun q : Nat => s.heap.size ≤ q) b := Nat.not_le.mpr hbl
  refine lv_aload_n hx hb dL_law_746 rfl (lv_at hl 3 rfl) ?_
  refine lv_aload_n hx hb dL_law_747 rfl (lv_at hl 4 rfl) ?_
  refine lv_iload hx hb dL_law_748 (lv_at hl 0 rfl) ?_
  refine lv_iconst (v := 1) hx hb dL_law_750 (by decide) ?_
  refine lv_iadd hx hb dL_law_751 (ztop (.int (nI (7 * t + 1))) (congrArg Value.int (nI_add _ 1)) ?_)
  refine va_sld hx hb hX hbl hbA hS (zix (k := 7 * t + 1) rfl (by omega) (by omega)).1 dL_law_752 (ztop (.int (xs (7 * t + 1))) (congrArg Value.int (congrArg xs (nI_clamp (by omega)))) ?_)
  refine lv_aload_n hx hb dL_law_753 rfl (lv_at hl 4 rfl) ?_
  refine lv_iload hx hb dL_law_754 (lv_at hl 0 rfl) ?_
  refine lv_iconst (v := 2) hx hb dL_law_756 (by decide) ?_
  refine lv_iadd hx hb dL_law_757 (ztop (.int (nI (7 * t + 2))) (congrArg Value.int (nI_add _ 2)) ?_)
  refine va_sld hx hb hX hbl hbA hS (zix (k := 7 * t + 2) rfl (by omega) (by omega)).1 dL_law_758 (ztop (.int (xs (7 * t + 2))) (congrArg Value.int (congrArg xs (nI_clamp (by omega)))) ?_)
  refine lcallX (va_runV (As := [.int (xs (7 * t + 1)), .int (xs (7 * t + 2))]) (rest := []) ⟨hx, hb, hml, hown, htl⟩ (kc_guide l D ct E y (xs (7 * t + 1)) (xs (7 * t + 2)) r q hJ hEi H.size) (cwV 2 htl (klV (zr47 3 rfl) (zr47 4 rfl) (zr47 5 rfl) (zr1 2 rfl) (zr47 6 rfl)) rfl rfl rfl (by decide +kernel) ⟨Nat.le_of_ble_eq_true rfl, Nat.le_of_ble_eq_true rfl⟩) (lpreC hK hw hS hA hZ hN kWlen (by decide +kernel) 10 195 rfl kg195) rfl rfl hl.1 rfl (lv_room (Nat.le_of_ble_eq_true rfl)) dL_law_759 (lroom hcs)) hw hS hA 762 rfl (fun u1 H locs pu1 hw hS => ?_)
  have kh2 := pu1.2.1
  have hw : zPD D (fun q : Nat => s.heap.size ≤ q) (lW ct E y u1.2 q h2 ym rm qm h3 fo) H := hw
  refine zfr 762 [.int u1.1] rfl rfl ?_
  refine lv_pop hx hb dL_law_762 rfl ?_
  refine lv_aload_n hx hb dL_law_763 rfl (lv_at hl 2 rfl) ?_
  refine lv_aload_n hx hb dL_law_764 rfl (lv_at hl 4 rfl) ?_
  refine lv_iload hx hb dL_law_765 (lv_at hl 0 rfl) ?_
  refine lv_iconst (v := 1) hx hb dL_law_767 (by decide) ?_
  refine lv_iadd hx hb dL_law_768 (ztop (.int (nI (7 * t + 1))) (congrArg Value.int (nI_add _ 1)) ?_)
  refine va_sld hx hb hX hbl hbA hS (zix (k := 7 * t + 1) rfl (by omega) (by omega)).1 dL_law_769 (ztop (.int (xs (7 * t + 1))) (congrArg Value.int (congrArg xs (nI_clamp (by omega)))) ?_)
  refine lv_aload_n hx hb dL_law_770 rfl (lv_at hl 4 rfl) ?_
  refine lv_iload hx hb dL_law_771 (lv_at hl 0 rfl) ?_
  refine lv_iconst (v := 2) hx hb dL_law_773 (by decide) ?_
  refine lv_iadd hx hb dL_law_774 (ztop (.int (nI (7 * t + 2))) (congrArg Value.int (nI_add _ 2)) ?_)
  refine va_sld hx hb hX hbl hbA hS (zix (k := 7 * t + 2) rfl (by omega) (by omega)).1 dL_law_775 (ztop (.int (xs (7 * t + 2))) (congrArg Value.int (congrArg xs (nI_clamp (by omega)))) ?_)
  have hw := lrot hw
  refine lcallM (va_runV (As := [.int (xs (7 * t + 1)), .int (xs (7 * t + 2))]) (rest := []) ⟨hx, hb, hml, hown, htl⟩ (mc_guide l D ct h2 ym 20 (xs (7 * t + 1)) (xs (7 * t + 2)) rm qm hM H.size) (cwV 2 htl (klV (zr47 12 rfl) (zr47 13 rfl) (zr47 14 rfl) (zr1 5 rfl) (zr47 15 rfl)) rfl rfl rfl (by decide +kernel) ⟨Nat.le_of_ble_eq_true rfl, Nat.le_of_ble_eq_true rfl⟩) (lpreZ hK hw hS hA hN mWl (by decide +kernel) 11 0 rfl mWo) rfl rfl hl.1 rfl (lv_room (Nat.le_of_ble_eq_true rfl)) dL_law_776 (lroom hcs)) hw hS hA 779 rfl (fun u4 H locs pu4 hw hS => ?_)
  have kh5 := pu4.2.1
  have ht7 : lR u1.2 q u4.2 qm := (lR.q hT pu1.2.2.1 pu4.2.2.1 rfl rfl rfl)
  have hw : zPD D (fun q : Nat => s.heap.size ≤ q) (lW ct E y u1.2 q h2 ym u4.2 qm h3 fo) H := hw
  refine zfr 779 [.int u4.1] rfl rfl ?_
  refine lv_pop hx hb dL_law_779 rfl ?_
  refine lv_goto (tgt := 1278) hx hb dL_law_780 (by decide) ?_
  exact kk u1.2 q u4.2 qm fo cells slots kh2 kh5 ht7 (Nat.le_succ _) (Nat.le_add_right _ _) H locs ls hw hS (lv_sub hl [0, 1, 2, 3, 4] rfl)

set_option maxHeartbeats 4000000 in
set_option maxRecDepth 100000 in
theorem kl_17 {p : Program} {l : Launch} {e : Env} {s : State} {m : MethodId} {below : List Frame} {meth : Method} {c : Code} {b L : Nat} {xs : Nat → Int32} (C0 : lw_At p s m meth c b L xs) {D : va_G} {ct : Nat → ClassId} {E : Nat → Nat} (hK : va_K D vwCl (zT ct) s) (hN : zN s) (hZ : eZ E (fun q : Nat => s.heap.size ≤ q) s s.heap) (y ym : Nat → Nat) (h2 h3 t : Nat) (ht : 7 * t + 7 ≤ L) (hL : L ≤ 3584) (r : zRr) (q : zRq) (rm : zRr) (qm : zRq) (fo : Nat → Int64) (hJ : kJ r) (hM : mJ 20 rm) (hT : lR r q rm qm) (hEi : kEi E) (cells slots : Nat) (hcs : cells ≤ 600000 ∧ slots ≤ 7290000)
    (kk : kEnd p l e s m below meth c b D ct E y ym h2 h3 t cells slots) (H : Heap) (locs : List Loc) (hw : zPD D (fun q : Nat => s.heap.size ≤ q) (lW ct E y r q h2 ym rm qm h3 fo) H) (hS : va_S (fun q : Nat => s.heap.size ≤ q) s.heap H locs) (ls : Array Slot) (hl : lv_has ls 7 [(4, .int (nI (7 * t))), (3, .ref h3), (2, .ref h2), (1, .ref (y 195)), (0, .ref b)]) : W p l e room_1 s m #[Value.ref b] below meth c H locs cells slots (lw_Z below #[Value.ref b] s) (F0 m 783 ls []) := by
  obtain ⟨hx, hb, hr, hml, hown, hts, hX, hbl, hlocks, hgv⟩ := id C0
  have hown : s.vm.findClass RL = some m.cls := hown
  have htl : ∀ w ∈ wsL_law0, w.before #[Value.ref b] s = true := fun w h => hts w (wsL_law_in0 w h)
  have hA : ∀ q : Nat, s.heap.size ≤ q → (fun q : Nat => s.heap.size ≤ q) q := fun _ h => h
  have hbA : ¬ (fun q : Nat => s.heap.size ≤ q) b := Nat.not_le.mpr hbl
  refine lv_aload_n hx hb dL_law_783 rfl (lv_at hl 3 rfl) ?_
  refine lv_aload_n hx hb dL_law_784 rfl (lv_at hl 4 rfl) ?_
  refine lv_iload hx hb dL_law_785 (lv_at hl 0 rfl) ?_
  refine lv_iconst (v := 1) hx hb dL_law_787 (by decide) ?_
  refine lv_iadd hx hb dL_law_788 (ztop (.int (nI (7 * t + 1))) (congrArg Value.int (nI_add _ 1)) ?_)
  refine va_sld hx hb hX hbl hbA hS (zix (k := 7 * t + 1) rfl (by omega) (by omega)).1 dL_law_789 (ztop (.int (xs (7 * t + 1))) (congrArg Value.int (congrArg xs (nI_clamp (by omega)))) ?_)
  refine lcallX (va_runV (As := [.int (xs (7 * t + 1))]) (rest := []) ⟨hx, hb, hml, hown, htl⟩ (kc_cheapest l D ct E y (xs (7 * t + 1)) r q hJ hEi H.size) (cwV 1 htl (klV (zr47 16 rfl) (zr47 17 rfl) (zr47 18 rfl) (zr1 2 rfl) (zr47 19 rfl)) rfl rfl rfl (by decide +kernel) ⟨Nat.le_of_ble_eq_true rfl, Nat.le_of_ble_eq_true rfl⟩) (lpreC hK hw hS hA hZ hN kWlen (by decide +kernel) 10 195 rfl kg195) rfl rfl hl.1 rfl (lv_room (Nat.le_of_ble_eq_true rfl)) dL_law_790 (lroom hcs)) hw hS hA 793 rfl (fun u1 H locs pu1 hw hS => ?_)
  have kh2 := pu1.2.1
  have hw : zPD D (fun q : Nat => s.heap.size ≤ q) (lW ct E y u1.2 q h2 ym rm qm h3 fo) H := hw
  refine zfr 793 [.int u1.1] rfl rfl ?_
  refine lv_pop hx hb dL_law_793 rfl ?_
  refine lv_aload_n hx hb dL_law_794 rfl (lv_at hl 2 rfl) ?_
  refine lv_aload_n hx hb dL_law_795 rfl (lv_at hl 4 rfl) ?_
  refine lv_iload hx hb dL_law_796 (lv_at hl 0 rfl) ?_
  refine lv_iconst (v := 1) hx hb dL_law_798 (by decide) ?_
  refine lv_iadd hx hb dL_law_799 (ztop (.int (nI (7 * t + 1))) (congrArg Value.int (nI_add _ 1)) ?_)
  refine va_sld hx hb hX hbl hbA hS (zix (k := 7 * t + 1) rfl (by omega) (by omega)).1 dL_law_800 (ztop (.int (xs (7 * t + 1))) (congrArg Value.int (congrArg xs (nI_clamp (by omega)))) ?_)
  have hw := lrot hw
  refine lcallM (va_runV (As := [.int (xs (7 * t + 1))]) (rest := []) ⟨hx, hb, hml, hown, htl⟩ (mc_cheapest l D ct h2 ym (xs (7 * t + 1)) rm qm hM H.size) (cwV 1 htl (klV (zr47 20 rfl) (zr47 21 rfl) (zr47 22 rfl) (zr1 5 rfl) (zr47 23 rfl)) rfl rfl rfl (by decide +kernel) ⟨Nat.le_of_ble_eq_true rfl, Nat.le_of_ble_eq_true rfl⟩) (lpreZ hK hw hS hA hN mWl (by decide +kernel) 11 0 rfl mWo) rfl rfl hl.1 rfl (lv_room (Nat.le_of_ble_eq_true rfl)) dL_law_801 (lroom hcs)) hw hS hA 804 rfl (fun u4 H locs pu4 hw hS => ?_)
  have kh5 := pu4.2.1
  have ht7 : lR u1.2 q u4.2 qm := (lR.s hT pu1.2.2.1 pu4.2.2.1 (lR.sC pu4.2.2.2.1 hM hT) rfl rfl)
  have hw : zPD D (fun q : Nat => s.heap.size ≤ q) (lW ct E y u1.2 q h2 ym u4.2 qm h3 fo) H := hw
  refine zfr 804 [.int u4.1] rfl rfl ?_
  refine lv_pop hx hb dL_law_804 rfl ?_
  refine lv_goto (tgt := 1278) hx hb dL_law_805 (by decide) ?_
  exact kk u1.2 q u4.2 qm fo cells slots kh2 kh5 ht7 (Nat.le_succ _) (Nat.le_add_right _ _) H locs ls hw hS (lv_sub hl [0, 1, 2, 3, 4] rfl)

set_option maxHeartbeats 4000000 in
set_option maxRecDepth 100000 in
theorem kl_18 {p : Program} {l : Launch} {e : Env} {s : State} {m : MethodId} {below : List Frame} {meth : Method} {c : Code} {b L : Nat} {xs : Nat → Int32} (C0 : lw_At p s m meth c b L xs) {D : va_G} {ct : Nat → ClassId} {E : Nat → Nat} (hK : va_K D vwCl (zT ct) s) (hN : zN s) (hZ : eZ E (fun q : Nat => s.heap.size ≤ q) s s.heap) (y ym : Nat → Nat) (h2 h3 t : Nat) (ht : 7 * t + 7 ≤ L) (hL : L ≤ 3584) (r : zRr) (q : zRq) (rm : zRr) (qm : zRq) (fo : Nat → Int64) (hJ : kJ r) (hM : mJ 20 rm) (hT : lR r q rm qm) (hEi : kEi E) (cells slots : Nat) (hcs : cells ≤ 600000 ∧ slots ≤ 7290000)
    (kk : kEnd p l e s m below meth c b D ct E y ym h2 h3 t cells slots) (H : Heap) (locs : List Loc) (hw : zPD D (fun q : Nat => s.heap.size ≤ q) (lW ct E y r q h2 ym rm qm h3 fo) H) (hS : va_S (fun q : Nat => s.heap.size ≤ q) s.heap H locs) (ls : Array Slot) (hl : lv_has ls 7 [(4, .int (nI (7 * t))), (3, .ref h3), (2, .ref h2), (1, .ref (y 195)), (0, .ref b)]) : W p l e room_1 s m #[Value.ref b] below meth c H locs cells slots (lw_Z below #[Value.ref b] s) (F0 m 808 ls []) := by
  obtain ⟨hx, hb, hr, hml, hown, hts, hX, hbl, hlocks, hgv⟩ := id C0
  have hown : s.vm.findClass RL = some m.cls := hown
  have htl : ∀ w ∈ wsL_law0, w.before #[Value.ref b] s = true := fun w h => hts w (wsL_law_in0 w h)
  have hA : ∀ q : Nat, s.heap.size ≤ q → (fun q : Nat => s.heap.size ≤ q) q := fun _ h => h
  have hbA : ¬ (fun q : Nat => s.heap.size ≤ q) b := Nat.not_le.mpr hbl
  refine lv_aload_n hx hb dL_law_808 rfl (lv_at hl 3 rfl) ?_
  refine lv_aload_n hx hb dL_law_809 rfl (lv_at hl 4 rfl) ?_
  refine lv_iload hx hb dL_law_810 (lv_at hl 0 rfl) ?_
  refine lv_iconst (v := 1) hx hb dL_law_812 (by decide) ?_
  refine lv_iadd hx hb dL_law_813 (ztop (.int (nI (7 * t + 1))) (congrArg Value.int (nI_add _ 1)) ?_)
  refine va_sld hx hb hX hbl hbA hS (zix (k := 7 * t + 1) rfl (by omega) (by omega)).1 dL_law_814 (ztop (.int (xs (7 * t + 1))) (congrArg Value.int (congrArg xs (nI_clamp (by omega)))) ?_)
  refine lv_aload_n hx hb dL_law_815 rfl (lv_at hl 4 rfl) ?_
  refine lv_iload hx hb dL_law_816 (lv_at hl 0 rfl) ?_
  refine lv_iconst (v := 2) hx hb dL_law_818 (by decide) ?_
  refine lv_iadd hx hb dL_law_819 (ztop (.int (nI (7 * t + 2))) (congrArg Value.int (nI_add _ 2)) ?_)
  refine va_sld hx hb hX hbl hbA hS (zix (k := 7 * t + 2) rfl (by omega) (by omega)).1 dL_law_820 (ztop (.int (xs (7 * t + 2))) (congrArg Value.int (congrArg xs (nI_clamp (by omega)))) ?_)
  refine lcallX (va_runV (As := [.int (xs (7 * t + 1)), .int (xs (7 * t + 2))]) (rest := []) ⟨hx, hb, hml, hown, htl⟩ (kc_debt l D ct E y (xs (7 * t + 1)) (xs (7 * t + 2)) r q hJ hEi H.size) (cwV 2 htl (klV (zr48 0 rfl) (zr48 1 rfl) (zr48 2 rfl) (zr1 2 rfl) (zr48 3 rfl)) rfl rfl rfl (by decide +kernel) ⟨Nat.le_of_ble_eq_true rfl, Nat.le_of_ble_eq_true rfl⟩) (lpreC hK hw hS hA hZ hN kWlen (by decide +kernel) 10 195 rfl kg195) rfl rfl hl.1 rfl (lv_room (Nat.le_of_ble_eq_true rfl)) dL_law_821 (lroom hcs)) hw hS hA 824 rfl (fun u1 H locs pu1 hw hS => ?_)
  have kh2 := pu1.2.1
  have hw : zPD D (fun q : Nat => s.heap.size ≤ q) (lW ct E y u1.2 q h2 ym rm qm h3 fo) H := hw
  refine zfr 824 [.int u1.1] rfl rfl ?_
  refine lv_pop hx hb dL_law_824 rfl ?_
  refine lv_aload_n hx hb dL_law_825 rfl (lv_at hl 2 rfl) ?_
  refine lv_aload_n hx hb dL_law_826 rfl (lv_at hl 4 rfl) ?_
  refine lv_iload hx hb dL_law_827 (lv_at hl 0 rfl) ?_
  refine lv_iconst (v := 1) hx hb dL_law_829 (by decide) ?_
  refine lv_iadd hx hb dL_law_830 (ztop (.int (nI (7 * t + 1))) (congrArg Value.int (nI_add _ 1)) ?_)
  refine va_sld hx hb hX hbl hbA hS (zix (k := 7 * t + 1) rfl (by omega) (by omega)).1 dL_law_831 (ztop (.int (xs (7 * t + 1))) (congrArg Value.int (congrArg xs (nI_clamp (by omega)))) ?_)
  refine lv_aload_n hx hb dL_law_832 rfl (lv_at hl 4 rfl) ?_
  refine lv_iload hx hb dL_law_833 (lv_at hl 0 rfl) ?_
  refine lv_iconst (v := 2) hx hb dL_law_835 (by decide) ?_
  refine lv_iadd hx hb dL_law_836 (ztop (.int (nI (7 * t + 2))) (congrArg Value.int (nI_add _ 2)) ?_)
  refine va_sld hx hb hX hbl hbA hS (zix (k := 7 * t + 2) rfl (by omega) (by omega)).1 dL_law_837 (ztop (.int (xs (7 * t + 2))) (congrArg Value.int (congrArg xs (nI_clamp (by omega)))) ?_)
  have hw := lrot hw
  refine lcallM (va_runV (As := [.int (xs (7 * t + 1)), .int (xs (7 * t + 2))]) (rest := []) ⟨hx, hb, hml, hown, htl⟩ (mc_debt l D ct h2 ym (xs (7 * t + 1)) (xs (7 * t + 2)) rm qm hM H.size) (cwV 2 htl (klV (zr48 6 rfl) (zr48 7 rfl) (zr48 8 rfl) (zr1 5 rfl) (zr48 9 rfl)) rfl rfl rfl (by decide +kernel) ⟨Nat.le_of_ble_eq_true rfl, Nat.le_of_ble_eq_true rfl⟩) (lpreZ hK hw hS hA hN mWl (by decide +kernel) 11 0 rfl mWo) rfl rfl hl.1 rfl (lv_room (Nat.le_of_ble_eq_true rfl)) dL_law_838 (lroom hcs)) hw hS hA 841 rfl (fun u4 H locs pu4 hw hS => ?_)
  have kh5 := pu4.2.1
  have ht7 : lR u1.2 q u4.2 qm := (lR.s hT pu1.2.2.1 pu4.2.2.1 (lR.sD pu4.2.2.2.1 hM hT) rfl rfl)
  have hw : zPD D (fun q : Nat => s.heap.size ≤ q) (lW ct E y u1.2 q h2 ym u4.2 qm h3 fo) H := hw
  refine zfr 841 [.int u4.1] rfl rfl ?_
  refine lv_pop hx hb dL_law_841 rfl ?_
  refine lv_goto (tgt := 1278) hx hb dL_law_842 (by decide) ?_
  exact kk u1.2 q u4.2 qm fo cells slots kh2 kh5 ht7 (Nat.le_succ _) (Nat.le_add_right _ _) H locs ls hw hS (lv_sub hl [0, 1, 2, 3, 4] rfl)

set_option maxHeartbeats 4000000 in
set_option maxRecDepth 100000 in
theorem kl_19 {p : Program} {l : Launch} {e : Env} {s : State} {m : MethodId} {below : List Frame} {meth : Method} {c : Code} {b L : Nat} {xs : Nat → Int32} (C0 : lw_At p s m meth c b L xs) {D : va_G} {ct : Nat → ClassId} {E : Nat → Nat} (hK : va_K D vwCl (zT ct) s) (hN : zN s) (hZ : eZ E (fun q : Nat => s.heap.size ≤ q) s s.heap) (y ym : Nat → Nat) (h2 h3 t : Nat) (ht : 7 * t + 7 ≤ L) (hL : L ≤ 3584) (r : zRr) (q : zRq) (rm : zRr) (qm : zRq) (fo : Nat → Int64) (hJ : kJ r) (hM : mJ 20 rm) (hT : lR r q rm qm) (hEi : kEi E) (cells slots : Nat) (hcs : cells ≤ 600000 ∧ slots ≤ 7290000)
    (kk : kEnd p l e s m below meth c b D ct E y ym h2 h3 t cells slots) (H : Heap) (locs : List Loc) (hw : zPD D (fun q : Nat => s.heap.size ≤ q) (lW ct E y r q h2 ym rm qm h3 fo) H) (hS : va_S (fun q : Nat => s.heap.size ≤ q) s.heap H locs) (ls : Array Slot) (hl : lv_has ls 7 [(4, .int (nI (7 * t))), (3, .ref h3), (2, .ref h2), (1, .ref (y 195)), (0, .ref b)]) : W p l e room_1 s m #[Value.ref b] below meth c H locs cells slots (lw_Z below #[Value.ref b] s) (F0 m 845 ls []) := by
  obtain ⟨hx, hb, hr, hml, hown, hts, hX, hbl, hlocks, hgv⟩ := id C0
  have hown : s.vm.findClass RL = some m.cls := hown
  have htl : ∀ w ∈ wsL_law0, w.before #[Value.ref b] s = true := fun w h => hts w (wsL_law_in0 w h)
  have hA : ∀ q : Nat, s.heap.size ≤ q → (fun q : Nat => s.heap.size ≤ q) q := fun _ h => h
  have hbA : ¬ (fun q : Nat => s.heap.size ≤ q) b := Nat.not_le.mpr hbl
  refine lv_aload_n hx hb dL_law_845 rfl (lv_at hl 3 rfl) ?_
  refine lcallX (va_runV (As := []) (rest := []) ⟨hx, hb, hml, hown, htl⟩ (kc_trapped l D ct E y r q hJ hEi H.size) (cwV 0 htl (klV (zr48 10 rfl) (zr48 11 rfl) (zr48 12 rfl) (zr1 2 rfl) (zr48 13 rfl)) rfl rfl rfl (by decide +kernel) ⟨Nat.le_of_ble_eq_true rfl, Nat.le_of_ble_eq_true rfl⟩) (lpreC hK hw hS hA hZ hN kWlen (by decide +kernel) 10 195 rfl kg195) rfl rfl hl.1 rfl (lv_room (Nat.le_of_ble_eq_true rfl)) dL_law_846 (lroom hcs)) hw hS hA 849 rfl (fun u1 H locs pu1 hw hS => ?_)
  have kh2 := pu1.2.1
  have hw : zPD D (fun q : Nat => s.heap.size ≤ q) (lW ct E y u1.2 q h2 ym rm qm h3 fo) H := hw
  refine zfr 849 [.int u1.1] rfl rfl ?_
  refine lv_pop hx hb dL_law_849 rfl ?_
  refine lv_aload_n hx hb dL_law_850 rfl (lv_at hl 2 rfl) ?_
  have hw := lrot hw
  refine lcallM (va_runV (As := []) (rest := []) ⟨hx, hb, hml, hown, htl⟩ (mc_trapped l D ct h2 ym 20 rm qm hM H.size) (cwV 0 htl (klV (zr48 15 rfl) (zr48 16 rfl) (zr48 17 rfl) (zr1 5 rfl) (zr48 18 rfl)) rfl rfl rfl (by decide +kernel) ⟨Nat.le_of_ble_eq_true rfl, Nat.le_of_ble_eq_true rfl⟩) (lpreZ hK hw hS hA hN mWl (by decide +kernel) 11 0 rfl mWo) rfl rfl hl.1 rfl (lv_room (Nat.le_of_ble_eq_true rfl)) dL_law_851 (lroom hcs)) hw hS hA 854 rfl (fun u4 H locs pu4 hw hS => ?_)
  have kh5 := pu4.2.1
  have ht7 : lR u1.2 q u4.2 qm := (lR.q hT pu1.2.2.1 pu4.2.2.1 rfl rfl rfl)
  have hw : zPD D (fun q : Nat => s.heap.size ≤ q) (lW ct E y u1.2 q h2 ym u4.2 qm h3 fo) H := hw
  refine zfr 854 [.int u4.1] rfl rfl ?_
  refine lv_pop hx hb dL_law_854 rfl ?_
  refine lv_goto (tgt := 1278) hx hb dL_law_855 (by decide) ?_
  exact kk u1.2 q u4.2 qm fo cells slots kh2 kh5 ht7 (Nat.le_succ _) (Nat.le_add_right _ _) H locs ls hw hS (lv_sub hl [0, 1, 2, 3, 4] rfl)

set_option maxHeartbeats 4000000 in
set_option maxRecDepth 100000 in
theorem kl_20 {p : Program} {l : Launch} {e : Env} {s : State} {m : MethodId} {below : List Frame} {meth : Method} {c : Code} {b L : Nat} {xs : Nat → Int32} (C0 : lw_At p s m meth c b L xs) {D : va_G} {ct : Nat → ClassId} {E : Nat → Nat} (hK : va_K D vwCl (zT ct) s) (hN : zN s) (hZ : eZ E (fun q : Nat => s.heap.size ≤ q) s s.heap) (y ym : Nat → Nat) (h2 h3 t : Nat) (ht : 7 * t + 7 ≤ L) (hL : L ≤ 3584) (r : zRr) (q : zRq) (rm : zRr) (qm : zRq) (fo : Nat → Int64) (hJ : kJ r) (hM : mJ 20 rm) (hT : lR r q rm qm) (hEi : kEi E) (cells slots : Nat) (hcs : cells ≤ 600000 ∧ slots ≤ 7290000)
    (kk : kEnd p l e s m below meth c b D ct E y ym h2 h3 t cells slots) (H : Heap) (locs : List Loc) (hw : zPD D (fun q : Nat => s.heap.size ≤ q) (lW ct E y r q h2 ym rm qm h3 fo) H) (hS : va_S (fun q : Nat => s.heap.size ≤ q) s.heap H locs) (ls : Array Slot) (hl : lv_has ls 7 [(4, .int (nI (7 * t))), (3, .ref h3), (2, .ref h2), (1, .ref (y 195)), (0, .ref b)]) : W p l e room_1 s m #[Value.ref b] below meth c H locs cells slots (lw_Z below #[Value.ref b] s) (F0 m 858 ls []) := by
  obtain ⟨hx, hb, hr, hml, hown, hts, hX, hbl, hlocks, hgv⟩ := id C0
  have hown : s.vm.findClass RL = some m.cls := hown
  have htl : ∀ w ∈ wsL_law0, w.before #[Value.ref b] s = true := fun w h => hts w (wsL_law_in0 w h)
  have hA : ∀ q : Nat, s.heap.size ≤ q → (fun q : Nat => s.heap.size ≤ q) q := fun _ h => h
  have hbA : ¬ (fun q : Nat => s.heap.size ≤ q) b := Nat.not_le.mpr hbl
  refine lv_aload_n hx hb dL_law_858 rfl (lv_at hl 3 rfl) ?_
  refine lv_aload_n hx hb dL_law_859 rfl (lv_at hl 4 rfl) ?_
  refine lv_iload hx hb dL_law_860 (lv_at hl 0 rfl) ?_
  refine lv_iconst (v := 1) hx hb dL_law_862 (by decide) ?_
  refine lv_iadd hx hb dL_law_863 (ztop (.int (nI (7 * t + 1))) (congrArg Value.int (nI_add _ 1)) ?_)
  refine va_sld hx hb hX hbl hbA hS (zix (k := 7 * t + 1) rfl (by omega) (by omega)).1 dL_law_864 (ztop (.int (xs (7 * t + 1))) (congrArg Value.int (congrArg xs (nI_clamp (by omega)))) ?_)
  refine lcallX (va_runV (As := [.int (xs (7 * t + 1))]) (rest := []) ⟨hx, hb, hml, hown, htl⟩ (kc_shaven l D ct E y (xs (7 * t + 1)) r q hJ hEi H.size) (cwV 1 htl (klV (zr48 19 rfl) (zr48 20 rfl) (zr48 21 rfl) (zr1 2 rfl) (zr48 22 rfl)) rfl rfl rfl (by decide +kernel) ⟨Nat.le_of_ble_eq_true rfl, Nat.le_of_ble_eq_true rfl⟩) (lpreC hK hw hS hA hZ hN kWlen (by decide +kernel) 10 195 rfl kg195) rfl rfl hl.1 rfl (lv_room (Nat.le_of_ble_eq_true rfl)) dL_law_865 (lroom hcs)) hw hS hA 868 rfl (fun u1 H locs pu1 hw hS => ?_)
  have kh2 := pu1.2.1
  have hw : zPD D (fun q : Nat => s.heap.size ≤ q) (lW ct E y u1.2 q h2 ym rm qm h3 fo) H := hw
  refine zfr 868 [.int u1.1] rfl rfl ?_
  refine lv_pop hx hb dL_law_868 rfl ?_
  refine lv_aload_n hx hb dL_law_869 rfl (lv_at hl 2 rfl) ?_
  refine lv_aload_n hx hb dL_law_870 rfl (lv_at hl 4 rfl) ?_
  refine lv_iload hx hb dL_law_871 (lv_at hl 0 rfl) ?_
  refine lv_iconst (v := 1) hx hb dL_law_873 (by decide) ?_
  refine lv_iadd hx hb dL_law_874 (ztop (.int (nI (7 * t + 1))) (congrArg Value.int (nI_add _ 1)) ?_)
  refine va_sld hx hb hX hbl hbA hS (zix (k := 7 * t + 1) rfl (by omega) (by omega)).1 dL_law_875 (ztop (.int (xs (7 * t + 1))) (congrArg Value.int (congrArg xs (nI_clamp (by omega)))) ?_)
  have hw := lrot hw
  refine lcallM (va_runV (As := [.int (xs (7 * t + 1))]) (rest := []) ⟨hx, hb, hml, hown, htl⟩ (mc_shaven l D ct h2 ym (xs (7 * t + 1)) rm qm hM H.size) (cwV 1 htl (klV (zr48 23 rfl) (zr49 0 rfl) (zr49 1 rfl) (zr1 5 rfl) (zr49 2 rfl)) rfl rfl rfl (by decide +kernel) ⟨Nat.le_of_ble_eq_true rfl, Nat.le_of_ble_eq_true rfl⟩) (lpreZ hK hw hS hA hN mWl (by decide +kernel) 11 0 rfl mWo) rfl rfl hl.1 rfl (lv_room (Nat.le_of_ble_eq_true rfl)) dL_law_876 (lroom hcs)) hw hS hA 879 rfl (fun u4 H locs pu4 hw hS => ?_)
  have kh5 := pu4.2.1
  have ht7 : lR u1.2 q u4.2 qm := (lR.s hT pu1.2.2.1 pu4.2.2.1 (by rw [show u4 = _ from pu4.2.2.2.1]; exact rs_shaven) rfl rfl)
  have hw : zPD D (fun q : Nat => s.heap.size ≤ q) (lW ct E y u1.2 q h2 ym u4.2 qm h3 fo) H := hw
  refine zfr 879 [.int u4.1] rfl rfl ?_
  refine lv_pop hx hb dL_law_879 rfl ?_
  refine lv_goto (tgt := 1278) hx hb dL_law_880 (by decide) ?_
  exact kk u1.2 q u4.2 qm fo cells slots kh2 kh5 ht7 (Nat.le_succ _) (Nat.le_add_right _ _) H locs ls hw hS (lv_sub hl [0, 1, 2, 3, 4] rfl)

set_option maxHeartbeats 4000000 in
set_option maxRecDepth 100000 in
theorem kl_21 {p : Program} {l : Launch} {e : Env} {s : State} {m : MethodId} {below : List Frame} {meth : Method} {c : Code} {b L : Nat} {xs : Nat → Int32} (C0 : lw_At p s m meth c b L xs) {D : va_G} {ct : Nat → ClassId} {E : Nat → Nat} (hK : va_K D vwCl (zT ct) s) (hN : zN s) (hZ : eZ E (fun q : Nat => s.heap.size ≤ q) s s.heap) (y ym : Nat → Nat) (h2 h3 t : Nat) (ht : 7 * t + 7 ≤ L) (hL : L ≤ 3584) (r : zRr) (q : zRq) (rm : zRr) (qm : zRq) (fo : Nat → Int64) (hJ : kJ r) (hM : mJ 20 rm) (hT : lR r q rm qm) (hEi : kEi E) (cells slots : Nat) (hcs : cells ≤ 600000 ∧ slots ≤ 7290000)
    (kk : kEnd p l e s m below meth c b D ct E y ym h2 h3 t cells slots) (H : Heap) (locs : List Loc) (hw : zPD D (fun q : Nat => s.heap.size ≤ q) (lW ct E y r q h2 ym rm qm h3 fo) H) (hS : va_S (fun q : Nat => s.heap.size ≤ q) s.heap H locs) (ls : Array Slot) (hl : lv_has ls 7 [(4, .int (nI (7 * t))), (3, .ref h3), (2, .ref h2), (1, .ref (y 195)), (0, .ref b)]) : W p l e room_1 s m #[Value.ref b] below meth c H locs cells slots (lw_Z below #[Value.ref b] s) (F0 m 883 ls []) := by
  obtain ⟨hx, hb, hr, hml, hown, hts, hX, hbl, hlocks, hgv⟩ := id C0
  have hown : s.vm.findClass RL = some m.cls := hown
  have htl : ∀ w ∈ wsL_law0, w.before #[Value.ref b] s = true := fun w h => hts w (wsL_law_in0 w h)
  have hA : ∀ q : Nat, s.heap.size ≤ q → (fun q : Nat => s.heap.size ≤ q) q := fun _ h => h
  have hbA : ¬ (fun q : Nat => s.heap.size ≤ q) b := Nat.not_le.mpr hbl
  refine lv_aload_n hx hb dL_law_883 rfl (lv_at hl 3 rfl) ?_
  refine lv_aload_n hx hb dL_law_884 rfl (lv_at hl 4 rfl) ?_
  refine lv_iload hx hb dL_law_885 (lv_at hl 0 rfl) ?_
  refine lv_iconst (v := 1) hx hb dL_law_887 (by decide) ?_
  refine lv_iadd hx hb dL_law_888 (ztop (.int (nI (7 * t + 1))) (congrArg Value.int (nI_add _ 1)) ?_)
  refine va_sld hx hb hX hbl hbA hS (zix (k := 7 * t + 1) rfl (by omega) (by omega)).1 dL_law_889 (ztop (.int (xs (7 * t + 1))) (congrArg Value.int (congrArg xs (nI_clamp (by omega)))) ?_)
  refine lcallX (va_runV (As := [.int (xs (7 * t + 1))]) (rest := []) ⟨hx, hb, hml, hown, htl⟩ (kc_meeting l D ct E y (xs (7 * t + 1)) r q hJ hEi H.size) (cwV 1 htl (klV (zr49 3 rfl) (zr49 4 rfl) (zr49 5 rfl) (zr1 2 rfl) (zr49 6 rfl)) rfl rfl rfl (by decide +kernel) ⟨Nat.le_of_ble_eq_true rfl, Nat.le_of_ble_eq_true rfl⟩) (lpreC hK hw hS hA hZ hN kWlen (by decide +kernel) 10 195 rfl kg195) rfl rfl hl.1 rfl (lv_room (Nat.le_of_ble_eq_true rfl)) dL_law_890 (lroom hcs)) hw hS hA 893 rfl (fun u1 H locs pu1 hw hS => ?_)
  have kh2 := pu1.2.1
  have hw : zPD D (fun q : Nat => s.heap.size ≤ q) (lW ct E y u1.2 q h2 ym rm qm h3 fo) H := hw
  refine zfr 893 [.int u1.1] rfl rfl ?_
  refine lv_pop hx hb dL_law_893 rfl ?_
  refine lv_aload_n hx hb dL_law_894 rfl (lv_at hl 2 rfl) ?_
  refine lv_aload_n hx hb dL_law_895 rfl (lv_at hl 4 rfl) ?_
  refine lv_iload hx hb dL_law_896 (lv_at hl 0 rfl) ?_
  refine lv_iconst (v := 1) hx hb dL_law_898 (by decide) ?_
  refine lv_iadd hx hb dL_law_899 (ztop (.int (nI (7 * t + 1))) (congrArg Value.int (nI_add _ 1)) ?_)
  refine va_sld hx hb hX hbl hbA hS (zix (k := 7 * t + 1) rfl (by omega) (by omega)).1 dL_law_900 (ztop (.int (xs (7 * t + 1))) (congrArg Value.int (congrArg xs (nI_clamp (by omega)))) ?_)
  have hw := lrot hw
  refine lcallM (va_runV (As := [.int (xs (7 * t + 1))]) (rest := []) ⟨hx, hb, hml, hown, htl⟩ (mc_meeting l D ct h2 ym (xs (7 * t + 1)) rm qm hM H.size) (cwV 1 htl (klV (zr49 15 rfl) (zr49 16 rfl) (zr49 17 rfl) (zr1 5 rfl) (zr49 18 rfl)) rfl rfl rfl (by decide +kernel) ⟨Nat.le_of_ble_eq_true rfl, Nat.le_of_ble_eq_true rfl⟩) (lpreZ hK hw hS hA hN mWl (by decide +kernel) 11 0 rfl mWo) rfl rfl hl.1 rfl (lv_room (Nat.le_of_ble_eq_true rfl)) dL_law_901 (lroom hcs)) hw hS hA 904 rfl (fun u4 H locs pu4 hw hS => ?_)
  have kh5 := pu4.2.1
  have ht7 : lR u1.2 q u4.2 qm := (lR.s hT pu1.2.2.1 pu4.2.2.1 (by rw [show u4 = _ from pu4.2.2.2.1]; exact rs_meeting) rfl rfl)
  have hw : zPD D (fun q : Nat => s.heap.size ≤ q) (lW ct E y u1.2 q h2 ym u4.2 qm h3 fo) H := hw
  refine zfr 904 [.int u4.1] rfl rfl ?_
  refine lv_pop hx hb dL_law_904 rfl ?_
  refine lv_goto (tgt := 1278) hx hb dL_law_905 (by decide) ?_
  exact kk u1.2 q u4.2 qm fo cells slots kh2 kh5 ht7 (Nat.le_succ _) (Nat.le_add_right _ _) H locs ls hw hS (lv_sub hl [0, 1, 2, 3, 4] rfl)

set_option maxHeartbeats 4000000 in
set_option maxRecDepth 100000 in
theorem kl_22 {p : Program} {l : Launch} {e : Env} {s : State} {m : MethodId} {below : List Frame} {meth : Method} {c : Code} {b L : Nat} {xs : Nat → Int32} (C0 : lw_At p s m meth c b L xs) {D : va_G} {ct : Nat → ClassId} {E : Nat → Nat} (hK : va_K D vwCl (zT ct) s) (hN : zN s) (hZ : eZ E (fun q : Nat => s.heap.size ≤ q) s s.heap) (y ym : Nat → Nat) (h2 h3 t : Nat) (ht : 7 * t + 7 ≤ L) (hL : L ≤ 3584) (r : zRr) (q : zRq) (rm : zRr) (qm : zRq) (fo : Nat → Int64) (hJ : kJ r) (hM : mJ 20 rm) (hT : lR r q rm qm) (hEi : kEi E) (cells slots : Nat) (hcs : cells ≤ 600000 ∧ slots ≤ 7290000)
    (kk : kEnd p l e s m below meth c b D ct E y ym h2 h3 t cells slots) (H : Heap) (locs : List Loc) (hw : zPD D (fun q : Nat => s.heap.size ≤ q) (lW ct E y r q h2 ym rm qm h3 fo) H) (hS : va_S (fun q : Nat => s.heap.size ≤ q) s.heap H locs) (ls : Array Slot) (hl : lv_has ls 7 [(4, .int (nI (7 * t))), (3, .ref h3), (2, .ref h2), (1, .ref (y 195)), (0, .ref b)]) : W p l e room_1 s m #[Value.ref b] below meth c H locs cells slots (lw_Z below #[Value.ref b] s) (F0 m 908 ls []) := by
  obtain ⟨hx, hb, hr, hml, hown, hts, hX, hbl, hlocks, hgv⟩ := id C0
  have hown : s.vm.findClass RL = some m.cls := hown
  have htl : ∀ w ∈ wsL_law0, w.before #[Value.ref b] s = true := fun w h => hts w (wsL_law_in0 w h)
  have hA : ∀ q : Nat, s.heap.size ≤ q → (fun q : Nat => s.heap.size ≤ q) q := fun _ h => h
  have hbA : ¬ (fun q : Nat => s.heap.size ≤ q) b := Nat.not_le.mpr hbl
  refine lv_aload_n hx hb dL_law_908 rfl (lv_at hl 3 rfl) ?_
  refine lv_aload_n hx hb dL_law_909 rfl (lv_at hl 4 rfl) ?_
  refine lv_iload hx hb dL_law_910 (lv_at hl 0 rfl) ?_
  refine lv_iconst (v := 1) hx hb dL_law_912 (by decide) ?_
  refine lv_iadd hx hb dL_law_913 (ztop (.int (nI (7 * t + 1))) (congrArg Value.int (nI_add _ 1)) ?_)
  refine va_sld hx hb hX hbl hbA hS (zix (k := 7 * t + 1) rfl (by omega) (by omega)).1 dL_law_914 (ztop (.int (xs (7 * t + 1))) (congrArg Value.int (congrArg xs (nI_clamp (by omega)))) ?_)
  refine lv_aload_n hx hb dL_law_915 rfl (lv_at hl 4 rfl) ?_
  refine lv_iload hx hb dL_law_916 (lv_at hl 0 rfl) ?_
  refine lv_iconst (v := 2) hx hb dL_law_918 (by decide) ?_
  refine lv_iadd hx hb dL_law_919 (ztop (.int (nI (7 * t + 2))) (congrArg Value.int (nI_add _ 2)) ?_)
  refine va_sld hx hb hX hbl hbA hS (zix (k := 7 * t + 2) rfl (by omega) (by omega)).1 dL_law_920 (ztop (.int (xs (7 * t + 2))) (congrArg Value.int (congrArg xs (nI_clamp (by omega)))) ?_)
  refine lcallX (va_runV (As := [.int (xs (7 * t + 1)), .int (xs (7 * t + 2))]) (rest := []) ⟨hx, hb, hml, hown, htl⟩ (kc_speakers l D ct E y (xs (7 * t + 1)) (xs (7 * t + 2)) r q hJ hEi H.size) (cwV 2 htl (klV (zr49 23 rfl) (zr50 0 rfl) (zr50 1 rfl) (zr1 2 rfl) (zr50 2 rfl)) rfl rfl rfl (by decide +kernel) ⟨Nat.le_of_ble_eq_true rfl, Nat.le_of_ble_eq_true rfl⟩) (lpreC hK hw hS hA hZ hN kWlen (by decide +kernel) 10 195 rfl kg195) rfl rfl hl.1 rfl (lv_room (Nat.le_of_ble_eq_true rfl)) dL_law_921 (lroom hcs)) hw hS hA 924 rfl (fun u1 H locs pu1 hw hS => ?_)
  have kh2 := pu1.2.1
  have hw : zPD D (fun q : Nat => s.heap.size ≤ q) (lW ct E y u1.2 q h2 ym rm qm h3 fo) H := hw
  refine zfr 924 [.int u1.1] rfl rfl ?_
  refine lv_pop hx hb dL_law_924 rfl ?_
  refine lv_aload_n hx hb dL_law_925 rfl (lv_at hl 2 rfl) ?_
  refine lv_aload_n hx hb dL_law_926 rfl (lv_at hl 4 rfl) ?_
  refine lv_iload hx hb dL_law_927 (lv_at hl 0 rfl) ?_
  refine lv_iconst (v := 1) hx hb dL_law_929 (by decide) ?_
  refine lv_iadd hx hb dL_law_930 (ztop (.int (nI (7 * t + 1))) (congrArg Value.int (nI_add _ 1)) ?_)
  refine va_sld hx hb hX hbl hbA hS (zix (k := 7 * t + 1) rfl (by omega) (by omega)).1 dL_law_931 (ztop (.int (xs (7 * t + 1))) (congrArg Value.int (congrArg xs (nI_clamp (by omega)))) ?_)
  refine lv_aload_n hx hb dL_law_932 rfl (lv_at hl 4 rfl) ?_
  refine lv_iload hx hb dL_law_933 (lv_at hl 0 rfl) ?_
  refine lv_iconst (v := 2) hx hb dL_law_935 (by decide) ?_
  refine lv_iadd hx hb dL_law_936 (ztop (.int (nI (7 * t + 2))) (congrArg Value.int (nI_add _ 2)) ?_)
  refine va_sld hx hb hX hbl hbA hS (zix (k := 7 * t + 2) rfl (by omega) (by omega)).1 dL_law_937 (ztop (.int (xs (7 * t + 2))) (congrArg Value.int (congrArg xs (nI_clamp (by omega)))) ?_)
  have hw := lrot hw
  refine lcallM (va_runV (As := [.int (xs (7 * t + 1)), .int (xs (7 * t + 2))]) (rest := []) ⟨hx, hb, hml, hown, htl⟩ (mc_speakers l D ct h2 ym 20 (xs (7 * t + 1)) (xs (7 * t + 2)) rm qm hM H.size) (cwV 2 htl (klV (zr50 4 rfl) (zr50 5 rfl) (zr50 6 rfl) (zr1 5 rfl) (zr50 7 rfl)) rfl rfl rfl (by decide +kernel) ⟨Nat.le_of_ble_eq_true rfl, Nat.le_of_ble_eq_true rfl⟩) (lpreZ hK hw hS hA hN mWl (by decide +kernel) 11 0 rfl mWo) rfl rfl hl.1 rfl (lv_room (Nat.le_of_ble_eq_true rfl)) dL_law_938 (lroom hcs)) hw hS hA 941 rfl (fun u4 H locs pu4 hw hS => ?_)
  have kh5 := pu4.2.1
  have ht7 : lR u1.2 q u4.2 qm := (lR.q hT pu1.2.2.1 pu4.2.2.1 rfl rfl rfl)
  have hw : zPD D (fun q : Nat => s.heap.size ≤ q) (lW ct E y u1.2 q h2 ym u4.2 qm h3 fo) H := hw
  refine zfr 941 [.int u4.1] rfl rfl ?_
  refine lv_pop hx hb dL_law_941 rfl ?_
  refine lv_goto (tgt := 1278) hx hb dL_law_942 (by decide) ?_
  exact kk u1.2 q u4.2 qm fo cells slots kh2 kh5 ht7 (Nat.le_succ _) (Nat.le_add_right _ _) H locs ls hw hS (lv_sub hl [0, 1, 2, 3, 4] rfl)

set_option maxHeartbeats 4000000 in
set_option maxRecDepth 100000 in
theorem kl_23 {p : Program} {l : Launch} {e : Env} {s : State} {m : MethodId} {below : List Frame} {meth : Method} {c : Code} {b L : Nat} {xs : Nat → Int32} (C0 : lw_At p s m meth c b L xs) {D : va_G} {ct : Nat → ClassId} {E : Nat → Nat} (hK : va_K D vwCl (zT ct) s) (hN : zN s) (hZ : eZ E (fun q : Nat => s.heap.size ≤ q) s s.heap) (y ym : Nat → Nat) (h2 h3 t : Nat) (ht : 7 * t + 7 ≤ L) (hL : L ≤ 3584) (r : zRr) (q : zRq) (rm : zRr) (qm : zRq) (fo : Nat → Int64) (hJ : kJ r) (hM : mJ 20 rm) (hT : lR r q rm qm) (hEi : kEi E) (cells slots : Nat) (hcs : cells ≤ 600000 ∧ slots ≤ 7290000)
    (kk : kEnd p l e s m below meth c b D ct E y ym h2 h3 t cells slots) (H : Heap) (locs : List Loc) (hw : zPD D (fun q : Nat => s.heap.size ≤ q) (lW ct E y r q h2 ym rm qm h3 fo) H) (hS : va_S (fun q : Nat => s.heap.size ≤ q) s.heap H locs) (ls : Array Slot) (hl : lv_has ls 7 [(4, .int (nI (7 * t))), (3, .ref h3), (2, .ref h2), (1, .ref (y 195)), (0, .ref b)]) : W p l e room_1 s m #[Value.ref b] below meth c H locs cells slots (lw_Z below #[Value.ref b] s) (F0 m 945 ls []) := by
  obtain ⟨hx, hb, hr, hml, hown, hts, hX, hbl, hlocks, hgv⟩ := id C0
  have hown : s.vm.findClass RL = some m.cls := hown
  have htl : ∀ w ∈ wsL_law0, w.before #[Value.ref b] s = true := fun w h => hts w (wsL_law_in0 w h)
  have hA : ∀ q : Nat, s.heap.size ≤ q → (fun q : Nat => s.heap.size ≤ q) q := fun _ h => h
  have hbA : ¬ (fun q : Nat => s.heap.size ≤ q) b := Nat.not_le.mpr hbl
  refine lv_aload_n hx hb dL_law_945 rfl (lv_at hl 3 rfl) ?_
  refine lcallX (va_runV (As := []) (rest := []) ⟨hx, hb, hml, hown, htl⟩ (kc_strict l D ct E y r q hJ hEi H.size) (cwV 0 htl (klV (zr50 8 rfl) (zr50 9 rfl) (zr50 10 rfl) (zr1 2 rfl) (zr50 11 rfl)) rfl rfl rfl (by decide +kernel) ⟨Nat.le_of_ble_eq_true rfl, Nat.le_of_ble_eq_true rfl⟩) (lpreC hK hw hS hA hZ hN kWlen (by decide +kernel) 10 195 rfl kg195) rfl rfl hl.1 rfl (lv_room (Nat.le_of_ble_eq_true rfl)) dL_law_946 (lroom hcs)) hw hS hA 949 rfl (fun u1 H locs pu1 hw hS => ?_)
  have kh2 := pu1.2.1
  have hw : zPD D (fun q : Nat => s.heap.size ≤ q) (lW ct E y u1.2 q h2 ym rm qm h3 fo) H := hw
  refine zfr 949 [.int u1.1] rfl rfl ?_
  refine lv_pop hx hb dL_law_949 rfl ?_
  refine lv_aload_n hx hb dL_law_950 rfl (lv_at hl 2 rfl) ?_
  have hw := lrot hw
  refine lcallM (va_runV (As := []) (rest := []) ⟨hx, hb, hml, hown, htl⟩ (mc_strict l D ct h2 ym 20 rm qm hM H.size) (cwV 0 htl (klV (zr50 19 rfl) (zr50 20 rfl) (zr50 21 rfl) (zr1 5 rfl) (zr50 22 rfl)) rfl rfl rfl (by decide +kernel) ⟨Nat.le_of_ble_eq_true rfl, Nat.le_of_ble_eq_true rfl⟩) (lpreZ hK hw hS hA hN mWl (by decide +kernel) 11 0 rfl mWo) rfl rfl hl.1 rfl (lv_room (Nat.le_of_ble_eq_true rfl)) dL_law_951 (lroom hcs)) hw hS hA 954 rfl (fun u4 H locs pu4 hw hS => ?_)
  have kh5 := pu4.2.1
  have ht7 : lR u1.2 q u4.2 qm := (lR.q hT pu1.2.2.1 pu4.2.2.1 rfl rfl rfl)
  have hw : zPD D (fun q : Nat => s.heap.size ≤ q) (lW ct E y u1.2 q h2 ym u4.2 qm h3 fo) H := hw
  refine zfr 954 [.int u4.1] rfl rfl ?_
  refine lv_pop hx hb dL_law_954 rfl ?_
  refine lv_goto (tgt := 1278) hx hb dL_law_955 (by decide) ?_
  exact kk u1.2 q u4.2 qm fo cells slots kh2 kh5 ht7 (Nat.le_succ _) (Nat.le_add_right _ _) H locs ls hw hS (lv_sub hl [0, 1, 2, 3, 4] rfl)

set_option maxHeartbeats 4000000 in
set_option maxRecDepth 100000 in
theorem kl_24 {p : Program} {l : Launch} {e : Env} {s : State} {m : MethodId} {below : List Frame} {meth : Method} {c : Code} {b L : Nat} {xs : Nat → Int32} (C0 : lw_At p s m meth c b L xs) {D : va_G} {ct : Nat → ClassId} {E : Nat → Nat} (hK : va_K D vwCl (zT ct) s) (hN : zN s) (hZ : eZ E (fun q : Nat => s.heap.size ≤ q) s s.heap) (y ym : Nat → Nat) (h2 h3 t : Nat) (ht : 7 * t + 7 ≤ L) (hL : L ≤ 3584) (r : zRr) (q : zRq) (rm : zRr) (qm : zRq) (fo : Nat → Int64) (hJ : kJ r) (hM : mJ 20 rm) (hT : lR r q rm qm) (hEi : kEi E) (cells slots : Nat) (hcs : cells ≤ 600000 ∧ slots ≤ 7290000)
    (kk : kEnd p l e s m below meth c b D ct E y ym h2 h3 t cells slots) (H : Heap) (locs : List Loc) (hw : zPD D (fun q : Nat => s.heap.size ≤ q) (lW ct E y r q h2 ym rm qm h3 fo) H) (hS : va_S (fun q : Nat => s.heap.size ≤ q) s.heap H locs) (ls : Array Slot) (hl : lv_has ls 7 [(4, .int (nI (7 * t))), (3, .ref h3), (2, .ref h2), (1, .ref (y 195)), (0, .ref b)]) : W p l e room_1 s m #[Value.ref b] below meth c H locs cells slots (lw_Z below #[Value.ref b] s) (F0 m 958 ls []) := by
  obtain ⟨hx, hb, hr, hml, hown, hts, hX, hbl, hlocks, hgv⟩ := id C0
  have hown : s.vm.findClass RL = some m.cls := hown
  have htl : ∀ w ∈ wsL_law0, w.before #[Value.ref b] s = true := fun w h => hts w (wsL_law_in0 w h)
  have hA : ∀ q : Nat, s.heap.size ≤ q → (fun q : Nat => s.heap.size ≤ q) q := fun _ h => h
  have hbA : ¬ (fun q : Nat => s.heap.size ≤ q) b := Nat.not_le.mpr hbl
  refine lv_aload_n hx hb dL_law_958 rfl (lv_at hl 3 rfl) ?_
  refine lcallX (va_runV (As := []) (rest := []) ⟨hx, hb, hml, hown, htl⟩ (kc_alike l D ct E y r q hJ hEi H.size) (cwV 0 htl (klV (zr51 2 rfl) (zr51 3 rfl) (zr51 4 rfl) (zr1 2 rfl) (zr51 5 rfl)) rfl rfl rfl (by decide +kernel) ⟨Nat.le_of_ble_eq_true rfl, Nat.le_of_ble_eq_true rfl⟩) (lpreC hK hw hS hA hZ hN kWlen (by decide +kernel) 10 195 rfl kg195) rfl rfl hl.1 rfl (lv_room (Nat.le_of_ble_eq_true rfl)) dL_law_959 (lroom hcs)) hw hS hA 962 rfl (fun u1 H locs pu1 hw hS => ?_)
  have kh2 := pu1.2.1
  have hw : zPD D (fun q : Nat => s.heap.size ≤ q) (lW ct E y u1.2 q h2 ym rm qm h3 fo) H := hw
  refine zfr 962 [.int u1.1] rfl rfl ?_
  refine lv_pop hx hb dL_law_962 rfl ?_
  refine lv_aload_n hx hb dL_law_963 rfl (lv_at hl 2 rfl) ?_
  have hw := lrot hw
  refine lcallM (va_runV (As := []) (rest := []) ⟨hx, hb, hml, hown, htl⟩ (mc_alike l D ct h2 ym 20 rm qm hM H.size) (cwV 0 htl (klV (zr51 6 rfl) (zr51 7 rfl) (zr51 8 rfl) (zr1 5 rfl) (zr51 9 rfl)) rfl rfl rfl (by decide +kernel) ⟨Nat.le_of_ble_eq_true rfl, Nat.le_of_ble_eq_true rfl⟩) (lpreZ hK hw hS hA hN mWl (by decide +kernel) 11 0 rfl mWo) rfl rfl hl.1 rfl (lv_room (Nat.le_of_ble_eq_true rfl)) dL_law_964 (lroom hcs)) hw hS hA 967 rfl (fun u4 H locs pu4 hw hS => ?_)
  have kh5 := pu4.2.1
  have ht7 : lR u1.2 q u4.2 qm := (lR.q hT pu1.2.2.1 pu4.2.2.1 rfl rfl rfl)
  have hw : zPD D (fun q : Nat => s.heap.size ≤ q) (lW ct E y u1.2 q h2 ym u4.2 qm h3 fo) H := hw
  refine zfr 967 [.int u4.1] rfl rfl ?_
  refine lv_pop hx hb dL_law_967 rfl ?_
  refine lv_goto (tgt := 1278) hx hb dL_law_968 (by decide) ?_
  exact kk u1.2 q u4.2 qm fo cells slots kh2 kh5 ht7 (Nat.le_succ _) (Nat.le_add_right _ _) H locs ls hw hS (lv_sub hl [0, 1, 2, 3, 4] rfl)

set_option maxHeartbeats 4000000 in
set_option maxRecDepth 100000 in
theorem kl_25 {p : Program} {l : Launch} {e : Env} {s : State} {m : MethodId} {below : List Frame} {meth : Method} {c : Code} {b L : Nat} {xs : Nat → Int32} (C0 : lw_At p s m meth c b L xs) {D : va_G} {ct : Nat → ClassId} {E : Nat → Nat} (hK : va_K D vwCl (zT ct) s) (hN : zN s) (hZ : eZ E (fun q : Nat => s.heap.size ≤ q) s s.heap) (y ym : Nat → Nat) (h2 h3 t : Nat) (ht : 7 * t + 7 ≤ L) (hL : L ≤ 3584) (r : zRr) (q : zRq) (rm : zRr) (qm : zRq) (fo : Nat → Int64) (hJ : kJ r) (hM : mJ 20 rm) (hT : lR r q rm qm) (hEi : kEi E) (cells slots : Nat) (hcs : cells ≤ 600000 ∧ slots ≤ 7290000)
    (kk : kEnd p l e s m below meth c b D ct E y ym h2 h3 t cells slots) (H : Heap) (locs : List Loc) (hw : zPD D (fun q : Nat => s.heap.size ≤ q) (lW ct E y r q h2 ym rm qm h3 fo) H) (hS : va_S (fun q : Nat => s.heap.size ≤ q) s.heap H locs) (ls : Array Slot) (hl : lv_has ls 7 [(4, .int (nI (7 * t))), (3, .ref h3), (2, .ref h2), (1, .ref (y 195)), (0, .ref b)]) : W p l e room_1 s m #[Value.ref b] below meth c H locs cells slots (lw_Z below #[Value.ref b] s) (F0 m 971 ls []) := by
  obtain ⟨hx, hb, hr, hml, hown, hts, hX, hbl, hlocks, hgv⟩ := id C0
  have hown : s.vm.findClass RL = some m.cls := hown
  have htl : ∀ w ∈ wsL_law0, w.before #[Value.ref b] s = true := fun w h => hts w (wsL_law_in0 w h)
  have hA : ∀ q : Nat, s.heap.size ≤ q → (fun q : Nat => s.heap.size ≤ q) q := fun _ h => h
  have hbA : ¬ (fun q : Nat => s.heap.size ≤ q) b := Nat.not_le.mpr hbl
  refine lv_aload_n hx hb dL_law_971 rfl (lv_at hl 3 rfl) ?_
  refine lv_aload_n hx hb dL_law_972 rfl (lv_at hl 4 rfl) ?_
  refine lv_iload hx hb dL_law_973 (lv_at hl 0 rfl) ?_
  refine lv_iconst (v := 1) hx hb dL_law_975 (by decide) ?_
  refine lv_iadd hx hb dL_law_976 (ztop (.int (nI (7 * t + 1))) (congrArg Value.int (nI_add _ 1)) ?_)
  refine va_sld hx hb hX hbl hbA hS (zix (k := 7 * t + 1) rfl (by omega) (by omega)).1 dL_law_977 (ztop (.int (xs (7 * t + 1))) (congrArg Value.int (congrArg xs (nI_clamp (by omega)))) ?_)
  refine lv_aload_n hx hb dL_law_978 rfl (lv_at hl 4 rfl) ?_
  refine lv_iload hx hb dL_law_979 (lv_at hl 0 rfl) ?_
  refine lv_iconst (v := 2) hx hb dL_law_981 (by decide) ?_
  refine lv_iadd hx hb dL_law_982 (ztop (.int (nI (7 * t + 2))) (congrArg Value.int (nI_add _ 2)) ?_)
  refine va_sld hx hb hX hbl hbA hS (zix (k := 7 * t + 2) rfl (by omega) (by omega)).1 dL_law_983 (ztop (.int (xs (7 * t + 2))) (congrArg Value.int (congrArg xs (nI_clamp (by omega)))) ?_)
  refine lv_if_eq (tgt := 991) hx hb dL_law_984 (by decide) (fun c1 => ?_) (fun c1 => ?_)
  · refine lv_iconst (v := 0) hx hb dL_law_991 (by decide) ?_
    refine lcallX (va_runV (As := [.int (xs (7 * t + 1)), .int 0]) (rest := []) ⟨hx, hb, hml, hown, htl⟩ (kc_see l D ct E y (xs (7 * t + 1)) (0 : Int32) r q (zI.lit (by decide)) hJ hEi H.size) (cwV 2 htl (klV (zr51 10 rfl) (zr51 11 rfl) (zr51 12 rfl) (zr1 2 rfl) (zr51 13 rfl)) rfl rfl rfl (by decide +kernel) ⟨Nat.le_of_ble_eq_true rfl, Nat.le_of_ble_eq_true rfl⟩) (lpreC hK hw hS hA hZ hN kWlen (by decide +kernel) 10 195 rfl kg195) rfl rfl hl.1 rfl (lv_room (Nat.le_of_ble_eq_true rfl)) dL_law_992 (lroom hcs)) hw hS hA 995 rfl (fun u2 H locs pu2 hw hS => ?_)
    have kh3 := pu2.2.1
    have hw : zPD D (fun q : Nat => s.heap.size ≤ q) (lW ct E y u2.2 q h2 ym rm qm h3 fo) H := hw
    refine zfr 995 [.int u2.1] rfl rfl ?_
    refine lv_pop hx hb dL_law_995 rfl ?_
    refine lv_aload_n hx hb dL_law_996 rfl (lv_at hl 2 rfl) ?_
    refine lv_aload_n hx hb dL_law_997 rfl (lv_at hl 4 rfl) ?_
    refine lv_iload hx hb dL_law_998 (lv_at hl 0 rfl) ?_
    refine lv_iconst (v := 1) hx hb dL_law_1000 (by decide) ?_
    refine lv_iadd hx hb dL_law_1001 (ztop (.int (nI (7 * t + 1))) (congrArg Value.int (nI_add _ 1)) ?_)
    refine va_sld hx hb hX hbl hbA hS (zix (k := 7 * t + 1) rfl (by omega) (by omega)).1 dL_law_1002 (ztop (.int (xs (7 * t + 1))) (congrArg Value.int (congrArg xs (nI_clamp (by omega)))) ?_)
    refine lv_aload_n hx hb dL_law_1003 rfl (lv_at hl 4 rfl) ?_
    refine lv_iload hx hb dL_law_1004 (lv_at hl 0 rfl) ?_
    refine lv_iconst (v := 2) hx hb dL_law_1006 (by decide) ?_
    refine lv_iadd hx hb dL_law_1007 (ztop (.int (nI (7 * t + 2))) (congrArg Value.int (nI_add _ 2)) ?_)
    refine va_sld hx hb hX hbl hbA hS (zix (k := 7 * t + 2) rfl (by omega) (by omega)).1 dL_law_1008 (ztop (.int (xs (7 * t + 2))) (congrArg Value.int (congrArg xs (nI_clamp (by omega)))) ?_)
    refine lv_if_eq (tgt := 1016) hx hb dL_law_1009 (by decide) (fun _ => ?_) (fun h => absurd c1 h)
    refine lv_iconst (v := 0) hx hb dL_law_1016 (by decide) ?_
    have hw := lrot hw
    refine lcallM (va_runV (As := [.int (xs (7 * t + 1)), .int 0]) (rest := []) ⟨hx, hb, hml, hown, htl⟩ (mc_see l D ct h2 ym 20 (xs (7 * t + 1)) (0 : Int32) rm qm (zI.lit (by decide)) hM H.size) (cwV 2 htl (klV (zr52 0 rfl) (zr52 1 rfl) (zr52 2 rfl) (zr1 5 rfl) (zr52 3 rfl)) rfl rfl rfl (by decide +kernel) ⟨Nat.le_of_ble_eq_true rfl, Nat.le_of_ble_eq_true rfl⟩) (lpreZ hK hw hS hA hN mWl (by decide +kernel) 11 0 rfl mWo) rfl rfl hl.1 rfl (lv_room (Nat.le_of_ble_eq_true rfl)) dL_law_1017 (lroom hcs)) hw hS hA 1020 rfl (fun u5 H locs pu5 hw hS => ?_)
    have kh6 := pu5.2.1
    have hA9 := lR.see pu2.2.2.1 pu5.2.2.2.1 hM hT
    have ht8 : lR u2.2 q u5.2 qm := hA9.2
    have hw : zPD D (fun q : Nat => s.heap.size ≤ q) (lW ct E y u2.2 q h2 ym u5.2 qm h3 fo) H := hw
    refine zfr 1020 [.int u5.1] rfl rfl ?_
    refine lv_pop hx hb dL_law_1020 rfl ?_
    refine lv_goto (tgt := 1278) hx hb dL_law_1021 (by decide) ?_
    exact kk u2.2 q u5.2 qm fo cells slots kh3 kh6 ht8 (Nat.le_succ _) (Nat.le_add_right _ _) H locs ls hw hS (lv_sub hl [0, 1, 2, 3, 4] rfl)
  · refine lv_iconst (v := 1) hx hb dL_law_987 (by decide) ?_
    refine lv_goto (tgt := 992) hx hb dL_law_988 (by decide) ?_
    refine lcallX (va_runV (As := [.int (xs (7 * t + 1)), .int 1]) (rest := []) ⟨hx, hb, hml, hown, htl⟩ (kc_see l D ct E y (xs (7 * t + 1)) (1 : Int32) r q (zI.lit (by decide)) hJ hEi H.size) (cwV 2 htl (klV (zr51 10 rfl) (zr51 11 rfl) (zr51 12 rfl) (zr1 2 rfl) (zr51 13 rfl)) rfl rfl rfl (by decide +kernel) ⟨Nat.le_of_ble_eq_true rfl, Nat.le_of_ble_eq_true rfl⟩) (lpreC hK hw hS hA hZ hN kWlen (by decide +kernel) 10 195 rfl kg195) rfl rfl hl.1 rfl (lv_room (Nat.le_of_ble_eq_true rfl)) dL_law_992 (lroom hcs)) hw hS hA 995 rfl (fun u9 H locs pu9 hw hS => ?_)
    have kh10 := pu9.2.1
    have hw : zPD D (fun q : Nat => s.heap.size ≤ q) (lW ct E y u9.2 q h2 ym rm qm h3 fo) H := hw
    refine zfr 995 [.int u9.1] rfl rfl ?_
    refine lv_pop hx hb dL_law_995 rfl ?_
    refine lv_aload_n hx hb dL_law_996 rfl (lv_at hl 2 rfl) ?_
    refine lv_aload_n hx hb dL_law_997 rfl (lv_at hl 4 rfl) ?_
    refine lv_iload hx hb dL_law_998 (lv_at hl 0 rfl) ?_
    refine lv_iconst (v := 1) hx hb dL_law_1000 (by decide) ?_
    refine lv_iadd hx hb dL_law_1001 (ztop (.int (nI (7 * t + 1))) (congrArg Value.int (nI_add _ 1)) ?_)
    refine va_sld hx hb hX hbl hbA hS (zix (k := 7 * t + 1) rfl (by omega) (by omega)).1 dL_law_1002 (ztop (.int (xs (7 * t + 1))) (congrArg Value.int (congrArg xs (nI_clamp (by omega)))) ?_)
    refine lv_aload_n hx hb dL_law_1003 rfl (lv_at hl 4 rfl) ?_
    refine lv_iload hx hb dL_law_1004 (lv_at hl 0 rfl) ?_
    refine lv_iconst (v := 2) hx hb dL_law_1006 (by decide) ?_
    refine lv_iadd hx hb dL_law_1007 (ztop (.int (nI (7 * t + 2))) (congrArg Value.int (nI_add _ 2)) ?_)
    refine va_sld hx hb hX hbl hbA hS (zix (k := 7 * t + 2) rfl (by omega) (by omega)).1 dL_law_1008 (ztop (.int (xs (7 * t + 2))) (congrArg Value.int (congrArg xs (nI_clamp (by omega)))) ?_)
    refine lv_if_eq (tgt := 1016) hx hb dL_law_1009 (by decide) (fun h => absurd h c1) (fun _ => ?_)
    refine lv_iconst (v := 1) hx hb dL_law_1012 (by decide) ?_
    refine lv_goto (tgt := 1017) hx hb dL_law_1013 (by decide) ?_
    have hw := lrot hw
    refine lcallM (va_runV (As := [.int (xs (7 * t + 1)), .int 1]) (rest := []) ⟨hx, hb, hml, hown, htl⟩ (mc_see l D ct h2 ym 20 (xs (7 * t + 1)) (1 : Int32) rm qm (zI.lit (by decide)) hM H.size) (cwV 2 htl (klV (zr52 0 rfl) (zr52 1 rfl) (zr52 2 rfl) (zr1 5 rfl) (zr52 3 rfl)) rfl rfl rfl (by decide +kernel) ⟨Nat.le_of_ble_eq_true rfl, Nat.le_of_ble_eq_true rfl⟩) (lpreZ hK hw hS hA hN mWl (by decide +kernel) 11 0 rfl mWo) rfl rfl hl.1 rfl (lv_room (Nat.le_of_ble_eq_true rfl)) dL_law_1017 (lroom hcs)) hw hS hA 1020 rfl (fun u12 H locs pu12 hw hS => ?_)
    have kh13 := pu12.2.1
    have hA9 := lR.see pu9.2.2.1 pu12.2.2.2.1 hM hT
    have ht15 : lR u9.2 q u12.2 qm := hA9.2
    have hw : zPD D (fun q : Nat => s.heap.size ≤ q) (lW ct E y u9.2 q h2 ym u12.2 qm h3 fo) H := hw
    refine zfr 1020 [.int u12.1] rfl rfl ?_
    refine lv_pop hx hb dL_law_1020 rfl ?_
    refine lv_goto (tgt := 1278) hx hb dL_law_1021 (by decide) ?_
    exact kk u9.2 q u12.2 qm fo cells slots kh10 kh13 ht15 (Nat.le_succ _) (Nat.le_add_right _ _) H locs ls hw hS (lv_sub hl [0, 1, 2, 3, 4] rfl)

set_option maxHeartbeats 4000000 in
set_option maxRecDepth 100000 in
theorem kl_26 {p : Program} {l : Launch} {e : Env} {s : State} {m : MethodId} {below : List Frame} {meth : Method} {c : Code} {b L : Nat} {xs : Nat → Int32} (C0 : lw_At p s m meth c b L xs) {D : va_G} {ct : Nat → ClassId} {E : Nat → Nat} (hK : va_K D vwCl (zT ct) s) (hN : zN s) (hZ : eZ E (fun q : Nat => s.heap.size ≤ q) s s.heap) (y ym : Nat → Nat) (h2 h3 t : Nat) (ht : 7 * t + 7 ≤ L) (hL : L ≤ 3584) (r : zRr) (q : zRq) (rm : zRr) (qm : zRq) (fo : Nat → Int64) (hJ : kJ r) (hM : mJ 20 rm) (hT : lR r q rm qm) (hEi : kEi E) (cells slots : Nat) (hcs : cells ≤ 600000 ∧ slots ≤ 7290000)
    (kk : kEnd p l e s m below meth c b D ct E y ym h2 h3 t cells slots) (H : Heap) (locs : List Loc) (hw : zPD D (fun q : Nat => s.heap.size ≤ q) (lW ct E y r q h2 ym rm qm h3 fo) H) (hS : va_S (fun q : Nat => s.heap.size ≤ q) s.heap H locs) (ls : Array Slot) (hl : lv_has ls 7 [(4, .int (nI (7 * t))), (3, .ref h3), (2, .ref h2), (1, .ref (y 195)), (0, .ref b)]) : W p l e room_1 s m #[Value.ref b] below meth c H locs cells slots (lw_Z below #[Value.ref b] s) (F0 m 1024 ls []) := by
  obtain ⟨hx, hb, hr, hml, hown, hts, hX, hbl, hlocks, hgv⟩ := id C0
  have hown : s.vm.findClass RL = some m.cls := hown
  have htl : ∀ w ∈ wsL_law0, w.before #[Value.ref b] s = true := fun w h => hts w (wsL_law_in0 w h)
  have hA : ∀ q : Nat, s.heap.size ≤ q → (fun q : Nat => s.heap.size ≤ q) q := fun _ h => h
  have hbA : ¬ (fun q : Nat => s.heap.size ≤ q) b := Nat.not_le.mpr hbl
  refine lv_aload_n hx hb dL_law_1024 rfl (lv_at hl 3 rfl) ?_
  refine lv_aload_n hx hb dL_law_1025 rfl (lv_at hl 4 rfl) ?_
  refine lv_iload hx hb dL_law_1026 (lv_at hl 0 rfl) ?_
  refine lv_iconst (v := 1) hx hb dL_law_1028 (by decide) ?_
  refine lv_iadd hx hb dL_law_1029 (ztop (.int (nI (7 * t + 1))) (congrArg Value.int (nI_add _ 1)) ?_)
  refine va_sld hx hb hX hbl hbA hS (zix (k := 7 * t + 1) rfl (by omega) (by omega)).1 dL_law_1030 (ztop (.int (xs (7 * t + 1))) (congrArg Value.int (congrArg xs (nI_clamp (by omega)))) ?_)
  refine lcallX (va_runV (As := [.int (xs (7 * t + 1))]) (rest := []) ⟨hx, hb, hml, hown, htl⟩ (kc_lengths l D ct E y (xs (7 * t + 1)) r q hJ hEi H.size) (cwV 1 htl (klV (zr52 4 rfl) (zr52 5 rfl) (zr52 6 rfl) (zr1 2 rfl) (zr52 7 rfl)) rfl rfl rfl (by decide +kernel) ⟨Nat.le_of_ble_eq_true rfl, Nat.le_of_ble_eq_true rfl⟩) (lpreC hK hw hS hA hZ hN kWlen (by decide +kernel) 10 195 rfl kg195) rfl rfl hl.1 rfl (lv_room (Nat.le_of_ble_eq_true rfl)) dL_law_1031 (lroom hcs)) hw hS hA 1034 rfl (fun u1 H locs pu1 hw hS => ?_)
  have hw : zPD D (fun q : Nat => s.heap.size ≤ q) (lW ct E y r q h2 ym rm qm h3 fo) H := hw
  refine zfr 1034 [.int u1] rfl rfl ?_
  refine lv_pop hx hb dL_law_1034 rfl ?_
  refine lv_aload_n hx hb dL_law_1035 rfl (lv_at hl 2 rfl) ?_
  refine lv_aload_n hx hb dL_law_1036 rfl (lv_at hl 4 rfl) ?_
  refine lv_iload hx hb dL_law_1037 (lv_at hl 0 rfl) ?_
  refine lv_iconst (v := 1) hx hb dL_law_1039 (by decide) ?_
  refine lv_iadd hx hb dL_law_1040 (ztop (.int (nI (7 * t + 1))) (congrArg Value.int (nI_add _ 1)) ?_)
  refine va_sld hx hb hX hbl hbA hS (zix (k := 7 * t + 1) rfl (by omega) (by omega)).1 dL_law_1041 (ztop (.int (xs (7 * t + 1))) (congrArg Value.int (congrArg xs (nI_clamp (by omega)))) ?_)
  have hw := lrot hw
  refine lcallM (va_runV (As := [.int (xs (7 * t + 1))]) (rest := []) ⟨hx, hb, hml, hown, htl⟩ (mc_lengths l D ct h2 ym 20 (xs (7 * t + 1)) rm qm hM H.size) (cwV 1 htl (klV (zr52 16 rfl) (zr52 17 rfl) (zr52 18 rfl) (zr1 5 rfl) (zr52 19 rfl)) rfl rfl rfl (by decide +kernel) ⟨Nat.le_of_ble_eq_true rfl, Nat.le_of_ble_eq_true rfl⟩) (lpreZ hK hw hS hA hN mWl (by decide +kernel) 11 0 rfl mWo) rfl rfl hl.1 rfl (lv_room (Nat.le_of_ble_eq_true rfl)) dL_law_1042 (lroom hcs)) hw hS hA 1045 rfl (fun u2 H locs pu2 hw hS => ?_)
  have kh3 := pu2.2.1
  have ht5 : lR r q u2.2 qm := (lR.q hT zFt.refl pu2.2.2.1 rfl rfl rfl)
  have hw : zPD D (fun q : Nat => s.heap.size ≤ q) (lW ct E y r q h2 ym u2.2 qm h3 fo) H := hw
  refine zfr 1045 [.int u2.1] rfl rfl ?_
  refine lv_pop hx hb dL_law_1045 rfl ?_
  refine lv_goto (tgt := 1278) hx hb dL_law_1046 (by decide) ?_
  exact kk r q u2.2 qm fo cells slots hJ kh3 ht5 (Nat.le_succ _) (Nat.le_add_right _ _) H locs ls hw hS (lv_sub hl [0, 1, 2, 3, 4] rfl)

set_option maxHeartbeats 4000000 in
set_option maxRecDepth 100000 in
theorem kl_27 {p : Program} {l : Launch} {e : Env} {s : State} {m : MethodId} {below : List Frame} {meth : Method} {c : Code} {b L : Nat} {xs : Nat → Int32} (C0 : lw_At p s m meth c b L xs) {D : va_G} {ct : Nat → ClassId} {E : Nat → Nat} (hK : va_K D vwCl (zT ct) s) (hN : zN s) (hZ : eZ E (fun q : Nat => s.heap.size ≤ q) s s.heap) (y ym : Nat → Nat) (h2 h3 t : Nat) (ht : 7 * t + 7 ≤ L) (hL : L ≤ 3584) (r : zRr) (q : zRq) (rm : zRr) (qm : zRq) (fo : Nat → Int64) (hJ : kJ r) (hM : mJ 20 rm) (hT : lR r q rm qm) (hEi : kEi E) (cells slots : Nat) (hcs : cells ≤ 600000 ∧ slots ≤ 7290000)
    (kk : kEnd p l e s m below meth c b D ct E y ym h2 h3 t cells slots) (H : Heap) (locs : List Loc) (hw : zPD D (fun q : Nat => s.heap.size ≤ q) (lW ct E y r q h2 ym rm qm h3 fo) H) (hS : va_S (fun q : Nat => s.heap.size ≤ q) s.heap H locs) (ls : Array Slot) (hl : lv_has ls 7 [(4, .int (nI (7 * t))), (3, .ref h3), (2, .ref h2), (1, .ref (y 195)), (0, .ref b)]) : W p l e room_1 s m #[Value.ref b] below meth c H locs cells slots (lw_Z below #[Value.ref b] s) (F0 m 1049 ls []) := by
  obtain ⟨hx, hb, hr, hml, hown, hts, hX, hbl, hlocks, hgv⟩ := id C0
  have hown : s.vm.findClass RL = some m.cls := hown
  have htl : ∀ w ∈ wsL_law0, w.before #[Value.ref b] s = true := fun w h => hts w (wsL_law_in0 w h)
  have hA : ∀ q : Nat, s.heap.size ≤ q → (fun q : Nat => s.heap.size ≤ q) q := fun _ h => h
  have hbA : ¬ (fun q : Nat => s.heap.size ≤ q) b := Nat.not_le.mpr hbl
  refine lv_aload_n hx hb dL_law_1049 rfl (lv_at hl 3 rfl) ?_
  refine lcallX (va_runV (As := []) (rest := []) ⟨hx, hb, hml, hown, htl⟩ (kc_ask l D ct E y r q hJ hEi H.size) (cwV 0 htl (klV (zr53 0 rfl) (zr53 1 rfl) (zr53 2 rfl) (zr1 2 rfl) (zr53 3 rfl)) rfl rfl rfl (by decide +kernel) ⟨Nat.le_of_ble_eq_true rfl, Nat.le_of_ble_eq_true rfl⟩) (lpreC hK hw hS hA hZ hN kWlen (by decide +kernel) 10 195 rfl kg195) rfl rfl hl.1 rfl (lv_room (Nat.le_of_ble_eq_true rfl)) dL_law_1050 (lroom hcs)) hw hS hA 1053 rfl (fun u1 H locs pu1 hw hS => ?_)
  have kh2 := pu1.2.1
  have hw : zPD D (fun q : Nat => s.heap.size ≤ q) (lW ct E y u1.2 q h2 ym rm qm h3 fo) H := hw
  refine zfr 1053 [.int u1.1] rfl rfl ?_
  refine lv_pop hx hb dL_law_1053 rfl ?_
  refine lv_aload_n hx hb dL_law_1054 rfl (lv_at hl 2 rfl) ?_
  have hw := lrot hw
  refine lcallM (va_runV (As := []) (rest := []) ⟨hx, hb, hml, hown, htl⟩ (mc_ask l D ct h2 ym 20 rm qm hM H.size) (cwV 0 htl (klV (zr53 4 rfl) (zr53 5 rfl) (zr53 6 rfl) (zr1 5 rfl) (zr53 7 rfl)) rfl rfl rfl (by decide +kernel) ⟨Nat.le_of_ble_eq_true rfl, Nat.le_of_ble_eq_true rfl⟩) (lpreZ hK hw hS hA hN mWl (by decide +kernel) 11 0 rfl mWo) rfl rfl hl.1 rfl (lv_room (Nat.le_of_ble_eq_true rfl)) dL_law_1055 (lroom hcs)) hw hS hA 1058 rfl (fun u4 H locs pu4 hw hS => ?_)
  have kh5 := pu4.2.1
  have ht7 : lR u1.2 q u4.2 qm := (lR.q hT pu1.2.2.1 pu4.2.2.1 rfl rfl rfl)
  have hw : zPD D (fun q : Nat => s.heap.size ≤ q) (lW ct E y u1.2 q h2 ym u4.2 qm h3 fo) H := hw
  refine zfr 1058 [.int u4.1] rfl rfl ?_
  refine lv_pop hx hb dL_law_1058 rfl ?_
  refine lv_goto (tgt := 1278) hx hb dL_law_1059 (by decide) ?_
  exact kk u1.2 q u4.2 qm fo cells slots kh2 kh5 ht7 (Nat.le_succ _) (Nat.le_add_right _ _) H locs ls hw hS (lv_sub hl [0, 1, 2, 3, 4] rfl)

set_option maxHeartbeats 4000000 in
set_option maxRecDepth 100000 in
theorem kl_28 {p : Program} {l : Launch} {e : Env} {s : State} {m : MethodId} {below : List Frame} {meth : Method} {c : Code} {b L : Nat} {xs : Nat → Int32} (C0 : lw_At p s m meth c b L xs) {D : va_G} {ct : Nat → ClassId} {E : Nat → Nat} (hK : va_K D vwCl (zT ct) s) (hN : zN s) (hZ : eZ E (fun q : Nat => s.heap.size ≤ q) s s.heap) (y ym : Nat → Nat) (h2 h3 t : Nat) (ht : 7 * t + 7 ≤ L) (hL : L ≤ 3584) (r : zRr) (q : zRq) (rm : zRr) (qm : zRq) (fo : Nat → Int64) (hJ : kJ r) (hM : mJ 20 rm) (hT : lR r q rm qm) (hEi : kEi E) (cells slots : Nat) (hcs : cells ≤ 600000 ∧ slots ≤ 7290000)
    (kk : kEnd p l e s m below meth c b D ct E y ym h2 h3 t cells slots) (H : Heap) (locs : List Loc) (hw : zPD D (fun q : Nat => s.heap.size ≤ q) (lW ct E y r q h2 ym rm qm h3 fo) H) (hS : va_S (fun q : Nat => s.heap.size ≤ q) s.heap H locs) (ls : Array Slot) (hl : lv_has ls 7 [(4, .int (nI (7 * t))), (3, .ref h3), (2, .ref h2), (1, .ref (y 195)), (0, .ref b)]) : W p l e room_1 s m #[Value.ref b] below meth c H locs cells slots (lw_Z below #[Value.ref b] s) (F0 m 1062 ls []) := by
  obtain ⟨hx, hb, hr, hml, hown, hts, hX, hbl, hlocks, hgv⟩ := id C0
  have hown : s.vm.findClass RL = some m.cls := hown
  have htl : ∀ w ∈ wsL_law0, w.before #[Value.ref b] s = true := fun w h => hts w (wsL_law_in0 w h)
  have hA : ∀ q : Nat, s.heap.size ≤ q → (fun q : Nat => s.heap.size ≤ q) q := fun _ h => h
  have hbA : ¬ (fun q : Nat => s.heap.size ≤ q) b := Nat.not_le.mpr hbl
  refine lv_aload_n hx hb dL_law_1062 rfl (lv_at hl 3 rfl) ?_
  refine lv_aload_n hx hb dL_law_1063 rfl (lv_at hl 4 rfl) ?_
  refine lv_iload hx hb dL_law_1064 (lv_at hl 0 rfl) ?_
  refine lv_iconst (v := 1) hx hb dL_law_1066 (by decide) ?_
  refine lv_iadd hx hb dL_law_1067 (ztop (.int (nI (7 * t + 1))) (congrArg Value.int (nI_add _ 1)) ?_)
  refine va_sld hx hb hX hbl hbA hS (zix (k := 7 * t + 1) rfl (by omega) (by omega)).1 dL_law_1068 (ztop (.int (xs (7 * t + 1))) (congrArg Value.int (congrArg xs (nI_clamp (by omega)))) ?_)
  refine lv_aload_n hx hb dL_law_1069 rfl (lv_at hl 4 rfl) ?_
  refine lv_iload hx hb dL_law_1070 (lv_at hl 0 rfl) ?_
  refine lv_iconst (v := 2) hx hb dL_law_1072 (by decide) ?_
  refine lv_iadd hx hb dL_law_1073 (ztop (.int (nI (7 * t + 2))) (congrArg Value.int (nI_add _ 2)) ?_)
  refine va_sld hx hb hX hbl hbA hS (zix (k := 7 * t + 2) rfl (by omega) (by omega)).1 dL_law_1074 (ztop (.int (xs (7 * t + 2))) (congrArg Value.int (congrArg xs (nI_clamp (by omega)))) ?_)
  refine lcallX (va_runV (As := [.int (xs (7 * t + 1)), .int (xs (7 * t + 2))]) (rest := []) ⟨hx, hb, hml, hown, htl⟩ (kc_stricter l D ct E y (xs (7 * t + 1)) (xs (7 * t + 2)) r q hJ hEi H.size) (cwV 2 htl (klV (zr53 9 rfl) (zr53 10 rfl) (zr53 11 rfl) (zr1 2 rfl) (zr53 12 rfl)) rfl rfl rfl (by decide +kernel) ⟨Nat.le_of_ble_eq_true rfl, Nat.le_of_ble_eq_true rfl⟩) (lpreC hK hw hS hA hZ hN kWlen (by decide +kernel) 10 195 rfl kg195) rfl rfl hl.1 rfl (lv_room (Nat.le_of_ble_eq_true rfl)) dL_law_1075 (lroom hcs)) hw hS hA 1078 rfl (fun u1 H locs pu1 hw hS => ?_)
  have kh2 := pu1.2.1
  have hw : zPD D (fun q : Nat => s.heap.size ≤ q) (lW ct E y u1.2 q h2 ym rm qm h3 fo) H := hw
  refine zfr 1078 [.int u1.1] rfl rfl ?_
  refine lv_pop hx hb dL_law_1078 rfl ?_
  refine lv_aload_n hx hb dL_law_1079 rfl (lv_at hl 2 rfl) ?_
  refine lv_aload_n hx hb dL_law_1080 rfl (lv_at hl 4 rfl) ?_
  refine lv_iload hx hb dL_law_1081 (lv_at hl 0 rfl) ?_
  refine lv_iconst (v := 1) hx hb dL_law_1083 (by decide) ?_
  refine lv_iadd hx hb dL_law_1084 (ztop (.int (nI (7 * t + 1))) (congrArg Value.int (nI_add _ 1)) ?_)
  refine va_sld hx hb hX hbl hbA hS (zix (k := 7 * t + 1) rfl (by omega) (by omega)).1 dL_law_1085 (ztop (.int (xs (7 * t + 1))) (congrArg Value.int (congrArg xs (nI_clamp (by omega)))) ?_)
  refine lv_aload_n hx hb dL_law_1086 rfl (lv_at hl 4 rfl) ?_
  refine lv_iload hx hb dL_law_1087 (lv_at hl 0 rfl) ?_
  refine lv_iconst (v := 2) hx hb dL_law_1089 (by decide) ?_
  refine lv_iadd hx hb dL_law_1090 (ztop (.int (nI (7 * t + 2))) (congrArg Value.int (nI_add _ 2)) ?_)
  refine va_sld hx hb hX hbl hbA hS (zix (k := 7 * t + 2) rfl (by omega) (by omega)).1 dL_law_1091 (ztop (.int (xs (7 * t + 2))) (congrArg Value.int (congrArg xs (nI_clamp (by omega)))) ?_)
  have hw := lrot hw
  refine lcallM (va_runV (As := [.int (xs (7 * t + 1)), .int (xs (7 * t + 2))]) (rest := []) ⟨hx, hb, hml, hown, htl⟩ (mc_stricter l D ct h2 ym 20 (xs (7 * t + 1)) (xs (7 * t + 2)) rm qm hM H.size) (cwV 2 htl (klV (zr53 13 rfl) (zr53 14 rfl) (zr53 15 rfl) (zr1 5 rfl) (zr53 16 rfl)) rfl rfl rfl (by decide +kernel) ⟨Nat.le_of_ble_eq_true rfl, Nat.le_of_ble_eq_true rfl⟩) (lpreZ hK hw hS hA hN mWl (by decide +kernel) 11 0 rfl mWo) rfl rfl hl.1 rfl (lv_room (Nat.le_of_ble_eq_true rfl)) dL_law_1092 (lroom hcs)) hw hS hA 1095 rfl (fun u4 H locs pu4 hw hS => ?_)
  have kh5 := pu4.2.1
  have ht7 : lR u1.2 q u4.2 qm := (lR.w hT pu1.2.2.1 pu4.2.2.1 (fun i _ => congrFun (pu4.2.2.1 32 rfl) i) (lR.sT pu4.2.2.2.1 hT) rfl)
  have hw : zPD D (fun q : Nat => s.heap.size ≤ q) (lW ct E y u1.2 q h2 ym u4.2 qm h3 fo) H := hw
  refine zfr 1095 [.int u4.1] rfl rfl ?_
  refine lv_pop hx hb dL_law_1095 rfl ?_
  refine lv_goto (tgt := 1278) hx hb dL_law_1096 (by decide) ?_
  exact kk u1.2 q u4.2 qm fo cells slots kh2 kh5 ht7 (Nat.le_succ _) (Nat.le_add_right _ _) H locs ls hw hS (lv_sub hl [0, 1, 2, 3, 4] rfl)

set_option maxHeartbeats 4000000 in
set_option maxRecDepth 100000 in
theorem kl_30 {p : Program} {l : Launch} {e : Env} {s : State} {m : MethodId} {below : List Frame} {meth : Method} {c : Code} {b L : Nat} {xs : Nat → Int32} (C0 : lw_At p s m meth c b L xs) {D : va_G} {ct : Nat → ClassId} {E : Nat → Nat} (hK : va_K D vwCl (zT ct) s) (hN : zN s) (hZ : eZ E (fun q : Nat => s.heap.size ≤ q) s s.heap) (y ym : Nat → Nat) (h2 h3 t : Nat) (ht : 7 * t + 7 ≤ L) (hL : L ≤ 3584) (r : zRr) (q : zRq) (rm : zRr) (qm : zRq) (fo : Nat → Int64) (hJ : kJ r) (hM : mJ 20 rm) (hT : lR r q rm qm) (hEi : kEi E) (cells slots : Nat) (hcs : cells ≤ 600000 ∧ slots ≤ 7290000)
    (kk : kEnd p l e s m below meth c b D ct E y ym h2 h3 t cells slots) (H : Heap) (locs : List Loc) (hw : zPD D (fun q : Nat => s.heap.size ≤ q) (lW ct E y r q h2 ym rm qm h3 fo) H) (hS : va_S (fun q : Nat => s.heap.size ≤ q) s.heap H locs) (ls : Array Slot) (hl : lv_has ls 7 [(4, .int (nI (7 * t))), (3, .ref h3), (2, .ref h2), (1, .ref (y 195)), (0, .ref b)]) : W p l e room_1 s m #[Value.ref b] below meth c H locs cells slots (lw_Z below #[Value.ref b] s) (F0 m 1151 ls []) := by
  obtain ⟨hx, hb, hr, hml, hown, hts, hX, hbl, hlocks, hgv⟩ := id C0
  have hown : s.vm.findClass RL = some m.cls := hown
  have htl : ∀ w ∈ wsL_law0, w.before #[Value.ref b] s = true := fun w h => hts w (wsL_law_in0 w h)
  have hA : ∀ q : Nat, s.heap.size ≤ q → (fun q : Nat => s.heap.size ≤ q) q := fun _ h => h
  have hbA : ¬ (fun q : Nat => s.heap.size ≤ q) b := Nat.not_le.mpr hbl
  refine lv_aload_n hx hb dL_law_1151 rfl (lv_at hl 3 rfl) ?_
  refine lv_aload_n hx hb dL_law_1152 rfl (lv_at hl 4 rfl) ?_
  refine lv_iload hx hb dL_law_1153 (lv_at hl 0 rfl) ?_
  refine lv_iconst (v := 1) hx hb dL_law_1155 (by decide) ?_
  refine lv_iadd hx hb dL_law_1156 (ztop (.int (nI (7 * t + 1))) (congrArg Value.int (nI_add _ 1)) ?_)
  refine va_sld hx hb hX hbl hbA hS (zix (k := 7 * t + 1) rfl (by omega) (by omega)).1 dL_law_1157 (ztop (.int (xs (7 * t + 1))) (congrArg Value.int (congrArg xs (nI_clamp (by omega)))) ?_)
  refine lv_aload_n hx hb dL_law_1158 rfl (lv_at hl 4 rfl) ?_
  refine lv_iload hx hb dL_law_1159 (lv_at hl 0 rfl) ?_
  refine lv_iconst (v := 2) hx hb dL_law_1161 (by decide) ?_
  refine lv_iadd hx hb dL_law_1162 (ztop (.int (nI (7 * t + 2))) (congrArg Value.int (nI_add _ 2)) ?_)
  refine va_sld hx hb hX hbl hbA hS (zix (k := 7 * t + 2) rfl (by omega) (by omega)).1 dL_law_1163 (ztop (.int (xs (7 * t + 2))) (congrArg Value.int (congrArg xs (nI_clamp (by omega)))) ?_)
  refine lv_aload_n hx hb dL_law_1164 rfl (lv_at hl 4 rfl) ?_
  refine lv_iload hx hb dL_law_1165 (lv_at hl 0 rfl) ?_
  refine lv_iconst (v := 3) hx hb dL_law_1167 (by decide) ?_
  refine lv_iadd hx hb dL_law_1168 (ztop (.int (nI (7 * t + 3))) (congrArg Value.int (nI_add _ 3)) ?_)
  refine va_sld hx hb hX hbl hbA hS (zix (k := 7 * t + 3) rfl (by omega) (by omega)).1 dL_law_1169 (ztop (.int (xs (7 * t + 3))) (congrArg Value.int (congrArg xs (nI_clamp (by omega)))) ?_)
  refine lcallX (va_runV (As := [.int (xs (7 * t + 1)), .int (xs (7 * t + 2)), .int (xs (7 * t + 3))]) (rest := []) ⟨hx, hb, hml, hown, htl⟩ (kc_years l D ct E y (xs (7 * t + 1)) (xs (7 * t + 2)) (xs (7 * t + 3)) r q hJ hEi H.size) (cwV 3 htl (klV (zr55 2 rfl) (zr55 3 rfl) (zr55 4 rfl) (zr1 2 rfl) (zr55 5 rfl)) rfl rfl rfl (by decide +kernel) ⟨Nat.le_of_ble_eq_true rfl, Nat.le_of_ble_eq_true rfl⟩) (lpreC hK hw hS hA hZ hN kWlen (by decide +kernel) 10 195 rfl kg195) rfl rfl hl.1 rfl (lv_room (Nat.le_of_ble_eq_true rfl)) dL_law_1170 (lroom hcs)) hw hS hA 1173 rfl (fun u1 H locs pu1 hw hS => ?_)
  have kh2 := pu1.2.1
  have hw : zPD D (fun q : Nat => s.heap.size ≤ q) (lW ct E y u1.2 q h2 ym rm qm h3 fo) H := hw
  refine zfr 1173 [.int u1.1] rfl rfl ?_
  refine lv_pop hx hb dL_law_1173 rfl ?_
  refine lv_aload_n hx hb dL_law_1174 rfl (lv_at hl 2 rfl) ?_
  refine lv_aload_n hx hb dL_law_1175 rfl (lv_at hl 4 rfl) ?_
  refine lv_iload hx hb dL_law_1176 (lv_at hl 0 rfl) ?_
  refine lv_iconst (v := 1) hx hb dL_law_1178 (by decide) ?_
  refine lv_iadd hx hb dL_law_1179 (ztop (.int (nI (7 * t + 1))) (congrArg Value.int (nI_add _ 1)) ?_)
  refine va_sld hx hb hX hbl hbA hS (zix (k := 7 * t + 1) rfl (by omega) (by omega)).1 dL_law_1180 (ztop (.int (xs (7 * t + 1))) (congrArg Value.int (congrArg xs (nI_clamp (by omega)))) ?_)
  refine lv_aload_n hx hb dL_law_1181 rfl (lv_at hl 4 rfl) ?_
  refine lv_iload hx hb dL_law_1182 (lv_at hl 0 rfl) ?_
  refine lv_iconst (v := 2) hx hb dL_law_1184 (by decide) ?_
  refine lv_iadd hx hb dL_law_1185 (ztop (.int (nI (7 * t + 2))) (congrArg Value.int (nI_add _ 2)) ?_)
  refine va_sld hx hb hX hbl hbA hS (zix (k := 7 * t + 2) rfl (by omega) (by omega)).1 dL_law_1186 (ztop (.int (xs (7 * t + 2))) (congrArg Value.int (congrArg xs (nI_clamp (by omega)))) ?_)
  refine lv_aload_n hx hb dL_law_1187 rfl (lv_at hl 4 rfl) ?_
  refine lv_iload hx hb dL_law_1188 (lv_at hl 0 rfl) ?_
  refine lv_iconst (v := 3) hx hb dL_law_1190 (by decide) ?_
  refine lv_iadd hx hb dL_law_1191 (ztop (.int (nI (7 * t + 3))) (congrArg Value.int (nI_add _ 3)) ?_)
  refine va_sld hx hb hX hbl hbA hS (zix (k := 7 * t + 3) rfl (by omega) (by omega)).1 dL_law_1192 (ztop (.int (xs (7 * t + 3))) (congrArg Value.int (congrArg xs (nI_clamp (by omega)))) ?_)
  have hw := lrot hw
  refine lcallM (va_runV (As := [.int (xs (7 * t + 1)), .int (xs (7 * t + 2)), .int (xs (7 * t + 3))]) (rest := []) ⟨hx, hb, hml, hown, htl⟩ (mc_years l D ct h2 ym (xs (7 * t + 1)) (xs (7 * t + 2)) (xs (7 * t + 3)) rm qm hM H.size) (cwV 3 htl (klV (zr55 20 rfl) (zr55 21 rfl) (zr55 22 rfl) (zr1 5 rfl) (zr55 23 rfl)) rfl rfl rfl (by decide +kernel) ⟨Nat.le_of_ble_eq_true rfl, Nat.le_of_ble_eq_true rfl⟩) (lpreZ hK hw hS hA hN mWl (by decide +kernel) 11 0 rfl mWo) rfl rfl hl.1 rfl (lv_room (Nat.le_of_ble_eq_true rfl)) dL_law_1193 (lroom hcs)) hw hS hA 1196 rfl (fun u4 H locs pu4 hw hS => ?_)
  have kh5 := pu4.2.1
  have ht7 : lR u1.2 q u4.2.1 u4.2.2 := ((lR.s hT pu1.2.2.1 pu4.2.2.1 (by rw [show u4 = _ from pu4.2.2.2.2.1]; exact rs_years) rfl rfl).n pu4.2.2.2.1)
  have hw : zPD D (fun q : Nat => s.heap.size ≤ q) (lW ct E y u1.2 q h2 ym u4.2.1 u4.2.2 h3 fo) H := hw
  refine zfr 1196 [.int u4.1] rfl rfl ?_
  refine lv_pop hx hb dL_law_1196 rfl ?_
  refine lv_goto (tgt := 1278) hx hb dL_law_1197 (by decide) ?_
  exact kk u1.2 q u4.2.1 u4.2.2 fo cells slots kh2 kh5 ht7 (Nat.le_succ _) (Nat.le_add_right _ _) H locs ls hw hS (lv_sub hl [0, 1, 2, 3, 4] rfl)

set_option maxHeartbeats 4000000 in
set_option maxRecDepth 100000 in
theorem kl_31 {p : Program} {l : Launch} {e : Env} {s : State} {m : MethodId} {below : List Frame} {meth : Method} {c : Code} {b L : Nat} {xs : Nat → Int32} (C0 : lw_At p s m meth c b L xs) {D : va_G} {ct : Nat → ClassId} {E : Nat → Nat} (hK : va_K D vwCl (zT ct) s) (hN : zN s) (hZ : eZ E (fun q : Nat => s.heap.size ≤ q) s s.heap) (y ym : Nat → Nat) (h2 h3 t : Nat) (ht : 7 * t + 7 ≤ L) (hL : L ≤ 3584) (r : zRr) (q : zRq) (rm : zRr) (qm : zRq) (fo : Nat → Int64) (hJ : kJ r) (hM : mJ 20 rm) (hT : lR r q rm qm) (hEi : kEi E) (cells slots : Nat) (hcs : cells ≤ 600000 ∧ slots ≤ 7290000)
    (kk : kEnd p l e s m below meth c b D ct E y ym h2 h3 t cells slots) (H : Heap) (locs : List Loc) (hw : zPD D (fun q : Nat => s.heap.size ≤ q) (lW ct E y r q h2 ym rm qm h3 fo) H) (hS : va_S (fun q : Nat => s.heap.size ≤ q) s.heap H locs) (ls : Array Slot) (hl : lv_has ls 7 [(4, .int (nI (7 * t))), (3, .ref h3), (2, .ref h2), (1, .ref (y 195)), (0, .ref b)]) : W p l e room_1 s m #[Value.ref b] below meth c H locs cells slots (lw_Z below #[Value.ref b] s) (F0 m 1200 ls []) := by
  obtain ⟨hx, hb, hr, hml, hown, hts, hX, hbl, hlocks, hgv⟩ := id C0
  have hown : s.vm.findClass RL = some m.cls := hown
  have htl : ∀ w ∈ wsL_law0, w.before #[Value.ref b] s = true := fun w h => hts w (wsL_law_in0 w h)
  have hA : ∀ q : Nat, s.heap.size ≤ q → (fun q : Nat => s.heap.size ≤ q) q := fun _ h => h
  have hbA : ¬ (fun q : Nat => s.heap.size ≤ q) b := Nat.not_le.mpr hbl
  refine lv_aload_n hx hb dL_law_1200 rfl (lv_at hl 3 rfl) ?_
  refine lv_aload_n hx hb dL_law_1201 rfl (lv_at hl 4 rfl) ?_
  refine lv_iload hx hb dL_law_1202 (lv_at hl 0 rfl) ?_
  refine lv_iconst (v := 1) hx hb dL_law_1204 (by decide) ?_
  refine lv_iadd hx hb dL_law_1205 (ztop (.int (nI (7 * t + 1))) (congrArg Value.int (nI_add _ 1)) ?_)
  refine va_sld hx hb hX hbl hbA hS (zix (k := 7 * t + 1) rfl (by omega) (by omega)).1 dL_law_1206 (ztop (.int (xs (7 * t + 1))) (congrArg Value.int (congrArg xs (nI_clamp (by omega)))) ?_)
  refine lv_aload_n hx hb dL_law_1207 rfl (lv_at hl 4 rfl) ?_
  refine lv_iload hx hb dL_law_1208 (lv_at hl 0 rfl) ?_
  refine lv_iconst (v := 2) hx hb dL_law_1210 (by decide) ?_
  refine lv_iadd hx hb dL_law_1211 (ztop (.int (nI (7 * t + 2))) (congrArg Value.int (nI_add _ 2)) ?_)
  refine va_sld hx hb hX hbl hbA hS (zix (k := 7 * t + 2) rfl (by omega) (by omega)).1 dL_law_1212 (ztop (.int (xs (7 * t + 2))) (congrArg Value.int (congrArg xs (nI_clamp (by omega)))) ?_)
  refine lv_if_eq (tgt := 1220) hx hb dL_law_1213 (by decide) (fun c1 => ?_) (fun c1 => ?_)
  · refine lv_iconst (v := 0) hx hb dL_law_1220 (by decide) ?_
    refine lcallX (va_runV (As := [.int (xs (7 * t + 1)), .int 0]) (rest := []) ⟨hx, hb, hml, hown, htl⟩ (kc_mark l D ct E y (xs (7 * t + 1)) (0 : Int32) r q (zI.lit (by decide)) hJ hEi H.size) (cwV 2 htl (klV (zr56 19 rfl) (zr56 20 rfl) (zr56 21 rfl) (zr1 2 rfl) (zr56 22 rfl)) rfl rfl rfl (by decide +kernel) ⟨Nat.le_of_ble_eq_true rfl, Nat.le_of_ble_eq_true rfl⟩) (lpreC hK hw hS hA hZ hN kWlen (by decide +kernel) 10 195 rfl kg195) rfl rfl hl.1 rfl (lv_room (Nat.le_of_ble_eq_true rfl)) dL_law_1221 (lroom hcs)) hw hS hA 1224 rfl (fun u2 H locs pu2 hw hS => ?_)
    have kh3 := pu2.2.1
    have hw : zPD D (fun q : Nat => s.heap.size ≤ q) (lW ct E y u2.2 q h2 ym rm qm h3 fo) H := hw
    refine zfr 1224 [.int u2.1] rfl rfl ?_
    refine lv_pop hx hb dL_law_1224 rfl ?_
    refine lv_aload_n hx hb dL_law_1225 rfl (lv_at hl 2 rfl) ?_
    refine lv_aload_n hx hb dL_law_1226 rfl (lv_at hl 4 rfl) ?_
    refine lv_iload hx hb dL_law_1227 (lv_at hl 0 rfl) ?_
    refine lv_iconst (v := 1) hx hb dL_law_1229 (by decide) ?_
    refine lv_iadd hx hb dL_law_1230 (ztop (.int (nI (7 * t + 1))) (congrArg Value.int (nI_add _ 1)) ?_)
    refine va_sld hx hb hX hbl hbA hS (zix (k := 7 * t + 1) rfl (by omega) (by omega)).1 dL_law_1231 (ztop (.int (xs (7 * t + 1))) (congrArg Value.int (congrArg xs (nI_clamp (by omega)))) ?_)
    refine lv_aload_n hx hb dL_law_1232 rfl (lv_at hl 4 rfl) ?_
    refine lv_iload hx hb dL_law_1233 (lv_at hl 0 rfl) ?_
    refine lv_iconst (v := 2) hx hb dL_law_1235 (by decide) ?_
    refine lv_iadd hx hb dL_law_1236 (ztop (.int (nI (7 * t + 2))) (congrArg Value.int (nI_add _ 2)) ?_)
    refine va_sld hx hb hX hbl hbA hS (zix (k := 7 * t + 2) rfl (by omega) (by omega)).1 dL_law_1237 (ztop (.int (xs (7 * t + 2))) (congrArg Value.int (congrArg xs (nI_clamp (by omega)))) ?_)
    refine lv_if_eq (tgt := 1245) hx hb dL_law_1238 (by decide) (fun _ => ?_) (fun h => absurd c1 h)
    refine lv_iconst (v := 0) hx hb dL_law_1245 (by decide) ?_
    have hw := lrot hw
    refine lcallM (va_runV (As := [.int (xs (7 * t + 1)), .int 0]) (rest := []) ⟨hx, hb, hml, hown, htl⟩ (mc_mark l D ct h2 ym (xs (7 * t + 1)) (0 : Int32) rm qm (zI.lit (by decide)) hM H.size) (cwV 2 htl (klV (zr57 13 rfl) (zr57 14 rfl) (zr57 15 rfl) (zr1 5 rfl) (zr57 16 rfl)) rfl rfl rfl (by decide +kernel) ⟨Nat.le_of_ble_eq_true rfl, Nat.le_of_ble_eq_true rfl⟩) (lpreZ hK hw hS hA hN mWl (by decide +kernel) 11 0 rfl mWo) rfl rfl hl.1 rfl (lv_room (Nat.le_of_ble_eq_true rfl)) dL_law_1246 (lroom hcs)) hw hS hA 1249 rfl (fun u5 H locs pu5 hw hS => ?_)
    have kh6 := pu5.2.1
    have hA9 := lR.mark pu2.2.2.1 pu5.2.2.2.1 hT pu5.2.2.1
    have ht8 : lR u2.2 q u5.2 qm := hA9.2
    have hw : zPD D (fun q : Nat => s.heap.size ≤ q) (lW ct E y u2.2 q h2 ym u5.2 qm h3 fo) H := hw
    refine zfr 1249 [.int u5.1] rfl rfl ?_
    refine lv_pop hx hb dL_law_1249 rfl ?_
    refine lv_goto (tgt := 1278) hx hb dL_law_1250 (by decide) ?_
    exact kk u2.2 q u5.2 qm fo cells slots kh3 kh6 ht8 (Nat.le_succ _) (Nat.le_add_right _ _) H locs ls hw hS (lv_sub hl [0, 1, 2, 3, 4] rfl)
  · refine lv_iconst (v := 1) hx hb dL_law_1216 (by decide) ?_
    refine lv_goto (tgt := 1221) hx hb dL_law_1217 (by decide) ?_
    refine lcallX (va_runV (As := [.int (xs (7 * t + 1)), .int 1]) (rest := []) ⟨hx, hb, hml, hown, htl⟩ (kc_mark l D ct E y (xs (7 * t + 1)) (1 : Int32) r q (zI.lit (by decide)) hJ hEi H.size) (cwV 2 htl (klV (zr56 19 rfl) (zr56 20 rfl) (zr56 21 rfl) (zr1 2 rfl) (zr56 22 rfl)) rfl rfl rfl (by decide +kernel) ⟨Nat.le_of_ble_eq_true rfl, Nat.le_of_ble_eq_true rfl⟩) (lpreC hK hw hS hA hZ hN kWlen (by decide +kernel) 10 195 rfl kg195) rfl rfl hl.1 rfl (lv_room (Nat.le_of_ble_eq_true rfl)) dL_law_1221 (lroom hcs)) hw hS hA 1224 rfl (fun u9 H locs pu9 hw hS => ?_)
    have kh10 := pu9.2.1
    have hw : zPD D (fun q : Nat => s.heap.size ≤ q) (lW ct E y u9.2 q h2 ym rm qm h3 fo) H := hw
    refine zfr 1224 [.int u9.1] rfl rfl ?_
    refine lv_pop hx hb dL_law_1224 rfl ?_
    refine lv_aload_n hx hb dL_law_1225 rfl (lv_at hl 2 rfl) ?_
    refine lv_aload_n hx hb dL_law_1226 rfl (lv_at hl 4 rfl) ?_
    refine lv_iload hx hb dL_law_1227 (lv_at hl 0 rfl) ?_
    refine lv_iconst (v := 1) hx hb dL_law_1229 (by decide) ?_
    refine lv_iadd hx hb dL_law_1230 (ztop (.int (nI (7 * t + 1))) (congrArg Value.int (nI_add _ 1)) ?_)
    refine va_sld hx hb hX hbl hbA hS (zix (k := 7 * t + 1) rfl (by omega) (by omega)).1 dL_law_1231 (ztop (.int (xs (7 * t + 1))) (congrArg Value.int (congrArg xs (nI_clamp (by omega)))) ?_)
    refine lv_aload_n hx hb dL_law_1232 rfl (lv_at hl 4 rfl) ?_
    refine lv_iload hx hb dL_law_1233 (lv_at hl 0 rfl) ?_
    refine lv_iconst (v := 2) hx hb dL_law_1235 (by decide) ?_
    refine lv_iadd hx hb dL_law_1236 (ztop (.int (nI (7 * t + 2))) (congrArg Value.int (nI_add _ 2)) ?_)
    refine va_sld hx hb hX hbl hbA hS (zix (k := 7 * t + 2) rfl (by omega) (by omega)).1 dL_law_1237 (ztop (.int (xs (7 * t + 2))) (congrArg Value.int (congrArg xs (nI_clamp (by omega)))) ?_)
    refine lv_if_eq (tgt := 1245) hx hb dL_law_1238 (by decide) (fun h => absurd h c1) (fun _ => ?_)
    refine lv_iconst (v := 1) hx hb dL_law_1241 (by decide) ?_
    refine lv_goto (tgt := 1246) hx hb dL_law_1242 (by decide) ?_
    have hw := lrot hw
    refine lcallM (va_runV (As := [.int (xs (7 * t + 1)), .int 1]) (rest := []) ⟨hx, hb, hml, hown, htl⟩ (mc_mark l D ct h2 ym (xs (7 * t + 1)) (1 : Int32) rm qm (zI.lit (by decide)) hM H.size) (cwV 2 htl (klV (zr57 13 rfl) (zr57 14 rfl) (zr57 15 rfl) (zr1 5 rfl) (zr57 16 rfl)) rfl rfl rfl (by decide +kernel) ⟨Nat.le_of_ble_eq_true rfl, Nat.le_of_ble_eq_true rfl⟩) (lpreZ hK hw hS hA hN mWl (by decide +kernel) 11 0 rfl mWo) rfl rfl hl.1 rfl (lv_room (Nat.le_of_ble_eq_true rfl)) dL_law_1246 (lroom hcs)) hw hS hA 1249 rfl (fun u12 H locs pu12 hw hS => ?_)
    have kh13 := pu12.2.1
    have hA9 := lR.mark pu9.2.2.1 pu12.2.2.2.1 hT pu12.2.2.1
    have ht15 : lR u9.2 q u12.2 qm := hA9.2
    have hw : zPD D (fun q : Nat => s.heap.size ≤ q) (lW ct E y u9.2 q h2 ym u12.2 qm h3 fo) H := hw
    refine zfr 1249 [.int u12.1] rfl rfl ?_
    refine lv_pop hx hb dL_law_1249 rfl ?_
    refine lv_goto (tgt := 1278) hx hb dL_law_1250 (by decide) ?_
    exact kk u9.2 q u12.2 qm fo cells slots kh10 kh13 ht15 (Nat.le_succ _) (Nat.le_add_right _ _) H locs ls hw hS (lv_sub hl [0, 1, 2, 3, 4] rfl)

set_option maxHeartbeats 4000000 in
set_option maxRecDepth 100000 in
theorem kl_32 {p : Program} {l : Launch} {e : Env} {s : State} {m : MethodId} {below : List Frame} {meth : Method} {c : Code} {b L : Nat} {xs : Nat → Int32} (C0 : lw_At p s m meth c b L xs) {D : va_G} {ct : Nat → ClassId} {E : Nat → Nat} (hK : va_K D vwCl (zT ct) s) (hN : zN s) (hZ : eZ E (fun q : Nat => s.heap.size ≤ q) s s.heap) (y ym : Nat → Nat) (h2 h3 t : Nat) (ht : 7 * t + 7 ≤ L) (hL : L ≤ 3584) (r : zRr) (q : zRq) (rm : zRr) (qm : zRq) (fo : Nat → Int64) (hJ : kJ r) (hM : mJ 20 rm) (hT : lR r q rm qm) (hEi : kEi E) (cells slots : Nat) (hcs : cells ≤ 600000 ∧ slots ≤ 7290000)
    (kk : kEnd p l e s m below meth c b D ct E y ym h2 h3 t cells slots) (H : Heap) (locs : List Loc) (hw : zPD D (fun q : Nat => s.heap.size ≤ q) (lW ct E y r q h2 ym rm qm h3 fo) H) (hS : va_S (fun q : Nat => s.heap.size ≤ q) s.heap H locs) (ls : Array Slot) (hl : lv_has ls 7 [(4, .int (nI (7 * t))), (3, .ref h3), (2, .ref h2), (1, .ref (y 195)), (0, .ref b)]) : W p l e room_1 s m #[Value.ref b] below meth c H locs cells slots (lw_Z below #[Value.ref b] s) (F0 m 1253 ls []) := by
  obtain ⟨hx, hb, hr, hml, hown, hts, hX, hbl, hlocks, hgv⟩ := id C0
  have hown : s.vm.findClass RL = some m.cls := hown
  have htl : ∀ w ∈ wsL_law0, w.before #[Value.ref b] s = true := fun w h => hts w (wsL_law_in0 w h)
  have hA : ∀ q : Nat, s.heap.size ≤ q → (fun q : Nat => s.heap.size ≤ q) q := fun _ h => h
  have hbA : ¬ (fun q : Nat => s.heap.size ≤ q) b := Nat.not_le.mpr hbl
  refine lv_aload_n hx hb dL_law_1253 rfl (lv_at hl 3 rfl) ?_
  refine lv_aload_n hx hb dL_law_1254 rfl (lv_at hl 4 rfl) ?_
  refine lv_iload hx hb dL_law_1255 (lv_at hl 0 rfl) ?_
  refine lv_iconst (v := 1) hx hb dL_law_1257 (by decide) ?_
  refine lv_iadd hx hb dL_law_1258 (ztop (.int (nI (7 * t + 1))) (congrArg Value.int (nI_add _ 1)) ?_)
  refine va_sld hx hb hX hbl hbA hS (zix (k := 7 * t + 1) rfl (by omega) (by omega)).1 dL_law_1259 (ztop (.int (xs (7 * t + 1))) (congrArg Value.int (congrArg xs (nI_clamp (by omega)))) ?_)
  refine lcallX (va_runV (As := [.int (xs (7 * t + 1))]) (rest := []) ⟨hx, hb, hml, hown, htl⟩ (kc_count l D ct E y (xs (7 * t + 1)) r q hJ hEi H.size) (cwV 1 htl (klV (zr57 21 rfl) (zr57 22 rfl) (zr57 23 rfl) (zr1 2 rfl) (zr58 0 rfl)) rfl rfl rfl (by decide +kernel) ⟨Nat.le_of_ble_eq_true rfl, Nat.le_of_ble_eq_true rfl⟩) (lpreC hK hw hS hA hZ hN kWlen (by decide +kernel) 10 195 rfl kg195) rfl rfl hl.1 rfl (lv_room (Nat.le_of_ble_eq_true rfl)) dL_law_1260 (lroom hcs)) hw hS hA 1263 rfl (fun u1 H locs pu1 hw hS => ?_)
  have hw : zPD D (fun q : Nat => s.heap.size ≤ q) (lW ct E y r q h2 ym rm qm h3 fo) H := hw
  refine zfr 1263 [.int u1] rfl rfl ?_
  refine lv_pop hx hb dL_law_1263 rfl ?_
  refine lv_aload_n hx hb dL_law_1264 rfl (lv_at hl 2 rfl) ?_
  refine lv_aload_n hx hb dL_law_1265 rfl (lv_at hl 4 rfl) ?_
  refine lv_iload hx hb dL_law_1266 (lv_at hl 0 rfl) ?_
  refine lv_iconst (v := 1) hx hb dL_law_1268 (by decide) ?_
  refine lv_iadd hx hb dL_law_1269 (ztop (.int (nI (7 * t + 1))) (congrArg Value.int (nI_add _ 1)) ?_)
  refine va_sld hx hb hX hbl hbA hS (zix (k := 7 * t + 1) rfl (by omega) (by omega)).1 dL_law_1270 (ztop (.int (xs (7 * t + 1))) (congrArg Value.int (congrArg xs (nI_clamp (by omega)))) ?_)
  have hw := lrot hw
  refine lcallM (va_runV (As := [.int (xs (7 * t + 1))]) (rest := []) ⟨hx, hb, hml, hown, htl⟩ (mc_count l D ct h2 ym 20 (xs (7 * t + 1)) rm qm hM H.size) (cwV 1 htl (klV (zr58 2 rfl) (zr58 3 rfl) (zr58 4 rfl) (zr1 5 rfl) (zr58 5 rfl)) rfl rfl rfl (by decide +kernel) ⟨Nat.le_of_ble_eq_true rfl, Nat.le_of_ble_eq_true rfl⟩) (lpreZ hK hw hS hA hN mWl (by decide +kernel) 11 0 rfl mWo) rfl rfl hl.1 rfl (lv_room (Nat.le_of_ble_eq_true rfl)) dL_law_1271 (lroom hcs)) hw hS hA 1274 rfl (fun u2 H locs pu2 hw hS => ?_)
  have kh3 := pu2.2.1
  have ht5 : lR r q u2.2 qm := (lR.q hT zFt.refl pu2.2.2.1 rfl rfl rfl)
  have hw : zPD D (fun q : Nat => s.heap.size ≤ q) (lW ct E y r q h2 ym u2.2 qm h3 fo) H := hw
  refine zfr 1274 [.int u2.1] rfl rfl ?_
  refine lv_pop hx hb dL_law_1274 rfl ?_
  refine lv_goto (tgt := 1278) hx hb dL_law_1275 (by decide) ?_
  exact kk r q u2.2 qm fo cells slots hJ kh3 ht5 (Nat.le_succ _) (Nat.le_add_right _ _) H locs ls hw hS (lv_sub hl [0, 1, 2, 3, 4] rfl)
