set_option maxHeartbeats 4000000 in
set_option maxRecDepth 100000 in
/-- within -/
theorem c_within (l : Launch) (D : va_G) (ct : Nat → ClassId) (v : Int32) (a : Int32) (b : Int32)  : zC l yX12_within wsX12_within ({ frames := 1, cells := 0, slots := 0, locals := 80 }) D ct [] [.int v, .int a, .int b] [] (S := Unit) (fun _ => some (.int (zwi v a b))) (fun _ => True) (fun _ => []) 0 0 := by
  refine zofW cX12_within 3 (some .boolean) (by decide) rfl (Nat.le_of_ble_eq_true rfl) ?_
  intro p e s m below meth c A hx hb hr hml hts hown hlocks hname hK hA hZ hN H locs hw hS ls hl
  have hown : s.vm.findClass RX12 = some m.cls := hown
  have hl : lv_has ls 3 [(0, .int v), (1, .int a), (2, .int b)] := hl
  refine lv_iload_n hx hb dX12_within_0 rfl (lv_at hl 0 rfl) ?_
  refine lv_iload_n hx hb dX12_within_1 rfl (lv_at hl 1 rfl) ?_
  refine lv_icmp_lt (tgt := 14) hx hb dX12_within_2 (by decide) (fun c_1 => ?_) (fun c_1 => ?_)
  · refine lv_iconst (v := 0) hx hb dX12_within_14 (by decide) ?_
    exact ziret hx hb hr (rfl) hlocks () (by simp [zwi, c_1]) (trivial) hw [] rfl (rfl) hS (Nat.le_of_ble_eq_true rfl) (Nat.le_of_ble_eq_true rfl) dX12_within_15
  · refine lv_iload_n hx hb dX12_within_5 rfl (lv_at hl 0 rfl) ?_
    refine lv_iload_n hx hb dX12_within_6 rfl (lv_at hl 2 rfl) ?_
    refine lv_icmp_gt (tgt := 14) hx hb dX12_within_7 (by decide) (fun c_2 => ?_) (fun c_2 => ?_)
    · refine lv_iconst (v := 0) hx hb dX12_within_14 (by decide) ?_
      exact ziret hx hb hr (rfl) hlocks () (by simp [zwi, c_1, c_2]) (trivial) hw [] rfl (rfl) hS (Nat.le_of_ble_eq_true rfl) (Nat.le_of_ble_eq_true rfl) dX12_within_15
    · refine lv_iconst (v := 1) hx hb dX12_within_10 (by decide) ?_
      refine lv_goto (tgt := 15) hx hb dX12_within_11 (by decide) ?_
      exact ziret hx hb hr (rfl) hlocks () (by simp [zwi, c_1, c_2]) (trivial) hw [] rfl (rfl) hS (Nat.le_of_ble_eq_true rfl) (Nat.le_of_ble_eq_true rfl) dX12_within_15

set_option maxHeartbeats 4000000 in
set_option maxRecDepth 100000 in
/-- copies: thirty-one places of one row into another -/
theorem c_copies (l : Launch) (D : va_G) (ct : Nat → ClassId) (h1 : Nat) (a : Nat) (h2 : Nat) (b : Nat) (n1 : Nat) (n2 : Nat) (f : Nat → Int32) (g : Nat → Int32) (ha : a + 31 ≤ n1) (hb1 : b + 31 ≤ n2) (hn1 : n1 < 2 ^ 31) (hn2 : n2 < 2 ^ 31) : zC l yX12_copies wsX12_copies ({ frames := 1, cells := 0, slots := 0, locals := 80 }) D ct [] [.ref h1, .int (nI a), .ref h2, .int (nI b)] [(h1, .inl (ct 0, n1, .inl f)), (h2, .inl (ct 0, n2, .inl g))] (S := Unit) (fun _ => none) (fun _ => True) (fun _ => [(h1, .inl (ct 0, n1, .inl f)), (h2, .inl (ct 0, n2, .inl (zcp f g a b 31)))]) 0 0 := by
  refine zofW cX12_copies 5 none (by decide) rfl (Nat.le_of_ble_eq_true rfl) ?_
  intro p e s m below meth c A hx hb hr hml hts hown hlocks hname hK hA hZ hN H locs hw hS ls hl
  have hown : s.vm.findClass RX12 = some m.cls := hown
  have hl : lv_has ls 5 [(0, .ref h1), (1, .int (nI a)), (2, .ref h2), (3, .int (nI b))] := hl
  refine lv_iconst (v := 0) hx hb dX12_copies_0 (by decide) ?_
  refine lv_istore (lv' := [(4, .int 0), (0, .ref h1), (1, .int (nI a)), (2, .ref h2), (3, .int (nI b))]) hx hb dX12_copies_1 hl (by decide) rfl (fun ls hl => ?_)
  refine zloop (σ := Unit) (nL := 5) (st := []) (fun i _ => True) (fun i _ => [(h1, .inl (ct 0, n1, .inl f)), (h2, .inl (ct 0, n2, .inl (zcp f g a b i)))]) (fun i _ => [(4, .int (nI i)), (0, .ref h1), (1, .int (nI a)), (2, .ref h2), (3, .int (nI b))]) (fun _ => 0) (fun _ => 0) 31 ?_ ?_ 0 () (Nat.zero_le _) (trivial) H locs ls (zcong (by (try dsimp only); rw [zcp_0]) (hw.sub (w0 := [(h1, .inl (ct 0, n1, .inl f)), (h2, .inl (ct 0, n2, .inl g))]) [0, 1] rfl rfl)) hS (lv_sub hl [0, 1, 2, 3, 4] rfl)
  · intro x2 hI3 H locs ls hw hS hl
    have hw : zPD D A [(h1, .inl (ct 0, n1, .inl f)), (h2, .inl (ct 0, n2, .inl (zcp f g a b 31)))] H := hw
    have hl : lv_has ls 5 [(4, .int (nI 31)), (0, .ref h1), (1, .int (nI a)), (2, .ref h2), (3, .int (nI b))] := hl
    refine lv_iload hx hb dX12_copies_3 (lv_at hl 0 rfl) ?_
    refine lv_bipush (v := 31) hx hb dX12_copies_5 (by decide) ?_
    refine lv_icmp_ge (tgt := 28) hx hb dX12_copies_7 (by decide) (fun _ => ?_) (fun h => absurd (by decide) h)
    exact zvret hx hb hr hlocks () rfl (trivial) hw [0, 1] rfl (rfl) hS (Nat.le_of_ble_eq_true rfl) (Nat.le_of_ble_eq_true rfl) dX12_copies_28
  · intro i1 x5 hlt8 hI6 ih7 H locs ls hw hS hl
    have hw : zPD D A [(h1, .inl (ct 0, n1, .inl f)), (h2, .inl (ct 0, n2, .inl (zcp f g a b i1)))] H := hw
    have hl : lv_has ls 5 [(4, .int (nI i1)), (0, .ref h1), (1, .int (nI a)), (2, .ref h2), (3, .int (nI b))] := hl
    refine lv_iload hx hb dX12_copies_3 (lv_at hl 0 rfl) ?_
    refine lv_bipush (v := 31) hx hb dX12_copies_5 (by decide) ?_
    refine lv_icmp_ge (tgt := 28) hx hb dX12_copies_7 (by decide) (fun h => absurd h (nI_ge hlt8 (by decide))) (fun _ => ?_)
    refine lv_aload_n hx hb dX12_copies_10 rfl (lv_at hl 3 rfl) ?_
    refine lv_iload_n hx hb dX12_copies_11 rfl (lv_at hl 4 rfl) ?_
    refine lv_iload hx hb dX12_copies_12 (lv_at hl 0 rfl) ?_
    refine lv_iadd hx hb dX12_copies_14 ?_
    refine ztop (.int (nI (b + i1))) (congrArg Value.int (nI_add _ _)) ?_
    refine lv_aload_n hx hb dX12_copies_15 rfl (lv_at hl 1 rfl) ?_
    refine lv_iload_n hx hb dX12_copies_16 rfl (lv_at hl 2 rfl) ?_
    refine lv_iload hx hb dX12_copies_17 (lv_at hl 0 rfl) ?_
    refine lv_iadd hx hb dX12_copies_19 ?_
    refine ztop (.int (nI (a + i1))) (congrArg Value.int (nI_add _ _)) ?_
    refine ziald hx hb hK hw 0 rfl (a + i1) rfl (by omega) hn1 dX12_copies_20 ?_
    refine ziast hx hb hK hw hS 1 rfl (b + i1) rfl (by omega) hn2 dX12_copies_21 [(h1, .inl (ct 0, n1, .inl f)), (h2, .inl (ct 0, n2, .inl (upd (zcp f g a b i1) (b + i1) (f (a + i1)))))] rfl (fun H locs hw hS => ?_)
    refine lv_iinc (v := nI (i1 + 1)) (lv' := [(4, .int (nI (i1 + 1))), (0, .ref h1), (1, .int (nI a)), (2, .ref h2), (3, .int (nI b))]) hx hb dX12_copies_22 hl (k := 0) rfl (nI_add _ 1) (by decide) rfl (fun ls hl => ?_)
    refine lv_goto (tgt := 3) hx hb dX12_copies_25 (by decide) ?_
    exact ih7 () (trivial) H locs ls (zcong (by (try dsimp only); rw [zcp_s]) (hw.sub (w0 := [(h1, .inl (ct 0, n1, .inl f)), (h2, .inl (ct 0, n2, .inl (upd (zcp f g a b i1) (b + i1) (f (a + i1)))))]) [0, 1] rfl rfl)) hS (lv_sub hl [0, 1, 2, 3, 4] rfl)

set_option maxHeartbeats 4000000 in
set_option maxRecDepth 100000 in
/-- shifts: the second half onto the first -/
theorem c_shifts (l : Launch) (D : va_G) (ct : Nat → ClassId) (h1 : Nat) (n : Nat) (n1 : Nat) (f : Nat → Int32) (ha : n + n ≤ n1) (hn1 : n1 < 65536) : zC l yX12_shifts wsX12_shifts ({ frames := 1, cells := 0, slots := 0, locals := 80 }) D ct [] [.ref h1, .int (nI n)] [(h1, .inl (ct 0, n1, .inl f))] (S := Unit) (fun _ => none) (fun _ => True) (fun _ => [(h1, .inl (ct 0, n1, .inl (zsf f n n)))]) 0 0 := by
  refine zofW cX12_shifts 3 none (by decide) rfl (Nat.le_of_ble_eq_true rfl) ?_
  intro p e s m below meth c A hx hb hr hml hts hown hlocks hname hK hA hZ hN H locs hw hS ls hl
  have hown : s.vm.findClass RX12 = some m.cls := hown
  have hl : lv_has ls 3 [(0, .ref h1), (1, .int (nI n))] := hl
  refine lv_iconst (v := 0) hx hb dX12_shifts_0 (by decide) ?_
  refine lv_istore_n (lv' := [(2, .int 0), (0, .ref h1), (1, .int (nI n))]) hx hb dX12_shifts_1 rfl hl (by decide) rfl (fun ls hl => ?_)
  refine zloop (σ := Unit) (nL := 3) (st := []) (fun i _ => True) (fun i _ => [(h1, .inl (ct 0, n1, .inl (zsf f n i)))]) (fun i _ => [(2, .int (nI i)), (0, .ref h1), (1, .int (nI n))]) (fun _ => 0) (fun _ => 0) n ?_ ?_ 0 () (Nat.zero_le _) (trivial) H locs ls (zcong (by (try dsimp only); rw [zsf_0]) (hw.sub (w0 := [(h1, .inl (ct 0, n1, .inl f))]) [0] rfl rfl)) hS (lv_sub hl [0, 1, 2] rfl)
  · intro x2 hI3 H locs ls hw hS hl
    have hw : zPD D A [(h1, .inl (ct 0, n1, .inl (zsf f n n)))] H := hw
    have hl : lv_has ls 3 [(2, .int (nI n)), (0, .ref h1), (1, .int (nI n))] := hl
    refine lv_iload_n hx hb dX12_shifts_2 rfl (lv_at hl 0 rfl) ?_
    refine lv_iload_n hx hb dX12_shifts_3 rfl (lv_at hl 2 rfl) ?_
    refine lv_icmp_ge (tgt := 21) hx hb dX12_shifts_4 (by decide) (fun _ => ?_) (fun h => absurd (nI_le (Nat.le_refl n) (by omega)) h)
    exact zvret hx hb hr hlocks () rfl (trivial) hw [0] rfl (rfl) hS (Nat.le_of_ble_eq_true rfl) (Nat.le_of_ble_eq_true rfl) dX12_shifts_21
  · intro i1 x5 hlt8 hI6 ih7 H locs ls hw hS hl
    have hw : zPD D A [(h1, .inl (ct 0, n1, .inl (zsf f n i1)))] H := hw
    have hl : lv_has ls 3 [(2, .int (nI i1)), (0, .ref h1), (1, .int (nI n))] := hl
    refine lv_iload_n hx hb dX12_shifts_2 rfl (lv_at hl 0 rfl) ?_
    refine lv_iload_n hx hb dX12_shifts_3 rfl (lv_at hl 2 rfl) ?_
    refine lv_icmp_ge (tgt := 21) hx hb dX12_shifts_4 (by decide) (fun h => absurd h (nI_ge hlt8 (by omega))) (fun _ => ?_)
    refine lv_aload_n hx hb dX12_shifts_7 rfl (lv_at hl 1 rfl) ?_
    refine lv_iload_n hx hb dX12_shifts_8 rfl (lv_at hl 0 rfl) ?_
    refine lv_aload_n hx hb dX12_shifts_9 rfl (lv_at hl 1 rfl) ?_
    refine lv_iload_n hx hb dX12_shifts_10 rfl (lv_at hl 2 rfl) ?_
    refine lv_iload_n hx hb dX12_shifts_11 rfl (lv_at hl 0 rfl) ?_
    refine lv_iadd hx hb dX12_shifts_12 ?_
    refine ztop (.int (nI (n + i1))) (congrArg Value.int (nI_add _ _)) ?_
    refine ziald hx hb hK hw 0 rfl (n + i1) rfl (by omega) (by omega) dX12_shifts_13 ?_
    refine ziast hx hb hK hw hS 0 rfl i1 rfl (by omega) (by omega) dX12_shifts_14 [(h1, .inl (ct 0, n1, .inl (upd (zsf f n i1) i1 ((zsf f n i1) (n + i1)))))] rfl (fun H locs hw hS => ?_)
    refine lv_iinc (v := nI (i1 + 1)) (lv' := [(2, .int (nI (i1 + 1))), (0, .ref h1), (1, .int (nI n))]) hx hb dX12_shifts_15 hl (k := 0) rfl (nI_add _ 1) (by decide) rfl (fun ls hl => ?_)
    refine lv_goto (tgt := 2) hx hb dX12_shifts_18 (by decide) ?_
    exact ih7 () (trivial) H locs ls (zcong (by (try dsimp only); rw [zsf_s _ (by assumption)]) (hw.sub (w0 := [(h1, .inl (ct 0, n1, .inl (upd (zsf f n i1) i1 ((zsf f n i1) (n + i1)))))]) [0] rfl rfl)) hS (lv_sub hl [0, 1, 2] rfl)

set_option maxHeartbeats 4000000 in
set_option maxRecDepth 100000 in
/-- shiftsNames -/
theorem c_shiftsN (l : Launch) (D : va_G) (ct : Nat → ClassId) (h1 : Nat) (f : Nat → Int64)  : zC l yX12_shiftsNames wsX12_shiftsNames ({ frames := 1, cells := 0, slots := 0, locals := 80 }) D ct [] [.ref h1] [(h1, .inl (ct 1, 12, .inr (.inl f)))] (S := Unit) (fun _ => none) (fun _ => True) (fun _ => [(h1, .inl (ct 1, 12, .inr (.inl (zsL f 6 6))))]) 0 0 := by
  refine zofW cX12_shiftsNames 2 none (by decide) rfl (Nat.le_of_ble_eq_true rfl) ?_
  intro p e s m below meth c A hx hb hr hml hts hown hlocks hname hK hA hZ hN H locs hw hS ls hl
  have hown : s.vm.findClass RX12 = some m.cls := hown
  have hl : lv_has ls 2 [(0, .ref h1)] := hl
  refine lv_iconst (v := 0) hx hb dX12_shiftsNames_0 (by decide) ?_
  refine lv_istore_n (lv' := [(1, .int 0), (0, .ref h1)]) hx hb dX12_shiftsNames_1 rfl hl (by decide) rfl (fun ls hl => ?_)
  refine zloop (σ := Unit) (nL := 2) (st := []) (fun i _ => True) (fun i _ => [(h1, .inl (ct 1, 12, .inr (.inl (zsL f 6 i))))]) (fun i _ => [(1, .int (nI i)), (0, .ref h1)]) (fun _ => 0) (fun _ => 0) 6 ?_ ?_ 0 () (Nat.zero_le _) (trivial) H locs ls (zcong (by (try dsimp only); rw [zsL_0]) (hw.sub (w0 := [(h1, .inl (ct 1, 12, .inr (.inl f)))]) [0] rfl rfl)) hS (lv_sub hl [0, 1] rfl)
  · intro x2 hI3 H locs ls hw hS hl
    have hw : zPD D A [(h1, .inl (ct 1, 12, .inr (.inl (zsL f 6 6))))] H := hw
    have hl : lv_has ls 2 [(1, .int (nI 6)), (0, .ref h1)] := hl
    refine lv_iload_n hx hb dX12_shiftsNames_2 rfl (lv_at hl 0 rfl) ?_
    refine lv_bipush (v := 6) hx hb dX12_shiftsNames_3 (by decide) ?_
    refine lv_icmp_ge (tgt := 23) hx hb dX12_shiftsNames_5 (by decide) (fun _ => ?_) (fun h => absurd (by decide) h)
    exact zvret hx hb hr hlocks () rfl (trivial) hw [0] rfl (rfl) hS (Nat.le_of_ble_eq_true rfl) (Nat.le_of_ble_eq_true rfl) dX12_shiftsNames_23
  · intro i1 x5 hlt8 hI6 ih7 H locs ls hw hS hl
    have hw : zPD D A [(h1, .inl (ct 1, 12, .inr (.inl (zsL f 6 i1))))] H := hw
    have hl : lv_has ls 2 [(1, .int (nI i1)), (0, .ref h1)] := hl
    refine lv_iload_n hx hb dX12_shiftsNames_2 rfl (lv_at hl 0 rfl) ?_
    refine lv_bipush (v := 6) hx hb dX12_shiftsNames_3 (by decide) ?_
    refine lv_icmp_ge (tgt := 23) hx hb dX12_shiftsNames_5 (by decide) (fun h => absurd h (nI_ge hlt8 (by decide))) (fun _ => ?_)
    refine lv_aload_n hx hb dX12_shiftsNames_8 rfl (lv_at hl 1 rfl) ?_
    refine lv_iload_n hx hb dX12_shiftsNames_9 rfl (lv_at hl 0 rfl) ?_
    refine lv_aload_n hx hb dX12_shiftsNames_10 rfl (lv_at hl 1 rfl) ?_
    refine lv_bipush (v := 6) hx hb dX12_shiftsNames_11 (by decide) ?_
    refine lv_iload_n hx hb dX12_shiftsNames_13 rfl (lv_at hl 0 rfl) ?_
    refine lv_iadd hx hb dX12_shiftsNames_14 ?_
    refine ztop (.int (nI (6 + i1))) (congrArg Value.int (nI_add _ _)) ?_
    refine zlald hx hb hK hw 0 rfl (6 + i1) rfl (by omega) (by omega) dX12_shiftsNames_15 ?_
    refine zlast hx hb hK hw hS 0 rfl i1 rfl (by omega) (by omega) dX12_shiftsNames_16 [(h1, .inl (ct 1, 12, .inr (.inl (vp_updL (zsL f 6 i1) i1 ((zsL f 6 i1) (6 + i1))))))] rfl (fun H locs hw hS => ?_)
    refine lv_iinc (v := nI (i1 + 1)) (lv' := [(1, .int (nI (i1 + 1))), (0, .ref h1)]) hx hb dX12_shiftsNames_17 hl (k := 0) rfl (nI_add _ 1) (by decide) rfl (fun ls hl => ?_)
    refine lv_goto (tgt := 2) hx hb dX12_shiftsNames_20 (by decide) ?_
    exact ih7 () (trivial) H locs ls (zcong (by (try dsimp only); rw [zsL_s _ (by assumption)]) (hw.sub (w0 := [(h1, .inl (ct 1, 12, .inr (.inl (vp_updL (zsL f 6 i1) i1 ((zsL f 6 i1) (6 + i1))))))]) [0] rfl rfl)) hS (lv_sub hl [0, 1] rfl)

set_option maxHeartbeats 4000000 in
set_option maxRecDepth 100000 in
/-- nobody and nothing is told -/
theorem c_isTown12 (l : Launch) (D : va_G) (ct : Nat → ClassId) (h0 : Nat) (y : Nat → Nat) (t : Int32)  : zC l yX12_isTown wsX12_isTown ({ frames := 1, cells := 0, slots := 0, locals := 80 }) D ct [] [.ref h0, .int t] [(h0, .inr (11, [.int 0, .int 0, .ref (y 0), .int 0, .int 0, .int 0, .int 0, .long 0, .int 0, .int 0, .ref (y 1), .ref (y 2), .ref (y 3), .ref (y 4), .ref (y 5), .ref (y 6), .ref (y 7), .ref (y 8), .ref (y 9), .ref (y 10), .ref (y 11), .ref (y 12), .int 0, .int 0, .ref (y 13), .ref (y 14), .ref (y 15), .ref (y 16), .ref (y 17), .ref (y 18), .ref (y 19), .ref (y 20), .ref (y 21), .ref (y 22), .ref (y 23), .ref (y 24), .int 0, .long 0, .ref (y 25), .ref (y 26), .ref (y 27), .ref (y 28), .ref (y 29), .ref (y 30), .ref (y 31), .ref (y 32), .ref (y 33), .ref (y 34), .ref (y 35), .ref (y 36), .ref (y 37), .int 0, .int 0, .ref (y 38), .long 0, .int 0, .int 0])), (y 1, .inl (ct 0, 8, .inl (upd (upd (fun _ => 0) 2 1) 3 2)))] (S := Unit) (fun _ => some (.int 0)) (fun _ => True) (fun _ => [(h0, .inr (11, [.int 0, .int 0, .ref (y 0), .int 0, .int 0, .int 0, .int 0, .long 0, .int 0, .int 0, .ref (y 1), .ref (y 2), .ref (y 3), .ref (y 4), .ref (y 5), .ref (y 6), .ref (y 7), .ref (y 8), .ref (y 9), .ref (y 10), .ref (y 11), .ref (y 12), .int 0, .int 0, .ref (y 13), .ref (y 14), .ref (y 15), .ref (y 16), .ref (y 17), .ref (y 18), .ref (y 19), .ref (y 20), .ref (y 21), .ref (y 22), .ref (y 23), .ref (y 24), .int 0, .long 0, .ref (y 25), .ref (y 26), .ref (y 27), .ref (y 28), .ref (y 29), .ref (y 30), .ref (y 31), .ref (y 32), .ref (y 33), .ref (y 34), .ref (y 35), .ref (y 36), .ref (y 37), .int 0, .int 0, .ref (y 38), .long 0, .int 0, .int 0])), (y 1, .inl (ct 0, 8, .inl (upd (upd (fun _ => 0) 2 1) 3 2)))]) 0 0 := by
  refine zofW cX12_isTown 2 (some .boolean) (by decide) rfl (Nat.le_of_ble_eq_true rfl) ?_
  intro p e s m below meth c A hx hb hr hml hts hown hlocks hname hK hA hZ hN H locs hw hS ls hl
  have hown : s.vm.findClass RX12 = some m.cls := hown
  have hl : lv_has ls 2 [(0, .ref h0), (1, .int t)] := hl
  have hiX12 : ∀ w ∈ wsX120, w ∈ wsX12_isTown := by decide +kernel
  refine lv_iload_n hx hb dX12_isTown_0 rfl (lv_at hl 1 rfl) ?_
  refine lv_if_lt (tgt := 18) hx hb dX12_isTown_1 (by decide) (fun c_1 => ?_) (fun c_1 => ?_)
  · refine lv_iconst (v := 0) hx hb dX12_isTown_18 (by decide) ?_
    exact ziret hx hb hr (rfl) hlocks () (rfl) (trivial) hw [0, 1] rfl (rfl) hS (Nat.le_of_ble_eq_true rfl) (Nat.le_of_ble_eq_true rfl) dX12_isTown_19
  · refine lv_iload_n hx hb dX12_isTown_4 rfl (lv_at hl 1 rfl) ?_
    refine lv_aload_n hx hb dX12_isTown_5 rfl (lv_at hl 0 rfl) ?_
    refine va_get (D := D) (ci := 11) (v := .ref (y 1)) hx hb hts hiX12 hown hK hw.1 0 rfl rfl 10 (by decide) (hts (.fieldLink RX12 13 "BeardPassModel" "land" "[I") (by decide +kernel)) (fun _ h9 => h9) rfl dX12_isTown_6 ?_
    refine lv_iconst (v := 0) hx hb dX12_isTown_9 (by decide) ?_
    refine ziald hx hb hK hw 1 rfl 0 (by decide) (by decide) (by decide) dX12_isTown_10 ?_
    refine ztop (.int 0) rfl ?_
    refine lv_icmp_ge (tgt := 18) hx hb dX12_isTown_11 (by decide) (fun _ => ?_) (fun h => absurd (Int32.not_lt.mp c_1) h)
    refine lv_iconst (v := 0) hx hb dX12_isTown_18 (by decide) ?_
    exact ziret hx hb hr (rfl) hlocks () (rfl) (trivial) hw [0, 1] rfl (rfl) hS (Nat.le_of_ble_eq_true rfl) (Nat.le_of_ble_eq_true rfl) dX12_isTown_19

set_option maxHeartbeats 4000000 in
set_option maxRecDepth 100000 in
/-- nobody and nothing is told -/
theorem c_isPerson12 (l : Launch) (D : va_G) (ct : Nat → ClassId) (h0 : Nat) (y : Nat → Nat) (t : Int32)  : zC l yX12_isPerson wsX12_isPerson ({ frames := 1, cells := 0, slots := 0, locals := 80 }) D ct [] [.ref h0, .int t] [(h0, .inr (11, [.int 0, .int 0, .ref (y 0), .int 0, .int 0, .int 0, .int 0, .long 0, .int 0, .int 0, .ref (y 1), .ref (y 2), .ref (y 3), .ref (y 4), .ref (y 5), .ref (y 6), .ref (y 7), .ref (y 8), .ref (y 9), .ref (y 10), .ref (y 11), .ref (y 12), .int 0, .int 0, .ref (y 13), .ref (y 14), .ref (y 15), .ref (y 16), .ref (y 17), .ref (y 18), .ref (y 19), .ref (y 20), .ref (y 21), .ref (y 22), .ref (y 23), .ref (y 24), .int 0, .long 0, .ref (y 25), .ref (y 26), .ref (y 27), .ref (y 28), .ref (y 29), .ref (y 30), .ref (y 31), .ref (y 32), .ref (y 33), .ref (y 34), .ref (y 35), .ref (y 36), .ref (y 37), .int 0, .int 0, .ref (y 38), .long 0, .int 0, .int 0])), (y 1, .inl (ct 0, 8, .inl (upd (upd (fun _ => 0) 2 1) 3 2)))] (S := Unit) (fun _ => some (.int 0)) (fun _ => True) (fun _ => [(h0, .inr (11, [.int 0, .int 0, .ref (y 0), .int 0, .int 0, .int 0, .int 0, .long 0, .int 0, .int 0, .ref (y 1), .ref (y 2), .ref (y 3), .ref (y 4), .ref (y 5), .ref (y 6), .ref (y 7), .ref (y 8), .ref (y 9), .ref (y 10), .ref (y 11), .ref (y 12), .int 0, .int 0, .ref (y 13), .ref (y 14), .ref (y 15), .ref (y 16), .ref (y 17), .ref (y 18), .ref (y 19), .ref (y 20), .ref (y 21), .ref (y 22), .ref (y 23), .ref (y 24), .int 0, .long 0, .ref (y 25), .ref (y 26), .ref (y 27), .ref (y 28), .ref (y 29), .ref (y 30), .ref (y 31), .ref (y 32), .ref (y 33), .ref (y 34), .ref (y 35), .ref (y 36), .ref (y 37), .int 0, .int 0, .ref (y 38), .long 0, .int 0, .int 0])), (y 1, .inl (ct 0, 8, .inl (upd (upd (fun _ => 0) 2 1) 3 2)))]) 0 0 := by
  refine zofW cX12_isPerson 2 (some .boolean) (by decide) rfl (Nat.le_of_ble_eq_true rfl) ?_
  intro p e s m below meth c A hx hb hr hml hts hown hlocks hname hK hA hZ hN H locs hw hS ls hl
  have hown : s.vm.findClass RX12 = some m.cls := hown
  have hl : lv_has ls 2 [(0, .ref h0), (1, .int t)] := hl
  have hiX12 : ∀ w ∈ wsX120, w ∈ wsX12_isPerson := by decide +kernel
  refine lv_iload_n hx hb dX12_isPerson_0 rfl (lv_at hl 1 rfl) ?_
  refine lv_if_lt (tgt := 18) hx hb dX12_isPerson_1 (by decide) (fun c_1 => ?_) (fun c_1 => ?_)
  · refine lv_iconst (v := 0) hx hb dX12_isPerson_18 (by decide) ?_
    exact ziret hx hb hr (rfl) hlocks () (rfl) (trivial) hw [0, 1] rfl (rfl) hS (Nat.le_of_ble_eq_true rfl) (Nat.le_of_ble_eq_true rfl) dX12_isPerson_19
  · refine lv_iload_n hx hb dX12_isPerson_4 rfl (lv_at hl 1 rfl) ?_
    refine lv_aload_n hx hb dX12_isPerson_5 rfl (lv_at hl 0 rfl) ?_
    refine va_get (D := D) (ci := 11) (v := .ref (y 1)) hx hb hts hiX12 hown hK hw.1 0 rfl rfl 10 (by decide) (hts (.fieldLink RX12 13 "BeardPassModel" "land" "[I") (by decide +kernel)) (fun _ h9 => h9) rfl dX12_isPerson_6 ?_
    refine lv_iconst (v := 1) hx hb dX12_isPerson_9 (by decide) ?_
    refine ziald hx hb hK hw 1 rfl 1 (by decide) (by decide) (by decide) dX12_isPerson_10 ?_
    refine ztop (.int 0) rfl ?_
    refine lv_icmp_ge (tgt := 18) hx hb dX12_isPerson_11 (by decide) (fun _ => ?_) (fun h => absurd (Int32.not_lt.mp c_1) h)
    refine lv_iconst (v := 0) hx hb dX12_isPerson_18 (by decide) ?_
    exact ziret hx hb hr (rfl) hlocks () (rfl) (trivial) hw [0, 1] rfl (rfl) hS (Nat.le_of_ble_eq_true rfl) (Nat.le_of_ble_eq_true rfl) dX12_isPerson_19

set_option maxHeartbeats 4000000 in
set_option maxRecDepth 100000 in
/-- person on a new object -/
theorem r_person (l : Launch) (D : va_G) (ct : Nat → ClassId) (h0 : Nat) (y : Nat → Nat) (p1 : Int32) (p2 : Int32)  : zC l yX12_person wsX12_person ({ frames := 2, cells := 0, slots := 0, locals := 120 }) D ct [] [.ref h0, .int p1, .int p2] [(h0, .inr (11, [.int 0, .int 0, .ref (y 0), .int 0, .int 0, .int 0, .int 0, .long 0, .int 0, .int 0, .ref (y 1), .ref (y 2), .ref (y 3), .ref (y 4), .ref (y 5), .ref (y 6), .ref (y 7), .ref (y 8), .ref (y 9), .ref (y 10), .ref (y 11), .ref (y 12), .int 0, .int 0, .ref (y 13), .ref (y 14), .ref (y 15), .ref (y 16), .ref (y 17), .ref (y 18), .ref (y 19), .ref (y 20), .ref (y 21), .ref (y 22), .ref (y 23), .ref (y 24), .int 0, .long 0, .ref (y 25), .ref (y 26), .ref (y 27), .ref (y 28), .ref (y 29), .ref (y 30), .ref (y 31), .ref (y 32), .ref (y 33), .ref (y 34), .ref (y 35), .ref (y 36), .ref (y 37), .int 0, .int 0, .ref (y 38), .long 0, .int 0, .int 0])), (y 1, .inl (ct 0, 8, .inl (upd (upd (fun _ => 0) 2 1) 3 2)))] (S := Unit) (fun _ => some (.int (-1))) (fun _ => True) (fun _ => [(h0, .inr (11, [.int 0, .int 0, .ref (y 0), .int 0, .int 0, .int 0, .int 0, .long 0, .int 0, .int 0, .ref (y 1), .ref (y 2), .ref (y 3), .ref (y 4), .ref (y 5), .ref (y 6), .ref (y 7), .ref (y 8), .ref (y 9), .ref (y 10), .ref (y 11), .ref (y 12), .int 0, .int 0, .ref (y 13), .ref (y 14), .ref (y 15), .ref (y 16), .ref (y 17), .ref (y 18), .ref (y 19), .ref (y 20), .ref (y 21), .ref (y 22), .ref (y 23), .ref (y 24), .int 0, .long 0, .ref (y 25), .ref (y 26), .ref (y 27), .ref (y 28), .ref (y 29), .ref (y 30), .ref (y 31), .ref (y 32), .ref (y 33), .ref (y 34), .ref (y 35), .ref (y 36), .ref (y 37), .int 0, .int 0, .ref (y 38), .long 0, .int 0, .int 0])), (y 1, .inl (ct 0, 8, .inl (upd (upd (fun _ => 0) 2 1) 3 2)))]) 0 0 := by
  refine zofW cX12_person 3 (some .int) (by decide) rfl (Nat.le_of_ble_eq_true rfl) ?_
  intro p e s m below meth c A hx hb hr hml hts hown hlocks hname hK hA hZ hN H locs hw hS ls hl
  have hown : s.vm.findClass RX12 = some m.cls := hown
  have hl : lv_has ls 3 [(0, .ref h0), (1, .int p1), (2, .int p2)] := hl
  have hiX12 : ∀ w ∈ wsX120, w ∈ wsX12_person := by decide +kernel
  refine lv_aload_n hx hb dX12_person_0 rfl (lv_at hl 0 rfl) ?_
  refine lv_iconst (v := 0) hx hb dX12_person_1 (by decide) ?_
  refine zput (D := D) (ci := 11) (v := .int 0) (ty := .int) hx hb hts hiX12 tyX12 tyX12_ok nmX12 hown hK hw hS 0 rfl rfl 0 (by decide) (hts (.fieldLink RX12 129 "BeardPassModel" "thrown" "I") (by decide +kernel)) (fun _ h9 => h9) rfl (by decide +kernel) rfl rfl (Nat.le_of_ble_eq_true rfl) dX12_person_2 [(h0, .inr (11, [.int 0, .int 0, .ref (y 0), .int 0, .int 0, .int 0, .int 0, .long 0, .int 0, .int 0, .ref (y 1), .ref (y 2), .ref (y 3), .ref (y 4), .ref (y 5), .ref (y 6), .ref (y 7), .ref (y 8), .ref (y 9), .ref (y 10), .ref (y 11), .ref (y 12), .int 0, .int 0, .ref (y 13), .ref (y 14), .ref (y 15), .ref (y 16), .ref (y 17), .ref (y 18), .ref (y 19), .ref (y 20), .ref (y 21), .ref (y 22), .ref (y 23), .ref (y 24), .int 0, .long 0, .ref (y 25), .ref (y 26), .ref (y 27), .ref (y 28), .ref (y 29), .ref (y 30), .ref (y 31), .ref (y 32), .ref (y 33), .ref (y 34), .ref (y 35), .ref (y 36), .ref (y 37), .int 0, .int 0, .ref (y 38), .long 0, .int 0, .int 0])), (y 1, .inl (ct 0, 8, .inl (upd (upd (fun _ => 0) 2 1) 3 2)))] rfl (fun H locs hw hS => ?_)
  refine lv_aload_n hx hb dX12_person_5 rfl (lv_at hl 0 rfl) ?_
  refine lv_iload_n hx hb dX12_person_6 rfl (lv_at hl 1 rfl) ?_
  refine zcall2 (va_runV (As := [.int p1]) (rest := []) ⟨hx, hb, hml, hown, hts⟩ (c_isPerson12 l D ct h0 y p1 H.size) (cwV 1 hts gX12_person_X12_isPerson rfl rfl rfl (by decide +kernel) ⟨Nat.le_of_ble_eq_true rfl, Nat.le_of_ble_eq_true rfl⟩) (zpreV hK hw hS hA zZ.nil hN [0, 1] rfl rfl 11 0 rfl rfl) rfl rfl hl.1 rfl (lv_room (Nat.le_of_ble_eq_true rfl)) dX12_person_7 ⟨Nat.le_of_ble_eq_true rfl, Nat.le_of_ble_eq_true rfl⟩) hw hS hA [0, 1] [] rfl rfl rfl rfl (fun _ H locs hp1 hw hS => ?_)
  have hw : zPD D A [(h0, .inr (11, [.int 0, .int 0, .ref (y 0), .int 0, .int 0, .int 0, .int 0, .long 0, .int 0, .int 0, .ref (y 1), .ref (y 2), .ref (y 3), .ref (y 4), .ref (y 5), .ref (y 6), .ref (y 7), .ref (y 8), .ref (y 9), .ref (y 10), .ref (y 11), .ref (y 12), .int 0, .int 0, .ref (y 13), .ref (y 14), .ref (y 15), .ref (y 16), .ref (y 17), .ref (y 18), .ref (y 19), .ref (y 20), .ref (y 21), .ref (y 22), .ref (y 23), .ref (y 24), .int 0, .long 0, .ref (y 25), .ref (y 26), .ref (y 27), .ref (y 28), .ref (y 29), .ref (y 30), .ref (y 31), .ref (y 32), .ref (y 33), .ref (y 34), .ref (y 35), .ref (y 36), .ref (y 37), .int 0, .int 0, .ref (y 38), .long 0, .int 0, .int 0])), (y 1, .inl (ct 0, 8, .inl (upd (upd (fun _ => 0) 2 1) 3 2)))] H := hw
  refine zfr 10 [.int 0] rfl rfl ?_
  refine lv_if_eq (tgt := 22) hx hb dX12_person_10 (by decide) (fun _ => ?_) (fun h => absurd (by decide) h)
  refine lv_iconst (v := (-1)) hx hb dX12_person_22 (by decide) ?_
  exact ziret hx hb hr (rfl) hlocks () (rfl) (trivial) hw [0, 1] rfl (rfl) hS (Nat.le_of_ble_eq_true rfl) (Nat.le_of_ble_eq_true rfl) dX12_person_23

set_option maxHeartbeats 4000000 in
set_option maxRecDepth 100000 in
/-- town on a new object -/
theorem r_town (l : Launch) (D : va_G) (ct : Nat → ClassId) (h0 : Nat) (y : Nat → Nat) (p1 : Int32) (p2 : Int32)  : zC l yX12_town wsX12_town ({ frames := 2, cells := 0, slots := 0, locals := 120 }) D ct [] [.ref h0, .int p1, .int p2] [(h0, .inr (11, [.int 0, .int 0, .ref (y 0), .int 0, .int 0, .int 0, .int 0, .long 0, .int 0, .int 0, .ref (y 1), .ref (y 2), .ref (y 3), .ref (y 4), .ref (y 5), .ref (y 6), .ref (y 7), .ref (y 8), .ref (y 9), .ref (y 10), .ref (y 11), .ref (y 12), .int 0, .int 0, .ref (y 13), .ref (y 14), .ref (y 15), .ref (y 16), .ref (y 17), .ref (y 18), .ref (y 19), .ref (y 20), .ref (y 21), .ref (y 22), .ref (y 23), .ref (y 24), .int 0, .long 0, .ref (y 25), .ref (y 26), .ref (y 27), .ref (y 28), .ref (y 29), .ref (y 30), .ref (y 31), .ref (y 32), .ref (y 33), .ref (y 34), .ref (y 35), .ref (y 36), .ref (y 37), .int 0, .int 0, .ref (y 38), .long 0, .int 0, .int 0])), (y 1, .inl (ct 0, 8, .inl (upd (upd (fun _ => 0) 2 1) 3 2)))] (S := Unit) (fun _ => some (.int (-1))) (fun _ => True) (fun _ => [(h0, .inr (11, [.int 0, .int 0, .ref (y 0), .int 0, .int 0, .int 0, .int 0, .long 0, .int 0, .int 0, .ref (y 1), .ref (y 2), .ref (y 3), .ref (y 4), .ref (y 5), .ref (y 6), .ref (y 7), .ref (y 8), .ref (y 9), .ref (y 10), .ref (y 11), .ref (y 12), .int 0, .int 0, .ref (y 13), .ref (y 14), .ref (y 15), .ref (y 16), .ref (y 17), .ref (y 18), .ref (y 19), .ref (y 20), .ref (y 21), .ref (y 22), .ref (y 23), .ref (y 24), .int 0, .long 0, .ref (y 25), .ref (y 26), .ref (y 27), .ref (y 28), .ref (y 29), .ref (y 30), .ref (y 31), .ref (y 32), .ref (y 33), .ref (y 34), .ref (y 35), .ref (y 36), .ref (y 37), .int 0, .int 0, .ref (y 38), .long 0, .int 0, .int 0])), (y 1, .inl (ct 0, 8, .inl (upd (upd (fun _ => 0) 2 1) 3 2)))]) 0 0 := by
  refine zofW cX12_town 3 (some .int) (by decide) rfl (Nat.le_of_ble_eq_true rfl) ?_
  intro p e s m below meth c A hx hb hr hml hts hown hlocks hname hK hA hZ hN H locs hw hS ls hl
  have hown : s.vm.findClass RX12 = some m.cls := hown
  have hl : lv_has ls 3 [(0, .ref h0), (1, .int p1), (2, .int p2)] := hl
  have hiX12 : ∀ w ∈ wsX120, w ∈ wsX12_town := by decide +kernel
  refine lv_aload_n hx hb dX12_town_0 rfl (lv_at hl 0 rfl) ?_
  refine lv_iconst (v := 0) hx hb dX12_town_1 (by decide) ?_
  refine zput (D := D) (ci := 11) (v := .int 0) (ty := .int) hx hb hts hiX12 tyX12 tyX12_ok nmX12 hown hK hw hS 0 rfl rfl 0 (by decide) (hts (.fieldLink RX12 129 "BeardPassModel" "thrown" "I") (by decide +kernel)) (fun _ h9 => h9) rfl (by decide +kernel) rfl rfl (Nat.le_of_ble_eq_true rfl) dX12_town_2 [(h0, .inr (11, [.int 0, .int 0, .ref (y 0), .int 0, .int 0, .int 0, .int 0, .long 0, .int 0, .int 0, .ref (y 1), .ref (y 2), .ref (y 3), .ref (y 4), .ref (y 5), .ref (y 6), .ref (y 7), .ref (y 8), .ref (y 9), .ref (y 10), .ref (y 11), .ref (y 12), .int 0, .int 0, .ref (y 13), .ref (y 14), .ref (y 15), .ref (y 16), .ref (y 17), .ref (y 18), .ref (y 19), .ref (y 20), .ref (y 21), .ref (y 22), .ref (y 23), .ref (y 24), .int 0, .long 0, .ref (y 25), .ref (y 26), .ref (y 27), .ref (y 28), .ref (y 29), .ref (y 30), .ref (y 31), .ref (y 32), .ref (y 33), .ref (y 34), .ref (y 35), .ref (y 36), .ref (y 37), .int 0, .int 0, .ref (y 38), .long 0, .int 0, .int 0])), (y 1, .inl (ct 0, 8, .inl (upd (upd (fun _ => 0) 2 1) 3 2)))] rfl (fun H locs hw hS => ?_)
  refine lv_aload_n hx hb dX12_town_5 rfl (lv_at hl 0 rfl) ?_
  refine lv_iload_n hx hb dX12_town_6 rfl (lv_at hl 1 rfl) ?_
  refine zcall2 (va_runV (As := [.int p1]) (rest := []) ⟨hx, hb, hml, hown, hts⟩ (c_isTown12 l D ct h0 y p1 H.size) (cwV 1 hts gX12_town_X12_isTown rfl rfl rfl (by decide +kernel) ⟨Nat.le_of_ble_eq_true rfl, Nat.le_of_ble_eq_true rfl⟩) (zpreV hK hw hS hA zZ.nil hN [0, 1] rfl rfl 11 0 rfl rfl) rfl rfl hl.1 rfl (lv_room (Nat.le_of_ble_eq_true rfl)) dX12_town_7 ⟨Nat.le_of_ble_eq_true rfl, Nat.le_of_ble_eq_true rfl⟩) hw hS hA [0, 1] [] rfl rfl rfl rfl (fun _ H locs hp1 hw hS => ?_)
  have hw : zPD D A [(h0, .inr (11, [.int 0, .int 0, .ref (y 0), .int 0, .int 0, .int 0, .int 0, .long 0, .int 0, .int 0, .ref (y 1), .ref (y 2), .ref (y 3), .ref (y 4), .ref (y 5), .ref (y 6), .ref (y 7), .ref (y 8), .ref (y 9), .ref (y 10), .ref (y 11), .ref (y 12), .int 0, .int 0, .ref (y 13), .ref (y 14), .ref (y 15), .ref (y 16), .ref (y 17), .ref (y 18), .ref (y 19), .ref (y 20), .ref (y 21), .ref (y 22), .ref (y 23), .ref (y 24), .int 0, .long 0, .ref (y 25), .ref (y 26), .ref (y 27), .ref (y 28), .ref (y 29), .ref (y 30), .ref (y 31), .ref (y 32), .ref (y 33), .ref (y 34), .ref (y 35), .ref (y 36), .ref (y 37), .int 0, .int 0, .ref (y 38), .long 0, .int 0, .int 0])), (y 1, .inl (ct 0, 8, .inl (upd (upd (fun _ => 0) 2 1) 3 2)))] H := hw
  refine zfr 10 [.int 0] rfl rfl ?_
  refine lv_if_eq (tgt := 22) hx hb dX12_town_10 (by decide) (fun _ => ?_) (fun h => absurd (by decide) h)
  refine lv_iconst (v := (-1)) hx hb dX12_town_22 (by decide) ?_
  exact ziret hx hb hr (rfl) hlocks () (rfl) (trivial) hw [0, 1] rfl (rfl) hS (Nat.le_of_ble_eq_true rfl) (Nat.le_of_ble_eq_true rfl) dX12_town_23

set_option maxHeartbeats 4000000 in
set_option maxRecDepth 100000 in
/-- go on a new object -/
theorem r_go (l : Launch) (D : va_G) (ct : Nat → ClassId) (h0 : Nat) (y : Nat → Nat) (p1 : Int32) (p2 : Int32)  : zC l yX12_go wsX12_go ({ frames := 2, cells := 0, slots := 0, locals := 120 }) D ct [] [.ref h0, .int p1, .int p2] [(h0, .inr (11, [.int 0, .int 0, .ref (y 0), .int 0, .int 0, .int 0, .int 0, .long 0, .int 0, .int 0, .ref (y 1), .ref (y 2), .ref (y 3), .ref (y 4), .ref (y 5), .ref (y 6), .ref (y 7), .ref (y 8), .ref (y 9), .ref (y 10), .ref (y 11), .ref (y 12), .int 0, .int 0, .ref (y 13), .ref (y 14), .ref (y 15), .ref (y 16), .ref (y 17), .ref (y 18), .ref (y 19), .ref (y 20), .ref (y 21), .ref (y 22), .ref (y 23), .ref (y 24), .int 0, .long 0, .ref (y 25), .ref (y 26), .ref (y 27), .ref (y 28), .ref (y 29), .ref (y 30), .ref (y 31), .ref (y 32), .ref (y 33), .ref (y 34), .ref (y 35), .ref (y 36), .ref (y 37), .int 0, .int 0, .ref (y 38), .long 0, .int 0, .int 0])), (y 1, .inl (ct 0, 8, .inl (upd (upd (fun _ => 0) 2 1) 3 2)))] (S := Unit) (fun _ => some (.int 0)) (fun _ => True) (fun _ => [(h0, .inr (11, [.int 0, .int 0, .ref (y 0), .int 0, .int 0, .int 0, .int 0, .long 0, .int 0, .int 0, .ref (y 1), .ref (y 2), .ref (y 3), .ref (y 4), .ref (y 5), .ref (y 6), .ref (y 7), .ref (y 8), .ref (y 9), .ref (y 10), .ref (y 11), .ref (y 12), .int 0, .int 0, .ref (y 13), .ref (y 14), .ref (y 15), .ref (y 16), .ref (y 17), .ref (y 18), .ref (y 19), .ref (y 20), .ref (y 21), .ref (y 22), .ref (y 23), .ref (y 24), .int 0, .long 0, .ref (y 25), .ref (y 26), .ref (y 27), .ref (y 28), .ref (y 29), .ref (y 30), .ref (y 31), .ref (y 32), .ref (y 33), .ref (y 34), .ref (y 35), .ref (y 36), .ref (y 37), .int 0, .int 0, .ref (y 38), .long 0, .int 0, .int 0])), (y 1, .inl (ct 0, 8, .inl (upd (upd (fun _ => 0) 2 1) 3 2)))]) 0 0 := by
  refine zofW cX12_go 3 (some .boolean) (by decide) rfl (Nat.le_of_ble_eq_true rfl) ?_
  intro p e s m below meth c A hx hb hr hml hts hown hlocks hname hK hA hZ hN H locs hw hS ls hl
  have hown : s.vm.findClass RX12 = some m.cls := hown
  have hl : lv_has ls 3 [(0, .ref h0), (1, .int p1), (2, .int p2)] := hl
  have hiX12 : ∀ w ∈ wsX120, w ∈ wsX12_go := by decide +kernel
  refine lv_aload_n hx hb dX12_go_0 rfl (lv_at hl 0 rfl) ?_
  refine lv_iconst (v := 0) hx hb dX12_go_1 (by decide) ?_
  refine zput (D := D) (ci := 11) (v := .int 0) (ty := .int) hx hb hts hiX12 tyX12 tyX12_ok nmX12 hown hK hw hS 0 rfl rfl 0 (by decide) (hts (.fieldLink RX12 129 "BeardPassModel" "thrown" "I") (by decide +kernel)) (fun _ h9 => h9) rfl (by decide +kernel) rfl rfl (Nat.le_of_ble_eq_true rfl) dX12_go_2 [(h0, .inr (11, [.int 0, .int 0, .ref (y 0), .int 0, .int 0, .int 0, .int 0, .long 0, .int 0, .int 0, .ref (y 1), .ref (y 2), .ref (y 3), .ref (y 4), .ref (y 5), .ref (y 6), .ref (y 7), .ref (y 8), .ref (y 9), .ref (y 10), .ref (y 11), .ref (y 12), .int 0, .int 0, .ref (y 13), .ref (y 14), .ref (y 15), .ref (y 16), .ref (y 17), .ref (y 18), .ref (y 19), .ref (y 20), .ref (y 21), .ref (y 22), .ref (y 23), .ref (y 24), .int 0, .long 0, .ref (y 25), .ref (y 26), .ref (y 27), .ref (y 28), .ref (y 29), .ref (y 30), .ref (y 31), .ref (y 32), .ref (y 33), .ref (y 34), .ref (y 35), .ref (y 36), .ref (y 37), .int 0, .int 0, .ref (y 38), .long 0, .int 0, .int 0])), (y 1, .inl (ct 0, 8, .inl (upd (upd (fun _ => 0) 2 1) 3 2)))] rfl (fun H locs hw hS => ?_)
  refine lv_aload_n hx hb dX12_go_5 rfl (lv_at hl 0 rfl) ?_
  refine lv_iload_n hx hb dX12_go_6 rfl (lv_at hl 1 rfl) ?_
  refine zcall2 (va_runV (As := [.int p1]) (rest := []) ⟨hx, hb, hml, hown, hts⟩ (c_isPerson12 l D ct h0 y p1 H.size) (cwV 1 hts gX12_go_X12_isPerson rfl rfl rfl (by decide +kernel) ⟨Nat.le_of_ble_eq_true rfl, Nat.le_of_ble_eq_true rfl⟩) (zpreV hK hw hS hA zZ.nil hN [0, 1] rfl rfl 11 0 rfl rfl) rfl rfl hl.1 rfl (lv_room (Nat.le_of_ble_eq_true rfl)) dX12_go_7 ⟨Nat.le_of_ble_eq_true rfl, Nat.le_of_ble_eq_true rfl⟩) hw hS hA [0, 1] [] rfl rfl rfl rfl (fun _ H locs hp1 hw hS => ?_)
  have hw : zPD D A [(h0, .inr (11, [.int 0, .int 0, .ref (y 0), .int 0, .int 0, .int 0, .int 0, .long 0, .int 0, .int 0, .ref (y 1), .ref (y 2), .ref (y 3), .ref (y 4), .ref (y 5), .ref (y 6), .ref (y 7), .ref (y 8), .ref (y 9), .ref (y 10), .ref (y 11), .ref (y 12), .int 0, .int 0, .ref (y 13), .ref (y 14), .ref (y 15), .ref (y 16), .ref (y 17), .ref (y 18), .ref (y 19), .ref (y 20), .ref (y 21), .ref (y 22), .ref (y 23), .ref (y 24), .int 0, .long 0, .ref (y 25), .ref (y 26), .ref (y 27), .ref (y 28), .ref (y 29), .ref (y 30), .ref (y 31), .ref (y 32), .ref (y 33), .ref (y 34), .ref (y 35), .ref (y 36), .ref (y 37), .int 0, .int 0, .ref (y 38), .long 0, .int 0, .int 0])), (y 1, .inl (ct 0, 8, .inl (upd (upd (fun _ => 0) 2 1) 3 2)))] H := hw
  refine zfr 10 [.int 0] rfl rfl ?_
  refine lv_if_eq (tgt := 30) hx hb dX12_go_10 (by decide) (fun _ => ?_) (fun h => absurd (by decide) h)
  refine lv_iconst (v := 0) hx hb dX12_go_30 (by decide) ?_
  exact ziret hx hb hr (rfl) hlocks () (rfl) (trivial) hw [0, 1] rfl (rfl) hS (Nat.le_of_ble_eq_true rfl) (Nat.le_of_ble_eq_true rfl) dX12_go_31

set_option maxHeartbeats 4000000 in
set_option maxRecDepth 100000 in
/-- forge on a new object -/
theorem r_forge (l : Launch) (D : va_G) (ct : Nat → ClassId) (h0 : Nat) (y : Nat → Nat) (p1 : Int32) (p2 : Int32)  : zC l yX12_forge wsX12_forge ({ frames := 2, cells := 0, slots := 0, locals := 120 }) D ct [] [.ref h0, .int p1, .int p2] [(h0, .inr (11, [.int 0, .int 0, .ref (y 0), .int 0, .int 0, .int 0, .int 0, .long 0, .int 0, .int 0, .ref (y 1), .ref (y 2), .ref (y 3), .ref (y 4), .ref (y 5), .ref (y 6), .ref (y 7), .ref (y 8), .ref (y 9), .ref (y 10), .ref (y 11), .ref (y 12), .int 0, .int 0, .ref (y 13), .ref (y 14), .ref (y 15), .ref (y 16), .ref (y 17), .ref (y 18), .ref (y 19), .ref (y 20), .ref (y 21), .ref (y 22), .ref (y 23), .ref (y 24), .int 0, .long 0, .ref (y 25), .ref (y 26), .ref (y 27), .ref (y 28), .ref (y 29), .ref (y 30), .ref (y 31), .ref (y 32), .ref (y 33), .ref (y 34), .ref (y 35), .ref (y 36), .ref (y 37), .int 0, .int 0, .ref (y 38), .long 0, .int 0, .int 0])), (y 1, .inl (ct 0, 8, .inl (upd (upd (fun _ => 0) 2 1) 3 2)))] (S := Unit) (fun _ => some (.int (-1))) (fun _ => True) (fun _ => [(h0, .inr (11, [.int 0, .int 0, .ref (y 0), .int 0, .int 0, .int 0, .int 0, .long 0, .int 0, .int 0, .ref (y 1), .ref (y 2), .ref (y 3), .ref (y 4), .ref (y 5), .ref (y 6), .ref (y 7), .ref (y 8), .ref (y 9), .ref (y 10), .ref (y 11), .ref (y 12), .int 0, .int 0, .ref (y 13), .ref (y 14), .ref (y 15), .ref (y 16), .ref (y 17), .ref (y 18), .ref (y 19), .ref (y 20), .ref (y 21), .ref (y 22), .ref (y 23), .ref (y 24), .int 0, .long 0, .ref (y 25), .ref (y 26), .ref (y 27), .ref (y 28), .ref (y 29), .ref (y 30), .ref (y 31), .ref (y 32), .ref (y 33), .ref (y 34), .ref (y 35), .ref (y 36), .ref (y 37), .int 0, .int 0, .ref (y 38), .long 0, .int 0, .int 0])), (y 1, .inl (ct 0, 8, .inl (upd (upd (fun _ => 0) 2 1) 3 2)))]) 0 0 := by
  refine zofW cX12_forge 3 (some .int) (by decide) rfl (Nat.le_of_ble_eq_true rfl) ?_
  intro p e s m below meth c A hx hb hr hml hts hown hlocks hname hK hA hZ hN H locs hw hS ls hl
  have hown : s.vm.findClass RX12 = some m.cls := hown
  have hl : lv_has ls 3 [(0, .ref h0), (1, .int p1), (2, .int p2)] := hl
  have hiX12 : ∀ w ∈ wsX120, w ∈ wsX12_forge := by decide +kernel
  refine lv_aload_n hx hb dX12_forge_0 rfl (lv_at hl 0 rfl) ?_
  refine lv_iconst (v := 0) hx hb dX12_forge_1 (by decide) ?_
  refine zput (D := D) (ci := 11) (v := .int 0) (ty := .int) hx hb hts hiX12 tyX12 tyX12_ok nmX12 hown hK hw hS 0 rfl rfl 0 (by decide) (hts (.fieldLink RX12 129 "BeardPassModel" "thrown" "I") (by decide +kernel)) (fun _ h9 => h9) rfl (by decide +kernel) rfl rfl (Nat.le_of_ble_eq_true rfl) dX12_forge_2 [(h0, .inr (11, [.int 0, .int 0, .ref (y 0), .int 0, .int 0, .int 0, .int 0, .long 0, .int 0, .int 0, .ref (y 1), .ref (y 2), .ref (y 3), .ref (y 4), .ref (y 5), .ref (y 6), .ref (y 7), .ref (y 8), .ref (y 9), .ref (y 10), .ref (y 11), .ref (y 12), .int 0, .int 0, .ref (y 13), .ref (y 14), .ref (y 15), .ref (y 16), .ref (y 17), .ref (y 18), .ref (y 19), .ref (y 20), .ref (y 21), .ref (y 22), .ref (y 23), .ref (y 24), .int 0, .long 0, .ref (y 25), .ref (y 26), .ref (y 27), .ref (y 28), .ref (y 29), .ref (y 30), .ref (y 31), .ref (y 32), .ref (y 33), .ref (y 34), .ref (y 35), .ref (y 36), .ref (y 37), .int 0, .int 0, .ref (y 38), .long 0, .int 0, .int 0])), (y 1, .inl (ct 0, 8, .inl (upd (upd (fun _ => 0) 2 1) 3 2)))] rfl (fun H locs hw hS => ?_)
  refine lv_aload_n hx hb dX12_forge_5 rfl (lv_at hl 0 rfl) ?_
  refine lv_iload_n hx hb dX12_forge_6 rfl (lv_at hl 1 rfl) ?_
  refine zcall2 (va_runV (As := [.int p1]) (rest := []) ⟨hx, hb, hml, hown, hts⟩ (c_isPerson12 l D ct h0 y p1 H.size) (cwV 1 hts gX12_forge_X12_isPerson rfl rfl rfl (by decide +kernel) ⟨Nat.le_of_ble_eq_true rfl, Nat.le_of_ble_eq_true rfl⟩) (zpreV hK hw hS hA zZ.nil hN [0, 1] rfl rfl 11 0 rfl rfl) rfl rfl hl.1 rfl (lv_room (Nat.le_of_ble_eq_true rfl)) dX12_forge_7 ⟨Nat.le_of_ble_eq_true rfl, Nat.le_of_ble_eq_true rfl⟩) hw hS hA [0, 1] [] rfl rfl rfl rfl (fun _ H locs hp1 hw hS => ?_)
  have hw : zPD D A [(h0, .inr (11, [.int 0, .int 0, .ref (y 0), .int 0, .int 0, .int 0, .int 0, .long 0, .int 0, .int 0, .ref (y 1), .ref (y 2), .ref (y 3), .ref (y 4), .ref (y 5), .ref (y 6), .ref (y 7), .ref (y 8), .ref (y 9), .ref (y 10), .ref (y 11), .ref (y 12), .int 0, .int 0, .ref (y 13), .ref (y 14), .ref (y 15), .ref (y 16), .ref (y 17), .ref (y 18), .ref (y 19), .ref (y 20), .ref (y 21), .ref (y 22), .ref (y 23), .ref (y 24), .int 0, .long 0, .ref (y 25), .ref (y 26), .ref (y 27), .ref (y 28), .ref (y 29), .ref (y 30), .ref (y 31), .ref (y 32), .ref (y 33), .ref (y 34), .ref (y 35), .ref (y 36), .ref (y 37), .int 0, .int 0, .ref (y 38), .long 0, .int 0, .int 0])), (y 1, .inl (ct 0, 8, .inl (upd (upd (fun _ => 0) 2 1) 3 2)))] H := hw
  refine zfr 10 [.int 0] rfl rfl ?_
  refine lv_if_eq (tgt := 32) hx hb dX12_forge_10 (by decide) (fun _ => ?_) (fun h => absurd (by decide) h)
  refine lv_iconst (v := (-1)) hx hb dX12_forge_32 (by decide) ?_
  exact ziret hx hb hr (rfl) hlocks () (rfl) (trivial) hw [0, 1] rfl (rfl) hS (Nat.le_of_ble_eq_true rfl) (Nat.le_of_ble_eq_true rfl) dX12_forge_33

set_option maxHeartbeats 4000000 in
set_option maxRecDepth 100000 in
/-- shave on a new object -/
theorem r_shave (l : Launch) (D : va_G) (ct : Nat → ClassId) (h0 : Nat) (y : Nat → Nat) (p1 : Int32)  : zC l yX12_shave wsX12_shave ({ frames := 2, cells := 0, slots := 0, locals := 120 }) D ct [] [.ref h0, .int p1] [(h0, .inr (11, [.int 0, .int 0, .ref (y 0), .int 0, .int 0, .int 0, .int 0, .long 0, .int 0, .int 0, .ref (y 1), .ref (y 2), .ref (y 3), .ref (y 4), .ref (y 5), .ref (y 6), .ref (y 7), .ref (y 8), .ref (y 9), .ref (y 10), .ref (y 11), .ref (y 12), .int 0, .int 0, .ref (y 13), .ref (y 14), .ref (y 15), .ref (y 16), .ref (y 17), .ref (y 18), .ref (y 19), .ref (y 20), .ref (y 21), .ref (y 22), .ref (y 23), .ref (y 24), .int 0, .long 0, .ref (y 25), .ref (y 26), .ref (y 27), .ref (y 28), .ref (y 29), .ref (y 30), .ref (y 31), .ref (y 32), .ref (y 33), .ref (y 34), .ref (y 35), .ref (y 36), .ref (y 37), .int 0, .int 0, .ref (y 38), .long 0, .int 0, .int 0])), (y 1, .inl (ct 0, 8, .inl (upd (upd (fun _ => 0) 2 1) 3 2)))] (S := Unit) (fun _ => some (.int 0)) (fun _ => True) (fun _ => [(h0, .inr (11, [.int 0, .int 0, .ref (y 0), .int 0, .int 0, .int 0, .int 0, .long 0, .int 0, .int 0, .ref (y 1), .ref (y 2), .ref (y 3), .ref (y 4), .ref (y 5), .ref (y 6), .ref (y 7), .ref (y 8), .ref (y 9), .ref (y 10), .ref (y 11), .ref (y 12), .int 0, .int 0, .ref (y 13), .ref (y 14), .ref (y 15), .ref (y 16), .ref (y 17), .ref (y 18), .ref (y 19), .ref (y 20), .ref (y 21), .ref (y 22), .ref (y 23), .ref (y 24), .int 0, .long 0, .ref (y 25), .ref (y 26), .ref (y 27), .ref (y 28), .ref (y 29), .ref (y 30), .ref (y 31), .ref (y 32), .ref (y 33), .ref (y 34), .ref (y 35), .ref (y 36), .ref (y 37), .int 0, .int 0, .ref (y 38), .long 0, .int 0, .int 0])), (y 1, .inl (ct 0, 8, .inl (upd (upd (fun _ => 0) 2 1) 3 2)))]) 0 0 := by
  refine zofW cX12_shave 2 (some .boolean) (by decide) rfl (Nat.le_of_ble_eq_true rfl) ?_
  intro p e s m below meth c A hx hb hr hml hts hown hlocks hname hK hA hZ hN H locs hw hS ls hl
  have hown : s.vm.findClass RX12 = some m.cls := hown
  have hl : lv_has ls 2 [(0, .ref h0), (1, .int p1)] := hl
  have hiX12 : ∀ w ∈ wsX120, w ∈ wsX12_shave := by decide +kernel
  refine lv_aload_n hx hb dX12_shave_0 rfl (lv_at hl 0 rfl) ?_
  refine lv_iconst (v := 0) hx hb dX12_shave_1 (by decide) ?_
  refine zput (D := D) (ci := 11) (v := .int 0) (ty := .int) hx hb hts hiX12 tyX12 tyX12_ok nmX12 hown hK hw hS 0 rfl rfl 0 (by decide) (hts (.fieldLink RX12 129 "BeardPassModel" "thrown" "I") (by decide +kernel)) (fun _ h9 => h9) rfl (by decide +kernel) rfl rfl (Nat.le_of_ble_eq_true rfl) dX12_shave_2 [(h0, .inr (11, [.int 0, .int 0, .ref (y 0), .int 0, .int 0, .int 0, .int 0, .long 0, .int 0, .int 0, .ref (y 1), .ref (y 2), .ref (y 3), .ref (y 4), .ref (y 5), .ref (y 6), .ref (y 7), .ref (y 8), .ref (y 9), .ref (y 10), .ref (y 11), .ref (y 12), .int 0, .int 0, .ref (y 13), .ref (y 14), .ref (y 15), .ref (y 16), .ref (y 17), .ref (y 18), .ref (y 19), .ref (y 20), .ref (y 21), .ref (y 22), .ref (y 23), .ref (y 24), .int 0, .long 0, .ref (y 25), .ref (y 26), .ref (y 27), .ref (y 28), .ref (y 29), .ref (y 30), .ref (y 31), .ref (y 32), .ref (y 33), .ref (y 34), .ref (y 35), .ref (y 36), .ref (y 37), .int 0, .int 0, .ref (y 38), .long 0, .int 0, .int 0])), (y 1, .inl (ct 0, 8, .inl (upd (upd (fun _ => 0) 2 1) 3 2)))] rfl (fun H locs hw hS => ?_)
  refine lv_aload_n hx hb dX12_shave_5 rfl (lv_at hl 0 rfl) ?_
  refine lv_iload_n hx hb dX12_shave_6 rfl (lv_at hl 1 rfl) ?_
  refine zcall2 (va_runV (As := [.int p1]) (rest := []) ⟨hx, hb, hml, hown, hts⟩ (c_isPerson12 l D ct h0 y p1 H.size) (cwV 1 hts gX12_shave_X12_isPerson rfl rfl rfl (by decide +kernel) ⟨Nat.le_of_ble_eq_true rfl, Nat.le_of_ble_eq_true rfl⟩) (zpreV hK hw hS hA zZ.nil hN [0, 1] rfl rfl 11 0 rfl rfl) rfl rfl hl.1 rfl (lv_room (Nat.le_of_ble_eq_true rfl)) dX12_shave_7 ⟨Nat.le_of_ble_eq_true rfl, Nat.le_of_ble_eq_true rfl⟩) hw hS hA [0, 1] [] rfl rfl rfl rfl (fun _ H locs hp1 hw hS => ?_)
  have hw : zPD D A [(h0, .inr (11, [.int 0, .int 0, .ref (y 0), .int 0, .int 0, .int 0, .int 0, .long 0, .int 0, .int 0, .ref (y 1), .ref (y 2), .ref (y 3), .ref (y 4), .ref (y 5), .ref (y 6), .ref (y 7), .ref (y 8), .ref (y 9), .ref (y 10), .ref (y 11), .ref (y 12), .int 0, .int 0, .ref (y 13), .ref (y 14), .ref (y 15), .ref (y 16), .ref (y 17), .ref (y 18), .ref (y 19), .ref (y 20), .ref (y 21), .ref (y 22), .ref (y 23), .ref (y 24), .int 0, .long 0, .ref (y 25), .ref (y 26), .ref (y 27), .ref (y 28), .ref (y 29), .ref (y 30), .ref (y 31), .ref (y 32), .ref (y 33), .ref (y 34), .ref (y 35), .ref (y 36), .ref (y 37), .int 0, .int 0, .ref (y 38), .long 0, .int 0, .int 0])), (y 1, .inl (ct 0, 8, .inl (upd (upd (fun _ => 0) 2 1) 3 2)))] H := hw
  refine zfr 10 [.int 0] rfl rfl ?_
  refine lv_if_ne (tgt := 15) hx hb dX12_shave_10 (by decide) (fun h => absurd (by decide) h) (fun _ => ?_)
  refine lv_iconst (v := 0) hx hb dX12_shave_13 (by decide) ?_
  exact ziret hx hb hr (rfl) hlocks () (rfl) (trivial) hw [0, 1] rfl (rfl) hS (Nat.le_of_ble_eq_true rfl) (Nat.le_of_ble_eq_true rfl) dX12_shave_14

set_option maxHeartbeats 4000000 in
set_option maxRecDepth 100000 in
/-- reach on a new object -/
theorem r_reach (l : Launch) (D : va_G) (ct : Nat → ClassId) (h0 : Nat) (y : Nat → Nat) (p1 : Int32)  : zC l yX12_reach wsX12_reach ({ frames := 2, cells := 0, slots := 0, locals := 120 }) D ct [] [.ref h0, .int p1] [(h0, .inr (11, [.int 0, .int 0, .ref (y 0), .int 0, .int 0, .int 0, .int 0, .long 0, .int 0, .int 0, .ref (y 1), .ref (y 2), .ref (y 3), .ref (y 4), .ref (y 5), .ref (y 6), .ref (y 7), .ref (y 8), .ref (y 9), .ref (y 10), .ref (y 11), .ref (y 12), .int 0, .int 0, .ref (y 13), .ref (y 14), .ref (y 15), .ref (y 16), .ref (y 17), .ref (y 18), .ref (y 19), .ref (y 20), .ref (y 21), .ref (y 22), .ref (y 23), .ref (y 24), .int 0, .long 0, .ref (y 25), .ref (y 26), .ref (y 27), .ref (y 28), .ref (y 29), .ref (y 30), .ref (y 31), .ref (y 32), .ref (y 33), .ref (y 34), .ref (y 35), .ref (y 36), .ref (y 37), .int 0, .int 0, .ref (y 38), .long 0, .int 0, .int 0])), (y 1, .inl (ct 0, 8, .inl (upd (upd (fun _ => 0) 2 1) 3 2)))] (S := Unit) (fun _ => some (.int (-1))) (fun _ => True) (fun _ => [(h0, .inr (11, [.int 0, .int 0, .ref (y 0), .int 0, .int 0, .int 0, .int 0, .long 0, .int 0, .int 0, .ref (y 1), .ref (y 2), .ref (y 3), .ref (y 4), .ref (y 5), .ref (y 6), .ref (y 7), .ref (y 8), .ref (y 9), .ref (y 10), .ref (y 11), .ref (y 12), .int 0, .int 0, .ref (y 13), .ref (y 14), .ref (y 15), .ref (y 16), .ref (y 17), .ref (y 18), .ref (y 19), .ref (y 20), .ref (y 21), .ref (y 22), .ref (y 23), .ref (y 24), .int 0, .long 0, .ref (y 25), .ref (y 26), .ref (y 27), .ref (y 28), .ref (y 29), .ref (y 30), .ref (y 31), .ref (y 32), .ref (y 33), .ref (y 34), .ref (y 35), .ref (y 36), .ref (y 37), .int 0, .int 0, .ref (y 38), .long 0, .int 0, .int 0])), (y 1, .inl (ct 0, 8, .inl (upd (upd (fun _ => 0) 2 1) 3 2)))]) 0 0 := by
  refine zofW cX12_reach 2 (some .int) (by decide) rfl (Nat.le_of_ble_eq_true rfl) ?_
  intro p e s m below meth c A hx hb hr hml hts hown hlocks hname hK hA hZ hN H locs hw hS ls hl
  have hown : s.vm.findClass RX12 = some m.cls := hown
  have hl : lv_has ls 2 [(0, .ref h0), (1, .int p1)] := hl
  have hiX12 : ∀ w ∈ wsX120, w ∈ wsX12_reach := by decide +kernel
  refine lv_aload_n hx hb dX12_reach_0 rfl (lv_at hl 0 rfl) ?_
  refine lv_iconst (v := 0) hx hb dX12_reach_1 (by decide) ?_
  refine zput (D := D) (ci := 11) (v := .int 0) (ty := .int) hx hb hts hiX12 tyX12 tyX12_ok nmX12 hown hK hw hS 0 rfl rfl 0 (by decide) (hts (.fieldLink RX12 129 "BeardPassModel" "thrown" "I") (by decide +kernel)) (fun _ h9 => h9) rfl (by decide +kernel) rfl rfl (Nat.le_of_ble_eq_true rfl) dX12_reach_2 [(h0, .inr (11, [.int 0, .int 0, .ref (y 0), .int 0, .int 0, .int 0, .int 0, .long 0, .int 0, .int 0, .ref (y 1), .ref (y 2), .ref (y 3), .ref (y 4), .ref (y 5), .ref (y 6), .ref (y 7), .ref (y 8), .ref (y 9), .ref (y 10), .ref (y 11), .ref (y 12), .int 0, .int 0, .ref (y 13), .ref (y 14), .ref (y 15), .ref (y 16), .ref (y 17), .ref (y 18), .ref (y 19), .ref (y 20), .ref (y 21), .ref (y 22), .ref (y 23), .ref (y 24), .int 0, .long 0, .ref (y 25), .ref (y 26), .ref (y 27), .ref (y 28), .ref (y 29), .ref (y 30), .ref (y 31), .ref (y 32), .ref (y 33), .ref (y 34), .ref (y 35), .ref (y 36), .ref (y 37), .int 0, .int 0, .ref (y 38), .long 0, .int 0, .int 0])), (y 1, .inl (ct 0, 8, .inl (upd (upd (fun _ => 0) 2 1) 3 2)))] rfl (fun H locs hw hS => ?_)
  refine lv_aload_n hx hb dX12_reach_5 rfl (lv_at hl 0 rfl) ?_
  refine lv_iload_n hx hb dX12_reach_6 rfl (lv_at hl 1 rfl) ?_
  refine zcall2 (va_runV (As := [.int p1]) (rest := []) ⟨hx, hb, hml, hown, hts⟩ (c_isPerson12 l D ct h0 y p1 H.size) (cwV 1 hts gX12_reach_X12_isPerson rfl rfl rfl (by decide +kernel) ⟨Nat.le_of_ble_eq_true rfl, Nat.le_of_ble_eq_true rfl⟩) (zpreV hK hw hS hA zZ.nil hN [0, 1] rfl rfl 11 0 rfl rfl) rfl rfl hl.1 rfl (lv_room (Nat.le_of_ble_eq_true rfl)) dX12_reach_7 ⟨Nat.le_of_ble_eq_true rfl, Nat.le_of_ble_eq_true rfl⟩) hw hS hA [0, 1] [] rfl rfl rfl rfl (fun _ H locs hp1 hw hS => ?_)
  have hw : zPD D A [(h0, .inr (11, [.int 0, .int 0, .ref (y 0), .int 0, .int 0, .int 0, .int 0, .long 0, .int 0, .int 0, .ref (y 1), .ref (y 2), .ref (y 3), .ref (y 4), .ref (y 5), .ref (y 6), .ref (y 7), .ref (y 8), .ref (y 9), .ref (y 10), .ref (y 11), .ref (y 12), .int 0, .int 0, .ref (y 13), .ref (y 14), .ref (y 15), .ref (y 16), .ref (y 17), .ref (y 18), .ref (y 19), .ref (y 20), .ref (y 21), .ref (y 22), .ref (y 23), .ref (y 24), .int 0, .long 0, .ref (y 25), .ref (y 26), .ref (y 27), .ref (y 28), .ref (y 29), .ref (y 30), .ref (y 31), .ref (y 32), .ref (y 33), .ref (y 34), .ref (y 35), .ref (y 36), .ref (y 37), .int 0, .int 0, .ref (y 38), .long 0, .int 0, .int 0])), (y 1, .inl (ct 0, 8, .inl (upd (upd (fun _ => 0) 2 1) 3 2)))] H := hw
  refine zfr 10 [.int 0] rfl rfl ?_
  refine lv_if_eq (tgt := 31) hx hb dX12_reach_10 (by decide) (fun _ => ?_) (fun h => absurd (by decide) h)
  refine lv_iconst (v := (-1)) hx hb dX12_reach_31 (by decide) ?_
  exact ziret hx hb hr (rfl) hlocks () (rfl) (trivial) hw [0, 1] rfl (rfl) hS (Nat.le_of_ble_eq_true rfl) (Nat.le_of_ble_eq_true rfl) dX12_reach_32

set_option maxHeartbeats 4000000 in
set_option maxRecDepth 100000 in
/-- frontiers on a new object -/
theorem r_frontiers (l : Launch) (D : va_G) (ct : Nat → ClassId) (h0 : Nat) (y : Nat → Nat) (p1 : Int32) (p2 : Int32)  : zC l yX12_frontiers wsX12_frontiers ({ frames := 2, cells := 0, slots := 0, locals := 120 }) D ct [] [.ref h0, .int p1, .int p2] [(h0, .inr (11, [.int 0, .int 0, .ref (y 0), .int 0, .int 0, .int 0, .int 0, .long 0, .int 0, .int 0, .ref (y 1), .ref (y 2), .ref (y 3), .ref (y 4), .ref (y 5), .ref (y 6), .ref (y 7), .ref (y 8), .ref (y 9), .ref (y 10), .ref (y 11), .ref (y 12), .int 0, .int 0, .ref (y 13), .ref (y 14), .ref (y 15), .ref (y 16), .ref (y 17), .ref (y 18), .ref (y 19), .ref (y 20), .ref (y 21), .ref (y 22), .ref (y 23), .ref (y 24), .int 0, .long 0, .ref (y 25), .ref (y 26), .ref (y 27), .ref (y 28), .ref (y 29), .ref (y 30), .ref (y 31), .ref (y 32), .ref (y 33), .ref (y 34), .ref (y 35), .ref (y 36), .ref (y 37), .int 0, .int 0, .ref (y 38), .long 0, .int 0, .int 0])), (y 1, .inl (ct 0, 8, .inl (upd (upd (fun _ => 0) 2 1) 3 2)))] (S := Unit) (fun _ => some (.int (-1))) (fun _ => True) (fun _ => [(h0, .inr (11, [.int 0, .int 0, .ref (y 0), .int 0, .int 0, .int 0, .int 0, .long 0, .int 0, .int 0, .ref (y 1), .ref (y 2), .ref (y 3), .ref (y 4), .ref (y 5), .ref (y 6), .ref (y 7), .ref (y 8), .ref (y 9), .ref (y 10), .ref (y 11), .ref (y 12), .int 0, .int 0, .ref (y 13), .ref (y 14), .ref (y 15), .ref (y 16), .ref (y 17), .ref (y 18), .ref (y 19), .ref (y 20), .ref (y 21), .ref (y 22), .ref (y 23), .ref (y 24), .int 0, .long 0, .ref (y 25), .ref (y 26), .ref (y 27), .ref (y 28), .ref (y 29), .ref (y 30), .ref (y 31), .ref (y 32), .ref (y 33), .ref (y 34), .ref (y 35), .ref (y 36), .ref (y 37), .int 0, .int 0, .ref (y 38), .long 0, .int 0, .int 0])), (y 1, .inl (ct 0, 8, .inl (upd (upd (fun _ => 0) 2 1) 3 2)))]) 0 0 := by
  refine zofW cX12_frontiers 3 (some .int) (by decide) rfl (Nat.le_of_ble_eq_true rfl) ?_
  intro p e s m below meth c A hx hb hr hml hts hown hlocks hname hK hA hZ hN H locs hw hS ls hl
  have hown : s.vm.findClass RX12 = some m.cls := hown
  have hl : lv_has ls 3 [(0, .ref h0), (1, .int p1), (2, .int p2)] := hl
  have hiX12 : ∀ w ∈ wsX120, w ∈ wsX12_frontiers := by decide +kernel
  refine lv_aload_n hx hb dX12_frontiers_0 rfl (lv_at hl 0 rfl) ?_
  refine lv_iconst (v := 0) hx hb dX12_frontiers_1 (by decide) ?_
  refine zput (D := D) (ci := 11) (v := .int 0) (ty := .int) hx hb hts hiX12 tyX12 tyX12_ok nmX12 hown hK hw hS 0 rfl rfl 0 (by decide) (hts (.fieldLink RX12 129 "BeardPassModel" "thrown" "I") (by decide +kernel)) (fun _ h9 => h9) rfl (by decide +kernel) rfl rfl (Nat.le_of_ble_eq_true rfl) dX12_frontiers_2 [(h0, .inr (11, [.int 0, .int 0, .ref (y 0), .int 0, .int 0, .int 0, .int 0, .long 0, .int 0, .int 0, .ref (y 1), .ref (y 2), .ref (y 3), .ref (y 4), .ref (y 5), .ref (y 6), .ref (y 7), .ref (y 8), .ref (y 9), .ref (y 10), .ref (y 11), .ref (y 12), .int 0, .int 0, .ref (y 13), .ref (y 14), .ref (y 15), .ref (y 16), .ref (y 17), .ref (y 18), .ref (y 19), .ref (y 20), .ref (y 21), .ref (y 22), .ref (y 23), .ref (y 24), .int 0, .long 0, .ref (y 25), .ref (y 26), .ref (y 27), .ref (y 28), .ref (y 29), .ref (y 30), .ref (y 31), .ref (y 32), .ref (y 33), .ref (y 34), .ref (y 35), .ref (y 36), .ref (y 37), .int 0, .int 0, .ref (y 38), .long 0, .int 0, .int 0])), (y 1, .inl (ct 0, 8, .inl (upd (upd (fun _ => 0) 2 1) 3 2)))] rfl (fun H locs hw hS => ?_)
  refine lv_aload_n hx hb dX12_frontiers_5 rfl (lv_at hl 0 rfl) ?_
  refine lv_iload_n hx hb dX12_frontiers_6 rfl (lv_at hl 1 rfl) ?_
  refine zcall2 (va_runV (As := [.int p1]) (rest := []) ⟨hx, hb, hml, hown, hts⟩ (c_isPerson12 l D ct h0 y p1 H.size) (cwV 1 hts gX12_frontiers_X12_isPerson rfl rfl rfl (by decide +kernel) ⟨Nat.le_of_ble_eq_true rfl, Nat.le_of_ble_eq_true rfl⟩) (zpreV hK hw hS hA zZ.nil hN [0, 1] rfl rfl 11 0 rfl rfl) rfl rfl hl.1 rfl (lv_room (Nat.le_of_ble_eq_true rfl)) dX12_frontiers_7 ⟨Nat.le_of_ble_eq_true rfl, Nat.le_of_ble_eq_true rfl⟩) hw hS hA [0, 1] [] rfl rfl rfl rfl (fun _ H locs hp1 hw hS => ?_)
  have hw : zPD D A [(h0, .inr (11, [.int 0, .int 0, .ref (y 0), .int 0, .int 0, .int 0, .int 0, .long 0, .int 0, .int 0, .ref (y 1), .ref (y 2), .ref (y 3), .ref (y 4), .ref (y 5), .ref (y 6), .ref (y 7), .ref (y 8), .ref (y 9), .ref (y 10), .ref (y 11), .ref (y 12), .int 0, .int 0, .ref (y 13), .ref (y 14), .ref (y 15), .ref (y 16), .ref (y 17), .ref (y 18), .ref (y 19), .ref (y 20), .ref (y 21), .ref (y 22), .ref (y 23), .ref (y 24), .int 0, .long 0, .ref (y 25), .ref (y 26), .ref (y 27), .ref (y 28), .ref (y 29), .ref (y 30), .ref (y 31), .ref (y 32), .ref (y 33), .ref (y 34), .ref (y 35), .ref (y 36), .ref (y 37), .int 0, .int 0, .ref (y 38), .long 0, .int 0, .int 0])), (y 1, .inl (ct 0, 8, .inl (upd (upd (fun _ => 0) 2 1) 3 2)))] H := hw
  refine zfr 10 [.int 0] rfl rfl ?_
  refine lv_if_eq (tgt := 38) hx hb dX12_frontiers_10 (by decide) (fun _ => ?_) (fun h => absurd (by decide) h)
  refine lv_iconst (v := (-1)) hx hb dX12_frontiers_38 (by decide) ?_
  exact ziret hx hb hr (rfl) hlocks () (rfl) (trivial) hw [0, 1] rfl (rfl) hS (Nat.le_of_ble_eq_true rfl) (Nat.le_of_ble_eq_true rfl) dX12_frontiers_39

set_option maxHeartbeats 4000000 in
set_option maxRecDepth 100000 in
/-- when on a new object -/
theorem r_when (l : Launch) (D : va_G) (ct : Nat → ClassId) (h0 : Nat) (y : Nat → Nat) (p1 : Int32) (p2 : Int32)  : zC l yX12_when wsX12_when ({ frames := 2, cells := 0, slots := 0, locals := 120 }) D ct [] [.ref h0, .int p1, .int p2] [(h0, .inr (11, [.int 0, .int 0, .ref (y 0), .int 0, .int 0, .int 0, .int 0, .long 0, .int 0, .int 0, .ref (y 1), .ref (y 2), .ref (y 3), .ref (y 4), .ref (y 5), .ref (y 6), .ref (y 7), .ref (y 8), .ref (y 9), .ref (y 10), .ref (y 11), .ref (y 12), .int 0, .int 0, .ref (y 13), .ref (y 14), .ref (y 15), .ref (y 16), .ref (y 17), .ref (y 18), .ref (y 19), .ref (y 20), .ref (y 21), .ref (y 22), .ref (y 23), .ref (y 24), .int 0, .long 0, .ref (y 25), .ref (y 26), .ref (y 27), .ref (y 28), .ref (y 29), .ref (y 30), .ref (y 31), .ref (y 32), .ref (y 33), .ref (y 34), .ref (y 35), .ref (y 36), .ref (y 37), .int 0, .int 0, .ref (y 38), .long 0, .int 0, .int 0])), (y 1, .inl (ct 0, 8, .inl (upd (upd (fun _ => 0) 2 1) 3 2)))] (S := Unit) (fun _ => some (.int (-1))) (fun _ => True) (fun _ => [(h0, .inr (11, [.int 0, .int 0, .ref (y 0), .int 0, .int 0, .int 0, .int 0, .long 0, .int 0, .int 0, .ref (y 1), .ref (y 2), .ref (y 3), .ref (y 4), .ref (y 5), .ref (y 6), .ref (y 7), .ref (y 8), .ref (y 9), .ref (y 10), .ref (y 11), .ref (y 12), .int 0, .int 0, .ref (y 13), .ref (y 14), .ref (y 15), .ref (y 16), .ref (y 17), .ref (y 18), .ref (y 19), .ref (y 20), .ref (y 21), .ref (y 22), .ref (y 23), .ref (y 24), .int 0, .long 0, .ref (y 25), .ref (y 26), .ref (y 27), .ref (y 28), .ref (y 29), .ref (y 30), .ref (y 31), .ref (y 32), .ref (y 33), .ref (y 34), .ref (y 35), .ref (y 36), .ref (y 37), .int 0, .int 0, .ref (y 38), .long 0, .int 0, .int 0])), (y 1, .inl (ct 0, 8, .inl (upd (upd (fun _ => 0) 2 1) 3 2)))]) 0 0 := by
  refine zofW cX12_when 3 (some .int) (by decide) rfl (Nat.le_of_ble_eq_true rfl) ?_
  intro p e s m below meth c A hx hb hr hml hts hown hlocks hname hK hA hZ hN H locs hw hS ls hl
  have hown : s.vm.findClass RX12 = some m.cls := hown
  have hl : lv_has ls 3 [(0, .ref h0), (1, .int p1), (2, .int p2)] := hl
  have hiX12 : ∀ w ∈ wsX120, w ∈ wsX12_when := by decide +kernel
  refine lv_aload_n hx hb dX12_when_0 rfl (lv_at hl 0 rfl) ?_
  refine lv_iconst (v := 0) hx hb dX12_when_1 (by decide) ?_
  refine zput (D := D) (ci := 11) (v := .int 0) (ty := .int) hx hb hts hiX12 tyX12 tyX12_ok nmX12 hown hK hw hS 0 rfl rfl 0 (by decide) (hts (.fieldLink RX12 129 "BeardPassModel" "thrown" "I") (by decide +kernel)) (fun _ h9 => h9) rfl (by decide +kernel) rfl rfl (Nat.le_of_ble_eq_true rfl) dX12_when_2 [(h0, .inr (11, [.int 0, .int 0, .ref (y 0), .int 0, .int 0, .int 0, .int 0, .long 0, .int 0, .int 0, .ref (y 1), .ref (y 2), .ref (y 3), .ref (y 4), .ref (y 5), .ref (y 6), .ref (y 7), .ref (y 8), .ref (y 9), .ref (y 10), .ref (y 11), .ref (y 12), .int 0, .int 0, .ref (y 13), .ref (y 14), .ref (y 15), .ref (y 16), .ref (y 17), .ref (y 18), .ref (y 19), .ref (y 20), .ref (y 21), .ref (y 22), .ref (y 23), .ref (y 24), .int 0, .long 0, .ref (y 25), .ref (y 26), .ref (y 27), .ref (y 28), .ref (y 29), .ref (y 30), .ref (y 31), .ref (y 32), .ref (y 33), .ref (y 34), .ref (y 35), .ref (y 36), .ref (y 37), .int 0, .int 0, .ref (y 38), .long 0, .int 0, .int 0])), (y 1, .inl (ct 0, 8, .inl (upd (upd (fun _ => 0) 2 1) 3 2)))] rfl (fun H locs hw hS => ?_)
  refine lv_aload_n hx hb dX12_when_5 rfl (lv_at hl 0 rfl) ?_
  refine lv_iload_n hx hb dX12_when_6 rfl (lv_at hl 1 rfl) ?_
  refine zcall2 (va_runV (As := [.int p1]) (rest := []) ⟨hx, hb, hml, hown, hts⟩ (c_isPerson12 l D ct h0 y p1 H.size) (cwV 1 hts gX12_when_X12_isPerson rfl rfl rfl (by decide +kernel) ⟨Nat.le_of_ble_eq_true rfl, Nat.le_of_ble_eq_true rfl⟩) (zpreV hK hw hS hA zZ.nil hN [0, 1] rfl rfl 11 0 rfl rfl) rfl rfl hl.1 rfl (lv_room (Nat.le_of_ble_eq_true rfl)) dX12_when_7 ⟨Nat.le_of_ble_eq_true rfl, Nat.le_of_ble_eq_true rfl⟩) hw hS hA [0, 1] [] rfl rfl rfl rfl (fun _ H locs hp1 hw hS => ?_)
  have hw : zPD D A [(h0, .inr (11, [.int 0, .int 0, .ref (y 0), .int 0, .int 0, .int 0, .int 0, .long 0, .int 0, .int 0, .ref (y 1), .ref (y 2), .ref (y 3), .ref (y 4), .ref (y 5), .ref (y 6), .ref (y 7), .ref (y 8), .ref (y 9), .ref (y 10), .ref (y 11), .ref (y 12), .int 0, .int 0, .ref (y 13), .ref (y 14), .ref (y 15), .ref (y 16), .ref (y 17), .ref (y 18), .ref (y 19), .ref (y 20), .ref (y 21), .ref (y 22), .ref (y 23), .ref (y 24), .int 0, .long 0, .ref (y 25), .ref (y 26), .ref (y 27), .ref (y 28), .ref (y 29), .ref (y 30), .ref (y 31), .ref (y 32), .ref (y 33), .ref (y 34), .ref (y 35), .ref (y 36), .ref (y 37), .int 0, .int 0, .ref (y 38), .long 0, .int 0, .int 0])), (y 1, .inl (ct 0, 8, .inl (upd (upd (fun _ => 0) 2 1) 3 2)))] H := hw
  refine zfr 10 [.int 0] rfl rfl ?_
  refine lv_if_eq (tgt := 30) hx hb dX12_when_10 (by decide) (fun _ => ?_) (fun h => absurd (by decide) h)
  refine lv_iconst (v := (-1)) hx hb dX12_when_30 (by decide) ?_
  exact ziret hx hb hr (rfl) hlocks () (rfl) (trivial) hw [0, 1] rfl (rfl) hS (Nat.le_of_ble_eq_true rfl) (Nat.le_of_ble_eq_true rfl) dX12_when_31

set_option maxHeartbeats 4000000 in
set_option maxRecDepth 100000 in
/-- round on a new object -/
theorem r_round (l : Launch) (D : va_G) (ct : Nat → ClassId) (h0 : Nat) (y : Nat → Nat) (p1 : Int32)  : zC l yX12_round wsX12_round ({ frames := 2, cells := 0, slots := 0, locals := 120 }) D ct [] [.ref h0, .int p1] [(h0, .inr (11, [.int 0, .int 0, .ref (y 0), .int 0, .int 0, .int 0, .int 0, .long 0, .int 0, .int 0, .ref (y 1), .ref (y 2), .ref (y 3), .ref (y 4), .ref (y 5), .ref (y 6), .ref (y 7), .ref (y 8), .ref (y 9), .ref (y 10), .ref (y 11), .ref (y 12), .int 0, .int 0, .ref (y 13), .ref (y 14), .ref (y 15), .ref (y 16), .ref (y 17), .ref (y 18), .ref (y 19), .ref (y 20), .ref (y 21), .ref (y 22), .ref (y 23), .ref (y 24), .int 0, .long 0, .ref (y 25), .ref (y 26), .ref (y 27), .ref (y 28), .ref (y 29), .ref (y 30), .ref (y 31), .ref (y 32), .ref (y 33), .ref (y 34), .ref (y 35), .ref (y 36), .ref (y 37), .int 0, .int 0, .ref (y 38), .long 0, .int 0, .int 0])), (y 1, .inl (ct 0, 8, .inl (upd (upd (fun _ => 0) 2 1) 3 2)))] (S := Unit) (fun _ => some (.int (-1))) (fun _ => True) (fun _ => [(h0, .inr (11, [.int 0, .int 0, .ref (y 0), .int 0, .int 0, .int 0, .int 0, .long 0, .int 0, .int 0, .ref (y 1), .ref (y 2), .ref (y 3), .ref (y 4), .ref (y 5), .ref (y 6), .ref (y 7), .ref (y 8), .ref (y 9), .ref (y 10), .ref (y 11), .ref (y 12), .int 0, .int 0, .ref (y 13), .ref (y 14), .ref (y 15), .ref (y 16), .ref (y 17), .ref (y 18), .ref (y 19), .ref (y 20), .ref (y 21), .ref (y 22), .ref (y 23), .ref (y 24), .int 0, .long 0, .ref (y 25), .ref (y 26), .ref (y 27), .ref (y 28), .ref (y 29), .ref (y 30), .ref (y 31), .ref (y 32), .ref (y 33), .ref (y 34), .ref (y 35), .ref (y 36), .ref (y 37), .int 0, .int 0, .ref (y 38), .long 0, .int 0, .int 0])), (y 1, .inl (ct 0, 8, .inl (upd (upd (fun _ => 0) 2 1) 3 2)))]) 0 0 := by
  refine zofW cX12_round 3 (some .int) (by decide) rfl (Nat.le_of_ble_eq_true rfl) ?_
  intro p e s m below meth c A hx hb hr hml hts hown hlocks hname hK hA hZ hN H locs hw hS ls hl
  have hown : s.vm.findClass RX12 = some m.cls := hown
  have hl : lv_has ls 3 [(0, .ref h0), (1, .int p1)] := hl
  have hiX12 : ∀ w ∈ wsX120, w ∈ wsX12_round := by decide +kernel
  refine lv_aload_n hx hb dX12_round_0 rfl (lv_at hl 0 rfl) ?_
  refine lv_iconst (v := 0) hx hb dX12_round_1 (by decide) ?_
  refine zput (D := D) (ci := 11) (v := .int 0) (ty := .int) hx hb hts hiX12 tyX12 tyX12_ok nmX12 hown hK hw hS 0 rfl rfl 0 (by decide) (hts (.fieldLink RX12 129 "BeardPassModel" "thrown" "I") (by decide +kernel)) (fun _ h9 => h9) rfl (by decide +kernel) rfl rfl (Nat.le_of_ble_eq_true rfl) dX12_round_2 [(h0, .inr (11, [.int 0, .int 0, .ref (y 0), .int 0, .int 0, .int 0, .int 0, .long 0, .int 0, .int 0, .ref (y 1), .ref (y 2), .ref (y 3), .ref (y 4), .ref (y 5), .ref (y 6), .ref (y 7), .ref (y 8), .ref (y 9), .ref (y 10), .ref (y 11), .ref (y 12), .int 0, .int 0, .ref (y 13), .ref (y 14), .ref (y 15), .ref (y 16), .ref (y 17), .ref (y 18), .ref (y 19), .ref (y 20), .ref (y 21), .ref (y 22), .ref (y 23), .ref (y 24), .int 0, .long 0, .ref (y 25), .ref (y 26), .ref (y 27), .ref (y 28), .ref (y 29), .ref (y 30), .ref (y 31), .ref (y 32), .ref (y 33), .ref (y 34), .ref (y 35), .ref (y 36), .ref (y 37), .int 0, .int 0, .ref (y 38), .long 0, .int 0, .int 0])), (y 1, .inl (ct 0, 8, .inl (upd (upd (fun _ => 0) 2 1) 3 2)))] rfl (fun H locs hw hS => ?_)
  refine lv_aload_n hx hb dX12_round_5 rfl (lv_at hl 0 rfl) ?_
  refine lv_iload_n hx hb dX12_round_6 rfl (lv_at hl 1 rfl) ?_
  refine zcall2 (va_runV (As := [.int p1]) (rest := []) ⟨hx, hb, hml, hown, hts⟩ (c_isPerson12 l D ct h0 y p1 H.size) (cwV 1 hts gX12_round_X12_isPerson rfl rfl rfl (by decide +kernel) ⟨Nat.le_of_ble_eq_true rfl, Nat.le_of_ble_eq_true rfl⟩) (zpreV hK hw hS hA zZ.nil hN [0, 1] rfl rfl 11 0 rfl rfl) rfl rfl hl.1 rfl (lv_room (Nat.le_of_ble_eq_true rfl)) dX12_round_7 ⟨Nat.le_of_ble_eq_true rfl, Nat.le_of_ble_eq_true rfl⟩) hw hS hA [0, 1] [] rfl rfl rfl rfl (fun _ H locs hp1 hw hS => ?_)
  have hw : zPD D A [(h0, .inr (11, [.int 0, .int 0, .ref (y 0), .int 0, .int 0, .int 0, .int 0, .long 0, .int 0, .int 0, .ref (y 1), .ref (y 2), .ref (y 3), .ref (y 4), .ref (y 5), .ref (y 6), .ref (y 7), .ref (y 8), .ref (y 9), .ref (y 10), .ref (y 11), .ref (y 12), .int 0, .int 0, .ref (y 13), .ref (y 14), .ref (y 15), .ref (y 16), .ref (y 17), .ref (y 18), .ref (y 19), .ref (y 20), .ref (y 21), .ref (y 22), .ref (y 23), .ref (y 24), .int 0, .long 0, .ref (y 25), .ref (y 26), .ref (y 27), .ref (y 28), .ref (y 29), .ref (y 30), .ref (y 31), .ref (y 32), .ref (y 33), .ref (y 34), .ref (y 35), .ref (y 36), .ref (y 37), .int 0, .int 0, .ref (y 38), .long 0, .int 0, .int 0])), (y 1, .inl (ct 0, 8, .inl (upd (upd (fun _ => 0) 2 1) 3 2)))] H := hw
  refine zfr 10 [.int 0] rfl rfl ?_
  refine lv_if_ne (tgt := 15) hx hb dX12_round_10 (by decide) (fun h => absurd (by decide) h) (fun _ => ?_)
  refine lv_iconst (v := (-1)) hx hb dX12_round_13 (by decide) ?_
  exact ziret hx hb hr (rfl) hlocks () (rfl) (trivial) hw [0, 1] rfl (rfl) hS (Nat.le_of_ble_eq_true rfl) (Nat.le_of_ble_eq_true rfl) dX12_round_14

set_option maxHeartbeats 4000000 in
set_option maxRecDepth 100000 in
/-- need on a new object -/
theorem r_need (l : Launch) (D : va_G) (ct : Nat → ClassId) (h0 : Nat) (y : Nat → Nat) (p1 : Int32) (p2 : Int32)  : zC l yX12_need wsX12_need ({ frames := 2, cells := 0, slots := 0, locals := 120 }) D ct [] [.ref h0, .int p1, .int p2] [(h0, .inr (11, [.int 0, .int 0, .ref (y 0), .int 0, .int 0, .int 0, .int 0, .long 0, .int 0, .int 0, .ref (y 1), .ref (y 2), .ref (y 3), .ref (y 4), .ref (y 5), .ref (y 6), .ref (y 7), .ref (y 8), .ref (y 9), .ref (y 10), .ref (y 11), .ref (y 12), .int 0, .int 0, .ref (y 13), .ref (y 14), .ref (y 15), .ref (y 16), .ref (y 17), .ref (y 18), .ref (y 19), .ref (y 20), .ref (y 21), .ref (y 22), .ref (y 23), .ref (y 24), .int 0, .long 0, .ref (y 25), .ref (y 26), .ref (y 27), .ref (y 28), .ref (y 29), .ref (y 30), .ref (y 31), .ref (y 32), .ref (y 33), .ref (y 34), .ref (y 35), .ref (y 36), .ref (y 37), .int 0, .int 0, .ref (y 38), .long 0, .int 0, .int 0])), (y 1, .inl (ct 0, 8, .inl (upd (upd (fun _ => 0) 2 1) 3 2)))] (S := Unit) (fun _ => some (.int (-1))) (fun _ => True) (fun _ => [(h0, .inr (11, [.int 0, .int 0, .ref (y 0), .int 0, .int 0, .int 0, .int 0, .long 0, .int 0, .int 0, .ref (y 1), .ref (y 2), .ref (y 3), .ref (y 4), .ref (y 5), .ref (y 6), .ref (y 7), .ref (y 8), .ref (y 9), .ref (y 10), .ref (y 11), .ref (y 12), .int 0, .int 0, .ref (y 13), .ref (y 14), .ref (y 15), .ref (y 16), .ref (y 17), .ref (y 18), .ref (y 19), .ref (y 20), .ref (y 21), .ref (y 22), .ref (y 23), .ref (y 24), .int 0, .long 0, .ref (y 25), .ref (y 26), .ref (y 27), .ref (y 28), .ref (y 29), .ref (y 30), .ref (y 31), .ref (y 32), .ref (y 33), .ref (y 34), .ref (y 35), .ref (y 36), .ref (y 37), .int 0, .int 0, .ref (y 38), .long 0, .int 0, .int 0])), (y 1, .inl (ct 0, 8, .inl (upd (upd (fun _ => 0) 2 1) 3 2)))]) 0 0 := by
  refine zofW cX12_need 3 (some .int) (by decide) rfl (Nat.le_of_ble_eq_true rfl) ?_
  intro p e s m below meth c A hx hb hr hml hts hown hlocks hname hK hA hZ hN H locs hw hS ls hl
  have hown : s.vm.findClass RX12 = some m.cls := hown
  have hl : lv_has ls 3 [(0, .ref h0), (1, .int p1), (2, .int p2)] := hl
  have hiX12 : ∀ w ∈ wsX120, w ∈ wsX12_need := by decide +kernel
  refine lv_aload_n hx hb dX12_need_0 rfl (lv_at hl 0 rfl) ?_
  refine lv_iconst (v := 0) hx hb dX12_need_1 (by decide) ?_
  refine zput (D := D) (ci := 11) (v := .int 0) (ty := .int) hx hb hts hiX12 tyX12 tyX12_ok nmX12 hown hK hw hS 0 rfl rfl 0 (by decide) (hts (.fieldLink RX12 129 "BeardPassModel" "thrown" "I") (by decide +kernel)) (fun _ h9 => h9) rfl (by decide +kernel) rfl rfl (Nat.le_of_ble_eq_true rfl) dX12_need_2 [(h0, .inr (11, [.int 0, .int 0, .ref (y 0), .int 0, .int 0, .int 0, .int 0, .long 0, .int 0, .int 0, .ref (y 1), .ref (y 2), .ref (y 3), .ref (y 4), .ref (y 5), .ref (y 6), .ref (y 7), .ref (y 8), .ref (y 9), .ref (y 10), .ref (y 11), .ref (y 12), .int 0, .int 0, .ref (y 13), .ref (y 14), .ref (y 15), .ref (y 16), .ref (y 17), .ref (y 18), .ref (y 19), .ref (y 20), .ref (y 21), .ref (y 22), .ref (y 23), .ref (y 24), .int 0, .long 0, .ref (y 25), .ref (y 26), .ref (y 27), .ref (y 28), .ref (y 29), .ref (y 30), .ref (y 31), .ref (y 32), .ref (y 33), .ref (y 34), .ref (y 35), .ref (y 36), .ref (y 37), .int 0, .int 0, .ref (y 38), .long 0, .int 0, .int 0])), (y 1, .inl (ct 0, 8, .inl (upd (upd (fun _ => 0) 2 1) 3 2)))] rfl (fun H locs hw hS => ?_)
  refine lv_aload_n hx hb dX12_need_5 rfl (lv_at hl 0 rfl) ?_
  refine lv_iload_n hx hb dX12_need_6 rfl (lv_at hl 1 rfl) ?_
  refine zcall2 (va_runV (As := [.int p1]) (rest := []) ⟨hx, hb, hml, hown, hts⟩ (c_isPerson12 l D ct h0 y p1 H.size) (cwV 1 hts gX12_need_X12_isPerson rfl rfl rfl (by decide +kernel) ⟨Nat.le_of_ble_eq_true rfl, Nat.le_of_ble_eq_true rfl⟩) (zpreV hK hw hS hA zZ.nil hN [0, 1] rfl rfl 11 0 rfl rfl) rfl rfl hl.1 rfl (lv_room (Nat.le_of_ble_eq_true rfl)) dX12_need_7 ⟨Nat.le_of_ble_eq_true rfl, Nat.le_of_ble_eq_true rfl⟩) hw hS hA [0, 1] [] rfl rfl rfl rfl (fun _ H locs hp1 hw hS => ?_)
  have hw : zPD D A [(h0, .inr (11, [.int 0, .int 0, .ref (y 0), .int 0, .int 0, .int 0, .int 0, .long 0, .int 0, .int 0, .ref (y 1), .ref (y 2), .ref (y 3), .ref (y 4), .ref (y 5), .ref (y 6), .ref (y 7), .ref (y 8), .ref (y 9), .ref (y 10), .ref (y 11), .ref (y 12), .int 0, .int 0, .ref (y 13), .ref (y 14), .ref (y 15), .ref (y 16), .ref (y 17), .ref (y 18), .ref (y 19), .ref (y 20), .ref (y 21), .ref (y 22), .ref (y 23), .ref (y 24), .int 0, .long 0, .ref (y 25), .ref (y 26), .ref (y 27), .ref (y 28), .ref (y 29), .ref (y 30), .ref (y 31), .ref (y 32), .ref (y 33), .ref (y 34), .ref (y 35), .ref (y 36), .ref (y 37), .int 0, .int 0, .ref (y 38), .long 0, .int 0, .int 0])), (y 1, .inl (ct 0, 8, .inl (upd (upd (fun _ => 0) 2 1) 3 2)))] H := hw
  refine zfr 10 [.int 0] rfl rfl ?_
  refine lv_if_eq (tgt := 30) hx hb dX12_need_10 (by decide) (fun _ => ?_) (fun h => absurd (by decide) h)
  refine lv_iconst (v := (-1)) hx hb dX12_need_30 (by decide) ?_
  exact ziret hx hb hr (rfl) hlocks () (rfl) (trivial) hw [0, 1] rfl (rfl) hS (Nat.le_of_ble_eq_true rfl) (Nat.le_of_ble_eq_true rfl) dX12_need_31

set_option maxHeartbeats 4000000 in
set_option maxRecDepth 100000 in
/-- guide on a new object -/
theorem r_guide (l : Launch) (D : va_G) (ct : Nat → ClassId) (h0 : Nat) (y : Nat → Nat) (p1 : Int32) (p2 : Int32)  : zC l yX12_guide wsX12_guide ({ frames := 2, cells := 0, slots := 0, locals := 120 }) D ct [] [.ref h0, .int p1, .int p2] [(h0, .inr (11, [.int 0, .int 0, .ref (y 0), .int 0, .int 0, .int 0, .int 0, .long 0, .int 0, .int 0, .ref (y 1), .ref (y 2), .ref (y 3), .ref (y 4), .ref (y 5), .ref (y 6), .ref (y 7), .ref (y 8), .ref (y 9), .ref (y 10), .ref (y 11), .ref (y 12), .int 0, .int 0, .ref (y 13), .ref (y 14), .ref (y 15), .ref (y 16), .ref (y 17), .ref (y 18), .ref (y 19), .ref (y 20), .ref (y 21), .ref (y 22), .ref (y 23), .ref (y 24), .int 0, .long 0, .ref (y 25), .ref (y 26), .ref (y 27), .ref (y 28), .ref (y 29), .ref (y 30), .ref (y 31), .ref (y 32), .ref (y 33), .ref (y 34), .ref (y 35), .ref (y 36), .ref (y 37), .int 0, .int 0, .ref (y 38), .long 0, .int 0, .int 0])), (y 1, .inl (ct 0, 8, .inl (upd (upd (fun _ => 0) 2 1) 3 2)))] (S := Unit) (fun _ => some (.int (-1))) (fun _ => True) (fun _ => [(h0, .inr (11, [.int 0, .int 0, .ref (y 0), .int 0, .int 0, .int 0, .int 0, .long 0, .int 0, .int 0, .ref (y 1), .ref (y 2), .ref (y 3), .ref (y 4), .ref (y 5), .ref (y 6), .ref (y 7), .ref (y 8), .ref (y 9), .ref (y 10), .ref (y 11), .ref (y 12), .int 0, .int 0, .ref (y 13), .ref (y 14), .ref (y 15), .ref (y 16), .ref (y 17), .ref (y 18), .ref (y 19), .ref (y 20), .ref (y 21), .ref (y 22), .ref (y 23), .ref (y 24), .int 0, .long 0, .ref (y 25), .ref (y 26), .ref (y 27), .ref (y 28), .ref (y 29), .ref (y 30), .ref (y 31), .ref (y 32), .ref (y 33), .ref (y 34), .ref (y 35), .ref (y 36), .ref (y 37), .int 0, .int 0, .ref (y 38), .long 0, .int 0, .int 0])), (y 1, .inl (ct 0, 8, .inl (upd (upd (fun _ => 0) 2 1) 3 2)))]) 0 0 := by
  refine zofW cX12_guide 6 (some .int) (by decide) rfl (Nat.le_of_ble_eq_true rfl) ?_
  intro p e s m below meth c A hx hb hr hml hts hown hlocks hname hK hA hZ hN H locs hw hS ls hl
  have hown : s.vm.findClass RX12 = some m.cls := hown
  have hl : lv_has ls 6 [(0, .ref h0), (1, .int p1), (2, .int p2)] := hl
  have hiX12 : ∀ w ∈ wsX120, w ∈ wsX12_guide := by decide +kernel
  refine lv_aload_n hx hb dX12_guide_0 rfl (lv_at hl 0 rfl) ?_
  refine lv_iconst (v := 0) hx hb dX12_guide_1 (by decide) ?_
  refine zput (D := D) (ci := 11) (v := .int 0) (ty := .int) hx hb hts hiX12 tyX12 tyX12_ok nmX12 hown hK hw hS 0 rfl rfl 0 (by decide) (hts (.fieldLink RX12 129 "BeardPassModel" "thrown" "I") (by decide +kernel)) (fun _ h9 => h9) rfl (by decide +kernel) rfl rfl (Nat.le_of_ble_eq_true rfl) dX12_guide_2 [(h0, .inr (11, [.int 0, .int 0, .ref (y 0), .int 0, .int 0, .int 0, .int 0, .long 0, .int 0, .int 0, .ref (y 1), .ref (y 2), .ref (y 3), .ref (y 4), .ref (y 5), .ref (y 6), .ref (y 7), .ref (y 8), .ref (y 9), .ref (y 10), .ref (y 11), .ref (y 12), .int 0, .int 0, .ref (y 13), .ref (y 14), .ref (y 15), .ref (y 16), .ref (y 17), .ref (y 18), .ref (y 19), .ref (y 20), .ref (y 21), .ref (y 22), .ref (y 23), .ref (y 24), .int 0, .long 0, .ref (y 25), .ref (y 26), .ref (y 27), .ref (y 28), .ref (y 29), .ref (y 30), .ref (y 31), .ref (y 32), .ref (y 33), .ref (y 34), .ref (y 35), .ref (y 36), .ref (y 37), .int 0, .int 0, .ref (y 38), .long 0, .int 0, .int 0])), (y 1, .inl (ct 0, 8, .inl (upd (upd (fun _ => 0) 2 1) 3 2)))] rfl (fun H locs hw hS => ?_)
  refine lv_aload_n hx hb dX12_guide_5 rfl (lv_at hl 0 rfl) ?_
  refine lv_iload_n hx hb dX12_guide_6 rfl (lv_at hl 1 rfl) ?_
  refine zcall2 (va_runV (As := [.int p1]) (rest := []) ⟨hx, hb, hml, hown, hts⟩ (c_isPerson12 l D ct h0 y p1 H.size) (cwV 1 hts gX12_guide_X12_isPerson rfl rfl rfl (by decide +kernel) ⟨Nat.le_of_ble_eq_true rfl, Nat.le_of_ble_eq_true rfl⟩) (zpreV hK hw hS hA zZ.nil hN [0, 1] rfl rfl 11 0 rfl rfl) rfl rfl hl.1 rfl (lv_room (Nat.le_of_ble_eq_true rfl)) dX12_guide_7 ⟨Nat.le_of_ble_eq_true rfl, Nat.le_of_ble_eq_true rfl⟩) hw hS hA [0, 1] [] rfl rfl rfl rfl (fun _ H locs hp1 hw hS => ?_)
  have hw : zPD D A [(h0, .inr (11, [.int 0, .int 0, .ref (y 0), .int 0, .int 0, .int 0, .int 0, .long 0, .int 0, .int 0, .ref (y 1), .ref (y 2), .ref (y 3), .ref (y 4), .ref (y 5), .ref (y 6), .ref (y 7), .ref (y 8), .ref (y 9), .ref (y 10), .ref (y 11), .ref (y 12), .int 0, .int 0, .ref (y 13), .ref (y 14), .ref (y 15), .ref (y 16), .ref (y 17), .ref (y 18), .ref (y 19), .ref (y 20), .ref (y 21), .ref (y 22), .ref (y 23), .ref (y 24), .int 0, .long 0, .ref (y 25), .ref (y 26), .ref (y 27), .ref (y 28), .ref (y 29), .ref (y 30), .ref (y 31), .ref (y 32), .ref (y 33), .ref (y 34), .ref (y 35), .ref (y 36), .ref (y 37), .int 0, .int 0, .ref (y 38), .long 0, .int 0, .int 0])), (y 1, .inl (ct 0, 8, .inl (upd (upd (fun _ => 0) 2 1) 3 2)))] H := hw
  refine zfr 10 [.int 0] rfl rfl ?_
  refine lv_if_eq (tgt := 38) hx hb dX12_guide_10 (by decide) (fun _ => ?_) (fun h => absurd (by decide) h)
  refine lv_iconst (v := 0) hx hb dX12_guide_38 (by decide) ?_
  refine lv_istore_n (lv' := [(3, .int 0), (0, .ref h0), (1, .int p1), (2, .int p2)]) hx hb dX12_guide_39 rfl hl (by decide) rfl (fun ls hl => ?_)
  refine lv_iload_n hx hb dX12_guide_40 rfl (lv_at hl 0 rfl) ?_
  refine lv_if_gt (tgt := 46) hx hb dX12_guide_41 (by decide) (fun h => absurd h (by decide)) (fun _ => ?_)
  refine lv_iconst (v := (-1)) hx hb dX12_guide_44 (by decide) ?_
  exact ziret hx hb hr (rfl) hlocks () (rfl) (trivial) hw [0, 1] rfl (rfl) hS (Nat.le_of_ble_eq_true rfl) (Nat.le_of_ble_eq_true rfl) dX12_guide_45

set_option maxHeartbeats 4000000 in
set_option maxRecDepth 100000 in
/-- cheapest on a new object -/
theorem r_cheapest (l : Launch) (D : va_G) (ct : Nat → ClassId) (h0 : Nat) (y : Nat → Nat) (p1 : Int32)  : zC l yX12_cheapest wsX12_cheapest ({ frames := 2, cells := 0, slots := 0, locals := 120 }) D ct [] [.ref h0, .int p1] [(h0, .inr (11, [.int 0, .int 0, .ref (y 0), .int 0, .int 0, .int 0, .int 0, .long 0, .int 0, .int 0, .ref (y 1), .ref (y 2), .ref (y 3), .ref (y 4), .ref (y 5), .ref (y 6), .ref (y 7), .ref (y 8), .ref (y 9), .ref (y 10), .ref (y 11), .ref (y 12), .int 0, .int 0, .ref (y 13), .ref (y 14), .ref (y 15), .ref (y 16), .ref (y 17), .ref (y 18), .ref (y 19), .ref (y 20), .ref (y 21), .ref (y 22), .ref (y 23), .ref (y 24), .int 0, .long 0, .ref (y 25), .ref (y 26), .ref (y 27), .ref (y 28), .ref (y 29), .ref (y 30), .ref (y 31), .ref (y 32), .ref (y 33), .ref (y 34), .ref (y 35), .ref (y 36), .ref (y 37), .int 0, .int 0, .ref (y 38), .long 0, .int 0, .int 0])), (y 1, .inl (ct 0, 8, .inl (upd (upd (fun _ => 0) 2 1) 3 2)))] (S := Unit) (fun _ => some (.int (-1))) (fun _ => True) (fun _ => [(h0, .inr (11, [.int 0, .int 0, .ref (y 0), .int 0, .int 0, .int 0, .int 0, .long 0, .int 0, .int 0, .ref (y 1), .ref (y 2), .ref (y 3), .ref (y 4), .ref (y 5), .ref (y 6), .ref (y 7), .ref (y 8), .ref (y 9), .ref (y 10), .ref (y 11), .ref (y 12), .int 0, .int 0, .ref (y 13), .ref (y 14), .ref (y 15), .ref (y 16), .ref (y 17), .ref (y 18), .ref (y 19), .ref (y 20), .ref (y 21), .ref (y 22), .ref (y 23), .ref (y 24), .int 0, .long 0, .ref (y 25), .ref (y 26), .ref (y 27), .ref (y 28), .ref (y 29), .ref (y 30), .ref (y 31), .ref (y 32), .ref (y 33), .ref (y 34), .ref (y 35), .ref (y 36), .ref (y 37), .int 0, .int 0, .ref (y 38), .long 0, .int 0, .int 0])), (y 1, .inl (ct 0, 8, .inl (upd (upd (fun _ => 0) 2 1) 3 2)))]) 0 0 := by
  refine zofW cX12_cheapest 6 (some .int) (by decide) rfl (Nat.le_of_ble_eq_true rfl) ?_
  intro p e s m below meth c A hx hb hr hml hts hown hlocks hname hK hA hZ hN H locs hw hS ls hl
  have hown : s.vm.findClass RX12 = some m.cls := hown
  have hl : lv_has ls 6 [(0, .ref h0), (1, .int p1)] := hl
  have hiX12 : ∀ w ∈ wsX120, w ∈ wsX12_cheapest := by decide +kernel
  refine lv_aload_n hx hb dX12_cheapest_0 rfl (lv_at hl 0 rfl) ?_
  refine lv_iconst (v := 0) hx hb dX12_cheapest_1 (by decide) ?_
  refine zput (D := D) (ci := 11) (v := .int 0) (ty := .int) hx hb hts hiX12 tyX12 tyX12_ok nmX12 hown hK hw hS 0 rfl rfl 0 (by decide) (hts (.fieldLink RX12 129 "BeardPassModel" "thrown" "I") (by decide +kernel)) (fun _ h9 => h9) rfl (by decide +kernel) rfl rfl (Nat.le_of_ble_eq_true rfl) dX12_cheapest_2 [(h0, .inr (11, [.int 0, .int 0, .ref (y 0), .int 0, .int 0, .int 0, .int 0, .long 0, .int 0, .int 0, .ref (y 1), .ref (y 2), .ref (y 3), .ref (y 4), .ref (y 5), .ref (y 6), .ref (y 7), .ref (y 8), .ref (y 9), .ref (y 10), .ref (y 11), .ref (y 12), .int 0, .int 0, .ref (y 13), .ref (y 14), .ref (y 15), .ref (y 16), .ref (y 17), .ref (y 18), .ref (y 19), .ref (y 20), .ref (y 21), .ref (y 22), .ref (y 23), .ref (y 24), .int 0, .long 0, .ref (y 25), .ref (y 26), .ref (y 27), .ref (y 28), .ref (y 29), .ref (y 30), .ref (y 31), .ref (y 32), .ref (y 33), .ref (y 34), .ref (y 35), .ref (y 36), .ref (y 37), .int 0, .int 0, .ref (y 38), .long 0, .int 0, .int 0])), (y 1, .inl (ct 0, 8, .inl (upd (upd (fun _ => 0) 2 1) 3 2)))] rfl (fun H locs hw hS => ?_)
  refine lv_aload_n hx hb dX12_cheapest_5 rfl (lv_at hl 0 rfl) ?_
  refine lv_iload_n hx hb dX12_cheapest_6 rfl (lv_at hl 1 rfl) ?_
  refine zcall2 (va_runV (As := [.int p1]) (rest := []) ⟨hx, hb, hml, hown, hts⟩ (c_isPerson12 l D ct h0 y p1 H.size) (cwV 1 hts gX12_cheapest_X12_isPerson rfl rfl rfl (by decide +kernel) ⟨Nat.le_of_ble_eq_true rfl, Nat.le_of_ble_eq_true rfl⟩) (zpreV hK hw hS hA zZ.nil hN [0, 1] rfl rfl 11 0 rfl rfl) rfl rfl hl.1 rfl (lv_room (Nat.le_of_ble_eq_true rfl)) dX12_cheapest_7 ⟨Nat.le_of_ble_eq_true rfl, Nat.le_of_ble_eq_true rfl⟩) hw hS hA [0, 1] [] rfl rfl rfl rfl (fun _ H locs hp1 hw hS => ?_)
  have hw : zPD D A [(h0, .inr (11, [.int 0, .int 0, .ref (y 0), .int 0, .int 0, .int 0, .int 0, .long 0, .int 0, .int 0, .ref (y 1), .ref (y 2), .ref (y 3), .ref (y 4), .ref (y 5), .ref (y 6), .ref (y 7), .ref (y 8), .ref (y 9), .ref (y 10), .ref (y 11), .ref (y 12), .int 0, .int 0, .ref (y 13), .ref (y 14), .ref (y 15), .ref (y 16), .ref (y 17), .ref (y 18), .ref (y 19), .ref (y 20), .ref (y 21), .ref (y 22), .ref (y 23), .ref (y 24), .int 0, .long 0, .ref (y 25), .ref (y 26), .ref (y 27), .ref (y 28), .ref (y 29), .ref (y 30), .ref (y 31), .ref (y 32), .ref (y 33), .ref (y 34), .ref (y 35), .ref (y 36), .ref (y 37), .int 0, .int 0, .ref (y 38), .long 0, .int 0, .int 0])), (y 1, .inl (ct 0, 8, .inl (upd (upd (fun _ => 0) 2 1) 3 2)))] H := hw
  refine zfr 10 [.int 0] rfl rfl ?_
  refine lv_if_ne (tgt := 15) hx hb dX12_cheapest_10 (by decide) (fun h => absurd (by decide) h) (fun _ => ?_)
  refine lv_iconst (v := (-1)) hx hb dX12_cheapest_13 (by decide) ?_
  exact ziret hx hb hr (rfl) hlocks () (rfl) (trivial) hw [0, 1] rfl (rfl) hS (Nat.le_of_ble_eq_true rfl) (Nat.le_of_ble_eq_true rfl) dX12_cheapest_14

set_option maxHeartbeats 4000000 in
set_option maxRecDepth 100000 in
/-- debt on a new object -/
theorem r_debt (l : Launch) (D : va_G) (ct : Nat → ClassId) (h0 : Nat) (y : Nat → Nat) (p1 : Int32) (p2 : Int32)  : zC l yX12_debt wsX12_debt ({ frames := 2, cells := 0, slots := 0, locals := 120 }) D ct [] [.ref h0, .int p1, .int p2] [(h0, .inr (11, [.int 0, .int 0, .ref (y 0), .int 0, .int 0, .int 0, .int 0, .long 0, .int 0, .int 0, .ref (y 1), .ref (y 2), .ref (y 3), .ref (y 4), .ref (y 5), .ref (y 6), .ref (y 7), .ref (y 8), .ref (y 9), .ref (y 10), .ref (y 11), .ref (y 12), .int 0, .int 0, .ref (y 13), .ref (y 14), .ref (y 15), .ref (y 16), .ref (y 17), .ref (y 18), .ref (y 19), .ref (y 20), .ref (y 21), .ref (y 22), .ref (y 23), .ref (y 24), .int 0, .long 0, .ref (y 25), .ref (y 26), .ref (y 27), .ref (y 28), .ref (y 29), .ref (y 30), .ref (y 31), .ref (y 32), .ref (y 33), .ref (y 34), .ref (y 35), .ref (y 36), .ref (y 37), .int 0, .int 0, .ref (y 38), .long 0, .int 0, .int 0])), (y 1, .inl (ct 0, 8, .inl (upd (upd (fun _ => 0) 2 1) 3 2)))] (S := Unit) (fun _ => some (.int (-1))) (fun _ => True) (fun _ => [(h0, .inr (11, [.int 0, .int 0, .ref (y 0), .int 0, .int 0, .int 0, .int 0, .long 0, .int 0, .int 0, .ref (y 1), .ref (y 2), .ref (y 3), .ref (y 4), .ref (y 5), .ref (y 6), .ref (y 7), .ref (y 8), .ref (y 9), .ref (y 10), .ref (y 11), .ref (y 12), .int 0, .int 0, .ref (y 13), .ref (y 14), .ref (y 15), .ref (y 16), .ref (y 17), .ref (y 18), .ref (y 19), .ref (y 20), .ref (y 21), .ref (y 22), .ref (y 23), .ref (y 24), .int 0, .long 0, .ref (y 25), .ref (y 26), .ref (y 27), .ref (y 28), .ref (y 29), .ref (y 30), .ref (y 31), .ref (y 32), .ref (y 33), .ref (y 34), .ref (y 35), .ref (y 36), .ref (y 37), .int 0, .int 0, .ref (y 38), .long 0, .int 0, .int 0])), (y 1, .inl (ct 0, 8, .inl (upd (upd (fun _ => 0) 2 1) 3 2)))]) 0 0 := by
  refine zofW cX12_debt 4 (some .int) (by decide) rfl (Nat.le_of_ble_eq_true rfl) ?_
  intro p e s m below meth c A hx hb hr hml hts hown hlocks hname hK hA hZ hN H locs hw hS ls hl
  have hown : s.vm.findClass RX12 = some m.cls := hown
  have hl : lv_has ls 4 [(0, .ref h0), (1, .int p1), (2, .int p2)] := hl
  have hiX12 : ∀ w ∈ wsX120, w ∈ wsX12_debt := by decide +kernel
  refine lv_aload_n hx hb dX12_debt_0 rfl (lv_at hl 0 rfl) ?_
  refine lv_iconst (v := 0) hx hb dX12_debt_1 (by decide) ?_
  refine zput (D := D) (ci := 11) (v := .int 0) (ty := .int) hx hb hts hiX12 tyX12 tyX12_ok nmX12 hown hK hw hS 0 rfl rfl 0 (by decide) (hts (.fieldLink RX12 129 "BeardPassModel" "thrown" "I") (by decide +kernel)) (fun _ h9 => h9) rfl (by decide +kernel) rfl rfl (Nat.le_of_ble_eq_true rfl) dX12_debt_2 [(h0, .inr (11, [.int 0, .int 0, .ref (y 0), .int 0, .int 0, .int 0, .int 0, .long 0, .int 0, .int 0, .ref (y 1), .ref (y 2), .ref (y 3), .ref (y 4), .ref (y 5), .ref (y 6), .ref (y 7), .ref (y 8), .ref (y 9), .ref (y 10), .ref (y 11), .ref (y 12), .int 0, .int 0, .ref (y 13), .ref (y 14), .ref (y 15), .ref (y 16), .ref (y 17), .ref (y 18), .ref (y 19), .ref (y 20), .ref (y 21), .ref (y 22), .ref (y 23), .ref (y 24), .int 0, .long 0, .ref (y 25), .ref (y 26), .ref (y 27), .ref (y 28), .ref (y 29), .ref (y 30), .ref (y 31), .ref (y 32), .ref (y 33), .ref (y 34), .ref (y 35), .ref (y 36), .ref (y 37), .int 0, .int 0, .ref (y 38), .long 0, .int 0, .int 0])), (y 1, .inl (ct 0, 8, .inl (upd (upd (fun _ => 0) 2 1) 3 2)))] rfl (fun H locs hw hS => ?_)
  refine lv_aload_n hx hb dX12_debt_5 rfl (lv_at hl 0 rfl) ?_
  refine lv_iload_n hx hb dX12_debt_6 rfl (lv_at hl 1 rfl) ?_
  refine zcall2 (va_runV (As := [.int p1]) (rest := []) ⟨hx, hb, hml, hown, hts⟩ (c_isPerson12 l D ct h0 y p1 H.size) (cwV 1 hts gX12_debt_X12_isPerson rfl rfl rfl (by decide +kernel) ⟨Nat.le_of_ble_eq_true rfl, Nat.le_of_ble_eq_true rfl⟩) (zpreV hK hw hS hA zZ.nil hN [0, 1] rfl rfl 11 0 rfl rfl) rfl rfl hl.1 rfl (lv_room (Nat.le_of_ble_eq_true rfl)) dX12_debt_7 ⟨Nat.le_of_ble_eq_true rfl, Nat.le_of_ble_eq_true rfl⟩) hw hS hA [0, 1] [] rfl rfl rfl rfl (fun _ H locs hp1 hw hS => ?_)
  have hw : zPD D A [(h0, .inr (11, [.int 0, .int 0, .ref (y 0), .int 0, .int 0, .int 0, .int 0, .long 0, .int 0, .int 0, .ref (y 1), .ref (y 2), .ref (y 3), .ref (y 4), .ref (y 5), .ref (y 6), .ref (y 7), .ref (y 8), .ref (y 9), .ref (y 10), .ref (y 11), .ref (y 12), .int 0, .int 0, .ref (y 13), .ref (y 14), .ref (y 15), .ref (y 16), .ref (y 17), .ref (y 18), .ref (y 19), .ref (y 20), .ref (y 21), .ref (y 22), .ref (y 23), .ref (y 24), .int 0, .long 0, .ref (y 25), .ref (y 26), .ref (y 27), .ref (y 28), .ref (y 29), .ref (y 30), .ref (y 31), .ref (y 32), .ref (y 33), .ref (y 34), .ref (y 35), .ref (y 36), .ref (y 37), .int 0, .int 0, .ref (y 38), .long 0, .int 0, .int 0])), (y 1, .inl (ct 0, 8, .inl (upd (upd (fun _ => 0) 2 1) 3 2)))] H := hw
  refine zfr 10 [.int 0] rfl rfl ?_
  refine lv_if_eq (tgt := 30) hx hb dX12_debt_10 (by decide) (fun _ => ?_) (fun h => absurd (by decide) h)
  refine lv_iconst (v := (-1)) hx hb dX12_debt_30 (by decide) ?_
  refine lv_istore_n (lv' := [(3, .int (-1)), (0, .ref h0), (1, .int p1), (2, .int p2)]) hx hb dX12_debt_31 rfl hl (by decide) rfl (fun ls hl => ?_)
  refine lv_iload_n hx hb dX12_debt_32 rfl (lv_at hl 0 rfl) ?_
  refine lv_if_ge (tgt := 40) hx hb dX12_debt_33 (by decide) (fun h => absurd h (by decide)) (fun _ => ?_)
  refine lv_iconst (v := (-1)) hx hb dX12_debt_36 (by decide) ?_
  refine lv_goto (tgt := 62) hx hb dX12_debt_37 (by decide) ?_
  exact ziret hx hb hr (rfl) hlocks () (rfl) (trivial) hw [0, 1] rfl (rfl) hS (Nat.le_of_ble_eq_true rfl) (Nat.le_of_ble_eq_true rfl) dX12_debt_62

set_option maxHeartbeats 4000000 in
set_option maxRecDepth 100000 in
/-- shaven on a new object -/
theorem r_shaven (l : Launch) (D : va_G) (ct : Nat → ClassId) (h0 : Nat) (y : Nat → Nat) (p1 : Int32)  : zC l yX12_shaven wsX12_shaven ({ frames := 2, cells := 0, slots := 0, locals := 120 }) D ct [] [.ref h0, .int p1] [(h0, .inr (11, [.int 0, .int 0, .ref (y 0), .int 0, .int 0, .int 0, .int 0, .long 0, .int 0, .int 0, .ref (y 1), .ref (y 2), .ref (y 3), .ref (y 4), .ref (y 5), .ref (y 6), .ref (y 7), .ref (y 8), .ref (y 9), .ref (y 10), .ref (y 11), .ref (y 12), .int 0, .int 0, .ref (y 13), .ref (y 14), .ref (y 15), .ref (y 16), .ref (y 17), .ref (y 18), .ref (y 19), .ref (y 20), .ref (y 21), .ref (y 22), .ref (y 23), .ref (y 24), .int 0, .long 0, .ref (y 25), .ref (y 26), .ref (y 27), .ref (y 28), .ref (y 29), .ref (y 30), .ref (y 31), .ref (y 32), .ref (y 33), .ref (y 34), .ref (y 35), .ref (y 36), .ref (y 37), .int 0, .int 0, .ref (y 38), .long 0, .int 0, .int 0])), (y 1, .inl (ct 0, 8, .inl (upd (upd (fun _ => 0) 2 1) 3 2)))] (S := Unit) (fun _ => some (.int (-1))) (fun _ => True) (fun _ => [(h0, .inr (11, [.int 0, .int 0, .ref (y 0), .int 0, .int 0, .int 0, .int 0, .long 0, .int 0, .int 0, .ref (y 1), .ref (y 2), .ref (y 3), .ref (y 4), .ref (y 5), .ref (y 6), .ref (y 7), .ref (y 8), .ref (y 9), .ref (y 10), .ref (y 11), .ref (y 12), .int 0, .int 0, .ref (y 13), .ref (y 14), .ref (y 15), .ref (y 16), .ref (y 17), .ref (y 18), .ref (y 19), .ref (y 20), .ref (y 21), .ref (y 22), .ref (y 23), .ref (y 24), .int 0, .long 0, .ref (y 25), .ref (y 26), .ref (y 27), .ref (y 28), .ref (y 29), .ref (y 30), .ref (y 31), .ref (y 32), .ref (y 33), .ref (y 34), .ref (y 35), .ref (y 36), .ref (y 37), .int 0, .int 0, .ref (y 38), .long 0, .int 0, .int 0])), (y 1, .inl (ct 0, 8, .inl (upd (upd (fun _ => 0) 2 1) 3 2)))]) 0 0 := by
  refine zofW cX12_shaven 3 (some .int) (by decide) rfl (Nat.le_of_ble_eq_true rfl) ?_
  intro p e s m below meth c A hx hb hr hml hts hown hlocks hname hK hA hZ hN H locs hw hS ls hl
  have hown : s.vm.findClass RX12 = some m.cls := hown
  have hl : lv_has ls 3 [(0, .ref h0), (1, .int p1)] := hl
  have hiX12 : ∀ w ∈ wsX120, w ∈ wsX12_shaven := by decide +kernel
  refine lv_aload_n hx hb dX12_shaven_0 rfl (lv_at hl 0 rfl) ?_
  refine lv_iconst (v := 0) hx hb dX12_shaven_1 (by decide) ?_
  refine zput (D := D) (ci := 11) (v := .int 0) (ty := .int) hx hb hts hiX12 tyX12 tyX12_ok nmX12 hown hK hw hS 0 rfl rfl 0 (by decide) (hts (.fieldLink RX12 129 "BeardPassModel" "thrown" "I") (by decide +kernel)) (fun _ h9 => h9) rfl (by decide +kernel) rfl rfl (Nat.le_of_ble_eq_true rfl) dX12_shaven_2 [(h0, .inr (11, [.int 0, .int 0, .ref (y 0), .int 0, .int 0, .int 0, .int 0, .long 0, .int 0, .int 0, .ref (y 1), .ref (y 2), .ref (y 3), .ref (y 4), .ref (y 5), .ref (y 6), .ref (y 7), .ref (y 8), .ref (y 9), .ref (y 10), .ref (y 11), .ref (y 12), .int 0, .int 0, .ref (y 13), .ref (y 14), .ref (y 15), .ref (y 16), .ref (y 17), .ref (y 18), .ref (y 19), .ref (y 20), .ref (y 21), .ref (y 22), .ref (y 23), .ref (y 24), .int 0, .long 0, .ref (y 25), .ref (y 26), .ref (y 27), .ref (y 28), .ref (y 29), .ref (y 30), .ref (y 31), .ref (y 32), .ref (y 33), .ref (y 34), .ref (y 35), .ref (y 36), .ref (y 37), .int 0, .int 0, .ref (y 38), .long 0, .int 0, .int 0])), (y 1, .inl (ct 0, 8, .inl (upd (upd (fun _ => 0) 2 1) 3 2)))] rfl (fun H locs hw hS => ?_)
  refine lv_aload_n hx hb dX12_shaven_5 rfl (lv_at hl 0 rfl) ?_
  refine lv_iload_n hx hb dX12_shaven_6 rfl (lv_at hl 1 rfl) ?_
  refine zcall2 (va_runV (As := [.int p1]) (rest := []) ⟨hx, hb, hml, hown, hts⟩ (c_isPerson12 l D ct h0 y p1 H.size) (cwV 1 hts gX12_shaven_X12_isPerson rfl rfl rfl (by decide +kernel) ⟨Nat.le_of_ble_eq_true rfl, Nat.le_of_ble_eq_true rfl⟩) (zpreV hK hw hS hA zZ.nil hN [0, 1] rfl rfl 11 0 rfl rfl) rfl rfl hl.1 rfl (lv_room (Nat.le_of_ble_eq_true rfl)) dX12_shaven_7 ⟨Nat.le_of_ble_eq_true rfl, Nat.le_of_ble_eq_true rfl⟩) hw hS hA [0, 1] [] rfl rfl rfl rfl (fun _ H locs hp1 hw hS => ?_)
  have hw : zPD D A [(h0, .inr (11, [.int 0, .int 0, .ref (y 0), .int 0, .int 0, .int 0, .int 0, .long 0, .int 0, .int 0, .ref (y 1), .ref (y 2), .ref (y 3), .ref (y 4), .ref (y 5), .ref (y 6), .ref (y 7), .ref (y 8), .ref (y 9), .ref (y 10), .ref (y 11), .ref (y 12), .int 0, .int 0, .ref (y 13), .ref (y 14), .ref (y 15), .ref (y 16), .ref (y 17), .ref (y 18), .ref (y 19), .ref (y 20), .ref (y 21), .ref (y 22), .ref (y 23), .ref (y 24), .int 0, .long 0, .ref (y 25), .ref (y 26), .ref (y 27), .ref (y 28), .ref (y 29), .ref (y 30), .ref (y 31), .ref (y 32), .ref (y 33), .ref (y 34), .ref (y 35), .ref (y 36), .ref (y 37), .int 0, .int 0, .ref (y 38), .long 0, .int 0, .int 0])), (y 1, .inl (ct 0, 8, .inl (upd (upd (fun _ => 0) 2 1) 3 2)))] H := hw
  refine zfr 10 [.int 0] rfl rfl ?_
  refine lv_if_ne (tgt := 15) hx hb dX12_shaven_10 (by decide) (fun h => absurd (by decide) h) (fun _ => ?_)
  refine lv_iconst (v := (-1)) hx hb dX12_shaven_13 (by decide) ?_
  exact ziret hx hb hr (rfl) hlocks () (rfl) (trivial) hw [0, 1] rfl (rfl) hS (Nat.le_of_ble_eq_true rfl) (Nat.le_of_ble_eq_true rfl) dX12_shaven_14

set_option maxHeartbeats 4000000 in
set_option maxRecDepth 100000 in
/-- speakers on a new object -/
theorem r_speakers (l : Launch) (D : va_G) (ct : Nat → ClassId) (h0 : Nat) (y : Nat → Nat) (p1 : Int32) (p2 : Int32)  : zC l yX12_speakers wsX12_speakers ({ frames := 2, cells := 0, slots := 0, locals := 120 }) D ct [] [.ref h0, .int p1, .int p2] [(h0, .inr (11, [.int 0, .int 0, .ref (y 0), .int 0, .int 0, .int 0, .int 0, .long 0, .int 0, .int 0, .ref (y 1), .ref (y 2), .ref (y 3), .ref (y 4), .ref (y 5), .ref (y 6), .ref (y 7), .ref (y 8), .ref (y 9), .ref (y 10), .ref (y 11), .ref (y 12), .int 0, .int 0, .ref (y 13), .ref (y 14), .ref (y 15), .ref (y 16), .ref (y 17), .ref (y 18), .ref (y 19), .ref (y 20), .ref (y 21), .ref (y 22), .ref (y 23), .ref (y 24), .int 0, .long 0, .ref (y 25), .ref (y 26), .ref (y 27), .ref (y 28), .ref (y 29), .ref (y 30), .ref (y 31), .ref (y 32), .ref (y 33), .ref (y 34), .ref (y 35), .ref (y 36), .ref (y 37), .int 0, .int 0, .ref (y 38), .long 0, .int 0, .int 0])), (y 1, .inl (ct 0, 8, .inl (upd (upd (fun _ => 0) 2 1) 3 2)))] (S := Unit) (fun _ => some (.int (-1))) (fun _ => True) (fun _ => [(h0, .inr (11, [.int 0, .int 0, .ref (y 0), .int 0, .int 0, .int 0, .int 0, .long 0, .int 0, .int 0, .ref (y 1), .ref (y 2), .ref (y 3), .ref (y 4), .ref (y 5), .ref (y 6), .ref (y 7), .ref (y 8), .ref (y 9), .ref (y 10), .ref (y 11), .ref (y 12), .int 0, .int 0, .ref (y 13), .ref (y 14), .ref (y 15), .ref (y 16), .ref (y 17), .ref (y 18), .ref (y 19), .ref (y 20), .ref (y 21), .ref (y 22), .ref (y 23), .ref (y 24), .int 0, .long 0, .ref (y 25), .ref (y 26), .ref (y 27), .ref (y 28), .ref (y 29), .ref (y 30), .ref (y 31), .ref (y 32), .ref (y 33), .ref (y 34), .ref (y 35), .ref (y 36), .ref (y 37), .int 0, .int 0, .ref (y 38), .long 0, .int 0, .int 0])), (y 1, .inl (ct 0, 8, .inl (upd (upd (fun _ => 0) 2 1) 3 2)))]) 0 0 := by
  refine zofW cX12_speakers 3 (some .int) (by decide) rfl (Nat.le_of_ble_eq_true rfl) ?_
  intro p e s m below meth c A hx hb hr hml hts hown hlocks hname hK hA hZ hN H locs hw hS ls hl
  have hown : s.vm.findClass RX12 = some m.cls := hown
  have hl : lv_has ls 3 [(0, .ref h0), (1, .int p1), (2, .int p2)] := hl
  have hiX12 : ∀ w ∈ wsX120, w ∈ wsX12_speakers := by decide +kernel
  refine lv_aload_n hx hb dX12_speakers_0 rfl (lv_at hl 0 rfl) ?_
  refine lv_iconst (v := 0) hx hb dX12_speakers_1 (by decide) ?_
  refine zput (D := D) (ci := 11) (v := .int 0) (ty := .int) hx hb hts hiX12 tyX12 tyX12_ok nmX12 hown hK hw hS 0 rfl rfl 0 (by decide) (hts (.fieldLink RX12 129 "BeardPassModel" "thrown" "I") (by decide +kernel)) (fun _ h9 => h9) rfl (by decide +kernel) rfl rfl (Nat.le_of_ble_eq_true rfl) dX12_speakers_2 [(h0, .inr (11, [.int 0, .int 0, .ref (y 0), .int 0, .int 0, .int 0, .int 0, .long 0, .int 0, .int 0, .ref (y 1), .ref (y 2), .ref (y 3), .ref (y 4), .ref (y 5), .ref (y 6), .ref (y 7), .ref (y 8), .ref (y 9), .ref (y 10), .ref (y 11), .ref (y 12), .int 0, .int 0, .ref (y 13), .ref (y 14), .ref (y 15), .ref (y 16), .ref (y 17), .ref (y 18), .ref (y 19), .ref (y 20), .ref (y 21), .ref (y 22), .ref (y 23), .ref (y 24), .int 0, .long 0, .ref (y 25), .ref (y 26), .ref (y 27), .ref (y 28), .ref (y 29), .ref (y 30), .ref (y 31), .ref (y 32), .ref (y 33), .ref (y 34), .ref (y 35), .ref (y 36), .ref (y 37), .int 0, .int 0, .ref (y 38), .long 0, .int 0, .int 0])), (y 1, .inl (ct 0, 8, .inl (upd (upd (fun _ => 0) 2 1) 3 2)))] rfl (fun H locs hw hS => ?_)
  refine lv_aload_n hx hb dX12_speakers_5 rfl (lv_at hl 0 rfl) ?_
  refine lv_iload_n hx hb dX12_speakers_6 rfl (lv_at hl 1 rfl) ?_
  refine zcall2 (va_runV (As := [.int p1]) (rest := []) ⟨hx, hb, hml, hown, hts⟩ (c_isPerson12 l D ct h0 y p1 H.size) (cwV 1 hts gX12_speakers_X12_isPerson rfl rfl rfl (by decide +kernel) ⟨Nat.le_of_ble_eq_true rfl, Nat.le_of_ble_eq_true rfl⟩) (zpreV hK hw hS hA zZ.nil hN [0, 1] rfl rfl 11 0 rfl rfl) rfl rfl hl.1 rfl (lv_room (Nat.le_of_ble_eq_true rfl)) dX12_speakers_7 ⟨Nat.le_of_ble_eq_true rfl, Nat.le_of_ble_eq_true rfl⟩) hw hS hA [0, 1] [] rfl rfl rfl rfl (fun _ H locs hp1 hw hS => ?_)
  have hw : zPD D A [(h0, .inr (11, [.int 0, .int 0, .ref (y 0), .int 0, .int 0, .int 0, .int 0, .long 0, .int 0, .int 0, .ref (y 1), .ref (y 2), .ref (y 3), .ref (y 4), .ref (y 5), .ref (y 6), .ref (y 7), .ref (y 8), .ref (y 9), .ref (y 10), .ref (y 11), .ref (y 12), .int 0, .int 0, .ref (y 13), .ref (y 14), .ref (y 15), .ref (y 16), .ref (y 17), .ref (y 18), .ref (y 19), .ref (y 20), .ref (y 21), .ref (y 22), .ref (y 23), .ref (y 24), .int 0, .long 0, .ref (y 25), .ref (y 26), .ref (y 27), .ref (y 28), .ref (y 29), .ref (y 30), .ref (y 31), .ref (y 32), .ref (y 33), .ref (y 34), .ref (y 35), .ref (y 36), .ref (y 37), .int 0, .int 0, .ref (y 38), .long 0, .int 0, .int 0])), (y 1, .inl (ct 0, 8, .inl (upd (upd (fun _ => 0) 2 1) 3 2)))] H := hw
  refine zfr 10 [.int 0] rfl rfl ?_
  refine lv_if_eq (tgt := 47) hx hb dX12_speakers_10 (by decide) (fun _ => ?_) (fun h => absurd (by decide) h)
  refine lv_iconst (v := (-1)) hx hb dX12_speakers_47 (by decide) ?_
  exact ziret hx hb hr (rfl) hlocks () (rfl) (trivial) hw [0, 1] rfl (rfl) hS (Nat.le_of_ble_eq_true rfl) (Nat.le_of_ble_eq_true rfl) dX12_speakers_48

set_option maxHeartbeats 4000000 in
set_option maxRecDepth 100000 in
/-- stricter on a new object -/
theorem r_stricter (l : Launch) (D : va_G) (ct : Nat → ClassId) (h0 : Nat) (y : Nat → Nat) (p1 : Int32) (p2 : Int32)  : zC l yX12_stricter wsX12_stricter ({ frames := 2, cells := 0, slots := 0, locals := 120 }) D ct [] [.ref h0, .int p1, .int p2] [(h0, .inr (11, [.int 0, .int 0, .ref (y 0), .int 0, .int 0, .int 0, .int 0, .long 0, .int 0, .int 0, .ref (y 1), .ref (y 2), .ref (y 3), .ref (y 4), .ref (y 5), .ref (y 6), .ref (y 7), .ref (y 8), .ref (y 9), .ref (y 10), .ref (y 11), .ref (y 12), .int 0, .int 0, .ref (y 13), .ref (y 14), .ref (y 15), .ref (y 16), .ref (y 17), .ref (y 18), .ref (y 19), .ref (y 20), .ref (y 21), .ref (y 22), .ref (y 23), .ref (y 24), .int 0, .long 0, .ref (y 25), .ref (y 26), .ref (y 27), .ref (y 28), .ref (y 29), .ref (y 30), .ref (y 31), .ref (y 32), .ref (y 33), .ref (y 34), .ref (y 35), .ref (y 36), .ref (y 37), .int 0, .int 0, .ref (y 38), .long 0, .int 0, .int 0])), (y 1, .inl (ct 0, 8, .inl (upd (upd (fun _ => 0) 2 1) 3 2)))] (S := Unit) (fun _ => some (.int (-1))) (fun _ => True) (fun _ => [(h0, .inr (11, [.int 0, .int 0, .ref (y 0), .int 0, .int 0, .int 0, .int 0, .long 0, .int 0, .int 0, .ref (y 1), .ref (y 2), .ref (y 3), .ref (y 4), .ref (y 5), .ref (y 6), .ref (y 7), .ref (y 8), .ref (y 9), .ref (y 10), .ref (y 11), .ref (y 12), .int 0, .int 0, .ref (y 13), .ref (y 14), .ref (y 15), .ref (y 16), .ref (y 17), .ref (y 18), .ref (y 19), .ref (y 20), .ref (y 21), .ref (y 22), .ref (y 23), .ref (y 24), .int 0, .long 0, .ref (y 25), .ref (y 26), .ref (y 27), .ref (y 28), .ref (y 29), .ref (y 30), .ref (y 31), .ref (y 32), .ref (y 33), .ref (y 34), .ref (y 35), .ref (y 36), .ref (y 37), .int 0, .int 0, .ref (y 38), .long 0, .int 0, .int 0])), (y 1, .inl (ct 0, 8, .inl (upd (upd (fun _ => 0) 2 1) 3 2)))]) 0 0 := by
  refine zofW cX12_stricter 5 (some .int) (by decide) rfl (Nat.le_of_ble_eq_true rfl) ?_
  intro p e s m below meth c A hx hb hr hml hts hown hlocks hname hK hA hZ hN H locs hw hS ls hl
  have hown : s.vm.findClass RX12 = some m.cls := hown
  have hl : lv_has ls 5 [(0, .ref h0), (1, .int p1), (2, .int p2)] := hl
  have hiX12 : ∀ w ∈ wsX120, w ∈ wsX12_stricter := by decide +kernel
  refine lv_aload_n hx hb dX12_stricter_0 rfl (lv_at hl 0 rfl) ?_
  refine lv_iconst (v := 0) hx hb dX12_stricter_1 (by decide) ?_
  refine zput (D := D) (ci := 11) (v := .int 0) (ty := .int) hx hb hts hiX12 tyX12 tyX12_ok nmX12 hown hK hw hS 0 rfl rfl 0 (by decide) (hts (.fieldLink RX12 129 "BeardPassModel" "thrown" "I") (by decide +kernel)) (fun _ h9 => h9) rfl (by decide +kernel) rfl rfl (Nat.le_of_ble_eq_true rfl) dX12_stricter_2 [(h0, .inr (11, [.int 0, .int 0, .ref (y 0), .int 0, .int 0, .int 0, .int 0, .long 0, .int 0, .int 0, .ref (y 1), .ref (y 2), .ref (y 3), .ref (y 4), .ref (y 5), .ref (y 6), .ref (y 7), .ref (y 8), .ref (y 9), .ref (y 10), .ref (y 11), .ref (y 12), .int 0, .int 0, .ref (y 13), .ref (y 14), .ref (y 15), .ref (y 16), .ref (y 17), .ref (y 18), .ref (y 19), .ref (y 20), .ref (y 21), .ref (y 22), .ref (y 23), .ref (y 24), .int 0, .long 0, .ref (y 25), .ref (y 26), .ref (y 27), .ref (y 28), .ref (y 29), .ref (y 30), .ref (y 31), .ref (y 32), .ref (y 33), .ref (y 34), .ref (y 35), .ref (y 36), .ref (y 37), .int 0, .int 0, .ref (y 38), .long 0, .int 0, .int 0])), (y 1, .inl (ct 0, 8, .inl (upd (upd (fun _ => 0) 2 1) 3 2)))] rfl (fun H locs hw hS => ?_)
  refine lv_aload_n hx hb dX12_stricter_5 rfl (lv_at hl 0 rfl) ?_
  refine lv_iload_n hx hb dX12_stricter_6 rfl (lv_at hl 1 rfl) ?_
  refine zcall2 (va_runV (As := [.int p1]) (rest := []) ⟨hx, hb, hml, hown, hts⟩ (c_isTown12 l D ct h0 y p1 H.size) (cwV 1 hts gX12_stricter_X12_isTown rfl rfl rfl (by decide +kernel) ⟨Nat.le_of_ble_eq_true rfl, Nat.le_of_ble_eq_true rfl⟩) (zpreV hK hw hS hA zZ.nil hN [0, 1] rfl rfl 11 0 rfl rfl) rfl rfl hl.1 rfl (lv_room (Nat.le_of_ble_eq_true rfl)) dX12_stricter_7 ⟨Nat.le_of_ble_eq_true rfl, Nat.le_of_ble_eq_true rfl⟩) hw hS hA [0, 1] [] rfl rfl rfl rfl (fun _ H locs hp1 hw hS => ?_)
  have hw : zPD D A [(h0, .inr (11, [.int 0, .int 0, .ref (y 0), .int 0, .int 0, .int 0, .int 0, .long 0, .int 0, .int 0, .ref (y 1), .ref (y 2), .ref (y 3), .ref (y 4), .ref (y 5), .ref (y 6), .ref (y 7), .ref (y 8), .ref (y 9), .ref (y 10), .ref (y 11), .ref (y 12), .int 0, .int 0, .ref (y 13), .ref (y 14), .ref (y 15), .ref (y 16), .ref (y 17), .ref (y 18), .ref (y 19), .ref (y 20), .ref (y 21), .ref (y 22), .ref (y 23), .ref (y 24), .int 0, .long 0, .ref (y 25), .ref (y 26), .ref (y 27), .ref (y 28), .ref (y 29), .ref (y 30), .ref (y 31), .ref (y 32), .ref (y 33), .ref (y 34), .ref (y 35), .ref (y 36), .ref (y 37), .int 0, .int 0, .ref (y 38), .long 0, .int 0, .int 0])), (y 1, .inl (ct 0, 8, .inl (upd (upd (fun _ => 0) 2 1) 3 2)))] H := hw
  refine zfr 10 [.int 0] rfl rfl ?_
  refine lv_if_eq (tgt := 23) hx hb dX12_stricter_10 (by decide) (fun _ => ?_) (fun h => absurd (by decide) h)
  refine lv_iconst (v := (-1)) hx hb dX12_stricter_23 (by decide) ?_
  exact ziret hx hb hr (rfl) hlocks () (rfl) (trivial) hw [0, 1] rfl (rfl) hS (Nat.le_of_ble_eq_true rfl) (Nat.le_of_ble_eq_true rfl) dX12_stricter_24

set_option maxHeartbeats 4000000 in
set_option maxRecDepth 100000 in
/-- see on a new object -/
theorem r_see (l : Launch) (D : va_G) (ct : Nat → ClassId) (h0 : Nat) (y : Nat → Nat) (p1 : Int32) (p2 : Int32)  : zC l yX12_see wsX12_see ({ frames := 2, cells := 0, slots := 0, locals := 120 }) D ct [] [.ref h0, .int p1, .int p2] [(h0, .inr (11, [.int 0, .int 0, .ref (y 0), .int 0, .int 0, .int 0, .int 0, .long 0, .int 0, .int 0, .ref (y 1), .ref (y 2), .ref (y 3), .ref (y 4), .ref (y 5), .ref (y 6), .ref (y 7), .ref (y 8), .ref (y 9), .ref (y 10), .ref (y 11), .ref (y 12), .int 0, .int 0, .ref (y 13), .ref (y 14), .ref (y 15), .ref (y 16), .ref (y 17), .ref (y 18), .ref (y 19), .ref (y 20), .ref (y 21), .ref (y 22), .ref (y 23), .ref (y 24), .int 0, .long 0, .ref (y 25), .ref (y 26), .ref (y 27), .ref (y 28), .ref (y 29), .ref (y 30), .ref (y 31), .ref (y 32), .ref (y 33), .ref (y 34), .ref (y 35), .ref (y 36), .ref (y 37), .int 0, .int 0, .ref (y 38), .long 0, .int 0, .int 0])), (y 1, .inl (ct 0, 8, .inl (upd (upd (fun _ => 0) 2 1) 3 2)))] (S := Unit) (fun _ => some (.int 0)) (fun _ => True) (fun _ => [(h0, .inr (11, [.int 0, .int 0, .ref (y 0), .int 0, .int 0, .int 0, .int 0, .long 0, .int 0, .int 0, .ref (y 1), .ref (y 2), .ref (y 3), .ref (y 4), .ref (y 5), .ref (y 6), .ref (y 7), .ref (y 8), .ref (y 9), .ref (y 10), .ref (y 11), .ref (y 12), .int 0, .int 0, .ref (y 13), .ref (y 14), .ref (y 15), .ref (y 16), .ref (y 17), .ref (y 18), .ref (y 19), .ref (y 20), .ref (y 21), .ref (y 22), .ref (y 23), .ref (y 24), .int 0, .long 0, .ref (y 25), .ref (y 26), .ref (y 27), .ref (y 28), .ref (y 29), .ref (y 30), .ref (y 31), .ref (y 32), .ref (y 33), .ref (y 34), .ref (y 35), .ref (y 36), .ref (y 37), .int 0, .int 0, .ref (y 38), .long 0, .int 0, .int 0])), (y 1, .inl (ct 0, 8, .inl (upd (upd (fun _ => 0) 2 1) 3 2)))]) 0 0 := by
  refine zofW cX12_see 3 (some .boolean) (by decide) rfl (Nat.le_of_ble_eq_true rfl) ?_
  intro p e s m below meth c A hx hb hr hml hts hown hlocks hname hK hA hZ hN H locs hw hS ls hl
  have hown : s.vm.findClass RX12 = some m.cls := hown
  have hl : lv_has ls 3 [(0, .ref h0), (1, .int p1), (2, .int p2)] := hl
  have hiX12 : ∀ w ∈ wsX120, w ∈ wsX12_see := by decide +kernel
  refine lv_aload_n hx hb dX12_see_0 rfl (lv_at hl 0 rfl) ?_
  refine lv_iconst (v := 0) hx hb dX12_see_1 (by decide) ?_
  refine zput (D := D) (ci := 11) (v := .int 0) (ty := .int) hx hb hts hiX12 tyX12 tyX12_ok nmX12 hown hK hw hS 0 rfl rfl 0 (by decide) (hts (.fieldLink RX12 129 "BeardPassModel" "thrown" "I") (by decide +kernel)) (fun _ h9 => h9) rfl (by decide +kernel) rfl rfl (Nat.le_of_ble_eq_true rfl) dX12_see_2 [(h0, .inr (11, [.int 0, .int 0, .ref (y 0), .int 0, .int 0, .int 0, .int 0, .long 0, .int 0, .int 0, .ref (y 1), .ref (y 2), .ref (y 3), .ref (y 4), .ref (y 5), .ref (y 6), .ref (y 7), .ref (y 8), .ref (y 9), .ref (y 10), .ref (y 11), .ref (y 12), .int 0, .int 0, .ref (y 13), .ref (y 14), .ref (y 15), .ref (y 16), .ref (y 17), .ref (y 18), .ref (y 19), .ref (y 20), .ref (y 21), .ref (y 22), .ref (y 23), .ref (y 24), .int 0, .long 0, .ref (y 25), .ref (y 26), .ref (y 27), .ref (y 28), .ref (y 29), .ref (y 30), .ref (y 31), .ref (y 32), .ref (y 33), .ref (y 34), .ref (y 35), .ref (y 36), .ref (y 37), .int 0, .int 0, .ref (y 38), .long 0, .int 0, .int 0])), (y 1, .inl (ct 0, 8, .inl (upd (upd (fun _ => 0) 2 1) 3 2)))] rfl (fun H locs hw hS => ?_)
  refine lv_aload_n hx hb dX12_see_5 rfl (lv_at hl 0 rfl) ?_
  refine lv_iload_n hx hb dX12_see_6 rfl (lv_at hl 1 rfl) ?_
  refine zcall2 (va_runV (As := [.int p1]) (rest := []) ⟨hx, hb, hml, hown, hts⟩ (c_isTown12 l D ct h0 y p1 H.size) (cwV 1 hts gX12_see_X12_isTown rfl rfl rfl (by decide +kernel) ⟨Nat.le_of_ble_eq_true rfl, Nat.le_of_ble_eq_true rfl⟩) (zpreV hK hw hS hA zZ.nil hN [0, 1] rfl rfl 11 0 rfl rfl) rfl rfl hl.1 rfl (lv_room (Nat.le_of_ble_eq_true rfl)) dX12_see_7 ⟨Nat.le_of_ble_eq_true rfl, Nat.le_of_ble_eq_true rfl⟩) hw hS hA [0, 1] [] rfl rfl rfl rfl (fun _ H locs hp1 hw hS => ?_)
  have hw : zPD D A [(h0, .inr (11, [.int 0, .int 0, .ref (y 0), .int 0, .int 0, .int 0, .int 0, .long 0, .int 0, .int 0, .ref (y 1), .ref (y 2), .ref (y 3), .ref (y 4), .ref (y 5), .ref (y 6), .ref (y 7), .ref (y 8), .ref (y 9), .ref (y 10), .ref (y 11), .ref (y 12), .int 0, .int 0, .ref (y 13), .ref (y 14), .ref (y 15), .ref (y 16), .ref (y 17), .ref (y 18), .ref (y 19), .ref (y 20), .ref (y 21), .ref (y 22), .ref (y 23), .ref (y 24), .int 0, .long 0, .ref (y 25), .ref (y 26), .ref (y 27), .ref (y 28), .ref (y 29), .ref (y 30), .ref (y 31), .ref (y 32), .ref (y 33), .ref (y 34), .ref (y 35), .ref (y 36), .ref (y 37), .int 0, .int 0, .ref (y 38), .long 0, .int 0, .int 0])), (y 1, .inl (ct 0, 8, .inl (upd (upd (fun _ => 0) 2 1) 3 2)))] H := hw
  refine zfr 10 [.int 0] rfl rfl ?_
  refine lv_if_eq (tgt := 24) hx hb dX12_see_10 (by decide) (fun _ => ?_) (fun h => absurd (by decide) h)
  refine lv_iconst (v := 0) hx hb dX12_see_24 (by decide) ?_
  exact ziret hx hb hr (rfl) hlocks () (rfl) (trivial) hw [0, 1] rfl (rfl) hS (Nat.le_of_ble_eq_true rfl) (Nat.le_of_ble_eq_true rfl) dX12_see_25

set_option maxHeartbeats 4000000 in
set_option maxRecDepth 100000 in
/-- trapped on a new object -/
theorem r_trapped (l : Launch) (D : va_G) (ct : Nat → ClassId) (h0 : Nat) (y : Nat → Nat)  : zC l yX12_trapped wsX12_trapped ({ frames := 1, cells := 0, slots := 0, locals := 80 }) D ct [] [.ref h0] [(h0, .inr (11, [.int 0, .int 0, .ref (y 0), .int 0, .int 0, .int 0, .int 0, .long 0, .int 0, .int 0, .ref (y 1), .ref (y 2), .ref (y 3), .ref (y 4), .ref (y 5), .ref (y 6), .ref (y 7), .ref (y 8), .ref (y 9), .ref (y 10), .ref (y 11), .ref (y 12), .int 0, .int 0, .ref (y 13), .ref (y 14), .ref (y 15), .ref (y 16), .ref (y 17), .ref (y 18), .ref (y 19), .ref (y 20), .ref (y 21), .ref (y 22), .ref (y 23), .ref (y 24), .int 0, .long 0, .ref (y 25), .ref (y 26), .ref (y 27), .ref (y 28), .ref (y 29), .ref (y 30), .ref (y 31), .ref (y 32), .ref (y 33), .ref (y 34), .ref (y 35), .ref (y 36), .ref (y 37), .int 0, .int 0, .ref (y 38), .long 0, .int 0, .int 0])), (y 1, .inl (ct 0, 8, .inl (upd (upd (fun _ => 0) 2 1) 3 2)))] (S := Unit) (fun _ => some (.int 0)) (fun _ => True) (fun _ => [(h0, .inr (11, [.int 0, .int 0, .ref (y 0), .int 0, .int 0, .int 0, .int 0, .long 0, .int 0, .int 0, .ref (y 1), .ref (y 2), .ref (y 3), .ref (y 4), .ref (y 5), .ref (y 6), .ref (y 7), .ref (y 8), .ref (y 9), .ref (y 10), .ref (y 11), .ref (y 12), .int 0, .int 0, .ref (y 13), .ref (y 14), .ref (y 15), .ref (y 16), .ref (y 17), .ref (y 18), .ref (y 19), .ref (y 20), .ref (y 21), .ref (y 22), .ref (y 23), .ref (y 24), .int 0, .long 0, .ref (y 25), .ref (y 26), .ref (y 27), .ref (y 28), .ref (y 29), .ref (y 30), .ref (y 31), .ref (y 32), .ref (y 33), .ref (y 34), .ref (y 35), .ref (y 36), .ref (y 37), .int 0, .int 0, .ref (y 38), .long 0, .int 0, .int 0])), (y 1, .inl (ct 0, 8, .inl (upd (upd (fun _ => 0) 2 1) 3 2)))]) 0 0 := by
  refine zofW cX12_trapped 5 (some .int) (by decide) rfl (Nat.le_of_ble_eq_true rfl) ?_
  intro p e s m below meth c A hx hb hr hml hts hown hlocks hname hK hA hZ hN H locs hw hS ls hl
  have hown : s.vm.findClass RX12 = some m.cls := hown
  have hl : lv_has ls 5 [(0, .ref h0)] := hl
  have hiX12 : ∀ w ∈ wsX120, w ∈ wsX12_trapped := by decide +kernel
  refine lv_aload_n hx hb dX12_trapped_0 rfl (lv_at hl 0 rfl) ?_
  refine lv_iconst (v := 0) hx hb dX12_trapped_1 (by decide) ?_
  refine zput (D := D) (ci := 11) (v := .int 0) (ty := .int) hx hb hts hiX12 tyX12 tyX12_ok nmX12 hown hK hw hS 0 rfl rfl 0 (by decide) (hts (.fieldLink RX12 129 "BeardPassModel" "thrown" "I") (by decide +kernel)) (fun _ h9 => h9) rfl (by decide +kernel) rfl rfl (Nat.le_of_ble_eq_true rfl) dX12_trapped_2 [(h0, .inr (11, [.int 0, .int 0, .ref (y 0), .int 0, .int 0, .int 0, .int 0, .long 0, .int 0, .int 0, .ref (y 1), .ref (y 2), .ref (y 3), .ref (y 4), .ref (y 5), .ref (y 6), .ref (y 7), .ref (y 8), .ref (y 9), .ref (y 10), .ref (y 11), .ref (y 12), .int 0, .int 0, .ref (y 13), .ref (y 14), .ref (y 15), .ref (y 16), .ref (y 17), .ref (y 18), .ref (y 19), .ref (y 20), .ref (y 21), .ref (y 22), .ref (y 23), .ref (y 24), .int 0, .long 0, .ref (y 25), .ref (y 26), .ref (y 27), .ref (y 28), .ref (y 29), .ref (y 30), .ref (y 31), .ref (y 32), .ref (y 33), .ref (y 34), .ref (y 35), .ref (y 36), .ref (y 37), .int 0, .int 0, .ref (y 38), .long 0, .int 0, .int 0])), (y 1, .inl (ct 0, 8, .inl (upd (upd (fun _ => 0) 2 1) 3 2)))] rfl (fun H locs hw hS => ?_)
  refine lv_iconst (v := 0) hx hb dX12_trapped_5 (by decide) ?_
  refine lv_istore_n (lv' := [(1, .int 0), (0, .ref h0)]) hx hb dX12_trapped_6 rfl hl (by decide) rfl (fun ls hl => ?_)
  refine lv_iconst (v := 0) hx hb dX12_trapped_7 (by decide) ?_
  refine lv_istore_n (lv' := [(2, .int 0), (1, .int 0), (0, .ref h0)]) hx hb dX12_trapped_8 rfl hl (by decide) rfl (fun ls hl => ?_)
  refine lv_iload_n hx hb dX12_trapped_9 rfl (lv_at hl 0 rfl) ?_
  refine lv_aload_n hx hb dX12_trapped_10 rfl (lv_at hl 2 rfl) ?_
  refine va_get (D := D) (ci := 11) (v := .ref (y 1)) hx hb hts hiX12 hown hK hw.1 0 rfl rfl 10 (by decide) (hts (.fieldLink RX12 13 "BeardPassModel" "land" "[I") (by decide +kernel)) (fun _ h9 => h9) rfl dX12_trapped_11 ?_
  refine lv_iconst (v := 1) hx hb dX12_trapped_14 (by decide) ?_
  refine ziald hx hb hK hw 1 rfl 1 (by decide) (by decide) (by decide) dX12_trapped_15 ?_
  refine ztop (.int 0) rfl ?_
  refine lv_icmp_ge (tgt := 81) hx hb dX12_trapped_16 (by decide) (fun _ => ?_) (fun h => absurd (by decide) h)
  refine lv_iload_n hx hb dX12_trapped_81 rfl (lv_at hl 1 rfl) ?_
  exact ziret hx hb hr (rfl) hlocks () (rfl) (trivial) hw [0, 1] rfl (rfl) hS (Nat.le_of_ble_eq_true rfl) (Nat.le_of_ble_eq_true rfl) dX12_trapped_82

set_option maxHeartbeats 4000000 in
set_option maxRecDepth 100000 in
/-- strict on a new object -/
theorem r_strict (l : Launch) (D : va_G) (ct : Nat → ClassId) (h0 : Nat) (y : Nat → Nat)  : zC l yX12_strict wsX12_strict ({ frames := 1, cells := 0, slots := 0, locals := 80 }) D ct [] [.ref h0] [(h0, .inr (11, [.int 0, .int 0, .ref (y 0), .int 0, .int 0, .int 0, .int 0, .long 0, .int 0, .int 0, .ref (y 1), .ref (y 2), .ref (y 3), .ref (y 4), .ref (y 5), .ref (y 6), .ref (y 7), .ref (y 8), .ref (y 9), .ref (y 10), .ref (y 11), .ref (y 12), .int 0, .int 0, .ref (y 13), .ref (y 14), .ref (y 15), .ref (y 16), .ref (y 17), .ref (y 18), .ref (y 19), .ref (y 20), .ref (y 21), .ref (y 22), .ref (y 23), .ref (y 24), .int 0, .long 0, .ref (y 25), .ref (y 26), .ref (y 27), .ref (y 28), .ref (y 29), .ref (y 30), .ref (y 31), .ref (y 32), .ref (y 33), .ref (y 34), .ref (y 35), .ref (y 36), .ref (y 37), .int 0, .int 0, .ref (y 38), .long 0, .int 0, .int 0])), (y 1, .inl (ct 0, 8, .inl (upd (upd (fun _ => 0) 2 1) 3 2)))] (S := Unit) (fun _ => some (.int (-1))) (fun _ => True) (fun _ => [(h0, .inr (11, [.int 0, .int 0, .ref (y 0), .int 0, .int 0, .int 0, .int 0, .long 0, .int 0, .int 0, .ref (y 1), .ref (y 2), .ref (y 3), .ref (y 4), .ref (y 5), .ref (y 6), .ref (y 7), .ref (y 8), .ref (y 9), .ref (y 10), .ref (y 11), .ref (y 12), .int 0, .int 0, .ref (y 13), .ref (y 14), .ref (y 15), .ref (y 16), .ref (y 17), .ref (y 18), .ref (y 19), .ref (y 20), .ref (y 21), .ref (y 22), .ref (y 23), .ref (y 24), .int 0, .long 0, .ref (y 25), .ref (y 26), .ref (y 27), .ref (y 28), .ref (y 29), .ref (y 30), .ref (y 31), .ref (y 32), .ref (y 33), .ref (y 34), .ref (y 35), .ref (y 36), .ref (y 37), .int 0, .int 0, .ref (y 38), .long 0, .int 0, .int 0])), (y 1, .inl (ct 0, 8, .inl (upd (upd (fun _ => 0) 2 1) 3 2)))]) 0 0 := by
  refine zofW cX12_strict 3 (some .int) (by decide) rfl (Nat.le_of_ble_eq_true rfl) ?_
  intro p e s m below meth c A hx hb hr hml hts hown hlocks hname hK hA hZ hN H locs hw hS ls hl
  have hown : s.vm.findClass RX12 = some m.cls := hown
  have hl : lv_has ls 3 [(0, .ref h0)] := hl
  have hiX12 : ∀ w ∈ wsX120, w ∈ wsX12_strict := by decide +kernel
  refine lv_aload_n hx hb dX12_strict_0 rfl (lv_at hl 0 rfl) ?_
  refine lv_iconst (v := 0) hx hb dX12_strict_1 (by decide) ?_
  refine zput (D := D) (ci := 11) (v := .int 0) (ty := .int) hx hb hts hiX12 tyX12 tyX12_ok nmX12 hown hK hw hS 0 rfl rfl 0 (by decide) (hts (.fieldLink RX12 129 "BeardPassModel" "thrown" "I") (by decide +kernel)) (fun _ h9 => h9) rfl (by decide +kernel) rfl rfl (Nat.le_of_ble_eq_true rfl) dX12_strict_2 [(h0, .inr (11, [.int 0, .int 0, .ref (y 0), .int 0, .int 0, .int 0, .int 0, .long 0, .int 0, .int 0, .ref (y 1), .ref (y 2), .ref (y 3), .ref (y 4), .ref (y 5), .ref (y 6), .ref (y 7), .ref (y 8), .ref (y 9), .ref (y 10), .ref (y 11), .ref (y 12), .int 0, .int 0, .ref (y 13), .ref (y 14), .ref (y 15), .ref (y 16), .ref (y 17), .ref (y 18), .ref (y 19), .ref (y 20), .ref (y 21), .ref (y 22), .ref (y 23), .ref (y 24), .int 0, .long 0, .ref (y 25), .ref (y 26), .ref (y 27), .ref (y 28), .ref (y 29), .ref (y 30), .ref (y 31), .ref (y 32), .ref (y 33), .ref (y 34), .ref (y 35), .ref (y 36), .ref (y 37), .int 0, .int 0, .ref (y 38), .long 0, .int 0, .int 0])), (y 1, .inl (ct 0, 8, .inl (upd (upd (fun _ => 0) 2 1) 3 2)))] rfl (fun H locs hw hS => ?_)
  refine lv_iconst (v := (-1)) hx hb dX12_strict_5 (by decide) ?_
  refine lv_istore_n (lv' := [(1, .int (-1)), (0, .ref h0)]) hx hb dX12_strict_6 rfl hl (by decide) rfl (fun ls hl => ?_)
  refine lv_iconst (v := 0) hx hb dX12_strict_7 (by decide) ?_
  refine lv_istore_n (lv' := [(2, .int 0), (1, .int (-1)), (0, .ref h0)]) hx hb dX12_strict_8 rfl hl (by decide) rfl (fun ls hl => ?_)
  refine lv_iload_n hx hb dX12_strict_9 rfl (lv_at hl 0 rfl) ?_
  refine lv_aload_n hx hb dX12_strict_10 rfl (lv_at hl 2 rfl) ?_
  refine va_get (D := D) (ci := 11) (v := .ref (y 1)) hx hb hts hiX12 hown hK hw.1 0 rfl rfl 10 (by decide) (hts (.fieldLink RX12 13 "BeardPassModel" "land" "[I") (by decide +kernel)) (fun _ h9 => h9) rfl dX12_strict_11 ?_
  refine lv_iconst (v := 0) hx hb dX12_strict_14 (by decide) ?_
  refine ziald hx hb hK hw 1 rfl 0 (by decide) (by decide) (by decide) dX12_strict_15 ?_
  refine ztop (.int 0) rfl ?_
  refine lv_icmp_ge (tgt := 50) hx hb dX12_strict_16 (by decide) (fun _ => ?_) (fun h => absurd (by decide) h)
  refine lv_iload_n hx hb dX12_strict_50 rfl (lv_at hl 1 rfl) ?_
  exact ziret hx hb hr (rfl) hlocks () (rfl) (trivial) hw [0, 1] rfl (rfl) hS (Nat.le_of_ble_eq_true rfl) (Nat.le_of_ble_eq_true rfl) dX12_strict_51

set_option maxHeartbeats 4000000 in
set_option maxRecDepth 100000 in
/-- alike on a new object -/
theorem r_alike (l : Launch) (D : va_G) (ct : Nat → ClassId) (h0 : Nat) (y : Nat → Nat)  : zC l yX12_alike wsX12_alike ({ frames := 1, cells := 0, slots := 0, locals := 80 }) D ct [] [.ref h0] [(h0, .inr (11, [.int 0, .int 0, .ref (y 0), .int 0, .int 0, .int 0, .int 0, .long 0, .int 0, .int 0, .ref (y 1), .ref (y 2), .ref (y 3), .ref (y 4), .ref (y 5), .ref (y 6), .ref (y 7), .ref (y 8), .ref (y 9), .ref (y 10), .ref (y 11), .ref (y 12), .int 0, .int 0, .ref (y 13), .ref (y 14), .ref (y 15), .ref (y 16), .ref (y 17), .ref (y 18), .ref (y 19), .ref (y 20), .ref (y 21), .ref (y 22), .ref (y 23), .ref (y 24), .int 0, .long 0, .ref (y 25), .ref (y 26), .ref (y 27), .ref (y 28), .ref (y 29), .ref (y 30), .ref (y 31), .ref (y 32), .ref (y 33), .ref (y 34), .ref (y 35), .ref (y 36), .ref (y 37), .int 0, .int 0, .ref (y 38), .long 0, .int 0, .int 0])), (y 1, .inl (ct 0, 8, .inl (upd (upd (fun _ => 0) 2 1) 3 2)))] (S := Unit) (fun _ => some (.int 0)) (fun _ => True) (fun _ => [(h0, .inr (11, [.int 0, .int 0, .ref (y 0), .int 0, .int 0, .int 0, .int 0, .long 0, .int 0, .int 0, .ref (y 1), .ref (y 2), .ref (y 3), .ref (y 4), .ref (y 5), .ref (y 6), .ref (y 7), .ref (y 8), .ref (y 9), .ref (y 10), .ref (y 11), .ref (y 12), .int 0, .int 0, .ref (y 13), .ref (y 14), .ref (y 15), .ref (y 16), .ref (y 17), .ref (y 18), .ref (y 19), .ref (y 20), .ref (y 21), .ref (y 22), .ref (y 23), .ref (y 24), .int 0, .long 0, .ref (y 25), .ref (y 26), .ref (y 27), .ref (y 28), .ref (y 29), .ref (y 30), .ref (y 31), .ref (y 32), .ref (y 33), .ref (y 34), .ref (y 35), .ref (y 36), .ref (y 37), .int 0, .int 0, .ref (y 38), .long 0, .int 0, .int 0])), (y 1, .inl (ct 0, 8, .inl (upd (upd (fun _ => 0) 2 1) 3 2)))]) 0 0 := by
  refine zofW cX12_alike 4 (some .int) (by decide) rfl (Nat.le_of_ble_eq_true rfl) ?_
  intro p e s m below meth c A hx hb hr hml hts hown hlocks hname hK hA hZ hN H locs hw hS ls hl
  have hown : s.vm.findClass RX12 = some m.cls := hown
  have hl : lv_has ls 4 [(0, .ref h0)] := hl
  have hiX12 : ∀ w ∈ wsX120, w ∈ wsX12_alike := by decide +kernel
  refine lv_aload_n hx hb dX12_alike_0 rfl (lv_at hl 0 rfl) ?_
  refine lv_iconst (v := 0) hx hb dX12_alike_1 (by decide) ?_
  refine zput (D := D) (ci := 11) (v := .int 0) (ty := .int) hx hb hts hiX12 tyX12 tyX12_ok nmX12 hown hK hw hS 0 rfl rfl 0 (by decide) (hts (.fieldLink RX12 129 "BeardPassModel" "thrown" "I") (by decide +kernel)) (fun _ h9 => h9) rfl (by decide +kernel) rfl rfl (Nat.le_of_ble_eq_true rfl) dX12_alike_2 [(h0, .inr (11, [.int 0, .int 0, .ref (y 0), .int 0, .int 0, .int 0, .int 0, .long 0, .int 0, .int 0, .ref (y 1), .ref (y 2), .ref (y 3), .ref (y 4), .ref (y 5), .ref (y 6), .ref (y 7), .ref (y 8), .ref (y 9), .ref (y 10), .ref (y 11), .ref (y 12), .int 0, .int 0, .ref (y 13), .ref (y 14), .ref (y 15), .ref (y 16), .ref (y 17), .ref (y 18), .ref (y 19), .ref (y 20), .ref (y 21), .ref (y 22), .ref (y 23), .ref (y 24), .int 0, .long 0, .ref (y 25), .ref (y 26), .ref (y 27), .ref (y 28), .ref (y 29), .ref (y 30), .ref (y 31), .ref (y 32), .ref (y 33), .ref (y 34), .ref (y 35), .ref (y 36), .ref (y 37), .int 0, .int 0, .ref (y 38), .long 0, .int 0, .int 0])), (y 1, .inl (ct 0, 8, .inl (upd (upd (fun _ => 0) 2 1) 3 2)))] rfl (fun H locs hw hS => ?_)
  refine lv_iconst (v := 0) hx hb dX12_alike_5 (by decide) ?_
  refine lv_istore_n (lv' := [(1, .int 0), (0, .ref h0)]) hx hb dX12_alike_6 rfl hl (by decide) rfl (fun ls hl => ?_)
  refine lv_iconst (v := 0) hx hb dX12_alike_7 (by decide) ?_
  refine lv_istore_n (lv' := [(2, .int 0), (1, .int 0), (0, .ref h0)]) hx hb dX12_alike_8 rfl hl (by decide) rfl (fun ls hl => ?_)
  refine lv_iload_n hx hb dX12_alike_9 rfl (lv_at hl 0 rfl) ?_
  refine lv_aload_n hx hb dX12_alike_10 rfl (lv_at hl 2 rfl) ?_
  refine va_get (D := D) (ci := 11) (v := .ref (y 1)) hx hb hts hiX12 hown hK hw.1 0 rfl rfl 10 (by decide) (hts (.fieldLink RX12 13 "BeardPassModel" "land" "[I") (by decide +kernel)) (fun _ h9 => h9) rfl dX12_alike_11 ?_
  refine lv_iconst (v := 0) hx hb dX12_alike_14 (by decide) ?_
  refine ziald hx hb hK hw 1 rfl 0 (by decide) (by decide) (by decide) dX12_alike_15 ?_
  refine ztop (.int 0) rfl ?_
  refine lv_icmp_ge (tgt := 59) hx hb dX12_alike_16 (by decide) (fun _ => ?_) (fun h => absurd (by decide) h)
  refine lv_iload_n hx hb dX12_alike_59 rfl (lv_at hl 1 rfl) ?_
  exact ziret hx hb hr (rfl) hlocks () (rfl) (trivial) hw [0, 1] rfl (rfl) hS (Nat.le_of_ble_eq_true rfl) (Nat.le_of_ble_eq_true rfl) dX12_alike_60

set_option maxHeartbeats 4000000 in
set_option maxRecDepth 100000 in
/-- undo on a new object -/
theorem r_undo (l : Launch) (D : va_G) (ct : Nat → ClassId) (h0 : Nat) (y : Nat → Nat)  : zC l yX12_undo wsX12_undo ({ frames := 1, cells := 0, slots := 0, locals := 80 }) D ct [] [.ref h0] [(h0, .inr (11, [.int 0, .int 0, .ref (y 0), .int 0, .int 0, .int 0, .int 0, .long 0, .int 0, .int 0, .ref (y 1), .ref (y 2), .ref (y 3), .ref (y 4), .ref (y 5), .ref (y 6), .ref (y 7), .ref (y 8), .ref (y 9), .ref (y 10), .ref (y 11), .ref (y 12), .int 0, .int 0, .ref (y 13), .ref (y 14), .ref (y 15), .ref (y 16), .ref (y 17), .ref (y 18), .ref (y 19), .ref (y 20), .ref (y 21), .ref (y 22), .ref (y 23), .ref (y 24), .int 0, .long 0, .ref (y 25), .ref (y 26), .ref (y 27), .ref (y 28), .ref (y 29), .ref (y 30), .ref (y 31), .ref (y 32), .ref (y 33), .ref (y 34), .ref (y 35), .ref (y 36), .ref (y 37), .int 0, .int 0, .ref (y 38), .long 0, .int 0, .int 0])), (y 1, .inl (ct 0, 8, .inl (upd (upd (fun _ => 0) 2 1) 3 2)))] (S := Unit) (fun _ => some (.int 0)) (fun _ => True) (fun _ => [(h0, .inr (11, [.int 0, .int 0, .ref (y 0), .int 0, .int 0, .int 0, .int 0, .long 0, .int 0, .int 0, .ref (y 1), .ref (y 2), .ref (y 3), .ref (y 4), .ref (y 5), .ref (y 6), .ref (y 7), .ref (y 8), .ref (y 9), .ref (y 10), .ref (y 11), .ref (y 12), .int 0, .int 0, .ref (y 13), .ref (y 14), .ref (y 15), .ref (y 16), .ref (y 17), .ref (y 18), .ref (y 19), .ref (y 20), .ref (y 21), .ref (y 22), .ref (y 23), .ref (y 24), .int 0, .long 0, .ref (y 25), .ref (y 26), .ref (y 27), .ref (y 28), .ref (y 29), .ref (y 30), .ref (y 31), .ref (y 32), .ref (y 33), .ref (y 34), .ref (y 35), .ref (y 36), .ref (y 37), .int 0, .int 0, .ref (y 38), .long 0, .int 0, .int 0])), (y 1, .inl (ct 0, 8, .inl (upd (upd (fun _ => 0) 2 1) 3 2)))]) 0 0 := by
  refine zofW cX12_undo 1 (some .boolean) (by decide) rfl (Nat.le_of_ble_eq_true rfl) ?_
  intro p e s m below meth c A hx hb hr hml hts hown hlocks hname hK hA hZ hN H locs hw hS ls hl
  have hown : s.vm.findClass RX12 = some m.cls := hown
  have hl : lv_has ls 1 [(0, .ref h0)] := hl
  have hiX12 : ∀ w ∈ wsX120, w ∈ wsX12_undo := by decide +kernel
  refine lv_aload_n hx hb dX12_undo_0 rfl (lv_at hl 0 rfl) ?_
  refine lv_iconst (v := 0) hx hb dX12_undo_1 (by decide) ?_
  refine zput (D := D) (ci := 11) (v := .int 0) (ty := .int) hx hb hts hiX12 tyX12 tyX12_ok nmX12 hown hK hw hS 0 rfl rfl 0 (by decide) (hts (.fieldLink RX12 129 "BeardPassModel" "thrown" "I") (by decide +kernel)) (fun _ h9 => h9) rfl (by decide +kernel) rfl rfl (Nat.le_of_ble_eq_true rfl) dX12_undo_2 [(h0, .inr (11, [.int 0, .int 0, .ref (y 0), .int 0, .int 0, .int 0, .int 0, .long 0, .int 0, .int 0, .ref (y 1), .ref (y 2), .ref (y 3), .ref (y 4), .ref (y 5), .ref (y 6), .ref (y 7), .ref (y 8), .ref (y 9), .ref (y 10), .ref (y 11), .ref (y 12), .int 0, .int 0, .ref (y 13), .ref (y 14), .ref (y 15), .ref (y 16), .ref (y 17), .ref (y 18), .ref (y 19), .ref (y 20), .ref (y 21), .ref (y 22), .ref (y 23), .ref (y 24), .int 0, .long 0, .ref (y 25), .ref (y 26), .ref (y 27), .ref (y 28), .ref (y 29), .ref (y 30), .ref (y 31), .ref (y 32), .ref (y 33), .ref (y 34), .ref (y 35), .ref (y 36), .ref (y 37), .int 0, .int 0, .ref (y 38), .long 0, .int 0, .int 0])), (y 1, .inl (ct 0, 8, .inl (upd (upd (fun _ => 0) 2 1) 3 2)))] rfl (fun H locs hw hS => ?_)
  refine lv_aload_n hx hb dX12_undo_5 rfl (lv_at hl 0 rfl) ?_
  refine va_get (D := D) (ci := 11) (v := .int 0) hx hb hts hiX12 hown hK hw.1 0 rfl rfl 51 (by decide) (hts (.fieldLink RX12 336 "BeardPassModel" "done" "I") (by decide +kernel)) (fun _ h9 => h9) rfl dX12_undo_6 ?_
  refine lv_if_ne (tgt := 14) hx hb dX12_undo_9 (by decide) (fun h => absurd (by decide) h) (fun _ => ?_)
  refine lv_iconst (v := 0) hx hb dX12_undo_12 (by decide) ?_
  exact ziret hx hb hr (rfl) hlocks () (rfl) (trivial) hw [0, 1] rfl (rfl) hS (Nat.le_of_ble_eq_true rfl) (Nat.le_of_ble_eq_true rfl) dX12_undo_13

set_option maxHeartbeats 4000000 in
set_option maxRecDepth 100000 in
/-- meeting on a new object -/
theorem r_meeting (l : Launch) (D : va_G) (ct : Nat → ClassId) (h0 : Nat) (y : Nat → Nat) (p1 : Int32)  : zC l yX12_meeting wsX12_meeting ({ frames := 2, cells := 0, slots := 0, locals := 120 }) D ct [] [.ref h0, .int p1] [(h0, .inr (11, [.int 0, .int 0, .ref (y 0), .int 0, .int 0, .int 0, .int 0, .long 0, .int 0, .int 0, .ref (y 1), .ref (y 2), .ref (y 3), .ref (y 4), .ref (y 5), .ref (y 6), .ref (y 7), .ref (y 8), .ref (y 9), .ref (y 10), .ref (y 11), .ref (y 12), .int 0, .int 0, .ref (y 13), .ref (y 14), .ref (y 15), .ref (y 16), .ref (y 17), .ref (y 18), .ref (y 19), .ref (y 20), .ref (y 21), .ref (y 22), .ref (y 23), .ref (y 24), .int 0, .long 0, .ref (y 25), .ref (y 26), .ref (y 27), .ref (y 28), .ref (y 29), .ref (y 30), .ref (y 31), .ref (y 32), .ref (y 33), .ref (y 34), .ref (y 35), .ref (y 36), .ref (y 37), .int 0, .int 0, .ref (y 38), .long 0, .int 0, .int 0])), (y 1, .inl (ct 0, 8, .inl (upd (upd (fun _ => 0) 2 1) 3 2)))] (S := Unit) (fun _ => some (.int (-1))) (fun _ => True) (fun _ => [(h0, .inr (11, [.int 0, .int 0, .ref (y 0), .int 0, .int 0, .int 0, .int 0, .long 0, .int 0, .int 0, .ref (y 1), .ref (y 2), .ref (y 3), .ref (y 4), .ref (y 5), .ref (y 6), .ref (y 7), .ref (y 8), .ref (y 9), .ref (y 10), .ref (y 11), .ref (y 12), .int 0, .int 0, .ref (y 13), .ref (y 14), .ref (y 15), .ref (y 16), .ref (y 17), .ref (y 18), .ref (y 19), .ref (y 20), .ref (y 21), .ref (y 22), .ref (y 23), .ref (y 24), .int 0, .long 0, .ref (y 25), .ref (y 26), .ref (y 27), .ref (y 28), .ref (y 29), .ref (y 30), .ref (y 31), .ref (y 32), .ref (y 33), .ref (y 34), .ref (y 35), .ref (y 36), .ref (y 37), .int 0, .int 0, .ref (y 38), .long 0, .int 0, .int 0])), (y 1, .inl (ct 0, 8, .inl (upd (upd (fun _ => 0) 2 1) 3 2)))]) 0 0 := by
  refine zofW cX12_meeting 6 (some .int) (by decide) rfl (Nat.le_of_ble_eq_true rfl) ?_
  intro p e s m below meth c A hx hb hr hml hts hown hlocks hname hK hA hZ hN H locs hw hS ls hl
  have hown : s.vm.findClass RX12 = some m.cls := hown
  have hl : lv_has ls 6 [(0, .ref h0), (1, .int p1)] := hl
  have hiX12 : ∀ w ∈ wsX120, w ∈ wsX12_meeting := by decide +kernel
  refine lv_aload_n hx hb dX12_meeting_0 rfl (lv_at hl 0 rfl) ?_
  refine lv_iconst (v := 0) hx hb dX12_meeting_1 (by decide) ?_
  refine zput (D := D) (ci := 11) (v := .int 0) (ty := .int) hx hb hts hiX12 tyX12 tyX12_ok nmX12 hown hK hw hS 0 rfl rfl 0 (by decide) (hts (.fieldLink RX12 129 "BeardPassModel" "thrown" "I") (by decide +kernel)) (fun _ h9 => h9) rfl (by decide +kernel) rfl rfl (Nat.le_of_ble_eq_true rfl) dX12_meeting_2 [(h0, .inr (11, [.int 0, .int 0, .ref (y 0), .int 0, .int 0, .int 0, .int 0, .long 0, .int 0, .int 0, .ref (y 1), .ref (y 2), .ref (y 3), .ref (y 4), .ref (y 5), .ref (y 6), .ref (y 7), .ref (y 8), .ref (y 9), .ref (y 10), .ref (y 11), .ref (y 12), .int 0, .int 0, .ref (y 13), .ref (y 14), .ref (y 15), .ref (y 16), .ref (y 17), .ref (y 18), .ref (y 19), .ref (y 20), .ref (y 21), .ref (y 22), .ref (y 23), .ref (y 24), .int 0, .long 0, .ref (y 25), .ref (y 26), .ref (y 27), .ref (y 28), .ref (y 29), .ref (y 30), .ref (y 31), .ref (y 32), .ref (y 33), .ref (y 34), .ref (y 35), .ref (y 36), .ref (y 37), .int 0, .int 0, .ref (y 38), .long 0, .int 0, .int 0])), (y 1, .inl (ct 0, 8, .inl (upd (upd (fun _ => 0) 2 1) 3 2)))] rfl (fun H locs hw hS => ?_)
  refine lv_iload_n hx hb dX12_meeting_5 rfl (lv_at hl 1 rfl) ?_
  refine lv_iconst (v := 0) hx hb dX12_meeting_6 (by decide) ?_
  refine lv_iconst (v := 1) hx hb dX12_meeting_7 (by decide) ?_
  refine zcall2 (va_runS (As := [.int p1, .int 0, .int 1]) (rest := []) ⟨hx, hb, hml, hown, hts⟩ (c_within l D ct p1 0 1 H.size) (va_cwS 3 hts gX12_meeting_X12_within rfl rfl rfl (by decide +kernel) ⟨Nat.le_of_ble_eq_true rfl, Nat.le_of_ble_eq_true rfl⟩) (zpreS hK hw hS hA zZ.nil hN [] rfl rfl) rfl rfl hl.1 rfl (lv_room (Nat.le_of_ble_eq_true rfl)) dX12_meeting_8 ⟨Nat.le_of_ble_eq_true rfl, Nat.le_of_ble_eq_true rfl⟩) hw hS hA [] [0, 1] rfl rfl rfl rfl (fun _ H locs hp1 hw hS => ?_)
  have hw : zPD D A [(h0, .inr (11, [.int 0, .int 0, .ref (y 0), .int 0, .int 0, .int 0, .int 0, .long 0, .int 0, .int 0, .ref (y 1), .ref (y 2), .ref (y 3), .ref (y 4), .ref (y 5), .ref (y 6), .ref (y 7), .ref (y 8), .ref (y 9), .ref (y 10), .ref (y 11), .ref (y 12), .int 0, .int 0, .ref (y 13), .ref (y 14), .ref (y 15), .ref (y 16), .ref (y 17), .ref (y 18), .ref (y 19), .ref (y 20), .ref (y 21), .ref (y 22), .ref (y 23), .ref (y 24), .int 0, .long 0, .ref (y 25), .ref (y 26), .ref (y 27), .ref (y 28), .ref (y 29), .ref (y 30), .ref (y 31), .ref (y 32), .ref (y 33), .ref (y 34), .ref (y 35), .ref (y 36), .ref (y 37), .int 0, .int 0, .ref (y 38), .long 0, .int 0, .int 0])), (y 1, .inl (ct 0, 8, .inl (upd (upd (fun _ => 0) 2 1) 3 2)))] H := hw
  refine zfr 11 [.int (zwi p1 0 1)] rfl rfl ?_
  refine lv_if_ne (tgt := 16) hx hb dX12_meeting_11 (by decide) (fun c_2 => ?_) (fun c_2 => ?_)
  · refine lv_iconst (v := (-1)) hx hb dX12_meeting_16 (by decide) ?_
    refine lv_istore_n (lv' := [(2, .int (-1)), (0, .ref h0), (1, .int p1)]) hx hb dX12_meeting_17 rfl hl (by decide) rfl (fun ls hl => ?_)
    refine lv_iconst (v := (-1)) hx hb dX12_meeting_18 (by decide) ?_
    refine lv_istore_n (lv' := [(3, .int (-1)), (2, .int (-1)), (0, .ref h0), (1, .int p1)]) hx hb dX12_meeting_19 rfl hl (by decide) rfl (fun ls hl => ?_)
    refine lv_iconst (v := 0) hx hb dX12_meeting_20 (by decide) ?_
    refine lv_istore (lv' := [(4, .int 0), (3, .int (-1)), (2, .int (-1)), (0, .ref h0), (1, .int p1)]) hx hb dX12_meeting_21 hl (by decide) rfl (fun ls hl => ?_)
    refine lv_iload hx hb dX12_meeting_23 (lv_at hl 0 rfl) ?_
    refine lv_aload_n hx hb dX12_meeting_25 rfl (lv_at hl 3 rfl) ?_
    refine va_get (D := D) (ci := 11) (v := .ref (y 1)) hx hb hts hiX12 hown hK hw.1 0 rfl rfl 10 (by decide) (hts (.fieldLink RX12 13 "BeardPassModel" "land" "[I") (by decide +kernel)) (fun _ h9 => h9) rfl dX12_meeting_26 ?_
    refine lv_iconst (v := 0) hx hb dX12_meeting_29 (by decide) ?_
    refine ziald hx hb hK hw 1 rfl 0 (by decide) (by decide) (by decide) dX12_meeting_30 ?_
    refine ztop (.int 0) rfl ?_
    refine lv_icmp_ge (tgt := 72) hx hb dX12_meeting_31 (by decide) (fun _ => ?_) (fun h => absurd (by decide) h)
    refine lv_iload_n hx hb dX12_meeting_72 rfl (lv_at hl 4 rfl) ?_
    refine lv_if_ne (tgt := 80) hx hb dX12_meeting_73 (by decide) (fun c_4 => ?_) (fun c_4 => ?_)
    · refine lv_iload_n hx hb dX12_meeting_80 rfl (lv_at hl 2 rfl) ?_
      exact ziret hx hb hr (rfl) hlocks () (rfl) (trivial) hw [0, 1] rfl (rfl) hS (Nat.le_of_ble_eq_true rfl) (Nat.le_of_ble_eq_true rfl) dX12_meeting_81
    · refine lv_iload_n hx hb dX12_meeting_76 rfl (lv_at hl 1 rfl) ?_
      refine lv_goto (tgt := 81) hx hb dX12_meeting_77 (by decide) ?_
      exact ziret hx hb hr (rfl) hlocks () (rfl) (trivial) hw [0, 1] rfl (rfl) hS (Nat.le_of_ble_eq_true rfl) (Nat.le_of_ble_eq_true rfl) dX12_meeting_81
  · refine lv_iconst (v := (-1)) hx hb dX12_meeting_14 (by decide) ?_
    exact ziret hx hb hr (rfl) hlocks () (rfl) (trivial) hw [0, 1] rfl (rfl) hS (Nat.le_of_ble_eq_true rfl) (Nat.le_of_ble_eq_true rfl) dX12_meeting_15

set_option maxHeartbeats 4000000 in
set_option maxRecDepth 100000 in
theorem r_thrown (l : Launch) (D : va_G) (ct : Nat → ClassId) (h0 : Nat) (y : Nat → Nat)  : zC l yX12_thrown wsX12_thrown ({ frames := 1, cells := 0, slots := 0, locals := 80 }) D ct [] [.ref h0] [(h0, .inr (11, [.int 0, .int 0, .ref (y 0), .int 0, .int 0, .int 0, .int 0, .long 0, .int 0, .int 0, .ref (y 1), .ref (y 2), .ref (y 3), .ref (y 4), .ref (y 5), .ref (y 6), .ref (y 7), .ref (y 8), .ref (y 9), .ref (y 10), .ref (y 11), .ref (y 12), .int 0, .int 0, .ref (y 13), .ref (y 14), .ref (y 15), .ref (y 16), .ref (y 17), .ref (y 18), .ref (y 19), .ref (y 20), .ref (y 21), .ref (y 22), .ref (y 23), .ref (y 24), .int 0, .long 0, .ref (y 25), .ref (y 26), .ref (y 27), .ref (y 28), .ref (y 29), .ref (y 30), .ref (y 31), .ref (y 32), .ref (y 33), .ref (y 34), .ref (y 35), .ref (y 36), .ref (y 37), .int 0, .int 0, .ref (y 38), .long 0, .int 0, .int 0]))] (S := Unit) (fun _ => some (.int 0)) (fun _ => True) (fun _ => [(h0, .inr (11, [.int 0, .int 0, .ref (y 0), .int 0, .int 0, .int 0, .int 0, .long 0, .int 0, .int 0, .ref (y 1), .ref (y 2), .ref (y 3), .ref (y 4), .ref (y 5), .ref (y 6), .ref (y 7), .ref (y 8), .ref (y 9), .ref (y 10), .ref (y 11), .ref (y 12), .int 0, .int 0, .ref (y 13), .ref (y 14), .ref (y 15), .ref (y 16), .ref (y 17), .ref (y 18), .ref (y 19), .ref (y 20), .ref (y 21), .ref (y 22), .ref (y 23), .ref (y 24), .int 0, .long 0, .ref (y 25), .ref (y 26), .ref (y 27), .ref (y 28), .ref (y 29), .ref (y 30), .ref (y 31), .ref (y 32), .ref (y 33), .ref (y 34), .ref (y 35), .ref (y 36), .ref (y 37), .int 0, .int 0, .ref (y 38), .long 0, .int 0, .int 0]))]) 0 0 := by
  refine zofW cX12_thrown 1 (some .int) (by decide) rfl (Nat.le_of_ble_eq_true rfl) ?_
  intro p e s m below meth c A hx hb hr hml hts hown hlocks hname hK hA hZ hN H locs hw hS ls hl
  have hown : s.vm.findClass RX12 = some m.cls := hown
  have hl : lv_has ls 1 [(0, .ref h0)] := hl
  have hiX12 : ∀ w ∈ wsX120, w ∈ wsX12_thrown := by decide +kernel
  refine lv_aload_n hx hb dX12_thrown_0 rfl (lv_at hl 0 rfl) ?_
  refine va_get (D := D) (ci := 11) (v := .int 0) hx hb hts hiX12 hown hK hw.1 0 rfl rfl 0 (by decide) (hts (.fieldLink RX12 129 "BeardPassModel" "thrown" "I") (by decide +kernel)) (fun _ h9 => h9) rfl dX12_thrown_1 ?_
  exact ziret hx hb hr (rfl) hlocks () (rfl) (trivial) hw [0] rfl (rfl) hS (Nat.le_of_ble_eq_true rfl) (Nat.le_of_ble_eq_true rfl) dX12_thrown_4

set_option maxHeartbeats 4000000 in
set_option maxRecDepth 100000 in
/-- passes with nobody -/
theorem c_passes12 (l : Launch) (D : va_G) (ct : Nat → ClassId) (h0 : Nat) (y : Nat → Nat) (w_thrown : Int32) (w_taped : Int32) (w_size : Int32) (w_place : Int32) (w_begin : Int32) (w_token : Int32) (w_word : Int64) (w_told : Int32) (w_wrong : Int32) (w_code : Int32) (w_toldLines : Int32) (w_given : Int32) (w_fresh : Int64) (w_done : Int32) (w_moreAsked : Int32) (w_g : Int64) (w_gone : Int32) (w_stopped : Int32) (gl : Nat → Int32) (f : Nat → Int32) (hg : gl 1 = 0) : zC l yX12_passes wsX12_passes ({ frames := 1, cells := 0, slots := 0, locals := 80 }) D ct [] [.ref h0] [(h0, .inr (11, [.int w_thrown, .int w_taped, .ref (y 0), .int w_size, .int w_place, .int w_begin, .int w_token, .long w_word, .int w_told, .int w_wrong, .ref (y 1), .ref (y 2), .ref (y 3), .ref (y 4), .ref (y 5), .ref (y 6), .ref (y 7), .ref (y 8), .ref (y 9), .ref (y 10), .ref (y 11), .ref (y 12), .int w_code, .int w_toldLines, .ref (y 13), .ref (y 14), .ref (y 15), .ref (y 16), .ref (y 17), .ref (y 18), .ref (y 19), .ref (y 20), .ref (y 21), .ref (y 22), .ref (y 23), .ref (y 24), .int w_given, .long w_fresh, .ref (y 25), .ref (y 26), .ref (y 27), .ref (y 28), .ref (y 29), .ref (y 30), .ref (y 31), .ref (y 32), .ref (y 33), .ref (y 34), .ref (y 35), .ref (y 36), .ref (y 37), .int w_done, .int w_moreAsked, .ref (y 38), .long w_g, .int w_gone, .int w_stopped])), (y 1, .inl (ct 0, 8, .inl gl)), (y 32, .inl (ct 0, 31, .inl f))] (S := Unit) (fun _ => none) (fun _ => True) (fun _ => [(h0, .inr (11, [.int w_thrown, .int w_taped, .ref (y 0), .int w_size, .int w_place, .int w_begin, .int w_token, .long w_word, .int w_told, .int w_wrong, .ref (y 1), .ref (y 2), .ref (y 3), .ref (y 4), .ref (y 5), .ref (y 6), .ref (y 7), .ref (y 8), .ref (y 9), .ref (y 10), .ref (y 11), .ref (y 12), .int w_code, .int w_toldLines, .ref (y 13), .ref (y 14), .ref (y 15), .ref (y 16), .ref (y 17), .ref (y 18), .ref (y 19), .ref (y 20), .ref (y 21), .ref (y 22), .ref (y 23), .ref (y 24), .int w_given, .long w_fresh, .ref (y 25), .ref (y 26), .ref (y 27), .ref (y 28), .ref (y 29), .ref (y 30), .ref (y 31), .ref (y 32), .ref (y 33), .ref (y 34), .ref (y 35), .ref (y 36), .ref (y 37), .int w_done, .int w_moreAsked, .ref (y 38), .long w_g, .int w_gone, .int w_stopped])), (y 1, .inl (ct 0, 8, .inl gl)), (y 32, .inl (ct 0, 31, .inl (upd f 0 (f 0 + 1))))]) 0 0 := by
  refine zofW cX12_passes 2 none (by decide) rfl (Nat.le_of_ble_eq_true rfl) ?_
  intro p e s m below meth c A hx hb hr hml hts hown hlocks hname hK hA hZ hN H locs hw hS ls hl
  have hown : s.vm.findClass RX12 = some m.cls := hown
  have hl : lv_has ls 2 [(0, .ref h0)] := hl
  have hiX12 : ∀ w ∈ wsX120, w ∈ wsX12_passes := by decide +kernel
  refine lv_iconst (v := 0) hx hb dX12_passes_0 (by decide) ?_
  refine lv_istore_n (lv' := [(1, .int 0), (0, .ref h0)]) hx hb dX12_passes_1 rfl hl (by decide) rfl (fun ls hl => ?_)
  refine lv_iload_n hx hb dX12_passes_2 rfl (lv_at hl 0 rfl) ?_
  refine lv_aload_n hx hb dX12_passes_3 rfl (lv_at hl 1 rfl) ?_
  refine va_get (D := D) (ci := 11) (v := .ref (y 1)) hx hb hts hiX12 hown hK hw.1 0 rfl rfl 10 (by decide) (hts (.fieldLink RX12 13 "BeardPassModel" "land" "[I") (by decide +kernel)) (fun _ h9 => h9) rfl dX12_passes_4 ?_
  refine lv_iconst (v := 1) hx hb dX12_passes_7 (by decide) ?_
  refine ziald hx hb hK hw 1 rfl 1 (by decide) (by decide) (by decide) dX12_passes_8 ?_
  refine ztop (.int 0) (congrArg Value.int (hg)) ?_
  refine lv_icmp_ge (tgt := 58) hx hb dX12_passes_9 (by decide) (fun _ => ?_) (fun h => absurd (by decide) h)
  refine lv_aload_n hx hb dX12_passes_58 rfl (lv_at hl 1 rfl) ?_
  refine va_get (D := D) (ci := 11) (v := .ref (y 32)) hx hb hts hiX12 hown hK hw.1 0 rfl rfl 45 (by decide) (hts (.fieldLink RX12 108 "BeardPassModel" "s" "[I") (by decide +kernel)) (fun _ h9 => h9) rfl dX12_passes_59 ?_
  refine lv_iconst (v := 0) hx hb dX12_passes_62 (by decide) ?_
  refine lv_dup2_11 hx hb dX12_passes_63 rfl rfl ?_
  refine ziald hx hb hK hw 2 rfl 0 (by decide) (by decide) (by decide) dX12_passes_64 ?_
  refine lv_iconst (v := 1) hx hb dX12_passes_65 (by decide) ?_
  refine lv_iadd hx hb dX12_passes_66 ?_
  refine ziast hx hb hK hw hS 2 rfl 0 (by decide) (by decide) (by decide) dX12_passes_67 [(h0, .inr (11, [.int w_thrown, .int w_taped, .ref (y 0), .int w_size, .int w_place, .int w_begin, .int w_token, .long w_word, .int w_told, .int w_wrong, .ref (y 1), .ref (y 2), .ref (y 3), .ref (y 4), .ref (y 5), .ref (y 6), .ref (y 7), .ref (y 8), .ref (y 9), .ref (y 10), .ref (y 11), .ref (y 12), .int w_code, .int w_toldLines, .ref (y 13), .ref (y 14), .ref (y 15), .ref (y 16), .ref (y 17), .ref (y 18), .ref (y 19), .ref (y 20), .ref (y 21), .ref (y 22), .ref (y 23), .ref (y 24), .int w_given, .long w_fresh, .ref (y 25), .ref (y 26), .ref (y 27), .ref (y 28), .ref (y 29), .ref (y 30), .ref (y 31), .ref (y 32), .ref (y 33), .ref (y 34), .ref (y 35), .ref (y 36), .ref (y 37), .int w_done, .int w_moreAsked, .ref (y 38), .long w_g, .int w_gone, .int w_stopped])), (y 1, .inl (ct 0, 8, .inl gl)), (y 32, .inl (ct 0, 31, .inl (upd f 0 ((f 0) + 1))))] rfl (fun H locs hw hS => ?_)
  exact zvret hx hb hr hlocks () rfl (trivial) hw [0, 1, 2] rfl (rfl) hS (Nat.le_of_ble_eq_true rfl) (Nat.le_of_ble_eq_true rfl) dX12_passes_68

set_option maxHeartbeats 4000000 in
set_option maxRecDepth 100000 in
/-- keeps, the first time -/
theorem c_keeps12 (l : Launch) (D : va_G) (ct : Nat → ClassId) (h0 : Nat) (y : Nat → Nat) (w_thrown : Int32) (w_taped : Int32) (w_size : Int32) (w_place : Int32) (w_begin : Int32) (w_token : Int32) (w_word : Int64) (w_told : Int32) (w_wrong : Int32) (w_code : Int32) (w_toldLines : Int32) (w_given : Int32) (w_fresh : Int64) (w_moreAsked : Int32) (w_g : Int64) (w_gone : Int32) (w_stopped : Int32) (f : Nat → Int32) (g : Nat → Int32)  : zC l yX12_keeps wsX12_keeps ({ frames := 2, cells := 0, slots := 0, locals := 120 }) D ct [] [.ref h0] [(h0, .inr (11, [.int w_thrown, .int w_taped, .ref (y 0), .int w_size, .int w_place, .int w_begin, .int w_token, .long w_word, .int w_told, .int w_wrong, .ref (y 1), .ref (y 2), .ref (y 3), .ref (y 4), .ref (y 5), .ref (y 6), .ref (y 7), .ref (y 8), .ref (y 9), .ref (y 10), .ref (y 11), .ref (y 12), .int w_code, .int w_toldLines, .ref (y 13), .ref (y 14), .ref (y 15), .ref (y 16), .ref (y 17), .ref (y 18), .ref (y 19), .ref (y 20), .ref (y 21), .ref (y 22), .ref (y 23), .ref (y 24), .int w_given, .long w_fresh, .ref (y 25), .ref (y 26), .ref (y 27), .ref (y 28), .ref (y 29), .ref (y 30), .ref (y 31), .ref (y 32), .ref (y 33), .ref (y 34), .ref (y 35), .ref (y 36), .ref (y 37), .int 0, .int w_moreAsked, .ref (y 38), .long w_g, .int w_gone, .int w_stopped])), (y 32, .inl (ct 0, 31, .inl f)), (y 36, .inl (ct 0, 496, .inl g))] (S := Unit) (fun _ => none) (fun _ => True) (fun _ => [(h0, .inr (11, [.int w_thrown, .int w_taped, .ref (y 0), .int w_size, .int w_place, .int w_begin, .int w_token, .long w_word, .int w_told, .int w_wrong, .ref (y 1), .ref (y 2), .ref (y 3), .ref (y 4), .ref (y 5), .ref (y 6), .ref (y 7), .ref (y 8), .ref (y 9), .ref (y 10), .ref (y 11), .ref (y 12), .int w_code, .int w_toldLines, .ref (y 13), .ref (y 14), .ref (y 15), .ref (y 16), .ref (y 17), .ref (y 18), .ref (y 19), .ref (y 20), .ref (y 21), .ref (y 22), .ref (y 23), .ref (y 24), .int w_given, .long w_fresh, .ref (y 25), .ref (y 26), .ref (y 27), .ref (y 28), .ref (y 29), .ref (y 30), .ref (y 31), .ref (y 32), .ref (y 33), .ref (y 34), .ref (y 35), .ref (y 36), .ref (y 37), .int 1, .int w_moreAsked, .ref (y 38), .long w_g, .int w_gone, .int w_stopped])), (y 32, .inl (ct 0, 31, .inl f)), (y 36, .inl (ct 0, 496, .inl (zcp f g 0 0 31)))]) 0 0 := by
  refine zofW cX12_keeps 2 none (by decide) rfl (Nat.le_of_ble_eq_true rfl) ?_
  intro p e s m below meth c A hx hb hr hml hts hown hlocks hname hK hA hZ hN H locs hw hS ls hl
  have hown : s.vm.findClass RX12 = some m.cls := hown
  have hl : lv_has ls 2 [(0, .ref h0)] := hl
  have hiX12 : ∀ w ∈ wsX120, w ∈ wsX12_keeps := by decide +kernel
  refine lv_aload_n hx hb dX12_keeps_0 rfl (lv_at hl 0 rfl) ?_
  refine va_get (D := D) (ci := 11) (v := .int 0) hx hb hts hiX12 hown hK hw.1 0 rfl rfl 51 (by decide) (hts (.fieldLink RX12 336 "BeardPassModel" "done" "I") (by decide +kernel)) (fun _ h9 => h9) rfl dX12_keeps_1 ?_
  refine lv_bipush (v := 16) hx hb dX12_keeps_4 (by decide) ?_
  refine lv_icmp_ne (tgt := 49) hx hb dX12_keeps_6 (by decide) (fun _ => ?_) (fun h => absurd h (by decide))
  refine lv_aload_n hx hb dX12_keeps_49 rfl (lv_at hl 0 rfl) ?_
  refine va_get (D := D) (ci := 11) (v := .ref (y 32)) hx hb hts hiX12 hown hK hw.1 0 rfl rfl 45 (by decide) (hts (.fieldLink RX12 108 "BeardPassModel" "s" "[I") (by decide +kernel)) (fun _ h9 => h9) rfl dX12_keeps_50 ?_
  refine lv_iconst (v := 0) hx hb dX12_keeps_53 (by decide) ?_
  refine lv_aload_n hx hb dX12_keeps_54 rfl (lv_at hl 0 rfl) ?_
  refine va_get (D := D) (ci := 11) (v := .ref (y 36)) hx hb hts hiX12 hown hK hw.1 0 rfl rfl 49 (by decide) (hts (.fieldLink RX12 120 "BeardPassModel" "undone" "[I") (by decide +kernel)) (fun _ h9 => h9) rfl dX12_keeps_55 ?_
  refine lv_bipush (v := 31) hx hb dX12_keeps_58 (by decide) ?_
  refine lv_aload_n hx hb dX12_keeps_60 rfl (lv_at hl 0 rfl) ?_
  refine va_get (D := D) (ci := 11) (v := .int 0) hx hb hts hiX12 hown hK hw.1 0 rfl rfl 51 (by decide) (hts (.fieldLink RX12 336 "BeardPassModel" "done" "I") (by decide +kernel)) (fun _ h9 => h9) rfl dX12_keeps_61 ?_
  refine lv_imul hx hb dX12_keeps_64 ?_
  refine ztop (.int 0) (congrArg Value.int (by decide)) ?_
  refine zcall2 (va_runS (As := [.ref (y 32), .int 0, .ref (y 36), .int 0]) (rest := []) ⟨hx, hb, hml, hown, hts⟩ (c_copies l D ct (y 32) 0 (y 36) 0 31 496 f g (by decide) (by decide) (by decide) (by decide) H.size) (va_cwS 4 hts gX12_keeps_X12_copies rfl rfl rfl (by decide +kernel) ⟨Nat.le_of_ble_eq_true rfl, Nat.le_of_ble_eq_true rfl⟩) (zpreS hK hw hS hA zZ.nil hN [1, 2] rfl rfl) rfl rfl hl.1 rfl (lv_room (Nat.le_of_ble_eq_true rfl)) dX12_keeps_65 ⟨Nat.le_of_ble_eq_true rfl, Nat.le_of_ble_eq_true rfl⟩) hw hS hA [1, 2] [0] rfl rfl rfl rfl (fun _ H locs hp2 hw hS => ?_)
  have hw : zPD D A [(h0, .inr (11, [.int w_thrown, .int w_taped, .ref (y 0), .int w_size, .int w_place, .int w_begin, .int w_token, .long w_word, .int w_told, .int w_wrong, .ref (y 1), .ref (y 2), .ref (y 3), .ref (y 4), .ref (y 5), .ref (y 6), .ref (y 7), .ref (y 8), .ref (y 9), .ref (y 10), .ref (y 11), .ref (y 12), .int w_code, .int w_toldLines, .ref (y 13), .ref (y 14), .ref (y 15), .ref (y 16), .ref (y 17), .ref (y 18), .ref (y 19), .ref (y 20), .ref (y 21), .ref (y 22), .ref (y 23), .ref (y 24), .int w_given, .long w_fresh, .ref (y 25), .ref (y 26), .ref (y 27), .ref (y 28), .ref (y 29), .ref (y 30), .ref (y 31), .ref (y 32), .ref (y 33), .ref (y 34), .ref (y 35), .ref (y 36), .ref (y 37), .int 0, .int w_moreAsked, .ref (y 38), .long w_g, .int w_gone, .int w_stopped])), (y 32, .inl (ct 0, 31, .inl f)), (y 36, .inl (ct 0, 496, .inl (zcp f g 0 0 31)))] H := hw
  refine zfr 68 [] rfl rfl ?_
  refine lv_aload_n hx hb dX12_keeps_68 rfl (lv_at hl 0 rfl) ?_
  refine lv_dup hx hb dX12_keeps_69 rfl ?_
  refine va_get (D := D) (ci := 11) (v := .int 0) hx hb hts hiX12 hown hK hw.1 0 rfl rfl 51 (by decide) (hts (.fieldLink RX12 336 "BeardPassModel" "done" "I") (by decide +kernel)) (fun _ h9 => h9) rfl dX12_keeps_70 ?_
  refine lv_iconst (v := 1) hx hb dX12_keeps_73 (by decide) ?_
  refine lv_iadd hx hb dX12_keeps_74 ?_
  refine ztop (.int 1) (congrArg Value.int (by decide)) ?_
  refine zput (D := D) (ci := 11) (v := .int 1) (ty := .int) hx hb hts hiX12 tyX12 tyX12_ok nmX12 hown hK hw hS 0 rfl rfl 51 (by decide) (hts (.fieldLink RX12 336 "BeardPassModel" "done" "I") (by decide +kernel)) (fun _ h9 => h9) rfl (by decide +kernel) rfl rfl (Nat.le_of_ble_eq_true rfl) dX12_keeps_75 [(h0, .inr (11, [.int w_thrown, .int w_taped, .ref (y 0), .int w_size, .int w_place, .int w_begin, .int w_token, .long w_word, .int w_told, .int w_wrong, .ref (y 1), .ref (y 2), .ref (y 3), .ref (y 4), .ref (y 5), .ref (y 6), .ref (y 7), .ref (y 8), .ref (y 9), .ref (y 10), .ref (y 11), .ref (y 12), .int w_code, .int w_toldLines, .ref (y 13), .ref (y 14), .ref (y 15), .ref (y 16), .ref (y 17), .ref (y 18), .ref (y 19), .ref (y 20), .ref (y 21), .ref (y 22), .ref (y 23), .ref (y 24), .int w_given, .long w_fresh, .ref (y 25), .ref (y 26), .ref (y 27), .ref (y 28), .ref (y 29), .ref (y 30), .ref (y 31), .ref (y 32), .ref (y 33), .ref (y 34), .ref (y 35), .ref (y 36), .ref (y 37), .int 1, .int w_moreAsked, .ref (y 38), .long w_g, .int w_gone, .int w_stopped])), (y 32, .inl (ct 0, 31, .inl f)), (y 36, .inl (ct 0, 496, .inl (zcp f g 0 0 31)))] rfl (fun H locs hw hS => ?_)
  exact zvret hx hb hr hlocks () rfl (trivial) hw [0, 1, 2] rfl (rfl) hS (Nat.le_of_ble_eq_true rfl) (Nat.le_of_ble_eq_true rfl) dX12_keeps_78

set_option maxHeartbeats 4000000 in
set_option maxRecDepth 100000 in
/-- week on a new object -/
theorem r_week (l : Launch) (D : va_G) (ct : Nat → ClassId) (h0 : Nat) (y : Nat → Nat)  : zC l yX12_week wsX12_week ({ frames := 3, cells := 0, slots := 0, locals := 160 }) D ct [] [.ref h0] [(h0, .inr (11, [.int 0, .int 0, .ref (y 0), .int 0, .int 0, .int 0, .int 0, .long 0, .int 0, .int 0, .ref (y 1), .ref (y 2), .ref (y 3), .ref (y 4), .ref (y 5), .ref (y 6), .ref (y 7), .ref (y 8), .ref (y 9), .ref (y 10), .ref (y 11), .ref (y 12), .int 0, .int 0, .ref (y 13), .ref (y 14), .ref (y 15), .ref (y 16), .ref (y 17), .ref (y 18), .ref (y 19), .ref (y 20), .ref (y 21), .ref (y 22), .ref (y 23), .ref (y 24), .int 0, .long 0, .ref (y 25), .ref (y 26), .ref (y 27), .ref (y 28), .ref (y 29), .ref (y 30), .ref (y 31), .ref (y 32), .ref (y 33), .ref (y 34), .ref (y 35), .ref (y 36), .ref (y 37), .int 0, .int 0, .ref (y 38), .long 0, .int 0, .int 0])), (y 1, .inl (ct 0, 8, .inl (upd (upd (fun _ => 0) 2 1) 3 2))), (y 32, .inl (ct 0, 31, .inl (fun _ => 0))), (y 36, .inl (ct 0, 496, .inl (fun _ => 0)))] (S := Unit) (fun _ => some (.int 1)) (fun _ => True) (fun _ => []) 0 0 := by
  refine zofW cX12_week 1 (some .int) (by decide) rfl (Nat.le_of_ble_eq_true rfl) ?_
  intro p e s m below meth c A hx hb hr hml hts hown hlocks hname hK hA hZ hN H locs hw hS ls hl
  have hown : s.vm.findClass RX12 = some m.cls := hown
  have hl : lv_has ls 1 [(0, .ref h0)] := hl
  have hiX12 : ∀ w ∈ wsX120, w ∈ wsX12_week := by decide +kernel
  refine lv_aload_n hx hb dX12_week_0 rfl (lv_at hl 0 rfl) ?_
  refine lv_iconst (v := 0) hx hb dX12_week_1 (by decide) ?_
  refine zput (D := D) (ci := 11) (v := .int 0) (ty := .int) hx hb hts hiX12 tyX12 tyX12_ok nmX12 hown hK hw hS 0 rfl rfl 0 (by decide) (hts (.fieldLink RX12 129 "BeardPassModel" "thrown" "I") (by decide +kernel)) (fun _ h9 => h9) rfl (by decide +kernel) rfl rfl (Nat.le_of_ble_eq_true rfl) dX12_week_2 [(h0, .inr (11, [.int 0, .int 0, .ref (y 0), .int 0, .int 0, .int 0, .int 0, .long 0, .int 0, .int 0, .ref (y 1), .ref (y 2), .ref (y 3), .ref (y 4), .ref (y 5), .ref (y 6), .ref (y 7), .ref (y 8), .ref (y 9), .ref (y 10), .ref (y 11), .ref (y 12), .int 0, .int 0, .ref (y 13), .ref (y 14), .ref (y 15), .ref (y 16), .ref (y 17), .ref (y 18), .ref (y 19), .ref (y 20), .ref (y 21), .ref (y 22), .ref (y 23), .ref (y 24), .int 0, .long 0, .ref (y 25), .ref (y 26), .ref (y 27), .ref (y 28), .ref (y 29), .ref (y 30), .ref (y 31), .ref (y 32), .ref (y 33), .ref (y 34), .ref (y 35), .ref (y 36), .ref (y 37), .int 0, .int 0, .ref (y 38), .long 0, .int 0, .int 0])), (y 1, .inl (ct 0, 8, .inl (upd (upd (fun _ => 0) 2 1) 3 2))), (y 32, .inl (ct 0, 31, .inl (fun _ => 0))), (y 36, .inl (ct 0, 496, .inl (fun _ => 0)))] rfl (fun H locs hw hS => ?_)
  refine lv_aload_n hx hb dX12_week_5 rfl (lv_at hl 0 rfl) ?_
  refine zcall2 (va_runV (As := []) (rest := []) ⟨hx, hb, hml, hown, hts⟩ (c_keeps12 l D ct h0 y 0 0 0 0 0 0 0 0 0 0 0 0 0 0 0 0 0 (fun _ => 0) (fun _ => 0) H.size) (cwV 0 hts gX12_week_X12_keeps rfl rfl rfl (by decide +kernel) ⟨Nat.le_of_ble_eq_true rfl, Nat.le_of_ble_eq_true rfl⟩) (zpreV hK hw hS hA zZ.nil hN [0, 2, 3] rfl rfl 11 0 rfl rfl) rfl rfl hl.1 rfl (lv_room (Nat.le_of_ble_eq_true rfl)) dX12_week_6 ⟨Nat.le_of_ble_eq_true rfl, Nat.le_of_ble_eq_true rfl⟩) hw hS hA [0, 2, 3] [1] rfl rfl rfl rfl (fun _ H locs hp1 hw hS => ?_)
  have hw : zPD D A [(y 1, .inl (ct 0, 8, .inl (upd (upd (fun _ => 0) 2 1) 3 2))), (h0, .inr (11, [.int 0, .int 0, .ref (y 0), .int 0, .int 0, .int 0, .int 0, .long 0, .int 0, .int 0, .ref (y 1), .ref (y 2), .ref (y 3), .ref (y 4), .ref (y 5), .ref (y 6), .ref (y 7), .ref (y 8), .ref (y 9), .ref (y 10), .ref (y 11), .ref (y 12), .int 0, .int 0, .ref (y 13), .ref (y 14), .ref (y 15), .ref (y 16), .ref (y 17), .ref (y 18), .ref (y 19), .ref (y 20), .ref (y 21), .ref (y 22), .ref (y 23), .ref (y 24), .int 0, .long 0, .ref (y 25), .ref (y 26), .ref (y 27), .ref (y 28), .ref (y 29), .ref (y 30), .ref (y 31), .ref (y 32), .ref (y 33), .ref (y 34), .ref (y 35), .ref (y 36), .ref (y 37), .int 1, .int 0, .ref (y 38), .long 0, .int 0, .int 0])), (y 32, .inl (ct 0, 31, .inl (fun _ => 0))), (y 36, .inl (ct 0, 496, .inl (zcp (fun _ => 0) (fun _ => 0) 0 0 31)))] H := hw
  refine zfr 9 [] rfl rfl ?_
  refine lv_aload_n hx hb dX12_week_9 rfl (lv_at hl 0 rfl) ?_
  refine zcall2 (va_runV (As := []) (rest := []) ⟨hx, hb, hml, hown, hts⟩ (c_passes12 l D ct h0 y 0 0 0 0 0 0 0 0 0 0 0 0 0 1 0 0 0 0 (upd (upd (fun _ => 0) 2 1) 3 2) (fun _ => 0) (by decide) H.size) (cwV 0 hts gX12_week_X12_passes rfl rfl rfl (by decide +kernel) ⟨Nat.le_of_ble_eq_true rfl, Nat.le_of_ble_eq_true rfl⟩) (zpreV hK hw hS hA zZ.nil hN [1, 0, 2] rfl rfl 11 1 rfl rfl) rfl rfl hl.1 rfl (lv_room (Nat.le_of_ble_eq_true rfl)) dX12_week_10 ⟨Nat.le_of_ble_eq_true rfl, Nat.le_of_ble_eq_true rfl⟩) hw hS hA [1, 0, 2] [3] rfl rfl rfl rfl (fun _ H locs hp2 hw hS => ?_)
  have hw : zPD D A [(y 36, .inl (ct 0, 496, .inl (zcp (fun _ => 0) (fun _ => 0) 0 0 31))), (h0, .inr (11, [.int 0, .int 0, .ref (y 0), .int 0, .int 0, .int 0, .int 0, .long 0, .int 0, .int 0, .ref (y 1), .ref (y 2), .ref (y 3), .ref (y 4), .ref (y 5), .ref (y 6), .ref (y 7), .ref (y 8), .ref (y 9), .ref (y 10), .ref (y 11), .ref (y 12), .int 0, .int 0, .ref (y 13), .ref (y 14), .ref (y 15), .ref (y 16), .ref (y 17), .ref (y 18), .ref (y 19), .ref (y 20), .ref (y 21), .ref (y 22), .ref (y 23), .ref (y 24), .int 0, .long 0, .ref (y 25), .ref (y 26), .ref (y 27), .ref (y 28), .ref (y 29), .ref (y 30), .ref (y 31), .ref (y 32), .ref (y 33), .ref (y 34), .ref (y 35), .ref (y 36), .ref (y 37), .int 1, .int 0, .ref (y 38), .long 0, .int 0, .int 0])), (y 1, .inl (ct 0, 8, .inl (upd (upd (fun _ => 0) 2 1) 3 2))), (y 32, .inl (ct 0, 31, .inl (upd (fun _ => 0) 0 ((fun _ => 0) 0 + 1))))] H := hw
  refine zfr 13 [] rfl rfl ?_
  refine lv_aload_n hx hb dX12_week_13 rfl (lv_at hl 0 rfl) ?_
  refine va_get (D := D) (ci := 11) (v := .ref (y 32)) hx hb hts hiX12 hown hK hw.1 1 rfl rfl 45 (by decide) (hts (.fieldLink RX12 108 "BeardPassModel" "s" "[I") (by decide +kernel)) (fun _ h9 => h9) rfl dX12_week_14 ?_
  refine lv_iconst (v := 0) hx hb dX12_week_17 (by decide) ?_
  refine ziald hx hb hK hw 3 rfl 0 (by decide) (by decide) (by decide) dX12_week_18 ?_
  refine ztop (.int 1) (congrArg Value.int (by decide)) ?_
  exact ziret hx hb hr (rfl) hlocks () (rfl) (trivial) hw [] rfl (rfl) hS (Nat.le_of_ble_eq_true rfl) (Nat.le_of_ble_eq_true rfl) dX12_week_19

set_option maxHeartbeats 4000000 in
set_option maxRecDepth 100000 in
/-- fresh0 with nobody -/
theorem c_fresh12 (l : Launch) (D : va_G) (ct : Nat → ClassId) (h0 : Nat) (y : Nat → Nat) (w_thrown : Int32) (w_taped : Int32) (w_size : Int32) (w_place : Int32) (w_begin : Int32) (w_token : Int32) (w_word : Int64) (w_told : Int32) (w_wrong : Int32) (w_code : Int32) (w_toldLines : Int32) (w_given : Int32) (w_fresh : Int64) (w_done : Int32) (w_moreAsked : Int32) (w_g : Int64) (w_gone : Int32) (w_stopped : Int32) (gl : Nat → Int32) (f : Nat → Int32) (hg : gl 1 = 0) : zC l yX12_fresh0 wsX12_fresh0 ({ frames := 1, cells := 0, slots := 0, locals := 80 }) D ct [] [.ref h0] [(h0, .inr (11, [.int w_thrown, .int w_taped, .ref (y 0), .int w_size, .int w_place, .int w_begin, .int w_token, .long w_word, .int w_told, .int w_wrong, .ref (y 1), .ref (y 2), .ref (y 3), .ref (y 4), .ref (y 5), .ref (y 6), .ref (y 7), .ref (y 8), .ref (y 9), .ref (y 10), .ref (y 11), .ref (y 12), .int w_code, .int w_toldLines, .ref (y 13), .ref (y 14), .ref (y 15), .ref (y 16), .ref (y 17), .ref (y 18), .ref (y 19), .ref (y 20), .ref (y 21), .ref (y 22), .ref (y 23), .ref (y 24), .int w_given, .long w_fresh, .ref (y 25), .ref (y 26), .ref (y 27), .ref (y 28), .ref (y 29), .ref (y 30), .ref (y 31), .ref (y 32), .ref (y 33), .ref (y 34), .ref (y 35), .ref (y 36), .ref (y 37), .int w_done, .int w_moreAsked, .ref (y 38), .long w_g, .int w_gone, .int w_stopped])), (y 1, .inl (ct 0, 8, .inl gl)), (y 32, .inl (ct 0, 31, .inl f))] (S := Unit) (fun _ => none) (fun _ => True) (fun _ => [(h0, .inr (11, [.int w_thrown, .int w_taped, .ref (y 0), .int w_size, .int w_place, .int w_begin, .int w_token, .long w_word, .int w_told, .int w_wrong, .ref (y 1), .ref (y 2), .ref (y 3), .ref (y 4), .ref (y 5), .ref (y 6), .ref (y 7), .ref (y 8), .ref (y 9), .ref (y 10), .ref (y 11), .ref (y 12), .int w_code, .int w_toldLines, .ref (y 13), .ref (y 14), .ref (y 15), .ref (y 16), .ref (y 17), .ref (y 18), .ref (y 19), .ref (y 20), .ref (y 21), .ref (y 22), .ref (y 23), .ref (y 24), .int w_given, .long w_fresh, .ref (y 25), .ref (y 26), .ref (y 27), .ref (y 28), .ref (y 29), .ref (y 30), .ref (y 31), .ref (y 32), .ref (y 33), .ref (y 34), .ref (y 35), .ref (y 36), .ref (y 37), .int w_done, .int w_moreAsked, .ref (y 38), .long w_g, .int w_gone, .int w_stopped])), (y 1, .inl (ct 0, 8, .inl gl)), (y 32, .inl (ct 0, 31, .inl (zfl f 0 31)))]) 0 0 := by
  refine zofW cX12_fresh0 2 none (by decide) rfl (Nat.le_of_ble_eq_true rfl) ?_
  intro p e s m below meth c A hx hb hr hml hts hown hlocks hname hK hA hZ hN H locs hw hS ls hl
  have hown : s.vm.findClass RX12 = some m.cls := hown
  have hl : lv_has ls 2 [(0, .ref h0)] := hl
  have hiX12 : ∀ w ∈ wsX120, w ∈ wsX12_fresh0 := by decide +kernel
  refine lv_iconst (v := 0) hx hb dX12_fresh0_0 (by decide) ?_
  refine lv_istore_n (lv' := [(1, .int 0), (0, .ref h0)]) hx hb dX12_fresh0_1 rfl hl (by decide) rfl (fun ls hl => ?_)
  refine zloop (σ := Unit) (nL := 2) (st := []) (fun i _ => True) (fun i _ => [(h0, .inr (11, [.int w_thrown, .int w_taped, .ref (y 0), .int w_size, .int w_place, .int w_begin, .int w_token, .long w_word, .int w_told, .int w_wrong, .ref (y 1), .ref (y 2), .ref (y 3), .ref (y 4), .ref (y 5), .ref (y 6), .ref (y 7), .ref (y 8), .ref (y 9), .ref (y 10), .ref (y 11), .ref (y 12), .int w_code, .int w_toldLines, .ref (y 13), .ref (y 14), .ref (y 15), .ref (y 16), .ref (y 17), .ref (y 18), .ref (y 19), .ref (y 20), .ref (y 21), .ref (y 22), .ref (y 23), .ref (y 24), .int w_given, .long w_fresh, .ref (y 25), .ref (y 26), .ref (y 27), .ref (y 28), .ref (y 29), .ref (y 30), .ref (y 31), .ref (y 32), .ref (y 33), .ref (y 34), .ref (y 35), .ref (y 36), .ref (y 37), .int w_done, .int w_moreAsked, .ref (y 38), .long w_g, .int w_gone, .int w_stopped])), (y 1, .inl (ct 0, 8, .inl gl)), (y 32, .inl (ct 0, 31, .inl (zfl f 0 i)))]) (fun i _ => [(1, .int (nI i)), (0, .ref h0)]) (fun _ => 0) (fun _ => 0) 31 ?_ ?_ 0 () (Nat.zero_le _) (trivial) H locs ls (zcong (by (try dsimp only); rw [zfl_0]) (hw.sub (w0 := [(h0, .inr (11, [.int w_thrown, .int w_taped, .ref (y 0), .int w_size, .int w_place, .int w_begin, .int w_token, .long w_word, .int w_told, .int w_wrong, .ref (y 1), .ref (y 2), .ref (y 3), .ref (y 4), .ref (y 5), .ref (y 6), .ref (y 7), .ref (y 8), .ref (y 9), .ref (y 10), .ref (y 11), .ref (y 12), .int w_code, .int w_toldLines, .ref (y 13), .ref (y 14), .ref (y 15), .ref (y 16), .ref (y 17), .ref (y 18), .ref (y 19), .ref (y 20), .ref (y 21), .ref (y 22), .ref (y 23), .ref (y 24), .int w_given, .long w_fresh, .ref (y 25), .ref (y 26), .ref (y 27), .ref (y 28), .ref (y 29), .ref (y 30), .ref (y 31), .ref (y 32), .ref (y 33), .ref (y 34), .ref (y 35), .ref (y 36), .ref (y 37), .int w_done, .int w_moreAsked, .ref (y 38), .long w_g, .int w_gone, .int w_stopped])), (y 1, .inl (ct 0, 8, .inl gl)), (y 32, .inl (ct 0, 31, .inl f))]) [0, 1, 2] rfl rfl)) hS (lv_sub hl [0, 1] rfl)
  · intro x2 hI3 H locs ls hw hS hl
    have hw : zPD D A [(h0, .inr (11, [.int w_thrown, .int w_taped, .ref (y 0), .int w_size, .int w_place, .int w_begin, .int w_token, .long w_word, .int w_told, .int w_wrong, .ref (y 1), .ref (y 2), .ref (y 3), .ref (y 4), .ref (y 5), .ref (y 6), .ref (y 7), .ref (y 8), .ref (y 9), .ref (y 10), .ref (y 11), .ref (y 12), .int w_code, .int w_toldLines, .ref (y 13), .ref (y 14), .ref (y 15), .ref (y 16), .ref (y 17), .ref (y 18), .ref (y 19), .ref (y 20), .ref (y 21), .ref (y 22), .ref (y 23), .ref (y 24), .int w_given, .long w_fresh, .ref (y 25), .ref (y 26), .ref (y 27), .ref (y 28), .ref (y 29), .ref (y 30), .ref (y 31), .ref (y 32), .ref (y 33), .ref (y 34), .ref (y 35), .ref (y 36), .ref (y 37), .int w_done, .int w_moreAsked, .ref (y 38), .long w_g, .int w_gone, .int w_stopped])), (y 1, .inl (ct 0, 8, .inl gl)), (y 32, .inl (ct 0, 31, .inl (zfl f 0 31)))] H := hw
    have hl : lv_has ls 2 [(1, .int (nI 31)), (0, .ref h0)] := hl
    refine lv_iload_n hx hb dX12_fresh0_2 rfl (lv_at hl 0 rfl) ?_
    refine lv_bipush (v := 31) hx hb dX12_fresh0_3 (by decide) ?_
    refine lv_icmp_ge (tgt := 21) hx hb dX12_fresh0_5 (by decide) (fun _ => ?_) (fun h => absurd (by decide) h)
    refine lv_iconst (v := 0) hx hb dX12_fresh0_21 (by decide) ?_
    refine lv_istore_n (lv' := [(1, .int 0), (0, .ref h0)]) hx hb dX12_fresh0_22 rfl hl (by decide) rfl (fun ls hl => ?_)
    refine lv_iload_n hx hb dX12_fresh0_23 rfl (lv_at hl 0 rfl) ?_
    refine lv_aload_n hx hb dX12_fresh0_24 rfl (lv_at hl 1 rfl) ?_
    refine va_get (D := D) (ci := 11) (v := .ref (y 1)) hx hb hts hiX12 hown hK hw.1 0 rfl rfl 10 (by decide) (hts (.fieldLink RX12 13 "BeardPassModel" "land" "[I") (by decide +kernel)) (fun _ h9 => h9) rfl dX12_fresh0_25 ?_
    refine lv_iconst (v := 1) hx hb dX12_fresh0_28 (by decide) ?_
    refine ziald hx hb hK hw 1 rfl 1 (by decide) (by decide) (by decide) dX12_fresh0_29 ?_
    refine ztop (.int 0) (congrArg Value.int (hg)) ?_
    refine lv_icmp_ge (tgt := 100) hx hb dX12_fresh0_30 (by decide) (fun _ => ?_) (fun h => absurd (by decide) h)
    exact zvret hx hb hr hlocks () rfl (trivial) hw [0, 1, 2] rfl (rfl) hS (Nat.le_of_ble_eq_true rfl) (Nat.le_of_ble_eq_true rfl) dX12_fresh0_100
  · intro i1 x6 hlt9 hI7 ih8 H locs ls hw hS hl
    have hw : zPD D A [(h0, .inr (11, [.int w_thrown, .int w_taped, .ref (y 0), .int w_size, .int w_place, .int w_begin, .int w_token, .long w_word, .int w_told, .int w_wrong, .ref (y 1), .ref (y 2), .ref (y 3), .ref (y 4), .ref (y 5), .ref (y 6), .ref (y 7), .ref (y 8), .ref (y 9), .ref (y 10), .ref (y 11), .ref (y 12), .int w_code, .int w_toldLines, .ref (y 13), .ref (y 14), .ref (y 15), .ref (y 16), .ref (y 17), .ref (y 18), .ref (y 19), .ref (y 20), .ref (y 21), .ref (y 22), .ref (y 23), .ref (y 24), .int w_given, .long w_fresh, .ref (y 25), .ref (y 26), .ref (y 27), .ref (y 28), .ref (y 29), .ref (y 30), .ref (y 31), .ref (y 32), .ref (y 33), .ref (y 34), .ref (y 35), .ref (y 36), .ref (y 37), .int w_done, .int w_moreAsked, .ref (y 38), .long w_g, .int w_gone, .int w_stopped])), (y 1, .inl (ct 0, 8, .inl gl)), (y 32, .inl (ct 0, 31, .inl (zfl f 0 i1)))] H := hw
    have hl : lv_has ls 2 [(1, .int (nI i1)), (0, .ref h0)] := hl
    refine lv_iload_n hx hb dX12_fresh0_2 rfl (lv_at hl 0 rfl) ?_
    refine lv_bipush (v := 31) hx hb dX12_fresh0_3 (by decide) ?_
    refine lv_icmp_ge (tgt := 21) hx hb dX12_fresh0_5 (by decide) (fun h => absurd h (nI_ge hlt9 (by decide))) (fun _ => ?_)
    refine lv_aload_n hx hb dX12_fresh0_8 rfl (lv_at hl 1 rfl) ?_
    refine va_get (D := D) (ci := 11) (v := .ref (y 32)) hx hb hts hiX12 hown hK hw.1 0 rfl rfl 45 (by decide) (hts (.fieldLink RX12 108 "BeardPassModel" "s" "[I") (by decide +kernel)) (fun _ h9 => h9) rfl dX12_fresh0_9 ?_
    refine lv_iload_n hx hb dX12_fresh0_12 rfl (lv_at hl 0 rfl) ?_
    refine lv_iconst (v := 0) hx hb dX12_fresh0_13 (by decide) ?_
    refine ziast hx hb hK hw hS 2 rfl i1 (rfl) (by omega) (by decide) dX12_fresh0_14 [(h0, .inr (11, [.int w_thrown, .int w_taped, .ref (y 0), .int w_size, .int w_place, .int w_begin, .int w_token, .long w_word, .int w_told, .int w_wrong, .ref (y 1), .ref (y 2), .ref (y 3), .ref (y 4), .ref (y 5), .ref (y 6), .ref (y 7), .ref (y 8), .ref (y 9), .ref (y 10), .ref (y 11), .ref (y 12), .int w_code, .int w_toldLines, .ref (y 13), .ref (y 14), .ref (y 15), .ref (y 16), .ref (y 17), .ref (y 18), .ref (y 19), .ref (y 20), .ref (y 21), .ref (y 22), .ref (y 23), .ref (y 24), .int w_given, .long w_fresh, .ref (y 25), .ref (y 26), .ref (y 27), .ref (y 28), .ref (y 29), .ref (y 30), .ref (y 31), .ref (y 32), .ref (y 33), .ref (y 34), .ref (y 35), .ref (y 36), .ref (y 37), .int w_done, .int w_moreAsked, .ref (y 38), .long w_g, .int w_gone, .int w_stopped])), (y 1, .inl (ct 0, 8, .inl gl)), (y 32, .inl (ct 0, 31, .inl (upd (zfl f 0 i1) i1 0)))] rfl (fun H locs hw hS => ?_)
    refine lv_iinc (v := nI (i1 + 1)) (lv' := [(1, .int (nI (i1 + 1))), (0, .ref h0)]) hx hb dX12_fresh0_15 hl (k := 0) rfl (nI_add _ 1) (by decide) rfl (fun ls hl => ?_)
    refine lv_goto (tgt := 2) hx hb dX12_fresh0_18 (by decide) ?_
    exact ih8 () (trivial) H locs ls (zcong (by (try dsimp only); rw [zfl_s]) (hw.sub (w0 := [(h0, .inr (11, [.int w_thrown, .int w_taped, .ref (y 0), .int w_size, .int w_place, .int w_begin, .int w_token, .long w_word, .int w_told, .int w_wrong, .ref (y 1), .ref (y 2), .ref (y 3), .ref (y 4), .ref (y 5), .ref (y 6), .ref (y 7), .ref (y 8), .ref (y 9), .ref (y 10), .ref (y 11), .ref (y 12), .int w_code, .int w_toldLines, .ref (y 13), .ref (y 14), .ref (y 15), .ref (y 16), .ref (y 17), .ref (y 18), .ref (y 19), .ref (y 20), .ref (y 21), .ref (y 22), .ref (y 23), .ref (y 24), .int w_given, .long w_fresh, .ref (y 25), .ref (y 26), .ref (y 27), .ref (y 28), .ref (y 29), .ref (y 30), .ref (y 31), .ref (y 32), .ref (y 33), .ref (y 34), .ref (y 35), .ref (y 36), .ref (y 37), .int w_done, .int w_moreAsked, .ref (y 38), .long w_g, .int w_gone, .int w_stopped])), (y 1, .inl (ct 0, 8, .inl gl)), (y 32, .inl (ct 0, 31, .inl (upd (zfl f 0 i1) i1 0)))]) [0, 1, 2] rfl rfl)) hS (lv_sub hl [0, 1] rfl)

set_option maxHeartbeats 4000000 in
set_option maxRecDepth 100000 in
/-- allOf(13) -/
theorem c_all13 (l : Launch) (D : va_G) (ct : Nat → ClassId) (h0 : Nat) (y : Nat → Nat) (w_thrown : Int32) (w_taped : Int32) (w_size : Int32) (w_place : Int32) (w_begin : Int32) (w_token : Int32) (w_word : Int64) (w_told : Int32) (w_wrong : Int32) (w_code : Int32) (w_toldLines : Int32) (w_given : Int32) (w_fresh : Int64) (w_done : Int32) (w_moreAsked : Int32) (w_g : Int64) (w_gone : Int32) (w_stopped : Int32) (f : Nat → Int32)  : zC l yX12_allOf wsX12_allOf ({ frames := 1, cells := 0, slots := 0, locals := 80 }) D ct [] [.ref h0, .int 13] [(h0, .inr (11, [.int w_thrown, .int w_taped, .ref (y 0), .int w_size, .int w_place, .int w_begin, .int w_token, .long w_word, .int w_told, .int w_wrong, .ref (y 1), .ref (y 2), .ref (y 3), .ref (y 4), .ref (y 5), .ref (y 6), .ref (y 7), .ref (y 8), .ref (y 9), .ref (y 10), .ref (y 11), .ref (y 12), .int w_code, .int w_toldLines, .ref (y 13), .ref (y 14), .ref (y 15), .ref (y 16), .ref (y 17), .ref (y 18), .ref (y 19), .ref (y 20), .ref (y 21), .ref (y 22), .ref (y 23), .ref (y 24), .int w_given, .long w_fresh, .ref (y 25), .ref (y 26), .ref (y 27), .ref (y 28), .ref (y 29), .ref (y 30), .ref (y 31), .ref (y 32), .ref (y 33), .ref (y 34), .ref (y 35), .ref (y 36), .ref (y 37), .int w_done, .int w_moreAsked, .ref (y 38), .long w_g, .int w_gone, .int w_stopped])), (y 32, .inl (ct 0, 31, .inl f))] (S := Unit) (fun _ => some (.int (0 + f 13 + f 14 + f 15 + f 16 + f 17 + f 18))) (fun _ => True) (fun _ => [(h0, .inr (11, [.int w_thrown, .int w_taped, .ref (y 0), .int w_size, .int w_place, .int w_begin, .int w_token, .long w_word, .int w_told, .int w_wrong, .ref (y 1), .ref (y 2), .ref (y 3), .ref (y 4), .ref (y 5), .ref (y 6), .ref (y 7), .ref (y 8), .ref (y 9), .ref (y 10), .ref (y 11), .ref (y 12), .int w_code, .int w_toldLines, .ref (y 13), .ref (y 14), .ref (y 15), .ref (y 16), .ref (y 17), .ref (y 18), .ref (y 19), .ref (y 20), .ref (y 21), .ref (y 22), .ref (y 23), .ref (y 24), .int w_given, .long w_fresh, .ref (y 25), .ref (y 26), .ref (y 27), .ref (y 28), .ref (y 29), .ref (y 30), .ref (y 31), .ref (y 32), .ref (y 33), .ref (y 34), .ref (y 35), .ref (y 36), .ref (y 37), .int w_done, .int w_moreAsked, .ref (y 38), .long w_g, .int w_gone, .int w_stopped])), (y 32, .inl (ct 0, 31, .inl f))]) 0 0 := by
  refine zofW cX12_allOf 4 (some .int) (by decide) rfl (Nat.le_of_ble_eq_true rfl) ?_
  intro p e s m below meth c A hx hb hr hml hts hown hlocks hname hK hA hZ hN H locs hw hS ls hl
  have hown : s.vm.findClass RX12 = some m.cls := hown
  have hl : lv_has ls 4 [(0, .ref h0), (1, .int 13)] := hl
  have hiX12 : ∀ w ∈ wsX120, w ∈ wsX12_allOf := by decide +kernel
  refine lv_iconst (v := 0) hx hb dX12_allOf_0 (by decide) ?_
  refine lv_istore_n (lv' := [(2, .int 0), (0, .ref h0), (1, .int 13)]) hx hb dX12_allOf_1 rfl hl (by decide) rfl (fun ls hl => ?_)
  refine lv_iload_n hx hb dX12_allOf_2 rfl (lv_at hl 2 rfl) ?_
  refine lv_istore_n (lv' := [(3, .int 13), (2, .int 0), (0, .ref h0), (1, .int 13)]) hx hb dX12_allOf_3 rfl hl (by decide) rfl (fun ls hl => ?_)
  refine lv_iload_n hx hb dX12_allOf_4 rfl (lv_at hl 0 rfl) ?_
  refine lv_iload_n hx hb dX12_allOf_5 rfl (lv_at hl 3 rfl) ?_
  refine lv_bipush (v := 6) hx hb dX12_allOf_6 (by decide) ?_
  refine lv_iadd hx hb dX12_allOf_8 ?_
  refine ztop (.int 19) (congrArg Value.int (by decide)) ?_
  refine lv_icmp_ge (tgt := 27) hx hb dX12_allOf_9 (by decide) (fun h => absurd h (by decide)) (fun _ => ?_)
  refine lv_iload_n hx hb dX12_allOf_12 rfl (lv_at hl 1 rfl) ?_
  refine lv_aload_n hx hb dX12_allOf_13 rfl (lv_at hl 2 rfl) ?_
  refine va_get (D := D) (ci := 11) (v := .ref (y 32)) hx hb hts hiX12 hown hK hw.1 0 rfl rfl 45 (by decide) (hts (.fieldLink RX12 108 "BeardPassModel" "s" "[I") (by decide +kernel)) (fun _ h9 => h9) rfl dX12_allOf_14 ?_
  refine lv_iload_n hx hb dX12_allOf_17 rfl (lv_at hl 0 rfl) ?_
  refine ziald hx hb hK hw 1 rfl 13 (by decide) (by decide) (by decide) dX12_allOf_18 ?_
  refine lv_iadd hx hb dX12_allOf_19 ?_
  refine lv_istore_n (lv' := [(2, .int (0 + (f 13))), (3, .int 13), (0, .ref h0), (1, .int 13)]) hx hb dX12_allOf_20 rfl hl (by decide) rfl (fun ls hl => ?_)
  refine lv_iinc (v := 14) (lv' := [(3, .int 14), (2, .int (0 + (f 13))), (0, .ref h0), (1, .int 13)]) hx hb dX12_allOf_21 hl (k := 1) rfl (by decide) (by decide) rfl (fun ls hl => ?_)
  refine lv_goto (tgt := 4) hx hb dX12_allOf_24 (by decide) ?_
  refine lv_iload_n hx hb dX12_allOf_4 rfl (lv_at hl 0 rfl) ?_
  refine lv_iload_n hx hb dX12_allOf_5 rfl (lv_at hl 3 rfl) ?_
  refine lv_bipush (v := 6) hx hb dX12_allOf_6 (by decide) ?_
  refine lv_iadd hx hb dX12_allOf_8 ?_
  refine ztop (.int 19) (congrArg Value.int (by decide)) ?_
  refine lv_icmp_ge (tgt := 27) hx hb dX12_allOf_9 (by decide) (fun h => absurd h (by decide)) (fun _ => ?_)
  refine lv_iload_n hx hb dX12_allOf_12 rfl (lv_at hl 1 rfl) ?_
  refine lv_aload_n hx hb dX12_allOf_13 rfl (lv_at hl 2 rfl) ?_
  refine va_get (D := D) (ci := 11) (v := .ref (y 32)) hx hb hts hiX12 hown hK hw.1 0 rfl rfl 45 (by decide) (hts (.fieldLink RX12 108 "BeardPassModel" "s" "[I") (by decide +kernel)) (fun _ h9 => h9) rfl dX12_allOf_14 ?_
  refine lv_iload_n hx hb dX12_allOf_17 rfl (lv_at hl 0 rfl) ?_
  refine ziald hx hb hK hw 1 rfl 14 (by decide) (by decide) (by decide) dX12_allOf_18 ?_
  refine lv_iadd hx hb dX12_allOf_19 ?_
  refine lv_istore_n (lv' := [(2, .int ((0 + (f 13)) + (f 14))), (3, .int 14), (0, .ref h0), (1, .int 13)]) hx hb dX12_allOf_20 rfl hl (by decide) rfl (fun ls hl => ?_)
  refine lv_iinc (v := 15) (lv' := [(3, .int 15), (2, .int ((0 + (f 13)) + (f 14))), (0, .ref h0), (1, .int 13)]) hx hb dX12_allOf_21 hl (k := 1) rfl (by decide) (by decide) rfl (fun ls hl => ?_)
  refine lv_goto (tgt := 4) hx hb dX12_allOf_24 (by decide) ?_
  refine lv_iload_n hx hb dX12_allOf_4 rfl (lv_at hl 0 rfl) ?_
  refine lv_iload_n hx hb dX12_allOf_5 rfl (lv_at hl 3 rfl) ?_
  refine lv_bipush (v := 6) hx hb dX12_allOf_6 (by decide) ?_
  refine lv_iadd hx hb dX12_allOf_8 ?_
  refine ztop (.int 19) (congrArg Value.int (by decide)) ?_
  refine lv_icmp_ge (tgt := 27) hx hb dX12_allOf_9 (by decide) (fun h => absurd h (by decide)) (fun _ => ?_)
  refine lv_iload_n hx hb dX12_allOf_12 rfl (lv_at hl 1 rfl) ?_
  refine lv_aload_n hx hb dX12_allOf_13 rfl (lv_at hl 2 rfl) ?_
  refine va_get (D := D) (ci := 11) (v := .ref (y 32)) hx hb hts hiX12 hown hK hw.1 0 rfl rfl 45 (by decide) (hts (.fieldLink RX12 108 "BeardPassModel" "s" "[I") (by decide +kernel)) (fun _ h9 => h9) rfl dX12_allOf_14 ?_
  refine lv_iload_n hx hb dX12_allOf_17 rfl (lv_at hl 0 rfl) ?_
  refine ziald hx hb hK hw 1 rfl 15 (by decide) (by decide) (by decide) dX12_allOf_18 ?_
  refine lv_iadd hx hb dX12_allOf_19 ?_
  refine lv_istore_n (lv' := [(2, .int (((0 + (f 13)) + (f 14)) + (f 15))), (3, .int 15), (0, .ref h0), (1, .int 13)]) hx hb dX12_allOf_20 rfl hl (by decide) rfl (fun ls hl => ?_)
  refine lv_iinc (v := 16) (lv' := [(3, .int 16), (2, .int (((0 + (f 13)) + (f 14)) + (f 15))), (0, .ref h0), (1, .int 13)]) hx hb dX12_allOf_21 hl (k := 1) rfl (by decide) (by decide) rfl (fun ls hl => ?_)
  refine lv_goto (tgt := 4) hx hb dX12_allOf_24 (by decide) ?_
  refine lv_iload_n hx hb dX12_allOf_4 rfl (lv_at hl 0 rfl) ?_
  refine lv_iload_n hx hb dX12_allOf_5 rfl (lv_at hl 3 rfl) ?_
  refine lv_bipush (v := 6) hx hb dX12_allOf_6 (by decide) ?_
  refine lv_iadd hx hb dX12_allOf_8 ?_
  refine ztop (.int 19) (congrArg Value.int (by decide)) ?_
  refine lv_icmp_ge (tgt := 27) hx hb dX12_allOf_9 (by decide) (fun h => absurd h (by decide)) (fun _ => ?_)
  refine lv_iload_n hx hb dX12_allOf_12 rfl (lv_at hl 1 rfl) ?_
  refine lv_aload_n hx hb dX12_allOf_13 rfl (lv_at hl 2 rfl) ?_
  refine va_get (D := D) (ci := 11) (v := .ref (y 32)) hx hb hts hiX12 hown hK hw.1 0 rfl rfl 45 (by decide) (hts (.fieldLink RX12 108 "BeardPassModel" "s" "[I") (by decide +kernel)) (fun _ h9 => h9) rfl dX12_allOf_14 ?_
  refine lv_iload_n hx hb dX12_allOf_17 rfl (lv_at hl 0 rfl) ?_
  refine ziald hx hb hK hw 1 rfl 16 (by decide) (by decide) (by decide) dX12_allOf_18 ?_
  refine lv_iadd hx hb dX12_allOf_19 ?_
  refine lv_istore_n (lv' := [(2, .int ((((0 + (f 13)) + (f 14)) + (f 15)) + (f 16))), (3, .int 16), (0, .ref h0), (1, .int 13)]) hx hb dX12_allOf_20 rfl hl (by decide) rfl (fun ls hl => ?_)
  refine lv_iinc (v := 17) (lv' := [(3, .int 17), (2, .int ((((0 + (f 13)) + (f 14)) + (f 15)) + (f 16))), (0, .ref h0), (1, .int 13)]) hx hb dX12_allOf_21 hl (k := 1) rfl (by decide) (by decide) rfl (fun ls hl => ?_)
  refine lv_goto (tgt := 4) hx hb dX12_allOf_24 (by decide) ?_
  refine lv_iload_n hx hb dX12_allOf_4 rfl (lv_at hl 0 rfl) ?_
  refine lv_iload_n hx hb dX12_allOf_5 rfl (lv_at hl 3 rfl) ?_
  refine lv_bipush (v := 6) hx hb dX12_allOf_6 (by decide) ?_
  refine lv_iadd hx hb dX12_allOf_8 ?_
  refine ztop (.int 19) (congrArg Value.int (by decide)) ?_
  refine lv_icmp_ge (tgt := 27) hx hb dX12_allOf_9 (by decide) (fun h => absurd h (by decide)) (fun _ => ?_)
  refine lv_iload_n hx hb dX12_allOf_12 rfl (lv_at hl 1 rfl) ?_
  refine lv_aload_n hx hb dX12_allOf_13 rfl (lv_at hl 2 rfl) ?_
  refine va_get (D := D) (ci := 11) (v := .ref (y 32)) hx hb hts hiX12 hown hK hw.1 0 rfl rfl 45 (by decide) (hts (.fieldLink RX12 108 "BeardPassModel" "s" "[I") (by decide +kernel)) (fun _ h9 => h9) rfl dX12_allOf_14 ?_
  refine lv_iload_n hx hb dX12_allOf_17 rfl (lv_at hl 0 rfl) ?_
  refine ziald hx hb hK hw 1 rfl 17 (by decide) (by decide) (by decide) dX12_allOf_18 ?_
  refine lv_iadd hx hb dX12_allOf_19 ?_
  refine lv_istore_n (lv' := [(2, .int (((((0 + (f 13)) + (f 14)) + (f 15)) + (f 16)) + (f 17))), (3, .int 17), (0, .ref h0), (1, .int 13)]) hx hb dX12_allOf_20 rfl hl (by decide) rfl (fun ls hl => ?_)
  refine lv_iinc (v := 18) (lv' := [(3, .int 18), (2, .int (((((0 + (f 13)) + (f 14)) + (f 15)) + (f 16)) + (f 17))), (0, .ref h0), (1, .int 13)]) hx hb dX12_allOf_21 hl (k := 1) rfl (by decide) (by decide) rfl (fun ls hl => ?_)
  refine lv_goto (tgt := 4) hx hb dX12_allOf_24 (by decide) ?_
  refine lv_iload_n hx hb dX12_allOf_4 rfl (lv_at hl 0 rfl) ?_
  refine lv_iload_n hx hb dX12_allOf_5 rfl (lv_at hl 3 rfl) ?_
  refine lv_bipush (v := 6) hx hb dX12_allOf_6 (by decide) ?_
  refine lv_iadd hx hb dX12_allOf_8 ?_
  refine ztop (.int 19) (congrArg Value.int (by decide)) ?_
  refine lv_icmp_ge (tgt := 27) hx hb dX12_allOf_9 (by decide) (fun h => absurd h (by decide)) (fun _ => ?_)
  refine lv_iload_n hx hb dX12_allOf_12 rfl (lv_at hl 1 rfl) ?_
  refine lv_aload_n hx hb dX12_allOf_13 rfl (lv_at hl 2 rfl) ?_
  refine va_get (D := D) (ci := 11) (v := .ref (y 32)) hx hb hts hiX12 hown hK hw.1 0 rfl rfl 45 (by decide) (hts (.fieldLink RX12 108 "BeardPassModel" "s" "[I") (by decide +kernel)) (fun _ h9 => h9) rfl dX12_allOf_14 ?_
  refine lv_iload_n hx hb dX12_allOf_17 rfl (lv_at hl 0 rfl) ?_
  refine ziald hx hb hK hw 1 rfl 18 (by decide) (by decide) (by decide) dX12_allOf_18 ?_
  refine lv_iadd hx hb dX12_allOf_19 ?_
  refine lv_istore_n (lv' := [(2, .int ((((((0 + (f 13)) + (f 14)) + (f 15)) + (f 16)) + (f 17)) + (f 18))), (3, .int 18), (0, .ref h0), (1, .int 13)]) hx hb dX12_allOf_20 rfl hl (by decide) rfl (fun ls hl => ?_)
  refine lv_iinc (v := 19) (lv' := [(3, .int 19), (2, .int ((((((0 + (f 13)) + (f 14)) + (f 15)) + (f 16)) + (f 17)) + (f 18))), (0, .ref h0), (1, .int 13)]) hx hb dX12_allOf_21 hl (k := 1) rfl (by decide) (by decide) rfl (fun ls hl => ?_)
  refine lv_goto (tgt := 4) hx hb dX12_allOf_24 (by decide) ?_
  refine lv_iload_n hx hb dX12_allOf_4 rfl (lv_at hl 0 rfl) ?_
  refine lv_iload_n hx hb dX12_allOf_5 rfl (lv_at hl 3 rfl) ?_
  refine lv_bipush (v := 6) hx hb dX12_allOf_6 (by decide) ?_
  refine lv_iadd hx hb dX12_allOf_8 ?_
  refine ztop (.int 19) (congrArg Value.int (by decide)) ?_
  refine lv_icmp_ge (tgt := 27) hx hb dX12_allOf_9 (by decide) (fun _ => ?_) (fun h => absurd (by decide) h)
  refine lv_iload_n hx hb dX12_allOf_27 rfl (lv_at hl 1 rfl) ?_
  exact ziret hx hb hr (rfl) hlocks () (by first | rfl | (simp [Int32.add_assoc]; done) | simp) (trivial) hw [0, 1] rfl (rfl) hS (Nat.le_of_ble_eq_true rfl) (Nat.le_of_ble_eq_true rfl) dX12_allOf_28

set_option maxHeartbeats 4000000 in
set_option maxRecDepth 100000 in
/-- allOf(19) -/
theorem c_all19 (l : Launch) (D : va_G) (ct : Nat → ClassId) (h0 : Nat) (y : Nat → Nat) (w_thrown : Int32) (w_taped : Int32) (w_size : Int32) (w_place : Int32) (w_begin : Int32) (w_token : Int32) (w_word : Int64) (w_told : Int32) (w_wrong : Int32) (w_code : Int32) (w_toldLines : Int32) (w_given : Int32) (w_fresh : Int64) (w_done : Int32) (w_moreAsked : Int32) (w_g : Int64) (w_gone : Int32) (w_stopped : Int32) (f : Nat → Int32)  : zC l yX12_allOf wsX12_allOf ({ frames := 1, cells := 0, slots := 0, locals := 80 }) D ct [] [.ref h0, .int 19] [(h0, .inr (11, [.int w_thrown, .int w_taped, .ref (y 0), .int w_size, .int w_place, .int w_begin, .int w_token, .long w_word, .int w_told, .int w_wrong, .ref (y 1), .ref (y 2), .ref (y 3), .ref (y 4), .ref (y 5), .ref (y 6), .ref (y 7), .ref (y 8), .ref (y 9), .ref (y 10), .ref (y 11), .ref (y 12), .int w_code, .int w_toldLines, .ref (y 13), .ref (y 14), .ref (y 15), .ref (y 16), .ref (y 17), .ref (y 18), .ref (y 19), .ref (y 20), .ref (y 21), .ref (y 22), .ref (y 23), .ref (y 24), .int w_given, .long w_fresh, .ref (y 25), .ref (y 26), .ref (y 27), .ref (y 28), .ref (y 29), .ref (y 30), .ref (y 31), .ref (y 32), .ref (y 33), .ref (y 34), .ref (y 35), .ref (y 36), .ref (y 37), .int w_done, .int w_moreAsked, .ref (y 38), .long w_g, .int w_gone, .int w_stopped])), (y 32, .inl (ct 0, 31, .inl f))] (S := Unit) (fun _ => some (.int (0 + f 19 + f 20 + f 21 + f 22 + f 23 + f 24))) (fun _ => True) (fun _ => [(h0, .inr (11, [.int w_thrown, .int w_taped, .ref (y 0), .int w_size, .int w_place, .int w_begin, .int w_token, .long w_word, .int w_told, .int w_wrong, .ref (y 1), .ref (y 2), .ref (y 3), .ref (y 4), .ref (y 5), .ref (y 6), .ref (y 7), .ref (y 8), .ref (y 9), .ref (y 10), .ref (y 11), .ref (y 12), .int w_code, .int w_toldLines, .ref (y 13), .ref (y 14), .ref (y 15), .ref (y 16), .ref (y 17), .ref (y 18), .ref (y 19), .ref (y 20), .ref (y 21), .ref (y 22), .ref (y 23), .ref (y 24), .int w_given, .long w_fresh, .ref (y 25), .ref (y 26), .ref (y 27), .ref (y 28), .ref (y 29), .ref (y 30), .ref (y 31), .ref (y 32), .ref (y 33), .ref (y 34), .ref (y 35), .ref (y 36), .ref (y 37), .int w_done, .int w_moreAsked, .ref (y 38), .long w_g, .int w_gone, .int w_stopped])), (y 32, .inl (ct 0, 31, .inl f))]) 0 0 := by
  refine zofW cX12_allOf 4 (some .int) (by decide) rfl (Nat.le_of_ble_eq_true rfl) ?_
  intro p e s m below meth c A hx hb hr hml hts hown hlocks hname hK hA hZ hN H locs hw hS ls hl
  have hown : s.vm.findClass RX12 = some m.cls := hown
  have hl : lv_has ls 4 [(0, .ref h0), (1, .int 19)] := hl
  have hiX12 : ∀ w ∈ wsX120, w ∈ wsX12_allOf := by decide +kernel
  refine lv_iconst (v := 0) hx hb dX12_allOf_0 (by decide) ?_
  refine lv_istore_n (lv' := [(2, .int 0), (0, .ref h0), (1, .int 19)]) hx hb dX12_allOf_1 rfl hl (by decide) rfl (fun ls hl => ?_)
  refine lv_iload_n hx hb dX12_allOf_2 rfl (lv_at hl 2 rfl) ?_
  refine lv_istore_n (lv' := [(3, .int 19), (2, .int 0), (0, .ref h0), (1, .int 19)]) hx hb dX12_allOf_3 rfl hl (by decide) rfl (fun ls hl => ?_)
  refine lv_iload_n hx hb dX12_allOf_4 rfl (lv_at hl 0 rfl) ?_
  refine lv_iload_n hx hb dX12_allOf_5 rfl (lv_at hl 3 rfl) ?_
  refine lv_bipush (v := 6) hx hb dX12_allOf_6 (by decide) ?_
  refine lv_iadd hx hb dX12_allOf_8 ?_
  refine ztop (.int 25) (congrArg Value.int (by decide)) ?_
  refine lv_icmp_ge (tgt := 27) hx hb dX12_allOf_9 (by decide) (fun h => absurd h (by decide)) (fun _ => ?_)
  refine lv_iload_n hx hb dX12_allOf_12 rfl (lv_at hl 1 rfl) ?_
  refine lv_aload_n hx hb dX12_allOf_13 rfl (lv_at hl 2 rfl) ?_
  refine va_get (D := D) (ci := 11) (v := .ref (y 32)) hx hb hts hiX12 hown hK hw.1 0 rfl rfl 45 (by decide) (hts (.fieldLink RX12 108 "BeardPassModel" "s" "[I") (by decide +kernel)) (fun _ h9 => h9) rfl dX12_allOf_14 ?_
  refine lv_iload_n hx hb dX12_allOf_17 rfl (lv_at hl 0 rfl) ?_
  refine ziald hx hb hK hw 1 rfl 19 (by decide) (by decide) (by decide) dX12_allOf_18 ?_
  refine lv_iadd hx hb dX12_allOf_19 ?_
  refine lv_istore_n (lv' := [(2, .int (0 + (f 19))), (3, .int 19), (0, .ref h0), (1, .int 19)]) hx hb dX12_allOf_20 rfl hl (by decide) rfl (fun ls hl => ?_)
  refine lv_iinc (v := 20) (lv' := [(3, .int 20), (2, .int (0 + (f 19))), (0, .ref h0), (1, .int 19)]) hx hb dX12_allOf_21 hl (k := 1) rfl (by decide) (by decide) rfl (fun ls hl => ?_)
  refine lv_goto (tgt := 4) hx hb dX12_allOf_24 (by decide) ?_
  refine lv_iload_n hx hb dX12_allOf_4 rfl (lv_at hl 0 rfl) ?_
  refine lv_iload_n hx hb dX12_allOf_5 rfl (lv_at hl 3 rfl) ?_
  refine lv_bipush (v := 6) hx hb dX12_allOf_6 (by decide) ?_
  refine lv_iadd hx hb dX12_allOf_8 ?_
  refine ztop (.int 25) (congrArg Value.int (by decide)) ?_
  refine lv_icmp_ge (tgt := 27) hx hb dX12_allOf_9 (by decide) (fun h => absurd h (by decide)) (fun _ => ?_)
  refine lv_iload_n hx hb dX12_allOf_12 rfl (lv_at hl 1 rfl) ?_
  refine lv_aload_n hx hb dX12_allOf_13 rfl (lv_at hl 2 rfl) ?_
  refine va_get (D := D) (ci := 11) (v := .ref (y 32)) hx hb hts hiX12 hown hK hw.1 0 rfl rfl 45 (by decide) (hts (.fieldLink RX12 108 "BeardPassModel" "s" "[I") (by decide +kernel)) (fun _ h9 => h9) rfl dX12_allOf_14 ?_
  refine lv_iload_n hx hb dX12_allOf_17 rfl (lv_at hl 0 rfl) ?_
  refine ziald hx hb hK hw 1 rfl 20 (by decide) (by decide) (by decide) dX12_allOf_18 ?_
  refine lv_iadd hx hb dX12_allOf_19 ?_
  refine lv_istore_n (lv' := [(2, .int ((0 + (f 19)) + (f 20))), (3, .int 20), (0, .ref h0), (1, .int 19)]) hx hb dX12_allOf_20 rfl hl (by decide) rfl (fun ls hl => ?_)
  refine lv_iinc (v := 21) (lv' := [(3, .int 21), (2, .int ((0 + (f 19)) + (f 20))), (0, .ref h0), (1, .int 19)]) hx hb dX12_allOf_21 hl (k := 1) rfl (by decide) (by decide) rfl (fun ls hl => ?_)
  refine lv_goto (tgt := 4) hx hb dX12_allOf_24 (by decide) ?_
  refine lv_iload_n hx hb dX12_allOf_4 rfl (lv_at hl 0 rfl) ?_
  refine lv_iload_n hx hb dX12_allOf_5 rfl (lv_at hl 3 rfl) ?_
  refine lv_bipush (v := 6) hx hb dX12_allOf_6 (by decide) ?_
  refine lv_iadd hx hb dX12_allOf_8 ?_
  refine ztop (.int 25) (congrArg Value.int (by decide)) ?_
  refine lv_icmp_ge (tgt := 27) hx hb dX12_allOf_9 (by decide) (fun h => absurd h (by decide)) (fun _ => ?_)
  refine lv_iload_n hx hb dX12_allOf_12 rfl (lv_at hl 1 rfl) ?_
  refine lv_aload_n hx hb dX12_allOf_13 rfl (lv_at hl 2 rfl) ?_
  refine va_get (D := D) (ci := 11) (v := .ref (y 32)) hx hb hts hiX12 hown hK hw.1 0 rfl rfl 45 (by decide) (hts (.fieldLink RX12 108 "BeardPassModel" "s" "[I") (by decide +kernel)) (fun _ h9 => h9) rfl dX12_allOf_14 ?_
  refine lv_iload_n hx hb dX12_allOf_17 rfl (lv_at hl 0 rfl) ?_
  refine ziald hx hb hK hw 1 rfl 21 (by decide) (by decide) (by decide) dX12_allOf_18 ?_
  refine lv_iadd hx hb dX12_allOf_19 ?_
  refine lv_istore_n (lv' := [(2, .int (((0 + (f 19)) + (f 20)) + (f 21))), (3, .int 21), (0, .ref h0), (1, .int 19)]) hx hb dX12_allOf_20 rfl hl (by decide) rfl (fun ls hl => ?_)
  refine lv_iinc (v := 22) (lv' := [(3, .int 22), (2, .int (((0 + (f 19)) + (f 20)) + (f 21))), (0, .ref h0), (1, .int 19)]) hx hb dX12_allOf_21 hl (k := 1) rfl (by decide) (by decide) rfl (fun ls hl => ?_)
  refine lv_goto (tgt := 4) hx hb dX12_allOf_24 (by decide) ?_
  refine lv_iload_n hx hb dX12_allOf_4 rfl (lv_at hl 0 rfl) ?_
  refine lv_iload_n hx hb dX12_allOf_5 rfl (lv_at hl 3 rfl) ?_
  refine lv_bipush (v := 6) hx hb dX12_allOf_6 (by decide) ?_
  refine lv_iadd hx hb dX12_allOf_8 ?_
  refine ztop (.int 25) (congrArg Value.int (by decide)) ?_
  refine lv_icmp_ge (tgt := 27) hx hb dX12_allOf_9 (by decide) (fun h => absurd h (by decide)) (fun _ => ?_)
  refine lv_iload_n hx hb dX12_allOf_12 rfl (lv_at hl 1 rfl) ?_
  refine lv_aload_n hx hb dX12_allOf_13 rfl (lv_at hl 2 rfl) ?_
  refine va_get (D := D) (ci := 11) (v := .ref (y 32)) hx hb hts hiX12 hown hK hw.1 0 rfl rfl 45 (by decide) (hts (.fieldLink RX12 108 "BeardPassModel" "s" "[I") (by decide +kernel)) (fun _ h9 => h9) rfl dX12_allOf_14 ?_
  refine lv_iload_n hx hb dX12_allOf_17 rfl (lv_at hl 0 rfl) ?_
  refine ziald hx hb hK hw 1 rfl 22 (by decide) (by decide) (by decide) dX12_allOf_18 ?_
  refine lv_iadd hx hb dX12_allOf_19 ?_
  refine lv_istore_n (lv' := [(2, .int ((((0 + (f 19)) + (f 20)) + (f 21)) + (f 22))), (3, .int 22), (0, .ref h0), (1, .int 19)]) hx hb dX12_allOf_20 rfl hl (by decide) rfl (fun ls hl => ?_)
  refine lv_iinc (v := 23) (lv' := [(3, .int 23), (2, .int ((((0 + (f 19)) + (f 20)) + (f 21)) + (f 22))), (0, .ref h0), (1, .int 19)]) hx hb dX12_allOf_21 hl (k := 1) rfl (by decide) (by decide) rfl (fun ls hl => ?_)
  refine lv_goto (tgt := 4) hx hb dX12_allOf_24 (by decide) ?_
  refine lv_iload_n hx hb dX12_allOf_4 rfl (lv_at hl 0 rfl) ?_
  refine lv_iload_n hx hb dX12_allOf_5 rfl (lv_at hl 3 rfl) ?_
  refine lv_bipush (v := 6) hx hb dX12_allOf_6 (by decide) ?_
  refine lv_iadd hx hb dX12_allOf_8 ?_
  refine ztop (.int 25) (congrArg Value.int (by decide)) ?_
  refine lv_icmp_ge (tgt := 27) hx hb dX12_allOf_9 (by decide) (fun h => absurd h (by decide)) (fun _ => ?_)
  refine lv_iload_n hx hb dX12_allOf_12 rfl (lv_at hl 1 rfl) ?_
  refine lv_aload_n hx hb dX12_allOf_13 rfl (lv_at hl 2 rfl) ?_
  refine va_get (D := D) (ci := 11) (v := .ref (y 32)) hx hb hts hiX12 hown hK hw.1 0 rfl rfl 45 (by decide) (hts (.fieldLink RX12 108 "BeardPassModel" "s" "[I") (by decide +kernel)) (fun _ h9 => h9) rfl dX12_allOf_14 ?_
  refine lv_iload_n hx hb dX12_allOf_17 rfl (lv_at hl 0 rfl) ?_
  refine ziald hx hb hK hw 1 rfl 23 (by decide) (by decide) (by decide) dX12_allOf_18 ?_
  refine lv_iadd hx hb dX12_allOf_19 ?_
  refine lv_istore_n (lv' := [(2, .int (((((0 + (f 19)) + (f 20)) + (f 21)) + (f 22)) + (f 23))), (3, .int 23), (0, .ref h0), (1, .int 19)]) hx hb dX12_allOf_20 rfl hl (by decide) rfl (fun ls hl => ?_)
  refine lv_iinc (v := 24) (lv' := [(3, .int 24), (2, .int (((((0 + (f 19)) + (f 20)) + (f 21)) + (f 22)) + (f 23))), (0, .ref h0), (1, .int 19)]) hx hb dX12_allOf_21 hl (k := 1) rfl (by decide) (by decide) rfl (fun ls hl => ?_)
  refine lv_goto (tgt := 4) hx hb dX12_allOf_24 (by decide) ?_
  refine lv_iload_n hx hb dX12_allOf_4 rfl (lv_at hl 0 rfl) ?_
  refine lv_iload_n hx hb dX12_allOf_5 rfl (lv_at hl 3 rfl) ?_
  refine lv_bipush (v := 6) hx hb dX12_allOf_6 (by decide) ?_
  refine lv_iadd hx hb dX12_allOf_8 ?_
  refine ztop (.int 25) (congrArg Value.int (by decide)) ?_
  refine lv_icmp_ge (tgt := 27) hx hb dX12_allOf_9 (by decide) (fun h => absurd h (by decide)) (fun _ => ?_)
  refine lv_iload_n hx hb dX12_allOf_12 rfl (lv_at hl 1 rfl) ?_
  refine lv_aload_n hx hb dX12_allOf_13 rfl (lv_at hl 2 rfl) ?_
  refine va_get (D := D) (ci := 11) (v := .ref (y 32)) hx hb hts hiX12 hown hK hw.1 0 rfl rfl 45 (by decide) (hts (.fieldLink RX12 108 "BeardPassModel" "s" "[I") (by decide +kernel)) (fun _ h9 => h9) rfl dX12_allOf_14 ?_
  refine lv_iload_n hx hb dX12_allOf_17 rfl (lv_at hl 0 rfl) ?_
  refine ziald hx hb hK hw 1 rfl 24 (by decide) (by decide) (by decide) dX12_allOf_18 ?_
  refine lv_iadd hx hb dX12_allOf_19 ?_
  refine lv_istore_n (lv' := [(2, .int ((((((0 + (f 19)) + (f 20)) + (f 21)) + (f 22)) + (f 23)) + (f 24))), (3, .int 24), (0, .ref h0), (1, .int 19)]) hx hb dX12_allOf_20 rfl hl (by decide) rfl (fun ls hl => ?_)
  refine lv_iinc (v := 25) (lv' := [(3, .int 25), (2, .int ((((((0 + (f 19)) + (f 20)) + (f 21)) + (f 22)) + (f 23)) + (f 24))), (0, .ref h0), (1, .int 19)]) hx hb dX12_allOf_21 hl (k := 1) rfl (by decide) (by decide) rfl (fun ls hl => ?_)
  refine lv_goto (tgt := 4) hx hb dX12_allOf_24 (by decide) ?_
  refine lv_iload_n hx hb dX12_allOf_4 rfl (lv_at hl 0 rfl) ?_
  refine lv_iload_n hx hb dX12_allOf_5 rfl (lv_at hl 3 rfl) ?_
  refine lv_bipush (v := 6) hx hb dX12_allOf_6 (by decide) ?_
  refine lv_iadd hx hb dX12_allOf_8 ?_
  refine ztop (.int 25) (congrArg Value.int (by decide)) ?_
  refine lv_icmp_ge (tgt := 27) hx hb dX12_allOf_9 (by decide) (fun _ => ?_) (fun h => absurd (by decide) h)
  refine lv_iload_n hx hb dX12_allOf_27 rfl (lv_at hl 1 rfl) ?_
  exact ziret hx hb hr (rfl) hlocks () (by first | rfl | (simp [Int32.add_assoc]; done) | simp) (trivial) hw [0, 1] rfl (rfl) hS (Nat.le_of_ble_eq_true rfl) (Nat.le_of_ble_eq_true rfl) dX12_allOf_28

set_option maxHeartbeats 4000000 in
set_option maxRecDepth 100000 in
/-- peopled by nobody -/
theorem c_peopled12 (l : Launch) (D : va_G) (ct : Nat → ClassId) (h0 : Nat) (y : Nat → Nat) (w_thrown : Int32) (w_taped : Int32) (w_size : Int32) (w_place : Int32) (w_begin : Int32) (w_token : Int32) (w_word : Int64) (w_told : Int32) (w_wrong : Int32) (w_code : Int32) (w_toldLines : Int32) (w_given : Int32) (w_fresh : Int64) (w_done : Int32) (w_moreAsked : Int32) (w_g : Int64) (w_gone : Int32) (w_stopped : Int32) (gl : Nat → Int32) (f : Nat → Int32) (hg : gl 1 = 0) : zC l yX12_peopled wsX12_peopled ({ frames := 1, cells := 0, slots := 0, locals := 80 }) D ct [] [.ref h0] [(h0, .inr (11, [.int w_thrown, .int w_taped, .ref (y 0), .int w_size, .int w_place, .int w_begin, .int w_token, .long w_word, .int w_told, .int w_wrong, .ref (y 1), .ref (y 2), .ref (y 3), .ref (y 4), .ref (y 5), .ref (y 6), .ref (y 7), .ref (y 8), .ref (y 9), .ref (y 10), .ref (y 11), .ref (y 12), .int w_code, .int w_toldLines, .ref (y 13), .ref (y 14), .ref (y 15), .ref (y 16), .ref (y 17), .ref (y 18), .ref (y 19), .ref (y 20), .ref (y 21), .ref (y 22), .ref (y 23), .ref (y 24), .int w_given, .long w_fresh, .ref (y 25), .ref (y 26), .ref (y 27), .ref (y 28), .ref (y 29), .ref (y 30), .ref (y 31), .ref (y 32), .ref (y 33), .ref (y 34), .ref (y 35), .ref (y 36), .ref (y 37), .int w_done, .int w_moreAsked, .ref (y 38), .long w_g, .int w_gone, .int w_stopped])), (y 1, .inl (ct 0, 8, .inl gl)), (y 32, .inl (ct 0, 31, .inl f))] (S := Unit) (fun _ => some (.int 0)) (fun _ => True) (fun _ => [(h0, .inr (11, [.int w_thrown, .int w_taped, .ref (y 0), .int w_size, .int w_place, .int w_begin, .int w_token, .long w_word, .int w_told, .int w_wrong, .ref (y 1), .ref (y 2), .ref (y 3), .ref (y 4), .ref (y 5), .ref (y 6), .ref (y 7), .ref (y 8), .ref (y 9), .ref (y 10), .ref (y 11), .ref (y 12), .int w_code, .int w_toldLines, .ref (y 13), .ref (y 14), .ref (y 15), .ref (y 16), .ref (y 17), .ref (y 18), .ref (y 19), .ref (y 20), .ref (y 21), .ref (y 22), .ref (y 23), .ref (y 24), .int w_given, .long w_fresh, .ref (y 25), .ref (y 26), .ref (y 27), .ref (y 28), .ref (y 29), .ref (y 30), .ref (y 31), .ref (y 32), .ref (y 33), .ref (y 34), .ref (y 35), .ref (y 36), .ref (y 37), .int w_done, .int w_moreAsked, .ref (y 38), .long w_g, .int w_gone, .int w_stopped])), (y 1, .inl (ct 0, 8, .inl gl)), (y 32, .inl (ct 0, 31, .inl f))]) 0 0 := by
  refine zofW cX12_peopled 3 (some .int) (by decide) rfl (Nat.le_of_ble_eq_true rfl) ?_
  intro p e s m below meth c A hx hb hr hml hts hown hlocks hname hK hA hZ hN H locs hw hS ls hl
  have hown : s.vm.findClass RX12 = some m.cls := hown
  have hl : lv_has ls 3 [(0, .ref h0)] := hl
  have hiX12 : ∀ w ∈ wsX120, w ∈ wsX12_peopled := by decide +kernel
  refine lv_iconst (v := 0) hx hb dX12_peopled_0 (by decide) ?_
  refine lv_istore_n (lv' := [(1, .int 0), (0, .ref h0)]) hx hb dX12_peopled_1 rfl hl (by decide) rfl (fun ls hl => ?_)
  refine lv_iconst (v := 0) hx hb dX12_peopled_2 (by decide) ?_
  refine lv_istore_n (lv' := [(2, .int 0), (1, .int 0), (0, .ref h0)]) hx hb dX12_peopled_3 rfl hl (by decide) rfl (fun ls hl => ?_)
  refine lv_iload_n hx hb dX12_peopled_4 rfl (lv_at hl 0 rfl) ?_
  refine lv_aload_n hx hb dX12_peopled_5 rfl (lv_at hl 2 rfl) ?_
  refine va_get (D := D) (ci := 11) (v := .ref (y 1)) hx hb hts hiX12 hown hK hw.1 0 rfl rfl 10 (by decide) (hts (.fieldLink RX12 13 "BeardPassModel" "land" "[I") (by decide +kernel)) (fun _ h9 => h9) rfl dX12_peopled_6 ?_
  refine lv_iconst (v := 1) hx hb dX12_peopled_9 (by decide) ?_
  refine ziald hx hb hK hw 1 rfl 1 (by decide) (by decide) (by decide) dX12_peopled_10 ?_
  refine ztop (.int 0) (congrArg Value.int (hg)) ?_
  refine lv_icmp_ge (tgt := 33) hx hb dX12_peopled_11 (by decide) (fun _ => ?_) (fun h => absurd (by decide) h)
  refine lv_iload_n hx hb dX12_peopled_33 rfl (lv_at hl 1 rfl) ?_
  exact ziret hx hb hr (rfl) hlocks () (rfl) (trivial) hw [0, 1, 2] rfl (rfl) hS (Nat.le_of_ble_eq_true rfl) (Nat.le_of_ble_eq_true rfl) dX12_peopled_34

set_option maxHeartbeats 4000000 in
set_option maxRecDepth 100000 in
/-- isAsSeen with nothing seen -/
theorem c_asSeen12 (l : Launch) (D : va_G) (ct : Nat → ClassId) (h0 : Nat) (y : Nat → Nat) (w_thrown : Int32) (w_taped : Int32) (w_size : Int32) (w_place : Int32) (w_begin : Int32) (w_token : Int32) (w_word : Int64) (w_told : Int32) (w_wrong : Int32) (w_code : Int32) (w_toldLines : Int32) (w_given : Int32) (w_fresh : Int64) (w_done : Int32) (w_moreAsked : Int32) (w_g : Int64) (w_gone : Int32) (w_stopped : Int32) (k : Int32) (g : Nat → Int32) (hg : g 0 = 0) : zC l yX12_isAsSeen wsX12_isAsSeen ({ frames := 1, cells := 0, slots := 0, locals := 80 }) D ct [] [.ref h0, .int k] [(h0, .inr (11, [.int w_thrown, .int w_taped, .ref (y 0), .int w_size, .int w_place, .int w_begin, .int w_token, .long w_word, .int w_told, .int w_wrong, .ref (y 1), .ref (y 2), .ref (y 3), .ref (y 4), .ref (y 5), .ref (y 6), .ref (y 7), .ref (y 8), .ref (y 9), .ref (y 10), .ref (y 11), .ref (y 12), .int w_code, .int w_toldLines, .ref (y 13), .ref (y 14), .ref (y 15), .ref (y 16), .ref (y 17), .ref (y 18), .ref (y 19), .ref (y 20), .ref (y 21), .ref (y 22), .ref (y 23), .ref (y 24), .int w_given, .long w_fresh, .ref (y 25), .ref (y 26), .ref (y 27), .ref (y 28), .ref (y 29), .ref (y 30), .ref (y 31), .ref (y 32), .ref (y 33), .ref (y 34), .ref (y 35), .ref (y 36), .ref (y 37), .int w_done, .int w_moreAsked, .ref (y 38), .long w_g, .int w_gone, .int w_stopped])), (y 29, .inl (ct 0, 5, .inl g))] (S := Unit) (fun _ => some (.int 1)) (fun _ => True) (fun _ => [(h0, .inr (11, [.int w_thrown, .int w_taped, .ref (y 0), .int w_size, .int w_place, .int w_begin, .int w_token, .long w_word, .int w_told, .int w_wrong, .ref (y 1), .ref (y 2), .ref (y 3), .ref (y 4), .ref (y 5), .ref (y 6), .ref (y 7), .ref (y 8), .ref (y 9), .ref (y 10), .ref (y 11), .ref (y 12), .int w_code, .int w_toldLines, .ref (y 13), .ref (y 14), .ref (y 15), .ref (y 16), .ref (y 17), .ref (y 18), .ref (y 19), .ref (y 20), .ref (y 21), .ref (y 22), .ref (y 23), .ref (y 24), .int w_given, .long w_fresh, .ref (y 25), .ref (y 26), .ref (y 27), .ref (y 28), .ref (y 29), .ref (y 30), .ref (y 31), .ref (y 32), .ref (y 33), .ref (y 34), .ref (y 35), .ref (y 36), .ref (y 37), .int w_done, .int w_moreAsked, .ref (y 38), .long w_g, .int w_gone, .int w_stopped])), (y 29, .inl (ct 0, 5, .inl g))]) 0 0 := by
  refine zofW cX12_isAsSeen 3 (some .boolean) (by decide) rfl (Nat.le_of_ble_eq_true rfl) ?_
  intro p e s m below meth c A hx hb hr hml hts hown hlocks hname hK hA hZ hN H locs hw hS ls hl
  have hown : s.vm.findClass RX12 = some m.cls := hown
  have hl : lv_has ls 3 [(0, .ref h0), (1, .int k)] := hl
  have hiX12 : ∀ w ∈ wsX120, w ∈ wsX12_isAsSeen := by decide +kernel
  refine lv_iconst (v := 0) hx hb dX12_isAsSeen_0 (by decide) ?_
  refine lv_istore_n (lv' := [(2, .int 0), (0, .ref h0), (1, .int k)]) hx hb dX12_isAsSeen_1 rfl hl (by decide) rfl (fun ls hl => ?_)
  refine lv_iload_n hx hb dX12_isAsSeen_2 rfl (lv_at hl 0 rfl) ?_
  refine lv_aload_n hx hb dX12_isAsSeen_3 rfl (lv_at hl 1 rfl) ?_
  refine va_get (D := D) (ci := 11) (v := .ref (y 29)) hx hb hts hiX12 hown hK hw.1 0 rfl rfl 42 (by decide) (hts (.fieldLink RX12 99 "BeardPassModel" "seens" "[I") (by decide +kernel)) (fun _ h9 => h9) rfl dX12_isAsSeen_4 ?_
  refine lv_iconst (v := 0) hx hb dX12_isAsSeen_7 (by decide) ?_
  refine ziald hx hb hK hw 1 rfl 0 (by decide) (by decide) (by decide) dX12_isAsSeen_8 ?_
  refine ztop (.int 0) (congrArg Value.int (hg)) ?_
  refine lv_icmp_ge (tgt := 46) hx hb dX12_isAsSeen_9 (by decide) (fun _ => ?_) (fun h => absurd (by decide) h)
  refine lv_iconst (v := 1) hx hb dX12_isAsSeen_46 (by decide) ?_
  exact ziret hx hb hr (rfl) hlocks () (rfl) (trivial) hw [0, 1] rfl (rfl) hS (Nat.le_of_ble_eq_true rfl) (Nat.le_of_ble_eq_true rfl) dX12_isAsSeen_47

set_option maxHeartbeats 4000000 in
set_option maxRecDepth 100000 in
/-- livesWeek with nobody -/
theorem c_lives12 (l : Launch) (D : va_G) (ct : Nat → ClassId) (h0 : Nat) (y : Nat → Nat) (w_thrown : Int32) (w_taped : Int32) (w_size : Int32) (w_place : Int32) (w_begin : Int32) (w_token : Int32) (w_word : Int64) (w_told : Int32) (w_wrong : Int32) (w_code : Int32) (w_toldLines : Int32) (w_given : Int32) (w_fresh : Int64) (w_done : Int32) (w_moreAsked : Int32) (w_g : Int64) (w_gone : Int32) (w_stopped : Int32) (gl : Nat → Int32) (f : Nat → Int32) (hg : gl 1 = 0) : zC l yX12_livesWeek wsX12_livesWeek ({ frames := 2, cells := 0, slots := 0, locals := 120 }) D ct [] [.ref h0] [(h0, .inr (11, [.int w_thrown, .int w_taped, .ref (y 0), .int w_size, .int w_place, .int w_begin, .int w_token, .long w_word, .int w_told, .int w_wrong, .ref (y 1), .ref (y 2), .ref (y 3), .ref (y 4), .ref (y 5), .ref (y 6), .ref (y 7), .ref (y 8), .ref (y 9), .ref (y 10), .ref (y 11), .ref (y 12), .int w_code, .int w_toldLines, .ref (y 13), .ref (y 14), .ref (y 15), .ref (y 16), .ref (y 17), .ref (y 18), .ref (y 19), .ref (y 20), .ref (y 21), .ref (y 22), .ref (y 23), .ref (y 24), .int w_given, .long w_fresh, .ref (y 25), .ref (y 26), .ref (y 27), .ref (y 28), .ref (y 29), .ref (y 30), .ref (y 31), .ref (y 32), .ref (y 33), .ref (y 34), .ref (y 35), .ref (y 36), .ref (y 37), .int w_done, .int w_moreAsked, .ref (y 38), .long w_g, .int w_gone, .int w_stopped])), (y 1, .inl (ct 0, 8, .inl gl)), (y 32, .inl (ct 0, 31, .inl f))] (S := Unit) (fun _ => none) (fun _ => True) (fun _ => [(h0, .inr (11, [.int w_thrown, .int w_taped, .ref (y 0), .int w_size, .int w_place, .int w_begin, .int w_token, .long w_word, .int w_told, .int w_wrong, .ref (y 1), .ref (y 2), .ref (y 3), .ref (y 4), .ref (y 5), .ref (y 6), .ref (y 7), .ref (y 8), .ref (y 9), .ref (y 10), .ref (y 11), .ref (y 12), .int w_code, .int w_toldLines, .ref (y 13), .ref (y 14), .ref (y 15), .ref (y 16), .ref (y 17), .ref (y 18), .ref (y 19), .ref (y 20), .ref (y 21), .ref (y 22), .ref (y 23), .ref (y 24), .int w_given, .long w_fresh, .ref (y 25), .ref (y 26), .ref (y 27), .ref (y 28), .ref (y 29), .ref (y 30), .ref (y 31), .ref (y 32), .ref (y 33), .ref (y 34), .ref (y 35), .ref (y 36), .ref (y 37), .int w_done, .int w_moreAsked, .ref (y 38), .long w_g, .int w_gone, .int w_stopped])), (y 1, .inl (ct 0, 8, .inl gl)), (y 32, .inl (ct 0, 31, .inl (upd f 0 (f 0 + 1))))]) 0 0 := by
  refine zofW cX12_livesWeek 3 none (by decide) rfl (Nat.le_of_ble_eq_true rfl) ?_
  intro p e s m below meth c A hx hb hr hml hts hown hlocks hname hK hA hZ hN H locs hw hS ls hl
  have hown : s.vm.findClass RX12 = some m.cls := hown
  have hl : lv_has ls 3 [(0, .ref h0)] := hl
  have hiX12 : ∀ w ∈ wsX120, w ∈ wsX12_livesWeek := by decide +kernel
  refine lv_iconst (v := 0) hx hb dX12_livesWeek_0 (by decide) ?_
  refine lv_istore_n (lv' := [(1, .int 0), (0, .ref h0)]) hx hb dX12_livesWeek_1 rfl hl (by decide) rfl (fun ls hl => ?_)
  refine lv_iload_n hx hb dX12_livesWeek_2 rfl (lv_at hl 0 rfl) ?_
  refine lv_aload_n hx hb dX12_livesWeek_3 rfl (lv_at hl 1 rfl) ?_
  refine va_get (D := D) (ci := 11) (v := .ref (y 1)) hx hb hts hiX12 hown hK hw.1 0 rfl rfl 10 (by decide) (hts (.fieldLink RX12 13 "BeardPassModel" "land" "[I") (by decide +kernel)) (fun _ h9 => h9) rfl dX12_livesWeek_4 ?_
  refine lv_iconst (v := 1) hx hb dX12_livesWeek_7 (by decide) ?_
  refine ziald hx hb hK hw 1 rfl 1 (by decide) (by decide) (by decide) dX12_livesWeek_8 ?_
  refine ztop (.int 0) (congrArg Value.int (hg)) ?_
  refine lv_icmp_ge (tgt := 102) hx hb dX12_livesWeek_9 (by decide) (fun _ => ?_) (fun h => absurd (by decide) h)
  refine lv_aload_n hx hb dX12_livesWeek_102 rfl (lv_at hl 1 rfl) ?_
  refine zcall2 (va_runV (As := []) (rest := []) ⟨hx, hb, hml, hown, hts⟩ (c_passes12 l D ct h0 y w_thrown w_taped w_size w_place w_begin w_token w_word w_told w_wrong w_code w_toldLines w_given w_fresh w_done w_moreAsked w_g w_gone w_stopped gl f (hg) H.size) (cwV 0 hts gX12_livesWeek_X12_passes rfl rfl rfl (by decide +kernel) ⟨Nat.le_of_ble_eq_true rfl, Nat.le_of_ble_eq_true rfl⟩) (zpreV hK hw hS hA zZ.nil hN [0, 1, 2] rfl rfl 11 0 rfl rfl) rfl rfl hl.1 rfl (lv_room (Nat.le_of_ble_eq_true rfl)) dX12_livesWeek_103 ⟨Nat.le_of_ble_eq_true rfl, Nat.le_of_ble_eq_true rfl⟩) hw hS hA [0, 1, 2] [] rfl rfl rfl rfl (fun _ H locs hp2 hw hS => ?_)
  have hw : zPD D A [(h0, .inr (11, [.int w_thrown, .int w_taped, .ref (y 0), .int w_size, .int w_place, .int w_begin, .int w_token, .long w_word, .int w_told, .int w_wrong, .ref (y 1), .ref (y 2), .ref (y 3), .ref (y 4), .ref (y 5), .ref (y 6), .ref (y 7), .ref (y 8), .ref (y 9), .ref (y 10), .ref (y 11), .ref (y 12), .int w_code, .int w_toldLines, .ref (y 13), .ref (y 14), .ref (y 15), .ref (y 16), .ref (y 17), .ref (y 18), .ref (y 19), .ref (y 20), .ref (y 21), .ref (y 22), .ref (y 23), .ref (y 24), .int w_given, .long w_fresh, .ref (y 25), .ref (y 26), .ref (y 27), .ref (y 28), .ref (y 29), .ref (y 30), .ref (y 31), .ref (y 32), .ref (y 33), .ref (y 34), .ref (y 35), .ref (y 36), .ref (y 37), .int w_done, .int w_moreAsked, .ref (y 38), .long w_g, .int w_gone, .int w_stopped])), (y 1, .inl (ct 0, 8, .inl gl)), (y 32, .inl (ct 0, 31, .inl (upd f 0 (f 0 + 1))))] H := hw
  refine zfr 106 [] rfl rfl ?_
  exact zvret hx hb hr hlocks () rfl (trivial) hw [0, 1, 2] rfl (rfl) hS (Nat.le_of_ble_eq_true rfl) (Nat.le_of_ble_eq_true rfl) dX12_livesWeek_106
