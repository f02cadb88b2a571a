
set_option maxHeartbeats 4000000 in
set_option maxRecDepth 100000 in
/-- copies: thirty-one places of one row into another -/
theorem c_copies (l : Launch) (D : va_G) (ct : Nat → ClassId) (h1 : Nat) (a : Nat) (h2 : Nat) (b : Nat) (n1 : Nat) (n2 : Nat) (f : Nat → Int32) (g : Nat → Int32) (ha : a + 31 ≤ n1) (hb1 : b + 31 ≤ n2) (hn1 : n1 < 2 ^ 31) (hn2 : n2 < 2 ^ 31) : zC l yX12_copies wsX12_copies ({ frames := 1, cells := 0, slots := 0, locals := 80 }) D ct [] [.ref h1, .int (nI a), .ref h2, .int (nI b)] [(h1, .inl (ct 0, n1, .inl f)), (h2, .inl (ct 0, n2, .inl g))] (S := Unit) (fun _ => none) (fun _ => True) (fun _ => [(h1, .inl (ct 0, n1, .inl f)), (h2, .inl (ct 0, n2, .inl (zcp f g a b 31)))]) 0 0 := by
  refine zofW cX12_copies 5 none (by decide) rfl (Nat.le_of_ble_eq_true rfl) ?_
  intro p e s m below meth c A hx hb hr hml hts hown hlocks hname hK hA hZ hN H locs hw hS ls hl
  have hown : s.vm.findClass RX12 = some m.cls := hown
  have hl : lv_has ls 5 [(0, .ref h1), (1, .int (nI a)), (2, .ref h2), (3, .int (nI b))] := hl
  refine lv_iconst (v := 0) hx hb dX12_copies_0 (by decide) ?_
  refine lv_istore (lv' := [(4, .int 0), (0, .ref h1), (1, .int (nI a)), (2, .ref h2), (3, .int (nI b))]) hx hb dX12_copies_1 hl (by decide) rfl (fun ls hl => ?_)
  refine zloop (σ := Unit) (nL := 5) (st := []) (fun i _ => True) (fun i _ => [(h1, .inl (ct 0, n1, .inl f)), (h2, .inl (ct 0, n2, .inl (zcp f g a b i)))]) (fun i _ => [(4, .int (nI i)), (0, .ref h1), (1, .int (nI a)), (2, .ref h2), (3, .int (nI b))]) (fun _ => 0) (fun _ => 0) 31 ?_ ?_ 0 () (Nat.zero_le _) (trivial) H locs ls (zcong (by (try dsimp only); rw [zcp_0]) (hw.sub (w0 := [(h1, .inl (ct 0, n1, .inl f)), (h2, .inl (ct 0, n2, .inl g))]) [0, 1] rfl rfl)) hS (lv_sub hl [0, 1, 2, 3, 4] rfl)
  · intro x2 hI3 H locs ls hw hS hl
    have hw : zPD D A [(h1, .inl (ct 0, n1, .inl f)), (h2, .inl (ct 0, n2, .inl (zcp f g a b 31)))] H := hw
    have hl : lv_has ls 5 [(4, .int (nI 31)), (0, .ref h1), (1, .int (nI a)), (2, .ref h2), (3, .int (nI b))] := hl
    refine lv_iload hx hb dX12_copies_3 (lv_at hl 0 rfl) ?_
    refine lv_bipush (v := 31) hx hb dX12_copies_5 (by decide) ?_
    refine lv_icmp_ge (tgt := 28) hx hb dX12_copies_7 (by decide) (fun _ => ?_) (fun h => absurd (by decide) h)
    exact zvret hx hb hr hlocks () rfl (trivial) hw [0, 1] rfl (rfl) hS (Nat.le_of_ble_eq_true rfl) (Nat.le_of_ble_eq_true rfl) dX12_copies_28
  · intro i1 x5 hlt8 hI6 ih7 H locs ls hw hS hl
    have hw : zPD D A [(h1, .inl (ct 0, n1, .inl f)), (h2, .inl (ct 0, n2, .inl (zcp f g a b i1)))] H := hw
    have hl : lv_has ls 5 [(4, .int (nI i1)), (0, .ref h1), (1, .int (nI a)), (2, .ref h2), (3, .int (nI b))] := hl
    refine lv_iload hx hb dX12_copies_3 (lv_at hl 0 rfl) ?_
    refine lv_bipush (v := 31) hx hb dX12_copies_5 (by decide) ?_
    refine lv_icmp_ge (tgt := 28) hx hb dX12_copies_7 (by decide) (fun h => absurd h (nI_ge hlt8 (by decide))) (fun _ => ?_)
    refine lv_aload_n hx hb dX12_copies_10 rfl (lv_at hl 3 rfl) ?_
    refine lv_iload_n hx hb dX12_copies_11 rfl (lv_at hl 4 rfl) ?_
    refine lv_iload hx hb dX12_copies_12 (lv_at hl 0 rfl) ?_
    refine lv_iadd hx hb dX12_copies_14 ?_
    refine ztop (.int (nI (b + i1))) (congrArg Value.int (nI_add _ _)) ?_
    refine lv_aload_n hx hb dX12_copies_15 rfl (lv_at hl 1 rfl) ?_
    refine lv_iload_n hx hb dX12_copies_16 rfl (lv_at hl 2 rfl) ?_
    refine lv_iload hx hb dX12_copies_17 (lv_at hl 0 rfl) ?_
    refine lv_iadd hx hb dX12_copies_19 ?_
    refine ztop (.int (nI (a + i1))) (congrArg Value.int (nI_add _ _)) ?_
    refine ziald hx hb hK hw 0 rfl (a + i1) rfl (by omega) hn1 dX12_copies_20 ?_
    refine ziast hx hb hK hw hS 1 rfl (b + i1) rfl (by omega) hn2 dX12_copies_21 [(h1, .inl (ct 0, n1, .inl f)), (h2, .inl (ct 0, n2, .inl (upd (zcp f g a b i1) (b + i1) (f (a + i1)))))] rfl (fun H locs hw hS => ?_)
    refine lv_iinc (v := nI (i1 + 1)) (lv' := [(4, .int (nI (i1 + 1))), (0, .ref h1), (1, .int (nI a)), (2, .ref h2), (3, .int (nI b))]) hx hb dX12_copies_22 hl (k := 0) rfl (nI_add _ 1) (by decide) rfl (fun ls hl => ?_)
    refine lv_goto (tgt := 3) hx hb dX12_copies_25 (by decide) ?_
    exact ih7 () (trivial) H locs ls (zcong (by (try dsimp only); rw [zcp_s]) (hw.sub (w0 := [(h1, .inl (ct 0, n1, .inl f)), (h2, .inl (ct 0, n2, .inl (upd (zcp f g a b i1) (b + i1) (f (a + i1)))))]) [0, 1] rfl rfl)) hS (lv_sub hl [0, 1, 2, 3, 4] rfl)

set_option maxHeartbeats 4000000 in
set_option maxRecDepth 100000 in
/-- shifts: the second half onto the first -/
theorem c_shifts (l : Launch) (D : va_G) (ct : Nat → ClassId) (h1 : Nat) (n : Nat) (n1 : Nat) (f : Nat → Int32) (ha : n + n ≤ n1) (hn1 : n1 < 65536) : zC l yX12_shifts wsX12_shifts ({ frames := 1, cells := 0, slots := 0, locals := 80 }) D ct [] [.ref h1, .int (nI n)] [(h1, .inl (ct 0, n1, .inl f))] (S := Unit) (fun _ => none) (fun _ => True) (fun _ => [(h1, .inl (ct 0, n1, .inl (zsf f n n)))]) 0 0 := by
  refine zofW cX12_shifts 3 none (by decide) rfl (Nat.le_of_ble_eq_true rfl) ?_
  intro p e s m below meth c A hx hb hr hml hts hown hlocks hname hK hA hZ hN H locs hw hS ls hl
  have hown : s.vm.findClass RX12 = some m.cls := hown
  have hl : lv_has ls 3 [(0, .ref h1), (1, .int (nI n))] := hl
  refine lv_iconst (v := 0) hx hb dX12_shifts_0 (by decide) ?_
  refine lv_istore_n (lv' := [(2, .int 0), (0, .ref h1), (1, .int (nI n))]) hx hb dX12_shifts_1 rfl hl (by decide) rfl (fun ls hl => ?_)
  refine zloop (σ := Unit) (nL := 3) (st := []) (fun i _ => True) (fun i _ => [(h1, .inl (ct 0, n1, .inl (zsf f n i)))]) (fun i _ => [(2, .int (nI i)), (0, .ref h1), (1, .int (nI n))]) (fun _ => 0) (fun _ => 0) n ?_ ?_ 0 () (Nat.zero_le _) (trivial) H locs ls (zcong (by (try dsimp only); rw [zsf_0]) (hw.sub (w0 := [(h1, .inl (ct 0, n1, .inl f))]) [0] rfl rfl)) hS (lv_sub hl [0, 1, 2] rfl)
  · intro x2 hI3 H locs ls hw hS hl
    have hw : zPD D A [(h1, .inl (ct 0, n1, .inl (zsf f n n)))] H := hw
    have hl : lv_has ls 3 [(2, .int (nI n)), (0, .ref h1), (1, .int (nI n))] := hl
    refine lv_iload_n hx hb dX12_shifts_2 rfl (lv_at hl 0 rfl) ?_
    refine lv_iload_n hx hb dX12_shifts_3 rfl (lv_at hl 2 rfl) ?_
    refine lv_icmp_ge (tgt := 21) hx hb dX12_shifts_4 (by decide) (fun _ => ?_) (fun h => absurd (nI_le (Nat.le_refl n) (by omega)) h)
    exact zvret hx hb hr hlocks () rfl (trivial) hw [0] rfl (rfl) hS (Nat.le_of_ble_eq_true rfl) (Nat.le_of_ble_eq_true rfl) dX12_shifts_21
  · intro i1 x5 hlt8 hI6 ih7 H locs ls hw hS hl
    have hw : zPD D A [(h1, .inl (ct 0, n1, .inl (zsf f n i1)))] H := hw
    have hl : lv_has ls 3 [(2, .int (nI i1)), (0, .ref h1), (1, .int (nI n))] := hl
    refine lv_iload_n hx hb dX12_shifts_2 rfl (lv_at hl 0 rfl) ?_
    refine lv_iload_n hx hb dX12_shifts_3 rfl (lv_at hl 2 rfl) ?_
    refine lv_icmp_ge (tgt := 21) hx hb dX12_shifts_4 (by decide) (fun h => absurd h (nI_ge hlt8 (by omega))) (fun _ => ?_)
    refine lv_aload_n hx hb dX12_shifts_7 rfl (lv_at hl 1 rfl) ?_
    refine lv_iload_n hx hb dX12_shifts_8 rfl (lv_at hl 0 rfl) ?_
    refine lv_aload_n hx hb dX12_shifts_9 rfl (lv_at hl 1 rfl) ?_
    refine lv_iload_n hx hb dX12_shifts_10 rfl (lv_at hl 2 rfl) ?_
    refine lv_iload_n hx hb dX12_shifts_11 rfl (lv_at hl 0 rfl) ?_
    refine lv_iadd hx hb dX12_shifts_12 ?_
    refine ztop (.int (nI (n + i1))) (congrArg Value.int (nI_add _ _)) ?_
    refine ziald hx hb hK hw 0 rfl (n + i1) rfl (by omega) (by omega) dX12_shifts_13 ?_
    refine ziast hx hb hK hw hS 0 rfl i1 rfl (by omega) (by omega) dX12_shifts_14 [(h1, .inl (ct 0, n1, .inl (upd (zsf f n i1) i1 ((zsf f n i1) (n + i1)))))] rfl (fun H locs hw hS => ?_)
    refine lv_iinc (v := nI (i1 + 1)) (lv' := [(2, .int (nI (i1 + 1))), (0, .ref h1), (1, .int (nI n))]) hx hb dX12_shifts_15 hl (k := 0) rfl (nI_add _ 1) (by decide) rfl (fun ls hl => ?_)
    refine lv_goto (tgt := 2) hx hb dX12_shifts_18 (by decide) ?_
    exact ih7 () (trivial) H locs ls (zcong (by (try dsimp only); rw [zsf_s _ (by assumption)]) (hw.sub (w0 := [(h1, .inl (ct 0, n1, .inl (upd (zsf f n i1) i1 ((zsf f n i1) (n + i1)))))]) [0] rfl rfl)) hS (lv_sub hl [0, 1, 2] rfl)

set_option maxHeartbeats 4000000 in
set_option maxRecDepth 100000 in
/-- shiftsNames -/
theorem c_shiftsN (l : Launch) (D : va_G) (ct : Nat → ClassId) (h1 : Nat) (f : Nat → Int64)  : zC l yX12_shiftsNames wsX12_shiftsNames ({ frames := 1, cells := 0, slots := 0, locals := 80 }) D ct [] [.ref h1] [(h1, .inl (ct 1, 12, .inr (.inl f)))] (S := Unit) (fun _ => none) (fun _ => True) (fun _ => [(h1, .inl (ct 1, 12, .inr (.inl (zsL f 6 6))))]) 0 0 := by
  refine zofW cX12_shiftsNames 2 none (by decide) rfl (Nat.le_of_ble_eq_true rfl) ?_
  intro p e s m below meth c A hx hb hr hml hts hown hlocks hname hK hA hZ hN H locs hw hS ls hl
  have hown : s.vm.findClass RX12 = some m.cls := hown
  have hl : lv_has ls 2 [(0, .ref h1)] := hl
  refine lv_iconst (v := 0) hx hb dX12_shiftsNames_0 (by decide) ?_
  refine lv_istore_n (lv' := [(1, .int 0), (0, .ref h1)]) hx hb dX12_shiftsNames_1 rfl hl (by decide) rfl (fun ls hl => ?_)
  refine zloop (σ := Unit) (nL := 2) (st := []) (fun i _ => True) (fun i _ => [(h1, .inl (ct 1, 12, .inr (.inl (zsL f 6 i))))]) (fun i _ => [(1, .int (nI i)), (0, .ref h1)]) (fun _ => 0) (fun _ => 0) 6 ?_ ?_ 0 () (Nat.zero_le _) (trivial) H locs ls (zcong (by (try dsimp only); rw [zsL_0]) (hw.sub (w0 := [(h1, .inl (ct 1, 12, .inr (.inl f)))]) [0] rfl rfl)) hS (lv_sub hl [0, 1] rfl)
  · intro x2 hI3 H locs ls hw hS hl
    have hw : zPD D A [(h1, .inl (ct 1, 12, .inr (.inl (zsL f 6 6))))] H := hw
    have hl : lv_has ls 2 [(1, .int (nI 6)), (0, .ref h1)] := hl
    refine lv_iload_n hx hb dX12_shiftsNames_2 rfl (lv_at hl 0 rfl) ?_
    refine lv_bipush (v := 6) hx hb dX12_shiftsNames_3 (by decide) ?_
    refine lv_icmp_ge (tgt := 23) hx hb dX12_shiftsNames_5 (by decide) (fun _ => ?_) (fun h => absurd (by decide) h)
    exact zvret hx hb hr hlocks () rfl (trivial) hw [0] rfl (rfl) hS (Nat.le_of_ble_eq_true rfl) (Nat.le_of_ble_eq_true rfl) dX12_shiftsNames_23
  · intro i1 x5 hlt8 hI6 ih7 H locs ls hw hS hl
    have hw : zPD D A [(h1, .inl (ct 1, 12, .inr (.inl (zsL f 6 i1))))] H := hw
    have hl : lv_has ls 2 [(1, .int (nI i1)), (0, .ref h1)] := hl
    refine lv_iload_n hx hb dX12_shiftsNames_2 rfl (lv_at hl 0 rfl) ?_
    refine lv_bipush (v := 6) hx hb dX12_shiftsNames_3 (by decide) ?_
    refine lv_icmp_ge (tgt := 23) hx hb dX12_shiftsNames_5 (by decide) (fun h => absurd h (nI_ge hlt8 (by decide))) (fun _ => ?_)
    refine lv_aload_n hx hb dX12_shiftsNames_8 rfl (lv_at hl 1 rfl) ?_
    refine lv_iload_n hx hb dX12_shiftsNames_9 rfl (lv_at hl 0 rfl) ?_
    refine lv_aload_n hx hb dX12_shiftsNames_10 rfl (lv_at hl 1 rfl) ?_
    refine lv_bipush (v := 6) hx hb dX12_shiftsNames_11 (by decide) ?_
    refine lv_iload_n hx hb dX12_shiftsNames_13 rfl (lv_at hl 0 rfl) ?_
    refine lv_iadd hx hb dX12_shiftsNames_14 ?_
    refine ztop (.int (nI (6 + i1))) (congrArg Value.int (nI_add _ _)) ?_
    refine zlald hx hb hK hw 0 rfl (6 + i1) rfl (by omega) (by omega) dX12_shiftsNames_15 ?_
    refine zlast hx hb hK hw hS 0 rfl i1 rfl (by omega) (by omega) dX12_shiftsNames_16 [(h1, .inl (ct 1, 12, .inr (.inl (vp_updL (zsL f 6 i1) i1 ((zsL f 6 i1) (6 + i1))))))] rfl (fun H locs hw hS => ?_)
    refine lv_iinc (v := nI (i1 + 1)) (lv' := [(1, .int (nI (i1 + 1))), (0, .ref h1)]) hx hb dX12_shiftsNames_17 hl (k := 0) rfl (nI_add _ 1) (by decide) rfl (fun ls hl => ?_)
    refine lv_goto (tgt := 2) hx hb dX12_shiftsNames_20 (by decide) ?_
    exact ih7 () (trivial) H locs ls (zcong (by (try dsimp only); rw [zsL_s _ (by assumption)]) (hw.sub (w0 := [(h1, .inl (ct 1, 12, .inr (.inl (vp_updL (zsL f 6 i1) i1 ((zsL f 6 i1) (6 + i1))))))]) [0] rfl rfl)) hS (lv_sub hl [0, 1] rfl)

set_option maxHeartbeats 4000000 in
set_option maxRecDepth 100000 in
/-! ===== rows of thirty-one: copied within their bounds ===== -/
theorem mcp_s {B : Int} {r : zRr} (h : mJ B r) {k a : Nat} (hk : (k = 33 ∨ k = 34) ∧ a = 0 ∨ (k = 35 ∨ k = 36) ∧ a % 31 = 0) : mJ 20 (zset r 32 (zcp (r k) (r 32) a 0 31)) := by
  have e : ∀ c j, c ≠ 32 → mhi 20 c j = mhi B c j := by
    intro c j hc
    unfold mhi
    split <;> first | rfl | exact absurd rfl hc
  have h20 : mI 20 (zset r 32 (zcp (r k) (r 32) a 0 31)) := by
    intro c j
    by_cases hc : c = 32
    · subst hc
      rw [zset_eq]
      show zI (mslo j) (mshi 20 j) (if 0 ≤ j ∧ j < 0 + 31 then r k (a + (j - 0)) else r 32 j)
      by_cases hj : j < 31
      · rw [if_pos ⟨Nat.zero_le _, by omega⟩]
        have e0 : j - 0 = j := rfl
        rw [e0]
        rcases hk with ⟨hk, rfl⟩ | ⟨hk, ha⟩
        · have e1 : 0 + j = j := by omega
          rw [e1]
          rcases hk with rfl | rfl <;> exact h.i _ j
        · have e1 : (a + j) % 31 = j := by omega
          rcases hk with rfl | rfl
          · have h9 : zI (mslo ((a + j) % 31)) (mshi 20 ((a + j) % 31)) (r 35 (a + j)) := h.i 35 (a + j)
            rw [e1] at h9; exact h9
          · have h9 : zI (mslo ((a + j) % 31)) (mshi 20 ((a + j) % 31)) (r 36 (a + j)) := h.i 36 (a + j)
            rw [e1] at h9; exact h9
      · rw [if_neg (by omega)]
        have e1 : mslo j = -2147483648 := by unfold mslo; repeat (rw [if_neg (by omega)])
        have e2 : mshi 20 j = 2147483647 := by unfold mshi; repeat (rw [if_neg (by omega)])
        rw [e1, e2]; exact zI.top _
    · rw [zset_ne hc, e c j hc]; exact h.i c j
  have h1 : mJ 20 (zset r 32 (zcp (r k) (r 32) a 0 31)) ∨ True := Or.inr trivial
  obtain ⟨b1, b2, b3, b4, b5, b6⟩ := h
  have n : ∀ c, c ≠ 32 → zset r 32 (zcp (r k) (r 32) a 0 31) c = r c := fun c hc => zset_ne hc
  refine ⟨by decide, by decide, h20, ?_, ?_, ?_⟩
  · show mDf _ _ _
    rw [n 12 (by decide), n 10 (by decide), n 11 (by decide)]; exact b4
  · intro b j
    rw [n 25 (by decide), n 26 (by decide), n 28 (by decide)]; exact b5 b j
  · show _ → _
    rw [n 1 (by decide)]; exact b6
theorem mcp_o {r : zRr} (h : mJ 20 r) {k b : Nat} (hk : (k = 33 ∨ k = 34) ∧ b = 0 ∨ (k = 35 ∨ k = 36) ∧ b % 31 = 0) (hf : mfree k = true) : mJ 20 (zset r k (zcp (r 32) (r k) 0 b 31)) := by
  refine h.setr hf (fun j => ?_)
  show zI _ _ (if b ≤ j ∧ j < b + 31 then r 32 (0 + (j - b)) else r k j)
  by_cases hj : b ≤ j ∧ j < b + 31
  · rw [if_pos hj]
    have e0 : 0 + (j - b) = j - b := by omega
    rw [e0]
    rcases hk with ⟨hk, rfl⟩ | ⟨hk, hb⟩
    · have e1 : j - 0 = j := rfl
      rw [e1]
      rcases hk with rfl | rfl <;> exact h.i 32 j
    · have e1 : j % 31 = j - b := by omega
      rcases hk with rfl | rfl
      · show zI (mslo (j % 31)) (mshi 20 (j % 31)) _
        rw [e1]; exact h.i 32 (j - b)
      · show zI (mslo (j % 31)) (mshi 20 (j % 31)) _
        rw [e1]; exact h.i 32 (j - b)
  · rw [if_neg hj]; exact h.i k j
theorem zn31 {x : Int32} {b : Int} (h : zI 0 b x) (k : b ≤ 15) : zn (31 * x) % 31 = 0 := by
  obtain ⟨h1, h2⟩ := h
  have e : (31 * x).toInt = 31 * x.toInt := by
    have e1 : (31 : Int32).toInt = 31 := by decide
    rw [Jvm.Kit.i32_mul (by rw [e1]; omega) (by rw [e1]; omega), e1]
  unfold zn; rw [e]; omega
theorem mund {B : Int} {i v : Int32} (hi : zI 0 464 i) (h : zI (mlo 36 (zn (i + 31))) (mhi B 36 (zn (i + 31))) v) : zI (mlo 36 (zn i)) (mhi B 36 (zn i)) v := by
  obtain ⟨h1, h2⟩ := hi
  have e : (i + 31).toInt = i.toInt + 31 := by
    have e1 : (31 : Int32).toInt = 31 := by decide
    rw [Jvm.Kit.i32_add (by rw [e1]; omega) (by rw [e1]; omega), e1]
  have e2 : zn (i + 31) % 31 = zn i % 31 := by unfold zn; rw [e]; omega
  have h9 : zI (mslo (zn (i + 31) % 31)) (mshi 20 (zn (i + 31) % 31)) v := h
  rw [e2] at h9; exact h9
