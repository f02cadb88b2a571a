set_option maxHeartbeats 4000000 in
set_option maxRecDepth 100000 in
/-- copies: thirty-one places of one row into another -/
theorem c_copies (l : Launch) (D : va_G) (ct : Nat → ClassId) (h1 : Nat) (a : Nat) (h2 : Nat) (b : Nat) (n1 : Nat) (n2 : Nat) (f : Nat → Int32) (g : Nat → Int32) (ha : a + 31 ≤ n1) (hb1 : b + 31 ≤ n2) (hn1 : n1 < 2 ^ 31) (hn2 : n2 < 2 ^ 31) : zC l yX12_copies wsX12_copies ({ frames := 1, cells := 0, slots := 0, locals := 80 }) D ct [] [.ref h1, .int (nI a), .ref h2, .int (nI b)] [(h1, .inl (ct 0, n1, .inl f)), (h2, .inl (ct 0, n2, .inl g))] (S := Unit) (fun _ => none) (fun _ => True) (fun _ => [(h1, .inl (ct 0, n1, .inl f)), (h2, .inl (ct 0, n2, .inl (zcp f g a b 31)))]) 0 0 := by
  refine zofW cX12_copies 5 none (by decide) rfl (Nat.le_of_ble_eq_true rfl) ?_
  intro p e s m below meth c A hx hb hr hml hts hown hlocks hname hK hA hZ hN H locs hw hS ls hl
  have hown : s.vm.findClass RX12 = some m.cls := hown
  have hl : lv_has ls 5 [(0, .ref h1), (1, .int (nI a)), (2, .ref h2), (3, .int (nI b))] := hl
  refine lv_iconst (v := 0) hx hb dX12_copies_0 (by decide) ?_
  refine lv_istore (lv' := [(4, .int 0), (0, .ref h1), (1, .int (nI a)), (2, .ref h2), (3, .int (nI b))]) hx hb dX12_copies_1 hl (by decide) rfl (fun ls hl => ?_)
  refine zloop (σ := Unit) (nL := 5) (st := []) (fun i _ => True) (fun i _ => [(h1, .inl (ct 0, n1, .inl f)), (h2, .inl (ct 0, n2, .inl (zcp f g a b i)))]) (fun i _ => [(4, .int (nI i)), (0, .ref h1), (1, .int (nI a)), (2, .ref h2), (3, .int (nI b))]) (fun _ => 0) (fun _ => 0) 31 ?_ ?_ 0 () (Nat.zero_le _) (trivial) H locs ls (zcong (by (try dsimp only); rw [zcp_0]) (hw.sub (w0 := [(h1, .inl (ct 0, n1, .inl f)), (h2, .inl (ct 0, n2, .inl g))]) [0, 1] rfl rfl)) hS (lv_sub hl [0, 1, 2, 3, 4] rfl)
  · intro x2 hI3 H locs ls hw hS hl
    have hw : zPD D A [(h1, .inl (ct 0, n1, .inl f)), (h2, .inl (ct 0, n2, .inl (zcp f g a b 31)))] H := hw
    have hl : lv_has ls 5 [(4, .int (nI 31)), (0, .ref h1), (1, .int (nI a)), (2, .ref h2), (3, .int (nI b))] := hl
    refine lv_iload hx hb dX12_copies_3 (lv_at hl 0 rfl) ?_
    refine lv_bipush (v := 31) hx hb dX12_copies_5 (by decide) ?_
    refine lv_icmp_ge (tgt := 28) hx hb dX12_copies_7 (by decide) (fun _ => ?_) (fun h => absurd (by decide) h)
    exact zvret hx hb hr hlocks () rfl (trivial) hw [0, 1] rfl (rfl) hS (Nat.le_of_ble_eq_true rfl) (Nat.le_of_ble_eq_true rfl) dX12_copies_28
  · intro i1 x5 hlt8 hI6 ih7 H locs ls hw hS hl
    have hw : zPD D A [(h1, .inl (ct 0, n1, .inl f)), (h2, .inl (ct 0, n2, .inl (zcp f g a b i1)))] H := hw
    have hl : lv_has ls 5 [(4, .int (nI i1)), (0, .ref h1), (1, .int (nI a)), (2, .ref h2), (3, .int (nI b))] := hl
    refine lv_iload hx hb dX12_copies_3 (lv_at hl 0 rfl) ?_
    refine lv_bipush (v := 31) hx hb dX12_copies_5 (by decide) ?_
    refine lv_icmp_ge (tgt := 28) hx hb dX12_copies_7 (by decide) (fun h => absurd h (nI_ge hlt8 (by decide))) (fun _ => ?_)
    refine lv_aload_n hx hb dX12_copies_10 rfl (lv_at hl 3 rfl) ?_
    refine lv_iload_n hx hb dX12_copies_11 rfl (lv_at hl 4 rfl) ?_
    refine lv_iload hx hb dX12_copies_12 (lv_at hl 0 rfl) ?_
    refine lv_iadd hx hb dX12_copies_14 ?_
    refine ztop (.int (nI (b + i1))) (congrArg Value.int (nI_add _ _)) ?_
    refine lv_aload_n hx hb dX12_copies_15 rfl (lv_at hl 1 rfl) ?_
    refine lv_iload_n hx hb dX12_copies_16 rfl (lv_at hl 2 rfl) ?_
    refine lv_iload hx hb dX12_copies_17 (lv_at hl 0 rfl) ?_
    refine lv_iadd hx hb dX12_copies_19 ?_
    refine ztop (.int (nI (a + i1))) (congrArg Value.int (nI_add _ _)) ?_
    refine ziald hx hb hK hw 0 rfl (a + i1) rfl (by omega) hn1 dX12_copies_20 ?_
    refine ziast hx hb hK hw hS 1 rfl (b + i1) rfl (by omega) hn2 dX12_copies_21 [(h1, .inl (ct 0, n1, .inl f)), (h2, .inl (ct 0, n2, .inl (upd (zcp f g a b i1) (b + i1) (f (a + i1)))))] rfl (fun H locs hw hS => ?_)
    refine lv_iinc (v := nI (i1 + 1)) (lv' := [(4, .int (nI (i1 + 1))), (0, .ref h1), (1, .int (nI a)), (2, .ref h2), (3, .int (nI b))]) hx hb dX12_copies_22 hl (k := 0) rfl (nI_add _ 1) (by decide) rfl (fun ls hl => ?_)
    refine lv_goto (tgt := 3) hx hb dX12_copies_25 (by decide) ?_
    exact ih7 () (trivial) H locs ls (zcong (by (try dsimp only); rw [zcp_s]) (hw.sub (w0 := [(h1, .inl (ct 0, n1, .inl f)), (h2, .inl (ct 0, n2, .inl (upd (zcp f g a b i1) (b + i1) (f (a + i1)))))]) [0, 1] rfl rfl)) hS (lv_sub hl [0, 1, 2, 3, 4] rfl)

set_option maxHeartbeats 4000000 in
set_option maxRecDepth 100000 in
/-- shifts: the second half onto the first -/
theorem c_shifts (l : Launch) (D : va_G) (ct : Nat → ClassId) (h1 : Nat) (n : Nat) (n1 : Nat) (f : Nat → Int32) (ha : n + n ≤ n1) (hn1 : n1 < 65536) : zC l yX12_shifts wsX12_shifts ({ frames := 1, cells := 0, slots := 0, locals := 80 }) D ct [] [.ref h1, .int (nI n)] [(h1, .inl (ct 0, n1, .inl f))] (S := Unit) (fun _ => none) (fun _ => True) (fun _ => [(h1, .inl (ct 0, n1, .inl (zsf f n n)))]) 0 0 := by
  refine zofW cX12_shifts 3 none (by decide) rfl (Nat.le_of_ble_eq_true rfl) ?_
  intro p e s m below meth c A hx hb hr hml hts hown hlocks hname hK hA hZ hN H locs hw hS ls hl
  have hown : s.vm.findClass RX12 = some m.cls := hown
  have hl : lv_has ls 3 [(0, .ref h1), (1, .int (nI n))] := hl
  refine lv_iconst (v := 0) hx hb dX12_shifts_0 (by decide) ?_
  refine lv_istore_n (lv' := [(2, .int 0), (0, .ref h1), (1, .int (nI n))]) hx hb dX12_shifts_1 rfl hl (by decide) rfl (fun ls hl => ?_)
  refine zloop (σ := Unit) (nL := 3) (st := []) (fun i _ => True) (fun i _ => [(h1, .inl (ct 0, n1, .inl (zsf f n i)))]) (fun i _ => [(2, .int (nI i)), (0, .ref h1), (1, .int (nI n))]) (fun _ => 0) (fun _ => 0) n ?_ ?_ 0 () (Nat.zero_le _) (trivial) H locs ls (zcong (by (try dsimp only); rw [zsf_0]) (hw.sub (w0 := [(h1, .inl (ct 0, n1, .inl f))]) [0] rfl rfl)) hS (lv_sub hl [0, 1, 2] rfl)
  · intro x2 hI3 H locs ls hw hS hl
    have hw : zPD D A [(h1, .inl (ct 0, n1, .inl (zsf f n n)))] H := hw
    have hl : lv_has ls 3 [(2, .int (nI n)), (0, .ref h1), (1, .int (nI n))] := hl
    refine lv_iload_n hx hb dX12_shifts_2 rfl (lv_at hl 0 rfl) ?_
    refine lv_iload_n hx hb dX12_shifts_3 rfl (lv_at hl 2 rfl) ?_
    refine lv_icmp_ge (tgt := 21) hx hb dX12_shifts_4 (by decide) (fun _ => ?_) (fun h => absurd (nI_le (Nat.le_refl n) (by omega)) h)
    exact zvret hx hb hr hlocks () rfl (trivial) hw [0] rfl (rfl) hS (Nat.le_of_ble_eq_true rfl) (Nat.le_of_ble_eq_true rfl) dX12_shifts_21
  · intro i1 x5 hlt8 hI6 ih7 H locs ls hw hS hl
    have hw : zPD D A [(h1, .inl (ct 0, n1, .inl (zsf f n i1)))] H := hw
    have hl : lv_has ls 3 [(2, .int (nI i1)), (0, .ref h1), (1, .int (nI n))] := hl
    refine lv_iload_n hx hb dX12_shifts_2 rfl (lv_at hl 0 rfl) ?_
    refine lv_iload_n hx hb dX12_shifts_3 rfl (lv_at hl 2 rfl) ?_
    refine lv_icmp_ge (tgt := 21) hx hb dX12_shifts_4 (by decide) (fun h => absurd h (nI_ge hlt8 (by omega))) (fun _ => ?_)
    refine lv_aload_n hx hb dX12_shifts_7 rfl (lv_at hl 1 rfl) ?_
    refine lv_iload_n hx hb dX12_shifts_8 rfl (lv_at hl 0 rfl) ?_
    refine lv_aload_n hx hb dX12_shifts_9 rfl (lv_at hl 1 rfl) ?_
    refine lv_iload_n hx hb dX12_shifts_10 rfl (lv_at hl 2 rfl) ?_
    refine lv_iload_n hx hb dX12_shifts_11 rfl (lv_at hl 0 rfl) ?_
    refine lv_iadd hx hb dX12_shifts_12 ?_
    refine ztop (.int (nI (n + i1))) (congrArg Value.int (nI_add _ _)) ?_
    refine ziald hx hb hK hw 0 rfl (n + i1) rfl (by omega) (by omega) dX12_shifts_13 ?_
    refine ziast hx hb hK hw hS 0 rfl i1 rfl (by omega) (by omega) dX12_shifts_14 [(h1, .inl (ct 0, n1, .inl (upd (zsf f n i1) i1 ((zsf f n i1) (n + i1)))))] rfl (fun H locs hw hS => ?_)
    refine lv_iinc (v := nI (i1 + 1)) (lv' := [(2, .int (nI (i1 + 1))), (0, .ref h1), (1, .int (nI n))]) hx hb dX12_shifts_15 hl (k := 0) rfl (nI_add _ 1) (by decide) rfl (fun ls hl => ?_)
    refine lv_goto (tgt := 2) hx hb dX12_shifts_18 (by decide) ?_
    exact ih7 () (trivial) H locs ls (zcong (by (try dsimp only); rw [zsf_s _ (by assumption)]) (hw.sub (w0 := [(h1, .inl (ct 0, n1, .inl (upd (zsf f n i1) i1 ((zsf f n i1) (n + i1)))))]) [0] rfl rfl)) hS (lv_sub hl [0, 1, 2] rfl)

set_option maxHeartbeats 4000000 in
set_option maxRecDepth 100000 in
/-- shiftsNames -/
theorem c_shiftsN (l : Launch) (D : va_G) (ct : Nat → ClassId) (h1 : Nat) (f : Nat → Int64)  : zC l yX12_shiftsNames wsX12_shiftsNames ({ frames := 1, cells := 0, slots := 0, locals := 80 }) D ct [] [.ref h1] [(h1, .inl (ct 1, 12, .inr (.inl f)))] (S := Unit) (fun _ => none) (fun _ => True) (fun _ => [(h1, .inl (ct 1, 12, .inr (.inl (zsL f 6 6))))]) 0 0 := by
  refine zofW cX12_shiftsNames 2 none (by decide) rfl (Nat.le_of_ble_eq_true rfl) ?_
  intro p e s m below meth c A hx hb hr hml hts hown hlocks hname hK hA hZ hN H locs hw hS ls hl
  have hown : s.vm.findClass RX12 = some m.cls := hown
  have hl : lv_has ls 2 [(0, .ref h1)] := hl
  refine lv_iconst (v := 0) hx hb dX12_shiftsNames_0 (by decide) ?_
  refine lv_istore_n (lv' := [(1, .int 0), (0, .ref h1)]) hx hb dX12_shiftsNames_1 rfl hl (by decide) rfl (fun ls hl => ?_)
  refine zloop (σ := Unit) (nL := 2) (st := []) (fun i _ => True) (fun i _ => [(h1, .inl (ct 1, 12, .inr (.inl (zsL f 6 i))))]) (fun i _ => [(1, .int (nI i)), (0, .ref h1)]) (fun _ => 0) (fun _ => 0) 6 ?_ ?_ 0 () (Nat.zero_le _) (trivial) H locs ls (zcong (by (try dsimp only); rw [zsL_0]) (hw.sub (w0 := [(h1, .inl (ct 1, 12, .inr (.inl f)))]) [0] rfl rfl)) hS (lv_sub hl [0, 1] rfl)
  · intro x2 hI3 H locs ls hw hS hl
    have hw : zPD D A [(h1, .inl (ct 1, 12, .inr (.inl (zsL f 6 6))))] H := hw
    have hl : lv_has ls 2 [(1, .int (nI 6)), (0, .ref h1)] := hl
    refine lv_iload_n hx hb dX12_shiftsNames_2 rfl (lv_at hl 0 rfl) ?_
    refine lv_bipush (v := 6) hx hb dX12_shiftsNames_3 (by decide) ?_
    refine lv_icmp_ge (tgt := 23) hx hb dX12_shiftsNames_5 (by decide) (fun _ => ?_) (fun h => absurd (by decide) h)
    exact zvret hx hb hr hlocks () rfl (trivial) hw [0] rfl (rfl) hS (Nat.le_of_ble_eq_true rfl) (Nat.le_of_ble_eq_true rfl) dX12_shiftsNames_23
  · intro i1 x5 hlt8 hI6 ih7 H locs ls hw hS hl
    have hw : zPD D A [(h1, .inl (ct 1, 12, .inr (.inl (zsL f 6 i1))))] H := hw
    have hl : lv_has ls 2 [(1, .int (nI i1)), (0, .ref h1)] := hl
    refine lv_iload_n hx hb dX12_shiftsNames_2 rfl (lv_at hl 0 rfl) ?_
    refine lv_bipush (v := 6) hx hb dX12_shiftsNames_3 (by decide) ?_
    refine lv_icmp_ge (tgt := 23) hx hb dX12_shiftsNames_5 (by decide) (fun h => absurd h (nI_ge hlt8 (by decide))) (fun _ => ?_)
    refine lv_aload_n hx hb dX12_shiftsNames_8 rfl (lv_at hl 1 rfl) ?_
    refine lv_iload_n hx hb dX12_shiftsNames_9 rfl (lv_at hl 0 rfl) ?_
    refine lv_aload_n hx hb dX12_shiftsNames_10 rfl (lv_at hl 1 rfl) ?_
    refine lv_bipush (v := 6) hx hb dX12_shiftsNames_11 (by decide) ?_
    refine lv_iload_n hx hb dX12_shiftsNames_13 rfl (lv_at hl 0 rfl) ?_
    refine lv_iadd hx hb dX12_shiftsNames_14 ?_
    refine ztop (.int (nI (6 + i1))) (congrArg Value.int (nI_add _ _)) ?_
    refine zlald hx hb hK hw 0 rfl (6 + i1) rfl (by omega) (by omega) dX12_shiftsNames_15 ?_
    refine zlast hx hb hK hw hS 0 rfl i1 rfl (by omega) (by omega) dX12_shiftsNames_16 [(h1, .inl (ct 1, 12, .inr (.inl (vp_updL (zsL f 6 i1) i1 ((zsL f 6 i1) (6 + i1))))))] rfl (fun H locs hw hS => ?_)
    refine lv_iinc (v := nI (i1 + 1)) (lv' := [(1, .int (nI (i1 + 1))), (0, .ref h1)]) hx hb dX12_shiftsNames_17 hl (k := 0) rfl (nI_add _ 1) (by decide) rfl (fun ls hl => ?_)
    refine lv_goto (tgt := 2) hx hb dX12_shiftsNames_20 (by decide) ?_
    exact ih7 () (trivial) H locs ls (zcong (by (try dsimp only); rw [zsL_s _ (by assumption)]) (hw.sub (w0 := [(h1, .inl (ct 1, 12, .inr (.inl (vp_updL (zsL f 6 i1) i1 ((zsL f 6 i1) (6 + i1))))))]) [0] rfl rfl)) hS (lv_sub hl [0, 1] rfl)

set_option maxHeartbeats 4000000 in
set_option maxRecDepth 100000 in
/-! ===== rows of thirty-one: copied within their bounds ===== -/
theorem mcp_s {B : Int} {r : zRr} (h : mJ B r) {k a : Nat} (hk : (k = 33 ∨ k = 34) ∧ a = 0 ∨ (k = 35 ∨ k = 36) ∧ a % 31 = 0) : mJ 20 (zset r 32 (zcp (r k) (r 32) a 0 31)) := by
  have e : ∀ c j, c ≠ 32 → mhi 20 c j = mhi B c j := by
    intro c j hc
    unfold mhi
    split <;> first | rfl | exact absurd rfl hc
  have h20 : mI 20 (zset r 32 (zcp (r k) (r 32) a 0 31)) := by
    intro c j
    by_cases hc : c = 32
    · subst hc
      rw [zset_eq]
      show zI (mslo j) (mshi 20 j) (if 0 ≤ j ∧ j < 0 + 31 then r k (a + (j - 0)) else r 32 j)
      by_cases hj : j < 31
      · rw [if_pos ⟨Nat.zero_le _, by omega⟩]
        have e0 : j - 0 = j := rfl
        rw [e0]
        rcases hk with ⟨hk, rfl⟩ | ⟨hk, ha⟩
        · have e1 : 0 + j = j := by omega
          rw [e1]
          rcases hk with rfl | rfl <;> exact h.i _ j
        · have e1 : (a + j) % 31 = j := by omega
          rcases hk with rfl | rfl
          · have h9 : zI (mslo ((a + j) % 31)) (mshi 20 ((a + j) % 31)) (r 35 (a + j)) := h.i 35 (a + j)
            rw [e1] at h9; exact h9
          · have h9 : zI (mslo ((a + j) % 31)) (mshi 20 ((a + j) % 31)) (r 36 (a + j)) := h.i 36 (a + j)
            rw [e1] at h9; exact h9
      · rw [if_neg (by omega)]
        have e1 : mslo j = -2147483648 := by unfold mslo; repeat (rw [if_neg (by omega)])
        have e2 : mshi 20 j = 2147483647 := by unfold mshi; repeat (rw [if_neg (by omega)])
        rw [e1, e2]; exact zI.top _
    · rw [zset_ne hc, e c j hc]; exact h.i c j
  have h1 : mJ 20 (zset r 32 (zcp (r k) (r 32) a 0 31)) ∨ True := Or.inr trivial
  obtain ⟨b1, b2, b3, b4, b5, b6⟩ := h
  have n : ∀ c, c ≠ 32 → zset r 32 (zcp (r k) (r 32) a 0 31) c = r c := fun c hc => zset_ne hc
  refine ⟨by decide, by decide, h20, ?_, ?_, ?_⟩
  · show mDf _ _ _
    rw [n 12 (by decide), n 10 (by decide), n 11 (by decide)]; exact b4
  · intro b j
    rw [n 25 (by decide), n 26 (by decide), n 28 (by decide)]; exact b5 b j
  · show _ → _
    rw [n 1 (by decide)]; exact b6
theorem mcp_o {r : zRr} (h : mJ 20 r) {k b : Nat} (hk : (k = 33 ∨ k = 34) ∧ b = 0 ∨ (k = 35 ∨ k = 36) ∧ b % 31 = 0) (hf : mfree k = true) : mJ 20 (zset r k (zcp (r 32) (r k) 0 b 31)) := by
  refine h.setr hf (fun j => ?_)
  show zI _ _ (if b ≤ j ∧ j < b + 31 then r 32 (0 + (j - b)) else r k j)
  by_cases hj : b ≤ j ∧ j < b + 31
  · rw [if_pos hj]
    have e0 : 0 + (j - b) = j - b := by omega
    rw [e0]
    rcases hk with ⟨hk, rfl⟩ | ⟨hk, hb⟩
    · have e1 : j - 0 = j := rfl
      rw [e1]
      rcases hk with rfl | rfl <;> exact h.i 32 j
    · have e1 : j % 31 = j - b := by omega
      rcases hk with rfl | rfl
      · show zI (mslo (j % 31)) (mshi 20 (j % 31)) _
        rw [e1]; exact h.i 32 (j - b)
      · show zI (mslo (j % 31)) (mshi 20 (j % 31)) _
        rw [e1]; exact h.i 32 (j - b)
  · rw [if_neg hj]; exact h.i k j
theorem zn31 {x : Int32} {b : Int} (h : zI 0 b x) (k : b ≤ 15) : zn (31 * x) % 31 = 0 := by
  obtain ⟨h1, h2⟩ := h
  have e : (31 * x).toInt = 31 * x.toInt := by
    have e1 : (31 : Int32).toInt = 31 := by decide
    rw [Jvm.Kit.i32_mul (by rw [e1]; omega) (by rw [e1]; omega), e1]
  unfold zn; rw [e]; omega
theorem mund {B : Int} {i v : Int32} (hi : zI 0 464 i) (h : zI (mlo 36 (zn (i + 31))) (mhi B 36 (zn (i + 31))) v) : zI (mlo 36 (zn i)) (mhi B 36 (zn i)) v := by
  obtain ⟨h1, h2⟩ := hi
  have e : (i + 31).toInt = i.toInt + 31 := by
    have e1 : (31 : Int32).toInt = 31 := by decide
    rw [Jvm.Kit.i32_add (by rw [e1]; omega) (by rw [e1]; omega), e1]
  have e2 : zn (i + 31) % 31 = zn i % 31 := by unfold zn; rw [e]; omega
  have h9 : zI (mslo (zn (i + 31) % 31)) (mshi 20 (zn (i + 31) % 31)) v := h
  rw [e2] at h9; exact h9
/-! ===== how deep an E is while it is worked ===== -/
noncomputable def lev (b : Nat → Int32) : List Bool → Prop
  | [] => True
  | x :: g => (b (g.length + 1) = 1 ↔ x = true) ∧ lev b g
theorem lev.congr {b b' : Nat → Int32} : ∀ {g : List Bool}, (∀ i, i ≤ g.length → b' i = b i) → lev b g → lev b' g
  | [], _, _ => trivial
  | x :: g, h, hl => by
    refine ⟨?_, lev.congr (fun i hi => h i (by simp only [List.length_cons]; omega)) hl.2⟩
    rw [h (g.length + 1) (by simp)]; exact hl.1
noncomputable def mG (b : Nat → Int32) (d : Int32) (g : List Bool) : Prop := (0 ≤ d.toInt ∧ zn d = g.length ∧ g.length ≤ 5) ∧ lev b g
theorem mG.nil {b : Nat → Int32} : mG b 0 [] := ⟨⟨by decide, by decide, by decide⟩, trivial⟩
theorem mG.row {b b' : Nat → Int32} {d : Int32} {g : List Bool} (h : mG b d g) (e : b' = b) : mG b' d g := e ▸ h
theorem mG.to {b : Nat → Int32} {d : Int32} {g g' : List Bool} (h : mG b d g) (e : g' = g) : mG b d g' := e ▸ h
theorem zn_s {k : Int32} {a b : Int} (h : zI a b k) (hk : 0 ≤ a ∧ b < 2147483647) : zn (k + 1) = zn k + 1 := by
  obtain ⟨h1, h2⟩ := h
  have e1 : (1 : Int32).toInt = 1 := by decide
  unfold zn
  rw [Jvm.Kit.i32_add (by rw [e1]; omega) (by rw [e1]; omega), e1]; omega
theorem mG.b4 {b : Nat → Int32} {d : Int32} {g : List Bool} (h : mG b d g) (hl : g.length ≤ 4) : zI 0 4 d := by
  obtain ⟨⟨h1, h2, h3⟩, -⟩ := h
  unfold zn at h2; constructor <;> omega
theorem mG.b1 {b : Nat → Int32} {d : Int32} {g : List Bool} (h : mG b d g) (hl : 1 ≤ g.length) : zI 1 5 d := by
  obtain ⟨⟨h1, h2, h3⟩, -⟩ := h
  unfold zn at h2; constructor <;> omega
theorem mG.push {b : Nat → Int32} {d : Int32} {g : List Bool} (h : mG b d g) (hl : g.length ≤ 4) {v : Int32} {x : Bool} (hx : v = 1 ↔ x = true) : mG (upd b (zn (d + 1)) v) (d + 1) (x :: g) := by
  have e := zn_s (h.b4 hl) (by decide)
  obtain ⟨⟨h1, h2, h3⟩, h4⟩ := h
  have e2 : zn (d + 1) = g.length + 1 := by omega
  refine ⟨⟨?_, ?_, ?_⟩, ?_, ?_⟩
  · unfold zn at e2; omega
  · rw [e2]; rfl
  · simp only [List.length_cons]; omega
  · rw [e2, pk_us]; exact hx
  · exact lev.congr (fun i hi => pk_un (by omega)) h4
theorem mG.pop1 {b : Nat → Int32} {d : Int32} {g : List Bool} (h : mG b d g) (hl : 1 ≤ g.length) : mG b (d + (-1)) g.tail := by
  have h5 := h.b1 hl
  obtain ⟨⟨h1, h2, h3⟩, h4⟩ := h
  have e1 : (-1 : Int32).toInt = -1 := by decide
  have e : (d + (-1)).toInt = d.toInt - 1 := by
    obtain ⟨q1, q2⟩ := h5
    rw [Jvm.Kit.i32_add (by rw [e1]; omega) (by rw [e1]; omega), e1]; omega
  cases g with
  | nil => simp at hl
  | cons x g =>
    simp only [List.length_cons] at h2 h3
    unfold zn at h2
    refine ⟨⟨by omega, ?_, ?_⟩, h4.2⟩
    · unfold zn; rw [e]; simp only [List.tail_cons]; omega
    · simp only [List.tail_cons]; omega
theorem xG.back {b : Nat → Int32} {d : Int32} {T : List Bool} (h : ∃ g, mG b d g ∧ g.dropWhile id = T) (h0 : (0 : Int32) < d) (h1 : b (zn d) = 1) : ∃ g, mG b (d + (-1)) g ∧ g.dropWhile id = T := by
  obtain ⟨g, hg, ht⟩ := h
  have hd := Int32.lt_iff_toInt_lt.mp h0
  have e0 : (0 : Int32).toInt = 0 := by decide
  have h2 := hg.1.2.1
  cases g with
  | nil => simp only [List.length_nil] at h2; unfold zn at h2; omega
  | cons x g =>
    refine ⟨g, hg.pop1 (by simp), ?_⟩
    rw [h2] at h1
    have hx : x = true := hg.2.1.mp h1
    rw [← ht, hx]; rfl
theorem xG.exit0 {b : Nat → Int32} {d : Int32} {T : List Bool} (h : ∃ g, mG b d g ∧ g.dropWhile id = T) (h0 : d ≤ (0 : Int32)) : mG b d T := by
  obtain ⟨g, hg, ht⟩ := h
  have hd := Int32.le_iff_toInt_le.mp h0
  have e0 : (0 : Int32).toInt = 0 := by decide
  have h2 := hg.1.2.1
  cases g with
  | nil => rw [← ht]; exact hg
  | cons x g => simp only [List.length_cons] at h2; unfold zn at h2; omega
theorem xG.exit1 {b : Nat → Int32} {d : Int32} {T : List Bool} (h : ∃ g, mG b d g ∧ g.dropWhile id = T) (h1 : ¬ b (zn d) = 1) : mG b d T := by
  obtain ⟨g, hg, ht⟩ := h
  have h2 := hg.1.2.1
  cases g with
  | nil => rw [← ht]; exact hg
  | cons x g =>
    rw [h2] at h1
    have hx : x = false := by
      cases x with
      | false => rfl
      | true => exact absurd (hg.2.1.mpr rfl) h1
    rw [← ht, hx]; rw [hx] at hg; exact hg
noncomputable def mgt (r : zRr) (k : Nat) : List Bool := mrun (r 12) (zn (r 10 0)) (k - zn (r 10 0))
theorem mgt_0 {r : zRr} {k : Nat} (h : k = zn (r 10 0)) : mgt r k = [] := by
  subst h; unfold mgt; rw [Nat.sub_self]; rfl
theorem mgt_s {r : zRr} {k : Nat} (h : zn (r 10 0) ≤ k) : mgt r (k + 1) = mst (r 12 k) (mgt r k) := by
  unfold mgt
  have e : k + 1 - zn (r 10 0) = (k - zn (r 10 0)) + 1 := by omega
  rw [e]
  show mst (r 12 (zn (r 10 0) + (k - zn (r 10 0)))) _ = _
  rw [show zn (r 10 0) + (k - zn (r 10 0)) = k by omega]
theorem mgt_ok {B : Int} {r : zRr} (h : mJ B r) {k : Nat} (h1 : zn (r 10 0) ≤ k) (h2 : k < zn (r 11 0)) : mok (r 12 k) (mgt r k) := by
  have h3 : mD r := h.2.2.2.1
  have h4 := h3 (k - zn (r 10 0)) (by omega)
  rw [show zn (r 10 0) + (k - zn (r 10 0)) = k by omega] at h4
  exact h4
theorem zn_lt {x y : Int32} (h : x < y) {a b : Int} (hx : zI a b x) (k : 0 ≤ a) : zn x < zn y := by
  have h := Int32.lt_iff_toInt_lt.mp h
  obtain ⟨h1, h2⟩ := hx
  unfold zn; omega
theorem mst_28 {c : Int32} {g : List Bool} (h : c = 28) : mst c g = false :: g := by unfold mst; rw [if_pos h]
theorem mst_30 {c : Int32} {g : List Bool} (h : c = 30) : mst c g = true :: g := by subst h; rfl
theorem mst_k {c : Int32} {g : List Bool} (h : c = 20 ∨ c = 21 ∨ c = 22 ∨ c = 24 ∨ c = 25 ∨ c = 26 ∨ c = 27) : mst c g = g := by
  rcases h with h | h | h | h | h | h | h <;> subst h <;> rfl
theorem mst_29 {c : Int32} {g : List Bool} (h : c = 29) : mst c g = g.tail.dropWhile id := by subst h; rfl
theorem mst_v {c : Int32} {g : List Bool} (h1 : ¬ c = 28) (h2 : ¬ c = 30) (h3 : ¬ c = 20) (h4 : ¬ c = 21) (h5 : ¬ c = 22) (h6 : ¬ c = 24) (h7 : ¬ c = 25) (h8 : ¬ c = 26) (h9 : ¬ c = 27) (h10 : ¬ c = 29) : mst c g = g.dropWhile id := by
  unfold mst
  rw [if_neg h1, if_neg h2, if_neg (by rintro (h | h | h | h | h | h | h) <;> contradiction), if_neg h10]
theorem zs_row {r r1 : zRr} {k0 k : Nat} {g : Nat → Int32} (e : r1 = zset r k0 g) (hk : k ≠ k0) : r1 k = r k := by rw [e, zset_ne hk]
theorem zs_self {r r1 : zRr} {k : Nat} {g : Nat → Int32} (e : r1 = zset r k g) : r1 k = g := by rw [e, zset_eq]
theorem mJ.bto {B B1 : Int} {r : zRr} (h : mJ B r) (e : B1 = B) : mJ B1 r := e ▸ h
theorem i32_s {w : Int32} {a b : Int} (h : zI a b w) (k : b < 2147483647) : (w + 1).toInt = w.toInt + 1 := by
  obtain ⟨h1, h2⟩ := h
  have e1 : (1 : Int32).toInt = 1 := by decide
  have h3 := Int32.le_toInt w
  rw [Jvm.Kit.i32_add (by rw [e1]; omega) (by rw [e1]; omega), e1]
theorem mJ.nx {w : Int32} {r : zRr} {a b : Int} (h : mJ (20 + w.toInt + 1) r) (hw : zI a b w) (k : b < 2147483647) : mJ (20 + (w + 1).toInt) r := h.bto (by rw [i32_s hw k]; omega)
theorem mJ.inc {B : Int} {r : zRr} (h : mJ B r) (hB : B ≤ 40) {i : Int32} (hi : zI 13 18 i) : mJ (B + 1) (zset r 32 (upd (r 32) (zn i) (r 32 (zn i) + 1))) := by
  have e : ∀ c j, c ≠ 32 → mhi (B + 1) c j = mhi B c j := by
    intro c j hc
    unfold mhi
    split <;> first | rfl | exact absurd rfl hc
  have h9 := hi.nn (by decide)
  have hm : ∀ j, mshi B j ≤ mshi (B + 1) j := by
    intro j
    unfold mshi
    repeat' split
    all_goals omega
  have hv : zI 0 (B + 1) (r 32 (zn i) + 1) := by
    have h8 : zI 0 B (r 32 (zn i)) := by
      rcases (show zn i = 13 ∨ zn i = 14 ∨ zn i = 15 ∨ zn i = 16 ∨ zn i = 17 ∨ zn i = 18 by omega) with e | e | e | e | e | e <;> rw [e] <;> exact h.i 32 _
    have e2 := i32_s (h8.w (c := 0) (d := 41) ⟨by decide, h.b.2⟩) (by decide)
    obtain ⟨q1, q2⟩ := h8
    constructor <;> omega
  obtain ⟨b1, b2, b3, b4, b5, b6⟩ := h
  have n : ∀ c, c ≠ 32 → zset r 32 (upd (r 32) (zn i) (r 32 (zn i) + 1)) c = r c := fun c hc => zset_ne hc
  refine ⟨by omega, by omega, ?_, ?_, ?_, ?_⟩
  · intro c j
    by_cases hc : c = 32
    · subst hc
      rw [zset_eq]
      by_cases hj : j = zn i
      · subst hj
        rw [pk_us]
        rcases (show zn i = 13 ∨ zn i = 14 ∨ zn i = 15 ∨ zn i = 16 ∨ zn i = 17 ∨ zn i = 18 by omega) with e | e | e | e | e | e <;> rw [e] at hv ⊢ <;> exact hv
      · rw [pk_un hj]
        exact (b3 32 j).w ⟨Int.le_refl _, hm j⟩
    · rw [n c hc, e c j hc]; exact b3 c j
  · show mDf _ _ _
    rw [n 12 (by decide), n 10 (by decide), n 11 (by decide)]; exact b4
  · intro b j
    rw [n 25 (by decide), n 26 (by decide), n 28 (by decide)]; exact b5 b j
  · show _ → _
    rw [n 1 (by decide)]; exact b6
theorem mL_use {B : Int} {r : zRr} (h : mJ B r) {k : Int32} (hk : zI 0 39 k) (hl : k.toInt < (r 25 0).toInt) (hw : r 26 (zn k) = 0) : zI 0 5 (r 28 (zn k)) := by
  have h5 : mL r := h.2.2.2.2.1
  have h9 := hk.nn (by decide)
  have e : (zn k : Int) = k.toInt := by have := hk.1; unfold zn; omega
  have h6 := h5 0 (zn k) (by omega) (by omega)
  rw [show 40 * 0 + zn k = zn k by omega] at h6
  exact h6 hw
theorem zn_ne {i j : Int32} {a b c d : Int} (hi : zI a b i) (hj : zI c d j) (k : 0 ≤ a ∧ 0 ≤ c ∧ (b < c ∨ d < a)) : zn i ≠ zn j := by
  have h1 := hi.nn k.1
  have h2 := hj.nn k.2.1
  omega
theorem zI.orle {x y : Int32} {a b c d : Int} (hx : zI a b x) (hy : zI c d y) (k : 0 ≤ a ∧ 0 ≤ c) : x.toInt ≤ (x ||| y).toInt := by
  obtain ⟨h1, h2⟩ := hx
  obtain ⟨h3, h4⟩ := hy
  have l : ∀ z : Int32, 0 ≤ z.toInt → z.toInt = (z.toBitVec.toNat : Int) ∧ z.toBitVec.toNat < 2 ^ 31 := by
    intro z hz
    have hb := z.toBitVec.isLt
    have h9 : 0 ≤ z.toBitVec.toInt := by rw [Int32.toInt_toBitVec]; omega
    rw [← Int32.toInt_toBitVec]
    rw [BitVec.toInt_eq_toNat_cond] at h9 ⊢
    split at h9 <;> omega
  obtain ⟨e1, l1⟩ := l x (by omega)
  obtain ⟨e2, l2⟩ := l y (by omega)
  have e3 : (x ||| y).toBitVec.toNat = x.toBitVec.toNat ||| y.toBitVec.toNat := by rw [Int32.toBitVec_or, BitVec.toNat_or]
  have l3 : x.toBitVec.toNat ||| y.toBitVec.toNat < 2 ^ 31 := Nat.or_lt_two_pow l1 l2
  have e4 : (x ||| y).toInt = ((x.toBitVec.toNat ||| y.toBitVec.toNat : Nat) : Int) := by
    rw [← Int32.toInt_toBitVec, BitVec.toInt_eq_toNat_of_lt (by rw [e3]; omega), e3]
  rw [e1, e4]
  exact_mod_cast Nat.left_le_or
theorem ms_z {B : Int} (hB : 20 ≤ B ∧ B ≤ 41) (j : Nat) : zI (mlo 32 j) (mhi B 32 j) 0 := by
  show zI (mslo j) (mshi B j) 0
  have e0 : (0 : Int32).toInt = 0 := by decide
  constructor
  · rw [e0]; unfold mslo; repeat' split
    all_goals decide
  · rw [e0]; unfold mshi; repeat' split
    all_goals omega
/-! ===== bounds alone; what is drawn; towns still unseen; lines laid aside ===== -/
noncomputable def mN (B : Int) (r : zRr) : Prop := 20 ≤ B ∧ B ≤ 41 ∧ mI B r
theorem mJ.n {B : Int} {r : zRr} (h : mJ B r) : mN B r := ⟨h.1, h.2.1, h.2.2.1⟩
theorem mN.i {B : Int} {r : zRr} (h : mN B r) : mI B r := h.2.2
theorem mN.b {B : Int} {r : zRr} (h : mN B r) : 20 ≤ B ∧ B ≤ 41 := ⟨h.1, h.2.1⟩
theorem mN.set {B : Int} {r : zRr} (h : mN B r) {k j : Nat} {v : Int32} (_ : 0 = 0) (hv : zI (mlo k j) (mhi B k j) v) : mN B (zset r k (upd (r k) j v)) := ⟨h.1, h.2.1, h.i.set hv⟩
theorem mN.setr {B : Int} {r : zRr} (h : mN B r) {k : Nat} {g : Nat → Int32} (_ : 0 = 0) (hv : ∀ j, zI (mlo k j) (mhi B k j) (g j)) : mN B (zset r k g) := ⟨h.1, h.2.1, h.i.setr hv⟩
theorem mN.setc {B : Int} {r : zRr} (h : mN B r) {k : Nat} {v : Int32} (_ : 0 = 0) (hv : ∀ j, zI (mlo k j) (mhi B k j) v) : mN B (zset r k (fun _ => v)) := ⟨h.1, h.2.1, h.i.setr hv⟩
noncomputable def mQ (g : Int64) : Prop := 0 ≤ g.toInt ∧ g.toInt < 2147483648
theorem mQ.of {x : Int32} {a b : Int} (h : zI a b x) (k : 0 ≤ a) : mQ x.toInt64 := by
  unfold mQ
  rw [Jvm.Kit.i64_of_i32]
  have h1 := Int32.toInt_lt x
  have := h.1
  constructor <;> omega
theorem mQ.step {g : Int64} (h : mQ g) : mQ (g * 1103515245 + 12345 - (g * 1103515245 + 12345) / 2147483648 * 2147483648) := by
  obtain ⟨h1, h2⟩ := h
  have c1 : (1103515245 : Int64).toInt = 1103515245 := by decide
  have c2 : (12345 : Int64).toInt = 12345 := by decide
  have c3 : (2147483648 : Int64).toInt = 2147483648 := by decide
  have e1 : (g * 1103515245).toInt = g.toInt * 1103515245 := by rw [Jvm.Kit.i64_mul (by rw [c1]; omega) (by rw [c1]; omega), c1]
  have e2 : (g * 1103515245 + 12345).toInt = g.toInt * 1103515245 + 12345 := by rw [Jvm.Kit.i64_add (by rw [e1, c2]; omega) (by rw [e1, c2]; omega), e1, c2]
  unfold mQ
  rw [Jvm.Kit.i64_rem_nonneg (by rw [e2]; omega), c3]
  constructor <;> omega
theorem mQ.draw {g : Int64} (h : mQ g) {m : Int32} {a b : Int} (hm : zI a b m) (k : 1 ≤ a) : zI 0 (b - 1) (g / 65536 - g / 65536 / m.toInt64 * m.toInt64).toInt32 := by
  obtain ⟨h1, h2⟩ := h
  obtain ⟨h3, h4⟩ := hm
  have hm32 := Int32.toInt_lt m
  have c1 : (65536 : Int64).toInt = 65536 := by decide
  have em : m.toInt64.toInt = m.toInt := Jvm.Kit.i64_of_i32 m
  have e1 : (g / 65536).toInt = g.toInt / 65536 := by
    rw [Jvm.Kit.i64_div (by rw [c1]; omega), c1, Int.tdiv_eq_ediv_of_nonneg h1]
  have e2 : (g / 65536 - g / 65536 / m.toInt64 * m.toInt64).toInt = g.toInt / 65536 % m.toInt := by
    rw [Jvm.Kit.i64_rem_nonneg (by rw [e1]; omega), e1, em]
  have q1 := Int.emod_nonneg (g.toInt / 65536) (show m.toInt ≠ 0 by omega)
  have q2 := Int.emod_lt_of_pos (g.toInt / 65536) (show 0 < m.toInt by omega)
  have e3 := Jvm.Kit.i32_of_i64 (x := g / 65536 - g / 65536 / m.toInt64 * m.toInt64) (by rw [e2]; omega) (by rw [e2]; omega)
  constructor <;> rw [e3, e2] <;> omega
theorem i64ne {m : Int32} {a b : Int} (hm : zI a b m) (k : 1 ≤ a) : ¬ m.toInt64 = 0 := by
  intro e
  have em : m.toInt64.toInt = m.toInt := Jvm.Kit.i64_of_i32 m
  rw [e] at em
  have c0 : (0 : Int64).toInt = 0 := by decide
  have := hm.1
  omega
/-- how many of the first n cells hold 0 -/
noncomputable def mz (f : Nat → Int32) : Nat → Nat
  | 0 => 0
  | n + 1 => mz f n + (if f n = 0 then 1 else 0)
theorem mz_le (f : Nat → Int32) : ∀ n, mz f n ≤ n
  | 0 => Nat.le_refl _
  | n + 1 => by have := mz_le f n; show mz f n + (if f n = 0 then 1 else 0) ≤ n + 1; split <;> omega
theorem mz_out {f : Nat → Int32} {j : Nat} {v : Int32} : ∀ n, n ≤ j → mz (upd f j v) n = mz f n
  | 0, _ => rfl
  | n + 1, h => by
    show mz (upd f j v) n + _ = mz f n + _
    rw [mz_out n (by omega), pk_un (by omega)]
theorem mz_set {f : Nat → Int32} {j : Nat} (hf : f j = 0) : ∀ n, j < n → mz (upd f j 1) n + 1 = mz f n
  | 0, h => by omega
  | n + 1, h => by
    show mz (upd f j 1) n + (if upd f j 1 n = 0 then 1 else 0) + 1 = mz f n + (if f n = 0 then 1 else 0)
    by_cases e : j = n
    · subst e
      rw [mz_out j (Nat.le_refl _), pk_us, if_neg (by decide), if_pos hf]
    · have := mz_set hf n (by omega)
      rw [pk_un (fun e2 => e e2.symm)]
      omega
theorem zq_in {q q1 : zRq} {k j : Nat} {g : Nat → Int64} (e : q1 = zset q k g) : q1 k j = g j := by rw [e, zset_eq]
theorem mT_use {B : Int} {r : zRr} (h : mJ B r) {p : Int32} {a b : Int} (hp : zI a b p) (hlt : p < r 1 1) (k : 0 ≤ a) : zI 1 6 (r 1 0) := by
  have h1 := Int32.lt_iff_toInt_lt.mp hlt
  have h2 : mT r := h.2.2.2.2.2
  have h3 := h2 (by have := hp.1; omega)
  have h4 : zI 0 6 (r 1 0) := h.i 1 0
  exact ⟨by omega, h4.2⟩
theorem zn40 {a k : Int32} {b c : Int} (ha : zI 0 b a) (hk : zI 0 c k) (h : b ≤ 10 ∧ c ≤ 40) : zn (40 * a + k) = 40 * zn a + zn k := by
  obtain ⟨h1, h2⟩ := ha
  obtain ⟨h3, h4⟩ := hk
  have c0 : (40 : Int32).toInt = 40 := by decide
  have e1 : (40 * a).toInt = 40 * a.toInt := by rw [Jvm.Kit.i32_mul (by rw [c0]; omega) (by rw [c0]; omega), c0]
  have e2 : (40 * a + k).toInt = 40 * a.toInt + k.toInt := by rw [Jvm.Kit.i32_add (by rw [e1]; omega) (by rw [e1]; omega), e1]
  unfold zn; rw [e2]; omega
theorem ml_step {f g g1 : Nat → Int32} {a b k i j : Nat} (hab : a ≠ b) (hk : k < 40) (h : g = zcp f f (40 * a) (40 * b) k) (hi : i = 40 * a + k) (hj : j = 40 * b + k) (h1 : g1 = upd g j (g i)) : g1 = zcp f f (40 * a) (40 * b) (k + 1) := by
  subst hi hj h1
  have e : g (40 * a + k) = f (40 * a + k) := by
    rw [h]
    show (if 40 * b ≤ 40 * a + k ∧ 40 * a + k < 40 * b + k then f (40 * a + (40 * a + k - 40 * b)) else f (40 * a + k)) = _
    rw [if_neg (by omega)]
  rw [e, h, zcp_s]
theorem ml_end {B : Int} {r r1 : zRr} (h : mJ B r) (hn : mN B r1) (hf : zFr [25, 26, 27, 28] r r1) {a b : Nat} (ha : a < 6) (h25 : r1 25 = upd (r 25) b (r 25 a)) (h26 : r1 26 = zcp (r 26) (r 26) (40 * a) (40 * b) 40) (h28 : r1 28 = zcp (r 28) (r 28) (40 * a) (40 * b) 40) : mJ B r1 := by
  obtain ⟨b1, b2, b3, b4, b5, b6⟩ := h
  refine ⟨b1, b2, hn.i, ?_, ?_, ?_⟩
  · show mDf _ _ _
    rw [hf 12 rfl, hf 10 rfl, hf 11 rfl]; exact b4
  · intro c j hj h1 h2
    rw [h25] at h1
    rw [h26] at h2
    rw [h28]
    by_cases hc : c = b
    · subst hc
      rw [pk_us] at h1
      have e : ∀ f : Nat → Int32, zcp f f (40 * a) (40 * c) 40 (40 * c + j) = f (40 * a + j) := by
        intro f
        show (if 40 * c ≤ 40 * c + j ∧ 40 * c + j < 40 * c + 40 then f (40 * a + (40 * c + j - 40 * c)) else _) = _
        rw [if_pos (by omega), show 40 * c + j - 40 * c = j by omega]
      rw [e] at h2 ⊢
      exact b5 a j hj h1 h2
    · rw [pk_un hc] at h1
      have e : ∀ f : Nat → Int32, zcp f f (40 * a) (40 * b) 40 (40 * c + j) = f (40 * c + j) := by
        intro f
        show (if 40 * b ≤ 40 * c + j ∧ 40 * c + j < 40 * b + 40 then _ else f (40 * c + j)) = _
        rw [if_neg (by omega)]
      rw [e] at h2 ⊢
      exact b5 c j hj h1 h2
  · show _ → _
    rw [hf 1 rfl]; exact b6
/-! ===== the reader of tokens ===== -/
noncomputable def mP (r : zRr) : Prop := (r 105 0).toInt ≤ (r 104 0).toInt ∧ (r 104 0).toInt ≤ (r 103 0).toInt ∧ (r 106 0 = 0 ∨ (r 105 0).toInt < (r 104 0).toInt)
noncomputable def msg (r : zRr) (k : Int32) : Int32 := if k < r 103 0 then r 0 (zn k) else 0
theorem msg_in {r : zRr} {k : Int32} (h : k < r 103 0) : msg r k = r 0 (zn k) := if_pos h
theorem msg_lt {r : zRr} {k u : Int32} (e : u = msg r k) (h : 1 ≤ u.toInt) : k < r 103 0 := by
  by_cases hk : k < r 103 0
  · exact hk
  · rw [e] at h
    unfold msg at h
    rw [if_neg hk] at h
    have e0 : (0 : Int32).toInt = 0 := by decide
    omega
theorem ltI {x y : Int32} (h : x < y) : x.toInt < y.toInt := Int32.lt_iff_toInt_lt.mp h
theorem leI {x y : Int32} (h : x ≤ y) : x.toInt ≤ y.toInt := Int32.le_iff_toInt_le.mp h
theorem neI {x y : Int32} (h : ¬ x = y) : x.toInt ≠ y.toInt := fun e => h (Int32.toInt_inj.mp e)
theorem mtold {t u : Int32} (ht : zI 0 999 t) (hu : zI 48 57 u) : (t * 10 + u - 48).toInt = t.toInt * 10 + u.toInt - 48 := by
  obtain ⟨h1, h2⟩ := ht
  obtain ⟨h3, h4⟩ := hu
  have c10 : (10 : Int32).toInt = 10 := by decide
  have c48 : (48 : Int32).toInt = 48 := by decide
  have e1 : (t * 10).toInt = t.toInt * 10 := by rw [Jvm.Kit.i32_mul (by rw [c10]; omega) (by rw [c10]; omega), c10]
  have e2 : (t * 10 + u).toInt = t.toInt * 10 + u.toInt := by rw [Jvm.Kit.i32_add (by rw [e1]; omega) (by rw [e1]; omega), e1]
  rw [Jvm.Kit.i32_sub (by rw [e2, c48]; omega) (by rw [e2, c48]; omega), e2, c48]
theorem i32_d {x y : Int32} {a b c d : Int} (hx : zI a b x) (hy : zI c d y) (k : -2147483648 ≤ a - d ∧ b - c ≤ 2147483647) : (x - y).toInt = x.toInt - y.toInt := by
  obtain ⟨h1, h2⟩ := hx
  obtain ⟨h3, h4⟩ := hy
  rw [Jvm.Kit.i32_sub (by omega) (by omega)]
theorem i32_a {x y : Int32} {a b c d : Int} (hx : zI a b x) (hy : zI c d y) (k : -2147483648 ≤ a + c ∧ b + d ≤ 2147483647) : (x + y).toInt = x.toInt + y.toInt := by
  obtain ⟨h1, h2⟩ := hx
  obtain ⟨h3, h4⟩ := hy
  rw [Jvm.Kit.i32_add (by omega) (by omega)]
theorem zI.un6 {x : Int32} (h : zI 6 11 (6 + x)) (hx : zI 0 6 x) : zI 0 5 x := by
  have c6 : (6 : Int32).toInt = 6 := by decide
  have e := i32_a (zI.lit (a := 6) (b := 6) (c := 6) (by decide)) hx (by decide)
  obtain ⟨h1, h2⟩ := h
  obtain ⟨h3, h4⟩ := hx
  constructor <;> omega
theorem mP.b {B : Int} {r : zRr} (h : mP r) (hI : mI B r) (ht : ¬ r 106 0 = 0) : zI 0 999 (r 105 0) := by
  obtain ⟨h1, h2, h3⟩ := h
  have h4 : zI 0 1000 (r 103 0) := hI 103 0
  have h5 : zI 0 1000 (r 105 0) := hI 105 0
  have h6 := h3.resolve_left ht
  have := h4.2; have := h5.1
  constructor <;> omega
theorem msg_out {r : zRr} {k : Int32} (h : r 103 0 ≤ k) : 0 = msg r k := by
  unfold msg
  rw [if_neg (fun h2 => by have := ltI h2; have := leI h; omega)]
theorem mP.fr {r r1 : zRr} (h : mP r) (e3 : r1 103 = r 103) (e4 : r1 104 = r 104) (e5 : r1 105 = r 105) (e6 : r1 106 = r 106) : mP r1 := by
  unfold mP
  rw [e3, e4, e5, e6]; exact h
theorem tkne {x : Int32} {a b : Int} (h : zI a b x) (k : 1 ≤ a) : ¬ x = 0 := by
  intro e
  have h1 := h.1
  rw [e] at h1
  have e0 : (0 : Int32).toInt = 0 := by decide
  omega
theorem zI.eq0 {x : Int32} (h : zI 0 0 x) : x = 0 := by
  obtain ⟨h1, h2⟩ := h
  exact Int32.toInt_inj.mp (by have e0 : (0 : Int32).toInt = 0 := (by decide); omega)
section
/-! ===== the reader of lands: what a store to a draft leaves as it was ===== -/
theorem mrun_c {f g : Nat → Int32} {a : Nat} : ∀ n, (∀ i, i < n → f (a + i) = g (a + i)) → mrun f a n = mrun g a n
  | 0, _ => rfl
  | n + 1, h => by
    show mst _ _ = mst _ _
    rw [h n (by omega), mrun_c n (fun i hi => h i (by omega))]
theorem mDf_c {f g : Nat → Int32} {a b : Nat} (h : ∀ i, a ≤ i → i < b → f i = g i) (hd : mDf f a b) : mDf g a b := by
  intro n hn
  have e := mrun_c (f := f) (g := g) (a := a) n (fun i hi => h _ (by omega) (by omega))
  have h2 := hd n hn
  rw [h (a + n) (by omega) hn, e] at h2
  exact h2
theorem mJ.setL {B : Int} {r : zRr} (h : mJ B r) {j : Nat} {v : Int32} (hj : 4 ≤ j) (hv : zI (mlo 1 j) (mhi B 1 j) v) : mJ B (zset r 1 (upd (r 1) j v)) := by
  have hI := h.i.set hv
  obtain ⟨b1, b2, b3, b4, b5, b6⟩ := h
  have n : ∀ c, c ≠ 1 → zset r 1 (upd (r 1) j v) c = r c := fun c hc => zset_ne hc
  refine ⟨b1, b2, hI, ?_, ?_, ?_⟩
  · show mDf _ _ _
    rw [n 12 (by decide), n 10 (by decide), n 11 (by decide)]; exact b4
  · intro b j2
    rw [n 25 (by decide), n 26 (by decide), n 28 (by decide)]; exact b5 b j2
  · show _ → _
    rw [zset_eq, pk_un (by omega), pk_un (by omega)]; exact b6
theorem mJ.setC {B : Int} {r : zRr} (h : mJ B r) {j : Nat} {v : Int32} (hj : 1000 ≤ j) : mJ B (zset r 12 (upd (r 12) j v)) := by
  have hI : mI B (zset r 12 (upd (r 12) j v)) := h.i.set (zI.top v)
  obtain ⟨b1, b2, b3, b4, b5, b6⟩ := h
  have n : ∀ c, c ≠ 12 → zset r 12 (upd (r 12) j v) c = r c := fun c hc => zset_ne hc
  refine ⟨b1, b2, hI, ?_, ?_, ?_⟩
  · show mDf _ _ _
    rw [n 10 (by decide), n 11 (by decide), zset_eq]
    have h8 : zI 0 1000 (r 11 0) := b3 11 0
    have h9 := h8.nn (by decide)
    exact mDf_c (fun i _ hi => (pk_un (by omega)).symm) b4
  · intro b j2
    rw [n 25 (by decide), n 26 (by decide), n 28 (by decide)]; exact b5 b j2
  · show _ → _
    rw [n 1 (by decide)]; exact b6
theorem mJ.setF {B : Int} {r : zRr} (h : mJ B r) {k : Nat} {v : Int32} (hk : k = 10 ∨ k = 11) (hv : zI 1000 2000 v) : mJ B (zset r k (upd (r k) 1 v)) := by
  have hI : mI B (zset r k (upd (r k) 1 v)) := h.i.set (by rcases hk with rfl | rfl <;> exact (hv.w (c := 0) (d := 2000) ⟨by decide, by decide⟩))
  obtain ⟨b1, b2, b3, b4, b5, b6⟩ := h
  have n : ∀ c, c ≠ k → zset r k (upd (r k) 1 v) c = r c := fun c hc => zset_ne hc
  refine ⟨b1, b2, hI, ?_, ?_, ?_⟩
  · show mDf _ _ _
    rcases hk with rfl | rfl
    · rw [n 12 (by decide), n 11 (by decide), zset_eq, pk_un (by decide)]; exact b4
    · rw [n 12 (by decide), n 10 (by decide), zset_eq, pk_un (by decide)]; exact b4
  · intro b j2
    rw [n 25 (by omega), n 26 (by omega), n 28 (by omega)]; exact b5 b j2
  · show _ → _
    rw [n 1 (by omega)]; exact b6
theorem mJ.setW {B : Int} {r : zRr} (h : mJ B r) {k : Nat} {i v : Int32} {x : Int32} {lo up : Int} (hk : k = 26 ∨ k = 28) (hv : zI (mlo k (zn i)) (mhi B k (zn i)) v) (hi : i = 200 + x) (hx : zI lo up x) (hb : 0 ≤ lo ∧ up ≤ 39) (he : (r 25 5).toInt ≤ x.toInt) : mJ B (zset r k (upd (r k) (zn i) v)) := by
  have hI : mI B (zset r k (upd (r k) (zn i) v)) := h.i.set hv
  obtain ⟨b1, b2, b3, b4, b5, b6⟩ := h
  have n : ∀ c, c ≠ k → zset r k (upd (r k) (zn i) v) c = r c := fun c hc => zset_ne hc
  have c200 : (200 : Int32).toInt = 200 := by decide
  have e2 : (200 + x).toInt = 200 + x.toInt := by
    obtain ⟨q1, q2⟩ := hx
    rw [Jvm.Kit.i32_add (by omega) (by omega), c200]
  have e3 : zn i = 200 + zn x := by
    have := hx.1
    rw [hi]; unfold zn; omega
  have e4 : (zn x : Int) = x.toInt := by have := hx.1; unfold zn; omega
  have ne : ∀ b j2 : Nat, j2 < 40 → (j2 : Int) < (r 25 b).toInt → 40 * b + j2 ≠ zn i := by
    intro b j2 hj hlt e
    have hb5 : b = 5 := by have := hx.2; omega
    subst hb5
    omega
  refine ⟨b1, b2, hI, ?_, ?_, ?_⟩
  · show mDf _ _ _
    rw [n 12 (by omega), n 10 (by omega), n 11 (by omega)]; exact b4
  · intro b j2 hj h1 h2
    rw [n 25 (by omega)] at h1
    have e5 := ne b j2 hj h1
    rcases hk with rfl | rfl
    · rw [zset_eq, pk_un e5] at h2
      rw [n 28 (by decide)]; exact b5 b j2 hj h1 h2
    · rw [n 26 (by decide)] at h2
      rw [zset_eq, pk_un e5]; exact b5 b j2 hj h1 h2
  · show _ → _
    rw [n 1 (by omega)]; exact b6
theorem mJ.line0 {B : Int} {r : zRr} (h : mJ B r) {j : Nat} {v : Int32} (hv : v = 0) : mJ B (zset r 25 (upd (r 25) j v)) := by
  have hI : mI B (zset r 25 (upd (r 25) j v)) := h.i.set (by subst hv; exact (show zI 0 40 (0 : Int32) from ⟨by decide, by decide⟩))
  obtain ⟨b1, b2, b3, b4, b5, b6⟩ := h
  have n : ∀ c, c ≠ 25 → zset r 25 (upd (r 25) j v) c = r c := fun c hc => zset_ne hc
  refine ⟨b1, b2, hI, ?_, ?_, ?_⟩
  · show mDf _ _ _
    rw [n 12 (by decide), n 10 (by decide), n 11 (by decide)]; exact b4
  · intro b j2 hj h1 h2
    rw [n 26 (by decide)] at h2
    rw [n 28 (by decide)]
    rw [zset_eq] at h1
    by_cases e : b = j
    · subst e; rw [pk_us, hv] at h1
      have e0 : (0 : Int32).toInt = 0 := by decide
      omega
    · rw [pk_un e] at h1; exact b5 b j2 hj h1 h2
  · show _ → _
    rw [n 1 (by decide)]; exact b6
theorem mJ.line1 {B : Int} {r : zRr} (h : mJ B r) (hx : zI 0 39 (r 25 5)) {i : Int32} (hi : i = 200 + r 25 5) (hw : r 26 (zn i) = 0 → zI 0 5 (r 28 (zn i))) : mJ B (zset r 25 (upd (r 25) 5 (r 25 5 + 1))) := by
  have c1 : (1 : Int32).toInt = 1 := by decide
  have e1 : (r 25 5 + 1).toInt = (r 25 5).toInt + 1 := i32_s hx (by decide)
  have hI : mI B (zset r 25 (upd (r 25) 5 (r 25 5 + 1))) := h.i.set (show zI 0 40 (r 25 5 + 1) by obtain ⟨q1, q2⟩ := hx; constructor <;> omega)
  obtain ⟨b1, b2, b3, b4, b5, b6⟩ := h
  have n : ∀ c, c ≠ 25 → zset r 25 (upd (r 25) 5 (r 25 5 + 1)) c = r c := fun c hc => zset_ne hc
  have c200 : (200 : Int32).toInt = 200 := by decide
  have e2 : (200 + r 25 5).toInt = 200 + (r 25 5).toInt := by
    obtain ⟨q1, q2⟩ := hx
    rw [Jvm.Kit.i32_add (by omega) (by omega), c200]
  have e3 : zn i = 200 + zn (r 25 5) := by
    have := hx.1
    rw [hi]; unfold zn; omega
  have e4 : (zn (r 25 5) : Int) = (r 25 5).toInt := by have := hx.1; unfold zn; omega
  refine ⟨b1, b2, hI, ?_, ?_, ?_⟩
  · show mDf _ _ _
    rw [n 12 (by decide), n 10 (by decide), n 11 (by decide)]; exact b4
  · intro b j2 hj h1 h2
    rw [n 26 (by decide)] at h2
    rw [n 28 (by decide)]
    rw [zset_eq] at h1
    by_cases e : b = 5
    · subst e; rw [pk_us, e1] at h1
      by_cases e6 : j2 = zn (r 25 5)
      · subst e6
        rw [show 40 * 5 + zn (r 25 5) = zn i by omega] at h2 ⊢
        exact hw h2
      · exact b5 5 j2 hj (by omega) h2
    · rw [pk_un e] at h1; exact b5 b j2 hj h1 h2
  · show _ → _
    rw [n 1 (by decide)]; exact b6
/-! the signs of an E as they are laid -/
noncomputable def mg (F : Nat) (R : zRr) : List Bool := mrun (R 12) F (zn (R 122 0) - F)
noncomputable def mX0 (F : Nat) (R : zRr) : Prop := F ≤ zn (R 122 0) ∧ mDf (R 12) F (zn (R 122 0))
noncomputable def mX (F : Nat) (R : zRr) (d : Int32) : Prop := mX0 F R ∧ mG (R 13) d (mg F R)
noncomputable def mY (F : Nat) (R : zRr) (d : Int32) : Prop := mX0 F R ∧ ∃ g, mG (R 13) d g ∧ g.dropWhile id = mg F R
theorem mX0.put {F : Nat} {R R1 : zRr} {c : Int32} {a b : Int} (h : mX0 F R) (hk : zI a b (R 122 0)) (k : 0 ≤ a ∧ b < 2147483647) (e1 : R1 12 = upd (R 12) (zn (R 122 0)) c) (e2 : R1 122 0 = R 122 0 + 1) (hok : mok c (mg F R)) : mX0 F R1 ∧ mg F R1 = mst c (mg F R) := by
  have e3 : zn (R1 122 0) = zn (R 122 0) + 1 := by rw [e2]; exact zn_s hk k
  obtain ⟨h1, h2⟩ := h
  have e4 : ∀ n, F + n ≤ zn (R 122 0) → mrun (R1 12) F n = mrun (R 12) F n := fun n hn => mrun_c n (fun i hi => by rw [e1, pk_un (by omega)])
  refine ⟨⟨by omega, ?_⟩, ?_⟩
  · intro n hn
    rw [e4 n (by omega)]
    by_cases e5 : F + n = zn (R 122 0)
    · rw [e1, e5, pk_us]
      have e6 : n = zn (R 122 0) - F := by omega
      rw [e6]; exact hok
    · rw [e1, pk_un e5]; exact h2 n (by omega)
  · unfold mg
    rw [show zn (R1 122 0) - F = (zn (R 122 0) - F) + 1 by omega]
    show mst (R1 12 (F + (zn (R 122 0) - F))) _ = _
    rw [e4 _ (by omega), show F + (zn (R 122 0) - F) = zn (R 122 0) by omega, e1, pk_us]
theorem mX.row {F : Nat} {R R1 : zRr} {d : Int32} (h : mX F R d) (e1 : R1 12 = R 12) (e2 : R1 122 = R 122) (e3 : R1 13 = R 13) : mX F R1 d := by
  unfold mX mX0 mg at *; rw [e1, e2, e3]; exact h
theorem mY.row {F : Nat} {R R1 : zRr} {d : Int32} (h : mY F R d) (e1 : R1 12 = R 12) (e2 : R1 122 = R 122) (e3 : R1 13 = R 13) : mY F R1 d := by
  unfold mY mX0 mg at *; rw [e1, e2, e3]; exact h
theorem mok_v {c : Int32} {g : List Bool} (h : ¬ c = 28) (h2 : ¬ c = 30) (h3 : ¬ c = 29) (h4 : 0 ≤ c.toInt) : mok c g := ⟨fun e => by rcases e with e | e <;> contradiction, fun e => absurd e h3, h4⟩
section MX
variable {F : Nat} {R R1 : zRr} {d c : Int32} {a b : Int}
theorem mX.op (h : mX F R d) (hk : zI a b (R 122 0)) (k : 0 ≤ a ∧ b < 2147483647) (e1 : R1 12 = upd (R 12) (zn (R 122 0)) c) (e2 : R1 122 0 = R 122 0 + 1) (e3 : R1 13 = R 13) (hc : c = 20 ∨ c = 21 ∨ c = 22 ∨ c = 24 ∨ c = 25 ∨ c = 26 ∨ c = 27) : mX F R1 d := by
  obtain ⟨p1, p2⟩ := h.1.put hk k e1 e2 (by rcases hc with h | h | h | h | h | h | h <;> subst h <;> exact mok_v (by decide) (by decide) (by decide) (by decide))
  exact ⟨p1, (h.2.row e3).to (p2.trans (mst_k hc))⟩
theorem mX.push (h : mX F R d) (hk : zI a b (R 122 0)) (k : 0 ≤ a ∧ b < 2147483647) (hd : zI 0 4 d) (e1 : R1 12 = upd (R 12) (zn (R 122 0)) c) (e2 : R1 122 0 = R 122 0 + 1) {v : Int32} (e3 : R1 13 = upd (R 13) (zn (d + 1)) v) (hc : (c = 28 ∧ v = 2) ∨ (c = 30 ∧ v = 1)) : mX F R1 (d + 1) := by
  have hl : (mg F R).length ≤ 4 := by
    have h1 := h.2.1.2.1
    have h2 := hd.nn (by decide)
    omega
  rcases hc with ⟨rfl, rfl⟩ | ⟨rfl, rfl⟩
  · obtain ⟨p1, p2⟩ := h.1.put hk k e1 e2 ⟨fun _ => hl, fun e => absurd e (by decide), by decide⟩
    exact ⟨p1, ((h.2.push (v := 2) (x := false) hl (by decide)).row e3).to (p2.trans (mst_28 rfl))⟩
  · obtain ⟨p1, p2⟩ := h.1.put hk k e1 e2 ⟨fun _ => hl, fun e => absurd e (by decide), by decide⟩
    exact ⟨p1, ((h.2.push (v := 1) (x := true) hl (by decide)).row e3).to (p2.trans (mst_30 rfl))⟩
theorem mX.val (h : mX F R d) (hk : zI a b (R 122 0)) (k : 0 ≤ a ∧ b < 2147483647) (e1 : R1 12 = upd (R 12) (zn (R 122 0)) c) (e2 : R1 122 0 = R 122 0 + 1) (e3 : R1 13 = R 13) {x y : Int} (hc : zI x y c) (k2 : 0 ≤ x ∧ (y < 20 ∨ 30 < x)) : mY F R1 d := by
  have hn : ∀ z : Int32, 20 ≤ z.toInt → z.toInt ≤ 30 → ¬ c = z := fun z h1 h2 e => by
    rw [e] at hc
    obtain ⟨q1, q2⟩ := hc
    omega
  obtain ⟨p1, p2⟩ := h.1.put hk k e1 e2 (mok_v (hn _ (by decide) (by decide)) (hn _ (by decide) (by decide)) (hn _ (by decide) (by decide)) (by have := hc.1; omega))
  exact ⟨p1, mg F R, h.2.row e3, (p2.trans (mst_v (hn _ (by decide) (by decide)) (hn _ (by decide) (by decide)) (hn _ (by decide) (by decide)) (hn _ (by decide) (by decide)) (hn _ (by decide) (by decide)) (hn _ (by decide) (by decide)) (hn _ (by decide) (by decide)) (hn _ (by decide) (by decide)) (hn _ (by decide) (by decide)) (hn _ (by decide) (by decide)))).symm⟩
theorem mX.close (h : mX F R d) (hk : zI a b (R 122 0)) (k : 0 ≤ a ∧ b < 2147483647) (hd : zI 1 5 d) (e1 : R1 12 = upd (R 12) (zn (R 122 0)) 29) (e2 : R1 122 0 = R 122 0 + 1) (e3 : R1 13 = R 13) : mY F R1 (d + (-1)) := by
  have hl : 1 ≤ (mg F R).length := by
    have h1 := h.2.1.2.1
    have h2 := hd.nn (by decide)
    omega
  obtain ⟨p1, p2⟩ := h.1.put hk k e1 e2 ⟨fun e => absurd e (by decide), fun _ => hl, by decide⟩
  exact ⟨p1, (mg F R).tail, (h.2.pop1 hl).row e3, (p2.trans (mst_29 rfl)).symm⟩
theorem mY.back (h : mY F R d) (h0 : (0 : Int32) < d) (h1 : R 13 (zn d) = 1) : mY F R (d + (-1)) := ⟨h.1, xG.back h.2 h0 h1⟩
theorem mY.exit0 (h : mY F R d) (h0 : d ≤ (0 : Int32)) : mX F R d := ⟨h.1, xG.exit0 h.2 h0⟩
theorem mY.exit1 (h : mY F R d) (h1 : ¬ R 13 (zn d) = 1) : mX F R d := ⟨h.1, xG.exit1 h.2 h1⟩
end MX
theorem mX.new {R : zRr} (e : True) : mX (zn (R 122 0)) R 0 := by
  refine ⟨⟨Nat.le_refl _, fun n hn => by omega⟩, ?_⟩
  unfold mg
  rw [Nat.sub_self]
  exact mG.nil
noncomputable def mT1 (r : zRr) : Prop := 0 < (r 1 5).toInt → 0 < (r 1 4).toInt
noncomputable def mD1 (r : zRr) : Prop := mDf (r 12) (zn (r 10 1)) (zn (r 11 1))
noncomputable def mC (r : zRr) : Prop := 1000 ≤ (r 122 0).toInt ∧ (r 122 0).toInt ≤ 1000 + (r 105 0).toInt
theorem mC.k {r : zRr} (h : mC r) (hb : zI 0 999 (r 105 0)) : zI 1000 1999 (r 122 0) := ⟨h.1, by have := h.2; have := hb.2; omega⟩
theorem mT1.row {r r1 : zRr} (h : mT1 r) (e : r1 1 = r 1) : mT1 r1 := by unfold mT1; rw [e]; exact h
theorem mD1.row {r r1 : zRr} (h : mD1 r) (e : r1 12 = r 12) (e1 : r1 10 = r 10) (e2 : r1 11 = r 11) : mD1 r1 := by unfold mD1; rw [e, e1, e2]; exact h
theorem mT1.two {r r1 : zRr} (h : mT1 r) (e1 : r1 1 4 = r 1 4) (e2 : r1 1 5 = r 1 5) : mT1 r1 := by unfold mT1; rw [e1, e2]; exact h
theorem mC.row {r r1 : zRr} (h : mC r) (e1 : r1 122 = r 122) (e2 : r1 105 = r 105) : mC r1 := by unfold mC; rw [e1, e2]; exact h
theorem mC.up {r r1 : zRr} (h : mC r) (e1 : r1 122 = r 122) (hb : (r 105 0).toInt ≤ (r1 105 0).toInt) : mC r1 := by
  unfold mC at *; rw [e1]; exact ⟨h.1, by have := h.2; omega⟩
theorem mC.w {B : Int} {r : zRr} (h : mC r) (hI : mI B r) : zI 1000 2000 (r 122 0) := by
  have h2 : zI 0 1000 (r 105 0) := hI 105 0
  exact ⟨h.1, by have := h.2; have := h2.2; omega⟩
theorem mD1.set {f g : Nat → Int32} {a b : Nat} (h : mDf f a b) (e : g = f) : mDf g a b := e ▸ h
noncomputable def mF1 (r : zRr) : Prop := zI 1000 2000 (r 10 1) ∧ zI 1000 2000 (r 11 1)
theorem mF1.row {r r1 : zRr} (h : mF1 r) (e1 : r1 10 = r 10) (e2 : r1 11 = r 11) : mF1 r1 := by unfold mF1; rw [e1, e2]; exact h
end
/-! ===== what comes out, as a function: its words ===== -/
noncomputable def zlet {α β : Type} (x : α) (K : α → β) : β := K x
theorem zletE {α β : Type} {X : β} {x v : α} {K : α → β} (e : v = x) (h : X = zlet x K) : X = K v := by subst e; exact h
noncomputable def zif {β : Type} (c : Prop) [Decidable c] (a b : β) : β := if c then a else b
noncomputable def zifn {β : Type} (c : Prop) [Decidable c] (a b : β) : β := if c then b else a
theorem zifT {β : Type} {X a b : β} {c : Prop} [Decidable c] (h : c) (e : X = zif c a b) : X = a := e.trans (if_pos h)
theorem zifF {β : Type} {X a b : β} {c : Prop} [Decidable c] (h : ¬ c) (e : X = zif c a b) : X = b := e.trans (if_neg h)
theorem zifnT {β : Type} {X a b : β} {c : Prop} [Decidable c] (h : ¬ c) (e : X = zifn c a b) : X = a := e.trans (if_neg h)
theorem zifnF {β : Type} {X a b : β} {c : Prop} [Decidable c] (h : c) (e : X = zifn c a b) : X = b := e.trans (if_pos h)
noncomputable def zc_vr {α β : Type} (o : α × zRr) (K : α → zRr → β) : β := K o.1 o.2
noncomputable def zc_rq {β : Type} (o : zRr × zRq) (K : zRr → zRq → β) : β := K o.1 o.2
noncomputable def zc_vq {α β : Type} (o : α × zRq) (K : α → zRq → β) : β := K o.1 o.2
noncomputable def zc_vrq {α β : Type} (o : α × zRr × zRq) (K : α → zRr → zRq → β) : β := K o.1 o.2.1 o.2.2
theorem zc_vrE {α β : Type} {X : β} {o : α × zRr} {v : α} {r : zRr} {K : α → zRr → β} (e : (v, r) = o) (h : X = zc_vr o K) : X = K v r := by subst e; exact h
theorem zc_rqE {β : Type} {X : β} {o : zRr × zRq} {r : zRr} {q : zRq} {K : zRr → zRq → β} (e : (r, q) = o) (h : X = zc_rq o K) : X = K r q := by subst e; exact h
theorem zc_vqE {α β : Type} {X : β} {o : α × zRq} {v : α} {q : zRq} {K : α → zRq → β} (e : (v, q) = o) (h : X = zc_vq o K) : X = K v q := by subst e; exact h
theorem zc_vrqE {α β : Type} {X : β} {o : α × zRr × zRq} {v : α} {r : zRr} {q : zRq} {K : α → zRr → zRq → β} (e : (v, r, q) = o) (h : X = zc_vrq o K) : X = K v r q := by subst e; exact h
theorem zletQ {α β : Type} (x : α) (K : α → β) : zlet x K = K x := (Eq.refl (zlet x K)).trans (Eq.refl (K x))
theorem zifQ {β : Type} (c : Prop) [Decidable c] (a b : β) : zif c a b = if c then a else b := (Eq.refl (zif c a b)).trans (Eq.refl _)
theorem zifnQ {β : Type} (c : Prop) [Decidable c] (a b : β) : zifn c a b = if c then b else a := (Eq.refl (zifn c a b)).trans (Eq.refl _)
theorem zc_vrQ {α β : Type} (o : α × zRr) (K : α → zRr → β) : zc_vr o K = K o.1 o.2 := (Eq.refl (zc_vr o K)).trans (Eq.refl _)
theorem zc_rqQ {β : Type} (o : zRr × zRq) (K : zRr → zRq → β) : zc_rq o K = K o.1 o.2 := (Eq.refl (zc_rq o K)).trans (Eq.refl _)
theorem zc_vrqQ {α β : Type} (o : α × zRr × zRq) (K : α → zRr → zRq → β) : zc_vrq o K = K o.1 o.2.1 o.2.2 := (Eq.refl (zc_vrq o K)).trans (Eq.refl _)
noncomputable def eL : List Nat := [4, 4, 4, 6, 2, 5, 5, 5, 4, 5, 2, 5, 5, 4, 5, 6, 6, 4, 3, 3, 2, 1, 1, 1, 1, 1, 1, 1, 1, 0, 0, 0, 0, 4, 5, 5, 5]
noncomputable def eB : List (List Int32) := [[116, 111, 119, 110], [97, 115, 107, 115], [114, 111, 97, 100], [112, 101, 114, 115, 111, 110], [97, 116], [98, 101, 97, 114, 100], [112, 117, 114, 115, 101], [103, 114, 111, 119, 115], [105, 110, 99, 104], [114, 101, 97, 100, 115], [103, 111], [102, 111, 114, 103, 101], [115, 104, 97, 118, 101], [119, 101, 101, 107], [112, 108, 97, 105, 110], [115, 109, 111, 111, 116, 104], [98, 105, 115, 104, 111, 112], [103, 114, 101, 121], [110, 111, 116], [97, 110, 100], [111, 114], [40], [41], [60], [61], [43], [45], [42], [59], [], [], [], [], [108, 111, 110, 103], [102, 97, 108, 115, 101], [97, 115, 107, 101, 100], [119, 101, 101, 107, 115]]
