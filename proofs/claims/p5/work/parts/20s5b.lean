noncomputable def Gm_draws20 (r : zRr) (q : zRq) : Int32 × zRq :=
  zlet (α := zRq) (zset q 154 (fun _ => (((q 154 0) * (1103515245 : Int64)) + (12345 : Int64)) - (((q 154 0) * (1103515245 : Int64)) + (12345 : Int64)) / (2147483648 : Int64) * (2147483648 : Int64))) <| fun q1 => zlet (α := Int32) ((((q1 154 0) / (65536 : Int64)) - ((q1 154 0) / (65536 : Int64)) / (20 : Int64) * (20 : Int64)).toInt32) <| fun v2 => (v2, q1)
set_option maxHeartbeats 4000000 in
set_option maxRecDepth 100000 in
theorem mc_draws20 (l : Launch) (D : va_G) (ct : Nat → ClassId) (h0 : Nat) (y : Nat → Nat) (B : Int) (r : zRr) (q : zRq) (hJ0 : mJ B r) (x1 : mQ (q 154 0)) : zC l yX12_draws (.code yX12_draws cX12_draws 2 (some .int) :: wsL_law0) ({ frames := 1, cells := 0, slots := 0, locals := 80 }) D ct [] [.ref h0, .int 20] (mW ct h0 y r q) (S := Int32 × zRq) (fun u => some (.int u.1)) (fun u => zI (-2147483648) 2147483647 u.1 ∧ (mQ (u.2 154 0)) ∧ (mNm q u.2) ∧ u = (Gm_draws20 r q) ∧ True) (fun u => mW ct h0 y r u.2) 0 0 := by
  refine zofQ cX12_draws 2 (some .int) (by decide) rfl (Nat.le_of_ble_eq_true rfl) ?_
  intro p e s m below meth c A a9 Q ha9 hx hb hr hml hts hown hlocks hname hK hA hZ hN hQ
  have hown : s.vm.findClass RX12 = some m.cls := hown
  have hiX12 : ∀ w ∈ wsX120, w ∈ .code yX12_draws cX12_draws 2 (some .int) :: wsL_law0 := fun _ h => ki (zs_wsX120 _ h)
  have lf454 := hts (.fieldLink RX12 454 "BeardPassModel" "g" "J") (ki (zr56 0 rfl))
  obtain ⟨X, hX⟩ : ∃ X, X = (Gm_draws20 r q) := ⟨_, rfl⟩
  intro H locs hw hS ls hl
  have hl : lv_has ls 2 [(0, .ref h0), (1, .int 20)] := hl
  have hE := hX
  unfold Gm_draws20 at hE
  refine lv_aload_n hx hb dX12_draws_0 rfl (lv_at hl 0 rfl) ?_
  refine lv_aload_n hx hb dX12_draws_1 rfl (lv_at hl 0 rfl) ?_
  refine mget (v := .long (q 154 0)) hx hb hts hiX12 hown hK hw 54 (by decide) lf454 rfl rfl dX12_draws_2 ?_
  refine lv_ldc2 hx hb hown (hts (.constantLong RX12 457 1103515245) (ki (zr56 11 rfl))) dX12_draws_5 ?_
  refine lv_lmul hx hb dX12_draws_8 ?_
  refine lv_ldc2 hx hb hown (hts (.constantLong RX12 459 12345) (ki (zr56 12 rfl))) dX12_draws_9 ?_
  refine lv_ladd hx hb dX12_draws_12 ?_
  refine lv_ldc2 hx hb hown (hts (.constantLong RX12 461 2147483648) (ki (zr56 13 rfl))) dX12_draws_13 ?_
  refine lv_lrem hx hb dX12_draws_16 (by decide) ?_
  refine mput (ty := .long) (v := .long ((((q 154 0) * (1103515245 : Int64)) + (12345 : Int64)) - (((q 154 0) * (1103515245 : Int64)) + (12345 : Int64)) / (2147483648 : Int64) * (2147483648 : Int64))) hx hb hts hiX12 hown hK hw hS 54 (by decide) lf454 rfl rfl (by decide +kernel) rfl rfl dX12_draws_17 _ (zset q 154 (fun _ => (((q 154 0) * (1103515245 : Int64)) + (12345 : Int64)) - (((q 154 0) * (1103515245 : Int64)) + (12345 : Int64)) / (2147483648 : Int64) * (2147483648 : Int64))) mWf54 (fun H locs hw hS => ?_)
  refine mqgen hw (fun q1 eq1 hw => ?_)
  have hE := zletE eq1 hE
  have hq1 : mQ (q1 154 0) := by rw [zq_in eq1]; exact x1.step
  have hn1 : mNm q q1 := by rw [eq1]; exact ⟨zset_ne (by decide), zset_ne (by decide)⟩
  refine lv_aload_n hx hb dX12_draws_20 rfl (lv_at hl 0 rfl) ?_
  refine mget (v := .long (q1 154 0)) hx hb hts hiX12 hown hK hw 54 (by decide) lf454 rfl rfl dX12_draws_21 ?_
  refine lv_ldc2 hx hb hown (hts (.constantLong RX12 463 65536) (ki (zr56 14 rfl))) dX12_draws_24 ?_
  refine lv_ldiv hx hb dX12_draws_27 (by decide) ?_
  refine lv_iload_n hx hb dX12_draws_28 rfl (lv_at hl 1 rfl) ?_
  refine lv_i2l (v := 20) hx hb dX12_draws_29 (by decide) ?_
  refine lv_lrem hx hb dX12_draws_30 (by decide) ?_
  refine lv_l2i (v := (((q1 154 0) / (65536 : Int64)) - ((q1 154 0) / (65536 : Int64)) / (20 : Int64) * (20 : Int64)).toInt32) hx hb dX12_draws_31 rfl (zgenE (zI.top _) (fun v2 ev2 _ => ?_))
  have hE := zletE ev2 hE
  exact ziretQ hQ hx hb hr rfl hlocks (v2, q1) rfl ⟨(zI.top _), (show mQ (q1 154 0) from hq1), (show mNm q q1 from hn1), (hE.symm.trans hX), trivial⟩ hw hS dX12_draws_32

noncomputable def Gm_draws (a1 : Int32) (r : zRr) (q : zRq) : Int32 × zRq :=
  zlet (α := zRq) (zset q 154 (fun _ => (((q 154 0) * (1103515245 : Int64)) + (12345 : Int64)) - (((q 154 0) * (1103515245 : Int64)) + (12345 : Int64)) / (2147483648 : Int64) * (2147483648 : Int64))) <| fun q1 => zlet (α := Int32) ((((q1 154 0) / (65536 : Int64)) - ((q1 154 0) / (65536 : Int64)) / a1.toInt64 * a1.toInt64).toInt32) <| fun v2 => (v2, q1)
set_option maxHeartbeats 4000000 in
set_option maxRecDepth 100000 in
theorem mc_draws (l : Launch) (D : va_G) (ct : Nat → ClassId) (h0 : Nat) (y : Nat → Nat) (B : Int) (a1 : Int32) (r : zRr) (q : zRq) (g1 : zI 1 6 a1) (hJ0 : mJ B r) (x1 : mQ (q 154 0)) : zC l yX12_draws (.code yX12_draws cX12_draws 2 (some .int) :: wsL_law0) ({ frames := 1, cells := 0, slots := 0, locals := 80 }) D ct [] [.ref h0, .int a1] (mW ct h0 y r q) (S := Int32 × zRq) (fun u => some (.int u.1)) (fun u => zI 0 5 u.1 ∧ (mQ (u.2 154 0)) ∧ (mNm q u.2) ∧ u = (Gm_draws a1 r q) ∧ True) (fun u => mW ct h0 y r u.2) 0 0 := by
  refine zofQ cX12_draws 2 (some .int) (by decide) rfl (Nat.le_of_ble_eq_true rfl) ?_
  intro p e s m below meth c A a9 Q ha9 hx hb hr hml hts hown hlocks hname hK hA hZ hN hQ
  have hown : s.vm.findClass RX12 = some m.cls := hown
  have hiX12 : ∀ w ∈ wsX120, w ∈ .code yX12_draws cX12_draws 2 (some .int) :: wsL_law0 := fun _ h => ki (zs_wsX120 _ h)
  have lf454 := hts (.fieldLink RX12 454 "BeardPassModel" "g" "J") (ki (zr56 0 rfl))
  obtain ⟨X, hX⟩ : ∃ X, X = (Gm_draws a1 r q) := ⟨_, rfl⟩
  intro H locs hw hS ls hl
  have hl : lv_has ls 2 [(0, .ref h0), (1, .int a1)] := hl
  have hE := hX
  unfold Gm_draws at hE
  refine lv_aload_n hx hb dX12_draws_0 rfl (lv_at hl 0 rfl) ?_
  refine lv_aload_n hx hb dX12_draws_1 rfl (lv_at hl 0 rfl) ?_
  refine mget (v := .long (q 154 0)) hx hb hts hiX12 hown hK hw 54 (by decide) lf454 rfl rfl dX12_draws_2 ?_
  refine lv_ldc2 hx hb hown (hts (.constantLong RX12 457 1103515245) (ki (zr56 11 rfl))) dX12_draws_5 ?_
  refine lv_lmul hx hb dX12_draws_8 ?_
  refine lv_ldc2 hx hb hown (hts (.constantLong RX12 459 12345) (ki (zr56 12 rfl))) dX12_draws_9 ?_
  refine lv_ladd hx hb dX12_draws_12 ?_
  refine lv_ldc2 hx hb hown (hts (.constantLong RX12 461 2147483648) (ki (zr56 13 rfl))) dX12_draws_13 ?_
  refine lv_lrem hx hb dX12_draws_16 (by decide) ?_
  refine mput (ty := .long) (v := .long ((((q 154 0) * (1103515245 : Int64)) + (12345 : Int64)) - (((q 154 0) * (1103515245 : Int64)) + (12345 : Int64)) / (2147483648 : Int64) * (2147483648 : Int64))) hx hb hts hiX12 hown hK hw hS 54 (by decide) lf454 rfl rfl (by decide +kernel) rfl rfl dX12_draws_17 _ (zset q 154 (fun _ => (((q 154 0) * (1103515245 : Int64)) + (12345 : Int64)) - (((q 154 0) * (1103515245 : Int64)) + (12345 : Int64)) / (2147483648 : Int64) * (2147483648 : Int64))) mWf54 (fun H locs hw hS => ?_)
  refine mqgen hw (fun q1 eq1 hw => ?_)
  have hE := zletE eq1 hE
  have hq1 : mQ (q1 154 0) := by rw [zq_in eq1]; exact x1.step
  have hn1 : mNm q q1 := by rw [eq1]; exact ⟨zset_ne (by decide), zset_ne (by decide)⟩
  refine lv_aload_n hx hb dX12_draws_20 rfl (lv_at hl 0 rfl) ?_
  refine mget (v := .long (q1 154 0)) hx hb hts hiX12 hown hK hw 54 (by decide) lf454 rfl rfl dX12_draws_21 ?_
  refine lv_ldc2 hx hb hown (hts (.constantLong RX12 463 65536) (ki (zr56 14 rfl))) dX12_draws_24 ?_
  refine lv_ldiv hx hb dX12_draws_27 (by decide) ?_
  refine lv_iload_n hx hb dX12_draws_28 rfl (lv_at hl 1 rfl) ?_
  refine lv_i2l (v := a1.toInt64) hx hb dX12_draws_29 rfl ?_
  refine lv_lrem hx hb dX12_draws_30 (i64ne g1 (by decide)) ?_
  refine lv_l2i (v := (((q1 154 0) / (65536 : Int64)) - ((q1 154 0) / (65536 : Int64)) / a1.toInt64 * a1.toInt64).toInt32) hx hb dX12_draws_31 rfl (zgenE (lo := 0) (hi := 5) ((hq1.draw g1 (by decide))) (fun v2 ev2 hv2 => ?_))
  have hE := zletE ev2 hE
  exact ziretQ hQ hx hb hr rfl hlocks (v2, q1) rfl ⟨hv2, (show mQ (q1 154 0) from hq1), (show mNm q q1 from hn1), (hE.symm.trans hX), trivial⟩ hw hS dX12_draws_32

noncomputable def Gm_livesWeek_96 (w2_1 : Int32) (ih2 : Int32 → zRr → zRq → (zRr × zRq)) (rw96 : zRr) (qw96 : zRq) : zRr × zRq :=
  ih2 (w2_1 + 1) rw96 qw96
noncomputable def Gm_livesWeek_82 (w2_1 : Int32) (ih2 : Int32 → zRr → zRq → (zRr × zRq)) (rw82 : zRr) (qw82 : zRq) : zRr × zRq :=
  zc_vq (Gm_draws20 rw82 qw82) <| fun v3 q4 => zifn (v3 = (0 : Int32)) (Gm_livesWeek_96 w2_1 ih2 rw82 q4) (zlet (α := zRr) ((Gm_shaves w2_1 rw82 q4)) <| fun u7 => Gm_livesWeek_96 w2_1 ih2 u7 q4)
noncomputable def Bm_livesWeek_2 (ih2 : Int32 → zRr → zRq → (zRr × zRq)) (w2_1 : Int32) (rw2 : zRr) (qw2 : zRq) : zRr × zRq :=
  zif ((rw2 1 1) ≤ w2_1) (zlet (α := zRr) ((Gm_passes rw2 qw2)) <| fun u10 => (u10, qw2)) (zlet (α := Int32) (rw2 1 0) <| fun v14 => zc_vq (Gm_draws v14 rw2 qw2) <| fun v16 q17 => zlet (α := Int32) (1 + w2_1) <| fun v18 => zlet (α := Int32) (rw2 32 (zn v18)) <| fun v19 => zlet (α := Int32) (rw2 5 (zn v19)) <| fun v20 => zlet (α := Int32) (v20 >>> (v16 &&& 31)) <| fun v21 => zlet (α := Int32) (v21 &&& 1) <| fun v22 => zifn (v22 = (1 : Int32)) (Gm_livesWeek_82 w2_1 ih2 rw2 q17) (zc_vr (Gm_canGo w2_1 v16 rw2 q17) <| fun v27 r28 => zif (v27 = (0 : Int32)) (zlet (α := Int32) (r28 156 0) <| fun v31 => zlet (α := Int32) (v31 + 1) <| fun v32 => zlet (α := zRr) (zset r28 156 (fun _ => v32)) <| fun r33 => Gm_livesWeek_82 w2_1 ih2 r33 q17) (zlet (α := zRr) ((Gm_goes w2_1 v16 r28 q17)) <| fun u35 => zlet (α := Int32) (u35 155 0) <| fun v37 => zlet (α := Int32) (v37 + 1) <| fun v38 => zlet (α := zRr) (zset u35 155 (fun _ => v38)) <| fun r39 => Gm_livesWeek_82 w2_1 ih2 r39 q17)))
noncomputable def Gm_livesWeek_2 (n : Nat) : Int32 → zRr → zRq → (zRr × zRq) :=
  Nat.rec (motive := fun _ => Int32 → zRr → zRq → (zRr × zRq)) (fun _ rw2 qw2 => (rw2, qw2)) (fun _ ih => Bm_livesWeek_2 ih) n
noncomputable def Gm_livesWeek (r : zRr) (q : zRq) : zRr × zRq :=
  Gm_livesWeek_2 7 0 r q
set_option maxHeartbeats 4000000 in
set_option maxRecDepth 100000 in
theorem mc_livesWeek (l : Launch) (D : va_G) (ct : Nat → ClassId) (h0 : Nat) (y : Nat → Nat) (B : Int) (r : zRr) (q : zRq) (hJ0 : mJ B r) (x1 : mQ (q 154 0)) : zC l yX12_livesWeek (.code yX12_livesWeek cX12_livesWeek 3 none :: wsL_law0) ({ frames := 9, cells := 0, slots := 0, locals := 400 }) D ct [] [.ref h0] (mW ct h0 y r q) (S := zRr × zRq) (fun u => none) (fun u => mJ B u.1 ∧ zFr [15, 16, 17, 18, 19, 20, 21, 22, 23, 24, 32, 155, 156] r u.1 ∧ (mQ (u.2 154 0)) ∧ (mNm q u.2) ∧ u = (Gm_livesWeek r q) ∧ True) (fun u => mW ct h0 y u.1 u.2) 0 0 := by
  refine zofQ cX12_livesWeek 3 none (by decide) rfl (Nat.le_of_ble_eq_true rfl) ?_
  intro p e s m below meth c A a9 Q ha9 hx hb hr hml hts hown hlocks hname hK hA hZ hN hQ
  have hown : s.vm.findClass RX12 = some m.cls := hown
  have hiX12 : ∀ w ∈ wsX120, w ∈ .code yX12_livesWeek cX12_livesWeek 3 none :: wsL_law0 := fun _ h => ki (zs_wsX120 _ h)
  have lf13 := hts (.fieldLink RX12 13 "BeardPassModel" "land" "[I") (ki (zr7 20 rfl))
  have lf26 := hts (.fieldLink RX12 26 "BeardPassModel" "roads" "[I") (ki (zr8 0 rfl))
  have lf108 := hts (.fieldLink RX12 108 "BeardPassModel" "s" "[I") (ki (zr9 4 rfl))
  have lf468 := hts (.fieldLink RX12 468 "BeardPassModel" "gone" "I") (ki (zr56 1 rfl))
  have lf471 := hts (.fieldLink RX12 471 "BeardPassModel" "stopped" "I") (ki (zr56 2 rfl))
  obtain ⟨X, hX⟩ : ∃ X, X = (Gm_livesWeek r q) := ⟨_, rfl⟩
  have cut2 : ∀ (n2 : Nat) (w2_1 : Int32) (rw2 : zRr) (qw2 : zRq) (hw2_1 : zI 0 6 w2_1) (jw2 : mJ B rw2) (fw2 : zFr [15, 16, 17, 18, 19, 20, 21, 22, 23, 24, 32, 155, 156] r rw2) (xq2 : mQ (qw2 154 0)) (xn2 : mNm q qw2) (hE : X = Gm_livesWeek_2 n2 w2_1 rw2 qw2), 6 - w2_1.toInt < (n2 : Int) → zKf p l e ({ frames := 9, cells := 0, slots := 0, locals := 400 }) s m a9 below meth c Q D A 2 3 [] (mW ct h0 y rw2 qw2) [(0, .ref h0), (1, .int w2_1)] := by
    intro n2
    induction n2 with
    | zero => intro w2_1 rw2 qw2 hw2_1 jw2 fw2 xq2 xn2 hE hm2; exact zI.no hw2_1 (by decide) hm2
    | succ n2 ih2 =>
      intro w2_1 rw2 qw2 hw2_1 jw2 fw2 xq2 xn2 hE hm2
      have hE : X = Bm_livesWeek_2 (Gm_livesWeek_2 n2) w2_1 rw2 qw2 := hE
      unfold Bm_livesWeek_2 at hE
      have cut96 : ∀ (rw96 : zRr) (qw96 : zRq) (hw96_1 : zI 0 5 w2_1) (jw96 : mJ B rw96) (fw96 : zFr [15, 16, 17, 18, 19, 20, 21, 22, 23, 24, 32, 155, 156] r rw96) (mw96_1_1 : zI 1 6 (rw96 1 1)) (xq96 : mQ (qw96 154 0)) (xn96 : mNm q qw96) (hE : X = Gm_livesWeek_96 w2_1 (Gm_livesWeek_2 n2) rw96 qw96), zKf p l e ({ frames := 9, cells := 0, slots := 0, locals := 400 }) s m a9 below meth c Q D A 96 3 [] (mW ct h0 y rw96 qw96) [(0, .ref h0), (1, .int w2_1)] := by
        intro rw96 qw96 hw96_1 jw96 fw96 mw96_1_1 xq96 xn96 hE H locs ls hw hS hl
        unfold Gm_livesWeek_96 at hE
        refine lv_iinc (v := w2_1 + 1) (lv' := [(1, .int (w2_1 + 1)), (0, .ref h0)]) hx hb dX12_livesWeek_96 hl (k := 1) rfl (rfl) (by decide) rfl (fun ls hl => ?_)
        have k1 : zI 1 6 (w2_1 + 1) := zI.add hw96_1 (zI.lit (a := 1) (b := 1) (by decide)) (by decide)
        refine lv_goto (tgt := 2) hx hb dX12_livesWeek_99 (by decide) ?_
        exact ih2 (w2_1 + 1) rw96 qw96 (k1.w (c := 0) (d := 6) (by decide)) jw96 fw96 (xq96) (xn96) hE (zI.up hw96_1 (by decide) hm2) H locs ls hw hS (lv_sub hl [1, 0] rfl)
      have cut82 : ∀ (rw82 : zRr) (qw82 : zRq) (hw82_1 : zI 0 5 w2_1) (jw82 : mJ B rw82) (fw82 : zFr [15, 16, 17, 18, 19, 20, 21, 22, 23, 24, 32, 155, 156] r rw82) (mw82_1_1 : zI 1 6 (rw82 1 1)) (xq82 : mQ (qw82 154 0)) (xn82 : mNm q qw82) (hE : X = Gm_livesWeek_82 w2_1 (Gm_livesWeek_2 n2) rw82 qw82), zKf p l e ({ frames := 9, cells := 0, slots := 0, locals := 400 }) s m a9 below meth c Q D A 82 3 [] (mW ct h0 y rw82 qw82) [(0, .ref h0), (1, .int w2_1)] := by
        intro rw82 qw82 hw82_1 jw82 fw82 mw82_1_1 xq82 xn82 hE H locs ls hw hS hl
        unfold Gm_livesWeek_82 at hE
        refine lv_aload_n hx hb dX12_livesWeek_82 rfl (lv_at hl 0 rfl) ?_
        refine lv_bipush (v := 20) hx hb dX12_livesWeek_83 (by decide) ?_
        refine zcallW (va_runV (As := [.int 20]) (rest := []) ⟨hx, hb, hml, hown, hts⟩ (mc_draws20 l D ct h0 y B rw82 qw82 jw82 (xq82) H.size) (cwV 1 hts (kgV (zr56 7 rfl) (zr56 8 rfl) (zr56 9 rfl) (zr1 5 rfl) (zr56 10 rfl)) rfl rfl rfl (by decide +kernel) ⟨Nat.le_of_ble_eq_true rfl, Nat.le_of_ble_eq_true rfl⟩) (zpreV hK hw hS hA zZ.nil hN (List.range (mW ct h0 y rw82 qw82).length) mWn (zrange _) 11 0 rfl mWo) rfl rfl hl.1 rfl (lv_room (Nat.le_of_ble_eq_true rfl)) dX12_livesWeek_85 ⟨Nat.le_of_ble_eq_true rfl, Nat.le_of_ble_eq_true rfl⟩) hw hS hA 88 rfl (fun u2 H locs pu2 hw hS => ?_)
        obtain ⟨v3, q4⟩ := u2
        have hv3 : zI (-2147483648) 2147483647 v3 := pu2.1
        have yu2_0 : mQ (q4 154 0) := pu2.2.1
        have yu2_1 : mNm qw82 q4 := pu2.2.2.1
        have xu2 : (v3, q4) = (Gm_draws20 rw82 qw82) := pu2.2.2.2.1
        have hE := zc_vqE xu2 hE
        have hw : zPD D A (mW ct h0 y rw82 q4) H := hw
        refine zfr 88 [.int v3] rfl rfl ?_
        refine lv_if_ne (tgt := 96) hx hb dX12_livesWeek_88 (by decide) (fun c5 => ?_) (fun c5 => ?_)
        · have hE := zifnT c5 hE
          exact cut96 rw82 q4 hw82_1 jw82 fw82 mw82_1_1 (yu2_0) ((xn82.tr yu2_1)) hE H locs ls hw hS (lv_sub hl [0, 1] rfl)
        · have hE := zifnF c5 hE
          have k6 : zI 0 0 (v3) := zI.eqq c5 (zI.lit (a := 0) (b := 0) (c := 0) (by decide))
          refine lv_aload_n hx hb dX12_livesWeek_91 rfl (lv_at hl 0 rfl) ?_
          refine lv_iload_n hx hb dX12_livesWeek_92 rfl (lv_at hl 1 rfl) ?_
          refine zcallW (va_runV (As := [.int w2_1]) (rest := []) ⟨hx, hb, hml, hown, hts⟩ (mc_shaves l D ct h0 y B w2_1 rw82 q4 hw82_1 jw82 H.size) (cwV 1 hts (kgV (zr38 14 rfl) (zr38 15 rfl) (zr38 16 rfl) (zr1 5 rfl) (zr38 17 rfl)) rfl rfl rfl (by decide +kernel) ⟨Nat.le_of_ble_eq_true rfl, Nat.le_of_ble_eq_true rfl⟩) (zpreV hK hw hS hA zZ.nil hN (List.range (mW ct h0 y rw82 q4).length) mWn (zrange _) 11 0 rfl mWo) rfl rfl hl.1 rfl (lv_room (Nat.le_of_ble_eq_true rfl)) dX12_livesWeek_93 ⟨Nat.le_of_ble_eq_true rfl, Nat.le_of_ble_eq_true rfl⟩) hw hS hA 96 rfl (fun u7 H locs pu7 hw hS => ?_)
          have ju7 : mJ B u7 := pu7.1
          have fu7 : zFr [32] rw82 u7 := pu7.2.1
          have xu7 : u7 = (Gm_shaves w2_1 rw82 q4) := pu7.2.2.1
          have hE := zletE xu7 hE
          have hw : zPD D A (mW ct h0 y u7 q4) H := hw
          refine zfr 96 [] rfl rfl ?_
          exact cut96 u7 q4 hw82_1 ju7 (fw82.tr fu7 rfl) (fu7.at mw82_1_1 rfl) (yu2_0) ((xn82.tr yu2_1)) hE H locs ls hw hS (lv_sub hl [0, 1] rfl)
      intro H locs ls hw hS hl
      refine lv_iload_n hx hb dX12_livesWeek_2 rfl (lv_at hl 1 rfl) ?_
      refine lv_aload_n hx hb dX12_livesWeek_3 rfl (lv_at hl 0 rfl) ?_
      refine mget (v := .ref (y 1)) hx hb hts hiX12 hown hK hw 10 (by decide) lf13 rfl rfl dX12_livesWeek_4 ?_
      refine lv_iconst (v := 1) hx hb dX12_livesWeek_7 (by decide) ?_
      refine ziald hx hb hK hw 2 mWg1 1 (by decide) (by decide) (by decide) dX12_livesWeek_8 ?_
      refine lv_icmp_ge (tgt := 102) hx hb dX12_livesWeek_9 (by decide) (fun c9 => ?_) (fun c9 => ?_)
      · have hE := zifT c9 hE
        refine lv_aload_n hx hb dX12_livesWeek_102 rfl (lv_at hl 0 rfl) ?_
        refine zcallW (va_runV (As := []) (rest := []) ⟨hx, hb, hml, hown, hts⟩ (mc_passes l D ct h0 y B rw2 qw2 jw2 H.size) (cwV 0 hts (kgV (zr39 9 rfl) (zr39 10 rfl) (zr39 11 rfl) (zr1 5 rfl) (zr39 12 rfl)) rfl rfl rfl (by decide +kernel) ⟨Nat.le_of_ble_eq_true rfl, Nat.le_of_ble_eq_true rfl⟩) (zpreV hK hw hS hA zZ.nil hN (List.range (mW ct h0 y rw2 qw2).length) mWn (zrange _) 11 0 rfl mWo) rfl rfl hl.1 rfl (lv_room (Nat.le_of_ble_eq_true rfl)) dX12_livesWeek_103 ⟨Nat.le_of_ble_eq_true rfl, Nat.le_of_ble_eq_true rfl⟩) hw hS hA 106 rfl (fun u10 H locs pu10 hw hS => ?_)
        have ju10 : mJ B u10 := pu10.1
        have fu10 : zFr [32] rw2 u10 := pu10.2.1
        have xu10 : u10 = (Gm_passes rw2 qw2) := pu10.2.2.1
        have hE := zletE xu10 hE
        have hw : zPD D A (mW ct h0 y u10 qw2) H := hw
        refine zfr 106 [] rfl rfl ?_
        exact zvretQ hQ hx hb hr hlocks (u10, qw2) rfl ⟨ju10, (fw2.tr fu10 rfl), (show mQ (qw2 154 0) from xq2), (show mNm q qw2 from xn2), (hE.symm.trans hX), trivial⟩ hw hS dX12_livesWeek_106
      · have hE := zifF c9 hE
        have k12 : zI 0 5 (w2_1) := zI.ltU (zI.nle c9) hw2_1 (show zI 0 6 (rw2 1 1) from jw2.i 1 1) (by decide)
        have k13 : zI 1 6 (rw2 1 1) := zI.ltD (zI.nle c9) hw2_1 (show zI 0 6 (rw2 1 1) from jw2.i 1 1) (by decide)
        refine lv_aload_n hx hb dX12_livesWeek_12 rfl (lv_at hl 0 rfl) ?_
        refine lv_aload_n hx hb dX12_livesWeek_13 rfl (lv_at hl 0 rfl) ?_
        refine mget (v := .ref (y 1)) hx hb hts hiX12 hown hK hw 10 (by decide) lf13 rfl rfl dX12_livesWeek_14 ?_
        refine lv_iconst (v := 0) hx hb dX12_livesWeek_17 (by decide) ?_
        refine ziald hx hb hK hw 2 mWg1 0 (by decide) (by decide) (by decide) dX12_livesWeek_18 (zgenE (lo := 1) (hi := 6) ((mT_use jw2 k12 (zI.nle c9) (by decide))) (fun v14 ev14 hv14 => ?_))
        have hE := zletE ev14 hE
        refine zcallW (va_runV (As := [.int v14]) (rest := []) ⟨hx, hb, hml, hown, hts⟩ (mc_draws l D ct h0 y B v14 rw2 qw2 hv14 jw2 (xq2) H.size) (cwV 1 hts (kgV (zr56 7 rfl) (zr56 8 rfl) (zr56 9 rfl) (zr1 5 rfl) (zr56 10 rfl)) rfl rfl rfl (by decide +kernel) ⟨Nat.le_of_ble_eq_true rfl, Nat.le_of_ble_eq_true rfl⟩) (zpreV hK hw hS hA zZ.nil hN (List.range (mW ct h0 y rw2 qw2).length) mWn (zrange _) 11 0 rfl mWo) rfl rfl hl.1 rfl (lv_room (Nat.le_of_ble_eq_true rfl)) dX12_livesWeek_19 ⟨Nat.le_of_ble_eq_true rfl, Nat.le_of_ble_eq_true rfl⟩) hw hS hA 22 rfl (fun u15 H locs pu15 hw hS => ?_)
        obtain ⟨v16, q17⟩ := u15
        have hv16 : zI 0 5 v16 := pu15.1
        have yu15_0 : mQ (q17 154 0) := pu15.2.1
        have yu15_1 : mNm qw2 q17 := pu15.2.2.1
        have xu15 : (v16, q17) = (Gm_draws v14 rw2 qw2) := pu15.2.2.2.1
        have hE := zc_vqE xu15 hE
        have hw : zPD D A (mW ct h0 y rw2 q17) H := hw
        refine zfr 22 [.int v16] rfl rfl ?_
        refine lv_istore_n (lv' := [(2, .int v16), (0, .ref h0), (1, .int w2_1)]) hx hb dX12_livesWeek_22 rfl hl (by decide) rfl (fun ls hl => ?_)
        refine lv_aload_n hx hb dX12_livesWeek_23 rfl (lv_at hl 1 rfl) ?_
        refine mget (v := .ref (y 5)) hx hb hts hiX12 hown hK hw 14 (by decide) lf26 rfl rfl dX12_livesWeek_24 ?_
        refine lv_aload_n hx hb dX12_livesWeek_27 rfl (lv_at hl 1 rfl) ?_
        refine mget (v := .ref (y 32)) hx hb hts hiX12 hown hK hw 45 (by decide) lf108 rfl rfl dX12_livesWeek_28 ?_
        refine lv_iconst (v := 1) hx hb dX12_livesWeek_31 (by decide) ?_
        refine lv_iload_n hx hb dX12_livesWeek_32 rfl (lv_at hl 2 rfl) ?_
        refine lv_iadd hx hb dX12_livesWeek_33 (zgenE (lo := 1) (hi := 6) (zI.add (zI.lit (a := 1) (b := 1) (c := 1) (by decide)) k12 (by decide)) (fun v18 ev18 hv18 => ?_))
        have hE := zletE ev18 hE
        refine miald hx hb hK hw 33 mWg32 hv18 (by decide) dX12_livesWeek_34 (zgenE (lo := 0) (hi := 5) ((ms_1 jw2 hv18)) (fun v19 ev19 hv19 => ?_))
        have hE := zletE ev19 hE
        refine miald hx hb hK hw 6 mWg5 hv19 (by decide) dX12_livesWeek_35 (zgenE (zI.top _) (fun v20 ev20 _ => ?_))
        have hE := zletE ev20 hE
        refine lv_iload_n hx hb dX12_livesWeek_36 rfl (lv_at hl 0 rfl) ?_
        refine lv_ishr hx hb dX12_livesWeek_37 (zgenE (zI.top _) (fun v21 ev21 _ => ?_))
        have hE := zletE ev21 hE
        refine lv_iconst (v := 1) hx hb dX12_livesWeek_38 (by decide) ?_
        refine lv_iand hx hb dX12_livesWeek_39 (zgenE (lo := 0) (hi := 1) (zI.and (zI.lit (a := 1) (b := 1) (c := 1) (by decide)) (by decide)) (fun v22 ev22 hv22 => ?_))
        have hE := zletE ev22 hE
        refine lv_iconst (v := 1) hx hb dX12_livesWeek_40 (by decide) ?_
        refine lv_icmp_ne (tgt := 82) hx hb dX12_livesWeek_41 (by decide) (fun c23 => ?_) (fun c23 => ?_)
        · have hE := zifnT c23 hE
          have k24 : zI 0 0 (v22) := zI.neU c23 hv22 (zI.lit (a := 1) (b := 1) (c := 1) (by decide)) (by decide)
          exact cut82 rw2 q17 k12 jw2 fw2 k13 (yu15_0) ((xn2.tr yu15_1)) hE H locs ls hw hS (lv_sub hl [1, 2] rfl)
        · have hE := zifnF c23 hE
          have k25 : zI 1 1 (v22) := zI.eqq c23 (zI.lit (a := 1) (b := 1) (c := 1) (by decide))
          refine lv_aload_n hx hb dX12_livesWeek_44 rfl (lv_at hl 1 rfl) ?_
          refine lv_iload_n hx hb dX12_livesWeek_45 rfl (lv_at hl 2 rfl) ?_
          refine lv_iload_n hx hb dX12_livesWeek_46 rfl (lv_at hl 0 rfl) ?_
          refine zcallW (va_runV (As := [.int w2_1, .int v16]) (rest := []) ⟨hx, hb, hml, hown, hts⟩ (mc_canGo l D ct h0 y B w2_1 v16 rw2 q17 k12 hv16 jw2 H.size) (cwV 2 hts (kgV (zr36 9 rfl) (zr36 10 rfl) (zr36 11 rfl) (zr1 5 rfl) (zr36 12 rfl)) rfl rfl rfl (by decide +kernel) ⟨Nat.le_of_ble_eq_true rfl, Nat.le_of_ble_eq_true rfl⟩) (zpreV hK hw hS hA zZ.nil hN (List.range (mW ct h0 y rw2 q17).length) mWn (zrange _) 11 0 rfl mWo) rfl rfl hl.1 rfl (lv_room (Nat.le_of_ble_eq_true rfl)) dX12_livesWeek_47 ⟨Nat.le_of_ble_eq_true rfl, Nat.le_of_ble_eq_true rfl⟩) hw hS hA 50 rfl (fun u26 H locs pu26 hw hS => ?_)
          obtain ⟨v27, r28⟩ := u26
          have hv27 : zI 0 1 v27 := pu26.1
          have ju26 : mJ B r28 := pu26.2.1
          have fu26 : zFr [15, 16, 17, 18, 19, 20, 21, 22, 23, 24] rw2 r28 := pu26.2.2.1
          have xu26 : (v27, r28) = (Gm_canGo w2_1 v16 rw2 q17) := pu26.2.2.2.1
          have hE := zc_vrE xu26 hE
          have hw : zPD D A (mW ct h0 y r28 q17) H := hw
          refine zfr 50 [.int v27] rfl rfl ?_
          refine lv_if_eq (tgt := 72) hx hb dX12_livesWeek_50 (by decide) (fun c29 => ?_) (fun c29 => ?_)
          · have hE := zifT c29 hE
            have k30 : zI 0 0 (v27) := zI.eqq c29 (zI.lit (a := 0) (b := 0) (c := 0) (by decide))
            refine lv_aload_n hx hb dX12_livesWeek_72 rfl (lv_at hl 1 rfl) ?_
            refine lv_dup hx hb dX12_livesWeek_73 rfl ?_
            refine mget (v := .int (r28 156 0)) hx hb hts hiX12 hown hK hw 56 (by decide) lf471 rfl rfl dX12_livesWeek_74 (zgenE (zI.top _) (fun v31 ev31 _ => ?_))
            have hE := zletE ev31 hE
            refine lv_iconst (v := 1) hx hb dX12_livesWeek_77 (by decide) ?_
            refine lv_iadd hx hb dX12_livesWeek_78 (zgenE (zI.top _) (fun v32 ev32 _ => ?_))
            have hE := zletE ev32 hE
            refine mput (ty := .int) (v := .int v32) hx hb hts hiX12 hown hK hw hS 56 (by decide) lf471 rfl rfl (by decide +kernel) rfl rfl dX12_livesWeek_79 (zset r28 156 (fun _ => v32)) _ mWf56 (fun H locs hw hS => ?_)
            refine mgen (P := fun x => mJ B x ∧ zFr [15, 16, 17, 18, 19, 20, 21, 22, 23, 24, 32, 155, 156] r x) hw ⟨ju26.setc rfl (fun _ => (zI.top _)), (fw2.tr fu26 rfl).set rfl⟩ (fun r33 er33 hw pr33 => ?_)
            have hE := zletE er33 hE
            exact cut82 r33 q17 k12 pr33.1 pr33.2 (zs_at er33 (fu26.at k13 rfl) (by decide)) (yu15_0) ((xn2.tr yu15_1)) hE H locs ls hw hS (lv_sub hl [1, 2] rfl)
          · have hE := zifF c29 hE
            have k34 : zI 1 1 (v27) := zI.neD c29 hv27 (zI.lit (a := 0) (b := 0) (c := 0) (by decide)) (by decide)
            refine lv_aload_n hx hb dX12_livesWeek_53 rfl (lv_at hl 1 rfl) ?_
            refine lv_iload_n hx hb dX12_livesWeek_54 rfl (lv_at hl 2 rfl) ?_
            refine lv_iload_n hx hb dX12_livesWeek_55 rfl (lv_at hl 0 rfl) ?_
            refine zcallW (va_runV (As := [.int w2_1, .int v16]) (rest := []) ⟨hx, hb, hml, hown, hts⟩ (mc_goes l D ct h0 y B w2_1 v16 r28 q17 k12 hv16 ju26 H.size) (cwV 2 hts (kgV (zr36 20 rfl) (zr36 21 rfl) (zr36 22 rfl) (zr1 5 rfl) (zr36 23 rfl)) rfl rfl rfl (by decide +kernel) ⟨Nat.le_of_ble_eq_true rfl, Nat.le_of_ble_eq_true rfl⟩) (zpreV hK hw hS hA zZ.nil hN (List.range (mW ct h0 y r28 q17).length) mWn (zrange _) 11 0 rfl mWo) rfl rfl hl.1 rfl (lv_room (Nat.le_of_ble_eq_true rfl)) dX12_livesWeek_56 ⟨Nat.le_of_ble_eq_true rfl, Nat.le_of_ble_eq_true rfl⟩) hw hS hA 59 rfl (fun u35 H locs pu35 hw hS => ?_)
            have ju35 : mJ B u35 := pu35.1
            have fu35 : zFr [32] r28 u35 := pu35.2.1
            have xu35 : u35 = (Gm_goes w2_1 v16 r28 q17) := pu35.2.2.1
            have hE := zletE xu35 hE
            have hw : zPD D A (mW ct h0 y u35 q17) H := hw
            refine zfr 59 [] rfl rfl ?_
            refine lv_aload_n hx hb dX12_livesWeek_59 rfl (lv_at hl 1 rfl) ?_
            refine lv_dup hx hb dX12_livesWeek_60 rfl ?_
            refine mget (v := .int (u35 155 0)) hx hb hts hiX12 hown hK hw 55 (by decide) lf468 rfl rfl dX12_livesWeek_61 (zgenE (zI.top _) (fun v37 ev37 _ => ?_))
            have hE := zletE ev37 hE
            refine lv_iconst (v := 1) hx hb dX12_livesWeek_64 (by decide) ?_
            refine lv_iadd hx hb dX12_livesWeek_65 (zgenE (zI.top _) (fun v38 ev38 _ => ?_))
            have hE := zletE ev38 hE
            refine mput (ty := .int) (v := .int v38) hx hb hts hiX12 hown hK hw hS 55 (by decide) lf468 rfl rfl (by decide +kernel) rfl rfl dX12_livesWeek_66 (zset u35 155 (fun _ => v38)) _ mWf55 (fun H locs hw hS => ?_)
            refine mgen (P := fun x => mJ B x ∧ zFr [15, 16, 17, 18, 19, 20, 21, 22, 23, 24, 32, 155, 156] r x) hw ⟨ju35.setc rfl (fun _ => (zI.top _)), ((fw2.tr fu26 rfl).tr fu35 rfl).set rfl⟩ (fun r39 er39 hw pr39 => ?_)
            have hE := zletE er39 hE
            refine lv_goto (tgt := 82) hx hb dX12_livesWeek_69 (by decide) ?_
            exact cut82 r39 q17 k12 pr39.1 pr39.2 (zs_at er39 (fu35.at (fu26.at k13 rfl) rfl) (by decide)) (yu15_0) ((xn2.tr yu15_1)) hE H locs ls hw hS (lv_sub hl [1, 2] rfl)
  intro H locs hw hS ls hl
  have hl : lv_has ls 3 [(0, .ref h0)] := hl
  have hE := hX
  unfold Gm_livesWeek at hE
  refine lv_iconst (v := 0) hx hb dX12_livesWeek_0 (by decide) ?_
  refine lv_istore_n (lv' := [(1, .int 0), (0, .ref h0)]) hx hb dX12_livesWeek_1 rfl hl (by decide) rfl (fun ls hl => ?_)
  exact cut2 7 0 r q ((zI.lit (a := 0) (b := 0) (c := 0) (by decide)).w (c := 0) (d := 6) (by decide)) hJ0 (zFr.refl) (x1) (mNm.refl) hE (zI.m0 (zI.lit (a := 0) (b := 0) (c := 0) (by decide)) (by decide)) H locs ls hw hS (lv_sub hl [1, 0] rfl)

noncomputable def Bm_years_69 (a2 : Int32) (a3 : Int32) (ih69 : Int32 → zRr → zRq → (Int32 × zRr × zRq)) (w69_4 : Int32) (rw69 : zRr) (qw69 : zRq) : Int32 × zRr × zRq :=
  zif (a2 ≤ w69_4) (zlet (α := Int32) ((Gm_peopled rw69 qw69)) <| fun u3 => zlet (α := zRr) (zset rw69 32 (zcp (rw69 33) (rw69 32) (0) (0) 31)) <| fun r5 => zifn (a3 = (0 : Int32)) (zifn (a3 = (1 : Int32)) ((u3, r5, qw69)) (zlet (α := Int32) (r5 156 0) <| fun v11 => (v11, r5, qw69))) (zlet (α := Int32) (r5 155 0) <| fun v13 => (v13, r5, qw69))) (zc_rq (Gm_livesWeek rw69 qw69) <| fun r16 q17 => ih69 (w69_4 + 1) r16 q17)
noncomputable def Gm_years_69 (a2 : Int32) (a3 : Int32) (n : Nat) : Int32 → zRr → zRq → (Int32 × zRr × zRq) :=
  Nat.rec (motive := fun _ => Int32 → zRr → zRq → (Int32 × zRr × zRq)) (fun _ rw69 qw69 => (default, rw69, qw69)) (fun _ ih => Bm_years_69 a2 a3 ih) n
noncomputable def Gm_years (a1 : Int32) (a2 : Int32) (a3 : Int32) (r : zRr) (q : zRq) : Int32 × zRr × zRq :=
  zlet (α := zRr) (zset r 100 (fun _ => (0 : Int32))) <| fun r19 => zlet (α := Int32) ((Gm_within a1 (0 : Int32) (9999 : Int32))) <| fun u20 => zif (u20 = (0 : Int32)) ((((-1) : Int32), r19, q)) (zlet (α := Int32) ((Gm_within a2 (1 : Int32) (99 : Int32))) <| fun u27 => zif (u27 = (0 : Int32)) ((((-1) : Int32), r19, q)) (zlet (α := Int32) ((Gm_within a3 (0 : Int32) (2 : Int32))) <| fun u34 => zifn (u34 = (0 : Int32)) (zlet (α := zRq) (zset q 154 (fun _ => a1.toInt64)) <| fun q40 => zlet (α := zRr) (zset r19 155 (fun _ => (0 : Int32))) <| fun r41 => zlet (α := zRr) (zset r41 156 (fun _ => (0 : Int32))) <| fun r42 => zlet (α := zRr) (zset r42 33 (zcp (r42 32) (r42 33) (0) (0) 31)) <| fun r43 => Gm_years_69 a2 a3 100 0 r43 q40) ((((-1) : Int32), r19, q))))
set_option maxHeartbeats 4000000 in
set_option maxRecDepth 100000 in
theorem mc_years (l : Launch) (D : va_G) (ct : Nat → ClassId) (h0 : Nat) (y : Nat → Nat) (a1 : Int32) (a2 : Int32) (a3 : Int32) (r : zRr) (q : zRq) (hJ0 : mJ 20 r) : zC l yX12_years (.code yX12_years cX12_years 5 (some .int) :: wsL_law0) ({ frames := 10, cells := 0, slots := 0, locals := 440 }) D ct [] [.ref h0, .int a1, .int a2, .int a3] (mW ct h0 y r q) (S := Int32 × zRr × zRq) (fun u => some (.int u.1)) (fun u => zI (-2147483648) 2147483647 u.1 ∧ mJ 20 u.2.1 ∧ zFr [15, 16, 17, 18, 19, 20, 21, 22, 23, 24, 32, 155, 156, 33, 100] r u.2.1 ∧ (mNm q u.2.2) ∧ u = (Gm_years a1 a2 a3 r q) ∧ True) (fun u => mW ct h0 y u.2.1 u.2.2) 0 0 := by
  refine zofQ cX12_years 5 (some .int) (by decide) rfl (Nat.le_of_ble_eq_true rfl) ?_
  intro p e s m below meth c A a9 Q ha9 hx hb hr hml hts hown hlocks hname hK hA hZ hN hQ
  have hown : s.vm.findClass RX12 = some m.cls := hown
  have hiX12 : ∀ w ∈ wsX120, w ∈ .code yX12_years cX12_years 5 (some .int) :: wsL_law0 := fun _ h => ki (zs_wsX120 _ h)
  have lf108 := hts (.fieldLink RX12 108 "BeardPassModel" "s" "[I") (ki (zr9 4 rfl))
  have lf111 := hts (.fieldLink RX12 111 "BeardPassModel" "aside" "[I") (ki (zr9 5 rfl))
  have lf129 := hts (.fieldLink RX12 129 "BeardPassModel" "thrown" "I") (ki (zr10 1 rfl))
  have lf454 := hts (.fieldLink RX12 454 "BeardPassModel" "g" "J") (ki (zr56 0 rfl))
  have lf468 := hts (.fieldLink RX12 468 "BeardPassModel" "gone" "I") (ki (zr56 1 rfl))
  have lf471 := hts (.fieldLink RX12 471 "BeardPassModel" "stopped" "I") (ki (zr56 2 rfl))
  obtain ⟨X, hX⟩ : ∃ X, X = (Gm_years a1 a2 a3 r q) := ⟨_, rfl⟩
  have cut69 : ∀ (n69 : Nat) (w69_4 : Int32) (rw69 : zRr) (qw69 : zRq) (hw69_2 : zI 1 99 a2) (hw69_3 : zI 0 2 a3) (hw69_4 : zI 0 99 w69_4) (jw69 : mJ 20 rw69) (fw69 : zFr [15, 16, 17, 18, 19, 20, 21, 22, 23, 24, 32, 155, 156, 33, 100] r rw69) (xq69 : mQ (qw69 154 0)) (xn69 : mNm q qw69) (hE : X = Gm_years_69 a2 a3 n69 w69_4 rw69 qw69), 99 - w69_4.toInt < (n69 : Int) → zKf p l e ({ frames := 10, cells := 0, slots := 0, locals := 440 }) s m a9 below meth c Q D A 69 5 [] (mW ct h0 y rw69 qw69) [(0, .ref h0), (2, .int a2), (3, .int a3), (4, .int w69_4)] := by
    intro n69
    induction n69 with
    | zero => intro w69_4 rw69 qw69 hw69_2 hw69_3 hw69_4 jw69 fw69 xq69 xn69 hE hm69; exact zI.no hw69_4 (by decide) hm69
    | succ n69 ih69 =>
      intro w69_4 rw69 qw69 hw69_2 hw69_3 hw69_4 jw69 fw69 xq69 xn69 hE hm69
      have hE : X = Bm_years_69 a2 a3 (Gm_years_69 a2 a3 n69) w69_4 rw69 qw69 := hE
      unfold Bm_years_69 at hE
      intro H locs ls hw hS hl
      refine lv_iload hx hb dX12_years_69 (lv_at hl 3 rfl) ?_
      refine lv_iload_n hx hb dX12_years_71 rfl (lv_at hl 1 rfl) ?_
      refine lv_icmp_ge (tgt := 85) hx hb dX12_years_72 (by decide) (fun c1 => ?_) (fun c1 => ?_)
      · have hE := zifT c1 hE
        have k2 : zI 1 99 (w69_4) := zI.leD c1 hw69_2 hw69_4 (by decide)
        refine lv_aload_n hx hb dX12_years_85 rfl (lv_at hl 0 rfl) ?_
        refine zcallW (va_runV (As := []) (rest := []) ⟨hx, hb, hml, hown, hts⟩ (mc_peopled l D ct h0 y 20 rw69 qw69 jw69 H.size) (cwV 0 hts (kgV (zr56 15 rfl) (zr56 16 rfl) (zr56 17 rfl) (zr1 5 rfl) (zr56 18 rfl)) rfl rfl rfl (by decide +kernel) ⟨Nat.le_of_ble_eq_true rfl, Nat.le_of_ble_eq_true rfl⟩) (zpreV hK hw hS hA zZ.nil hN (List.range (mW ct h0 y rw69 qw69).length) mWn (zrange _) 11 0 rfl mWo) rfl rfl hl.1 rfl (lv_room (Nat.le_of_ble_eq_true rfl)) dX12_years_86 ⟨Nat.le_of_ble_eq_true rfl, Nat.le_of_ble_eq_true rfl⟩) hw hS hA 89 rfl (fun u3 H locs pu3 hw hS => ?_)
        have hu3 : zI 0 63 u3 := pu3.1
        have xu3 : u3 = (Gm_peopled rw69 qw69) := pu3.2.1
        have hE := zletE xu3 hE
        have hw : zPD D A (mW ct h0 y rw69 qw69) H := hw
        refine zfr 89 [.int u3] rfl rfl ?_
        refine lv_istore (lv' := [(4, .int u3), (0, .ref h0), (2, .int a2), (3, .int a3)]) hx hb dX12_years_89 hl (by decide) rfl (fun ls hl => ?_)
        refine lv_aload_n hx hb dX12_years_91 rfl (lv_at hl 1 rfl) ?_
        refine mget (v := .ref (y 33)) hx hb hts hiX12 hown hK hw 46 (by decide) lf111 rfl rfl dX12_years_92 ?_
        refine lv_iconst (v := 0) hx hb dX12_years_95 (by decide) ?_
        refine lv_aload_n hx hb dX12_years_96 rfl (lv_at hl 1 rfl) ?_
        refine mget (v := .ref (y 32)) hx hb hts hiX12 hown hK hw 45 (by decide) lf108 rfl rfl dX12_years_97 ?_
        refine lv_iconst (v := 0) hx hb dX12_years_100 (by decide) ?_
        refine zcall2 (va_runS (As := [.ref (y 33), .int 0, .ref (y 32), .int 0]) (rest := []) ⟨hx, hb, hml, hown, hts⟩ (c_copies l D ct (y 33) (0) (y 32) (0) 31 31 (rw69 33) (rw69 32) (by decide) (by decide) (by decide) (by decide) H.size) (va_cwS 4 hts (kgSm (zr36 17 rfl) (zr36 18 rfl) (zr1 5 rfl) mL_X12_copies) rfl rfl rfl (by decide +kernel) ⟨Nat.le_of_ble_eq_true rfl, Nat.le_of_ble_eq_true rfl⟩) (zpreS hK hw hS hA zZ.nil hN [34, 33] rfl rfl) rfl rfl hl.1 rfl (lv_room (Nat.le_of_ble_eq_true rfl)) dX12_years_101 ⟨Nat.le_of_ble_eq_true rfl, Nat.le_of_ble_eq_true rfl⟩) hw hS hA [34, 33] [0, 1, 2, 3, 4, 5, 6, 7, 8, 9, 10, 11, 12, 13, 14, 15, 16, 17, 18, 19, 20, 21, 22, 23, 24, 25, 26, 27, 28, 29, 30, 31, 32, 35, 36, 37, 38, 39] rfl rfl rfl rfl (fun _ H locs _ hw hS => ?_)
        have hw : zPD D A (mW ct h0 y (zset rw69 32 (zcp (rw69 33) (rw69 32) (0) (0) 31)) qw69) H := hw.sub [0, 1, 2, 3, 4, 5, 6, 7, 8, 9, 10, 11, 12, 13, 14, 15, 16, 17, 18, 19, 20, 21, 22, 23, 24, 25, 26, 27, 28, 29, 30, 31, 32, 39, 38, 33, 34, 35, 36, 37] rfl rfl
        refine zfr 104 [] rfl rfl ?_
        refine mgen (P := fun x => mJ 20 x ∧ zFr [15, 16, 17, 18, 19, 20, 21, 22, 23, 24, 32, 155, 156, 33, 100] r x) hw ⟨mcp_s jw69 (Or.inl ⟨Or.inl rfl, rfl⟩), fw69.set rfl⟩ (fun r5 er5 hw pr5 => ?_)
        have hE := zletE er5 hE
        refine lv_iload_n hx hb dX12_years_104 rfl (lv_at hl 3 rfl) ?_
        refine lv_if_ne (tgt := 115) hx hb dX12_years_105 (by decide) (fun c6 => ?_) (fun c6 => ?_)
        · have hE := zifnT c6 hE
          have k7 : zI 1 2 (a3) := zI.neD c6 hw69_3 (zI.lit (a := 0) (b := 0) (c := 0) (by decide)) (by decide)
          refine lv_iload_n hx hb dX12_years_115 rfl (lv_at hl 3 rfl) ?_
          refine lv_iconst (v := 1) hx hb dX12_years_116 (by decide) ?_
          refine lv_icmp_ne (tgt := 127) hx hb dX12_years_117 (by decide) (fun c8 => ?_) (fun c8 => ?_)
          · have hE := zifnT c8 hE
            have k9 : zI 2 2 (a3) := zI.neD c8 k7 (zI.lit (a := 1) (b := 1) (c := 1) (by decide)) (by decide)
            refine lv_iload hx hb dX12_years_127 (lv_at hl 0 rfl) ?_
            exact ziretQ hQ hx hb hr rfl hlocks (u3, r5, qw69) rfl ⟨(zI.top _), pr5.1, pr5.2, (show mNm q qw69 from xn69), (hE.symm.trans hX), trivial⟩ hw hS dX12_years_129
          · have hE := zifnF c8 hE
            have k10 : zI 1 1 (a3) := zI.eqq c8 (zI.lit (a := 1) (b := 1) (c := 1) (by decide))
            refine lv_aload_n hx hb dX12_years_120 rfl (lv_at hl 1 rfl) ?_
            refine mget (v := .int (r5 156 0)) hx hb hts hiX12 hown hK hw 56 (by decide) lf471 rfl rfl dX12_years_121 (zgenE (zI.top _) (fun v11 ev11 _ => ?_))
            have hE := zletE ev11 hE
            refine lv_goto (tgt := 129) hx hb dX12_years_124 (by decide) ?_
            exact ziretQ hQ hx hb hr rfl hlocks (v11, r5, qw69) rfl ⟨(zI.top _), pr5.1, pr5.2, (show mNm q qw69 from xn69), (hE.symm.trans hX), trivial⟩ hw hS dX12_years_129
        · have hE := zifnF c6 hE
          have k12 : zI 0 0 (a3) := zI.eqq c6 (zI.lit (a := 0) (b := 0) (c := 0) (by decide))
          refine lv_aload_n hx hb dX12_years_108 rfl (lv_at hl 1 rfl) ?_
          refine mget (v := .int (r5 155 0)) hx hb hts hiX12 hown hK hw 55 (by decide) lf468 rfl rfl dX12_years_109 (zgenE (zI.top _) (fun v13 ev13 _ => ?_))
          have hE := zletE ev13 hE
          refine lv_goto (tgt := 129) hx hb dX12_years_112 (by decide) ?_
          exact ziretQ hQ hx hb hr rfl hlocks (v13, r5, qw69) rfl ⟨(zI.top _), pr5.1, pr5.2, (show mNm q qw69 from xn69), (hE.symm.trans hX), trivial⟩ hw hS dX12_years_129
      · have hE := zifF c1 hE
        have k14 : zI 0 98 (w69_4) := zI.ltU (zI.nle c1) hw69_4 hw69_2 (by decide)
        refine lv_aload_n hx hb dX12_years_75 rfl (lv_at hl 0 rfl) ?_
        refine zcallW (va_runV (As := []) (rest := []) ⟨hx, hb, hml, hown, hts⟩ (mc_livesWeek l D ct h0 y 20 rw69 qw69 jw69 (xq69) H.size) (cwV 0 hts (kgV (zr56 3 rfl) (zr56 4 rfl) (zr56 5 rfl) (zr1 5 rfl) (zr56 6 rfl)) rfl rfl rfl (by decide +kernel) ⟨Nat.le_of_ble_eq_true rfl, Nat.le_of_ble_eq_true rfl⟩) (zpreV hK hw hS hA zZ.nil hN (List.range (mW ct h0 y rw69 qw69).length) mWn (zrange _) 11 0 rfl mWo) rfl rfl hl.1 rfl (lv_room (Nat.le_of_ble_eq_true rfl)) dX12_years_76 ⟨Nat.le_of_ble_eq_true rfl, Nat.le_of_ble_eq_true rfl⟩) hw hS hA 79 rfl (fun u15 H locs pu15 hw hS => ?_)
        obtain ⟨r16, q17⟩ := u15
        have ju15 : mJ 20 r16 := pu15.1
        have fu15 : zFr [15, 16, 17, 18, 19, 20, 21, 22, 23, 24, 32, 155, 156] rw69 r16 := pu15.2.1
        have yu15_0 : mQ (q17 154 0) := pu15.2.2.1
        have yu15_1 : mNm qw69 q17 := pu15.2.2.2.1
        have xu15 : (r16, q17) = (Gm_livesWeek rw69 qw69) := pu15.2.2.2.2.1
        have hE := zc_rqE xu15 hE
        have hw : zPD D A (mW ct h0 y r16 q17) H := hw
        refine zfr 79 [] rfl rfl ?_
        refine lv_iinc (v := w69_4 + 1) (lv' := [(4, .int (w69_4 + 1)), (0, .ref h0), (2, .int a2), (3, .int a3)]) hx hb dX12_years_79 hl (k := 3) rfl (rfl) (by decide) rfl (fun ls hl => ?_)
        have k18 : zI 1 99 (w69_4 + 1) := zI.add k14 (zI.lit (a := 1) (b := 1) (by decide)) (by decide)
        refine lv_goto (tgt := 69) hx hb dX12_years_82 (by decide) ?_
        exact ih69 (w69_4 + 1) r16 q17 hw69_2 hw69_3 (k18.w (c := 0) (d := 99) (by decide)) ju15 (fw69.tr fu15 rfl) (yu15_0) ((xn69.tr yu15_1)) hE (zI.up k14 (by decide) hm69) H locs ls hw hS (lv_sub hl [1, 2, 3, 0] rfl)
  intro H locs hw hS ls hl
  have hl : lv_has ls 5 [(0, .ref h0), (1, .int a1), (2, .int a2), (3, .int a3)] := hl
  have hE := hX
  unfold Gm_years at hE
  refine lv_aload_n hx hb dX12_years_0 rfl (lv_at hl 0 rfl) ?_
  refine lv_iconst (v := 0) hx hb dX12_years_1 (by decide) ?_
  refine mput (ty := .int) (v := .int 0) hx hb hts hiX12 hown hK hw hS 0 (by decide) lf129 rfl rfl (by decide +kernel) rfl rfl dX12_years_2 (zset r 100 (fun _ => (0 : Int32))) _ mWf0 (fun H locs hw hS => ?_)
  refine mgen (P := fun x => mJ 20 x ∧ zFr [15, 16, 17, 18, 19, 20, 21, 22, 23, 24, 32, 155, 156, 33, 100] r x) hw ⟨hJ0.setc rfl (fun _ => (zI.top _)), (zFr.refl).set rfl⟩ (fun r19 er19 hw pr19 => ?_)
  have hE := zletE er19 hE
  refine lv_iload_n hx hb dX12_years_5 rfl (lv_at hl 1 rfl) ?_
  refine lv_iconst (v := 0) hx hb dX12_years_6 (by decide) ?_
  refine lv_sipush (v := 9999) hx hb dX12_years_7 (by decide) ?_
  refine zcallE (va_runS (As := [.int a1, .int 0, .int 9999]) (rest := []) ⟨hx, hb, hml, hown, hts⟩ (mc_within l D ct a1 0 9999 H.size) (va_cwS 3 hts (kgS (zr25 11 rfl) (zr25 12 rfl) (zr1 5 rfl) (zr25 13 rfl)) rfl rfl rfl (by decide +kernel) ⟨Nat.le_of_ble_eq_true rfl, Nat.le_of_ble_eq_true rfl⟩) (zpreS hK hw hS hA zZ.nil hN [] rfl rfl) rfl rfl hl.1 rfl (lv_room (Nat.le_of_ble_eq_true rfl)) dX12_years_10 ⟨Nat.le_of_ble_eq_true rfl, Nat.le_of_ble_eq_true rfl⟩) hw hS hA mWn 13 rfl (fun u20 H locs pu20 hw hS => ?_)
  have hu20 : zI 0 1 u20 := pu20.1
  have yu20_0 : ¬ u20 = 0 → (0 : Int32) ≤ a1 ∧ a1 ≤ (9999 : Int32) := pu20.2.1
  have xu20 : u20 = (Gm_within a1 (0 : Int32) (9999 : Int32)) := pu20.2.2.1
  have hE := zletE xu20 hE
  refine zfr 13 [.int u20] rfl rfl ?_
  refine lv_if_eq (tgt := 35) hx hb dX12_years_13 (by decide) (fun c22 => ?_) (fun c22 => ?_)
  · have hE := zifT c22 hE
    have k23 : zI 0 0 (u20) := zI.eqq c22 (zI.lit (a := 0) (b := 0) (c := 0) (by decide))
    refine lv_iconst (v := (-1)) hx hb dX12_years_35 (by decide) ?_
    exact ziretQ hQ hx hb hr rfl hlocks ((-1), r19, q) rfl ⟨(zI.top _), pr19.1, pr19.2, (show mNm q q from mNm.refl), (hE.symm.trans hX), trivial⟩ hw hS dX12_years_36
  · have hE := zifF c22 hE
    have k24 : zI 1 1 (u20) := zI.neD c22 hu20 (zI.lit (a := 0) (b := 0) (c := 0) (by decide)) (by decide)
    have k25 : zI 0 2147483647 (a1) := zI.leD (yu20_0 c22).1 (zI.lit (a := 0) (b := 0) (c := 0) (by decide)) (zI.top _) (by decide)
    have k26 : zI 0 9999 (a1) := zI.leU (yu20_0 c22).2 k25 (zI.lit (a := 9999) (b := 9999) (c := 9999) (by decide)) (by decide)
    refine lv_iload_n hx hb dX12_years_16 rfl (lv_at hl 2 rfl) ?_
    refine lv_iconst (v := 1) hx hb dX12_years_17 (by decide) ?_
    refine lv_bipush (v := 99) hx hb dX12_years_18 (by decide) ?_
    refine zcallE (va_runS (As := [.int a2, .int 1, .int 99]) (rest := []) ⟨hx, hb, hml, hown, hts⟩ (mc_within l D ct a2 1 99 H.size) (va_cwS 3 hts (kgS (zr25 11 rfl) (zr25 12 rfl) (zr1 5 rfl) (zr25 13 rfl)) rfl rfl rfl (by decide +kernel) ⟨Nat.le_of_ble_eq_true rfl, Nat.le_of_ble_eq_true rfl⟩) (zpreS hK hw hS hA zZ.nil hN [] rfl rfl) rfl rfl hl.1 rfl (lv_room (Nat.le_of_ble_eq_true rfl)) dX12_years_20 ⟨Nat.le_of_ble_eq_true rfl, Nat.le_of_ble_eq_true rfl⟩) hw hS hA mWn 23 rfl (fun u27 H locs pu27 hw hS => ?_)
    have hu27 : zI 0 1 u27 := pu27.1
    have yu27_0 : ¬ u27 = 0 → (1 : Int32) ≤ a2 ∧ a2 ≤ (99 : Int32) := pu27.2.1
    have xu27 : u27 = (Gm_within a2 (1 : Int32) (99 : Int32)) := pu27.2.2.1
    have hE := zletE xu27 hE
    refine zfr 23 [.int u27] rfl rfl ?_
    refine lv_if_eq (tgt := 35) hx hb dX12_years_23 (by decide) (fun c29 => ?_) (fun c29 => ?_)
    · have hE := zifT c29 hE
      have k30 : zI 0 0 (u27) := zI.eqq c29 (zI.lit (a := 0) (b := 0) (c := 0) (by decide))
      refine lv_iconst (v := (-1)) hx hb dX12_years_35 (by decide) ?_
      exact ziretQ hQ hx hb hr rfl hlocks ((-1), r19, q) rfl ⟨(zI.top _), pr19.1, pr19.2, (show mNm q q from mNm.refl), (hE.symm.trans hX), trivial⟩ hw hS dX12_years_36
    · have hE := zifF c29 hE
      have k31 : zI 1 1 (u27) := zI.neD c29 hu27 (zI.lit (a := 0) (b := 0) (c := 0) (by decide)) (by decide)
      have k32 : zI 1 2147483647 (a2) := zI.leD (yu27_0 c29).1 (zI.lit (a := 1) (b := 1) (c := 1) (by decide)) (zI.top _) (by decide)
      have k33 : zI 1 99 (a2) := zI.leU (yu27_0 c29).2 k32 (zI.lit (a := 99) (b := 99) (c := 99) (by decide)) (by decide)
      refine lv_iload_n hx hb dX12_years_26 rfl (lv_at hl 3 rfl) ?_
      refine lv_iconst (v := 0) hx hb dX12_years_27 (by decide) ?_
      refine lv_iconst (v := 2) hx hb dX12_years_28 (by decide) ?_
      refine zcallE (va_runS (As := [.int a3, .int 0, .int 2]) (rest := []) ⟨hx, hb, hml, hown, hts⟩ (mc_within l D ct a3 0 2 H.size) (va_cwS 3 hts (kgS (zr25 11 rfl) (zr25 12 rfl) (zr1 5 rfl) (zr25 13 rfl)) rfl rfl rfl (by decide +kernel) ⟨Nat.le_of_ble_eq_true rfl, Nat.le_of_ble_eq_true rfl⟩) (zpreS hK hw hS hA zZ.nil hN [] rfl rfl) rfl rfl hl.1 rfl (lv_room (Nat.le_of_ble_eq_true rfl)) dX12_years_29 ⟨Nat.le_of_ble_eq_true rfl, Nat.le_of_ble_eq_true rfl⟩) hw hS hA mWn 32 rfl (fun u34 H locs pu34 hw hS => ?_)
      have hu34 : zI 0 1 u34 := pu34.1
      have yu34_0 : ¬ u34 = 0 → (0 : Int32) ≤ a3 ∧ a3 ≤ (2 : Int32) := pu34.2.1
      have xu34 : u34 = (Gm_within a3 (0 : Int32) (2 : Int32)) := pu34.2.2.1
      have hE := zletE xu34 hE
      refine zfr 32 [.int u34] rfl rfl ?_
      refine lv_if_ne (tgt := 37) hx hb dX12_years_32 (by decide) (fun c36 => ?_) (fun c36 => ?_)
      · have hE := zifnT c36 hE
        have k37 : zI 1 1 (u34) := zI.neD c36 hu34 (zI.lit (a := 0) (b := 0) (c := 0) (by decide)) (by decide)
        have k38 : zI 0 2147483647 (a3) := zI.leD (yu34_0 c36).1 (zI.lit (a := 0) (b := 0) (c := 0) (by decide)) (zI.top _) (by decide)
        have k39 : zI 0 2 (a3) := zI.leU (yu34_0 c36).2 k38 (zI.lit (a := 2) (b := 2) (c := 2) (by decide)) (by decide)
        refine lv_aload_n hx hb dX12_years_37 rfl (lv_at hl 0 rfl) ?_
        refine lv_iload_n hx hb dX12_years_38 rfl (lv_at hl 1 rfl) ?_
        refine lv_i2l (v := a1.toInt64) hx hb dX12_years_39 rfl ?_
        refine mput (ty := .long) (v := .long a1.toInt64) hx hb hts hiX12 hown hK hw hS 54 (by decide) lf454 rfl rfl (by decide +kernel) rfl rfl dX12_years_40 _ (zset q 154 (fun _ => a1.toInt64)) mWf54 (fun H locs hw hS => ?_)
        refine mqgen hw (fun q40 eq40 hw => ?_)
        have hE := zletE eq40 hE
        have hn0 : mNm q q40 := by rw [eq40]; exact ⟨zset_ne (by decide), zset_ne (by decide)⟩
        have hq0 : mQ (q40 154 0) := by rw [zq_in eq40]; exact mQ.of k26 (by decide)
        refine lv_aload_n hx hb dX12_years_43 rfl (lv_at hl 0 rfl) ?_
        refine lv_iconst (v := 0) hx hb dX12_years_44 (by decide) ?_
        refine mput (ty := .int) (v := .int 0) hx hb hts hiX12 hown hK hw hS 55 (by decide) lf468 rfl rfl (by decide +kernel) rfl rfl dX12_years_45 (zset r19 155 (fun _ => (0 : Int32))) _ mWf55 (fun H locs hw hS => ?_)
        refine mgen (P := fun x => mJ 20 x ∧ zFr [15, 16, 17, 18, 19, 20, 21, 22, 23, 24, 32, 155, 156, 33, 100] r x) hw ⟨pr19.1.setc rfl (fun _ => (zI.top _)), pr19.2.set rfl⟩ (fun r41 er41 hw pr41 => ?_)
        have hE := zletE er41 hE
        refine lv_aload_n hx hb dX12_years_48 rfl (lv_at hl 0 rfl) ?_
        refine lv_iconst (v := 0) hx hb dX12_years_49 (by decide) ?_
        refine mput (ty := .int) (v := .int 0) hx hb hts hiX12 hown hK hw hS 56 (by decide) lf471 rfl rfl (by decide +kernel) rfl rfl dX12_years_50 (zset r41 156 (fun _ => (0 : Int32))) _ mWf56 (fun H locs hw hS => ?_)
        refine mgen (P := fun x => mJ 20 x ∧ zFr [15, 16, 17, 18, 19, 20, 21, 22, 23, 24, 32, 155, 156, 33, 100] r x) hw ⟨pr41.1.setc rfl (fun _ => (zI.top _)), pr41.2.set rfl⟩ (fun r42 er42 hw pr42 => ?_)
        have hE := zletE er42 hE
        refine lv_aload_n hx hb dX12_years_53 rfl (lv_at hl 0 rfl) ?_
        refine mget (v := .ref (y 32)) hx hb hts hiX12 hown hK hw 45 (by decide) lf108 rfl rfl dX12_years_54 ?_
        refine lv_iconst (v := 0) hx hb dX12_years_57 (by decide) ?_
        refine lv_aload_n hx hb dX12_years_58 rfl (lv_at hl 0 rfl) ?_
        refine mget (v := .ref (y 33)) hx hb hts hiX12 hown hK hw 46 (by decide) lf111 rfl rfl dX12_years_59 ?_
        refine lv_iconst (v := 0) hx hb dX12_years_62 (by decide) ?_
        refine zcall2 (va_runS (As := [.ref (y 32), .int 0, .ref (y 33), .int 0]) (rest := []) ⟨hx, hb, hml, hown, hts⟩ (c_copies l D ct (y 32) (0) (y 33) (0) 31 31 (r42 32) (r42 33) (by decide) (by decide) (by decide) (by decide) H.size) (va_cwS 4 hts (kgSm (zr36 17 rfl) (zr36 18 rfl) (zr1 5 rfl) mL_X12_copies) rfl rfl rfl (by decide +kernel) ⟨Nat.le_of_ble_eq_true rfl, Nat.le_of_ble_eq_true rfl⟩) (zpreS hK hw hS hA zZ.nil hN [33, 34] rfl rfl) rfl rfl hl.1 rfl (lv_room (Nat.le_of_ble_eq_true rfl)) dX12_years_63 ⟨Nat.le_of_ble_eq_true rfl, Nat.le_of_ble_eq_true rfl⟩) hw hS hA [33, 34] [0, 1, 2, 3, 4, 5, 6, 7, 8, 9, 10, 11, 12, 13, 14, 15, 16, 17, 18, 19, 20, 21, 22, 23, 24, 25, 26, 27, 28, 29, 30, 31, 32, 35, 36, 37, 38, 39] rfl rfl rfl rfl (fun _ H locs _ hw hS => ?_)
        have hw : zPD D A (mW ct h0 y (zset r42 33 (zcp (r42 32) (r42 33) (0) (0) 31)) q40) H := hw.sub [0, 1, 2, 3, 4, 5, 6, 7, 8, 9, 10, 11, 12, 13, 14, 15, 16, 17, 18, 19, 20, 21, 22, 23, 24, 25, 26, 27, 28, 29, 30, 31, 32, 38, 39, 33, 34, 35, 36, 37] rfl rfl
        refine zfr 66 [] rfl rfl ?_
        refine mgen (P := fun x => mJ 20 x ∧ zFr [15, 16, 17, 18, 19, 20, 21, 22, 23, 24, 32, 155, 156, 33, 100] r x) hw ⟨mcp_o pr42.1 (Or.inl ⟨Or.inl rfl, rfl⟩) rfl, pr42.2.set rfl⟩ (fun r43 er43 hw pr43 => ?_)
        have hE := zletE er43 hE
        refine lv_iconst (v := 0) hx hb dX12_years_66 (by decide) ?_
        refine lv_istore (lv' := [(4, .int 0), (0, .ref h0), (1, .int a1), (2, .int a2), (3, .int a3)]) hx hb dX12_years_67 hl (by decide) rfl (fun ls hl => ?_)
        exact cut69 100 0 r43 q40 k33 k39 ((zI.lit (a := 0) (b := 0) (c := 0) (by decide)).w (c := 0) (d := 99) (by decide)) pr43.1 pr43.2 (hq0) (hn0) hE (zI.m0 (zI.lit (a := 0) (b := 0) (c := 0) (by decide)) (by decide)) H locs ls hw hS (lv_sub hl [1, 3, 4, 0] rfl)
      · have hE := zifnF c36 hE
        have k44 : zI 0 0 (u34) := zI.eqq c36 (zI.lit (a := 0) (b := 0) (c := 0) (by decide))
        refine lv_iconst (v := (-1)) hx hb dX12_years_35 (by decide) ?_
        exact ziretQ hQ hx hb hr rfl hlocks ((-1), r19, q) rfl ⟨(zI.top _), pr19.1, pr19.2, (show mNm q q from mNm.refl), (hE.symm.trans hX), trivial⟩ hw hS dX12_years_36

set_option maxHeartbeats 4000000 in
set_option maxRecDepth 100000 in
theorem mc_laysLines (l : Launch) (D : va_G) (ct : Nat → ClassId) (h0 : Nat) (y : Nat → Nat) (B : Int) (a1 : Int32) (a2 : Int32) (r : zRr) (q : zRq) (g1 : zI 0 5 a1) (g2 : zI 0 5 a2) (hJ0 : mJ B r) (x1 : zn a1 ≠ zn a2) : zC l yX12_laysLines (.code yX12_laysLines cX12_laysLines 4 none :: wsL_law0) ({ frames := 1, cells := 0, slots := 0, locals := 80 }) D ct [] [.ref h0, .int a1, .int a2] (mW ct h0 y r q) (S := zRr) (fun u => none) (fun u => mJ B u ∧ zFr [25, 26, 27, 28] r u ∧ u = (Gm_laysLines a1 a2 r q) ∧ True) (fun u => mW ct h0 y u q) 0 0 := by
  refine zofQ cX12_laysLines 4 none (by decide) rfl (Nat.le_of_ble_eq_true rfl) ?_
  intro p e s m below meth c A a9 Q ha9 hx hb hr hml hts hown hlocks hname hK hA hZ hN hQ
  have hown : s.vm.findClass RX12 = some m.cls := hown
  have hiX12 : ∀ w ∈ wsX120, w ∈ .code yX12_laysLines cX12_laysLines 4 none :: wsL_law0 := fun _ h => ki (zs_wsX120 _ h)
  have lf87 := hts (.fieldLink RX12 87 "BeardPassModel" "lines" "[I") (ki (zr8 21 rfl))
  have lf90 := hts (.fieldLink RX12 90 "BeardPassModel" "lineWhat" "[I") (ki (zr8 22 rfl))
  have lf93 := hts (.fieldLink RX12 93 "BeardPassModel" "lineA" "[I") (ki (zr8 23 rfl))
  have lf96 := hts (.fieldLink RX12 96 "BeardPassModel" "lineB" "[I") (ki (zr9 0 rfl))
  obtain ⟨X, hX⟩ : ∃ X, X = (Gm_laysLines a1 a2 r q) := ⟨_, rfl⟩
  have cut14 : ∀ (n14 : Nat) (w14_3 : Int32) (rw14 : zRr) (hw14_1 : zI 0 5 a1) (hw14_2 : zI 0 5 a2) (hw14_3 : zI 0 40 w14_3) (jw14 : mN B rw14) (fw14 : zFr [25, 26, 27, 28] r rw14) (x14a : rw14 26 = zcp (r 26) (r 26) (40 * zn a1) (40 * zn a2) (zn w14_3)) (x14b : rw14 28 = zcp (r 28) (r 28) (40 * zn a1) (40 * zn a2) (zn w14_3)) (x14c : rw14 25 = upd (r 25) (zn a2) (r 25 (zn a1))) (hE : X = Gm_laysLines_14 a1 a2 n14 w14_3 rw14), 40 - w14_3.toInt < (n14 : Int) → zKf p l e ({ frames := 1, cells := 0, slots := 0, locals := 80 }) s m a9 below meth c Q D A 14 4 [] (mW ct h0 y rw14 q) [(0, .ref h0), (1, .int a1), (2, .int a2), (3, .int w14_3)] := by
    intro n14
    induction n14 with
    | zero => intro w14_3 rw14 hw14_1 hw14_2 hw14_3 jw14 fw14 x14a x14b x14c hE hm14; exact zI.no hw14_3 (by decide) hm14
    | succ n14 ih14 =>
      intro w14_3 rw14 hw14_1 hw14_2 hw14_3 jw14 fw14 x14a x14b x14c hE hm14
      have hE : X = Bm_laysLines_14 a1 a2 (Gm_laysLines_14 a1 a2 n14) w14_3 rw14 := hE
      unfold Bm_laysLines_14 at hE
      intro H locs ls hw hS hl
      refine lv_iload_n hx hb dX12_laysLines_14 rfl (lv_at hl 3 rfl) ?_
      refine lv_bipush (v := 40) hx hb dX12_laysLines_15 (by decide) ?_
      refine lv_icmp_ge (tgt := 92) hx hb dX12_laysLines_17 (by decide) (fun c1 => ?_) (fun c1 => ?_)
      · have hE := zifT c1 hE
        have k2 : zI 40 40 (w14_3) := zI.leD c1 (zI.lit (a := 40) (b := 40) (c := 40) (by decide)) hw14_3 (by decide)
        exact zvretQ hQ hx hb hr hlocks rw14 rfl ⟨(by have e40 : zn w14_3 = 40 := (by have h9 := (k2).nn (by decide); omega); rw [e40] at x14a x14b; exact ml_end hJ0 jw14 fw14 (by have h9 := g1.nn (by decide); omega) x14c x14a x14b), fw14, (hE.symm.trans hX), trivial⟩ hw hS dX12_laysLines_92
      · have hE := zifF c1 hE
        have k3 : zI 0 39 (w14_3) := zI.ltU (zI.nle c1) hw14_3 (zI.lit (a := 40) (b := 40) (c := 40) (by decide)) (by decide)
        refine lv_aload_n hx hb dX12_laysLines_20 rfl (lv_at hl 0 rfl) ?_
        refine mget (v := .ref (y 26)) hx hb hts hiX12 hown hK hw 39 (by decide) lf90 rfl rfl dX12_laysLines_21 ?_
        refine lv_bipush (v := 40) hx hb dX12_laysLines_24 (by decide) ?_
        refine lv_iload_n hx hb dX12_laysLines_26 rfl (lv_at hl 2 rfl) ?_
        refine lv_imul hx hb dX12_laysLines_27 ?_
        have k4 : zI 0 200 (40 * a2) := zI.mul (zI.lit (a := 40) (b := 40) (c := 40) (by decide)) hw14_2 (by decide)
        refine lv_iload_n hx hb dX12_laysLines_28 rfl (lv_at hl 3 rfl) ?_
        refine lv_iadd hx hb dX12_laysLines_29 ?_
        have k5 : zI 0 239 ((40 * a2) + w14_3) := zI.add k4 k3 (by decide)
        refine lv_aload_n hx hb dX12_laysLines_30 rfl (lv_at hl 0 rfl) ?_
        refine mget (v := .ref (y 26)) hx hb hts hiX12 hown hK hw 39 (by decide) lf90 rfl rfl dX12_laysLines_31 ?_
        refine lv_bipush (v := 40) hx hb dX12_laysLines_34 (by decide) ?_
        refine lv_iload_n hx hb dX12_laysLines_36 rfl (lv_at hl 1 rfl) ?_
        refine lv_imul hx hb dX12_laysLines_37 ?_
        have k6 : zI 0 200 (40 * a1) := zI.mul (zI.lit (a := 40) (b := 40) (c := 40) (by decide)) hw14_1 (by decide)
        refine lv_iload_n hx hb dX12_laysLines_38 rfl (lv_at hl 3 rfl) ?_
        refine lv_iadd hx hb dX12_laysLines_39 ?_
        have k7 : zI 0 239 ((40 * a1) + w14_3) := zI.add k6 k3 (by decide)
        refine miald hx hb hK hw 27 mWg26 k7 (by decide) dX12_laysLines_40 ?_
        refine miast hx hb hK hw hS 27 mWg26 k5 (by decide) dX12_laysLines_41 (mW ct h0 y (zset rw14 26 (upd (rw14 26) (zn ((40 * a2) + w14_3)) (rw14 26 (zn ((40 * a1) + w14_3))))) q) mWs26 (fun H locs hw hS => ?_)
        refine mgen (P := fun x => mN B x ∧ zFr [25, 26, 27, 28] r x) hw ⟨jw14.set rfl (zI.top _), fw14.set rfl⟩ (fun r8 er8 hw pr8 => ?_)
        have hE := zletE er8 hE
        refine lv_aload_n hx hb dX12_laysLines_42 rfl (lv_at hl 0 rfl) ?_
        refine mget (v := .ref (y 27)) hx hb hts hiX12 hown hK hw 40 (by decide) lf93 rfl rfl dX12_laysLines_43 ?_
        refine lv_bipush (v := 40) hx hb dX12_laysLines_46 (by decide) ?_
        refine lv_iload_n hx hb dX12_laysLines_48 rfl (lv_at hl 2 rfl) ?_
        refine lv_imul hx hb dX12_laysLines_49 (zgenE (lo := 0) (hi := 200) (zI.mul (zI.lit (a := 40) (b := 40) (c := 40) (by decide)) hw14_2 (by decide)) (fun v9 ev9 hv9 => ?_))
        have hE := zletE ev9 hE
        refine lv_iload_n hx hb dX12_laysLines_50 rfl (lv_at hl 3 rfl) ?_
        refine lv_iadd hx hb dX12_laysLines_51 (zgenE (lo := 0) (hi := 239) (zI.add hv9 k3 (by decide)) (fun v10 ev10 hv10 => ?_))
        have hE := zletE ev10 hE
        refine lv_aload_n hx hb dX12_laysLines_52 rfl (lv_at hl 0 rfl) ?_
        refine mget (v := .ref (y 27)) hx hb hts hiX12 hown hK hw 40 (by decide) lf93 rfl rfl dX12_laysLines_53 ?_
        refine lv_bipush (v := 40) hx hb dX12_laysLines_56 (by decide) ?_
        refine lv_iload_n hx hb dX12_laysLines_58 rfl (lv_at hl 1 rfl) ?_
        refine lv_imul hx hb dX12_laysLines_59 (zgenE (lo := 0) (hi := 200) (zI.mul (zI.lit (a := 40) (b := 40) (c := 40) (by decide)) hw14_1 (by decide)) (fun v11 ev11 hv11 => ?_))
        have hE := zletE ev11 hE
        refine lv_iload_n hx hb dX12_laysLines_60 rfl (lv_at hl 3 rfl) ?_
        refine lv_iadd hx hb dX12_laysLines_61 (zgenE (lo := 0) (hi := 239) (zI.add hv11 k3 (by decide)) (fun v12 ev12 hv12 => ?_))
        have hE := zletE ev12 hE
        refine miald hx hb hK hw 28 mWg27 hv12 (by decide) dX12_laysLines_62 (zgenE (lo := 0) (hi := 5) ((show zI 0 5 (r8 27 _) from pr8.1.i 27 _)) (fun v13 ev13 hv13 => ?_))
        have hE := zletE ev13 hE
        refine miast hx hb hK hw hS 28 mWg27 hv10 (by decide) dX12_laysLines_63 (mW ct h0 y (zset r8 27 (upd (r8 27) (zn v10) v13)) q) mWs27 (fun H locs hw hS => ?_)
        refine mgen (P := fun x => mN B x ∧ zFr [25, 26, 27, 28] r x) hw ⟨pr8.1.set rfl hv13, pr8.2.set rfl⟩ (fun r14 er14 hw pr14 => ?_)
        have hE := zletE er14 hE
        refine lv_aload_n hx hb dX12_laysLines_64 rfl (lv_at hl 0 rfl) ?_
        refine mget (v := .ref (y 28)) hx hb hts hiX12 hown hK hw 41 (by decide) lf96 rfl rfl dX12_laysLines_65 ?_
        refine lv_bipush (v := 40) hx hb dX12_laysLines_68 (by decide) ?_
        refine lv_iload_n hx hb dX12_laysLines_70 rfl (lv_at hl 2 rfl) ?_
        refine lv_imul hx hb dX12_laysLines_71 ?_
        refine lv_iload_n hx hb dX12_laysLines_72 rfl (lv_at hl 3 rfl) ?_
        refine lv_iadd hx hb dX12_laysLines_73 ?_
        refine lv_aload_n hx hb dX12_laysLines_74 rfl (lv_at hl 0 rfl) ?_
        refine mget (v := .ref (y 28)) hx hb hts hiX12 hown hK hw 41 (by decide) lf96 rfl rfl dX12_laysLines_75 ?_
        refine lv_bipush (v := 40) hx hb dX12_laysLines_78 (by decide) ?_
        refine lv_iload_n hx hb dX12_laysLines_80 rfl (lv_at hl 1 rfl) ?_
        refine lv_imul hx hb dX12_laysLines_81 ?_
        refine lv_iload_n hx hb dX12_laysLines_82 rfl (lv_at hl 3 rfl) ?_
        refine lv_iadd hx hb dX12_laysLines_83 ?_
        refine miald hx hb hK hw 29 mWg28 k7 (by decide) dX12_laysLines_84 ?_
        have k15 : zI 0 9999 (r14 28 (zn ((40 * a1) + w14_3))) := (show zI 0 9999 (r14 28 _) from pr14.1.i 28 _)
        refine miast hx hb hK hw hS 29 mWg28 k5 (by decide) dX12_laysLines_85 (mW ct h0 y (zset r14 28 (upd (r14 28) (zn ((40 * a2) + w14_3)) (r14 28 (zn ((40 * a1) + w14_3))))) q) mWs28 (fun H locs hw hS => ?_)
        refine mgen (P := fun x => mN B x ∧ zFr [25, 26, 27, 28] r x) hw ⟨pr14.1.set rfl k15, pr14.2.set rfl⟩ (fun r16 er16 hw pr16 => ?_)
        have hE := zletE er16 hE
        refine lv_iinc (v := w14_3 + 1) (lv' := [(3, .int (w14_3 + 1)), (0, .ref h0), (1, .int a1), (2, .int a2)]) hx hb dX12_laysLines_86 hl (k := 3) rfl (rfl) (by decide) rfl (fun ls hl => ?_)
        have k17 : zI 1 40 (w14_3 + 1) := zI.add k3 (zI.lit (a := 1) (b := 1) (by decide)) (by decide)
        refine lv_goto (tgt := 14) hx hb dX12_laysLines_89 (by decide) ?_
        exact ih14 (w14_3 + 1) r16 hw14_1 hw14_2 (k17.w (c := 0) (d := 40) (by decide)) pr16.1 pr16.2 (by rw [zn_s k3 (by decide)]; exact ml_step x1 (by have h9 := (k3).nn (by decide); omega) x14a (zn40 g1 k3 (by decide)) (zn40 g2 k3 (by decide)) (((zs_row (k := 26) er16 (by decide)).trans (zs_row (k := 26) er14 (by decide))).trans (zs_self er8))) (by rw [zn_s k3 (by decide)]; exact ml_step x1 (by have h9 := (k3).nn (by decide); omega) x14b (zn40 g1 k3 (by decide)) (zn40 g2 k3 (by decide)) ((zs_self er16).trans (by rw [((zs_row (k := 28) er14 (by decide)).trans (zs_row (k := 28) er8 (by decide)))]))) (((zs_row (k := 25) er16 (by decide)).trans ((zs_row (k := 25) er14 (by decide)).trans (zs_row (k := 25) er8 (by decide)))).trans x14c) hE (zI.up k3 (by decide) hm14) H locs ls hw hS (lv_sub hl [1, 2, 3, 0] rfl)
  intro H locs hw hS ls hl
  have hl : lv_has ls 4 [(0, .ref h0), (1, .int a1), (2, .int a2)] := hl
  have hE := hX
  unfold Gm_laysLines at hE
  refine lv_aload_n hx hb dX12_laysLines_0 rfl (lv_at hl 0 rfl) ?_
  refine mget (v := .ref (y 25)) hx hb hts hiX12 hown hK hw 38 (by decide) lf87 rfl rfl dX12_laysLines_1 ?_
  refine lv_iload_n hx hb dX12_laysLines_4 rfl (lv_at hl 2 rfl) ?_
  refine lv_aload_n hx hb dX12_laysLines_5 rfl (lv_at hl 0 rfl) ?_
  refine mget (v := .ref (y 25)) hx hb hts hiX12 hown hK hw 38 (by decide) lf87 rfl rfl dX12_laysLines_6 ?_
  refine lv_iload_n hx hb dX12_laysLines_9 rfl (lv_at hl 1 rfl) ?_
  refine miald hx hb hK hw 26 mWg25 g1 (by decide) dX12_laysLines_10 ?_
  have k18 : zI 0 40 (r 25 (zn a1)) := (show zI 0 40 (r 25 _) from hJ0.n.i 25 _)
  refine miast hx hb hK hw hS 26 mWg25 g2 (by decide) dX12_laysLines_11 (mW ct h0 y (zset r 25 (upd (r 25) (zn a2) (r 25 (zn a1)))) q) mWs25 (fun H locs hw hS => ?_)
  refine mgen (P := fun x => mN B x ∧ zFr [25, 26, 27, 28] r x) hw ⟨hJ0.n.set rfl k18, (zFr.refl).set rfl⟩ (fun r19 er19 hw pr19 => ?_)
  have hE := zletE er19 hE
  refine lv_iconst (v := 0) hx hb dX12_laysLines_12 (by decide) ?_
  refine lv_istore_n (lv' := [(3, .int 0), (0, .ref h0), (1, .int a1), (2, .int a2)]) hx hb dX12_laysLines_13 rfl hl (by decide) rfl (fun ls hl => ?_)
  exact cut14 41 0 r19 g1 g2 ((zI.lit (a := 0) (b := 0) (c := 0) (by decide)).w (c := 0) (d := 40) (by decide)) pr19.1 pr19.2 (by rw [(zs_row (k := 26) er19 (by decide))]; exact (zcp_0 _ _ _ _).symm) (by rw [(zs_row (k := 28) er19 (by decide))]; exact (zcp_0 _ _ _ _).symm) (zs_self er19) hE (zI.m0 (zI.lit (a := 0) (b := 0) (c := 0) (by decide)) (by decide)) H locs ls hw hS (lv_sub hl [1, 2, 3, 0] rfl)

noncomputable def Bm_laysSeen_14 (a1 : Int32) (a2 : Int32) (ih14 : Int32 → zRr → zRr) (w14_3 : Int32) (rw14 : zRr) : zRr :=
  zif ((8 : Int32) ≤ w14_3) (rw14) (zlet (α := Int32) (8 * a2) <| fun v4 => zlet (α := Int32) (v4 + w14_3) <| fun v5 => zlet (α := Int32) (8 * a1) <| fun v6 => zlet (α := Int32) (v6 + w14_3) <| fun v7 => zlet (α := Int32) (rw14 30 (zn v7)) <| fun v8 => zlet (α := zRr) (zset rw14 30 (upd (rw14 30) (zn v5) v8)) <| fun r9 => zlet (α := Int32) (8 * a2) <| fun v10 => zlet (α := Int32) (v10 + w14_3) <| fun v11 => zlet (α := Int32) (8 * a1) <| fun v12 => zlet (α := Int32) (v12 + w14_3) <| fun v13 => zlet (α := Int32) (r9 31 (zn v13)) <| fun v14 => zlet (α := zRr) (zset r9 31 (upd (r9 31) (zn v11) v14)) <| fun r15 => ih14 (w14_3 + 1) r15)
noncomputable def Gm_laysSeen_14 (a1 : Int32) (a2 : Int32) (n : Nat) : Int32 → zRr → zRr :=
  Nat.rec (motive := fun _ => Int32 → zRr → zRr) (fun _ rw14 => rw14) (fun _ ih => Bm_laysSeen_14 a1 a2 ih) n
noncomputable def Gm_laysSeen (a1 : Int32) (a2 : Int32) (r : zRr) (q : zRq) : zRr :=
  zlet (α := Int32) (r 29 (zn a1)) <| fun v17 => zlet (α := zRr) (zset r 29 (upd (r 29) (zn a2) v17)) <| fun r18 => Gm_laysSeen_14 a1 a2 9 0 r18
set_option maxHeartbeats 4000000 in
set_option maxRecDepth 100000 in
theorem mc_laysSeen (l : Launch) (D : va_G) (ct : Nat → ClassId) (h0 : Nat) (y : Nat → Nat) (B : Int) (a1 : Int32) (a2 : Int32) (r : zRr) (q : zRq) (g1 : zI 0 4 a1) (g2 : zI 0 4 a2) (hJ0 : mJ B r) : zC l yX12_laysSeen (.code yX12_laysSeen cX12_laysSeen 4 none :: wsL_law0) ({ frames := 1, cells := 0, slots := 0, locals := 80 }) D ct [] [.ref h0, .int a1, .int a2] (mW ct h0 y r q) (S := zRr) (fun u => none) (fun u => mJ B u ∧ zFr [29, 30, 31] r u ∧ u = (Gm_laysSeen a1 a2 r q) ∧ True) (fun u => mW ct h0 y u q) 0 0 := by
  refine zofQ cX12_laysSeen 4 none (by decide) rfl (Nat.le_of_ble_eq_true rfl) ?_
  intro p e s m below meth c A a9 Q ha9 hx hb hr hml hts hown hlocks hname hK hA hZ hN hQ
  have hown : s.vm.findClass RX12 = some m.cls := hown
  have hiX12 : ∀ w ∈ wsX120, w ∈ .code yX12_laysSeen cX12_laysSeen 4 none :: wsL_law0 := fun _ h => ki (zs_wsX120 _ h)
  have lf99 := hts (.fieldLink RX12 99 "BeardPassModel" "seens" "[I") (ki (zr9 1 rfl))
  have lf102 := hts (.fieldLink RX12 102 "BeardPassModel" "seenTown" "[I") (ki (zr9 2 rfl))
  have lf105 := hts (.fieldLink RX12 105 "BeardPassModel" "seenLet" "[Z") (ki (zr9 3 rfl))
  obtain ⟨X, hX⟩ : ∃ X, X = (Gm_laysSeen a1 a2 r q) := ⟨_, rfl⟩
  have cut14 : ∀ (n14 : Nat) (w14_3 : Int32) (rw14 : zRr) (hw14_1 : zI 0 4 a1) (hw14_2 : zI 0 4 a2) (hw14_3 : zI 0 8 w14_3) (jw14 : mJ B rw14) (fw14 : zFr [29, 30, 31] r rw14) (hE : X = Gm_laysSeen_14 a1 a2 n14 w14_3 rw14), 8 - w14_3.toInt < (n14 : Int) → zKf p l e ({ frames := 1, cells := 0, slots := 0, locals := 80 }) s m a9 below meth c Q D A 14 4 [] (mW ct h0 y rw14 q) [(0, .ref h0), (1, .int a1), (2, .int a2), (3, .int w14_3)] := by
    intro n14
    induction n14 with
    | zero => intro w14_3 rw14 hw14_1 hw14_2 hw14_3 jw14 fw14 hE hm14; exact zI.no hw14_3 (by decide) hm14
    | succ n14 ih14 =>
      intro w14_3 rw14 hw14_1 hw14_2 hw14_3 jw14 fw14 hE hm14
      have hE : X = Bm_laysSeen_14 a1 a2 (Gm_laysSeen_14 a1 a2 n14) w14_3 rw14 := hE
      unfold Bm_laysSeen_14 at hE
      intro H locs ls hw hS hl
      refine lv_iload_n hx hb dX12_laysSeen_14 rfl (lv_at hl 3 rfl) ?_
      refine lv_bipush (v := 8) hx hb dX12_laysSeen_15 (by decide) ?_
      refine lv_icmp_ge (tgt := 70) hx hb dX12_laysSeen_17 (by decide) (fun c1 => ?_) (fun c1 => ?_)
      · have hE := zifT c1 hE
        have k2 : zI 8 8 (w14_3) := zI.leD c1 (zI.lit (a := 8) (b := 8) (c := 8) (by decide)) hw14_3 (by decide)
        exact zvretQ hQ hx hb hr hlocks rw14 rfl ⟨jw14, fw14, (hE.symm.trans hX), trivial⟩ hw hS dX12_laysSeen_70
      · have hE := zifF c1 hE
        have k3 : zI 0 7 (w14_3) := zI.ltU (zI.nle c1) hw14_3 (zI.lit (a := 8) (b := 8) (c := 8) (by decide)) (by decide)
        refine lv_aload_n hx hb dX12_laysSeen_20 rfl (lv_at hl 0 rfl) ?_
        refine mget (v := .ref (y 30)) hx hb hts hiX12 hown hK hw 43 (by decide) lf102 rfl rfl dX12_laysSeen_21 ?_
        refine lv_bipush (v := 8) hx hb dX12_laysSeen_24 (by decide) ?_
        refine lv_iload_n hx hb dX12_laysSeen_26 rfl (lv_at hl 2 rfl) ?_
        refine lv_imul hx hb dX12_laysSeen_27 (zgenE (lo := 0) (hi := 32) (zI.mul (zI.lit (a := 8) (b := 8) (c := 8) (by decide)) hw14_2 (by decide)) (fun v4 ev4 hv4 => ?_))
        have hE := zletE ev4 hE
        refine lv_iload_n hx hb dX12_laysSeen_28 rfl (lv_at hl 3 rfl) ?_
        refine lv_iadd hx hb dX12_laysSeen_29 (zgenE (lo := 0) (hi := 39) (zI.add hv4 k3 (by decide)) (fun v5 ev5 hv5 => ?_))
        have hE := zletE ev5 hE
        refine lv_aload_n hx hb dX12_laysSeen_30 rfl (lv_at hl 0 rfl) ?_
        refine mget (v := .ref (y 30)) hx hb hts hiX12 hown hK hw 43 (by decide) lf102 rfl rfl dX12_laysSeen_31 ?_
        refine lv_bipush (v := 8) hx hb dX12_laysSeen_34 (by decide) ?_
        refine lv_iload_n hx hb dX12_laysSeen_36 rfl (lv_at hl 1 rfl) ?_
        refine lv_imul hx hb dX12_laysSeen_37 (zgenE (lo := 0) (hi := 32) (zI.mul (zI.lit (a := 8) (b := 8) (c := 8) (by decide)) hw14_1 (by decide)) (fun v6 ev6 hv6 => ?_))
        have hE := zletE ev6 hE
        refine lv_iload_n hx hb dX12_laysSeen_38 rfl (lv_at hl 3 rfl) ?_
        refine lv_iadd hx hb dX12_laysSeen_39 (zgenE (lo := 0) (hi := 39) (zI.add hv6 k3 (by decide)) (fun v7 ev7 hv7 => ?_))
        have hE := zletE ev7 hE
        refine miald hx hb hK hw 31 mWg30 hv7 (by decide) dX12_laysSeen_40 (zgenE (lo := 0) (hi := 5) ((show zI 0 5 (rw14 30 _) from jw14.i 30 _)) (fun v8 ev8 hv8 => ?_))
        have hE := zletE ev8 hE
        refine miast hx hb hK hw hS 31 mWg30 hv5 (by decide) dX12_laysSeen_41 (mW ct h0 y (zset rw14 30 (upd (rw14 30) (zn v5) v8)) q) mWs30 (fun H locs hw hS => ?_)
        refine mgen (P := fun x => mJ B x ∧ zFr [29, 30, 31] r x) hw ⟨jw14.set rfl hv8, fw14.set rfl⟩ (fun r9 er9 hw pr9 => ?_)
        have hE := zletE er9 hE
        refine lv_aload_n hx hb dX12_laysSeen_42 rfl (lv_at hl 0 rfl) ?_
        refine mget (v := .ref (y 31)) hx hb hts hiX12 hown hK hw 44 (by decide) lf105 rfl rfl dX12_laysSeen_43 ?_
        refine lv_bipush (v := 8) hx hb dX12_laysSeen_46 (by decide) ?_
        refine lv_iload_n hx hb dX12_laysSeen_48 rfl (lv_at hl 2 rfl) ?_
        refine lv_imul hx hb dX12_laysSeen_49 (zgenE (lo := 0) (hi := 32) (zI.mul (zI.lit (a := 8) (b := 8) (c := 8) (by decide)) hw14_2 (by decide)) (fun v10 ev10 hv10 => ?_))
        have hE := zletE ev10 hE
        refine lv_iload_n hx hb dX12_laysSeen_50 rfl (lv_at hl 3 rfl) ?_
        refine lv_iadd hx hb dX12_laysSeen_51 (zgenE (lo := 0) (hi := 39) (zI.add hv10 k3 (by decide)) (fun v11 ev11 hv11 => ?_))
        have hE := zletE ev11 hE
        refine lv_aload_n hx hb dX12_laysSeen_52 rfl (lv_at hl 0 rfl) ?_
        refine mget (v := .ref (y 31)) hx hb hts hiX12 hown hK hw 44 (by decide) lf105 rfl rfl dX12_laysSeen_53 ?_
        refine lv_bipush (v := 8) hx hb dX12_laysSeen_56 (by decide) ?_
        refine lv_iload_n hx hb dX12_laysSeen_58 rfl (lv_at hl 1 rfl) ?_
        refine lv_imul hx hb dX12_laysSeen_59 (zgenE (lo := 0) (hi := 32) (zI.mul (zI.lit (a := 8) (b := 8) (c := 8) (by decide)) hw14_1 (by decide)) (fun v12 ev12 hv12 => ?_))
        have hE := zletE ev12 hE
        refine lv_iload_n hx hb dX12_laysSeen_60 rfl (lv_at hl 3 rfl) ?_
        refine lv_iadd hx hb dX12_laysSeen_61 (zgenE (lo := 0) (hi := 39) (zI.add hv12 k3 (by decide)) (fun v13 ev13 hv13 => ?_))
        have hE := zletE ev13 hE
        refine mzald hx hb hK hw 32 mWg31 hv13 (by decide) dX12_laysSeen_62 (zgenE (lo := 0) (hi := 1) ((show zI 0 1 (r9 31 _) from pr9.1.i 31 _)) (fun v14 ev14 hv14 => ?_))
        have hE := zletE ev14 hE
        refine mzast hx hb hK hw hS 32 mWg31 hv11 (by decide)  hv14 dX12_laysSeen_63 (mW ct h0 y (zset r9 31 (upd (r9 31) (zn v11) v14)) q) mWs31 (fun H locs hw hS => ?_)
        refine mgen (P := fun x => mJ B x ∧ zFr [29, 30, 31] r x) hw ⟨pr9.1.set rfl hv14, pr9.2.set rfl⟩ (fun r15 er15 hw pr15 => ?_)
        have hE := zletE er15 hE
        refine lv_iinc (v := w14_3 + 1) (lv' := [(3, .int (w14_3 + 1)), (0, .ref h0), (1, .int a1), (2, .int a2)]) hx hb dX12_laysSeen_64 hl (k := 3) rfl (rfl) (by decide) rfl (fun ls hl => ?_)
        have k16 : zI 1 8 (w14_3 + 1) := zI.add k3 (zI.lit (a := 1) (b := 1) (by decide)) (by decide)
        refine lv_goto (tgt := 14) hx hb dX12_laysSeen_67 (by decide) ?_
        exact ih14 (w14_3 + 1) r15 hw14_1 hw14_2 (k16.w (c := 0) (d := 8) (by decide)) pr15.1 pr15.2 hE (zI.up k3 (by decide) hm14) H locs ls hw hS (lv_sub hl [1, 2, 3, 0] rfl)
  intro H locs hw hS ls hl
  have hl : lv_has ls 4 [(0, .ref h0), (1, .int a1), (2, .int a2)] := hl
  have hE := hX
  unfold Gm_laysSeen at hE
  refine lv_aload_n hx hb dX12_laysSeen_0 rfl (lv_at hl 0 rfl) ?_
  refine mget (v := .ref (y 29)) hx hb hts hiX12 hown hK hw 42 (by decide) lf99 rfl rfl dX12_laysSeen_1 ?_
  refine lv_iload_n hx hb dX12_laysSeen_4 rfl (lv_at hl 2 rfl) ?_
  refine lv_aload_n hx hb dX12_laysSeen_5 rfl (lv_at hl 0 rfl) ?_
  refine mget (v := .ref (y 29)) hx hb hts hiX12 hown hK hw 42 (by decide) lf99 rfl rfl dX12_laysSeen_6 ?_
  refine lv_iload_n hx hb dX12_laysSeen_9 rfl (lv_at hl 1 rfl) ?_
  refine miald hx hb hK hw 30 mWg29 g1 (by decide) dX12_laysSeen_10 (zgenE (lo := 0) (hi := 8) ((show zI 0 8 (r 29 _) from hJ0.i 29 _)) (fun v17 ev17 hv17 => ?_))
  have hE := zletE ev17 hE
  refine miast hx hb hK hw hS 30 mWg29 g2 (by decide) dX12_laysSeen_11 (mW ct h0 y (zset r 29 (upd (r 29) (zn a2) v17)) q) mWs29 (fun H locs hw hS => ?_)
  refine mgen (P := fun x => mJ B x ∧ zFr [29, 30, 31] r x) hw ⟨hJ0.set rfl hv17, (zFr.refl).set rfl⟩ (fun r18 er18 hw pr18 => ?_)
  have hE := zletE er18 hE
  refine lv_iconst (v := 0) hx hb dX12_laysSeen_12 (by decide) ?_
  refine lv_istore_n (lv' := [(3, .int 0), (0, .ref h0), (1, .int a1), (2, .int a2)]) hx hb dX12_laysSeen_13 rfl hl (by decide) rfl (fun ls hl => ?_)
  exact cut14 9 0 r18 g1 g2 ((zI.lit (a := 0) (b := 0) (c := 0) (by decide)).w (c := 0) (d := 8) (by decide)) pr18.1 pr18.2 hE (zI.m0 (zI.lit (a := 0) (b := 0) (c := 0) (by decide)) (by decide)) H locs ls hw hS (lv_sub hl [1, 2, 3, 0] rfl)

noncomputable def Gm_mark_29 (a1 : Int32) (a2 : Int32) (q : zRq) (rw29 : zRr) : Int32 × zRr :=
  zlet (α := zRr) (zset rw29 37 (upd (rw29 37) (zn a1) (1 : Int32))) <| fun r1 => zif (a2 = (0 : Int32)) (zif (a2 = (0 : Int32)) (zlet (α := Int32) (1 + a1) <| fun v5 => zlet (α := zRr) ((Gm_laysLines (0 : Int32) v5 r1 q)) <| fun u6 => zlet (α := zRr) ((Gm_laysSeen (0 : Int32) v5 u6 q)) <| fun u8 => zif (a2 = (0 : Int32)) (zlet (α := zRr) (zset u8 35 (zcp (u8 32) (u8 35) (0) (zn (31 * a1)) 31)) <| fun r12 => ((1 : Int32), r12)) (default)) (default)) (zlet (α := Int32) (1 + a1) <| fun v14 => zif (a2 = (0 : Int32)) (default) (zlet (α := zRr) ((Gm_laysLines v14 (0 : Int32) r1 q)) <| fun u16 => zlet (α := zRr) ((Gm_laysSeen v14 (0 : Int32) u16 q)) <| fun u18 => zif (a2 = (0 : Int32)) (default) (zlet (α := zRr) (zset u18 32 (zcp (u18 35) (u18 32) (zn (31 * a1)) (0) 31)) <| fun r22 => zlet (α := zRr) (zset r22 151 (fun _ => (0 : Int32))) <| fun r23 => ((1 : Int32), r23))))
noncomputable def Gm_mark (a1 : Int32) (a2 : Int32) (r : zRr) (q : zRq) : Int32 × zRr :=
  zlet (α := zRr) (zset r 100 (fun _ => (0 : Int32))) <| fun r24 => zlet (α := Int32) ((Gm_within a1 (0 : Int32) (3 : Int32))) <| fun u25 => zif (u25 = (0 : Int32)) (((0 : Int32), r24)) (zif (a2 = (0 : Int32)) (Gm_mark_29 a1 a2 q r24) (zlet (α := Int32) (r24 37 (zn a1)) <| fun v35 => zifn (v35 = (0 : Int32)) (Gm_mark_29 a1 a2 q r24) (((0 : Int32), r24))))
set_option maxHeartbeats 4000000 in
set_option maxRecDepth 100000 in
theorem mc_mark (l : Launch) (D : va_G) (ct : Nat → ClassId) (h0 : Nat) (y : Nat → Nat) (a1 : Int32) (a2 : Int32) (r : zRr) (q : zRq) (g2 : zI 0 1 a2) (hJ0 : mJ 20 r) : zC l yX12_mark (.code yX12_mark cX12_mark 5 (some .boolean) :: wsL_law0) ({ frames := 2, cells := 0, slots := 0, locals := 120 }) D ct [] [.ref h0, .int a1, .int a2] (mW ct h0 y r q) (S := Int32 × zRr) (fun u => some (.int u.1)) (fun u => zI 0 1 u.1 ∧ mJ 20 u.2 ∧ zFr [100, 37, 25, 26, 27, 28, 29, 30, 31, 32, 151, 35] r u.2 ∧ u = (Gm_mark a1 a2 r q) ∧ True) (fun u => mW ct h0 y u.2 q) 0 0 := by
  refine zofQ cX12_mark 5 (some .boolean) (by decide) rfl (Nat.le_of_ble_eq_true rfl) ?_
  intro p e s m below meth c A a9 Q ha9 hx hb hr hml hts hown hlocks hname hK hA hZ hN hQ
  have hown : s.vm.findClass RX12 = some m.cls := hown
  have hiX12 : ∀ w ∈ wsX120, w ∈ .code yX12_mark cX12_mark 5 (some .boolean) :: wsL_law0 := fun _ h => ki (zs_wsX120 _ h)
  have lf108 := hts (.fieldLink RX12 108 "BeardPassModel" "s" "[I") (ki (zr9 4 rfl))
  have lf117 := hts (.fieldLink RX12 117 "BeardPassModel" "marked" "[I") (ki (zr9 7 rfl))
  have lf123 := hts (.fieldLink RX12 123 "BeardPassModel" "isLaid" "[Z") (ki (zr9 9 rfl))
  have lf129 := hts (.fieldLink RX12 129 "BeardPassModel" "thrown" "I") (ki (zr10 1 rfl))
  have lf336 := hts (.fieldLink RX12 336 "BeardPassModel" "done" "I") (ki (zr21 17 rfl))
  obtain ⟨X, hX⟩ : ∃ X, X = (Gm_mark a1 a2 r q) := ⟨_, rfl⟩
  have cut29 : ∀ (rw29 : zRr) (hw29_1 : zI 0 3 a1) (hw29_2 : zI 0 1 a2) (jw29 : mJ 20 rw29) (fw29 : zFr [100, 37, 25, 26, 27, 28, 29, 30, 31, 32, 151, 35] r rw29) (hE : X = Gm_mark_29 a1 a2 q rw29), zKf p l e ({ frames := 2, cells := 0, slots := 0, locals := 120 }) s m a9 below meth c Q D A 29 5 [] (mW ct h0 y rw29 q) [(0, .ref h0), (1, .int a1), (2, .int a2)] := by
    intro rw29 hw29_1 hw29_2 jw29 fw29 hE H locs ls hw hS hl
    unfold Gm_mark_29 at hE
    refine lv_aload_n hx hb dX12_mark_29 rfl (lv_at hl 0 rfl) ?_
    refine mget (v := .ref (y 37)) hx hb hts hiX12 hown hK hw 50 (by decide) lf123 rfl rfl dX12_mark_30 ?_
    refine lv_iload_n hx hb dX12_mark_33 rfl (lv_at hl 1 rfl) ?_
    refine lv_iconst (v := 1) hx hb dX12_mark_34 (by decide) ?_
    refine mzast hx hb hK hw hS 38 mWg37 hw29_1 (by decide)  ((zI.lit (a := 1) (b := 1) (c := 1) (by decide)).w (c := 0) (d := 1) (by decide)) dX12_mark_35 (mW ct h0 y (zset rw29 37 (upd (rw29 37) (zn a1) (1 : Int32))) q) mWs37 (fun H locs hw hS => ?_)
    refine mgen (P := fun x => mJ 20 x ∧ zFr [100, 37, 25, 26, 27, 28, 29, 30, 31, 32, 151, 35] r x) hw ⟨jw29.set rfl ((zI.lit (a := 1) (b := 1) (c := 1) (by decide)).w (c := 0) (d := 1) (by decide)), fw29.set rfl⟩ (fun r1 er1 hw pr1 => ?_)
    have hE := zletE er1 hE
    refine lv_iload_n hx hb dX12_mark_36 rfl (lv_at hl 2 rfl) ?_
    refine lv_if_eq (tgt := 46) hx hb dX12_mark_37 (by decide) (fun c2 => ?_) (fun c2 => ?_)
    · have hE := zifT c2 hE
      have k3 : zI 0 0 (a2) := zI.eqq c2 (zI.lit (a := 0) (b := 0) (c := 0) (by decide))
      refine lv_iconst (v := 0) hx hb dX12_mark_46 (by decide) ?_
      refine lv_istore_n (lv' := [(3, .int 0), (0, .ref h0), (1, .int a1), (2, .int a2)]) hx hb dX12_mark_47 rfl hl (by decide) rfl (fun ls hl => ?_)
      refine lv_iload_n hx hb dX12_mark_48 rfl (lv_at hl 3 rfl) ?_
      refine lv_if_eq (tgt := 56) hx hb dX12_mark_49 (by decide) (fun c4 => ?_) (fun c4 => ?_)
      · have hE := zifT c4 hE
        refine lv_iconst (v := 1) hx hb dX12_mark_56 (by decide) ?_
        refine lv_iload_n hx hb dX12_mark_57 rfl (lv_at hl 2 rfl) ?_
        refine lv_iadd hx hb dX12_mark_58 (zgenE (lo := 1) (hi := 4) (zI.add (zI.lit (a := 1) (b := 1) (c := 1) (by decide)) hw29_1 (by decide)) (fun v5 ev5 hv5 => ?_))
        have hE := zletE ev5 hE
        refine lv_istore (lv' := [(4, .int v5), (3, .int 0), (0, .ref h0), (1, .int a1), (2, .int a2)]) hx hb dX12_mark_59 hl (by decide) rfl (fun ls hl => ?_)
        refine lv_aload_n hx hb dX12_mark_61 rfl (lv_at hl 2 rfl) ?_
        refine lv_iload_n hx hb dX12_mark_62 rfl (lv_at hl 1 rfl) ?_
        refine lv_iload hx hb dX12_mark_63 (lv_at hl 0 rfl) ?_
        refine zcallW (va_runV (As := [.int 0, .int v5]) (rest := []) ⟨hx, hb, hml, hown, hts⟩ (mc_laysLines l D ct h0 y 20 0 v5 r1 q ((zI.lit (a := 0) (b := 0) (c := 0) (by decide)).w (c := 0) (d := 5) (by decide)) (hv5.w (c := 0) (d := 5) (by decide)) pr1.1 (zn_ne (zI.lit (a := 0) (b := 0) (c := 0) (by decide)) hv5 (by decide)) H.size) (cwV 2 hts (kgV (zr30 6 rfl) (zr30 7 rfl) (zr30 8 rfl) (zr1 5 rfl) (zr30 9 rfl)) rfl rfl rfl (by decide +kernel) ⟨Nat.le_of_ble_eq_true rfl, Nat.le_of_ble_eq_true rfl⟩) (zpreV hK hw hS hA zZ.nil hN (List.range (mW ct h0 y r1 q).length) mWn (zrange _) 11 0 rfl mWo) rfl rfl hl.1 rfl (lv_room (Nat.le_of_ble_eq_true rfl)) dX12_mark_65 ⟨Nat.le_of_ble_eq_true rfl, Nat.le_of_ble_eq_true rfl⟩) hw hS hA 68 rfl (fun u6 H locs pu6 hw hS => ?_)
        have ju6 : mJ 20 u6 := pu6.1
        have fu6 : zFr [25, 26, 27, 28] r1 u6 := pu6.2.1
        have xu6 : u6 = (Gm_laysLines (0 : Int32) v5 r1 q) := pu6.2.2.1
        have hE := zletE xu6 hE
        have hw : zPD D A (mW ct h0 y u6 q) H := hw
        refine zfr 68 [] rfl rfl ?_
        refine lv_aload_n hx hb dX12_mark_68 rfl (lv_at hl 2 rfl) ?_
        refine lv_iload_n hx hb dX12_mark_69 rfl (lv_at hl 1 rfl) ?_
        refine lv_iload hx hb dX12_mark_70 (lv_at hl 0 rfl) ?_
        refine zcallW (va_runV (As := [.int 0, .int v5]) (rest := []) ⟨hx, hb, hml, hown, hts⟩ (mc_laysSeen l D ct h0 y 20 0 v5 u6 q ((zI.lit (a := 0) (b := 0) (c := 0) (by decide)).w (c := 0) (d := 4) (by decide)) (hv5.w (c := 0) (d := 4) (by decide)) ju6 H.size) (cwV 2 hts (kgV (zr57 17 rfl) (zr57 18 rfl) (zr57 19 rfl) (zr1 5 rfl) (zr57 20 rfl)) rfl rfl rfl (by decide +kernel) ⟨Nat.le_of_ble_eq_true rfl, Nat.le_of_ble_eq_true rfl⟩) (zpreV hK hw hS hA zZ.nil hN (List.range (mW ct h0 y u6 q).length) mWn (zrange _) 11 0 rfl mWo) rfl rfl hl.1 rfl (lv_room (Nat.le_of_ble_eq_true rfl)) dX12_mark_72 ⟨Nat.le_of_ble_eq_true rfl, Nat.le_of_ble_eq_true rfl⟩) hw hS hA 75 rfl (fun u8 H locs pu8 hw hS => ?_)
        have ju8 : mJ 20 u8 := pu8.1
        have fu8 : zFr [29, 30, 31] u6 u8 := pu8.2.1
        have xu8 : u8 = (Gm_laysSeen (0 : Int32) v5 u6 q) := pu8.2.2.1
        have hE := zletE xu8 hE
        have hw : zPD D A (mW ct h0 y u8 q) H := hw
        refine zfr 75 [] rfl rfl ?_
        refine lv_iload_n hx hb dX12_mark_75 rfl (lv_at hl 4 rfl) ?_
        refine lv_if_eq (tgt := 103) hx hb dX12_mark_76 (by decide) (fun c10 => ?_) (fun c10 => ?_)
        · have hE := zifT c10 hE
          refine lv_aload_n hx hb dX12_mark_103 rfl (lv_at hl 2 rfl) ?_
          refine mget (v := .ref (y 32)) hx hb hts hiX12 hown hK hw 45 (by decide) lf108 rfl rfl dX12_mark_104 ?_
          refine lv_iconst (v := 0) hx hb dX12_mark_107 (by decide) ?_
          refine lv_aload_n hx hb dX12_mark_108 rfl (lv_at hl 2 rfl) ?_
          refine mget (v := .ref (y 35)) hx hb hts hiX12 hown hK hw 48 (by decide) lf117 rfl rfl dX12_mark_109 ?_
          refine lv_bipush (v := 31) hx hb dX12_mark_112 (by decide) ?_
          refine lv_iload_n hx hb dX12_mark_114 rfl (lv_at hl 3 rfl) ?_
          refine lv_imul hx hb dX12_mark_115 ?_
          have k11 : zI 0 93 (31 * a1) := zI.mul (zI.lit (a := 31) (b := 31) (c := 31) (by decide)) hw29_1 (by decide)
          refine zfr 116 [.int (nI (zn (31 * a1))), .ref (y 35), .int 0, .ref (y 32)] rfl (congrArg (fun x => ([.int x, .ref (y 35), .int 0, .ref (y 32)] : List Value)) (zI.ix (n := 466) k11 (by decide)).1) ?_
          refine zcall2 (va_runS (As := [.ref (y 32), .int 0, .ref (y 35), .int (nI (zn (31 * a1)))]) (rest := []) ⟨hx, hb, hml, hown, hts⟩ (c_copies l D ct (y 32) (0) (y 35) (zn (31 * a1)) 31 124 (u8 32) (u8 35) (by decide) (by have h9 := (k11).nn (by decide); omega) (by decide) (by decide) H.size) (va_cwS 4 hts (kgSm (zr36 17 rfl) (zr36 18 rfl) (zr1 5 rfl) mL_X12_copies) rfl rfl rfl (by decide +kernel) ⟨Nat.le_of_ble_eq_true rfl, Nat.le_of_ble_eq_true rfl⟩) (zpreS hK hw hS hA zZ.nil hN [33, 36] rfl rfl) rfl rfl hl.1 rfl (lv_room (Nat.le_of_ble_eq_true rfl)) dX12_mark_116 ⟨Nat.le_of_ble_eq_true rfl, Nat.le_of_ble_eq_true rfl⟩) hw hS hA [33, 36] [0, 1, 2, 3, 4, 5, 6, 7, 8, 9, 10, 11, 12, 13, 14, 15, 16, 17, 18, 19, 20, 21, 22, 23, 24, 25, 26, 27, 28, 29, 30, 31, 32, 34, 35, 37, 38, 39] rfl rfl rfl rfl (fun _ H locs _ hw hS => ?_)
          have hw : zPD D A (mW ct h0 y (zset u8 35 (zcp (u8 32) (u8 35) (0) (zn (31 * a1)) 31)) q) H := hw.sub [0, 1, 2, 3, 4, 5, 6, 7, 8, 9, 10, 11, 12, 13, 14, 15, 16, 17, 18, 19, 20, 21, 22, 23, 24, 25, 26, 27, 28, 29, 30, 31, 32, 38, 33, 34, 39, 35, 36, 37] rfl rfl
          refine zfr 119 [] rfl rfl ?_
          refine mgen (P := fun x => mJ 20 x ∧ zFr [100, 37, 25, 26, 27, 28, 29, 30, 31, 32, 151, 35] r x) hw ⟨mcp_o ju8 (Or.inr ⟨Or.inl rfl, zn31 hw29_1 (by decide)⟩) rfl, ((pr1.2.tr fu6 rfl).tr fu8 rfl).set rfl⟩ (fun r12 er12 hw pr12 => ?_)
          have hE := zletE er12 hE
          refine lv_iconst (v := 1) hx hb dX12_mark_119 (by decide) ?_
          exact ziretQ hQ hx hb hr rfl hlocks (1, r12) rfl ⟨((zI.lit (a := 1) (b := 1) (c := 1) (by decide)).w (c := 0) (d := 1) (by decide)), pr12.1, pr12.2, (hE.symm.trans hX), trivial⟩ hw hS dX12_mark_120
        · have hE := zifF c10 hE
          exact zI.abs (a := 1) (b := 0) (zI.neD c10 k3 (zI.lit (a := 0) (b := 0) (c := 0) (by decide)) (by decide)) (by decide)
      · have hE := zifF c4 hE
        exact zI.abs (a := 1) (b := 0) (zI.neD c4 k3 (zI.lit (a := 0) (b := 0) (c := 0) (by decide)) (by decide)) (by decide)
    · have hE := zifF c2 hE
      have k13 : zI 1 1 (a2) := zI.neD c2 hw29_2 (zI.lit (a := 0) (b := 0) (c := 0) (by decide)) (by decide)
      refine lv_iconst (v := 1) hx hb dX12_mark_40 (by decide) ?_
      refine lv_iload_n hx hb dX12_mark_41 rfl (lv_at hl 1 rfl) ?_
      refine lv_iadd hx hb dX12_mark_42 (zgenE (lo := 1) (hi := 4) (zI.add (zI.lit (a := 1) (b := 1) (c := 1) (by decide)) hw29_1 (by decide)) (fun v14 ev14 hv14 => ?_))
      have hE := zletE ev14 hE
      refine lv_goto (tgt := 47) hx hb dX12_mark_43 (by decide) ?_
      refine lv_istore_n (lv' := [(3, .int v14), (0, .ref h0), (1, .int a1), (2, .int a2)]) hx hb dX12_mark_47 rfl hl (by decide) rfl (fun ls hl => ?_)
      refine lv_iload_n hx hb dX12_mark_48 rfl (lv_at hl 3 rfl) ?_
      refine lv_if_eq (tgt := 56) hx hb dX12_mark_49 (by decide) (fun c15 => ?_) (fun c15 => ?_)
      · have hE := zifT c15 hE
        exact absurd (congrArg Int32.toInt c15) (by have := k13.1; have := (zI.lit (a := 0) (b := 0) (c := 0) (by decide)).2; omega)
      · have hE := zifF c15 hE
        refine lv_iconst (v := 0) hx hb dX12_mark_52 (by decide) ?_
        refine lv_goto (tgt := 59) hx hb dX12_mark_53 (by decide) ?_
        refine lv_istore (lv' := [(4, .int 0), (3, .int v14), (0, .ref h0), (1, .int a1), (2, .int a2)]) hx hb dX12_mark_59 hl (by decide) rfl (fun ls hl => ?_)
        refine lv_aload_n hx hb dX12_mark_61 rfl (lv_at hl 2 rfl) ?_
        refine lv_iload_n hx hb dX12_mark_62 rfl (lv_at hl 1 rfl) ?_
        refine lv_iload hx hb dX12_mark_63 (lv_at hl 0 rfl) ?_
        refine zcallW (va_runV (As := [.int v14, .int 0]) (rest := []) ⟨hx, hb, hml, hown, hts⟩ (mc_laysLines l D ct h0 y 20 v14 0 r1 q (hv14.w (c := 0) (d := 5) (by decide)) ((zI.lit (a := 0) (b := 0) (c := 0) (by decide)).w (c := 0) (d := 5) (by decide)) pr1.1 (zn_ne hv14 (zI.lit (a := 0) (b := 0) (c := 0) (by decide)) (by decide)) H.size) (cwV 2 hts (kgV (zr30 6 rfl) (zr30 7 rfl) (zr30 8 rfl) (zr1 5 rfl) (zr30 9 rfl)) rfl rfl rfl (by decide +kernel) ⟨Nat.le_of_ble_eq_true rfl, Nat.le_of_ble_eq_true rfl⟩) (zpreV hK hw hS hA zZ.nil hN (List.range (mW ct h0 y r1 q).length) mWn (zrange _) 11 0 rfl mWo) rfl rfl hl.1 rfl (lv_room (Nat.le_of_ble_eq_true rfl)) dX12_mark_65 ⟨Nat.le_of_ble_eq_true rfl, Nat.le_of_ble_eq_true rfl⟩) hw hS hA 68 rfl (fun u16 H locs pu16 hw hS => ?_)
        have ju16 : mJ 20 u16 := pu16.1
        have fu16 : zFr [25, 26, 27, 28] r1 u16 := pu16.2.1
        have xu16 : u16 = (Gm_laysLines v14 (0 : Int32) r1 q) := pu16.2.2.1
        have hE := zletE xu16 hE
        have hw : zPD D A (mW ct h0 y u16 q) H := hw
        refine zfr 68 [] rfl rfl ?_
        refine lv_aload_n hx hb dX12_mark_68 rfl (lv_at hl 2 rfl) ?_
        refine lv_iload_n hx hb dX12_mark_69 rfl (lv_at hl 1 rfl) ?_
        refine lv_iload hx hb dX12_mark_70 (lv_at hl 0 rfl) ?_
        refine zcallW (va_runV (As := [.int v14, .int 0]) (rest := []) ⟨hx, hb, hml, hown, hts⟩ (mc_laysSeen l D ct h0 y 20 v14 0 u16 q (hv14.w (c := 0) (d := 4) (by decide)) ((zI.lit (a := 0) (b := 0) (c := 0) (by decide)).w (c := 0) (d := 4) (by decide)) ju16 H.size) (cwV 2 hts (kgV (zr57 17 rfl) (zr57 18 rfl) (zr57 19 rfl) (zr1 5 rfl) (zr57 20 rfl)) rfl rfl rfl (by decide +kernel) ⟨Nat.le_of_ble_eq_true rfl, Nat.le_of_ble_eq_true rfl⟩) (zpreV hK hw hS hA zZ.nil hN (List.range (mW ct h0 y u16 q).length) mWn (zrange _) 11 0 rfl mWo) rfl rfl hl.1 rfl (lv_room (Nat.le_of_ble_eq_true rfl)) dX12_mark_72 ⟨Nat.le_of_ble_eq_true rfl, Nat.le_of_ble_eq_true rfl⟩) hw hS hA 75 rfl (fun u18 H locs pu18 hw hS => ?_)
        have ju18 : mJ 20 u18 := pu18.1
        have fu18 : zFr [29, 30, 31] u16 u18 := pu18.2.1
        have xu18 : u18 = (Gm_laysSeen v14 (0 : Int32) u16 q) := pu18.2.2.1
        have hE := zletE xu18 hE
        have hw : zPD D A (mW ct h0 y u18 q) H := hw
        refine zfr 75 [] rfl rfl ?_
        refine lv_iload_n hx hb dX12_mark_75 rfl (lv_at hl 4 rfl) ?_
        refine lv_if_eq (tgt := 103) hx hb dX12_mark_76 (by decide) (fun c20 => ?_) (fun c20 => ?_)
        · have hE := zifT c20 hE
          exact absurd (congrArg Int32.toInt c20) (by have := k13.1; have := (zI.lit (a := 0) (b := 0) (c := 0) (by decide)).2; omega)
        · have hE := zifF c20 hE
          refine lv_aload_n hx hb dX12_mark_79 rfl (lv_at hl 2 rfl) ?_
          refine mget (v := .ref (y 35)) hx hb hts hiX12 hown hK hw 48 (by decide) lf117 rfl rfl dX12_mark_80 ?_
          refine lv_bipush (v := 31) hx hb dX12_mark_83 (by decide) ?_
          refine lv_iload_n hx hb dX12_mark_85 rfl (lv_at hl 3 rfl) ?_
          refine lv_imul hx hb dX12_mark_86 ?_
          have k21 : zI 0 93 (31 * a1) := zI.mul (zI.lit (a := 31) (b := 31) (c := 31) (by decide)) hw29_1 (by decide)
          refine lv_aload_n hx hb dX12_mark_87 rfl (lv_at hl 2 rfl) ?_
          refine mget (v := .ref (y 32)) hx hb hts hiX12 hown hK hw 45 (by decide) lf108 rfl rfl dX12_mark_88 ?_
          refine lv_iconst (v := 0) hx hb dX12_mark_91 (by decide) ?_
          refine zfr 92 [.int 0, .ref (y 32), .int (nI (zn (31 * a1))), .ref (y 35)] rfl (congrArg (fun x => ([.int 0, .ref (y 32), .int x, .ref (y 35)] : List Value)) (zI.ix (n := 466) k21 (by decide)).1) ?_
          refine zcall2 (va_runS (As := [.ref (y 35), .int (nI (zn (31 * a1))), .ref (y 32), .int 0]) (rest := []) ⟨hx, hb, hml, hown, hts⟩ (c_copies l D ct (y 35) (zn (31 * a1)) (y 32) (0) 124 31 (u18 35) (u18 32) (by have h9 := (k21).nn (by decide); omega) (by decide) (by decide) (by decide) H.size) (va_cwS 4 hts (kgSm (zr36 17 rfl) (zr36 18 rfl) (zr1 5 rfl) mL_X12_copies) rfl rfl rfl (by decide +kernel) ⟨Nat.le_of_ble_eq_true rfl, Nat.le_of_ble_eq_true rfl⟩) (zpreS hK hw hS hA zZ.nil hN [36, 33] rfl rfl) rfl rfl hl.1 rfl (lv_room (Nat.le_of_ble_eq_true rfl)) dX12_mark_92 ⟨Nat.le_of_ble_eq_true rfl, Nat.le_of_ble_eq_true rfl⟩) hw hS hA [36, 33] [0, 1, 2, 3, 4, 5, 6, 7, 8, 9, 10, 11, 12, 13, 14, 15, 16, 17, 18, 19, 20, 21, 22, 23, 24, 25, 26, 27, 28, 29, 30, 31, 32, 34, 35, 37, 38, 39] rfl rfl rfl rfl (fun _ H locs _ hw hS => ?_)
          have hw : zPD D A (mW ct h0 y (zset u18 32 (zcp (u18 35) (u18 32) (zn (31 * a1)) (0) 31)) q) H := hw.sub [0, 1, 2, 3, 4, 5, 6, 7, 8, 9, 10, 11, 12, 13, 14, 15, 16, 17, 18, 19, 20, 21, 22, 23, 24, 25, 26, 27, 28, 29, 30, 31, 32, 39, 33, 34, 38, 35, 36, 37] rfl rfl
          refine zfr 95 [] rfl rfl ?_
          refine mgen (P := fun x => mJ 20 x ∧ zFr [100, 37, 25, 26, 27, 28, 29, 30, 31, 32, 151, 35] r x) hw ⟨mcp_s ju18 (Or.inr ⟨Or.inl rfl, zn31 hw29_1 (by decide)⟩), ((pr1.2.tr fu16 rfl).tr fu18 rfl).set rfl⟩ (fun r22 er22 hw pr22 => ?_)
          have hE := zletE er22 hE
          refine lv_aload_n hx hb dX12_mark_95 rfl (lv_at hl 2 rfl) ?_
          refine lv_iconst (v := 0) hx hb dX12_mark_96 (by decide) ?_
          refine mput (ty := .int) (v := .int 0) hx hb hts hiX12 hown hK hw hS 51 (by decide) lf336 rfl rfl (by decide +kernel) rfl rfl dX12_mark_97 (zset r22 151 (fun _ => (0 : Int32))) _ mWf51 (fun H locs hw hS => ?_)
          refine mgen (P := fun x => mJ 20 x ∧ zFr [100, 37, 25, 26, 27, 28, 29, 30, 31, 32, 151, 35] r x) hw ⟨pr22.1.setc rfl (fun _ => ((zI.lit (a := 0) (b := 0) (c := 0) (by decide)).w (c := 0) (d := 16) (by decide))), pr22.2.set rfl⟩ (fun r23 er23 hw pr23 => ?_)
          have hE := zletE er23 hE
          refine lv_goto (tgt := 119) hx hb dX12_mark_100 (by decide) ?_
          refine lv_iconst (v := 1) hx hb dX12_mark_119 (by decide) ?_
          exact ziretQ hQ hx hb hr rfl hlocks (1, r23) rfl ⟨((zI.lit (a := 1) (b := 1) (c := 1) (by decide)).w (c := 0) (d := 1) (by decide)), pr23.1, pr23.2, (hE.symm.trans hX), trivial⟩ hw hS dX12_mark_120
  intro H locs hw hS ls hl
  have hl : lv_has ls 5 [(0, .ref h0), (1, .int a1), (2, .int a2)] := hl
  have hE := hX
  unfold Gm_mark at hE
  refine lv_aload_n hx hb dX12_mark_0 rfl (lv_at hl 0 rfl) ?_
  refine lv_iconst (v := 0) hx hb dX12_mark_1 (by decide) ?_
  refine mput (ty := .int) (v := .int 0) hx hb hts hiX12 hown hK hw hS 0 (by decide) lf129 rfl rfl (by decide +kernel) rfl rfl dX12_mark_2 (zset r 100 (fun _ => (0 : Int32))) _ mWf0 (fun H locs hw hS => ?_)
  refine mgen (P := fun x => mJ 20 x ∧ zFr [100, 37, 25, 26, 27, 28, 29, 30, 31, 32, 151, 35] r x) hw ⟨hJ0.setc rfl (fun _ => (zI.top _)), (zFr.refl).set rfl⟩ (fun r24 er24 hw pr24 => ?_)
  have hE := zletE er24 hE
  refine lv_iload_n hx hb dX12_mark_5 rfl (lv_at hl 1 rfl) ?_
  refine lv_iconst (v := 0) hx hb dX12_mark_6 (by decide) ?_
  refine lv_iconst (v := 3) hx hb dX12_mark_7 (by decide) ?_
  refine zcallE (va_runS (As := [.int a1, .int 0, .int 3]) (rest := []) ⟨hx, hb, hml, hown, hts⟩ (mc_within l D ct a1 0 3 H.size) (va_cwS 3 hts (kgS (zr25 11 rfl) (zr25 12 rfl) (zr1 5 rfl) (zr25 13 rfl)) rfl rfl rfl (by decide +kernel) ⟨Nat.le_of_ble_eq_true rfl, Nat.le_of_ble_eq_true rfl⟩) (zpreS hK hw hS hA zZ.nil hN [] rfl rfl) rfl rfl hl.1 rfl (lv_room (Nat.le_of_ble_eq_true rfl)) dX12_mark_8 ⟨Nat.le_of_ble_eq_true rfl, Nat.le_of_ble_eq_true rfl⟩) hw hS hA mWn 11 rfl (fun u25 H locs pu25 hw hS => ?_)
  have hu25 : zI 0 1 u25 := pu25.1
  have yu25_0 : ¬ u25 = 0 → (0 : Int32) ≤ a1 ∧ a1 ≤ (3 : Int32) := pu25.2.1
  have xu25 : u25 = (Gm_within a1 (0 : Int32) (3 : Int32)) := pu25.2.2.1
  have hE := zletE xu25 hE
  refine zfr 11 [.int u25] rfl rfl ?_
  refine lv_if_eq (tgt := 27) hx hb dX12_mark_11 (by decide) (fun c27 => ?_) (fun c27 => ?_)
  · have hE := zifT c27 hE
    have k28 : zI 0 0 (u25) := zI.eqq c27 (zI.lit (a := 0) (b := 0) (c := 0) (by decide))
    refine lv_iconst (v := 0) hx hb dX12_mark_27 (by decide) ?_
    exact ziretQ hQ hx hb hr rfl hlocks (0, r24) rfl ⟨((zI.lit (a := 0) (b := 0) (c := 0) (by decide)).w (c := 0) (d := 1) (by decide)), pr24.1, pr24.2, (hE.symm.trans hX), trivial⟩ hw hS dX12_mark_28
  · have hE := zifF c27 hE
    have k29 : zI 1 1 (u25) := zI.neD c27 hu25 (zI.lit (a := 0) (b := 0) (c := 0) (by decide)) (by decide)
    have k30 : zI 0 2147483647 (a1) := zI.leD (yu25_0 c27).1 (zI.lit (a := 0) (b := 0) (c := 0) (by decide)) (zI.top _) (by decide)
    have k31 : zI 0 3 (a1) := zI.leU (yu25_0 c27).2 k30 (zI.lit (a := 3) (b := 3) (c := 3) (by decide)) (by decide)
    refine lv_iload_n hx hb dX12_mark_14 rfl (lv_at hl 2 rfl) ?_
    refine lv_if_eq (tgt := 29) hx hb dX12_mark_15 (by decide) (fun c32 => ?_) (fun c32 => ?_)
    · have hE := zifT c32 hE
      have k33 : zI 0 0 (a2) := zI.eqq c32 (zI.lit (a := 0) (b := 0) (c := 0) (by decide))
      exact cut29 r24 k31 (k33.w (c := 0) (d := 1) (by decide)) pr24.1 pr24.2 hE H locs ls hw hS (lv_sub hl [0, 1, 2] rfl)
    · have hE := zifF c32 hE
      have k34 : zI 1 1 (a2) := zI.neD c32 g2 (zI.lit (a := 0) (b := 0) (c := 0) (by decide)) (by decide)
      refine lv_aload_n hx hb dX12_mark_18 rfl (lv_at hl 0 rfl) ?_
      refine mget (v := .ref (y 37)) hx hb hts hiX12 hown hK hw 50 (by decide) lf123 rfl rfl dX12_mark_19 ?_
      refine lv_iload_n hx hb dX12_mark_22 rfl (lv_at hl 1 rfl) ?_
      refine mzald hx hb hK hw 38 mWg37 k31 (by decide) dX12_mark_23 (zgenE (lo := 0) (hi := 1) ((show zI 0 1 (r24 37 _) from pr24.1.i 37 _)) (fun v35 ev35 hv35 => ?_))
      have hE := zletE ev35 hE
      refine lv_if_ne (tgt := 29) hx hb dX12_mark_24 (by decide) (fun c36 => ?_) (fun c36 => ?_)
      · have hE := zifnT c36 hE
        have k37 : zI 1 1 (v35) := zI.neD c36 hv35 (zI.lit (a := 0) (b := 0) (c := 0) (by decide)) (by decide)
        exact cut29 r24 k31 (k34.w (c := 0) (d := 1) (by decide)) pr24.1 pr24.2 hE H locs ls hw hS (lv_sub hl [0, 1, 2] rfl)
      · have hE := zifnF c36 hE
        have k38 : zI 0 0 (v35) := zI.eqq c36 (zI.lit (a := 0) (b := 0) (c := 0) (by decide))
        refine lv_iconst (v := 0) hx hb dX12_mark_27 (by decide) ?_
        exact ziretQ hQ hx hb hr rfl hlocks (0, r24) rfl ⟨((zI.lit (a := 0) (b := 0) (c := 0) (by decide)).w (c := 0) (d := 1) (by decide)), pr24.1, pr24.2, (hE.symm.trans hX), trivial⟩ hw hS dX12_mark_28
