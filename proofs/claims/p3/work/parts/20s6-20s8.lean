set_option maxHeartbeats 4000000 in
set_option maxRecDepth 100000 in
theorem mc_signAt (l : Launch) (D : va_G) (ct : Nat → ClassId) (h0 : Nat) (y : Nat → Nat) (B : Int) (a1 : Int32) (r : zRr) (q : zRq) (g1 : zI 0 1000 a1) (hJ0 : mJ B r) : zC l yX12_signAt (.code yX12_signAt cX12_signAt 2 (some .int) :: wsL_law0) ({ frames := 1, cells := 0, slots := 0, locals := 80 }) D ct [] [.ref h0, .int a1] (mW ct h0 y r q) (S := Int32) (fun u => some (.int u)) (fun u => zI (-2147483648) 2147483647 u ∧ (u = msg r a1) ∧ u = (Gm_signAt a1 r q) ∧ True) (fun u => mW ct h0 y r q) 0 0 := by
  refine zofQ cX12_signAt 2 (some .int) (by decide) rfl (Nat.le_of_ble_eq_true rfl) ?_
  intro p e s m below meth c A a9 Q ha9 hx hb hr hml hts hown hlocks hname hK hA hZ hN hQ
  have hown : s.vm.findClass RX12 = some m.cls := hown
  have hiX12 : ∀ w ∈ wsX120, w ∈ .code yX12_signAt cX12_signAt 2 (some .int) :: wsL_law0 := fun _ h => ki (zs_wsX120 _ h)
  have lf7 := hts (.fieldLink RX12 7 "BeardPassModel" "tape" "[I") (ki (zr7 19 rfl))
  have lf138 := hts (.fieldLink RX12 138 "BeardPassModel" "size" "I") (ki (zr22 11 rfl))
  obtain ⟨X, hX⟩ : ∃ X, X = (Gm_signAt a1 r q) := ⟨_, rfl⟩
  intro H locs hw hS ls hl
  have hl : lv_has ls 2 [(0, .ref h0), (1, .int a1)] := hl
  have hE := hX
  unfold Gm_signAt at hE
  refine lv_iload_n hx hb dX12_signAt_0 rfl (lv_at hl 1 rfl) ?_
  refine lv_aload_n hx hb dX12_signAt_1 rfl (lv_at hl 0 rfl) ?_
  refine mget (v := .int (r 103 0)) hx hb hts hiX12 hown hK hw 3 (by decide) lf138 rfl rfl dX12_signAt_2 ?_
  have k1 : zI 0 1000 (r 103 0) := (show zI 0 1000 (r 103 0) from hJ0.i 103 0)
  refine lv_icmp_ge (tgt := 17) hx hb dX12_signAt_5 (by decide) (fun c2 => ?_) (fun c2 => ?_)
  · have hE := zifT c2 hE
    refine lv_iconst (v := 0) hx hb dX12_signAt_17 (by decide) ?_
    exact ziretQ hQ hx hb hr rfl hlocks 0 rfl ⟨(zI.top _), (show (0 : Int32) = msg r a1 from (msg_out c2)), (hE.symm.trans hX), trivial⟩ hw hS dX12_signAt_18
  · have hE := zifF c2 hE
    have k3 : zI 0 999 (a1) := zI.ltU (zI.nle c2) g1 k1 (by decide)
    have k4 : zI 1 1000 (r 103 0) := zI.ltD (zI.nle c2) g1 k1 (by decide)
    refine lv_aload_n hx hb dX12_signAt_8 rfl (lv_at hl 0 rfl) ?_
    refine mget (v := .ref (y 0)) hx hb hts hiX12 hown hK hw 2 (by decide) lf7 rfl rfl dX12_signAt_9 ?_
    refine lv_iload_n hx hb dX12_signAt_12 rfl (lv_at hl 1 rfl) ?_
    refine miald hx hb hK hw 1 mWg0 k3 (by decide) dX12_signAt_13 ?_
    refine lv_goto (tgt := 18) hx hb dX12_signAt_14 (by decide) ?_
    exact ziretQ hQ hx hb hr rfl hlocks (r 0 (zn a1)) rfl ⟨(zI.top _), (show r 0 (zn a1) = msg r a1 from (msg_in (zI.nle c2)).symm), (hE.symm.trans hX), trivial⟩ hw hS dX12_signAt_18

set_option maxHeartbeats 4000000 in
set_option maxRecDepth 100000 in
theorem mc_nextToken (l : Launch) (D : va_G) (ct : Nat → ClassId) (h0 : Nat) (y : Nat → Nat) (B : Int) (r : zRr) (q : zRq) (hJ0 : mJ B r) (x1 : (r 104 0).toInt ≤ (r 103 0).toInt) : zC l yX12_nextToken (.code yX12_nextToken cX12_nextToken 2 none :: wsL_law0) ({ frames := 2, cells := 0, slots := 0, locals := 120 }) D ct [] [.ref h0] (mW ct h0 y r q) (S := zRr × zRq) (fun u => none) (fun u => mJ B u.1 ∧ zFr [104, 105, 106, 108] r u.1 ∧ (mP u.1) ∧ ((r 104 0).toInt ≤ (u.1 105 0).toInt) ∧ u = (Gm_nextToken r q) ∧ True) (fun u => mW ct h0 y u.1 u.2) 0 0 := by
  refine zofQ cX12_nextToken 2 none (by decide) rfl (Nat.le_of_ble_eq_true rfl) ?_
  intro p e s m below meth c A a9 Q ha9 hx hb hr hml hts hown hlocks hname hK hA hZ hN hQ
  have hown : s.vm.findClass RX12 = some m.cls := hown
  have hiX12 : ∀ w ∈ wsX120, w ∈ .code yX12_nextToken cX12_nextToken 2 none :: wsL_law0 := fun _ h => ki (zs_wsX120 _ h)
  have lf7 := hts (.fieldLink RX12 7 "BeardPassModel" "tape" "[I") (ki (zr7 19 rfl))
  have lf138 := hts (.fieldLink RX12 138 "BeardPassModel" "size" "I") (ki (zr22 11 rfl))
  have lf141 := hts (.fieldLink RX12 141 "BeardPassModel" "place" "I") (ki (zr22 12 rfl))
  have lf144 := hts (.fieldLink RX12 144 "BeardPassModel" "begin" "I") (ki (zr22 17 rfl))
  have lf147 := hts (.fieldLink RX12 147 "BeardPassModel" "word" "J") (ki (zr22 18 rfl))
  have lf151 := hts (.fieldLink RX12 151 "BeardPassModel" "told" "I") (ki (zr22 19 rfl))
  have lf154 := hts (.fieldLink RX12 154 "BeardPassModel" "token" "I") (ki (zr22 0 rfl))
  obtain ⟨X, hX⟩ : ∃ X, X = (Gm_nextToken r q) := ⟨_, rfl⟩
  have cut322 : ∀ (w322_1 : Int32) (rw322 : zRr) (qw322 : zRq) (jw322 : mJ B rw322) (fw322 : zFr [104, 105, 106, 108] r rw322) (mw322_104_0 : zI 0 999 (rw322 104 0)) (mw322_108_0 : zI 0 0 (rw322 108 0)) (x322 : (r 104 0).toInt ≤ (rw322 105 0).toInt ∧ (rw322 105 0).toInt ≤ (rw322 104 0).toInt ∧ (rw322 104 0).toInt < (rw322 103 0).toInt) (hE : X = Gm_nextToken_322 w322_1 rw322 qw322), zKf p l e ({ frames := 2, cells := 0, slots := 0, locals := 120 }) s m a9 below meth c Q D A 322 2 [] (mW ct h0 y rw322 qw322) [(0, .ref h0), (1, .int w322_1)] := by
    intro w322_1 rw322 qw322 jw322 fw322 mw322_104_0 mw322_108_0 x322 hE H locs ls hw hS hl
    unfold Gm_nextToken_322 at hE
    have k1 : zI 0 999 (rw322 104 0) := zI.ltU (Int32.lt_iff_toInt_lt.mpr x322.2.2) mw322_104_0 (show zI 0 1000 (rw322 103 0) from jw322.i 103 0) (by decide)
    refine lv_aload_n hx hb dX12_nextToken_322 rfl (lv_at hl 0 rfl) ?_
    refine lv_dup hx hb dX12_nextToken_323 rfl ?_
    refine mget (v := .int (rw322 104 0)) hx hb hts hiX12 hown hK hw 4 (by decide) lf141 rfl rfl dX12_nextToken_324 ?_
    refine lv_iconst (v := 1) hx hb dX12_nextToken_327 (by decide) ?_
    refine lv_iadd hx hb dX12_nextToken_328 ?_
    have k2 : zI 1 1000 ((rw322 104 0) + 1) := zI.add k1 (zI.lit (a := 1) (b := 1) (c := 1) (by decide)) (by decide)
    refine mput (ty := .int) (v := .int ((rw322 104 0) + 1)) hx hb hts hiX12 hown hK hw hS 4 (by decide) lf141 rfl rfl (by decide +kernel) rfl rfl dX12_nextToken_329 (zset rw322 104 (fun _ => (rw322 104 0) + 1)) _ mWf4 (fun H locs hw hS => ?_)
    refine mgen (P := fun x => mJ B x ∧ zFr [104, 105, 106, 108] r x) hw ⟨jw322.setc rfl (fun _ => (k2.w (c := 0) (d := 1000) (by decide))), fw322.set rfl⟩ (fun r3 er3 hw pr3 => ?_)
    have hE := zletE er3 hE
    refine lv_aload_n hx hb dX12_nextToken_332 rfl (lv_at hl 0 rfl) ?_
    refine lv_iload_n hx hb dX12_nextToken_333 rfl (lv_at hl 1 rfl) ?_
    refine lv_bipush (v := 40) hx hb dX12_nextToken_334 (by decide) ?_
    refine lv_icmp_lt (tgt := 345) hx hb dX12_nextToken_336 (by decide) (fun c4 => ?_) (fun c4 => ?_)
    · have hE := zifT c4 hE
      have k5 : zI (-2147483648) 39 (w322_1) := zI.ltU c4 (zI.top _) (zI.lit (a := 40) (b := 40) (c := 40) (by decide)) (by decide)
      refine lv_iload_n hx hb dX12_nextToken_345 rfl (lv_at hl 1 rfl) ?_
      refine lv_bipush (v := 45) hx hb dX12_nextToken_346 (by decide) ?_
      refine lv_icmp_eq (tgt := 363) hx hb dX12_nextToken_348 (by decide) (fun c6 => ?_) (fun c6 => ?_)
      · have hE := zifT c6 hE
        exact absurd (congrArg Int32.toInt c6) (by have := k5.2; have := (zI.lit (a := 45) (b := 45) (c := 45) (by decide)).1; omega)
      · have hE := zifF c6 hE
        refine lv_iload_n hx hb dX12_nextToken_351 rfl (lv_at hl 1 rfl) ?_
        refine lv_bipush (v := 59) hx hb dX12_nextToken_352 (by decide) ?_
        refine lv_icmp_lt (tgt := 367) hx hb dX12_nextToken_354 (by decide) (fun c7 => ?_) (fun c7 => ?_)
        · have hE := zifT c7 hE
          refine lv_iconst (v := 4) hx hb dX12_nextToken_367 (by decide) ?_
          refine mput (ty := .int) (v := .int 4) hx hb hts hiX12 hown hK hw hS 6 (by decide) lf154 rfl rfl (by decide +kernel) rfl rfl dX12_nextToken_368 (zset r3 106 (fun _ => (4 : Int32))) _ mWf6 (fun H locs hw hS => ?_)
          refine mgen (P := fun x => mJ B x ∧ zFr [104, 105, 106, 108] r x) hw ⟨pr3.1.setc rfl (fun _ => ((zI.lit (a := 4) (b := 4) (c := 4) (by decide)).w (c := 0) (d := 4) (by decide))), pr3.2.set rfl⟩ (fun r8 er8 hw pr8 => ?_)
          have hE := zletE er8 hE
          exact zvretQ hQ hx hb hr hlocks (r8, qw322) rfl ⟨pr8.1, pr8.2, (show mP r8 from (by have v103 : (r8 103 0).toInt = (rw322 103 0).toInt := (by rw [((congrFun (zs_row (k := 103) er8 (by decide)) 0).trans (congrFun (zs_row (k := 103) er3 (by decide)) 0))]); have v104 : (r8 104 0).toInt = (rw322 104 0).toInt + 1 := (by rw [((congrFun (zs_row (k := 104) er8 (by decide)) 0).trans (congrFun (zs_self er3) 0))]; exact i32_s k1 (by decide)); have v105 : (r8 105 0).toInt = (rw322 105 0).toInt := (by rw [((congrFun (zs_row (k := 105) er8 (by decide)) 0).trans (congrFun (zs_row (k := 105) er3 (by decide)) 0))]); have := x322; exact ⟨by omega, by omega, Or.inr (by omega)⟩)), (show (r 104 0).toInt ≤ (r8 105 0).toInt from (by have v104 : (r8 104 0).toInt = (rw322 104 0).toInt + 1 := (by rw [((congrFun (zs_row (k := 104) er8 (by decide)) 0).trans (congrFun (zs_self er3) 0))]; exact i32_s k1 (by decide)); have v105 : (r8 105 0).toInt = (rw322 105 0).toInt := (by rw [((congrFun (zs_row (k := 105) er8 (by decide)) 0).trans (congrFun (zs_row (k := 105) er3 (by decide)) 0))]); have := x322; omega)), (hE.symm.trans hX), trivial⟩ hw hS dX12_nextToken_371
        · have hE := zifF c7 hE
          exact zI.abs (a := 59) (b := 39) (zI.leU (zI.nlt c7) (zI.lit (a := 59) (b := 59) (c := 59) (by decide)) k5 (by decide)) (by decide)
    · have hE := zifF c4 hE
      have k9 : zI 40 2147483647 (w322_1) := zI.leD (zI.nlt c4) (zI.lit (a := 40) (b := 40) (c := 40) (by decide)) (zI.top _) (by decide)
      refine lv_iload_n hx hb dX12_nextToken_339 rfl (lv_at hl 1 rfl) ?_
      refine lv_bipush (v := 43) hx hb dX12_nextToken_340 (by decide) ?_
      refine lv_icmp_le (tgt := 363) hx hb dX12_nextToken_342 (by decide) (fun c10 => ?_) (fun c10 => ?_)
      · have hE := zifT c10 hE
        have k11 : zI 40 43 (w322_1) := zI.leU c10 k9 (zI.lit (a := 43) (b := 43) (c := 43) (by decide)) (by decide)
        refine lv_iconst (v := 3) hx hb dX12_nextToken_363 (by decide) ?_
        refine lv_goto (tgt := 368) hx hb dX12_nextToken_364 (by decide) ?_
        refine mput (ty := .int) (v := .int 3) hx hb hts hiX12 hown hK hw hS 6 (by decide) lf154 rfl rfl (by decide +kernel) rfl rfl dX12_nextToken_368 (zset r3 106 (fun _ => (3 : Int32))) _ mWf6 (fun H locs hw hS => ?_)
        refine mgen (P := fun x => mJ B x ∧ zFr [104, 105, 106, 108] r x) hw ⟨pr3.1.setc rfl (fun _ => ((zI.lit (a := 3) (b := 3) (c := 3) (by decide)).w (c := 0) (d := 4) (by decide))), pr3.2.set rfl⟩ (fun r12 er12 hw pr12 => ?_)
        have hE := zletE er12 hE
        exact zvretQ hQ hx hb hr hlocks (r12, qw322) rfl ⟨pr12.1, pr12.2, (show mP r12 from (by have v103 : (r12 103 0).toInt = (rw322 103 0).toInt := (by rw [((congrFun (zs_row (k := 103) er12 (by decide)) 0).trans (congrFun (zs_row (k := 103) er3 (by decide)) 0))]); have v104 : (r12 104 0).toInt = (rw322 104 0).toInt + 1 := (by rw [((congrFun (zs_row (k := 104) er12 (by decide)) 0).trans (congrFun (zs_self er3) 0))]; exact i32_s k1 (by decide)); have v105 : (r12 105 0).toInt = (rw322 105 0).toInt := (by rw [((congrFun (zs_row (k := 105) er12 (by decide)) 0).trans (congrFun (zs_row (k := 105) er3 (by decide)) 0))]); have := x322; exact ⟨by omega, by omega, Or.inr (by omega)⟩)), (show (r 104 0).toInt ≤ (r12 105 0).toInt from (by have v104 : (r12 104 0).toInt = (rw322 104 0).toInt + 1 := (by rw [((congrFun (zs_row (k := 104) er12 (by decide)) 0).trans (congrFun (zs_self er3) 0))]; exact i32_s k1 (by decide)); have v105 : (r12 105 0).toInt = (rw322 105 0).toInt := (by rw [((congrFun (zs_row (k := 105) er12 (by decide)) 0).trans (congrFun (zs_row (k := 105) er3 (by decide)) 0))]); have := x322; omega)), (hE.symm.trans hX), trivial⟩ hw hS dX12_nextToken_371
      · have hE := zifF c10 hE
        have k13 : zI 44 2147483647 (w322_1) := zI.ltD (zI.nle c10) (zI.lit (a := 43) (b := 43) (c := 43) (by decide)) k9 (by decide)
        refine lv_iload_n hx hb dX12_nextToken_345 rfl (lv_at hl 1 rfl) ?_
        refine lv_bipush (v := 45) hx hb dX12_nextToken_346 (by decide) ?_
        refine lv_icmp_eq (tgt := 363) hx hb dX12_nextToken_348 (by decide) (fun c14 => ?_) (fun c14 => ?_)
        · have hE := zifT c14 hE
          have k15 : zI 45 45 (w322_1) := zI.eqq c14 (zI.lit (a := 45) (b := 45) (c := 45) (by decide))
          refine lv_iconst (v := 3) hx hb dX12_nextToken_363 (by decide) ?_
          refine lv_goto (tgt := 368) hx hb dX12_nextToken_364 (by decide) ?_
          refine mput (ty := .int) (v := .int 3) hx hb hts hiX12 hown hK hw hS 6 (by decide) lf154 rfl rfl (by decide +kernel) rfl rfl dX12_nextToken_368 (zset r3 106 (fun _ => (3 : Int32))) _ mWf6 (fun H locs hw hS => ?_)
          refine mgen (P := fun x => mJ B x ∧ zFr [104, 105, 106, 108] r x) hw ⟨pr3.1.setc rfl (fun _ => ((zI.lit (a := 3) (b := 3) (c := 3) (by decide)).w (c := 0) (d := 4) (by decide))), pr3.2.set rfl⟩ (fun r16 er16 hw pr16 => ?_)
          have hE := zletE er16 hE
          exact zvretQ hQ hx hb hr hlocks (r16, qw322) rfl ⟨pr16.1, pr16.2, (show mP r16 from (by have v103 : (r16 103 0).toInt = (rw322 103 0).toInt := (by rw [((congrFun (zs_row (k := 103) er16 (by decide)) 0).trans (congrFun (zs_row (k := 103) er3 (by decide)) 0))]); have v104 : (r16 104 0).toInt = (rw322 104 0).toInt + 1 := (by rw [((congrFun (zs_row (k := 104) er16 (by decide)) 0).trans (congrFun (zs_self er3) 0))]; exact i32_s k1 (by decide)); have v105 : (r16 105 0).toInt = (rw322 105 0).toInt := (by rw [((congrFun (zs_row (k := 105) er16 (by decide)) 0).trans (congrFun (zs_row (k := 105) er3 (by decide)) 0))]); have := x322; exact ⟨by omega, by omega, Or.inr (by omega)⟩)), (show (r 104 0).toInt ≤ (r16 105 0).toInt from (by have v104 : (r16 104 0).toInt = (rw322 104 0).toInt + 1 := (by rw [((congrFun (zs_row (k := 104) er16 (by decide)) 0).trans (congrFun (zs_self er3) 0))]; exact i32_s k1 (by decide)); have v105 : (r16 105 0).toInt = (rw322 105 0).toInt := (by rw [((congrFun (zs_row (k := 105) er16 (by decide)) 0).trans (congrFun (zs_row (k := 105) er3 (by decide)) 0))]); have := x322; omega)), (hE.symm.trans hX), trivial⟩ hw hS dX12_nextToken_371
        · have hE := zifF c14 hE
          refine lv_iload_n hx hb dX12_nextToken_351 rfl (lv_at hl 1 rfl) ?_
          refine lv_bipush (v := 59) hx hb dX12_nextToken_352 (by decide) ?_
          refine lv_icmp_lt (tgt := 367) hx hb dX12_nextToken_354 (by decide) (fun c17 => ?_) (fun c17 => ?_)
          · have hE := zifT c17 hE
            have k18 : zI 44 58 (w322_1) := zI.ltU c17 k13 (zI.lit (a := 59) (b := 59) (c := 59) (by decide)) (by decide)
            refine lv_iconst (v := 4) hx hb dX12_nextToken_367 (by decide) ?_
            refine mput (ty := .int) (v := .int 4) hx hb hts hiX12 hown hK hw hS 6 (by decide) lf154 rfl rfl (by decide +kernel) rfl rfl dX12_nextToken_368 (zset r3 106 (fun _ => (4 : Int32))) _ mWf6 (fun H locs hw hS => ?_)
            refine mgen (P := fun x => mJ B x ∧ zFr [104, 105, 106, 108] r x) hw ⟨pr3.1.setc rfl (fun _ => ((zI.lit (a := 4) (b := 4) (c := 4) (by decide)).w (c := 0) (d := 4) (by decide))), pr3.2.set rfl⟩ (fun r19 er19 hw pr19 => ?_)
            have hE := zletE er19 hE
            exact zvretQ hQ hx hb hr hlocks (r19, qw322) rfl ⟨pr19.1, pr19.2, (show mP r19 from (by have v103 : (r19 103 0).toInt = (rw322 103 0).toInt := (by rw [((congrFun (zs_row (k := 103) er19 (by decide)) 0).trans (congrFun (zs_row (k := 103) er3 (by decide)) 0))]); have v104 : (r19 104 0).toInt = (rw322 104 0).toInt + 1 := (by rw [((congrFun (zs_row (k := 104) er19 (by decide)) 0).trans (congrFun (zs_self er3) 0))]; exact i32_s k1 (by decide)); have v105 : (r19 105 0).toInt = (rw322 105 0).toInt := (by rw [((congrFun (zs_row (k := 105) er19 (by decide)) 0).trans (congrFun (zs_row (k := 105) er3 (by decide)) 0))]); have := x322; exact ⟨by omega, by omega, Or.inr (by omega)⟩)), (show (r 104 0).toInt ≤ (r19 105 0).toInt from (by have v104 : (r19 104 0).toInt = (rw322 104 0).toInt + 1 := (by rw [((congrFun (zs_row (k := 104) er19 (by decide)) 0).trans (congrFun (zs_self er3) 0))]; exact i32_s k1 (by decide)); have v105 : (r19 105 0).toInt = (rw322 105 0).toInt := (by rw [((congrFun (zs_row (k := 105) er19 (by decide)) 0).trans (congrFun (zs_row (k := 105) er3 (by decide)) 0))]); have := x322; omega)), (hE.symm.trans hX), trivial⟩ hw hS dX12_nextToken_371
          · have hE := zifF c17 hE
            have k20 : zI 59 2147483647 (w322_1) := zI.leD (zI.nlt c17) (zI.lit (a := 59) (b := 59) (c := 59) (by decide)) k13 (by decide)
            refine lv_iload_n hx hb dX12_nextToken_357 rfl (lv_at hl 1 rfl) ?_
            refine lv_bipush (v := 61) hx hb dX12_nextToken_358 (by decide) ?_
            refine lv_icmp_gt (tgt := 367) hx hb dX12_nextToken_360 (by decide) (fun c21 => ?_) (fun c21 => ?_)
            · have hE := zifT c21 hE
              have k22 : zI 62 2147483647 (w322_1) := zI.ltD c21 (zI.lit (a := 61) (b := 61) (c := 61) (by decide)) k20 (by decide)
              refine lv_iconst (v := 4) hx hb dX12_nextToken_367 (by decide) ?_
              refine mput (ty := .int) (v := .int 4) hx hb hts hiX12 hown hK hw hS 6 (by decide) lf154 rfl rfl (by decide +kernel) rfl rfl dX12_nextToken_368 (zset r3 106 (fun _ => (4 : Int32))) _ mWf6 (fun H locs hw hS => ?_)
              refine mgen (P := fun x => mJ B x ∧ zFr [104, 105, 106, 108] r x) hw ⟨pr3.1.setc rfl (fun _ => ((zI.lit (a := 4) (b := 4) (c := 4) (by decide)).w (c := 0) (d := 4) (by decide))), pr3.2.set rfl⟩ (fun r23 er23 hw pr23 => ?_)
              have hE := zletE er23 hE
              exact zvretQ hQ hx hb hr hlocks (r23, qw322) rfl ⟨pr23.1, pr23.2, (show mP r23 from (by have v103 : (r23 103 0).toInt = (rw322 103 0).toInt := (by rw [((congrFun (zs_row (k := 103) er23 (by decide)) 0).trans (congrFun (zs_row (k := 103) er3 (by decide)) 0))]); have v104 : (r23 104 0).toInt = (rw322 104 0).toInt + 1 := (by rw [((congrFun (zs_row (k := 104) er23 (by decide)) 0).trans (congrFun (zs_self er3) 0))]; exact i32_s k1 (by decide)); have v105 : (r23 105 0).toInt = (rw322 105 0).toInt := (by rw [((congrFun (zs_row (k := 105) er23 (by decide)) 0).trans (congrFun (zs_row (k := 105) er3 (by decide)) 0))]); have := x322; exact ⟨by omega, by omega, Or.inr (by omega)⟩)), (show (r 104 0).toInt ≤ (r23 105 0).toInt from (by have v104 : (r23 104 0).toInt = (rw322 104 0).toInt + 1 := (by rw [((congrFun (zs_row (k := 104) er23 (by decide)) 0).trans (congrFun (zs_self er3) 0))]; exact i32_s k1 (by decide)); have v105 : (r23 105 0).toInt = (rw322 105 0).toInt := (by rw [((congrFun (zs_row (k := 105) er23 (by decide)) 0).trans (congrFun (zs_row (k := 105) er3 (by decide)) 0))]); have := x322; omega)), (hE.symm.trans hX), trivial⟩ hw hS dX12_nextToken_371
            · have hE := zifF c21 hE
              have k24 : zI 59 61 (w322_1) := zI.leU (zI.nlt c21) k20 (zI.lit (a := 61) (b := 61) (c := 61) (by decide)) (by decide)
              refine lv_iconst (v := 3) hx hb dX12_nextToken_363 (by decide) ?_
              refine lv_goto (tgt := 368) hx hb dX12_nextToken_364 (by decide) ?_
              refine mput (ty := .int) (v := .int 3) hx hb hts hiX12 hown hK hw hS 6 (by decide) lf154 rfl rfl (by decide +kernel) rfl rfl dX12_nextToken_368 (zset r3 106 (fun _ => (3 : Int32))) _ mWf6 (fun H locs hw hS => ?_)
              refine mgen (P := fun x => mJ B x ∧ zFr [104, 105, 106, 108] r x) hw ⟨pr3.1.setc rfl (fun _ => ((zI.lit (a := 3) (b := 3) (c := 3) (by decide)).w (c := 0) (d := 4) (by decide))), pr3.2.set rfl⟩ (fun r25 er25 hw pr25 => ?_)
              have hE := zletE er25 hE
              exact zvretQ hQ hx hb hr hlocks (r25, qw322) rfl ⟨pr25.1, pr25.2, (show mP r25 from (by have v103 : (r25 103 0).toInt = (rw322 103 0).toInt := (by rw [((congrFun (zs_row (k := 103) er25 (by decide)) 0).trans (congrFun (zs_row (k := 103) er3 (by decide)) 0))]); have v104 : (r25 104 0).toInt = (rw322 104 0).toInt + 1 := (by rw [((congrFun (zs_row (k := 104) er25 (by decide)) 0).trans (congrFun (zs_self er3) 0))]; exact i32_s k1 (by decide)); have v105 : (r25 105 0).toInt = (rw322 105 0).toInt := (by rw [((congrFun (zs_row (k := 105) er25 (by decide)) 0).trans (congrFun (zs_row (k := 105) er3 (by decide)) 0))]); have := x322; exact ⟨by omega, by omega, Or.inr (by omega)⟩)), (show (r 104 0).toInt ≤ (r25 105 0).toInt from (by have v104 : (r25 104 0).toInt = (rw322 104 0).toInt + 1 := (by rw [((congrFun (zs_row (k := 104) er25 (by decide)) 0).trans (congrFun (zs_self er3) 0))]; exact i32_s k1 (by decide)); have v105 : (r25 105 0).toInt = (rw322 105 0).toInt := (by rw [((congrFun (zs_row (k := 105) er25 (by decide)) 0).trans (congrFun (zs_row (k := 105) er3 (by decide)) 0))]); have := x322; omega)), (hE.symm.trans hX), trivial⟩ hw hS dX12_nextToken_371
  have cut299 : ∀ (rw299 : zRr) (qw299 : zRq) (jw299 : mJ B rw299) (fw299 : zFr [104, 105, 106, 108] r rw299) (mw299_108_0 : zI 0 65535 (rw299 108 0)) (x299 : (r 104 0).toInt ≤ (rw299 105 0).toInt ∧ (rw299 105 0).toInt < (rw299 104 0).toInt ∧ (rw299 104 0).toInt ≤ (rw299 103 0).toInt) (hE : X = Gm_nextToken_299 rw299 qw299), zKf p l e ({ frames := 2, cells := 0, slots := 0, locals := 120 }) s m a9 below meth c Q D A 299 2 [] (mW ct h0 y rw299 qw299) [(0, .ref h0)] := by
    intro rw299 qw299 jw299 fw299 mw299_108_0 x299 hE H locs ls hw hS hl
    unfold Gm_nextToken_299 at hE
    refine lv_aload_n hx hb dX12_nextToken_299 rfl (lv_at hl 0 rfl) ?_
    refine lv_aload_n hx hb dX12_nextToken_300 rfl (lv_at hl 0 rfl) ?_
    refine mget (v := .int (rw299 104 0)) hx hb hts hiX12 hown hK hw 4 (by decide) lf141 rfl rfl dX12_nextToken_301 ?_
    refine lv_aload_n hx hb dX12_nextToken_304 rfl (lv_at hl 0 rfl) ?_
    refine mget (v := .int (rw299 105 0)) hx hb hts hiX12 hown hK hw 5 (by decide) lf144 rfl rfl dX12_nextToken_305 ?_
    refine lv_isub hx hb dX12_nextToken_308 (zgenE (lo := (-1000)) (hi := 1000) (zI.sub (show zI 0 1000 (rw299 104 0) from jw299.i 104 0) (show zI 0 1000 (rw299 105 0) from jw299.i 105 0) (by decide)) (fun v26 ev26 hv26 => ?_))
    have hE := zletE ev26 hE
    refine lv_iconst (v := 4) hx hb dX12_nextToken_309 (by decide) ?_
    refine lv_icmp_le (tgt := 317) hx hb dX12_nextToken_310 (by decide) (fun c27 => ?_) (fun c27 => ?_)
    · have hE := zifT c27 hE
      have k28 : zI (-1000) 4 (v26) := zI.leU c27 hv26 (zI.lit (a := 4) (b := 4) (c := 4) (by decide)) (by decide)
      refine lv_iconst (v := 2) hx hb dX12_nextToken_317 (by decide) ?_
      refine mput (ty := .int) (v := .int 2) hx hb hts hiX12 hown hK hw hS 6 (by decide) lf154 rfl rfl (by decide +kernel) rfl rfl dX12_nextToken_318 (zset rw299 106 (fun _ => (2 : Int32))) _ mWf6 (fun H locs hw hS => ?_)
      refine mgen (P := fun x => mJ B x ∧ zFr [104, 105, 106, 108] r x) hw ⟨jw299.setc rfl (fun _ => ((zI.lit (a := 2) (b := 2) (c := 2) (by decide)).w (c := 0) (d := 4) (by decide))), fw299.set rfl⟩ (fun r29 er29 hw pr29 => ?_)
      have hE := zletE er29 hE
      exact zvretQ hQ hx hb hr hlocks (r29, qw299) rfl ⟨pr29.1, pr29.2, (show mP r29 from (by have v103 : (r29 103 0).toInt = (rw299 103 0).toInt := (by rw [(congrFun (zs_row (k := 103) er29 (by decide)) 0)]); have v104 : (r29 104 0).toInt = (rw299 104 0).toInt := (by rw [(congrFun (zs_row (k := 104) er29 (by decide)) 0)]); have v105 : (r29 105 0).toInt = (rw299 105 0).toInt := (by rw [(congrFun (zs_row (k := 105) er29 (by decide)) 0)]); have := x299; exact ⟨by omega, by omega, Or.inr (by omega)⟩)), (show (r 104 0).toInt ≤ (r29 105 0).toInt from (by have v104 : (r29 104 0).toInt = (rw299 104 0).toInt := (by rw [(congrFun (zs_row (k := 104) er29 (by decide)) 0)]); have v105 : (r29 105 0).toInt = (rw299 105 0).toInt := (by rw [(congrFun (zs_row (k := 105) er29 (by decide)) 0)]); have := x299; omega)), (hE.symm.trans hX), trivial⟩ hw hS dX12_nextToken_321
    · have hE := zifF c27 hE
      have k30 : zI 5 1000 (v26) := zI.ltD (zI.nle c27) (zI.lit (a := 4) (b := 4) (c := 4) (by decide)) hv26 (by decide)
      refine lv_iconst (v := 4) hx hb dX12_nextToken_313 (by decide) ?_
      refine lv_goto (tgt := 318) hx hb dX12_nextToken_314 (by decide) ?_
      refine mput (ty := .int) (v := .int 4) hx hb hts hiX12 hown hK hw hS 6 (by decide) lf154 rfl rfl (by decide +kernel) rfl rfl dX12_nextToken_318 (zset rw299 106 (fun _ => (4 : Int32))) _ mWf6 (fun H locs hw hS => ?_)
      refine mgen (P := fun x => mJ B x ∧ zFr [104, 105, 106, 108] r x) hw ⟨jw299.setc rfl (fun _ => ((zI.lit (a := 4) (b := 4) (c := 4) (by decide)).w (c := 0) (d := 4) (by decide))), fw299.set rfl⟩ (fun r31 er31 hw pr31 => ?_)
      have hE := zletE er31 hE
      exact zvretQ hQ hx hb hr hlocks (r31, qw299) rfl ⟨pr31.1, pr31.2, (show mP r31 from (by have v103 : (r31 103 0).toInt = (rw299 103 0).toInt := (by rw [(congrFun (zs_row (k := 103) er31 (by decide)) 0)]); have v104 : (r31 104 0).toInt = (rw299 104 0).toInt := (by rw [(congrFun (zs_row (k := 104) er31 (by decide)) 0)]); have v105 : (r31 105 0).toInt = (rw299 105 0).toInt := (by rw [(congrFun (zs_row (k := 105) er31 (by decide)) 0)]); have := x299; exact ⟨by omega, by omega, Or.inr (by omega)⟩)), (show (r 104 0).toInt ≤ (r31 105 0).toInt from (by have v104 : (r31 104 0).toInt = (rw299 104 0).toInt := (by rw [(congrFun (zs_row (k := 104) er31 (by decide)) 0)]); have v105 : (r31 105 0).toInt = (rw299 105 0).toInt := (by rw [(congrFun (zs_row (k := 105) er31 (by decide)) 0)]); have := x299; omega)), (hE.symm.trans hX), trivial⟩ hw hS dX12_nextToken_321
  have cut224 : ∀ (n224 : Nat) (rw224 : zRr) (qw224 : zRq) (jw224 : mJ B rw224) (fw224 : zFr [104, 105, 106, 108] r rw224) (mw224_108_0 : zI 0 65535 (rw224 108 0)) (x224 : (r 104 0).toInt ≤ (rw224 105 0).toInt ∧ (rw224 105 0).toInt ≤ (rw224 104 0).toInt ∧ (rw224 104 0).toInt ≤ (rw224 103 0).toInt ∧ ((rw224 105 0).toInt < (rw224 104 0).toInt ∨ zI 48 57 (msg rw224 (rw224 104 0)))) (x224b : ((rw224 104 0).toInt - (rw224 105 0).toInt ≤ 0 → (rw224 108 0).toInt ≤ 0) ∧ ((rw224 104 0).toInt - (rw224 105 0).toInt ≤ 1 → (rw224 108 0).toInt ≤ 9) ∧ ((rw224 104 0).toInt - (rw224 105 0).toInt ≤ 2 → (rw224 108 0).toInt ≤ 99) ∧ ((rw224 104 0).toInt - (rw224 105 0).toInt ≤ 3 → (rw224 108 0).toInt ≤ 999)) (hE : X = Gm_nextToken_224 n224 rw224 qw224), (rw224 103 0).toInt - (rw224 104 0).toInt < (n224 : Int) → zKf p l e ({ frames := 2, cells := 0, slots := 0, locals := 120 }) s m a9 below meth c Q D A 224 2 [] (mW ct h0 y rw224 qw224) [(0, .ref h0)] := by
    intro n224
    induction n224 with
    | zero => intro rw224 qw224 jw224 fw224 mw224_108_0 x224 x224b hE hm224; exact absurd hm224 (by obtain ⟨h2, h3, h4, -⟩ := x224; omega)
    | succ n224 ih224 =>
      intro rw224 qw224 jw224 fw224 mw224_108_0 x224 x224b hE hm224
      have hE : X = Bm_nextToken_224 (Gm_nextToken_224 n224) rw224 qw224 := hE
      unfold Bm_nextToken_224 at hE
      intro H locs ls hw hS hl
      refine lv_aload_n hx hb dX12_nextToken_224 rfl (lv_at hl 0 rfl) ?_
      refine lv_aload_n hx hb dX12_nextToken_225 rfl (lv_at hl 0 rfl) ?_
      refine mget (v := .int (rw224 104 0)) hx hb hts hiX12 hown hK hw 4 (by decide) lf141 rfl rfl dX12_nextToken_226 ?_
      refine mcallV (As := [.int (rw224 104 0)]) (rest := []) ⟨hx, hb, hml, hown, hts⟩ (mc_signAt l D ct h0 y B (rw224 104 0) rw224 qw224 (show zI 0 1000 (rw224 104 0) from jw224.i 104 0) jw224) (wqX12_157_mc_signAt hts ⟨Nat.le_of_ble_eq_true rfl, Nat.le_of_ble_eq_true rfl⟩) hw hS hA hK hN rfl hl.1 rfl (Nat.le_of_ble_eq_true rfl) dX12_nextToken_229 232 rfl (fun u32 H locs pu32 hw hS => ?_)
      have hu32 : zI (-2147483648) 2147483647 u32 := pu32.1
      have yu32_0 : u32 = msg rw224 (rw224 104 0) := pu32.2.1
      have xu32 : u32 = (Gm_signAt (rw224 104 0) rw224 qw224) := pu32.2.2.1
      have hE := zletE xu32 hE
      have hw : zPD D A (mW ct h0 y rw224 qw224) H := hw
      refine zfr 232 [.int u32] rfl rfl ?_
      refine lv_bipush (v := 48) hx hb dX12_nextToken_232 (by decide) ?_
      refine lv_icmp_lt (tgt := 299) hx hb dX12_nextToken_234 (by decide) (fun c34 => ?_) (fun c34 => ?_)
      · have hE := zifT c34 hE
        have k35 : zI (-2147483648) 47 (u32) := zI.ltU c34 (zI.top _) (zI.lit (a := 48) (b := 48) (c := 48) (by decide)) (by decide)
        exact cut299 rw224 qw224 jw224 fw224 mw224_108_0 (by obtain ⟨h2, h3, h4, h5⟩ := x224; refine ⟨h2, ?_, h4⟩; rcases h5 with h5 | h5; exact h5; have h6 : zI 48 57 u32 := (by rw [yu32_0]; exact h5); have := h6.1; have := h6.2; have := (k35).1; have := (k35).2; omega) hE H locs ls hw hS (lv_sub hl [0] rfl)
      · have hE := zifF c34 hE
        have k36 : zI 48 2147483647 (u32) := zI.leD (zI.nlt c34) (zI.lit (a := 48) (b := 48) (c := 48) (by decide)) (zI.top _) (by decide)
        refine lv_aload_n hx hb dX12_nextToken_237 rfl (lv_at hl 0 rfl) ?_
        refine lv_aload_n hx hb dX12_nextToken_238 rfl (lv_at hl 0 rfl) ?_
        refine mget (v := .int (rw224 104 0)) hx hb hts hiX12 hown hK hw 4 (by decide) lf141 rfl rfl dX12_nextToken_239 ?_
        refine mcallV (As := [.int (rw224 104 0)]) (rest := []) ⟨hx, hb, hml, hown, hts⟩ (mc_signAt l D ct h0 y B (rw224 104 0) rw224 qw224 (show zI 0 1000 (rw224 104 0) from jw224.i 104 0) jw224) (wqX12_157_mc_signAt hts ⟨Nat.le_of_ble_eq_true rfl, Nat.le_of_ble_eq_true rfl⟩) hw hS hA hK hN rfl hl.1 rfl (Nat.le_of_ble_eq_true rfl) dX12_nextToken_242 245 rfl (fun u37 H locs pu37 hw hS => ?_)
        have hu37 : zI (-2147483648) 2147483647 u37 := pu37.1
        have yu37_0 : u37 = msg rw224 (rw224 104 0) := pu37.2.1
        have xu37 : u37 = (Gm_signAt (rw224 104 0) rw224 qw224) := pu37.2.2.1
        have hE := zletE xu37 hE
        have hw : zPD D A (mW ct h0 y rw224 qw224) H := hw
        refine zfr 245 [.int u37] rfl rfl ?_
        refine lv_bipush (v := 57) hx hb dX12_nextToken_245 (by decide) ?_
        refine lv_icmp_gt (tgt := 299) hx hb dX12_nextToken_247 (by decide) (fun c39 => ?_) (fun c39 => ?_)
        · have hE := zifT c39 hE
          have k40 : zI 58 2147483647 (u37) := zI.ltD c39 (zI.lit (a := 57) (b := 57) (c := 57) (by decide)) (zI.top _) (by decide)
          exact cut299 rw224 qw224 jw224 fw224 mw224_108_0 (by obtain ⟨h2, h3, h4, h5⟩ := x224; refine ⟨h2, ?_, h4⟩; rcases h5 with h5 | h5; exact h5; have h6 : zI 48 57 u37 := (by rw [yu37_0]; exact h5); have := h6.1; have := h6.2; have := (k40).1; have := (k40).2; omega) hE H locs ls hw hS (lv_sub hl [0] rfl)
        · have hE := zifF c39 hE
          have k41 : zI (-2147483648) 57 (u37) := zI.leU (zI.nlt c39) (zI.top _) (zI.lit (a := 57) (b := 57) (c := 57) (by decide)) (by decide)
          have k42 : zI 0 999 (rw224 104 0) := zI.ltU (msg_lt yu32_0 (by have := (k36).1; omega)) (show zI 0 1000 (rw224 104 0) from jw224.i 104 0) (show zI 0 1000 (rw224 103 0) from jw224.i 103 0) (by decide)
          refine lv_aload_n hx hb dX12_nextToken_250 rfl (lv_at hl 0 rfl) ?_
          refine mget (v := .int (rw224 104 0)) hx hb hts hiX12 hown hK hw 4 (by decide) lf141 rfl rfl dX12_nextToken_251 ?_
          refine lv_aload_n hx hb dX12_nextToken_254 rfl (lv_at hl 0 rfl) ?_
          refine mget (v := .int (rw224 105 0)) hx hb hts hiX12 hown hK hw 5 (by decide) lf144 rfl rfl dX12_nextToken_255 ?_
          refine lv_isub hx hb dX12_nextToken_258 ?_
          have k43 : zI (-1000) 999 ((rw224 104 0) - (rw224 105 0)) := zI.sub k42 (show zI 0 1000 (rw224 105 0) from jw224.i 105 0) (by decide)
          refine lv_iconst (v := 4) hx hb dX12_nextToken_259 (by decide) ?_
          refine lv_icmp_ge (tgt := 286) hx hb dX12_nextToken_260 (by decide) (fun c44 => ?_) (fun c44 => ?_)
          · have hE := zifT c44 hE
            have k45 : zI 4 999 ((rw224 104 0) - (rw224 105 0)) := zI.leD c44 (zI.lit (a := 4) (b := 4) (c := 4) (by decide)) k43 (by decide)
            refine lv_aload_n hx hb dX12_nextToken_286 rfl (lv_at hl 0 rfl) ?_
            refine lv_dup hx hb dX12_nextToken_287 rfl ?_
            refine mget (v := .int (rw224 104 0)) hx hb hts hiX12 hown hK hw 4 (by decide) lf141 rfl rfl dX12_nextToken_288 ?_
            refine lv_iconst (v := 1) hx hb dX12_nextToken_291 (by decide) ?_
            refine lv_iadd hx hb dX12_nextToken_292 ?_
            have k46 : zI 1 1000 ((rw224 104 0) + 1) := zI.add k42 (zI.lit (a := 1) (b := 1) (c := 1) (by decide)) (by decide)
            refine mput (ty := .int) (v := .int ((rw224 104 0) + 1)) hx hb hts hiX12 hown hK hw hS 4 (by decide) lf141 rfl rfl (by decide +kernel) rfl rfl dX12_nextToken_293 (zset rw224 104 (fun _ => (rw224 104 0) + 1)) _ mWf4 (fun H locs hw hS => ?_)
            refine mgen (P := fun x => mJ B x ∧ zFr [104, 105, 106, 108] r x) hw ⟨jw224.setc rfl (fun _ => (k46.w (c := 0) (d := 1000) (by decide))), fw224.set rfl⟩ (fun r47 er47 hw pr47 => ?_)
            have hE := zletE er47 hE
            refine lv_goto (tgt := 224) hx hb dX12_nextToken_296 (by decide) ?_
            exact ih224 r47 qw224 pr47.1 pr47.2 (zs_at er47 mw224_108_0 (by decide)) (by have v103 : (r47 103 0).toInt = (rw224 103 0).toInt := (by rw [(congrFun (zs_row (k := 103) er47 (by decide)) 0)]); have v104 : (r47 104 0).toInt = (rw224 104 0).toInt + 1 := (by rw [(congrFun (zs_self er47) 0)]; exact i32_s k42 (by decide)); have v105 : (r47 105 0).toInt = (rw224 105 0).toInt := (by rw [(congrFun (zs_row (k := 105) er47 (by decide)) 0)]); have h1 := ltI (msg_lt yu32_0 (by have := (k36).1; omega)); obtain ⟨h2, h3, h4, -⟩ := x224; exact ⟨by omega, by omega, by omega, Or.inl (by omega)⟩) (by have v104 : (r47 104 0).toInt = (rw224 104 0).toInt + 1 := (by rw [(congrFun (zs_self er47) 0)]; exact i32_s k42 (by decide)); have v105 : (r47 105 0).toInt = (rw224 105 0).toInt := (by rw [(congrFun (zs_row (k := 105) er47 (by decide)) 0)]); have v108 : (r47 108 0).toInt = (rw224 108 0).toInt := (by rw [(congrFun (zs_row (k := 108) er47 (by decide)) 0)]); obtain ⟨t0, t1, t2, t3⟩ := x224b; have e9 := i32_d k42 (show zI 0 1000 (rw224 105 0) from jw224.i 105 0) (by decide); have c4 : (4 : Int32).toInt = 4 := (by decide); have h8 := leI c44; rw [c4, e9] at h8; exact ⟨by omega, by omega, by omega, by omega⟩) hE (by have v103 : (r47 103 0).toInt = (rw224 103 0).toInt := (by rw [(congrFun (zs_row (k := 103) er47 (by decide)) 0)]); have v104 : (r47 104 0).toInt = (rw224 104 0).toInt + 1 := (by rw [(congrFun (zs_self er47) 0)]; exact i32_s k42 (by decide)); omega) H locs ls hw hS (lv_sub hl [0] rfl)
          · have hE := zifF c44 hE
            have k48 : zI (-1000) 3 ((rw224 104 0) - (rw224 105 0)) := zI.ltU (zI.nle c44) k43 (zI.lit (a := 4) (b := 4) (c := 4) (by decide)) (by decide)
            have h999 : zI 0 999 (rw224 108 0) := ⟨(show zI 0 9999 (rw224 108 0) from jw224.i 108 0).1, by have e9 := i32_d k42 (show zI 0 1000 (rw224 105 0) from jw224.i 105 0) (by decide); have h8 := (k48).2; rw [e9] at h8; obtain ⟨t0, t1, t2, t3⟩ := x224b; omega⟩
            refine lv_aload_n hx hb dX12_nextToken_263 rfl (lv_at hl 0 rfl) ?_
            refine lv_aload_n hx hb dX12_nextToken_264 rfl (lv_at hl 0 rfl) ?_
            refine mget (v := .int (rw224 108 0)) hx hb hts hiX12 hown hK hw 8 (by decide) lf151 rfl rfl dX12_nextToken_265 ?_
            refine lv_bipush (v := 10) hx hb dX12_nextToken_268 (by decide) ?_
            refine lv_imul hx hb dX12_nextToken_270 ?_
            have k49 : zI 0 9990 ((rw224 108 0) * 10) := zI.mul h999 (zI.lit (a := 10) (b := 10) (c := 10) (by decide)) (by decide)
            refine lv_aload_n hx hb dX12_nextToken_271 rfl (lv_at hl 0 rfl) ?_
            refine lv_aload_n hx hb dX12_nextToken_272 rfl (lv_at hl 0 rfl) ?_
            refine mget (v := .int (rw224 104 0)) hx hb hts hiX12 hown hK hw 4 (by decide) lf141 rfl rfl dX12_nextToken_273 ?_
            refine mcallV (As := [.int (rw224 104 0)]) (rest := [.int ((rw224 108 0) * 10), .ref h0]) ⟨hx, hb, hml, hown, hts⟩ (mc_signAt l D ct h0 y B (rw224 104 0) rw224 qw224 (k42.w (c := 0) (d := 1000) (by decide)) jw224) (wqX12_157_mc_signAt hts ⟨Nat.le_of_ble_eq_true rfl, Nat.le_of_ble_eq_true rfl⟩) hw hS hA hK hN rfl hl.1 rfl (Nat.le_of_ble_eq_true rfl) dX12_nextToken_276 279 rfl (fun u50 H locs pu50 hw hS => ?_)
            have hu50 : zI (-2147483648) 2147483647 u50 := pu50.1
            have yu50_0 : u50 = msg rw224 (rw224 104 0) := pu50.2.1
            have xu50 : u50 = (Gm_signAt (rw224 104 0) rw224 qw224) := pu50.2.2.1
            have hE := zletE xu50 hE
            have hw : zPD D A (mW ct h0 y rw224 qw224) H := hw
            refine zfr 279 [.int u50, .int ((rw224 108 0) * 10), .ref h0] rfl rfl ?_
            have h57 : zI 48 57 u50 := ⟨by rw [yu50_0, ← yu32_0]; exact (k36).1, by rw [yu50_0, ← yu37_0]; exact (k41).2⟩
            refine lv_iadd hx hb dX12_nextToken_279 ?_
            have k52 : zI 48 10047 (((rw224 108 0) * 10) + u50) := zI.add k49 h57 (by decide)
            refine lv_bipush (v := 48) hx hb dX12_nextToken_280 (by decide) ?_
            refine lv_isub hx hb dX12_nextToken_282 ?_
            have k53 : zI 0 9999 ((((rw224 108 0) * 10) + u50) - 48) := zI.sub k52 (zI.lit (a := 48) (b := 48) (c := 48) (by decide)) (by decide)
            refine mput (ty := .int) (v := .int ((((rw224 108 0) * 10) + u50) - 48)) hx hb hts hiX12 hown hK hw hS 8 (by decide) lf151 rfl rfl (by decide +kernel) rfl rfl dX12_nextToken_283 (zset rw224 108 (fun _ => (((rw224 108 0) * 10) + u50) - 48)) _ mWf8 (fun H locs hw hS => ?_)
            refine mgen (P := fun x => mJ B x ∧ zFr [104, 105, 106, 108] r x) hw ⟨jw224.setc rfl (fun _ => k53), fw224.set rfl⟩ (fun r54 er54 hw pr54 => ?_)
            have hE := zletE er54 hE
            refine lv_aload_n hx hb dX12_nextToken_286 rfl (lv_at hl 0 rfl) ?_
            refine lv_dup hx hb dX12_nextToken_287 rfl ?_
            refine mget (v := .int (r54 104 0)) hx hb hts hiX12 hown hK hw 4 (by decide) lf141 rfl rfl dX12_nextToken_288 ?_
            refine lv_iconst (v := 1) hx hb dX12_nextToken_291 (by decide) ?_
            refine lv_iadd hx hb dX12_nextToken_292 ?_
            have k55 : zI 1 1000 ((r54 104 0) + 1) := zI.add (zs_at er54 k42 (by decide)) (zI.lit (a := 1) (b := 1) (c := 1) (by decide)) (by decide)
            refine mput (ty := .int) (v := .int ((r54 104 0) + 1)) hx hb hts hiX12 hown hK hw hS 4 (by decide) lf141 rfl rfl (by decide +kernel) rfl rfl dX12_nextToken_293 (zset r54 104 (fun _ => (r54 104 0) + 1)) _ mWf4 (fun H locs hw hS => ?_)
            refine mgen (P := fun x => mJ B x ∧ zFr [104, 105, 106, 108] r x) hw ⟨pr54.1.setc rfl (fun _ => (k55.w (c := 0) (d := 1000) (by decide))), pr54.2.set rfl⟩ (fun r56 er56 hw pr56 => ?_)
            have hE := zletE er56 hE
            refine lv_goto (tgt := 224) hx hb dX12_nextToken_296 (by decide) ?_
            exact ih224 r56 qw224 pr56.1 pr56.2 ((show zI 0 9999 (r56 108 0) from pr56.1.i 108 0).w (c := 0) (d := 65535) (by decide)) (by have v103 : (r56 103 0).toInt = (rw224 103 0).toInt := (by rw [((congrFun (zs_row (k := 103) er56 (by decide)) 0).trans (congrFun (zs_row (k := 103) er54 (by decide)) 0))]); have v104b : (r54 104 0).toInt = (rw224 104 0).toInt := (by rw [(congrFun (zs_row (k := 104) er54 (by decide)) 0)]); have v104 : (r56 104 0).toInt = (r54 104 0).toInt + 1 := (by rw [(congrFun (zs_self er56) 0)]; exact i32_s (zs_at er54 k42 (by decide)) (by decide)); have v105 : (r56 105 0).toInt = (rw224 105 0).toInt := (by rw [((congrFun (zs_row (k := 105) er56 (by decide)) 0).trans (congrFun (zs_row (k := 105) er54 (by decide)) 0))]); have h1 := ltI (msg_lt yu32_0 (by have := (k36).1; omega)); obtain ⟨h2, h3, h4, -⟩ := x224; exact ⟨by omega, by omega, by omega, Or.inl (by omega)⟩) (by have v104b : (r54 104 0).toInt = (rw224 104 0).toInt := (by rw [(congrFun (zs_row (k := 104) er54 (by decide)) 0)]); have v104 : (r56 104 0).toInt = (r54 104 0).toInt + 1 := (by rw [(congrFun (zs_self er56) 0)]; exact i32_s (zs_at er54 k42 (by decide)) (by decide)); have v105 : (r56 105 0).toInt = (rw224 105 0).toInt := (by rw [((congrFun (zs_row (k := 105) er56 (by decide)) 0).trans (congrFun (zs_row (k := 105) er54 (by decide)) 0))]); have v108 : (r56 108 0).toInt = (rw224 108 0).toInt * 10 + u50.toInt - 48 := (by rw [((congrFun (zs_row (k := 108) er56 (by decide)) 0).trans (congrFun (zs_self er54) 0))]; exact mtold h999 h57); have := h57.1; have := h57.2; obtain ⟨t0, t1, t2, t3⟩ := x224b; exact ⟨by omega, by omega, by omega, by omega⟩) hE (by have v103 : (r56 103 0).toInt = (rw224 103 0).toInt := (by rw [((congrFun (zs_row (k := 103) er56 (by decide)) 0).trans (congrFun (zs_row (k := 103) er54 (by decide)) 0))]); have v104b : (r54 104 0).toInt = (rw224 104 0).toInt := (by rw [(congrFun (zs_row (k := 104) er54 (by decide)) 0)]); have v104 : (r56 104 0).toInt = (r54 104 0).toInt + 1 := (by rw [(congrFun (zs_self er56) 0)]; exact i32_s (zs_at er54 k42 (by decide)) (by decide)); omega) H locs ls hw hS (lv_sub hl [0] rfl)
  have cut188 : ∀ (rw188 : zRr) (qw188 : zRq) (jw188 : mJ B rw188) (fw188 : zFr [104, 105, 106, 108] r rw188) (mw188_108_0 : zI 0 0 (rw188 108 0)) (x188 : (r 104 0).toInt ≤ (rw188 105 0).toInt ∧ (rw188 105 0).toInt < (rw188 104 0).toInt ∧ (rw188 104 0).toInt ≤ (rw188 103 0).toInt) (hE : X = Gm_nextToken_188 rw188 qw188), zKf p l e ({ frames := 2, cells := 0, slots := 0, locals := 120 }) s m a9 below meth c Q D A 188 2 [] (mW ct h0 y rw188 qw188) [(0, .ref h0)] := by
    intro rw188 qw188 jw188 fw188 mw188_108_0 x188 hE H locs ls hw hS hl
    unfold Gm_nextToken_188 at hE
    refine lv_aload_n hx hb dX12_nextToken_188 rfl (lv_at hl 0 rfl) ?_
    refine lv_aload_n hx hb dX12_nextToken_189 rfl (lv_at hl 0 rfl) ?_
    refine mget (v := .int (rw188 104 0)) hx hb hts hiX12 hown hK hw 4 (by decide) lf141 rfl rfl dX12_nextToken_190 ?_
    refine lv_aload_n hx hb dX12_nextToken_193 rfl (lv_at hl 0 rfl) ?_
    refine mget (v := .int (rw188 105 0)) hx hb hts hiX12 hown hK hw 5 (by decide) lf144 rfl rfl dX12_nextToken_194 ?_
    refine lv_isub hx hb dX12_nextToken_197 (zgenE (lo := (-1000)) (hi := 1000) (zI.sub (show zI 0 1000 (rw188 104 0) from jw188.i 104 0) (show zI 0 1000 (rw188 105 0) from jw188.i 105 0) (by decide)) (fun v57 ev57 hv57 => ?_))
    have hE := zletE ev57 hE
    refine lv_bipush (v := 8) hx hb dX12_nextToken_198 (by decide) ?_
    refine lv_icmp_le (tgt := 207) hx hb dX12_nextToken_200 (by decide) (fun c58 => ?_) (fun c58 => ?_)
    · have hE := zifT c58 hE
      have k59 : zI (-1000) 8 (v57) := zI.leU c58 hv57 (zI.lit (a := 8) (b := 8) (c := 8) (by decide)) (by decide)
      refine lv_iconst (v := 1) hx hb dX12_nextToken_207 (by decide) ?_
      refine mput (ty := .int) (v := .int 1) hx hb hts hiX12 hown hK hw hS 6 (by decide) lf154 rfl rfl (by decide +kernel) rfl rfl dX12_nextToken_208 (zset rw188 106 (fun _ => (1 : Int32))) _ mWf6 (fun H locs hw hS => ?_)
      refine mgen (P := fun x => mJ B x ∧ zFr [104, 105, 106, 108] r x) hw ⟨jw188.setc rfl (fun _ => ((zI.lit (a := 1) (b := 1) (c := 1) (by decide)).w (c := 0) (d := 4) (by decide))), fw188.set rfl⟩ (fun r60 er60 hw pr60 => ?_)
      have hE := zletE er60 hE
      exact zvretQ hQ hx hb hr hlocks (r60, qw188) rfl ⟨pr60.1, pr60.2, (show mP r60 from (by have v103 : (r60 103 0).toInt = (rw188 103 0).toInt := (by rw [(congrFun (zs_row (k := 103) er60 (by decide)) 0)]); have v104 : (r60 104 0).toInt = (rw188 104 0).toInt := (by rw [(congrFun (zs_row (k := 104) er60 (by decide)) 0)]); have v105 : (r60 105 0).toInt = (rw188 105 0).toInt := (by rw [(congrFun (zs_row (k := 105) er60 (by decide)) 0)]); have := x188; exact ⟨by omega, by omega, Or.inr (by omega)⟩)), (show (r 104 0).toInt ≤ (r60 105 0).toInt from (by have v104 : (r60 104 0).toInt = (rw188 104 0).toInt := (by rw [(congrFun (zs_row (k := 104) er60 (by decide)) 0)]); have v105 : (r60 105 0).toInt = (rw188 105 0).toInt := (by rw [(congrFun (zs_row (k := 105) er60 (by decide)) 0)]); have := x188; omega)), (hE.symm.trans hX), trivial⟩ hw hS dX12_nextToken_211
    · have hE := zifF c58 hE
      have k61 : zI 9 1000 (v57) := zI.ltD (zI.nle c58) (zI.lit (a := 8) (b := 8) (c := 8) (by decide)) hv57 (by decide)
      refine lv_iconst (v := 4) hx hb dX12_nextToken_203 (by decide) ?_
      refine lv_goto (tgt := 208) hx hb dX12_nextToken_204 (by decide) ?_
      refine mput (ty := .int) (v := .int 4) hx hb hts hiX12 hown hK hw hS 6 (by decide) lf154 rfl rfl (by decide +kernel) rfl rfl dX12_nextToken_208 (zset rw188 106 (fun _ => (4 : Int32))) _ mWf6 (fun H locs hw hS => ?_)
      refine mgen (P := fun x => mJ B x ∧ zFr [104, 105, 106, 108] r x) hw ⟨jw188.setc rfl (fun _ => ((zI.lit (a := 4) (b := 4) (c := 4) (by decide)).w (c := 0) (d := 4) (by decide))), fw188.set rfl⟩ (fun r62 er62 hw pr62 => ?_)
      have hE := zletE er62 hE
      exact zvretQ hQ hx hb hr hlocks (r62, qw188) rfl ⟨pr62.1, pr62.2, (show mP r62 from (by have v103 : (r62 103 0).toInt = (rw188 103 0).toInt := (by rw [(congrFun (zs_row (k := 103) er62 (by decide)) 0)]); have v104 : (r62 104 0).toInt = (rw188 104 0).toInt := (by rw [(congrFun (zs_row (k := 104) er62 (by decide)) 0)]); have v105 : (r62 105 0).toInt = (rw188 105 0).toInt := (by rw [(congrFun (zs_row (k := 105) er62 (by decide)) 0)]); have := x188; exact ⟨by omega, by omega, Or.inr (by omega)⟩)), (show (r 104 0).toInt ≤ (r62 105 0).toInt from (by have v104 : (r62 104 0).toInt = (rw188 104 0).toInt := (by rw [(congrFun (zs_row (k := 104) er62 (by decide)) 0)]); have v105 : (r62 105 0).toInt = (rw188 105 0).toInt := (by rw [(congrFun (zs_row (k := 105) er62 (by decide)) 0)]); have := x188; omega)), (hE.symm.trans hX), trivial⟩ hw hS dX12_nextToken_211
  have cut109 : ∀ (n109 : Nat) (rw109 : zRr) (qw109 : zRq) (jw109 : mJ B rw109) (fw109 : zFr [104, 105, 106, 108] r rw109) (mw109_108_0 : zI 0 0 (rw109 108 0)) (x109 : (r 104 0).toInt ≤ (rw109 105 0).toInt ∧ (rw109 105 0).toInt ≤ (rw109 104 0).toInt ∧ (rw109 104 0).toInt ≤ (rw109 103 0).toInt ∧ ((rw109 105 0).toInt < (rw109 104 0).toInt ∨ zI 97 122 (msg rw109 (rw109 104 0)))) (hE : X = Gm_nextToken_109 n109 rw109 qw109), (rw109 103 0).toInt - (rw109 104 0).toInt < (n109 : Int) → zKf p l e ({ frames := 2, cells := 0, slots := 0, locals := 120 }) s m a9 below meth c Q D A 109 2 [] (mW ct h0 y rw109 qw109) [(0, .ref h0)] := by
    intro n109
    induction n109 with
    | zero => intro rw109 qw109 jw109 fw109 mw109_108_0 x109 hE hm109; exact absurd hm109 (by obtain ⟨h2, h3, h4, -⟩ := x109; omega)
    | succ n109 ih109 =>
      intro rw109 qw109 jw109 fw109 mw109_108_0 x109 hE hm109
      have hE : X = Bm_nextToken_109 (Gm_nextToken_109 n109) rw109 qw109 := hE
      unfold Bm_nextToken_109 at hE
      intro H locs ls hw hS hl
      refine lv_aload_n hx hb dX12_nextToken_109 rfl (lv_at hl 0 rfl) ?_
      refine lv_aload_n hx hb dX12_nextToken_110 rfl (lv_at hl 0 rfl) ?_
      refine mget (v := .int (rw109 104 0)) hx hb hts hiX12 hown hK hw 4 (by decide) lf141 rfl rfl dX12_nextToken_111 ?_
      refine mcallV (As := [.int (rw109 104 0)]) (rest := []) ⟨hx, hb, hml, hown, hts⟩ (mc_signAt l D ct h0 y B (rw109 104 0) rw109 qw109 (show zI 0 1000 (rw109 104 0) from jw109.i 104 0) jw109) (wqX12_157_mc_signAt hts ⟨Nat.le_of_ble_eq_true rfl, Nat.le_of_ble_eq_true rfl⟩) hw hS hA hK hN rfl hl.1 rfl (Nat.le_of_ble_eq_true rfl) dX12_nextToken_114 117 rfl (fun u63 H locs pu63 hw hS => ?_)
      have hu63 : zI (-2147483648) 2147483647 u63 := pu63.1
      have yu63_0 : u63 = msg rw109 (rw109 104 0) := pu63.2.1
      have xu63 : u63 = (Gm_signAt (rw109 104 0) rw109 qw109) := pu63.2.2.1
      have hE := zletE xu63 hE
      have hw : zPD D A (mW ct h0 y rw109 qw109) H := hw
      refine zfr 117 [.int u63] rfl rfl ?_
      refine lv_bipush (v := 97) hx hb dX12_nextToken_117 (by decide) ?_
      refine lv_icmp_lt (tgt := 188) hx hb dX12_nextToken_119 (by decide) (fun c65 => ?_) (fun c65 => ?_)
      · have hE := zifT c65 hE
        have k66 : zI (-2147483648) 96 (u63) := zI.ltU c65 (zI.top _) (zI.lit (a := 97) (b := 97) (c := 97) (by decide)) (by decide)
        exact cut188 rw109 qw109 jw109 fw109 mw109_108_0 (by obtain ⟨h2, h3, h4, h5⟩ := x109; refine ⟨h2, ?_, h4⟩; rcases h5 with h5 | h5; exact h5; have h6 : zI 97 122 u63 := (by rw [yu63_0]; exact h5); have := h6.1; have := h6.2; have := (k66).1; have := (k66).2; omega) hE H locs ls hw hS (lv_sub hl [0] rfl)
      · have hE := zifF c65 hE
        have k67 : zI 97 2147483647 (u63) := zI.leD (zI.nlt c65) (zI.lit (a := 97) (b := 97) (c := 97) (by decide)) (zI.top _) (by decide)
        refine lv_aload_n hx hb dX12_nextToken_122 rfl (lv_at hl 0 rfl) ?_
        refine lv_aload_n hx hb dX12_nextToken_123 rfl (lv_at hl 0 rfl) ?_
        refine mget (v := .int (rw109 104 0)) hx hb hts hiX12 hown hK hw 4 (by decide) lf141 rfl rfl dX12_nextToken_124 ?_
        refine mcallV (As := [.int (rw109 104 0)]) (rest := []) ⟨hx, hb, hml, hown, hts⟩ (mc_signAt l D ct h0 y B (rw109 104 0) rw109 qw109 (show zI 0 1000 (rw109 104 0) from jw109.i 104 0) jw109) (wqX12_157_mc_signAt hts ⟨Nat.le_of_ble_eq_true rfl, Nat.le_of_ble_eq_true rfl⟩) hw hS hA hK hN rfl hl.1 rfl (Nat.le_of_ble_eq_true rfl) dX12_nextToken_127 130 rfl (fun u68 H locs pu68 hw hS => ?_)
        have hu68 : zI (-2147483648) 2147483647 u68 := pu68.1
        have yu68_0 : u68 = msg rw109 (rw109 104 0) := pu68.2.1
        have xu68 : u68 = (Gm_signAt (rw109 104 0) rw109 qw109) := pu68.2.2.1
        have hE := zletE xu68 hE
        have hw : zPD D A (mW ct h0 y rw109 qw109) H := hw
        refine zfr 130 [.int u68] rfl rfl ?_
        refine lv_bipush (v := 122) hx hb dX12_nextToken_130 (by decide) ?_
        refine lv_icmp_gt (tgt := 188) hx hb dX12_nextToken_132 (by decide) (fun c70 => ?_) (fun c70 => ?_)
        · have hE := zifT c70 hE
          have k71 : zI 123 2147483647 (u68) := zI.ltD c70 (zI.lit (a := 122) (b := 122) (c := 122) (by decide)) (zI.top _) (by decide)
          exact cut188 rw109 qw109 jw109 fw109 mw109_108_0 (by obtain ⟨h2, h3, h4, h5⟩ := x109; refine ⟨h2, ?_, h4⟩; rcases h5 with h5 | h5; exact h5; have h6 : zI 97 122 u68 := (by rw [yu68_0]; exact h5); have := h6.1; have := h6.2; have := (k71).1; have := (k71).2; omega) hE H locs ls hw hS (lv_sub hl [0] rfl)
        · have hE := zifF c70 hE
          have k72 : zI (-2147483648) 122 (u68) := zI.leU (zI.nlt c70) (zI.top _) (zI.lit (a := 122) (b := 122) (c := 122) (by decide)) (by decide)
          have k73 : zI 0 999 (rw109 104 0) := zI.ltU (msg_lt yu63_0 (by have := (k67).1; omega)) (show zI 0 1000 (rw109 104 0) from jw109.i 104 0) (show zI 0 1000 (rw109 103 0) from jw109.i 103 0) (by decide)
          refine lv_aload_n hx hb dX12_nextToken_135 rfl (lv_at hl 0 rfl) ?_
          refine mget (v := .int (rw109 104 0)) hx hb hts hiX12 hown hK hw 4 (by decide) lf141 rfl rfl dX12_nextToken_136 ?_
          refine lv_aload_n hx hb dX12_nextToken_139 rfl (lv_at hl 0 rfl) ?_
          refine mget (v := .int (rw109 105 0)) hx hb hts hiX12 hown hK hw 5 (by decide) lf144 rfl rfl dX12_nextToken_140 ?_
          refine lv_isub hx hb dX12_nextToken_143 (zgenE (lo := (-1000)) (hi := 999) (zI.sub k73 (show zI 0 1000 (rw109 105 0) from jw109.i 105 0) (by decide)) (fun v74 ev74 hv74 => ?_))
          have hE := zletE ev74 hE
          refine lv_bipush (v := 8) hx hb dX12_nextToken_144 (by decide) ?_
          refine lv_icmp_ge (tgt := 175) hx hb dX12_nextToken_146 (by decide) (fun c75 => ?_) (fun c75 => ?_)
          · have hE := zifT c75 hE
            have k76 : zI 8 999 (v74) := zI.leD c75 (zI.lit (a := 8) (b := 8) (c := 8) (by decide)) hv74 (by decide)
            refine lv_aload_n hx hb dX12_nextToken_175 rfl (lv_at hl 0 rfl) ?_
            refine lv_dup hx hb dX12_nextToken_176 rfl ?_
            refine mget (v := .int (rw109 104 0)) hx hb hts hiX12 hown hK hw 4 (by decide) lf141 rfl rfl dX12_nextToken_177 ?_
            refine lv_iconst (v := 1) hx hb dX12_nextToken_180 (by decide) ?_
            refine lv_iadd hx hb dX12_nextToken_181 ?_
            have k77 : zI 1 1000 ((rw109 104 0) + 1) := zI.add k73 (zI.lit (a := 1) (b := 1) (c := 1) (by decide)) (by decide)
            refine mput (ty := .int) (v := .int ((rw109 104 0) + 1)) hx hb hts hiX12 hown hK hw hS 4 (by decide) lf141 rfl rfl (by decide +kernel) rfl rfl dX12_nextToken_182 (zset rw109 104 (fun _ => (rw109 104 0) + 1)) _ mWf4 (fun H locs hw hS => ?_)
            refine mgen (P := fun x => mJ B x ∧ zFr [104, 105, 106, 108] r x) hw ⟨jw109.setc rfl (fun _ => (k77.w (c := 0) (d := 1000) (by decide))), fw109.set rfl⟩ (fun r78 er78 hw pr78 => ?_)
            have hE := zletE er78 hE
            refine lv_goto (tgt := 109) hx hb dX12_nextToken_185 (by decide) ?_
            exact ih109 r78 qw109 pr78.1 pr78.2 (zs_at er78 mw109_108_0 (by decide)) (by have v103 : (r78 103 0).toInt = (rw109 103 0).toInt := (by rw [(congrFun (zs_row (k := 103) er78 (by decide)) 0)]); have v104 : (r78 104 0).toInt = (rw109 104 0).toInt + 1 := (by rw [(congrFun (zs_self er78) 0)]; exact i32_s k73 (by decide)); have v105 : (r78 105 0).toInt = (rw109 105 0).toInt := (by rw [(congrFun (zs_row (k := 105) er78 (by decide)) 0)]); have h1 := ltI (msg_lt yu63_0 (by have := (k67).1; omega)); obtain ⟨h2, h3, h4, -⟩ := x109; exact ⟨by omega, by omega, by omega, Or.inl (by omega)⟩) hE (by have v103 : (r78 103 0).toInt = (rw109 103 0).toInt := (by rw [(congrFun (zs_row (k := 103) er78 (by decide)) 0)]); have v104 : (r78 104 0).toInt = (rw109 104 0).toInt + 1 := (by rw [(congrFun (zs_self er78) 0)]; exact i32_s k73 (by decide)); omega) H locs ls hw hS (lv_sub hl [0] rfl)
          · have hE := zifF c75 hE
            have k79 : zI (-1000) 7 (v74) := zI.ltU (zI.nle c75) hv74 (zI.lit (a := 8) (b := 8) (c := 8) (by decide)) (by decide)
            refine lv_aload_n hx hb dX12_nextToken_149 rfl (lv_at hl 0 rfl) ?_
            refine lv_aload_n hx hb dX12_nextToken_150 rfl (lv_at hl 0 rfl) ?_
            refine mget (v := .long (qw109 107 0)) hx hb hts hiX12 hown hK hw 7 (by decide) lf147 rfl rfl dX12_nextToken_151 (zgenLE (fun v80 ev80 => ?_))
            have hE := zletE ev80 hE
            refine lv_ldc2 hx hb hown (hts (.constantLong RX12 161 27) (ki (zr22 20 rfl))) dX12_nextToken_154 ?_
            refine lv_lmul hx hb dX12_nextToken_157 (zgenLE (fun v81 ev81 => ?_))
            have hE := zletE ev81 hE
            refine lv_aload_n hx hb dX12_nextToken_158 rfl (lv_at hl 0 rfl) ?_
            refine lv_aload_n hx hb dX12_nextToken_159 rfl (lv_at hl 0 rfl) ?_
            refine mget (v := .int (rw109 104 0)) hx hb hts hiX12 hown hK hw 4 (by decide) lf141 rfl rfl dX12_nextToken_160 ?_
            refine mcallV (As := [.int (rw109 104 0)]) (rest := [.long v81, .ref h0]) ⟨hx, hb, hml, hown, hts⟩ (mc_signAt l D ct h0 y B (rw109 104 0) rw109 qw109 (k73.w (c := 0) (d := 1000) (by decide)) jw109) (wqX12_157_mc_signAt hts ⟨Nat.le_of_ble_eq_true rfl, Nat.le_of_ble_eq_true rfl⟩) hw hS hA hK hN rfl hl.1 rfl (Nat.le_of_ble_eq_true rfl) dX12_nextToken_163 166 rfl (fun u82 H locs pu82 hw hS => ?_)
            have hu82 : zI (-2147483648) 2147483647 u82 := pu82.1
            have yu82_0 : u82 = msg rw109 (rw109 104 0) := pu82.2.1
            have xu82 : u82 = (Gm_signAt (rw109 104 0) rw109 qw109) := pu82.2.2.1
            have hE := zletE xu82 hE
            have hw : zPD D A (mW ct h0 y rw109 qw109) H := hw
            refine zfr 166 [.int u82, .long v81, .ref h0] rfl rfl ?_
            refine lv_i2l (v := u82.toInt64) hx hb dX12_nextToken_166 rfl (zgenLE (fun v84 ev84 => ?_))
            have hE := zletE ev84 hE
            refine lv_ladd hx hb dX12_nextToken_167 (zgenLE (fun v85 ev85 => ?_))
            have hE := zletE ev85 hE
            refine lv_ldc2 hx hb hown (hts (.constantLong RX12 163 96) (ki (zr22 21 rfl))) dX12_nextToken_168 ?_
            refine lv_lsub hx hb dX12_nextToken_171 (zgenLE (fun v86 ev86 => ?_))
            have hE := zletE ev86 hE
            refine mput (ty := .long) (v := .long v86) hx hb hts hiX12 hown hK hw hS 7 (by decide) lf147 rfl rfl (by decide +kernel) rfl rfl dX12_nextToken_172 _ (zset qw109 107 (fun _ => v86)) mWf7 (fun H locs hw hS => ?_)
            refine mqgen hw (fun q87 eq87 hw => ?_)
            have hE := zletE eq87 hE
            refine lv_aload_n hx hb dX12_nextToken_175 rfl (lv_at hl 0 rfl) ?_
            refine lv_dup hx hb dX12_nextToken_176 rfl ?_
            refine mget (v := .int (rw109 104 0)) hx hb hts hiX12 hown hK hw 4 (by decide) lf141 rfl rfl dX12_nextToken_177 ?_
            refine lv_iconst (v := 1) hx hb dX12_nextToken_180 (by decide) ?_
            refine lv_iadd hx hb dX12_nextToken_181 ?_
            have k88 : zI 1 1000 ((rw109 104 0) + 1) := zI.add k73 (zI.lit (a := 1) (b := 1) (c := 1) (by decide)) (by decide)
            refine mput (ty := .int) (v := .int ((rw109 104 0) + 1)) hx hb hts hiX12 hown hK hw hS 4 (by decide) lf141 rfl rfl (by decide +kernel) rfl rfl dX12_nextToken_182 (zset rw109 104 (fun _ => (rw109 104 0) + 1)) _ mWf4 (fun H locs hw hS => ?_)
            refine mgen (P := fun x => mJ B x ∧ zFr [104, 105, 106, 108] r x) hw ⟨jw109.setc rfl (fun _ => (k88.w (c := 0) (d := 1000) (by decide))), fw109.set rfl⟩ (fun r89 er89 hw pr89 => ?_)
            have hE := zletE er89 hE
            refine lv_goto (tgt := 109) hx hb dX12_nextToken_185 (by decide) ?_
            exact ih109 r89 q87 pr89.1 pr89.2 (zs_at er89 mw109_108_0 (by decide)) (by have v103 : (r89 103 0).toInt = (rw109 103 0).toInt := (by rw [(congrFun (zs_row (k := 103) er89 (by decide)) 0)]); have v104 : (r89 104 0).toInt = (rw109 104 0).toInt + 1 := (by rw [(congrFun (zs_self er89) 0)]; exact i32_s k73 (by decide)); have v105 : (r89 105 0).toInt = (rw109 105 0).toInt := (by rw [(congrFun (zs_row (k := 105) er89 (by decide)) 0)]); have h1 := ltI (msg_lt yu63_0 (by have := (k67).1; omega)); obtain ⟨h2, h3, h4, -⟩ := x109; exact ⟨by omega, by omega, by omega, Or.inl (by omega)⟩) hE (by have v103 : (r89 103 0).toInt = (rw109 103 0).toInt := (by rw [(congrFun (zs_row (k := 103) er89 (by decide)) 0)]); have v104 : (r89 104 0).toInt = (rw109 104 0).toInt + 1 := (by rw [(congrFun (zs_self er89) 0)]; exact i32_s k73 (by decide)); omega) H locs ls hw hS (lv_sub hl [0] rfl)
  have cut52 : ∀ (rw52 : zRr) (jw52 : mJ B rw52) (fw52 : zFr [104, 105, 106, 108] r rw52) (x52 : (r 104 0).toInt ≤ (rw52 104 0).toInt ∧ (rw52 104 0).toInt ≤ (rw52 103 0).toInt) (hE : X = Gm_nextToken_52 q rw52), zKf p l e ({ frames := 2, cells := 0, slots := 0, locals := 120 }) s m a9 below meth c Q D A 52 2 [] (mW ct h0 y rw52 q) [(0, .ref h0)] := by
    intro rw52 jw52 fw52 x52 hE H locs ls hw hS hl
    unfold Gm_nextToken_52 at hE
    refine lv_aload_n hx hb dX12_nextToken_52 rfl (lv_at hl 0 rfl) ?_
    refine lv_aload_n hx hb dX12_nextToken_53 rfl (lv_at hl 0 rfl) ?_
    refine mget (v := .int (rw52 104 0)) hx hb hts hiX12 hown hK hw 4 (by decide) lf141 rfl rfl dX12_nextToken_54 ?_
    refine mput (ty := .int) (v := .int (rw52 104 0)) hx hb hts hiX12 hown hK hw hS 5 (by decide) lf144 rfl rfl (by decide +kernel) rfl rfl dX12_nextToken_57 (zset rw52 105 (fun _ => rw52 104 0)) _ mWf5 (fun H locs hw hS => ?_)
    refine mgen (P := fun x => mJ B x ∧ zFr [104, 105, 106, 108] r x) hw ⟨jw52.setc rfl (fun _ => (show zI 0 1000 (rw52 104 0) from jw52.i 104 0)), fw52.set rfl⟩ (fun r90 er90 hw pr90 => ?_)
    have hE := zletE er90 hE
    refine lv_aload_n hx hb dX12_nextToken_60 rfl (lv_at hl 0 rfl) ?_
    refine lv_lconst (v := 0) hx hb dX12_nextToken_61 (by decide) ?_
    refine mput (ty := .long) (v := .long 0) hx hb hts hiX12 hown hK hw hS 7 (by decide) lf147 rfl rfl (by decide +kernel) rfl rfl dX12_nextToken_62 _ (zset q 107 (fun _ => (0 : Int64))) mWf7 (fun H locs hw hS => ?_)
    refine mqgen hw (fun q91 eq91 hw => ?_)
    have hE := zletE eq91 hE
    refine lv_aload_n hx hb dX12_nextToken_65 rfl (lv_at hl 0 rfl) ?_
    refine lv_iconst (v := 0) hx hb dX12_nextToken_66 (by decide) ?_
    refine mput (ty := .int) (v := .int 0) hx hb hts hiX12 hown hK hw hS 8 (by decide) lf151 rfl rfl (by decide +kernel) rfl rfl dX12_nextToken_67 (zset r90 108 (fun _ => (0 : Int32))) _ mWf8 (fun H locs hw hS => ?_)
    refine mgen (P := fun x => mJ B x ∧ zFr [104, 105, 106, 108] r x) hw ⟨pr90.1.setc rfl (fun _ => ((zI.lit (a := 0) (b := 0) (c := 0) (by decide)).w (c := 0) (d := 9999) (by decide))), pr90.2.set rfl⟩ (fun r92 er92 hw pr92 => ?_)
    have hE := zletE er92 hE
    refine lv_aload_n hx hb dX12_nextToken_70 rfl (lv_at hl 0 rfl) ?_
    refine mget (v := .int (r92 104 0)) hx hb hts hiX12 hown hK hw 4 (by decide) lf141 rfl rfl dX12_nextToken_71 ?_
    refine lv_aload_n hx hb dX12_nextToken_74 rfl (lv_at hl 0 rfl) ?_
    refine mget (v := .int (r92 103 0)) hx hb hts hiX12 hown hK hw 3 (by decide) lf138 rfl rfl dX12_nextToken_75 ?_
    refine lv_icmp_ne (tgt := 87) hx hb dX12_nextToken_78 (by decide) (fun c93 => ?_) (fun c93 => ?_)
    · have hE := zifnT c93 hE
      have hlt : r92 104 0 < r92 103 0 := Int32.lt_iff_toInt_lt.mpr (by have v103 : (r92 103 0).toInt = (rw52 103 0).toInt := (by rw [((congrFun (zs_row (k := 103) er92 (by decide)) 0).trans (congrFun (zs_row (k := 103) er90 (by decide)) 0))]); have v104 : (r92 104 0).toInt = (rw52 104 0).toInt := (by rw [((congrFun (zs_row (k := 104) er92 (by decide)) 0).trans (congrFun (zs_row (k := 104) er90 (by decide)) 0))]); have := neI c93; have := x52; omega)
      have k94 : zI 0 999 (r92 104 0) := zI.ltU hlt (show zI 0 1000 (r92 104 0) from pr92.1.i 104 0) (show zI 0 1000 (r92 103 0) from pr92.1.i 103 0) (by decide)
      refine lv_aload_n hx hb dX12_nextToken_87 rfl (lv_at hl 0 rfl) ?_
      refine mget (v := .ref (y 0)) hx hb hts hiX12 hown hK hw 2 (by decide) lf7 rfl rfl dX12_nextToken_88 ?_
      refine lv_aload_n hx hb dX12_nextToken_91 rfl (lv_at hl 0 rfl) ?_
      refine mget (v := .int (r92 104 0)) hx hb hts hiX12 hown hK hw 4 (by decide) lf141 rfl rfl dX12_nextToken_92 ?_
      refine miald hx hb hK hw 1 mWg0 k94 (by decide) dX12_nextToken_95 ?_
      refine lv_istore_n (lv' := [(1, .int (r92 0 (zn (r92 104 0)))), (0, .ref h0)]) hx hb dX12_nextToken_96 rfl hl (by decide) rfl (fun ls hl => ?_)
      refine lv_iload_n hx hb dX12_nextToken_97 rfl (lv_at hl 0 rfl) ?_
      refine lv_bipush (v := 97) hx hb dX12_nextToken_98 (by decide) ?_
      refine lv_icmp_lt (tgt := 212) hx hb dX12_nextToken_100 (by decide) (fun c95 => ?_) (fun c95 => ?_)
      · have hE := zifT c95 hE
        have k96 : zI (-2147483648) 96 (r92 0 (zn (r92 104 0))) := zI.ltU c95 (zI.top _) (zI.lit (a := 97) (b := 97) (c := 97) (by decide)) (by decide)
        refine lv_iload_n hx hb dX12_nextToken_212 rfl (lv_at hl 0 rfl) ?_
        refine lv_bipush (v := 48) hx hb dX12_nextToken_213 (by decide) ?_
        refine lv_icmp_lt (tgt := 322) hx hb dX12_nextToken_215 (by decide) (fun c97 => ?_) (fun c97 => ?_)
        · have hE := zifT c97 hE
          have k98 : zI (-2147483648) 47 (r92 0 (zn (r92 104 0))) := zI.ltU c97 k96 (zI.lit (a := 48) (b := 48) (c := 48) (by decide)) (by decide)
          exact cut322 (r92 0 (zn (r92 104 0))) r92 q91 pr92.1 pr92.2 k94 (zs_in er92 (zI.lit (a := 0) (b := 0) (c := 0) (by decide))) (by have v103 : (r92 103 0).toInt = (rw52 103 0).toInt := (by rw [((congrFun (zs_row (k := 103) er92 (by decide)) 0).trans (congrFun (zs_row (k := 103) er90 (by decide)) 0))]); have v104 : (r92 104 0).toInt = (rw52 104 0).toInt := (by rw [((congrFun (zs_row (k := 104) er92 (by decide)) 0).trans (congrFun (zs_row (k := 104) er90 (by decide)) 0))]); have v105 : (r92 105 0).toInt = (rw52 104 0).toInt := (by rw [((congrFun (zs_row (k := 105) er92 (by decide)) 0).trans (congrFun (zs_self er90) 0))]); have := x52; have := ltI hlt; exact ⟨by omega, by omega, by omega⟩) hE H locs ls hw hS (lv_sub hl [1, 0] rfl)
        · have hE := zifF c97 hE
          have k99 : zI 48 96 (r92 0 (zn (r92 104 0))) := zI.leD (zI.nlt c97) (zI.lit (a := 48) (b := 48) (c := 48) (by decide)) k96 (by decide)
          refine lv_iload_n hx hb dX12_nextToken_218 rfl (lv_at hl 0 rfl) ?_
          refine lv_bipush (v := 57) hx hb dX12_nextToken_219 (by decide) ?_
          refine lv_icmp_gt (tgt := 322) hx hb dX12_nextToken_221 (by decide) (fun c100 => ?_) (fun c100 => ?_)
          · have hE := zifT c100 hE
            have k101 : zI 58 96 (r92 0 (zn (r92 104 0))) := zI.ltD c100 (zI.lit (a := 57) (b := 57) (c := 57) (by decide)) k99 (by decide)
            exact cut322 (r92 0 (zn (r92 104 0))) r92 q91 pr92.1 pr92.2 k94 (zs_in er92 (zI.lit (a := 0) (b := 0) (c := 0) (by decide))) (by have v103 : (r92 103 0).toInt = (rw52 103 0).toInt := (by rw [((congrFun (zs_row (k := 103) er92 (by decide)) 0).trans (congrFun (zs_row (k := 103) er90 (by decide)) 0))]); have v104 : (r92 104 0).toInt = (rw52 104 0).toInt := (by rw [((congrFun (zs_row (k := 104) er92 (by decide)) 0).trans (congrFun (zs_row (k := 104) er90 (by decide)) 0))]); have v105 : (r92 105 0).toInt = (rw52 104 0).toInt := (by rw [((congrFun (zs_row (k := 105) er92 (by decide)) 0).trans (congrFun (zs_self er90) 0))]); have := x52; have := ltI hlt; exact ⟨by omega, by omega, by omega⟩) hE H locs ls hw hS (lv_sub hl [1, 0] rfl)
          · have hE := zifF c100 hE
            have k102 : zI 48 57 (r92 0 (zn (r92 104 0))) := zI.leU (zI.nlt c100) k99 (zI.lit (a := 57) (b := 57) (c := 57) (by decide)) (by decide)
            exact cut224 1001 r92 q91 pr92.1 pr92.2 ((zs_in er92 (zI.lit (a := 0) (b := 0) (c := 0) (by decide))).w (c := 0) (d := 65535) (by decide)) (by have v103 : (r92 103 0).toInt = (rw52 103 0).toInt := (by rw [((congrFun (zs_row (k := 103) er92 (by decide)) 0).trans (congrFun (zs_row (k := 103) er90 (by decide)) 0))]); have v104 : (r92 104 0).toInt = (rw52 104 0).toInt := (by rw [((congrFun (zs_row (k := 104) er92 (by decide)) 0).trans (congrFun (zs_row (k := 104) er90 (by decide)) 0))]); have v105 : (r92 105 0).toInt = (rw52 104 0).toInt := (by rw [((congrFun (zs_row (k := 105) er92 (by decide)) 0).trans (congrFun (zs_self er90) 0))]); have := x52; exact ⟨by omega, by omega, by omega, Or.inr (by rw [msg_in hlt]; exact k102)⟩) (by have v104 : (r92 104 0).toInt = (rw52 104 0).toInt := (by rw [((congrFun (zs_row (k := 104) er92 (by decide)) 0).trans (congrFun (zs_row (k := 104) er90 (by decide)) 0))]); have v105 : (r92 105 0).toInt = (rw52 104 0).toInt := (by rw [((congrFun (zs_row (k := 105) er92 (by decide)) 0).trans (congrFun (zs_self er90) 0))]); have v108 : (r92 108 0).toInt = 0 := (by rw [(congrFun (zs_self er92) 0)]; decide); exact ⟨by omega, by omega, by omega, by omega⟩) hE (by have h8 : zI 0 1000 (r92 103 0) := pr92.1.i 103 0; have h9 : zI 0 1000 (r92 104 0) := pr92.1.i 104 0; have := h8.2; have := h9.1; omega) H locs ls hw hS (lv_sub hl [1] rfl)
      · have hE := zifF c95 hE
        have k103 : zI 97 2147483647 (r92 0 (zn (r92 104 0))) := zI.leD (zI.nlt c95) (zI.lit (a := 97) (b := 97) (c := 97) (by decide)) (zI.top _) (by decide)
        refine lv_iload_n hx hb dX12_nextToken_103 rfl (lv_at hl 0 rfl) ?_
        refine lv_bipush (v := 122) hx hb dX12_nextToken_104 (by decide) ?_
        refine lv_icmp_gt (tgt := 212) hx hb dX12_nextToken_106 (by decide) (fun c104 => ?_) (fun c104 => ?_)
        · have hE := zifT c104 hE
          have k105 : zI 123 2147483647 (r92 0 (zn (r92 104 0))) := zI.ltD c104 (zI.lit (a := 122) (b := 122) (c := 122) (by decide)) k103 (by decide)
          refine lv_iload_n hx hb dX12_nextToken_212 rfl (lv_at hl 0 rfl) ?_
          refine lv_bipush (v := 48) hx hb dX12_nextToken_213 (by decide) ?_
          refine lv_icmp_lt (tgt := 322) hx hb dX12_nextToken_215 (by decide) (fun c106 => ?_) (fun c106 => ?_)
          · have hE := zifT c106 hE
            exact zI.abs (a := 123) (b := 47) (zI.ltU c106 k105 (zI.lit (a := 48) (b := 48) (c := 48) (by decide)) (by decide)) (by decide)
          · have hE := zifF c106 hE
            refine lv_iload_n hx hb dX12_nextToken_218 rfl (lv_at hl 0 rfl) ?_
            refine lv_bipush (v := 57) hx hb dX12_nextToken_219 (by decide) ?_
            refine lv_icmp_gt (tgt := 322) hx hb dX12_nextToken_221 (by decide) (fun c107 => ?_) (fun c107 => ?_)
            · have hE := zifT c107 hE
              exact cut322 (r92 0 (zn (r92 104 0))) r92 q91 pr92.1 pr92.2 k94 (zs_in er92 (zI.lit (a := 0) (b := 0) (c := 0) (by decide))) (by have v103 : (r92 103 0).toInt = (rw52 103 0).toInt := (by rw [((congrFun (zs_row (k := 103) er92 (by decide)) 0).trans (congrFun (zs_row (k := 103) er90 (by decide)) 0))]); have v104 : (r92 104 0).toInt = (rw52 104 0).toInt := (by rw [((congrFun (zs_row (k := 104) er92 (by decide)) 0).trans (congrFun (zs_row (k := 104) er90 (by decide)) 0))]); have v105 : (r92 105 0).toInt = (rw52 104 0).toInt := (by rw [((congrFun (zs_row (k := 105) er92 (by decide)) 0).trans (congrFun (zs_self er90) 0))]); have := x52; have := ltI hlt; exact ⟨by omega, by omega, by omega⟩) hE H locs ls hw hS (lv_sub hl [1, 0] rfl)
            · have hE := zifF c107 hE
              exact zI.abs (a := 123) (b := 57) (zI.leU (zI.nlt c107) k105 (zI.lit (a := 57) (b := 57) (c := 57) (by decide)) (by decide)) (by decide)
        · have hE := zifF c104 hE
          have k108 : zI 97 122 (r92 0 (zn (r92 104 0))) := zI.leU (zI.nlt c104) k103 (zI.lit (a := 122) (b := 122) (c := 122) (by decide)) (by decide)
          exact cut109 1001 r92 q91 pr92.1 pr92.2 (zs_in er92 (zI.lit (a := 0) (b := 0) (c := 0) (by decide))) (by have v103 : (r92 103 0).toInt = (rw52 103 0).toInt := (by rw [((congrFun (zs_row (k := 103) er92 (by decide)) 0).trans (congrFun (zs_row (k := 103) er90 (by decide)) 0))]); have v104 : (r92 104 0).toInt = (rw52 104 0).toInt := (by rw [((congrFun (zs_row (k := 104) er92 (by decide)) 0).trans (congrFun (zs_row (k := 104) er90 (by decide)) 0))]); have v105 : (r92 105 0).toInt = (rw52 104 0).toInt := (by rw [((congrFun (zs_row (k := 105) er92 (by decide)) 0).trans (congrFun (zs_self er90) 0))]); have := x52; exact ⟨by omega, by omega, by omega, Or.inr (by rw [msg_in hlt]; exact k108)⟩) hE (by have h8 : zI 0 1000 (r92 103 0) := pr92.1.i 103 0; have h9 : zI 0 1000 (r92 104 0) := pr92.1.i 104 0; have := h8.2; have := h9.1; omega) H locs ls hw hS (lv_sub hl [1] rfl)
    · have hE := zifnF c93 hE
      refine lv_aload_n hx hb dX12_nextToken_81 rfl (lv_at hl 0 rfl) ?_
      refine lv_iconst (v := 0) hx hb dX12_nextToken_82 (by decide) ?_
      refine mput (ty := .int) (v := .int 0) hx hb hts hiX12 hown hK hw hS 6 (by decide) lf154 rfl rfl (by decide +kernel) rfl rfl dX12_nextToken_83 (zset r92 106 (fun _ => (0 : Int32))) _ mWf6 (fun H locs hw hS => ?_)
      refine mgen (P := fun x => mJ B x ∧ zFr [104, 105, 106, 108] r x) hw ⟨pr92.1.setc rfl (fun _ => ((zI.lit (a := 0) (b := 0) (c := 0) (by decide)).w (c := 0) (d := 4) (by decide))), pr92.2.set rfl⟩ (fun r109 er109 hw pr109 => ?_)
      have hE := zletE er109 hE
      exact zvretQ hQ hx hb hr hlocks (r109, q91) rfl ⟨pr109.1, pr109.2, (show mP r109 from (by have v103 : (r109 103 0).toInt = (rw52 103 0).toInt := (by rw [((congrFun (zs_row (k := 103) er109 (by decide)) 0).trans ((congrFun (zs_row (k := 103) er92 (by decide)) 0).trans (congrFun (zs_row (k := 103) er90 (by decide)) 0)))]); have v104 : (r109 104 0).toInt = (rw52 104 0).toInt := (by rw [((congrFun (zs_row (k := 104) er109 (by decide)) 0).trans ((congrFun (zs_row (k := 104) er92 (by decide)) 0).trans (congrFun (zs_row (k := 104) er90 (by decide)) 0)))]); have v105 : (r109 105 0).toInt = (rw52 104 0).toInt := (by rw [((congrFun (zs_row (k := 105) er109 (by decide)) 0).trans ((congrFun (zs_row (k := 105) er92 (by decide)) 0).trans (congrFun (zs_self er90) 0)))]); have := x52; exact ⟨by omega, by omega, Or.inl (congrFun (zs_self er109) 0)⟩)), (show (r 104 0).toInt ≤ (r109 105 0).toInt from (by have v104 : (r109 104 0).toInt = (rw52 104 0).toInt := (by rw [((congrFun (zs_row (k := 104) er109 (by decide)) 0).trans ((congrFun (zs_row (k := 104) er92 (by decide)) 0).trans (congrFun (zs_row (k := 104) er90 (by decide)) 0)))]); have v105 : (r109 105 0).toInt = (rw52 104 0).toInt := (by rw [((congrFun (zs_row (k := 105) er109 (by decide)) 0).trans ((congrFun (zs_row (k := 105) er92 (by decide)) 0).trans (congrFun (zs_self er90) 0)))]); have := x52; omega)), (hE.symm.trans hX), trivial⟩ hw hS dX12_nextToken_86
  have cut0 : ∀ (n0 : Nat) (rw0 : zRr) (jw0 : mJ B rw0) (fw0 : zFr [104, 105, 106, 108] r rw0) (x0 : (r 104 0).toInt ≤ (rw0 104 0).toInt ∧ (rw0 104 0).toInt ≤ (rw0 103 0).toInt) (hE : X = Gm_nextToken_0 q n0 rw0), (rw0 103 0).toInt - (rw0 104 0).toInt < (n0 : Int) → zKf p l e ({ frames := 2, cells := 0, slots := 0, locals := 120 }) s m a9 below meth c Q D A 0 2 [] (mW ct h0 y rw0 q) [(0, .ref h0)] := by
    intro n0
    induction n0 with
    | zero => intro rw0 jw0 fw0 x0 hE hm0; exact absurd hm0 (by have h9 := x0; omega)
    | succ n0 ih0 =>
      intro rw0 jw0 fw0 x0 hE hm0
      have hE : X = Bm_nextToken_0 q (Gm_nextToken_0 q n0) rw0 := hE
      unfold Bm_nextToken_0 at hE
      intro H locs ls hw hS hl
      refine lv_aload_n hx hb dX12_nextToken_0 rfl (lv_at hl 0 rfl) ?_
      refine mget (v := .int (rw0 104 0)) hx hb hts hiX12 hown hK hw 4 (by decide) lf141 rfl rfl dX12_nextToken_1 ?_
      refine lv_aload_n hx hb dX12_nextToken_4 rfl (lv_at hl 0 rfl) ?_
      refine mget (v := .int (rw0 103 0)) hx hb hts hiX12 hown hK hw 3 (by decide) lf138 rfl rfl dX12_nextToken_5 ?_
      refine lv_icmp_ge (tgt := 52) hx hb dX12_nextToken_8 (by decide) (fun c110 => ?_) (fun c110 => ?_)
      · have hE := zifT c110 hE
        exact cut52 rw0 jw0 fw0 (x0) hE H locs ls hw hS (lv_sub hl [0] rfl)
      · have hE := zifF c110 hE
        have k111 : zI 0 999 (rw0 104 0) := zI.ltU (zI.nle c110) (show zI 0 1000 (rw0 104 0) from jw0.i 104 0) (show zI 0 1000 (rw0 103 0) from jw0.i 103 0) (by decide)
        have k112 : zI 1 1000 (rw0 103 0) := zI.ltD (zI.nle c110) (show zI 0 1000 (rw0 104 0) from jw0.i 104 0) (show zI 0 1000 (rw0 103 0) from jw0.i 103 0) (by decide)
        refine lv_aload_n hx hb dX12_nextToken_11 rfl (lv_at hl 0 rfl) ?_
        refine mget (v := .ref (y 0)) hx hb hts hiX12 hown hK hw 2 (by decide) lf7 rfl rfl dX12_nextToken_12 ?_
        refine lv_aload_n hx hb dX12_nextToken_15 rfl (lv_at hl 0 rfl) ?_
        refine mget (v := .int (rw0 104 0)) hx hb hts hiX12 hown hK hw 4 (by decide) lf141 rfl rfl dX12_nextToken_16 ?_
        refine miald hx hb hK hw 1 mWg0 k111 (by decide) dX12_nextToken_19 (zgenE (zI.top _) (fun v113 ev113 _ => ?_))
        have hE := zletE ev113 hE
        refine lv_bipush (v := 32) hx hb dX12_nextToken_20 (by decide) ?_
        refine lv_icmp_eq (tgt := 39) hx hb dX12_nextToken_22 (by decide) (fun c114 => ?_) (fun c114 => ?_)
        · have hE := zifT c114 hE
          have k115 : zI 32 32 (v113) := zI.eqq c114 (zI.lit (a := 32) (b := 32) (c := 32) (by decide))
          refine lv_aload_n hx hb dX12_nextToken_39 rfl (lv_at hl 0 rfl) ?_
          refine lv_dup hx hb dX12_nextToken_40 rfl ?_
          refine mget (v := .int (rw0 104 0)) hx hb hts hiX12 hown hK hw 4 (by decide) lf141 rfl rfl dX12_nextToken_41 ?_
          refine lv_iconst (v := 1) hx hb dX12_nextToken_44 (by decide) ?_
          refine lv_iadd hx hb dX12_nextToken_45 ?_
          have k116 : zI 1 1000 ((rw0 104 0) + 1) := zI.add k111 (zI.lit (a := 1) (b := 1) (c := 1) (by decide)) (by decide)
          refine mput (ty := .int) (v := .int ((rw0 104 0) + 1)) hx hb hts hiX12 hown hK hw hS 4 (by decide) lf141 rfl rfl (by decide +kernel) rfl rfl dX12_nextToken_46 (zset rw0 104 (fun _ => (rw0 104 0) + 1)) _ mWf4 (fun H locs hw hS => ?_)
          refine mgen (P := fun x => mJ B x ∧ zFr [104, 105, 106, 108] r x) hw ⟨jw0.setc rfl (fun _ => (k116.w (c := 0) (d := 1000) (by decide))), fw0.set rfl⟩ (fun r117 er117 hw pr117 => ?_)
          have hE := zletE er117 hE
          refine lv_goto (tgt := 0) hx hb dX12_nextToken_49 (by decide) ?_
          exact ih0 r117 pr117.1 pr117.2 (by have v103 : (r117 103 0).toInt = (rw0 103 0).toInt := (by rw [(congrFun (zs_row (k := 103) er117 (by decide)) 0)]); have v104 : (r117 104 0).toInt = (rw0 104 0).toInt + 1 := (by rw [(congrFun (zs_self er117) 0)]; exact i32_s k111 (by decide)); have := ltI (zI.nle c110); have := x0; exact ⟨by omega, by omega⟩) hE (by have v103 : (r117 103 0).toInt = (rw0 103 0).toInt := (by rw [(congrFun (zs_row (k := 103) er117 (by decide)) 0)]); have v104 : (r117 104 0).toInt = (rw0 104 0).toInt + 1 := (by rw [(congrFun (zs_self er117) 0)]; exact i32_s k111 (by decide)); omega) H locs ls hw hS (lv_sub hl [0] rfl)
        · have hE := zifF c114 hE
          refine lv_aload_n hx hb dX12_nextToken_25 rfl (lv_at hl 0 rfl) ?_
          refine mget (v := .ref (y 0)) hx hb hts hiX12 hown hK hw 2 (by decide) lf7 rfl rfl dX12_nextToken_26 ?_
          refine lv_aload_n hx hb dX12_nextToken_29 rfl (lv_at hl 0 rfl) ?_
          refine mget (v := .int (rw0 104 0)) hx hb hts hiX12 hown hK hw 4 (by decide) lf141 rfl rfl dX12_nextToken_30 ?_
          refine miald hx hb hK hw 1 mWg0 k111 (by decide) dX12_nextToken_33 (zgenE (zI.top _) (fun v118 ev118 _ => ?_))
          have hE := zletE ev118 hE
          refine lv_bipush (v := 10) hx hb dX12_nextToken_34 (by decide) ?_
          refine lv_icmp_ne (tgt := 52) hx hb dX12_nextToken_36 (by decide) (fun c119 => ?_) (fun c119 => ?_)
          · have hE := zifnT c119 hE
            exact cut52 rw0 jw0 fw0 (x0) hE H locs ls hw hS (lv_sub hl [0] rfl)
          · have hE := zifnF c119 hE
            have k120 : zI 10 10 (v118) := zI.eqq c119 (zI.lit (a := 10) (b := 10) (c := 10) (by decide))
            refine lv_aload_n hx hb dX12_nextToken_39 rfl (lv_at hl 0 rfl) ?_
            refine lv_dup hx hb dX12_nextToken_40 rfl ?_
            refine mget (v := .int (rw0 104 0)) hx hb hts hiX12 hown hK hw 4 (by decide) lf141 rfl rfl dX12_nextToken_41 ?_
            refine lv_iconst (v := 1) hx hb dX12_nextToken_44 (by decide) ?_
            refine lv_iadd hx hb dX12_nextToken_45 ?_
            have k121 : zI 1 1000 ((rw0 104 0) + 1) := zI.add k111 (zI.lit (a := 1) (b := 1) (c := 1) (by decide)) (by decide)
            refine mput (ty := .int) (v := .int ((rw0 104 0) + 1)) hx hb hts hiX12 hown hK hw hS 4 (by decide) lf141 rfl rfl (by decide +kernel) rfl rfl dX12_nextToken_46 (zset rw0 104 (fun _ => (rw0 104 0) + 1)) _ mWf4 (fun H locs hw hS => ?_)
            refine mgen (P := fun x => mJ B x ∧ zFr [104, 105, 106, 108] r x) hw ⟨jw0.setc rfl (fun _ => (k121.w (c := 0) (d := 1000) (by decide))), fw0.set rfl⟩ (fun r122 er122 hw pr122 => ?_)
            have hE := zletE er122 hE
            refine lv_goto (tgt := 0) hx hb dX12_nextToken_49 (by decide) ?_
            exact ih0 r122 pr122.1 pr122.2 (by have v103 : (r122 103 0).toInt = (rw0 103 0).toInt := (by rw [(congrFun (zs_row (k := 103) er122 (by decide)) 0)]); have v104 : (r122 104 0).toInt = (rw0 104 0).toInt + 1 := (by rw [(congrFun (zs_self er122) 0)]; exact i32_s k111 (by decide)); have := ltI (zI.nle c110); have := x0; exact ⟨by omega, by omega⟩) hE (by have v103 : (r122 103 0).toInt = (rw0 103 0).toInt := (by rw [(congrFun (zs_row (k := 103) er122 (by decide)) 0)]); have v104 : (r122 104 0).toInt = (rw0 104 0).toInt + 1 := (by rw [(congrFun (zs_self er122) 0)]; exact i32_s k111 (by decide)); omega) H locs ls hw hS (lv_sub hl [0] rfl)
  intro H locs hw hS ls hl
  have hl : lv_has ls 2 [(0, .ref h0)] := hl
  have hE := hX
  unfold Gm_nextToken at hE
  exact cut0 1001 r hJ0 (zFr.refl) (⟨Int.le_refl _, x1⟩) hE (by have h8 : zI 0 1000 (r 103 0) := hJ0.i 103 0; have h9 : zI 0 1000 (r 104 0) := hJ0.i 104 0; have := h8.2; have := h9.1; omega) H locs ls hw hS (lv_sub hl [0] rfl)
set_option maxHeartbeats 4000000 in
set_option maxRecDepth 100000 in
theorem mc_isWord (l : Launch) (D : va_G) (ct : Nat → ClassId) (h0 : Nat) (y : Nat → Nat) (B : Int) (a1 : Int64) (r : zRr) (q : zRq) (hJ0 : mJ B r) : zC l yX12_isWord (.code yX12_isWord cX12_isWord 3 (some .boolean) :: wsL_law0) ({ frames := 1, cells := 0, slots := 0, locals := 80 }) D ct [] [.ref h0, .long a1] (mW ct h0 y r q) (S := Int32) (fun u => some (.int u)) (fun u => zI 0 1 u ∧ (¬ u = 0 → zI 1 1 (r 106 0)) ∧ u = (Gm_isWord a1 r q) ∧ True) (fun u => mW ct h0 y r q) 0 0 := by
  refine zofQ cX12_isWord 3 (some .boolean) (by decide) rfl (Nat.le_of_ble_eq_true rfl) ?_
  intro p e s m below meth c A a9 Q ha9 hx hb hr hml hts hown hlocks hname hK hA hZ hN hQ
  have hown : s.vm.findClass RX12 = some m.cls := hown
  have hiX12 : ∀ w ∈ wsX120, w ∈ .code yX12_isWord cX12_isWord 3 (some .boolean) :: wsL_law0 := fun _ h => ki (zs_wsX120 _ h)
  have lf147 := hts (.fieldLink RX12 147 "BeardPassModel" "word" "J") (ki (zr22 18 rfl))
  have lf154 := hts (.fieldLink RX12 154 "BeardPassModel" "token" "I") (ki (zr22 0 rfl))
  obtain ⟨X, hX⟩ : ∃ X, X = (Gm_isWord a1 r q) := ⟨_, rfl⟩
  intro H locs hw hS ls hl
  have hl : lv_has ls 3 [(0, .ref h0), (1, .long a1)] := hl
  have hE := hX
  unfold Gm_isWord at hE
  refine lv_aload_n hx hb dX12_isWord_0 rfl (lv_at hl 0 rfl) ?_
  refine mget (v := .int (r 106 0)) hx hb hts hiX12 hown hK hw 6 (by decide) lf154 rfl rfl dX12_isWord_1 ?_
  refine lv_iconst (v := 1) hx hb dX12_isWord_4 (by decide) ?_
  refine lv_icmp_ne (tgt := 21) hx hb dX12_isWord_5 (by decide) (fun c1 => ?_) (fun c1 => ?_)
  · have hE := zifnT c1 hE
    refine lv_iconst (v := 0) hx hb dX12_isWord_21 (by decide) ?_
    exact ziretQ hQ hx hb hr rfl hlocks 0 rfl ⟨((zI.lit (a := 0) (b := 0) (c := 0) (by decide)).w (c := 0) (d := 1) (by decide)), (fun h => absurd rfl h), (hE.symm.trans hX), trivial⟩ hw hS dX12_isWord_22
  · have hE := zifnF c1 hE
    have k2 : zI 1 1 (r 106 0) := zI.eqq c1 (zI.lit (a := 1) (b := 1) (c := 1) (by decide))
    refine lv_aload_n hx hb dX12_isWord_8 rfl (lv_at hl 0 rfl) ?_
    refine mget (v := .long (q 107 0)) hx hb hts hiX12 hown hK hw 7 (by decide) lf147 rfl rfl dX12_isWord_9 (zgenLE (fun v3 ev3 => ?_))
    have hE := zletE ev3 hE
    refine lv_lload_n hx hb dX12_isWord_12 rfl (lv_at hl 1 rfl) ?_
    refine W.lcmp hx hb dX12_isWord_13 (zgenE (zI.top _) (fun v4 ev4 _ => ?_))
    have hE := zletE ev4 hE
    refine lv_if_ne (tgt := 21) hx hb dX12_isWord_14 (by decide) (fun c5 => ?_) (fun c5 => ?_)
    · have hE := zifnT c5 hE
      refine lv_iconst (v := 0) hx hb dX12_isWord_21 (by decide) ?_
      exact ziretQ hQ hx hb hr rfl hlocks 0 rfl ⟨((zI.lit (a := 0) (b := 0) (c := 0) (by decide)).w (c := 0) (d := 1) (by decide)), (fun h => absurd rfl h), (hE.symm.trans hX), trivial⟩ hw hS dX12_isWord_22
    · have hE := zifnF c5 hE
      have k6 : zI 0 0 (v4) := zI.eqq c5 (zI.lit (a := 0) (b := 0) (c := 0) (by decide))
      refine lv_iconst (v := 1) hx hb dX12_isWord_17 (by decide) ?_
      refine lv_goto (tgt := 22) hx hb dX12_isWord_18 (by decide) ?_
      exact ziretQ hQ hx hb hr rfl hlocks 1 rfl ⟨((zI.lit (a := 1) (b := 1) (c := 1) (by decide)).w (c := 0) (d := 1) (by decide)), (fun _ => k2), (hE.symm.trans hX), trivial⟩ hw hS dX12_isWord_22

set_option maxHeartbeats 4000000 in
set_option maxRecDepth 100000 in
theorem mc_isSign (l : Launch) (D : va_G) (ct : Nat → ClassId) (h0 : Nat) (y : Nat → Nat) (B : Int) (a1 : Int32) (r : zRr) (q : zRq) (hJ0 : mJ B r) (x1 : mP r) : zC l yX12_isSign (.code yX12_isSign cX12_isSign 2 (some .boolean) :: wsL_law0) ({ frames := 1, cells := 0, slots := 0, locals := 80 }) D ct [] [.ref h0, .int a1] (mW ct h0 y r q) (S := Int32) (fun u => some (.int u)) (fun u => zI 0 1 u ∧ (¬ u = 0 → zI 3 3 (r 106 0)) ∧ u = (Gm_isSign a1 r q) ∧ True) (fun u => mW ct h0 y r q) 0 0 := by
  refine zofQ cX12_isSign 2 (some .boolean) (by decide) rfl (Nat.le_of_ble_eq_true rfl) ?_
  intro p e s m below meth c A a9 Q ha9 hx hb hr hml hts hown hlocks hname hK hA hZ hN hQ
  have hown : s.vm.findClass RX12 = some m.cls := hown
  have hiX12 : ∀ w ∈ wsX120, w ∈ .code yX12_isSign cX12_isSign 2 (some .boolean) :: wsL_law0 := fun _ h => ki (zs_wsX120 _ h)
  have lf7 := hts (.fieldLink RX12 7 "BeardPassModel" "tape" "[I") (ki (zr7 19 rfl))
  have lf144 := hts (.fieldLink RX12 144 "BeardPassModel" "begin" "I") (ki (zr22 17 rfl))
  have lf154 := hts (.fieldLink RX12 154 "BeardPassModel" "token" "I") (ki (zr22 0 rfl))
  obtain ⟨X, hX⟩ : ∃ X, X = (Gm_isSign a1 r q) := ⟨_, rfl⟩
  intro H locs hw hS ls hl
  have hl : lv_has ls 2 [(0, .ref h0), (1, .int a1)] := hl
  have hE := hX
  unfold Gm_isSign at hE
  refine lv_aload_n hx hb dX12_isSign_0 rfl (lv_at hl 0 rfl) ?_
  refine mget (v := .int (r 106 0)) hx hb hts hiX12 hown hK hw 6 (by decide) lf154 rfl rfl dX12_isSign_1 ?_
  refine lv_iconst (v := 3) hx hb dX12_isSign_4 (by decide) ?_
  refine lv_icmp_ne (tgt := 25) hx hb dX12_isSign_5 (by decide) (fun c1 => ?_) (fun c1 => ?_)
  · have hE := zifnT c1 hE
    refine lv_iconst (v := 0) hx hb dX12_isSign_25 (by decide) ?_
    exact ziretQ hQ hx hb hr rfl hlocks 0 rfl ⟨((zI.lit (a := 0) (b := 0) (c := 0) (by decide)).w (c := 0) (d := 1) (by decide)), (fun h => absurd rfl h), (hE.symm.trans hX), trivial⟩ hw hS dX12_isSign_26
  · have hE := zifnF c1 hE
    have k2 : zI 3 3 (r 106 0) := zI.eqq c1 (zI.lit (a := 3) (b := 3) (c := 3) (by decide))
    refine lv_aload_n hx hb dX12_isSign_8 rfl (lv_at hl 0 rfl) ?_
    refine mget (v := .ref (y 0)) hx hb hts hiX12 hown hK hw 2 (by decide) lf7 rfl rfl dX12_isSign_9 ?_
    refine lv_aload_n hx hb dX12_isSign_12 rfl (lv_at hl 0 rfl) ?_
    refine mget (v := .int (r 105 0)) hx hb hts hiX12 hown hK hw 5 (by decide) lf144 rfl rfl dX12_isSign_13 ?_
    have k3 : zI 0 999 (r 105 0) := x1.b hJ0.i (tkne k2 (by decide))
    refine miald hx hb hK hw 1 mWg0 k3 (by decide) dX12_isSign_16 (zgenE (zI.top _) (fun v4 ev4 _ => ?_))
    have hE := zletE ev4 hE
    refine lv_iload_n hx hb dX12_isSign_17 rfl (lv_at hl 1 rfl) ?_
    refine lv_icmp_ne (tgt := 25) hx hb dX12_isSign_18 (by decide) (fun c5 => ?_) (fun c5 => ?_)
    · have hE := zifnT c5 hE
      refine lv_iconst (v := 0) hx hb dX12_isSign_25 (by decide) ?_
      exact ziretQ hQ hx hb hr rfl hlocks 0 rfl ⟨((zI.lit (a := 0) (b := 0) (c := 0) (by decide)).w (c := 0) (d := 1) (by decide)), (fun h => absurd rfl h), (hE.symm.trans hX), trivial⟩ hw hS dX12_isSign_26
    · have hE := zifnF c5 hE
      refine lv_iconst (v := 1) hx hb dX12_isSign_21 (by decide) ?_
      refine lv_goto (tgt := 26) hx hb dX12_isSign_22 (by decide) ?_
      exact ziretQ hQ hx hb hr rfl hlocks 1 rfl ⟨((zI.lit (a := 1) (b := 1) (c := 1) (by decide)).w (c := 0) (d := 1) (by decide)), (fun _ => k2), (hE.symm.trans hX), trivial⟩ hw hS dX12_isSign_26

set_option maxHeartbeats 4000000 in
set_option maxRecDepth 100000 in
theorem mc_fails (l : Launch) (D : va_G) (ct : Nat → ClassId) (h0 : Nat) (y : Nat → Nat) (B : Int) (a1 : Int32) (r : zRr) (q : zRq) (g1 : zI 1 5 a1) (hJ0 : mJ B r) : zC l yX12_fails (.code yX12_fails cX12_fails 2 (some .boolean) :: wsL_law0) ({ frames := 1, cells := 0, slots := 0, locals := 80 }) D ct [] [.ref h0, .int a1] (mW ct h0 y r q) (S := Int32 × zRr) (fun u => some (.int u.1)) (fun u => zI 0 0 u.1 ∧ mJ B u.2 ∧ zFr [109] r u.2 ∧ u = (Gm_fails a1 r q) ∧ True) (fun u => mW ct h0 y u.2 q) 0 0 := by
  refine zofQ cX12_fails 2 (some .boolean) (by decide) rfl (Nat.le_of_ble_eq_true rfl) ?_
  intro p e s m below meth c A a9 Q ha9 hx hb hr hml hts hown hlocks hname hK hA hZ hN hQ
  have hown : s.vm.findClass RX12 = some m.cls := hown
  have hiX12 : ∀ w ∈ wsX120, w ∈ .code yX12_fails cX12_fails 2 (some .boolean) :: wsL_law0 := fun _ h => ki (zs_wsX120 _ h)
  have lf144 := hts (.fieldLink RX12 144 "BeardPassModel" "begin" "I") (ki (zr22 17 rfl))
  have lf165 := hts (.fieldLink RX12 165 "BeardPassModel" "wrong" "I") (ki (zr21 16 rfl))
  obtain ⟨X, hX⟩ : ∃ X, X = (Gm_fails a1 r q) := ⟨_, rfl⟩
  intro H locs hw hS ls hl
  have hl : lv_has ls 2 [(0, .ref h0), (1, .int a1)] := hl
  have hE := hX
  unfold Gm_fails at hE
  refine lv_aload_n hx hb dX12_fails_0 rfl (lv_at hl 0 rfl) ?_
  refine lv_iload_n hx hb dX12_fails_1 rfl (lv_at hl 1 rfl) ?_
  refine lv_bipush (v := 16) hx hb dX12_fails_2 (by decide) ?_
  refine lv_aload_n hx hb dX12_fails_4 rfl (lv_at hl 0 rfl) ?_
  refine mget (v := .int (r 105 0)) hx hb hts hiX12 hown hK hw 5 (by decide) lf144 rfl rfl dX12_fails_5 (zgenE (lo := 0) (hi := 1000) ((show zI 0 1000 (r 105 0) from hJ0.i 105 0)) (fun v1 ev1 hv1 => ?_))
  have hE := zletE ev1 hE
  refine lv_imul hx hb dX12_fails_8 (zgenE (lo := 0) (hi := 16000) (zI.mul (zI.lit (a := 16) (b := 16) (c := 16) (by decide)) hv1 (by decide)) (fun v2 ev2 hv2 => ?_))
  have hE := zletE ev2 hE
  refine lv_iadd hx hb dX12_fails_9 (zgenE (lo := 1) (hi := 16005) (zI.add g1 hv2 (by decide)) (fun v3 ev3 hv3 => ?_))
  have hE := zletE ev3 hE
  refine mput (ty := .int) (v := .int v3) hx hb hts hiX12 hown hK hw hS 9 (by decide) lf165 rfl rfl (by decide +kernel) rfl rfl dX12_fails_10 (zset r 109 (fun _ => v3)) _ mWf9 (fun H locs hw hS => ?_)
  refine mgen (P := fun x => mJ B x ∧ zFr [109] r x) hw ⟨hJ0.setc rfl (fun _ => (zI.top _)), (zFr.refl).set rfl⟩ (fun r4 er4 hw pr4 => ?_)
  have hE := zletE er4 hE
  refine lv_iconst (v := 0) hx hb dX12_fails_13 (by decide) ?_
  exact ziretQ hQ hx hb hr rfl hlocks (0, r4) rfl ⟨(zI.lit (a := 0) (b := 0) (c := 0) (by decide)), pr4.1, pr4.2, (hE.symm.trans hX), trivial⟩ hw hS dX12_fails_14

set_option maxHeartbeats 4000000 in
set_option maxRecDepth 100000 in
theorem mc_fact (l : Launch) (D : va_G) (ct : Nat → ClassId) (h0 : Nat) (y : Nat → Nat) (B : Int) (r : zRr) (q : zRq) (hJ0 : mJ B r) : zC l yX12_fact (.code yX12_fact cX12_fact 1 (some .int) :: wsL_law0) ({ frames := 1, cells := 0, slots := 0, locals := 80 }) D ct [] [.ref h0] (mW ct h0 y r q) (S := Int32) (fun u => some (.int u)) (fun u => zI 0 4 u ∧ (¬ u = 0 → zI 1 1 (r 106 0)) ∧ u = (Gm_fact r q) ∧ True) (fun u => mW ct h0 y r q) 0 0 := by
  refine zofQ cX12_fact 1 (some .int) (by decide) rfl (Nat.le_of_ble_eq_true rfl) ?_
  intro p e s m below meth c A a9 Q ha9 hx hb hr hml hts hown hlocks hname hK hA hZ hN hQ
  have hown : s.vm.findClass RX12 = some m.cls := hown
  have hiX12 : ∀ w ∈ wsX120, w ∈ .code yX12_fact cX12_fact 1 (some .int) :: wsL_law0 := fun _ h => ki (zs_wsX120 _ h)
  have lf147 := hts (.fieldLink RX12 147 "BeardPassModel" "word" "J") (ki (zr22 18 rfl))
  have lf154 := hts (.fieldLink RX12 154 "BeardPassModel" "token" "I") (ki (zr22 0 rfl))
  obtain ⟨X, hX⟩ : ∃ X, X = (Gm_fact r q) := ⟨_, rfl⟩
  intro H locs hw hS ls hl
  have hl : lv_has ls 1 [(0, .ref h0)] := hl
  have hE := hX
  unfold Gm_fact at hE
  refine lv_aload_n hx hb dX12_fact_0 rfl (lv_at hl 0 rfl) ?_
  refine mget (v := .int (r 106 0)) hx hb hts hiX12 hown hK hw 6 (by decide) lf154 rfl rfl dX12_fact_1 ?_
  refine lv_iconst (v := 1) hx hb dX12_fact_4 (by decide) ?_
  refine lv_icmp_eq (tgt := 10) hx hb dX12_fact_5 (by decide) (fun c1 => ?_) (fun c1 => ?_)
  · have hE := zifT c1 hE
    have k2 : zI 1 1 (r 106 0) := zI.eqq c1 (zI.lit (a := 1) (b := 1) (c := 1) (by decide))
    refine lv_aload_n hx hb dX12_fact_10 rfl (lv_at hl 0 rfl) ?_
    refine mget (v := .long (q 107 0)) hx hb hts hiX12 hown hK hw 7 (by decide) lf147 rfl rfl dX12_fact_11 (zgenLE (fun v3 ev3 => ?_))
    have hE := zletE ev3 hE
    refine lv_ldc2 hx hb hown (hts (.constantLong RX12 171 247516) (ki (zr27 2 rfl))) dX12_fact_14 ?_
    refine W.lcmp hx hb dX12_fact_17 (zgenE (zI.top _) (fun v4 ev4 _ => ?_))
    have hE := zletE ev4 hE
    refine lv_if_ne (tgt := 23) hx hb dX12_fact_18 (by decide) (fun c5 => ?_) (fun c5 => ?_)
    · have hE := zifnT c5 hE
      refine lv_aload_n hx hb dX12_fact_23 rfl (lv_at hl 0 rfl) ?_
      refine mget (v := .long (q 107 0)) hx hb hts hiX12 hown hK hw 7 (by decide) lf147 rfl rfl dX12_fact_24 (zgenLE (fun v6 ev6 => ?_))
      have hE := zletE ev6 hE
      refine lv_ldc2 hx hb hown (hts (.constantLong RX12 173 3217595) (ki (zr27 3 rfl))) dX12_fact_27 ?_
      refine W.lcmp hx hb dX12_fact_30 (zgenE (zI.top _) (fun v7 ev7 _ => ?_))
      have hE := zletE ev7 hE
      refine lv_if_ne (tgt := 36) hx hb dX12_fact_31 (by decide) (fun c8 => ?_) (fun c8 => ?_)
      · have hE := zifnT c8 hE
        refine lv_aload_n hx hb dX12_fact_36 rfl (lv_at hl 0 rfl) ?_
        refine mget (v := .long (q 107 0)) hx hb hts hiX12 hown hK hw 7 (by decide) lf147 rfl rfl dX12_fact_37 (zgenLE (fun v9 ev9 => ?_))
        have hE := zletE ev9 hE
        refine lv_ldc2 hx hb hown (hts (.constantLong RX12 175 913576) (ki (zr27 4 rfl))) dX12_fact_40 ?_
        refine W.lcmp hx hb dX12_fact_43 (zgenE (zI.top _) (fun v10 ev10 _ => ?_))
        have hE := zletE ev10 hE
        refine lv_if_ne (tgt := 51) hx hb dX12_fact_44 (by decide) (fun c11 => ?_) (fun c11 => ?_)
        · have hE := zifnT c11 hE
          refine lv_aload_n hx hb dX12_fact_51 rfl (lv_at hl 0 rfl) ?_
          refine mget (v := .long (q 107 0)) hx hb hts hiX12 hown hK hw 7 (by decide) lf147 rfl rfl dX12_fact_52 (zgenLE (fun v12 ev12 => ?_))
          have hE := zletE ev12 hE
          refine lv_ldc2 hx hb hown (hts (.constantLong RX12 177 12325519) (ki (zr27 5 rfl))) dX12_fact_55 ?_
          refine W.lcmp hx hb dX12_fact_58 (zgenE (zI.top _) (fun v13 ev13 _ => ?_))
          have hE := zletE ev13 hE
          refine lv_if_ne (tgt := 66) hx hb dX12_fact_59 (by decide) (fun c14 => ?_) (fun c14 => ?_)
          · have hE := zifnT c14 hE
            refine lv_iconst (v := 0) hx hb dX12_fact_66 (by decide) ?_
            exact ziretQ hQ hx hb hr rfl hlocks 0 rfl ⟨((zI.lit (a := 0) (b := 0) (c := 0) (by decide)).w (c := 0) (d := 4) (by decide)), (fun h => absurd rfl h), (hE.symm.trans hX), trivial⟩ hw hS dX12_fact_67
          · have hE := zifnF c14 hE
            have k15 : zI 0 0 (v13) := zI.eqq c14 (zI.lit (a := 0) (b := 0) (c := 0) (by decide))
            refine lv_iconst (v := 4) hx hb dX12_fact_62 (by decide) ?_
            refine lv_goto (tgt := 67) hx hb dX12_fact_63 (by decide) ?_
            exact ziretQ hQ hx hb hr rfl hlocks 4 rfl ⟨((zI.lit (a := 4) (b := 4) (c := 4) (by decide)).w (c := 0) (d := 4) (by decide)), (fun _ => k2), (hE.symm.trans hX), trivial⟩ hw hS dX12_fact_67
        · have hE := zifnF c11 hE
          have k16 : zI 0 0 (v10) := zI.eqq c11 (zI.lit (a := 0) (b := 0) (c := 0) (by decide))
          refine lv_iconst (v := 3) hx hb dX12_fact_47 (by decide) ?_
          refine lv_goto (tgt := 67) hx hb dX12_fact_48 (by decide) ?_
          exact ziretQ hQ hx hb hr rfl hlocks 3 rfl ⟨((zI.lit (a := 3) (b := 3) (c := 3) (by decide)).w (c := 0) (d := 4) (by decide)), (fun _ => k2), (hE.symm.trans hX), trivial⟩ hw hS dX12_fact_67
      · have hE := zifnF c8 hE
        have k17 : zI 0 0 (v7) := zI.eqq c8 (zI.lit (a := 0) (b := 0) (c := 0) (by decide))
        refine lv_iconst (v := 2) hx hb dX12_fact_34 (by decide) ?_
        exact ziretQ hQ hx hb hr rfl hlocks 2 rfl ⟨((zI.lit (a := 2) (b := 2) (c := 2) (by decide)).w (c := 0) (d := 4) (by decide)), (fun _ => k2), (hE.symm.trans hX), trivial⟩ hw hS dX12_fact_35
    · have hE := zifnF c5 hE
      have k18 : zI 0 0 (v4) := zI.eqq c5 (zI.lit (a := 0) (b := 0) (c := 0) (by decide))
      refine lv_iconst (v := 1) hx hb dX12_fact_21 (by decide) ?_
      exact ziretQ hQ hx hb hr rfl hlocks 1 rfl ⟨((zI.lit (a := 1) (b := 1) (c := 1) (by decide)).w (c := 0) (d := 4) (by decide)), (fun _ => k2), (hE.symm.trans hX), trivial⟩ hw hS dX12_fact_22
  · have hE := zifF c1 hE
    refine lv_iconst (v := 0) hx hb dX12_fact_8 (by decide) ?_
    exact ziretQ hQ hx hb hr rfl hlocks 0 rfl ⟨((zI.lit (a := 0) (b := 0) (c := 0) (by decide)).w (c := 0) (d := 4) (by decide)), (fun h => absurd rfl h), (hE.symm.trans hX), trivial⟩ hw hS dX12_fact_9

set_option maxHeartbeats 4000000 in
set_option maxRecDepth 100000 in
theorem mc_isKept (l : Launch) (D : va_G) (ct : Nat → ClassId) (h0 : Nat) (y : Nat → Nat) (B : Int) (r : zRr) (q : zRq) (hJ0 : mJ B r) : zC l yX12_isKept (.code yX12_isKept cX12_isKept 1 (some .boolean) :: wsL_law0) ({ frames := 1, cells := 0, slots := 0, locals := 80 }) D ct [] [.ref h0] (mW ct h0 y r q) (S := Int32) (fun u => some (.int u)) (fun u => zI 0 1 u ∧ (u = 0 → zI 1 1 (r 106 0)) ∧ u = (Gm_isKept r q) ∧ True) (fun u => mW ct h0 y r q) 0 0 := by
  refine zofQ cX12_isKept 1 (some .boolean) (by decide) rfl (Nat.le_of_ble_eq_true rfl) ?_
  intro p e s m below meth c A a9 Q ha9 hx hb hr hml hts hown hlocks hname hK hA hZ hN hQ
  have hown : s.vm.findClass RX12 = some m.cls := hown
  have hiX12 : ∀ w ∈ wsX120, w ∈ .code yX12_isKept cX12_isKept 1 (some .boolean) :: wsL_law0 := fun _ h => ki (zs_wsX120 _ h)
  have lf147 := hts (.fieldLink RX12 147 "BeardPassModel" "word" "J") (ki (zr22 18 rfl))
  have lf154 := hts (.fieldLink RX12 154 "BeardPassModel" "token" "I") (ki (zr22 0 rfl))
  obtain ⟨X, hX⟩ : ∃ X, X = (Gm_isKept r q) := ⟨_, rfl⟩
  intro H locs hw hS ls hl
  have hl : lv_has ls 1 [(0, .ref h0)] := hl
  have hE := hX
  unfold Gm_isKept at hE
  refine lv_aload_n hx hb dX12_isKept_0 rfl (lv_at hl 0 rfl) ?_
  refine mget (v := .int (r 106 0)) hx hb hts hiX12 hown hK hw 6 (by decide) lf154 rfl rfl dX12_isKept_1 ?_
  refine lv_iconst (v := 1) hx hb dX12_isKept_4 (by decide) ?_
  refine lv_icmp_eq (tgt := 10) hx hb dX12_isKept_5 (by decide) (fun c1 => ?_) (fun c1 => ?_)
  · have hE := zifT c1 hE
    have k2 : zI 1 1 (r 106 0) := zI.eqq c1 (zI.lit (a := 1) (b := 1) (c := 1) (by decide))
    refine lv_aload_n hx hb dX12_isKept_10 rfl (lv_at hl 0 rfl) ?_
    refine mget (v := .long (q 107 0)) hx hb hts hiX12 hown hK hw 7 (by decide) lf147 rfl rfl dX12_isKept_11 (zgenLE (fun v3 ev3 => ?_))
    have hE := zletE ev3 hE
    refine lv_ldc2 hx hb hown (hts (.constantLong RX12 216 405230) (ki (zr22 1 rfl))) dX12_isKept_14 ?_
    refine W.lcmp hx hb dX12_isKept_17 (zgenE (zI.top _) (fun v4 ev4 _ => ?_))
    have hE := zletE ev4 hE
    refine lv_if_eq (tgt := 241) hx hb dX12_isKept_18 (by decide) (fun c5 => ?_) (fun c5 => ?_)
    · have hE := zifT c5 hE
      have k6 : zI 0 0 (v4) := zI.eqq c5 (zI.lit (a := 0) (b := 0) (c := 0) (by decide))
      refine lv_iconst (v := 1) hx hb dX12_isKept_241 (by decide) ?_
      refine lv_goto (tgt := 246) hx hb dX12_isKept_242 (by decide) ?_
      exact ziretQ hQ hx hb hr rfl hlocks 1 rfl ⟨((zI.lit (a := 1) (b := 1) (c := 1) (by decide)).w (c := 0) (d := 1) (by decide)), (fun h => absurd h (by decide)), (hE.symm.trans hX), trivial⟩ hw hS dX12_isKept_246
    · have hE := zifF c5 hE
      refine lv_aload_n hx hb dX12_isKept_21 rfl (lv_at hl 0 rfl) ?_
      refine mget (v := .long (q 107 0)) hx hb hts hiX12 hown hK hw 7 (by decide) lf147 rfl rfl dX12_isKept_22 (zgenLE (fun v7 ev7 => ?_))
      have hE := zletE ev7 hE
      refine lv_ldc2 hx hb hown (hts (.constantLong RX12 218 33850) (ki (zr23 10 rfl))) dX12_isKept_25 ?_
      refine W.lcmp hx hb dX12_isKept_28 (zgenE (zI.top _) (fun v8 ev8 _ => ?_))
      have hE := zletE ev8 hE
      refine lv_if_eq (tgt := 241) hx hb dX12_isKept_29 (by decide) (fun c9 => ?_) (fun c9 => ?_)
      · have hE := zifT c9 hE
        have k10 : zI 0 0 (v8) := zI.eqq c9 (zI.lit (a := 0) (b := 0) (c := 0) (by decide))
        refine lv_iconst (v := 1) hx hb dX12_isKept_241 (by decide) ?_
        refine lv_goto (tgt := 246) hx hb dX12_isKept_242 (by decide) ?_
        exact ziretQ hQ hx hb hr rfl hlocks 1 rfl ⟨((zI.lit (a := 1) (b := 1) (c := 1) (by decide)).w (c := 0) (d := 1) (by decide)), (fun h => absurd h (by decide)), (hE.symm.trans hX), trivial⟩ hw hS dX12_isKept_246
      · have hE := zifF c9 hE
        refine lv_aload_n hx hb dX12_isKept_32 rfl (lv_at hl 0 rfl) ?_
        refine mget (v := .long (q 107 0)) hx hb hts hiX12 hown hK hw 7 (by decide) lf147 rfl rfl dX12_isKept_33 (zgenLE (fun v11 ev11 => ?_))
        have hE := zletE ev11 hE
        refine lv_ldc2 hx hb hown (hts (.constantLong RX12 220 365260) (ki (zr22 2 rfl))) dX12_isKept_36 ?_
        refine W.lcmp hx hb dX12_isKept_39 (zgenE (zI.top _) (fun v12 ev12 _ => ?_))
        have hE := zletE ev12 hE
        refine lv_if_eq (tgt := 241) hx hb dX12_isKept_40 (by decide) (fun c13 => ?_) (fun c13 => ?_)
        · have hE := zifT c13 hE
          have k14 : zI 0 0 (v12) := zI.eqq c13 (zI.lit (a := 0) (b := 0) (c := 0) (by decide))
          refine lv_iconst (v := 1) hx hb dX12_isKept_241 (by decide) ?_
          refine lv_goto (tgt := 246) hx hb dX12_isKept_242 (by decide) ?_
          exact ziretQ hQ hx hb hr rfl hlocks 1 rfl ⟨((zI.lit (a := 1) (b := 1) (c := 1) (by decide)).w (c := 0) (d := 1) (by decide)), (fun h => absurd h (by decide)), (hE.symm.trans hX), trivial⟩ hw hS dX12_isKept_246
        · have hE := zifF c13 hE
          refine lv_aload_n hx hb dX12_isKept_43 rfl (lv_at hl 0 rfl) ?_
          refine mget (v := .long (q 107 0)) hx hb hts hiX12 hown hK hw 7 (by decide) lf147 rfl rfl dX12_isKept_44 (zgenLE (fun v15 ev15 => ?_))
          have hE := zletE ev15 hE
          refine lv_ldc2 hx hb hown (hts (.constantLong RX12 222 232608281) (ki (zr22 3 rfl))) dX12_isKept_47 ?_
          refine W.lcmp hx hb dX12_isKept_50 (zgenE (zI.top _) (fun v16 ev16 _ => ?_))
          have hE := zletE ev16 hE
          refine lv_if_eq (tgt := 241) hx hb dX12_isKept_51 (by decide) (fun c17 => ?_) (fun c17 => ?_)
          · have hE := zifT c17 hE
            have k18 : zI 0 0 (v16) := zI.eqq c17 (zI.lit (a := 0) (b := 0) (c := 0) (by decide))
            refine lv_iconst (v := 1) hx hb dX12_isKept_241 (by decide) ?_
            refine lv_goto (tgt := 246) hx hb dX12_isKept_242 (by decide) ?_
            exact ziretQ hQ hx hb hr rfl hlocks 1 rfl ⟨((zI.lit (a := 1) (b := 1) (c := 1) (by decide)).w (c := 0) (d := 1) (by decide)), (fun h => absurd h (by decide)), (hE.symm.trans hX), trivial⟩ hw hS dX12_isKept_246
          · have hE := zifF c17 hE
            refine lv_aload_n hx hb dX12_isKept_54 rfl (lv_at hl 0 rfl) ?_
            refine mget (v := .long (q 107 0)) hx hb hts hiX12 hown hK hw 7 (by decide) lf147 rfl rfl dX12_isKept_55 (zgenLE (fun v19 ev19 => ?_))
            have hE := zletE ev19 hE
            refine lv_ldc2 hx hb hown (hts (.constantLong RX12 224 47) (ki (zr24 1 rfl))) dX12_isKept_58 ?_
            refine W.lcmp hx hb dX12_isKept_61 (zgenE (zI.top _) (fun v20 ev20 _ => ?_))
            have hE := zletE ev20 hE
            refine lv_if_eq (tgt := 241) hx hb dX12_isKept_62 (by decide) (fun c21 => ?_) (fun c21 => ?_)
            · have hE := zifT c21 hE
              have k22 : zI 0 0 (v20) := zI.eqq c21 (zI.lit (a := 0) (b := 0) (c := 0) (by decide))
              refine lv_iconst (v := 1) hx hb dX12_isKept_241 (by decide) ?_
              refine lv_goto (tgt := 246) hx hb dX12_isKept_242 (by decide) ?_
              exact ziretQ hQ hx hb hr rfl hlocks 1 rfl ⟨((zI.lit (a := 1) (b := 1) (c := 1) (by decide)).w (c := 0) (d := 1) (by decide)), (fun h => absurd h (by decide)), (hE.symm.trans hX), trivial⟩ hw hS dX12_isKept_246
            · have hE := zifF c21 hE
              refine lv_aload_n hx hb dX12_isKept_65 rfl (lv_at hl 0 rfl) ?_
              refine mget (v := .long (q 107 0)) hx hb hts hiX12 hown hK hw 7 (by decide) lf147 rfl rfl dX12_isKept_66 (zgenLE (fun v23 ev23 => ?_))
              have hE := zletE ev23 hE
              refine lv_ldc2 hx hb hown (hts (.constantLong RX12 226 1162516) (ki (zr24 2 rfl))) dX12_isKept_69 ?_
              refine W.lcmp hx hb dX12_isKept_72 (zgenE (zI.top _) (fun v24 ev24 _ => ?_))
              have hE := zletE ev24 hE
              refine lv_if_eq (tgt := 241) hx hb dX12_isKept_73 (by decide) (fun c25 => ?_) (fun c25 => ?_)
              · have hE := zifT c25 hE
                have k26 : zI 0 0 (v24) := zI.eqq c25 (zI.lit (a := 0) (b := 0) (c := 0) (by decide))
                refine lv_iconst (v := 1) hx hb dX12_isKept_241 (by decide) ?_
                refine lv_goto (tgt := 246) hx hb dX12_isKept_242 (by decide) ?_
                exact ziretQ hQ hx hb hr rfl hlocks 1 rfl ⟨((zI.lit (a := 1) (b := 1) (c := 1) (by decide)).w (c := 0) (d := 1) (by decide)), (fun h => absurd h (by decide)), (hE.symm.trans hX), trivial⟩ hw hS dX12_isKept_246
              · have hE := zifF c25 hE
                refine lv_aload_n hx hb dX12_isKept_76 rfl (lv_at hl 0 rfl) ?_
                refine mget (v := .long (q 107 0)) hx hb hts hiX12 hown hK hw 7 (by decide) lf147 rfl rfl dX12_isKept_77 (zgenLE (fun v27 ev27 => ?_))
                have hE := zletE ev27 hE
                refine lv_ldc2 hx hb hown (hts (.constantLong RX12 228 8930039) (ki (zr24 3 rfl))) dX12_isKept_80 ?_
                refine W.lcmp hx hb dX12_isKept_83 (zgenE (zI.top _) (fun v28 ev28 _ => ?_))
                have hE := zletE ev28 hE
                refine lv_if_eq (tgt := 241) hx hb dX12_isKept_84 (by decide) (fun c29 => ?_) (fun c29 => ?_)
                · have hE := zifT c29 hE
                  have k30 : zI 0 0 (v28) := zI.eqq c29 (zI.lit (a := 0) (b := 0) (c := 0) (by decide))
                  refine lv_iconst (v := 1) hx hb dX12_isKept_241 (by decide) ?_
                  refine lv_goto (tgt := 246) hx hb dX12_isKept_242 (by decide) ?_
                  exact ziretQ hQ hx hb hr rfl hlocks 1 rfl ⟨((zI.lit (a := 1) (b := 1) (c := 1) (by decide)).w (c := 0) (d := 1) (by decide)), (fun h => absurd h (by decide)), (hE.symm.trans hX), trivial⟩ hw hS dX12_isKept_246
                · have hE := zifF c29 hE
                  refine lv_aload_n hx hb dX12_isKept_87 rfl (lv_at hl 0 rfl) ?_
                  refine mget (v := .long (q 107 0)) hx hb hts hiX12 hown hK hw 7 (by decide) lf147 rfl rfl dX12_isKept_88 (zgenLE (fun v31 ev31 => ?_))
                  have hE := zletE ev31 hE
                  refine lv_ldc2 hx hb hown (hts (.constantLong RX12 230 4085956) (ki (zr22 4 rfl))) dX12_isKept_91 ?_
                  refine W.lcmp hx hb dX12_isKept_94 (zgenE (zI.top _) (fun v32 ev32 _ => ?_))
                  have hE := zletE ev32 hE
                  refine lv_if_eq (tgt := 241) hx hb dX12_isKept_95 (by decide) (fun c33 => ?_) (fun c33 => ?_)
                  · have hE := zifT c33 hE
                    have k34 : zI 0 0 (v32) := zI.eqq c33 (zI.lit (a := 0) (b := 0) (c := 0) (by decide))
                    refine lv_iconst (v := 1) hx hb dX12_isKept_241 (by decide) ?_
                    refine lv_goto (tgt := 246) hx hb dX12_isKept_242 (by decide) ?_
                    exact ziretQ hQ hx hb hr rfl hlocks 1 rfl ⟨((zI.lit (a := 1) (b := 1) (c := 1) (by decide)).w (c := 0) (d := 1) (by decide)), (fun h => absurd h (by decide)), (hE.symm.trans hX), trivial⟩ hw hS dX12_isKept_246
                  · have hE := zifF c33 hE
                    refine lv_aload_n hx hb dX12_isKept_98 rfl (lv_at hl 0 rfl) ?_
                    refine mget (v := .long (q 107 0)) hx hb hts hiX12 hown hK hw 7 (by decide) lf147 rfl rfl dX12_isKept_99 (zgenLE (fun v35 ev35 => ?_))
                    have hE := zletE ev35 hE
                    refine lv_ldc2 hx hb hown (hts (.constantLong RX12 232 187442) (ki (zr22 5 rfl))) dX12_isKept_102 ?_
                    refine W.lcmp hx hb dX12_isKept_105 (zgenE (zI.top _) (fun v36 ev36 _ => ?_))
                    have hE := zletE ev36 hE
                    refine lv_if_eq (tgt := 241) hx hb dX12_isKept_106 (by decide) (fun c37 => ?_) (fun c37 => ?_)
                    · have hE := zifT c37 hE
                      have k38 : zI 0 0 (v36) := zI.eqq c37 (zI.lit (a := 0) (b := 0) (c := 0) (by decide))
                      refine lv_iconst (v := 1) hx hb dX12_isKept_241 (by decide) ?_
                      refine lv_goto (tgt := 246) hx hb dX12_isKept_242 (by decide) ?_
                      exact ziretQ hQ hx hb hr rfl hlocks 1 rfl ⟨((zI.lit (a := 1) (b := 1) (c := 1) (by decide)).w (c := 0) (d := 1) (by decide)), (fun h => absurd h (by decide)), (hE.symm.trans hX), trivial⟩ hw hS dX12_isKept_246
                    · have hE := zifF c37 hE
                      refine lv_aload_n hx hb dX12_isKept_109 rfl (lv_at hl 0 rfl) ?_
                      refine mget (v := .long (q 107 0)) hx hb hts hiX12 hown hK hw 7 (by decide) lf147 rfl rfl dX12_isKept_110 (zgenLE (fun v39 ev39 => ?_))
                      have hE := zletE ev39 hE
                      refine lv_ldc2 hx hb hown (hts (.constantLong RX12 234 9665209) (ki (zr22 6 rfl))) dX12_isKept_113 ?_
                      refine W.lcmp hx hb dX12_isKept_116 (zgenE (zI.top _) (fun v40 ev40 _ => ?_))
                      have hE := zletE ev40 hE
                      refine lv_if_eq (tgt := 241) hx hb dX12_isKept_117 (by decide) (fun c41 => ?_) (fun c41 => ?_)
                      · have hE := zifT c41 hE
                        have k42 : zI 0 0 (v40) := zI.eqq c41 (zI.lit (a := 0) (b := 0) (c := 0) (by decide))
                        refine lv_iconst (v := 1) hx hb dX12_isKept_241 (by decide) ?_
                        refine lv_goto (tgt := 246) hx hb dX12_isKept_242 (by decide) ?_
                        exact ziretQ hQ hx hb hr rfl hlocks 1 rfl ⟨((zI.lit (a := 1) (b := 1) (c := 1) (by decide)).w (c := 0) (d := 1) (by decide)), (fun h => absurd h (by decide)), (hE.symm.trans hX), trivial⟩ hw hS dX12_isKept_246
                      · have hE := zifF c41 hE
                        refine lv_aload_n hx hb dX12_isKept_120 rfl (lv_at hl 0 rfl) ?_
                        refine mget (v := .long (q 107 0)) hx hb hts hiX12 hown hK hw 7 (by decide) lf147 rfl rfl dX12_isKept_121 (zgenLE (fun v43 ev43 => ?_))
                        have hE := zletE ev43 hE
                        refine lv_ldc2 hx hb hown (hts (.constantLong RX12 236 204) (ki (zr24 4 rfl))) dX12_isKept_124 ?_
                        refine W.lcmp hx hb dX12_isKept_127 (zgenE (zI.top _) (fun v44 ev44 _ => ?_))
                        have hE := zletE ev44 hE
                        refine lv_if_eq (tgt := 241) hx hb dX12_isKept_128 (by decide) (fun c45 => ?_) (fun c45 => ?_)
                        · have hE := zifT c45 hE
                          have k46 : zI 0 0 (v44) := zI.eqq c45 (zI.lit (a := 0) (b := 0) (c := 0) (by decide))
                          refine lv_iconst (v := 1) hx hb dX12_isKept_241 (by decide) ?_
                          refine lv_goto (tgt := 246) hx hb dX12_isKept_242 (by decide) ?_
                          exact ziretQ hQ hx hb hr rfl hlocks 1 rfl ⟨((zI.lit (a := 1) (b := 1) (c := 1) (by decide)).w (c := 0) (d := 1) (by decide)), (fun h => absurd h (by decide)), (hE.symm.trans hX), trivial⟩ hw hS dX12_isKept_246
                        · have hE := zifF c45 hE
                          refine lv_aload_n hx hb dX12_isKept_131 rfl (lv_at hl 0 rfl) ?_
                          refine mget (v := .long (q 107 0)) hx hb hts hiX12 hown hK hw 7 (by decide) lf147 rfl rfl dX12_isKept_132 (zgenLE (fun v47 ev47 => ?_))
                          have hE := zletE ev47 hE
                          refine lv_ldc2 hx hb hown (hts (.constantLong RX12 238 3497207) (ki (zr24 5 rfl))) dX12_isKept_135 ?_
                          refine W.lcmp hx hb dX12_isKept_138 (zgenE (zI.top _) (fun v48 ev48 _ => ?_))
                          have hE := zletE ev48 hE
                          refine lv_if_eq (tgt := 241) hx hb dX12_isKept_139 (by decide) (fun c49 => ?_) (fun c49 => ?_)
                          · have hE := zifT c49 hE
                            have k50 : zI 0 0 (v48) := zI.eqq c49 (zI.lit (a := 0) (b := 0) (c := 0) (by decide))
                            refine lv_iconst (v := 1) hx hb dX12_isKept_241 (by decide) ?_
                            refine lv_goto (tgt := 246) hx hb dX12_isKept_242 (by decide) ?_
                            exact ziretQ hQ hx hb hr rfl hlocks 1 rfl ⟨((zI.lit (a := 1) (b := 1) (c := 1) (by decide)).w (c := 0) (d := 1) (by decide)), (fun h => absurd h (by decide)), (hE.symm.trans hX), trivial⟩ hw hS dX12_isKept_246
                          · have hE := zifF c49 hE
                            refine lv_aload_n hx hb dX12_isKept_142 rfl (lv_at hl 0 rfl) ?_
                            refine mget (v := .long (q 107 0)) hx hb hts hiX12 hown hK hw 7 (by decide) lf147 rfl rfl dX12_isKept_143 (zgenLE (fun v51 ev51 => ?_))
                            have hE := zletE ev51 hE
                            refine lv_ldc2 hx hb hown (hts (.constantLong RX12 240 10256171) (ki (zr24 6 rfl))) dX12_isKept_146 ?_
                            refine W.lcmp hx hb dX12_isKept_149 (zgenE (zI.top _) (fun v52 ev52 _ => ?_))
                            have hE := zletE ev52 hE
                            refine lv_if_eq (tgt := 241) hx hb dX12_isKept_150 (by decide) (fun c53 => ?_) (fun c53 => ?_)
                            · have hE := zifT c53 hE
                              have k54 : zI 0 0 (v52) := zI.eqq c53 (zI.lit (a := 0) (b := 0) (c := 0) (by decide))
                              refine lv_iconst (v := 1) hx hb dX12_isKept_241 (by decide) ?_
                              refine lv_goto (tgt := 246) hx hb dX12_isKept_242 (by decide) ?_
                              exact ziretQ hQ hx hb hr rfl hlocks 1 rfl ⟨((zI.lit (a := 1) (b := 1) (c := 1) (by decide)).w (c := 0) (d := 1) (by decide)), (fun h => absurd h (by decide)), (hE.symm.trans hX), trivial⟩ hw hS dX12_isKept_246
                            · have hE := zifF c53 hE
                              refine lv_aload_n hx hb dX12_isKept_153 rfl (lv_at hl 0 rfl) ?_
                              refine mget (v := .long (q 107 0)) hx hb hts hiX12 hown hK hw 7 (by decide) lf147 rfl rfl dX12_isKept_154 (zgenLE (fun v55 ev55 => ?_))
                              have hE := zletE ev55 hE
                              refine lv_ldc2 hx hb hown (hts (.constantLong RX12 242 456500) (ki (zr24 7 rfl))) dX12_isKept_157 ?_
                              refine W.lcmp hx hb dX12_isKept_160 (zgenE (zI.top _) (fun v56 ev56 _ => ?_))
                              have hE := zletE ev56 hE
                              refine lv_if_eq (tgt := 241) hx hb dX12_isKept_161 (by decide) (fun c57 => ?_) (fun c57 => ?_)
                              · have hE := zifT c57 hE
                                have k58 : zI 0 0 (v56) := zI.eqq c57 (zI.lit (a := 0) (b := 0) (c := 0) (by decide))
                                refine lv_iconst (v := 1) hx hb dX12_isKept_241 (by decide) ?_
                                refine lv_goto (tgt := 246) hx hb dX12_isKept_242 (by decide) ?_
                                exact ziretQ hQ hx hb hr rfl hlocks 1 rfl ⟨((zI.lit (a := 1) (b := 1) (c := 1) (by decide)).w (c := 0) (d := 1) (by decide)), (fun h => absurd h (by decide)), (hE.symm.trans hX), trivial⟩ hw hS dX12_isKept_246
                              · have hE := zifF c57 hE
                                refine lv_aload_n hx hb dX12_isKept_164 rfl (lv_at hl 0 rfl) ?_
                                refine mget (v := .long (q 107 0)) hx hb hts hiX12 hown hK hw 7 (by decide) lf147 rfl rfl dX12_isKept_165 (zgenLE (fun v59 ev59 => ?_))
                                have hE := zletE ev59 hE
                                refine lv_ldc2 hx hb hown (hts (.constantLong RX12 244 8740238) (ki (zr24 8 rfl))) dX12_isKept_168 ?_
                                refine W.lcmp hx hb dX12_isKept_171 (zgenE (zI.top _) (fun v60 ev60 _ => ?_))
                                have hE := zletE ev60 hE
                                refine lv_if_eq (tgt := 241) hx hb dX12_isKept_172 (by decide) (fun c61 => ?_) (fun c61 => ?_)
                                · have hE := zifT c61 hE
                                  have k62 : zI 0 0 (v60) := zI.eqq c61 (zI.lit (a := 0) (b := 0) (c := 0) (by decide))
                                  refine lv_iconst (v := 1) hx hb dX12_isKept_241 (by decide) ?_
                                  refine lv_goto (tgt := 246) hx hb dX12_isKept_242 (by decide) ?_
                                  exact ziretQ hQ hx hb hr rfl hlocks 1 rfl ⟨((zI.lit (a := 1) (b := 1) (c := 1) (by decide)).w (c := 0) (d := 1) (by decide)), (fun h => absurd h (by decide)), (hE.symm.trans hX), trivial⟩ hw hS dX12_isKept_246
                                · have hE := zifF c61 hE
                                  refine lv_aload_n hx hb dX12_isKept_175 rfl (lv_at hl 0 rfl) ?_
                                  refine mget (v := .long (q 107 0)) hx hb hts hiX12 hown hK hw 7 (by decide) lf147 rfl rfl dX12_isKept_176 (zgenLE (fun v63 ev63 => ?_))
                                  have hE := zletE ev63 hE
                                  refine lv_ldc2 hx hb hown (hts (.constantLong RX12 246 279844694) (ki (zr24 9 rfl))) dX12_isKept_179 ?_
                                  refine W.lcmp hx hb dX12_isKept_182 (zgenE (zI.top _) (fun v64 ev64 _ => ?_))
                                  have hE := zletE ev64 hE
                                  refine lv_if_eq (tgt := 241) hx hb dX12_isKept_183 (by decide) (fun c65 => ?_) (fun c65 => ?_)
                                  · have hE := zifT c65 hE
                                    have k66 : zI 0 0 (v64) := zI.eqq c65 (zI.lit (a := 0) (b := 0) (c := 0) (by decide))
                                    refine lv_iconst (v := 1) hx hb dX12_isKept_241 (by decide) ?_
                                    refine lv_goto (tgt := 246) hx hb dX12_isKept_242 (by decide) ?_
                                    exact ziretQ hQ hx hb hr rfl hlocks 1 rfl ⟨((zI.lit (a := 1) (b := 1) (c := 1) (by decide)).w (c := 0) (d := 1) (by decide)), (fun h => absurd h (by decide)), (hE.symm.trans hX), trivial⟩ hw hS dX12_isKept_246
                                  · have hE := zifF c65 hE
                                    refine lv_aload_n hx hb dX12_isKept_186 rfl (lv_at hl 0 rfl) ?_
                                    refine mget (v := .long (q 107 0)) hx hb hts hiX12 hown hK hw 7 (by decide) lf147 rfl rfl dX12_isKept_187 (zgenLE (fun v67 ev67 => ?_))
                                    have hE := zletE ev67 hE
                                    refine lv_ldc2 hx hb hown (hts (.constantLong RX12 248 33861013) (ki (zr24 10 rfl))) dX12_isKept_190 ?_
                                    refine W.lcmp hx hb dX12_isKept_193 (zgenE (zI.top _) (fun v68 ev68 _ => ?_))
                                    have hE := zletE ev68 hE
                                    refine lv_if_eq (tgt := 241) hx hb dX12_isKept_194 (by decide) (fun c69 => ?_) (fun c69 => ?_)
                                    · have hE := zifT c69 hE
                                      have k70 : zI 0 0 (v68) := zI.eqq c69 (zI.lit (a := 0) (b := 0) (c := 0) (by decide))
                                      refine lv_iconst (v := 1) hx hb dX12_isKept_241 (by decide) ?_
                                      refine lv_goto (tgt := 246) hx hb dX12_isKept_242 (by decide) ?_
                                      exact ziretQ hQ hx hb hr rfl hlocks 1 rfl ⟨((zI.lit (a := 1) (b := 1) (c := 1) (by decide)).w (c := 0) (d := 1) (by decide)), (fun h => absurd h (by decide)), (hE.symm.trans hX), trivial⟩ hw hS dX12_isKept_246
                                    · have hE := zifF c69 hE
                                      refine lv_aload_n hx hb dX12_isKept_197 rfl (lv_at hl 0 rfl) ?_
                                      refine mget (v := .long (q 107 0)) hx hb hts hiX12 hown hK hw 7 (by decide) lf147 rfl rfl dX12_isKept_198 (zgenLE (fun v71 ev71 => ?_))
                                      have hE := zletE ev71 hE
                                      refine lv_ldc2 hx hb hown (hts (.constantLong RX12 250 151063) (ki (zr24 11 rfl))) dX12_isKept_201 ?_
                                      refine W.lcmp hx hb dX12_isKept_204 (zgenE (zI.top _) (fun v72 ev72 _ => ?_))
                                      have hE := zletE ev72 hE
                                      refine lv_if_eq (tgt := 241) hx hb dX12_isKept_205 (by decide) (fun c73 => ?_) (fun c73 => ?_)
                                      · have hE := zifT c73 hE
                                        have k74 : zI 0 0 (v72) := zI.eqq c73 (zI.lit (a := 0) (b := 0) (c := 0) (by decide))
                                        refine lv_iconst (v := 1) hx hb dX12_isKept_241 (by decide) ?_
                                        refine lv_goto (tgt := 246) hx hb dX12_isKept_242 (by decide) ?_
                                        exact ziretQ hQ hx hb hr rfl hlocks 1 rfl ⟨((zI.lit (a := 1) (b := 1) (c := 1) (by decide)).w (c := 0) (d := 1) (by decide)), (fun h => absurd h (by decide)), (hE.symm.trans hX), trivial⟩ hw hS dX12_isKept_246
                                      · have hE := zifF c73 hE
                                        refine lv_aload_n hx hb dX12_isKept_208 rfl (lv_at hl 0 rfl) ?_
                                        refine mget (v := .long (q 107 0)) hx hb hts hiX12 hown hK hw 7 (by decide) lf147 rfl rfl dX12_isKept_209 (zgenLE (fun v75 ev75 => ?_))
                                        have hE := zletE ev75 hE
                                        refine lv_ldc2 hx hb hown (hts (.constantLong RX12 183 10631) (ki (zr24 12 rfl))) dX12_isKept_212 ?_
                                        refine W.lcmp hx hb dX12_isKept_215 (zgenE (zI.top _) (fun v76 ev76 _ => ?_))
                                        have hE := zletE ev76 hE
                                        refine lv_if_eq (tgt := 241) hx hb dX12_isKept_216 (by decide) (fun c77 => ?_) (fun c77 => ?_)
                                        · have hE := zifT c77 hE
                                          have k78 : zI 0 0 (v76) := zI.eqq c77 (zI.lit (a := 0) (b := 0) (c := 0) (by decide))
                                          refine lv_iconst (v := 1) hx hb dX12_isKept_241 (by decide) ?_
                                          refine lv_goto (tgt := 246) hx hb dX12_isKept_242 (by decide) ?_
                                          exact ziretQ hQ hx hb hr rfl hlocks 1 rfl ⟨((zI.lit (a := 1) (b := 1) (c := 1) (by decide)).w (c := 0) (d := 1) (by decide)), (fun h => absurd h (by decide)), (hE.symm.trans hX), trivial⟩ hw hS dX12_isKept_246
                                        · have hE := zifF c77 hE
                                          refine lv_aload_n hx hb dX12_isKept_219 rfl (lv_at hl 0 rfl) ?_
                                          refine mget (v := .long (q 107 0)) hx hb hts hiX12 hown hK hw 7 (by decide) lf147 rfl rfl dX12_isKept_220 (zgenLE (fun v79 ev79 => ?_))
                                          have hE := zletE ev79 hE
                                          refine lv_ldc2 hx hb hown (hts (.constantLong RX12 203 1111) (ki (zr24 13 rfl))) dX12_isKept_223 ?_
                                          refine W.lcmp hx hb dX12_isKept_226 (zgenE (zI.top _) (fun v80 ev80 _ => ?_))
                                          have hE := zletE ev80 hE
                                          refine lv_if_eq (tgt := 241) hx hb dX12_isKept_227 (by decide) (fun c81 => ?_) (fun c81 => ?_)
                                          · have hE := zifT c81 hE
                                            have k82 : zI 0 0 (v80) := zI.eqq c81 (zI.lit (a := 0) (b := 0) (c := 0) (by decide))
                                            refine lv_iconst (v := 1) hx hb dX12_isKept_241 (by decide) ?_
                                            refine lv_goto (tgt := 246) hx hb dX12_isKept_242 (by decide) ?_
                                            exact ziretQ hQ hx hb hr rfl hlocks 1 rfl ⟨((zI.lit (a := 1) (b := 1) (c := 1) (by decide)).w (c := 0) (d := 1) (by decide)), (fun h => absurd h (by decide)), (hE.symm.trans hX), trivial⟩ hw hS dX12_isKept_246
                                          · have hE := zifF c81 hE
                                            refine lv_aload_n hx hb dX12_isKept_230 rfl (lv_at hl 0 rfl) ?_
                                            refine mget (v := .long (q 107 0)) hx hb hts hiX12 hown hK hw 7 (by decide) lf147 rfl rfl dX12_isKept_231 (zgenLE (fun v83 ev83 => ?_))
                                            have hE := zletE ev83 hE
                                            refine lv_ldc2 hx hb hown (hts (.constantLong RX12 205 423) (ki (zr24 14 rfl))) dX12_isKept_234 ?_
                                            refine W.lcmp hx hb dX12_isKept_237 (zgenE (zI.top _) (fun v84 ev84 _ => ?_))
                                            have hE := zletE ev84 hE
                                            refine lv_if_ne (tgt := 245) hx hb dX12_isKept_238 (by decide) (fun c85 => ?_) (fun c85 => ?_)
                                            · have hE := zifnT c85 hE
                                              refine lv_iconst (v := 0) hx hb dX12_isKept_245 (by decide) ?_
                                              exact ziretQ hQ hx hb hr rfl hlocks 0 rfl ⟨((zI.lit (a := 0) (b := 0) (c := 0) (by decide)).w (c := 0) (d := 1) (by decide)), (fun _ => k2), (hE.symm.trans hX), trivial⟩ hw hS dX12_isKept_246
                                            · have hE := zifnF c85 hE
                                              have k86 : zI 0 0 (v84) := zI.eqq c85 (zI.lit (a := 0) (b := 0) (c := 0) (by decide))
                                              refine lv_iconst (v := 1) hx hb dX12_isKept_241 (by decide) ?_
                                              refine lv_goto (tgt := 246) hx hb dX12_isKept_242 (by decide) ?_
                                              exact ziretQ hQ hx hb hr rfl hlocks 1 rfl ⟨((zI.lit (a := 1) (b := 1) (c := 1) (by decide)).w (c := 0) (d := 1) (by decide)), (fun h => absurd h (by decide)), (hE.symm.trans hX), trivial⟩ hw hS dX12_isKept_246
  · have hE := zifF c1 hE
    refine lv_iconst (v := 1) hx hb dX12_isKept_8 (by decide) ?_
    exact ziretQ hQ hx hb hr rfl hlocks 1 rfl ⟨((zI.lit (a := 1) (b := 1) (c := 1) (by decide)).w (c := 0) (d := 1) (by decide)), (fun h => absurd h (by decide)), (hE.symm.trans hX), trivial⟩ hw hS dX12_isKept_9

set_option maxHeartbeats 4000000 in
set_option maxRecDepth 100000 in
theorem mc_townNamed0 (l : Launch) (D : va_G) (ct : Nat → ClassId) (h0 : Nat) (y : Nat → Nat) (B : Int) (r : zRr) (q : zRq) (hJ0 : mJ B r) : zC l yX12_townNamed (.code yX12_townNamed cX12_townNamed 3 (some .int) :: wsL_law0) ({ frames := 1, cells := 0, slots := 0, locals := 80 }) D ct [] [.ref h0, .int 0] (mW ct h0 y r q) (S := Int32) (fun u => some (.int u)) (fun u => zI (-1) 5 u ∧ u = (Gm_townNamed0 r q) ∧ True) (fun u => mW ct h0 y r q) 0 0 := by
  refine zofQ cX12_townNamed 3 (some .int) (by decide) rfl (Nat.le_of_ble_eq_true rfl) ?_
  intro p e s m below meth c A a9 Q ha9 hx hb hr hml hts hown hlocks hname hK hA hZ hN hQ
  have hown : s.vm.findClass RX12 = some m.cls := hown
  have hiX12 : ∀ w ∈ wsX120, w ∈ .code yX12_townNamed cX12_townNamed 3 (some .int) :: wsL_law0 := fun _ h => ki (zs_wsX120 _ h)
  have lf13 := hts (.fieldLink RX12 13 "BeardPassModel" "land" "[I") (ki (zr7 20 rfl))
  have lf16 := hts (.fieldLink RX12 16 "BeardPassModel" "townName" "[J") (ki (zr7 21 rfl))
  have lf147 := hts (.fieldLink RX12 147 "BeardPassModel" "word" "J") (ki (zr22 18 rfl))
  obtain ⟨X, hX⟩ : ∃ X, X = (Gm_townNamed0 r q) := ⟨_, rfl⟩
  have cut5 : ∀ (n5 : Nat) (w5_2 : Int32) (hw5_2 : zI 0 6 w5_2) (hE : X = Gm_townNamed0_5 r q n5 w5_2), 6 - w5_2.toInt < (n5 : Int) → zKf p l e ({ frames := 1, cells := 0, slots := 0, locals := 80 }) s m a9 below meth c Q D A 5 3 [] (mW ct h0 y r q) [(0, .ref h0), (1, .int 0), (2, .int w5_2)] := by
    intro n5
    induction n5 with
    | zero => intro w5_2 hw5_2 hE hm5; exact zI.no hw5_2 (by decide) hm5
    | succ n5 ih5 =>
      intro w5_2 hw5_2 hE hm5
      have hE : X = Bm_townNamed0_5 r q (Gm_townNamed0_5 r q n5) w5_2 := hE
      unfold Bm_townNamed0_5 at hE
      intro H locs ls hw hS hl
      refine lv_iload_n hx hb dX12_townNamed_5 rfl (lv_at hl 2 rfl) ?_
      refine lv_bipush (v := 6) hx hb dX12_townNamed_6 (by decide) ?_
      refine lv_iload_n hx hb dX12_townNamed_8 rfl (lv_at hl 1 rfl) ?_
      refine lv_imul hx hb dX12_townNamed_9 (ztop (.int 0) (congrArg Value.int (by decide)) ?_)
      refine lv_aload_n hx hb dX12_townNamed_10 rfl (lv_at hl 0 rfl) ?_
      refine mget (v := .ref (y 1)) hx hb hts hiX12 hown hK hw 10 (by decide) lf13 rfl rfl dX12_townNamed_11 ?_
      refine lv_iconst (v := 4) hx hb dX12_townNamed_14 (by decide) ?_
      refine lv_iload_n hx hb dX12_townNamed_15 rfl (lv_at hl 1 rfl) ?_
      refine lv_imul hx hb dX12_townNamed_16 (ztop (.int 0) (congrArg Value.int (by decide)) ?_)
      refine lv_iconst (v := 0) hx hb dX12_townNamed_17 (by decide) ?_
      refine lv_iadd hx hb dX12_townNamed_18 (ztop (.int 0) (congrArg Value.int (by decide)) ?_)
      refine ziald hx hb hK hw 2 mWg1 0 (by decide) (by decide) (by decide) dX12_townNamed_19 ?_
      refine lv_iadd hx hb dX12_townNamed_20 ?_
      have k1 : zI 0 6 (0 + (r 1 0)) := zI.add (zI.lit (a := 0) (b := 0) (c := 0) (by decide)) (show zI 0 6 (r 1 0) from hJ0.i 1 0) (by decide)
      refine lv_icmp_ge (tgt := 51) hx hb dX12_townNamed_21 (by decide) (fun c2 => ?_) (fun c2 => ?_)
      · have hE := zifT c2 hE
        refine lv_iconst (v := (-1)) hx hb dX12_townNamed_51 (by decide) ?_
        exact ziretQ hQ hx hb hr rfl hlocks (-1) rfl ⟨((zI.lit (a := (-1)) (b := (-1)) (c := (-1)) (by decide)).w (c := (-1)) (d := 5) (by decide)), (hE.symm.trans hX), trivial⟩ hw hS dX12_townNamed_52
      · have hE := zifF c2 hE
        have k3 : zI 0 5 (w5_2) := zI.ltU (zI.nle c2) hw5_2 k1 (by decide)
        have k4 : zI 1 6 (0 + (r 1 0)) := zI.ltD (zI.nle c2) hw5_2 k1 (by decide)
        refine lv_aload_n hx hb dX12_townNamed_24 rfl (lv_at hl 0 rfl) ?_
        refine mget (v := .ref (y 2)) hx hb hts hiX12 hown hK hw 11 (by decide) lf16 rfl rfl dX12_townNamed_25 ?_
        refine lv_iload_n hx hb dX12_townNamed_28 rfl (lv_at hl 2 rfl) ?_
        refine mlald hx hb hK hw 3 mWg2 k3 (by decide) dX12_townNamed_29 (zgenLE (fun v5 ev5 => ?_))
        have hE := zletE ev5 hE
        refine lv_aload_n hx hb dX12_townNamed_30 rfl (lv_at hl 0 rfl) ?_
        refine mget (v := .long (q 107 0)) hx hb hts hiX12 hown hK hw 7 (by decide) lf147 rfl rfl dX12_townNamed_31 (zgenLE (fun v6 ev6 => ?_))
        have hE := zletE ev6 hE
        refine W.lcmp hx hb dX12_townNamed_34 (zgenE (zI.top _) (fun v7 ev7 _ => ?_))
        have hE := zletE ev7 hE
        refine lv_if_ne (tgt := 45) hx hb dX12_townNamed_35 (by decide) (fun c8 => ?_) (fun c8 => ?_)
        · have hE := zifnT c8 hE
          refine lv_iinc (v := w5_2 + 1) (lv' := [(2, .int (w5_2 + 1)), (0, .ref h0), (1, .int 0)]) hx hb dX12_townNamed_45 hl (k := 2) rfl (rfl) (by decide) rfl (fun ls hl => ?_)
          have k9 : zI 1 6 (w5_2 + 1) := zI.add k3 (zI.lit (a := 1) (b := 1) (by decide)) (by decide)
          refine lv_goto (tgt := 5) hx hb dX12_townNamed_48 (by decide) ?_
          exact ih5 (w5_2 + 1) (k9.w (c := 0) (d := 6) (by decide)) hE (zI.up k3 (by decide) hm5) H locs ls hw hS (lv_sub hl [1, 2, 0] rfl)
        · have hE := zifnF c8 hE
          have k10 : zI 0 0 (v7) := zI.eqq c8 (zI.lit (a := 0) (b := 0) (c := 0) (by decide))
          refine lv_iload_n hx hb dX12_townNamed_38 rfl (lv_at hl 2 rfl) ?_
          refine lv_bipush (v := 6) hx hb dX12_townNamed_39 (by decide) ?_
          refine lv_iload_n hx hb dX12_townNamed_41 rfl (lv_at hl 1 rfl) ?_
          refine lv_imul hx hb dX12_townNamed_42 (ztop (.int 0) (congrArg Value.int (by decide)) ?_)
          refine lv_isub hx hb dX12_townNamed_43 (zgenE (lo := 0) (hi := 5) (zI.sub k3 (zI.lit (a := 0) (b := 0) (c := 0) (by decide)) (by decide)) (fun v11 ev11 hv11 => ?_))
          have hE := zletE ev11 hE
          exact ziretQ hQ hx hb hr rfl hlocks v11 rfl ⟨(hv11.w (c := (-1)) (d := 5) (by decide)), (hE.symm.trans hX), trivial⟩ hw hS dX12_townNamed_44
  intro H locs hw hS ls hl
  have hl : lv_has ls 3 [(0, .ref h0), (1, .int 0)] := hl
  have hE := hX
  unfold Gm_townNamed0 at hE
  refine lv_bipush (v := 6) hx hb dX12_townNamed_0 (by decide) ?_
  refine lv_iload_n hx hb dX12_townNamed_2 rfl (lv_at hl 1 rfl) ?_
  refine lv_imul hx hb dX12_townNamed_3 (ztop (.int 0) (congrArg Value.int (by decide)) ?_)
  refine lv_istore_n (lv' := [(2, .int 0), (0, .ref h0), (1, .int 0)]) hx hb dX12_townNamed_4 rfl hl (by decide) rfl (fun ls hl => ?_)
  exact cut5 7 0 ((zI.lit (a := 0) (b := 0) (c := 0) (by decide)).w (c := 0) (d := 6) (by decide)) hE (zI.m0 (zI.lit (a := 0) (b := 0) (c := 0) (by decide)) (by decide)) H locs ls hw hS (lv_sub hl [1, 2, 0] rfl)

set_option maxHeartbeats 4000000 in
set_option maxRecDepth 100000 in
theorem mc_townNamed1 (l : Launch) (D : va_G) (ct : Nat → ClassId) (h0 : Nat) (y : Nat → Nat) (B : Int) (r : zRr) (q : zRq) (hJ0 : mJ B r) : zC l yX12_townNamed (.code yX12_townNamed cX12_townNamed 3 (some .int) :: wsL_law0) ({ frames := 1, cells := 0, slots := 0, locals := 80 }) D ct [] [.ref h0, .int 1] (mW ct h0 y r q) (S := Int32) (fun u => some (.int u)) (fun u => zI (-1) 5 u ∧ ((0 ≤ u.toInt → 1 ≤ (r 1 4).toInt)) ∧ u = (Gm_townNamed1 r q) ∧ True) (fun u => mW ct h0 y r q) 0 0 := by
  refine zofQ cX12_townNamed 3 (some .int) (by decide) rfl (Nat.le_of_ble_eq_true rfl) ?_
  intro p e s m below meth c A a9 Q ha9 hx hb hr hml hts hown hlocks hname hK hA hZ hN hQ
  have hown : s.vm.findClass RX12 = some m.cls := hown
  have hiX12 : ∀ w ∈ wsX120, w ∈ .code yX12_townNamed cX12_townNamed 3 (some .int) :: wsL_law0 := fun _ h => ki (zs_wsX120 _ h)
  have lf13 := hts (.fieldLink RX12 13 "BeardPassModel" "land" "[I") (ki (zr7 20 rfl))
  have lf16 := hts (.fieldLink RX12 16 "BeardPassModel" "townName" "[J") (ki (zr7 21 rfl))
  have lf147 := hts (.fieldLink RX12 147 "BeardPassModel" "word" "J") (ki (zr22 18 rfl))
  obtain ⟨X, hX⟩ : ∃ X, X = (Gm_townNamed1 r q) := ⟨_, rfl⟩
  have cut5 : ∀ (n5 : Nat) (w5_2 : Int32) (hw5_2 : zI 6 12 w5_2) (hE : X = Gm_townNamed1_5 r q n5 w5_2), 12 - w5_2.toInt < (n5 : Int) → zKf p l e ({ frames := 1, cells := 0, slots := 0, locals := 80 }) s m a9 below meth c Q D A 5 3 [] (mW ct h0 y r q) [(0, .ref h0), (1, .int 1), (2, .int w5_2)] := by
    intro n5
    induction n5 with
    | zero => intro w5_2 hw5_2 hE hm5; exact zI.no hw5_2 (by decide) hm5
    | succ n5 ih5 =>
      intro w5_2 hw5_2 hE hm5
      have hE : X = Bm_townNamed1_5 r q (Gm_townNamed1_5 r q n5) w5_2 := hE
      unfold Bm_townNamed1_5 at hE
      intro H locs ls hw hS hl
      refine lv_iload_n hx hb dX12_townNamed_5 rfl (lv_at hl 2 rfl) ?_
      refine lv_bipush (v := 6) hx hb dX12_townNamed_6 (by decide) ?_
      refine lv_iload_n hx hb dX12_townNamed_8 rfl (lv_at hl 1 rfl) ?_
      refine lv_imul hx hb dX12_townNamed_9 (ztop (.int 6) (congrArg Value.int (by decide)) ?_)
      refine lv_aload_n hx hb dX12_townNamed_10 rfl (lv_at hl 0 rfl) ?_
      refine mget (v := .ref (y 1)) hx hb hts hiX12 hown hK hw 10 (by decide) lf13 rfl rfl dX12_townNamed_11 ?_
      refine lv_iconst (v := 4) hx hb dX12_townNamed_14 (by decide) ?_
      refine lv_iload_n hx hb dX12_townNamed_15 rfl (lv_at hl 1 rfl) ?_
      refine lv_imul hx hb dX12_townNamed_16 (ztop (.int 4) (congrArg Value.int (by decide)) ?_)
      refine lv_iconst (v := 0) hx hb dX12_townNamed_17 (by decide) ?_
      refine lv_iadd hx hb dX12_townNamed_18 (ztop (.int 4) (congrArg Value.int (by decide)) ?_)
      refine ziald hx hb hK hw 2 mWg1 4 (by decide) (by decide) (by decide) dX12_townNamed_19 ?_
      refine lv_iadd hx hb dX12_townNamed_20 ?_
      have k1 : zI 6 12 (6 + (r 1 4)) := zI.add (zI.lit (a := 6) (b := 6) (c := 6) (by decide)) (show zI 0 6 (r 1 4) from hJ0.i 1 4) (by decide)
      refine lv_icmp_ge (tgt := 51) hx hb dX12_townNamed_21 (by decide) (fun c2 => ?_) (fun c2 => ?_)
      · have hE := zifT c2 hE
        refine lv_iconst (v := (-1)) hx hb dX12_townNamed_51 (by decide) ?_
        exact ziretQ hQ hx hb hr rfl hlocks (-1) rfl ⟨((zI.lit (a := (-1)) (b := (-1)) (c := (-1)) (by decide)).w (c := (-1)) (d := 5) (by decide)), (show (0 ≤ ((-1) : Int32).toInt → 1 ≤ (r 1 4).toInt) from (fun h => absurd h (by decide))), (hE.symm.trans hX), trivial⟩ hw hS dX12_townNamed_52
      · have hE := zifF c2 hE
        have k3 : zI 6 11 (w5_2) := zI.ltU (zI.nle c2) hw5_2 k1 (by decide)
        have k4 : zI 7 12 (6 + (r 1 4)) := zI.ltD (zI.nle c2) hw5_2 k1 (by decide)
        refine lv_aload_n hx hb dX12_townNamed_24 rfl (lv_at hl 0 rfl) ?_
        refine mget (v := .ref (y 2)) hx hb hts hiX12 hown hK hw 11 (by decide) lf16 rfl rfl dX12_townNamed_25 ?_
        refine lv_iload_n hx hb dX12_townNamed_28 rfl (lv_at hl 2 rfl) ?_
        refine mlald hx hb hK hw 3 mWg2 k3 (by decide) dX12_townNamed_29 (zgenLE (fun v5 ev5 => ?_))
        have hE := zletE ev5 hE
        refine lv_aload_n hx hb dX12_townNamed_30 rfl (lv_at hl 0 rfl) ?_
        refine mget (v := .long (q 107 0)) hx hb hts hiX12 hown hK hw 7 (by decide) lf147 rfl rfl dX12_townNamed_31 (zgenLE (fun v6 ev6 => ?_))
        have hE := zletE ev6 hE
        refine W.lcmp hx hb dX12_townNamed_34 (zgenE (zI.top _) (fun v7 ev7 _ => ?_))
        have hE := zletE ev7 hE
        refine lv_if_ne (tgt := 45) hx hb dX12_townNamed_35 (by decide) (fun c8 => ?_) (fun c8 => ?_)
        · have hE := zifnT c8 hE
          refine lv_iinc (v := w5_2 + 1) (lv' := [(2, .int (w5_2 + 1)), (0, .ref h0), (1, .int 1)]) hx hb dX12_townNamed_45 hl (k := 2) rfl (rfl) (by decide) rfl (fun ls hl => ?_)
          have k9 : zI 7 12 (w5_2 + 1) := zI.add k3 (zI.lit (a := 1) (b := 1) (by decide)) (by decide)
          refine lv_goto (tgt := 5) hx hb dX12_townNamed_48 (by decide) ?_
          exact ih5 (w5_2 + 1) (k9.w (c := 6) (d := 12) (by decide)) hE (zI.up k3 (by decide) hm5) H locs ls hw hS (lv_sub hl [1, 2, 0] rfl)
        · have hE := zifnF c8 hE
          have k10 : zI 0 0 (v7) := zI.eqq c8 (zI.lit (a := 0) (b := 0) (c := 0) (by decide))
          refine lv_iload_n hx hb dX12_townNamed_38 rfl (lv_at hl 2 rfl) ?_
          refine lv_bipush (v := 6) hx hb dX12_townNamed_39 (by decide) ?_
          refine lv_iload_n hx hb dX12_townNamed_41 rfl (lv_at hl 1 rfl) ?_
          refine lv_imul hx hb dX12_townNamed_42 (ztop (.int 6) (congrArg Value.int (by decide)) ?_)
          refine lv_isub hx hb dX12_townNamed_43 (zgenE (lo := 0) (hi := 5) (zI.sub k3 (zI.lit (a := 6) (b := 6) (c := 6) (by decide)) (by decide)) (fun v11 ev11 hv11 => ?_))
          have hE := zletE ev11 hE
          exact ziretQ hQ hx hb hr rfl hlocks v11 rfl ⟨(hv11.w (c := (-1)) (d := 5) (by decide)), (show (0 ≤ v11.toInt → 1 ≤ (r 1 4).toInt) from (fun _ => by have h8 := ltI (zI.nle c2); have e9 := i32_a (zI.lit (a := 6) (b := 6) (c := 6) (by decide)) (show zI 0 6 (r 1 4) from hJ0.i 1 4) (by decide); have c6 : (6 : Int32).toInt = 6 := (by decide); have := (k3).1; omega)), (hE.symm.trans hX), trivial⟩ hw hS dX12_townNamed_44
  intro H locs hw hS ls hl
  have hl : lv_has ls 3 [(0, .ref h0), (1, .int 1)] := hl
  have hE := hX
  unfold Gm_townNamed1 at hE
  refine lv_bipush (v := 6) hx hb dX12_townNamed_0 (by decide) ?_
  refine lv_iload_n hx hb dX12_townNamed_2 rfl (lv_at hl 1 rfl) ?_
  refine lv_imul hx hb dX12_townNamed_3 (ztop (.int 6) (congrArg Value.int (by decide)) ?_)
  refine lv_istore_n (lv' := [(2, .int 6), (0, .ref h0), (1, .int 1)]) hx hb dX12_townNamed_4 rfl hl (by decide) rfl (fun ls hl => ?_)
  exact cut5 7 6 ((zI.lit (a := 6) (b := 6) (c := 6) (by decide)).w (c := 6) (d := 12) (by decide)) hE (zI.m0 (zI.lit (a := 6) (b := 6) (c := 6) (by decide)) (by decide)) H locs ls hw hS (lv_sub hl [1, 2, 0] rfl)

set_option maxHeartbeats 4000000 in
set_option maxRecDepth 100000 in
theorem mc_personNamed0 (l : Launch) (D : va_G) (ct : Nat → ClassId) (h0 : Nat) (y : Nat → Nat) (B : Int) (r : zRr) (q : zRq) (hJ0 : mJ B r) : zC l yX12_personNamed (.code yX12_personNamed cX12_personNamed 3 (some .int) :: wsL_law0) ({ frames := 1, cells := 0, slots := 0, locals := 80 }) D ct [] [.ref h0, .int 0] (mW ct h0 y r q) (S := Int32) (fun u => some (.int u)) (fun u => zI (-1) 5 u ∧ u = (Gm_personNamed0 r q) ∧ True) (fun u => mW ct h0 y r q) 0 0 := by
  refine zofQ cX12_personNamed 3 (some .int) (by decide) rfl (Nat.le_of_ble_eq_true rfl) ?_
  intro p e s m below meth c A a9 Q ha9 hx hb hr hml hts hown hlocks hname hK hA hZ hN hQ
  have hown : s.vm.findClass RX12 = some m.cls := hown
  have hiX12 : ∀ w ∈ wsX120, w ∈ .code yX12_personNamed cX12_personNamed 3 (some .int) :: wsL_law0 := fun _ h => ki (zs_wsX120 _ h)
  have lf13 := hts (.fieldLink RX12 13 "BeardPassModel" "land" "[I") (ki (zr7 20 rfl))
  have lf20 := hts (.fieldLink RX12 20 "BeardPassModel" "personName" "[J") (ki (zr7 22 rfl))
  have lf147 := hts (.fieldLink RX12 147 "BeardPassModel" "word" "J") (ki (zr22 18 rfl))
  obtain ⟨X, hX⟩ : ∃ X, X = (Gm_personNamed0 r q) := ⟨_, rfl⟩
  have cut5 : ∀ (n5 : Nat) (w5_2 : Int32) (hw5_2 : zI 0 6 w5_2) (hE : X = Gm_personNamed0_5 r q n5 w5_2), 6 - w5_2.toInt < (n5 : Int) → zKf p l e ({ frames := 1, cells := 0, slots := 0, locals := 80 }) s m a9 below meth c Q D A 5 3 [] (mW ct h0 y r q) [(0, .ref h0), (1, .int 0), (2, .int w5_2)] := by
    intro n5
    induction n5 with
    | zero => intro w5_2 hw5_2 hE hm5; exact zI.no hw5_2 (by decide) hm5
    | succ n5 ih5 =>
      intro w5_2 hw5_2 hE hm5
      have hE : X = Bm_personNamed0_5 r q (Gm_personNamed0_5 r q n5) w5_2 := hE
      unfold Bm_personNamed0_5 at hE
      intro H locs ls hw hS hl
      refine lv_iload_n hx hb dX12_personNamed_5 rfl (lv_at hl 2 rfl) ?_
      refine lv_bipush (v := 6) hx hb dX12_personNamed_6 (by decide) ?_
      refine lv_iload_n hx hb dX12_personNamed_8 rfl (lv_at hl 1 rfl) ?_
      refine lv_imul hx hb dX12_personNamed_9 (ztop (.int 0) (congrArg Value.int (by decide)) ?_)
      refine lv_aload_n hx hb dX12_personNamed_10 rfl (lv_at hl 0 rfl) ?_
      refine mget (v := .ref (y 1)) hx hb hts hiX12 hown hK hw 10 (by decide) lf13 rfl rfl dX12_personNamed_11 ?_
      refine lv_iconst (v := 4) hx hb dX12_personNamed_14 (by decide) ?_
      refine lv_iload_n hx hb dX12_personNamed_15 rfl (lv_at hl 1 rfl) ?_
      refine lv_imul hx hb dX12_personNamed_16 (ztop (.int 0) (congrArg Value.int (by decide)) ?_)
      refine lv_iconst (v := 1) hx hb dX12_personNamed_17 (by decide) ?_
      refine lv_iadd hx hb dX12_personNamed_18 (ztop (.int 1) (congrArg Value.int (by decide)) ?_)
      refine ziald hx hb hK hw 2 mWg1 1 (by decide) (by decide) (by decide) dX12_personNamed_19 ?_
      refine lv_iadd hx hb dX12_personNamed_20 ?_
      have k1 : zI 0 6 (0 + (r 1 1)) := zI.add (zI.lit (a := 0) (b := 0) (c := 0) (by decide)) (show zI 0 6 (r 1 1) from hJ0.i 1 1) (by decide)
      refine lv_icmp_ge (tgt := 51) hx hb dX12_personNamed_21 (by decide) (fun c2 => ?_) (fun c2 => ?_)
      · have hE := zifT c2 hE
        refine lv_iconst (v := (-1)) hx hb dX12_personNamed_51 (by decide) ?_
        exact ziretQ hQ hx hb hr rfl hlocks (-1) rfl ⟨((zI.lit (a := (-1)) (b := (-1)) (c := (-1)) (by decide)).w (c := (-1)) (d := 5) (by decide)), (hE.symm.trans hX), trivial⟩ hw hS dX12_personNamed_52
      · have hE := zifF c2 hE
        have k3 : zI 0 5 (w5_2) := zI.ltU (zI.nle c2) hw5_2 k1 (by decide)
        have k4 : zI 1 6 (0 + (r 1 1)) := zI.ltD (zI.nle c2) hw5_2 k1 (by decide)
        refine lv_aload_n hx hb dX12_personNamed_24 rfl (lv_at hl 0 rfl) ?_
        refine mget (v := .ref (y 3)) hx hb hts hiX12 hown hK hw 12 (by decide) lf20 rfl rfl dX12_personNamed_25 ?_
        refine lv_iload_n hx hb dX12_personNamed_28 rfl (lv_at hl 2 rfl) ?_
        refine mlald hx hb hK hw 4 mWg3 k3 (by decide) dX12_personNamed_29 (zgenLE (fun v5 ev5 => ?_))
        have hE := zletE ev5 hE
        refine lv_aload_n hx hb dX12_personNamed_30 rfl (lv_at hl 0 rfl) ?_
        refine mget (v := .long (q 107 0)) hx hb hts hiX12 hown hK hw 7 (by decide) lf147 rfl rfl dX12_personNamed_31 (zgenLE (fun v6 ev6 => ?_))
        have hE := zletE ev6 hE
        refine W.lcmp hx hb dX12_personNamed_34 (zgenE (zI.top _) (fun v7 ev7 _ => ?_))
        have hE := zletE ev7 hE
        refine lv_if_ne (tgt := 45) hx hb dX12_personNamed_35 (by decide) (fun c8 => ?_) (fun c8 => ?_)
        · have hE := zifnT c8 hE
          refine lv_iinc (v := w5_2 + 1) (lv' := [(2, .int (w5_2 + 1)), (0, .ref h0), (1, .int 0)]) hx hb dX12_personNamed_45 hl (k := 2) rfl (rfl) (by decide) rfl (fun ls hl => ?_)
          have k9 : zI 1 6 (w5_2 + 1) := zI.add k3 (zI.lit (a := 1) (b := 1) (by decide)) (by decide)
          refine lv_goto (tgt := 5) hx hb dX12_personNamed_48 (by decide) ?_
          exact ih5 (w5_2 + 1) (k9.w (c := 0) (d := 6) (by decide)) hE (zI.up k3 (by decide) hm5) H locs ls hw hS (lv_sub hl [1, 2, 0] rfl)
        · have hE := zifnF c8 hE
          have k10 : zI 0 0 (v7) := zI.eqq c8 (zI.lit (a := 0) (b := 0) (c := 0) (by decide))
          refine lv_iload_n hx hb dX12_personNamed_38 rfl (lv_at hl 2 rfl) ?_
          refine lv_bipush (v := 6) hx hb dX12_personNamed_39 (by decide) ?_
          refine lv_iload_n hx hb dX12_personNamed_41 rfl (lv_at hl 1 rfl) ?_
          refine lv_imul hx hb dX12_personNamed_42 (ztop (.int 0) (congrArg Value.int (by decide)) ?_)
          refine lv_isub hx hb dX12_personNamed_43 (zgenE (lo := 0) (hi := 5) (zI.sub k3 (zI.lit (a := 0) (b := 0) (c := 0) (by decide)) (by decide)) (fun v11 ev11 hv11 => ?_))
          have hE := zletE ev11 hE
          exact ziretQ hQ hx hb hr rfl hlocks v11 rfl ⟨(hv11.w (c := (-1)) (d := 5) (by decide)), (hE.symm.trans hX), trivial⟩ hw hS dX12_personNamed_44
  intro H locs hw hS ls hl
  have hl : lv_has ls 3 [(0, .ref h0), (1, .int 0)] := hl
  have hE := hX
  unfold Gm_personNamed0 at hE
  refine lv_bipush (v := 6) hx hb dX12_personNamed_0 (by decide) ?_
  refine lv_iload_n hx hb dX12_personNamed_2 rfl (lv_at hl 1 rfl) ?_
  refine lv_imul hx hb dX12_personNamed_3 (ztop (.int 0) (congrArg Value.int (by decide)) ?_)
  refine lv_istore_n (lv' := [(2, .int 0), (0, .ref h0), (1, .int 0)]) hx hb dX12_personNamed_4 rfl hl (by decide) rfl (fun ls hl => ?_)
  exact cut5 7 0 ((zI.lit (a := 0) (b := 0) (c := 0) (by decide)).w (c := 0) (d := 6) (by decide)) hE (zI.m0 (zI.lit (a := 0) (b := 0) (c := 0) (by decide)) (by decide)) H locs ls hw hS (lv_sub hl [1, 2, 0] rfl)

set_option maxHeartbeats 4000000 in
set_option maxRecDepth 100000 in
theorem mc_personNamed1 (l : Launch) (D : va_G) (ct : Nat → ClassId) (h0 : Nat) (y : Nat → Nat) (B : Int) (r : zRr) (q : zRq) (hJ0 : mJ B r) : zC l yX12_personNamed (.code yX12_personNamed cX12_personNamed 3 (some .int) :: wsL_law0) ({ frames := 1, cells := 0, slots := 0, locals := 80 }) D ct [] [.ref h0, .int 1] (mW ct h0 y r q) (S := Int32) (fun u => some (.int u)) (fun u => zI (-1) 5 u ∧ u = (Gm_personNamed1 r q) ∧ True) (fun u => mW ct h0 y r q) 0 0 := by
  refine zofQ cX12_personNamed 3 (some .int) (by decide) rfl (Nat.le_of_ble_eq_true rfl) ?_
  intro p e s m below meth c A a9 Q ha9 hx hb hr hml hts hown hlocks hname hK hA hZ hN hQ
  have hown : s.vm.findClass RX12 = some m.cls := hown
  have hiX12 : ∀ w ∈ wsX120, w ∈ .code yX12_personNamed cX12_personNamed 3 (some .int) :: wsL_law0 := fun _ h => ki (zs_wsX120 _ h)
  have lf13 := hts (.fieldLink RX12 13 "BeardPassModel" "land" "[I") (ki (zr7 20 rfl))
  have lf20 := hts (.fieldLink RX12 20 "BeardPassModel" "personName" "[J") (ki (zr7 22 rfl))
  have lf147 := hts (.fieldLink RX12 147 "BeardPassModel" "word" "J") (ki (zr22 18 rfl))
  obtain ⟨X, hX⟩ : ∃ X, X = (Gm_personNamed1 r q) := ⟨_, rfl⟩
  have cut5 : ∀ (n5 : Nat) (w5_2 : Int32) (hw5_2 : zI 6 12 w5_2) (hE : X = Gm_personNamed1_5 r q n5 w5_2), 12 - w5_2.toInt < (n5 : Int) → zKf p l e ({ frames := 1, cells := 0, slots := 0, locals := 80 }) s m a9 below meth c Q D A 5 3 [] (mW ct h0 y r q) [(0, .ref h0), (1, .int 1), (2, .int w5_2)] := by
    intro n5
    induction n5 with
    | zero => intro w5_2 hw5_2 hE hm5; exact zI.no hw5_2 (by decide) hm5
    | succ n5 ih5 =>
      intro w5_2 hw5_2 hE hm5
      have hE : X = Bm_personNamed1_5 r q (Gm_personNamed1_5 r q n5) w5_2 := hE
      unfold Bm_personNamed1_5 at hE
      intro H locs ls hw hS hl
      refine lv_iload_n hx hb dX12_personNamed_5 rfl (lv_at hl 2 rfl) ?_
      refine lv_bipush (v := 6) hx hb dX12_personNamed_6 (by decide) ?_
      refine lv_iload_n hx hb dX12_personNamed_8 rfl (lv_at hl 1 rfl) ?_
      refine lv_imul hx hb dX12_personNamed_9 (ztop (.int 6) (congrArg Value.int (by decide)) ?_)
      refine lv_aload_n hx hb dX12_personNamed_10 rfl (lv_at hl 0 rfl) ?_
      refine mget (v := .ref (y 1)) hx hb hts hiX12 hown hK hw 10 (by decide) lf13 rfl rfl dX12_personNamed_11 ?_
      refine lv_iconst (v := 4) hx hb dX12_personNamed_14 (by decide) ?_
      refine lv_iload_n hx hb dX12_personNamed_15 rfl (lv_at hl 1 rfl) ?_
      refine lv_imul hx hb dX12_personNamed_16 (ztop (.int 4) (congrArg Value.int (by decide)) ?_)
      refine lv_iconst (v := 1) hx hb dX12_personNamed_17 (by decide) ?_
      refine lv_iadd hx hb dX12_personNamed_18 (ztop (.int 5) (congrArg Value.int (by decide)) ?_)
      refine ziald hx hb hK hw 2 mWg1 5 (by decide) (by decide) (by decide) dX12_personNamed_19 ?_
      refine lv_iadd hx hb dX12_personNamed_20 ?_
      have k1 : zI 6 12 (6 + (r 1 5)) := zI.add (zI.lit (a := 6) (b := 6) (c := 6) (by decide)) (show zI 0 6 (r 1 5) from hJ0.i 1 5) (by decide)
      refine lv_icmp_ge (tgt := 51) hx hb dX12_personNamed_21 (by decide) (fun c2 => ?_) (fun c2 => ?_)
      · have hE := zifT c2 hE
        refine lv_iconst (v := (-1)) hx hb dX12_personNamed_51 (by decide) ?_
        exact ziretQ hQ hx hb hr rfl hlocks (-1) rfl ⟨((zI.lit (a := (-1)) (b := (-1)) (c := (-1)) (by decide)).w (c := (-1)) (d := 5) (by decide)), (hE.symm.trans hX), trivial⟩ hw hS dX12_personNamed_52
      · have hE := zifF c2 hE
        have k3 : zI 6 11 (w5_2) := zI.ltU (zI.nle c2) hw5_2 k1 (by decide)
        have k4 : zI 7 12 (6 + (r 1 5)) := zI.ltD (zI.nle c2) hw5_2 k1 (by decide)
        refine lv_aload_n hx hb dX12_personNamed_24 rfl (lv_at hl 0 rfl) ?_
        refine mget (v := .ref (y 3)) hx hb hts hiX12 hown hK hw 12 (by decide) lf20 rfl rfl dX12_personNamed_25 ?_
        refine lv_iload_n hx hb dX12_personNamed_28 rfl (lv_at hl 2 rfl) ?_
        refine mlald hx hb hK hw 4 mWg3 k3 (by decide) dX12_personNamed_29 (zgenLE (fun v5 ev5 => ?_))
        have hE := zletE ev5 hE
        refine lv_aload_n hx hb dX12_personNamed_30 rfl (lv_at hl 0 rfl) ?_
        refine mget (v := .long (q 107 0)) hx hb hts hiX12 hown hK hw 7 (by decide) lf147 rfl rfl dX12_personNamed_31 (zgenLE (fun v6 ev6 => ?_))
        have hE := zletE ev6 hE
        refine W.lcmp hx hb dX12_personNamed_34 (zgenE (zI.top _) (fun v7 ev7 _ => ?_))
        have hE := zletE ev7 hE
        refine lv_if_ne (tgt := 45) hx hb dX12_personNamed_35 (by decide) (fun c8 => ?_) (fun c8 => ?_)
        · have hE := zifnT c8 hE
          refine lv_iinc (v := w5_2 + 1) (lv' := [(2, .int (w5_2 + 1)), (0, .ref h0), (1, .int 1)]) hx hb dX12_personNamed_45 hl (k := 2) rfl (rfl) (by decide) rfl (fun ls hl => ?_)
          have k9 : zI 7 12 (w5_2 + 1) := zI.add k3 (zI.lit (a := 1) (b := 1) (by decide)) (by decide)
          refine lv_goto (tgt := 5) hx hb dX12_personNamed_48 (by decide) ?_
          exact ih5 (w5_2 + 1) (k9.w (c := 6) (d := 12) (by decide)) hE (zI.up k3 (by decide) hm5) H locs ls hw hS (lv_sub hl [1, 2, 0] rfl)
        · have hE := zifnF c8 hE
          have k10 : zI 0 0 (v7) := zI.eqq c8 (zI.lit (a := 0) (b := 0) (c := 0) (by decide))
          refine lv_iload_n hx hb dX12_personNamed_38 rfl (lv_at hl 2 rfl) ?_
          refine lv_bipush (v := 6) hx hb dX12_personNamed_39 (by decide) ?_
          refine lv_iload_n hx hb dX12_personNamed_41 rfl (lv_at hl 1 rfl) ?_
          refine lv_imul hx hb dX12_personNamed_42 (ztop (.int 6) (congrArg Value.int (by decide)) ?_)
          refine lv_isub hx hb dX12_personNamed_43 (zgenE (lo := 0) (hi := 5) (zI.sub k3 (zI.lit (a := 6) (b := 6) (c := 6) (by decide)) (by decide)) (fun v11 ev11 hv11 => ?_))
          have hE := zletE ev11 hE
          exact ziretQ hQ hx hb hr rfl hlocks v11 rfl ⟨(hv11.w (c := (-1)) (d := 5) (by decide)), (hE.symm.trans hX), trivial⟩ hw hS dX12_personNamed_44
  intro H locs hw hS ls hl
  have hl : lv_has ls 3 [(0, .ref h0), (1, .int 1)] := hl
  have hE := hX
  unfold Gm_personNamed1 at hE
  refine lv_bipush (v := 6) hx hb dX12_personNamed_0 (by decide) ?_
  refine lv_iload_n hx hb dX12_personNamed_2 rfl (lv_at hl 1 rfl) ?_
  refine lv_imul hx hb dX12_personNamed_3 (ztop (.int 6) (congrArg Value.int (by decide)) ?_)
  refine lv_istore_n (lv' := [(2, .int 6), (0, .ref h0), (1, .int 1)]) hx hb dX12_personNamed_4 rfl hl (by decide) rfl (fun ls hl => ?_)
  exact cut5 7 6 ((zI.lit (a := 6) (b := 6) (c := 6) (by decide)).w (c := 6) (d := 12) (by decide)) hE (zI.m0 (zI.lit (a := 6) (b := 6) (c := 6) (by decide)) (by decide)) H locs ls hw hS (lv_sub hl [1, 2, 0] rfl)

set_option maxHeartbeats 4000000 in
set_option maxRecDepth 100000 in
theorem mc_needsNumber (l : Launch) (D : va_G) (ct : Nat → ClassId) (h0 : Nat) (y : Nat → Nat) (B : Int) (a1 : Int32) (a2 : Int32) (r : zRr) (q : zRq) (hJ0 : mJ B r) (x1 : mP r) : zC l yX12_needsNumber (.code yX12_needsNumber cX12_needsNumber 3 (some .boolean) :: wsL_law0) ({ frames := 3, cells := 0, slots := 0, locals := 160 }) D ct [] [.ref h0, .int a1, .int a2] (mW ct h0 y r q) (S := Int32 × zRr × zRq) (fun u => some (.int u.1)) (fun u => zI 0 1 u.1 ∧ mJ B u.2.1 ∧ zFr [104, 105, 106, 108, 109, 136] r u.2.1 ∧ (mP u.2.1) ∧ ((r 105 0).toInt ≤ (u.2.1 105 0).toInt) ∧ (¬ u.1 = 0 → zI 0 9999 (u.2.1 136 0)) ∧ u = (Gm_needsNumber a1 a2 r q) ∧ True) (fun u => mW ct h0 y u.2.1 u.2.2) 0 0 := by
  refine zofQ cX12_needsNumber 3 (some .boolean) (by decide) rfl (Nat.le_of_ble_eq_true rfl) ?_
  intro p e s m below meth c A a9 Q ha9 hx hb hr hml hts hown hlocks hname hK hA hZ hN hQ
  have hown : s.vm.findClass RX12 = some m.cls := hown
  have hiX12 : ∀ w ∈ wsX120, w ∈ .code yX12_needsNumber cX12_needsNumber 3 (some .boolean) :: wsL_law0 := fun _ h => ki (zs_wsX120 _ h)
  have lf151 := hts (.fieldLink RX12 151 "BeardPassModel" "told" "I") (ki (zr22 19 rfl))
  have lf154 := hts (.fieldLink RX12 154 "BeardPassModel" "token" "I") (ki (zr22 0 rfl))
  have lf256 := hts (.fieldLink RX12 256 "BeardPassModel" "given" "I") (ki (zr23 11 rfl))
  obtain ⟨X, hX⟩ : ∃ X, X = (Gm_needsNumber a1 a2 r q) := ⟨_, rfl⟩
  intro H locs hw hS ls hl
  have hl : lv_has ls 3 [(0, .ref h0), (1, .int a1), (2, .int a2)] := hl
  have hE := hX
  unfold Gm_needsNumber at hE
  refine lv_aload_n hx hb dX12_needsNumber_0 rfl (lv_at hl 0 rfl) ?_
  refine mget (v := .int (r 106 0)) hx hb hts hiX12 hown hK hw 6 (by decide) lf154 rfl rfl dX12_needsNumber_1 (zgenE (lo := 0) (hi := 4) ((show zI 0 4 (r 106 0) from hJ0.i 106 0)) (fun v1 ev1 hv1 => ?_))
  have hE := zletE ev1 hE
  refine lv_iconst (v := 2) hx hb dX12_needsNumber_4 (by decide) ?_
  refine lv_icmp_eq (tgt := 14) hx hb dX12_needsNumber_5 (by decide) (fun c2 => ?_) (fun c2 => ?_)
  · have hE := zifT c2 hE
    have k3 : zI 2 2 (v1) := zI.eqq c2 (zI.lit (a := 2) (b := 2) (c := 2) (by decide))
    refine lv_aload_n hx hb dX12_needsNumber_14 rfl (lv_at hl 0 rfl) ?_
    refine mget (v := .int (r 108 0)) hx hb hts hiX12 hown hK hw 8 (by decide) lf151 rfl rfl dX12_needsNumber_15 ?_
    refine lv_iload_n hx hb dX12_needsNumber_18 rfl (lv_at hl 1 rfl) ?_
    refine lv_iload_n hx hb dX12_needsNumber_19 rfl (lv_at hl 2 rfl) ?_
    refine scallE (As := [.int (r 108 0), .int a1, .int a2]) (rest := []) ⟨hx, hb, hml, hown, hts⟩ (mc_within l D ct (r 108 0) a1 a2) (va_cwS 3 hts (kgS (zr25 11 rfl) (zr25 12 rfl) (zr1 5 rfl) (zr25 13 rfl)) rfl rfl rfl (by decide +kernel) ⟨Nat.le_of_ble_eq_true rfl, Nat.le_of_ble_eq_true rfl⟩) hw hS hA hK hN mWn rfl hl.1 rfl (Nat.le_of_ble_eq_true rfl) dX12_needsNumber_20 23 rfl (fun u4 H locs pu4 hw hS => ?_)
    have hu4 : zI 0 1 u4 := pu4.1
    have yu4_0 : ¬ u4 = 0 → a1 ≤ (r 108 0) ∧ (r 108 0) ≤ a2 := pu4.2.1
    have xu4 : u4 = (Gm_within (r 108 0) a1 a2) := pu4.2.2.1
    have hE := zletE xu4 hE
    refine zfr 23 [.int u4] rfl rfl ?_
    refine lv_if_ne (tgt := 32) hx hb dX12_needsNumber_23 (by decide) (fun c6 => ?_) (fun c6 => ?_)
    · have hE := zifnT c6 hE
      have k7 : zI 1 1 (u4) := zI.neD c6 hu4 (zI.lit (a := 0) (b := 0) (c := 0) (by decide)) (by decide)
      have k8 : zI (-2147483648) 9999 (a1) := zI.leU (yu4_0 c6).1 (zI.top _) (show zI 0 9999 (r 108 0) from hJ0.i 108 0) (by decide)
      have k9 : zI 0 2147483647 (a2) := zI.leD (yu4_0 c6).2 (show zI 0 9999 (r 108 0) from hJ0.i 108 0) (zI.top _) (by decide)
      refine lv_aload_n hx hb dX12_needsNumber_32 rfl (lv_at hl 0 rfl) ?_
      refine lv_aload_n hx hb dX12_needsNumber_33 rfl (lv_at hl 0 rfl) ?_
      refine mget (v := .int (r 108 0)) hx hb hts hiX12 hown hK hw 8 (by decide) lf151 rfl rfl dX12_needsNumber_34 ?_
      refine mput (ty := .int) (v := .int (r 108 0)) hx hb hts hiX12 hown hK hw hS 36 (by decide) lf256 rfl rfl (by decide +kernel) rfl rfl dX12_needsNumber_37 (zset r 136 (fun _ => r 108 0)) _ mWf36 (fun H locs hw hS => ?_)
      refine mgen (P := fun x => mJ B x ∧ zFr [104, 105, 106, 108, 109, 136] r x) hw ⟨hJ0.setc rfl (fun _ => ((show zI 0 9999 (r 108 0) from hJ0.i 108 0).w (c := (-1)) (d := 9999) (by decide))), (zFr.refl).set rfl⟩ (fun r10 er10 hw pr10 => ?_)
      have hE := zletE er10 hE
      refine lv_aload_n hx hb dX12_needsNumber_40 rfl (lv_at hl 0 rfl) ?_
      refine mcallV (As := []) (rest := []) ⟨hx, hb, hml, hown, hts⟩ (mc_nextToken l D ct h0 y B r10 q pr10.1 (((mP.fr x1 (zs_row (k := 103) er10 (by decide)) (zs_row (k := 104) er10 (by decide)) (zs_row (k := 105) er10 (by decide)) (zs_row (k := 106) er10 (by decide)))).2.1)) (wqX12_200_mc_nextToken hts ⟨Nat.le_of_ble_eq_true rfl, Nat.le_of_ble_eq_true rfl⟩) hw hS hA hK hN rfl hl.1 rfl (Nat.le_of_ble_eq_true rfl) dX12_needsNumber_41 44 rfl (fun u11 H locs pu11 hw hS => ?_)
      obtain ⟨r12, q13⟩ := u11
      have ju11 : mJ B r12 := pu11.1
      have fu11 : zFr [104, 105, 106, 108] r10 r12 := pu11.2.1
      have yu11_0 : mP r12 := pu11.2.2.1
      have yu11_1 : (r10 104 0).toInt ≤ (r12 105 0).toInt := pu11.2.2.2.1
      have xu11 : (r12, q13) = (Gm_nextToken r10 q) := pu11.2.2.2.2.1
      have hE := zc_rqE xu11 hE
      have hw : zPD D A (mW ct h0 y r12 q13) H := hw
      refine zfr 44 [] rfl rfl ?_
      refine lv_iconst (v := 1) hx hb dX12_needsNumber_44 (by decide) ?_
      exact ziretQ hQ hx hb hr rfl hlocks (1, r12, q13) rfl ⟨((zI.lit (a := 1) (b := 1) (c := 1) (by decide)).w (c := 0) (d := 1) (by decide)), ju11, (pr10.2.tr fu11 rfl), (show mP r12 from yu11_0), (show (r 105 0).toInt ≤ (r12 105 0).toInt from (by have := yu11_1; have := ((mP.fr x1 (zs_row (k := 103) er10 (by decide)) (zs_row (k := 104) er10 (by decide)) (zs_row (k := 105) er10 (by decide)) (zs_row (k := 106) er10 (by decide)))).1; have := congrArg Int32.toInt (congrFun (zs_row (k := 105) er10 (by decide)) 0); omega)), (fun _ => (fu11.at (zs_in er10 (show zI 0 9999 (r 108 0) from hJ0.i 108 0)) rfl)), (hE.symm.trans hX), trivial⟩ hw hS dX12_needsNumber_45
    · have hE := zifnF c6 hE
      have k14 : zI 0 0 (u4) := zI.eqq c6 (zI.lit (a := 0) (b := 0) (c := 0) (by decide))
      refine lv_aload_n hx hb dX12_needsNumber_26 rfl (lv_at hl 0 rfl) ?_
      refine lv_iconst (v := 4) hx hb dX12_needsNumber_27 (by decide) ?_
      refine mcallV (As := [.int 4]) (rest := []) ⟨hx, hb, hml, hown, hts⟩ (mc_fails l D ct h0 y B 4 r q ((zI.lit (a := 4) (b := 4) (c := 4) (by decide)).w (c := 1) (d := 5) (by decide)) hJ0) (wqX12_193_mc_fails hts ⟨Nat.le_of_ble_eq_true rfl, Nat.le_of_ble_eq_true rfl⟩) hw hS hA hK hN rfl hl.1 rfl (Nat.le_of_ble_eq_true rfl) dX12_needsNumber_28 31 rfl (fun u15 H locs pu15 hw hS => ?_)
      obtain ⟨v16, r17⟩ := u15
      have hv16 : zI 0 0 v16 := pu15.1
      have ju15 : mJ B r17 := pu15.2.1
      have fu15 : zFr [109] r r17 := pu15.2.2.1
      have xu15 : (v16, r17) = (Gm_fails (4 : Int32) r q) := pu15.2.2.2.1
      have hE := zc_vrE xu15 hE
      have hw : zPD D A (mW ct h0 y r17 q) H := hw
      refine zfr 31 [.int v16] rfl rfl ?_
      exact ziretQ hQ hx hb hr ((hv16.w (c := 0) (d := 1) (by decide)).rn) hlocks (v16, r17, q) rfl ⟨(hv16.w (c := 0) (d := 1) (by decide)), ju15, ((zFr.refl).tr fu15 rfl), (show mP r17 from (mP.fr x1 (fu15 103 rfl) (fu15 104 rfl) (fu15 105 rfl) (fu15 106 rfl))), (show (r 105 0).toInt ≤ (r17 105 0).toInt from (by have := congrArg Int32.toInt (congrFun (fu15 105 rfl) 0); omega)), (fun h => absurd (zI.eq0 hv16) h), (hE.symm.trans hX), trivial⟩ hw hS dX12_needsNumber_31
  · have hE := zifF c2 hE
    refine lv_aload_n hx hb dX12_needsNumber_8 rfl (lv_at hl 0 rfl) ?_
    refine lv_iconst (v := 1) hx hb dX12_needsNumber_9 (by decide) ?_
    refine mcallV (As := [.int 1]) (rest := []) ⟨hx, hb, hml, hown, hts⟩ (mc_fails l D ct h0 y B 1 r q ((zI.lit (a := 1) (b := 1) (c := 1) (by decide)).w (c := 1) (d := 5) (by decide)) hJ0) (wqX12_193_mc_fails hts ⟨Nat.le_of_ble_eq_true rfl, Nat.le_of_ble_eq_true rfl⟩) hw hS hA hK hN rfl hl.1 rfl (Nat.le_of_ble_eq_true rfl) dX12_needsNumber_10 13 rfl (fun u18 H locs pu18 hw hS => ?_)
    obtain ⟨v19, r20⟩ := u18
    have hv19 : zI 0 0 v19 := pu18.1
    have ju18 : mJ B r20 := pu18.2.1
    have fu18 : zFr [109] r r20 := pu18.2.2.1
    have xu18 : (v19, r20) = (Gm_fails (1 : Int32) r q) := pu18.2.2.2.1
    have hE := zc_vrE xu18 hE
    have hw : zPD D A (mW ct h0 y r20 q) H := hw
    refine zfr 13 [.int v19] rfl rfl ?_
    exact ziretQ hQ hx hb hr ((hv19.w (c := 0) (d := 1) (by decide)).rn) hlocks (v19, r20, q) rfl ⟨(hv19.w (c := 0) (d := 1) (by decide)), ju18, ((zFr.refl).tr fu18 rfl), (show mP r20 from (mP.fr x1 (fu18 103 rfl) (fu18 104 rfl) (fu18 105 rfl) (fu18 106 rfl))), (show (r 105 0).toInt ≤ (r20 105 0).toInt from (by have := congrArg Int32.toInt (congrFun (fu18 105 rfl) 0); omega)), (fun h => absurd (zI.eq0 hv19) h), (hE.symm.trans hX), trivial⟩ hw hS dX12_needsNumber_13

set_option maxHeartbeats 4000000 in
set_option maxRecDepth 100000 in
theorem mc_needsWord (l : Launch) (D : va_G) (ct : Nat → ClassId) (h0 : Nat) (y : Nat → Nat) (B : Int) (a1 : Int64) (r : zRr) (q : zRq) (hJ0 : mJ B r) (x1 : mP r) : zC l yX12_needsWord (.code yX12_needsWord cX12_needsWord 3 (some .boolean) :: wsL_law0) ({ frames := 3, cells := 0, slots := 0, locals := 160 }) D ct [] [.ref h0, .long a1] (mW ct h0 y r q) (S := Int32 × zRr × zRq) (fun u => some (.int u.1)) (fun u => zI 0 1 u.1 ∧ mJ B u.2.1 ∧ zFr [104, 105, 106, 108, 109] r u.2.1 ∧ (mP u.2.1) ∧ ((r 105 0).toInt ≤ (u.2.1 105 0).toInt) ∧ u = (Gm_needsWord a1 r q) ∧ True) (fun u => mW ct h0 y u.2.1 u.2.2) 0 0 := by
  refine zofQ cX12_needsWord 3 (some .boolean) (by decide) rfl (Nat.le_of_ble_eq_true rfl) ?_
  intro p e s m below meth c A a9 Q ha9 hx hb hr hml hts hown hlocks hname hK hA hZ hN hQ
  have hown : s.vm.findClass RX12 = some m.cls := hown
  obtain ⟨X, hX⟩ : ∃ X, X = (Gm_needsWord a1 r q) := ⟨_, rfl⟩
  intro H locs hw hS ls hl
  have hl : lv_has ls 3 [(0, .ref h0), (1, .long a1)] := hl
  have hE := hX
  unfold Gm_needsWord at hE
  refine lv_aload_n hx hb dX12_needsWord_0 rfl (lv_at hl 0 rfl) ?_
  refine lv_lload_n hx hb dX12_needsWord_1 rfl (lv_at hl 1 rfl) ?_
  refine mcallV (As := [.long a1]) (rest := []) ⟨hx, hb, hml, hown, hts⟩ (mc_isWord l D ct h0 y B a1 r q hJ0) (wqX12_185_mc_isWord hts ⟨Nat.le_of_ble_eq_true rfl, Nat.le_of_ble_eq_true rfl⟩) hw hS hA hK hN rfl hl.1 rfl (Nat.le_of_ble_eq_true rfl) dX12_needsWord_2 5 rfl (fun u1 H locs pu1 hw hS => ?_)
  have hu1 : zI 0 1 u1 := pu1.1
  have yu1_0 : ¬ u1 = 0 → zI 1 1 (r 106 0) := pu1.2.1
  have xu1 : u1 = (Gm_isWord a1 r q) := pu1.2.2.1
  have hE := zletE xu1 hE
  have hw : zPD D A (mW ct h0 y r q) H := hw
  refine zfr 5 [.int u1] rfl rfl ?_
  refine lv_if_ne (tgt := 14) hx hb dX12_needsWord_5 (by decide) (fun c3 => ?_) (fun c3 => ?_)
  · have hE := zifnT c3 hE
    have k4 : zI 1 1 (u1) := zI.neD c3 hu1 (zI.lit (a := 0) (b := 0) (c := 0) (by decide)) (by decide)
    refine lv_aload_n hx hb dX12_needsWord_14 rfl (lv_at hl 0 rfl) ?_
    refine mcallV (As := []) (rest := []) ⟨hx, hb, hml, hown, hts⟩ (mc_nextToken l D ct h0 y B r q hJ0 ((x1).2.1)) (wqX12_200_mc_nextToken hts ⟨Nat.le_of_ble_eq_true rfl, Nat.le_of_ble_eq_true rfl⟩) hw hS hA hK hN rfl hl.1 rfl (Nat.le_of_ble_eq_true rfl) dX12_needsWord_15 18 rfl (fun u5 H locs pu5 hw hS => ?_)
    obtain ⟨r6, q7⟩ := u5
    have ju5 : mJ B r6 := pu5.1
    have fu5 : zFr [104, 105, 106, 108] r r6 := pu5.2.1
    have yu5_0 : mP r6 := pu5.2.2.1
    have yu5_1 : (r 104 0).toInt ≤ (r6 105 0).toInt := pu5.2.2.2.1
    have xu5 : (r6, q7) = (Gm_nextToken r q) := pu5.2.2.2.2.1
    have hE := zc_rqE xu5 hE
    have hw : zPD D A (mW ct h0 y r6 q7) H := hw
    refine zfr 18 [] rfl rfl ?_
    refine lv_iconst (v := 1) hx hb dX12_needsWord_18 (by decide) ?_
    exact ziretQ hQ hx hb hr rfl hlocks (1, r6, q7) rfl ⟨((zI.lit (a := 1) (b := 1) (c := 1) (by decide)).w (c := 0) (d := 1) (by decide)), ju5, ((zFr.refl).tr fu5 rfl), (show mP r6 from yu5_0), (show (r 105 0).toInt ≤ (r6 105 0).toInt from (by have := yu5_1; have := (x1).1; omega)), (hE.symm.trans hX), trivial⟩ hw hS dX12_needsWord_19
  · have hE := zifnF c3 hE
    have k8 : zI 0 0 (u1) := zI.eqq c3 (zI.lit (a := 0) (b := 0) (c := 0) (by decide))
    refine lv_aload_n hx hb dX12_needsWord_8 rfl (lv_at hl 0 rfl) ?_
    refine lv_iconst (v := 1) hx hb dX12_needsWord_9 (by decide) ?_
    refine mcallV (As := [.int 1]) (rest := []) ⟨hx, hb, hml, hown, hts⟩ (mc_fails l D ct h0 y B 1 r q ((zI.lit (a := 1) (b := 1) (c := 1) (by decide)).w (c := 1) (d := 5) (by decide)) hJ0) (wqX12_193_mc_fails hts ⟨Nat.le_of_ble_eq_true rfl, Nat.le_of_ble_eq_true rfl⟩) hw hS hA hK hN rfl hl.1 rfl (Nat.le_of_ble_eq_true rfl) dX12_needsWord_10 13 rfl (fun u9 H locs pu9 hw hS => ?_)
    obtain ⟨v10, r11⟩ := u9
    have hv10 : zI 0 0 v10 := pu9.1
    have ju9 : mJ B r11 := pu9.2.1
    have fu9 : zFr [109] r r11 := pu9.2.2.1
    have xu9 : (v10, r11) = (Gm_fails (1 : Int32) r q) := pu9.2.2.2.1
    have hE := zc_vrE xu9 hE
    have hw : zPD D A (mW ct h0 y r11 q) H := hw
    refine zfr 13 [.int v10] rfl rfl ?_
    exact ziretQ hQ hx hb hr ((hv10.w (c := 0) (d := 1) (by decide)).rn) hlocks (v10, r11, q) rfl ⟨(hv10.w (c := 0) (d := 1) (by decide)), ju9, ((zFr.refl).tr fu9 rfl), (show mP r11 from (mP.fr x1 (fu9 103 rfl) (fu9 104 rfl) (fu9 105 rfl) (fu9 106 rfl))), (show (r 105 0).toInt ≤ (r11 105 0).toInt from (by have := congrArg Int32.toInt (congrFun (fu9 105 rfl) 0); omega)), (hE.symm.trans hX), trivial⟩ hw hS dX12_needsWord_13

set_option maxHeartbeats 4000000 in
set_option maxRecDepth 100000 in
theorem mc_needsBoth (l : Launch) (D : va_G) (ct : Nat → ClassId) (h0 : Nat) (y : Nat → Nat) (B : Int) (a1 : Int64) (a2 : Int32) (a3 : Int32) (r : zRr) (q : zRq) (hJ0 : mJ B r) (x1 : mP r) : zC l yX12_needsBoth (.code yX12_needsBoth cX12_needsBoth 5 (some .boolean) :: wsL_law0) ({ frames := 4, cells := 0, slots := 0, locals := 200 }) D ct [] [.ref h0, .long a1, .int a2, .int a3] (mW ct h0 y r q) (S := Int32 × zRr × zRq) (fun u => some (.int u.1)) (fun u => zI 0 1 u.1 ∧ mJ B u.2.1 ∧ zFr [104, 105, 106, 108, 109, 136] r u.2.1 ∧ (mP u.2.1) ∧ ((r 105 0).toInt ≤ (u.2.1 105 0).toInt) ∧ (¬ u.1 = 0 → zI 0 9999 (u.2.1 136 0)) ∧ u = (Gm_needsBoth a1 a2 a3 r q) ∧ True) (fun u => mW ct h0 y u.2.1 u.2.2) 0 0 := by
  refine zofQ cX12_needsBoth 5 (some .boolean) (by decide) rfl (Nat.le_of_ble_eq_true rfl) ?_
  intro p e s m below meth c A a9 Q ha9 hx hb hr hml hts hown hlocks hname hK hA hZ hN hQ
  have hown : s.vm.findClass RX12 = some m.cls := hown
  obtain ⟨X, hX⟩ : ∃ X, X = (Gm_needsBoth a1 a2 a3 r q) := ⟨_, rfl⟩
  intro H locs hw hS ls hl
  have hl : lv_has ls 5 [(0, .ref h0), (1, .long a1), (3, .int a2), (4, .int a3)] := hl
  have hE := hX
  unfold Gm_needsBoth at hE
  refine lv_aload_n hx hb dX12_needsBoth_0 rfl (lv_at hl 0 rfl) ?_
  refine lv_lload_n hx hb dX12_needsBoth_1 rfl (lv_at hl 1 rfl) ?_
  refine mcallV (As := [.long a1]) (rest := []) ⟨hx, hb, hml, hown, hts⟩ (mc_needsWord l D ct h0 y B a1 r q hJ0 (x1)) (wqX12_259_mc_needsWord hts ⟨Nat.le_of_ble_eq_true rfl, Nat.le_of_ble_eq_true rfl⟩) hw hS hA hK hN rfl hl.1 rfl (Nat.le_of_ble_eq_true rfl) dX12_needsBoth_2 5 rfl (fun u1 H locs pu1 hw hS => ?_)
  obtain ⟨v2, r3, q4⟩ := u1
  have hv2 : zI 0 1 v2 := pu1.1
  have ju1 : mJ B r3 := pu1.2.1
  have fu1 : zFr [104, 105, 106, 108, 109] r r3 := pu1.2.2.1
  have yu1_0 : mP r3 := pu1.2.2.2.1
  have yu1_1 : (r 105 0).toInt ≤ (r3 105 0).toInt := pu1.2.2.2.2.1
  have xu1 : (v2, r3, q4) = (Gm_needsWord a1 r q) := pu1.2.2.2.2.2.1
  have hE := zc_vrqE xu1 hE
  have hw : zPD D A (mW ct h0 y r3 q4) H := hw
  refine zfr 5 [.int v2] rfl rfl ?_
  refine lv_if_eq (tgt := 22) hx hb dX12_needsBoth_5 (by decide) (fun c5 => ?_) (fun c5 => ?_)
  · have hE := zifT c5 hE
    have k6 : zI 0 0 (v2) := zI.eqq c5 (zI.lit (a := 0) (b := 0) (c := 0) (by decide))
    refine lv_iconst (v := 0) hx hb dX12_needsBoth_22 (by decide) ?_
    exact ziretQ hQ hx hb hr rfl hlocks (0, r3, q4) rfl ⟨((zI.lit (a := 0) (b := 0) (c := 0) (by decide)).w (c := 0) (d := 1) (by decide)), ju1, ((zFr.refl).tr fu1 rfl), (show mP r3 from yu1_0), (show (r 105 0).toInt ≤ (r3 105 0).toInt from (by have := yu1_1; omega)), (fun h => absurd rfl h), (hE.symm.trans hX), trivial⟩ hw hS dX12_needsBoth_23
  · have hE := zifF c5 hE
    have k7 : zI 1 1 (v2) := zI.neD c5 hv2 (zI.lit (a := 0) (b := 0) (c := 0) (by decide)) (by decide)
    refine lv_aload_n hx hb dX12_needsBoth_8 rfl (lv_at hl 0 rfl) ?_
    refine lv_iload_n hx hb dX12_needsBoth_9 rfl (lv_at hl 2 rfl) ?_
    refine lv_iload hx hb dX12_needsBoth_10 (lv_at hl 3 rfl) ?_
    refine mcallV (As := [.int a2, .int a3]) (rest := []) ⟨hx, hb, hml, hown, hts⟩ (mc_needsNumber l D ct h0 y B a2 a3 r3 q4 ju1 (yu1_0)) (wqX12_262_mc_needsNumber hts ⟨Nat.le_of_ble_eq_true rfl, Nat.le_of_ble_eq_true rfl⟩) hw hS hA hK hN rfl hl.1 rfl (Nat.le_of_ble_eq_true rfl) dX12_needsBoth_12 15 rfl (fun u8 H locs pu8 hw hS => ?_)
    obtain ⟨v9, r10, q11⟩ := u8
    have hv9 : zI 0 1 v9 := pu8.1
    have ju8 : mJ B r10 := pu8.2.1
    have fu8 : zFr [104, 105, 106, 108, 109, 136] r3 r10 := pu8.2.2.1
    have yu8_0 : mP r10 := pu8.2.2.2.1
    have yu8_1 : (r3 105 0).toInt ≤ (r10 105 0).toInt := pu8.2.2.2.2.1
    have yu8_2 : ¬ v9 = 0 → zI 0 9999 (r10 136 0) := pu8.2.2.2.2.2.1
    have xu8 : (v9, r10, q11) = (Gm_needsNumber a2 a3 r3 q4) := pu8.2.2.2.2.2.2.1
    have hE := zc_vrqE xu8 hE
    have hw : zPD D A (mW ct h0 y r10 q11) H := hw
    refine zfr 15 [.int v9] rfl rfl ?_
    refine lv_if_eq (tgt := 22) hx hb dX12_needsBoth_15 (by decide) (fun c12 => ?_) (fun c12 => ?_)
    · have hE := zifT c12 hE
      have k13 : zI 0 0 (v9) := zI.eqq c12 (zI.lit (a := 0) (b := 0) (c := 0) (by decide))
      refine lv_iconst (v := 0) hx hb dX12_needsBoth_22 (by decide) ?_
      exact ziretQ hQ hx hb hr rfl hlocks (0, r10, q11) rfl ⟨((zI.lit (a := 0) (b := 0) (c := 0) (by decide)).w (c := 0) (d := 1) (by decide)), ju8, (((zFr.refl).tr fu1 rfl).tr fu8 rfl), (show mP r10 from yu8_0), (show (r 105 0).toInt ≤ (r10 105 0).toInt from (by have := yu8_1; have := yu1_1; omega)), (fun h => absurd rfl h), (hE.symm.trans hX), trivial⟩ hw hS dX12_needsBoth_23
    · have hE := zifF c12 hE
      have k14 : zI 1 1 (v9) := zI.neD c12 hv9 (zI.lit (a := 0) (b := 0) (c := 0) (by decide)) (by decide)
      refine lv_iconst (v := 1) hx hb dX12_needsBoth_18 (by decide) ?_
      refine lv_goto (tgt := 23) hx hb dX12_needsBoth_19 (by decide) ?_
      exact ziretQ hQ hx hb hr rfl hlocks (1, r10, q11) rfl ⟨((zI.lit (a := 1) (b := 1) (c := 1) (by decide)).w (c := 0) (d := 1) (by decide)), ju8, (((zFr.refl).tr fu1 rfl).tr fu8 rfl), (show mP r10 from yu8_0), (show (r 105 0).toInt ≤ (r10 105 0).toInt from (by have := yu8_1; have := yu1_1; omega)), (fun _ => (yu8_2 c12)), (hE.symm.trans hX), trivial⟩ hw hS dX12_needsBoth_23

set_option maxHeartbeats 4000000 in
set_option maxRecDepth 100000 in
theorem mc_closes (l : Launch) (D : va_G) (ct : Nat → ClassId) (h0 : Nat) (y : Nat → Nat) (B : Int) (r : zRr) (q : zRq) (hJ0 : mJ B r) (x1 : mP r) : zC l yX12_closes (.code yX12_closes cX12_closes 1 (some .boolean) :: wsL_law0) ({ frames := 3, cells := 0, slots := 0, locals := 160 }) D ct [] [.ref h0] (mW ct h0 y r q) (S := Int32 × zRr × zRq) (fun u => some (.int u.1)) (fun u => zI 0 1 u.1 ∧ mJ B u.2.1 ∧ zFr [104, 105, 106, 108, 109] r u.2.1 ∧ (mP u.2.1) ∧ ((r 105 0).toInt ≤ (u.2.1 105 0).toInt) ∧ u = (Gm_closes r q) ∧ True) (fun u => mW ct h0 y u.2.1 u.2.2) 0 0 := by
  refine zofQ cX12_closes 1 (some .boolean) (by decide) rfl (Nat.le_of_ble_eq_true rfl) ?_
  intro p e s m below meth c A a9 Q ha9 hx hb hr hml hts hown hlocks hname hK hA hZ hN hQ
  have hown : s.vm.findClass RX12 = some m.cls := hown
  obtain ⟨X, hX⟩ : ∃ X, X = (Gm_closes r q) := ⟨_, rfl⟩
  intro H locs hw hS ls hl
  have hl : lv_has ls 1 [(0, .ref h0)] := hl
  have hE := hX
  unfold Gm_closes at hE
  refine lv_aload_n hx hb dX12_closes_0 rfl (lv_at hl 0 rfl) ?_
  refine lv_bipush (v := 59) hx hb dX12_closes_1 (by decide) ?_
  refine mcallV (As := [.int 59]) (rest := []) ⟨hx, hb, hml, hown, hts⟩ (mc_isSign l D ct h0 y B 59 r q hJ0 (x1)) (wqX12_189_mc_isSign hts ⟨Nat.le_of_ble_eq_true rfl, Nat.le_of_ble_eq_true rfl⟩) hw hS hA hK hN rfl hl.1 rfl (Nat.le_of_ble_eq_true rfl) dX12_closes_3 6 rfl (fun u1 H locs pu1 hw hS => ?_)
  have hu1 : zI 0 1 u1 := pu1.1
  have yu1_0 : ¬ u1 = 0 → zI 3 3 (r 106 0) := pu1.2.1
  have xu1 : u1 = (Gm_isSign (59 : Int32) r q) := pu1.2.2.1
  have hE := zletE xu1 hE
  have hw : zPD D A (mW ct h0 y r q) H := hw
  refine zfr 6 [.int u1] rfl rfl ?_
  refine lv_if_ne (tgt := 15) hx hb dX12_closes_6 (by decide) (fun c3 => ?_) (fun c3 => ?_)
  · have hE := zifnT c3 hE
    have k4 : zI 1 1 (u1) := zI.neD c3 hu1 (zI.lit (a := 0) (b := 0) (c := 0) (by decide)) (by decide)
    refine lv_aload_n hx hb dX12_closes_15 rfl (lv_at hl 0 rfl) ?_
    refine mcallV (As := []) (rest := []) ⟨hx, hb, hml, hown, hts⟩ (mc_nextToken l D ct h0 y B r q hJ0 ((x1).2.1)) (wqX12_200_mc_nextToken hts ⟨Nat.le_of_ble_eq_true rfl, Nat.le_of_ble_eq_true rfl⟩) hw hS hA hK hN rfl hl.1 rfl (Nat.le_of_ble_eq_true rfl) dX12_closes_16 19 rfl (fun u5 H locs pu5 hw hS => ?_)
    obtain ⟨r6, q7⟩ := u5
    have ju5 : mJ B r6 := pu5.1
    have fu5 : zFr [104, 105, 106, 108] r r6 := pu5.2.1
    have yu5_0 : mP r6 := pu5.2.2.1
    have yu5_1 : (r 104 0).toInt ≤ (r6 105 0).toInt := pu5.2.2.2.1
    have xu5 : (r6, q7) = (Gm_nextToken r q) := pu5.2.2.2.2.1
    have hE := zc_rqE xu5 hE
    have hw : zPD D A (mW ct h0 y r6 q7) H := hw
    refine zfr 19 [] rfl rfl ?_
    refine lv_iconst (v := 1) hx hb dX12_closes_19 (by decide) ?_
    exact ziretQ hQ hx hb hr rfl hlocks (1, r6, q7) rfl ⟨((zI.lit (a := 1) (b := 1) (c := 1) (by decide)).w (c := 0) (d := 1) (by decide)), ju5, ((zFr.refl).tr fu5 rfl), (show mP r6 from yu5_0), (show (r 105 0).toInt ≤ (r6 105 0).toInt from (by have := yu5_1; have := (x1).1; omega)), (hE.symm.trans hX), trivial⟩ hw hS dX12_closes_20
  · have hE := zifnF c3 hE
    have k8 : zI 0 0 (u1) := zI.eqq c3 (zI.lit (a := 0) (b := 0) (c := 0) (by decide))
    refine lv_aload_n hx hb dX12_closes_9 rfl (lv_at hl 0 rfl) ?_
    refine lv_iconst (v := 1) hx hb dX12_closes_10 (by decide) ?_
    refine mcallV (As := [.int 1]) (rest := []) ⟨hx, hb, hml, hown, hts⟩ (mc_fails l D ct h0 y B 1 r q ((zI.lit (a := 1) (b := 1) (c := 1) (by decide)).w (c := 1) (d := 5) (by decide)) hJ0) (wqX12_193_mc_fails hts ⟨Nat.le_of_ble_eq_true rfl, Nat.le_of_ble_eq_true rfl⟩) hw hS hA hK hN rfl hl.1 rfl (Nat.le_of_ble_eq_true rfl) dX12_closes_11 14 rfl (fun u9 H locs pu9 hw hS => ?_)
    obtain ⟨v10, r11⟩ := u9
    have hv10 : zI 0 0 v10 := pu9.1
    have ju9 : mJ B r11 := pu9.2.1
    have fu9 : zFr [109] r r11 := pu9.2.2.1
    have xu9 : (v10, r11) = (Gm_fails (1 : Int32) r q) := pu9.2.2.2.1
    have hE := zc_vrE xu9 hE
    have hw : zPD D A (mW ct h0 y r11 q) H := hw
    refine zfr 14 [.int v10] rfl rfl ?_
    exact ziretQ hQ hx hb hr ((hv10.w (c := 0) (d := 1) (by decide)).rn) hlocks (v10, r11, q) rfl ⟨(hv10.w (c := 0) (d := 1) (by decide)), ju9, ((zFr.refl).tr fu9 rfl), (show mP r11 from (mP.fr x1 (fu9 103 rfl) (fu9 104 rfl) (fu9 105 rfl) (fu9 106 rfl))), (show (r 105 0).toInt ≤ (r11 105 0).toInt from (by have := congrArg Int32.toInt (congrFun (fu9 105 rfl) 0); omega)), (hE.symm.trans hX), trivial⟩ hw hS dX12_closes_14

set_option maxHeartbeats 4000000 in
set_option maxRecDepth 100000 in
theorem mc_needsNew (l : Launch) (D : va_G) (ct : Nat → ClassId) (h0 : Nat) (y : Nat → Nat) (B : Int) (r : zRr) (q : zRq) (hJ0 : mJ B r) (x1 : mP r) : zC l yX12_needsNew (.code yX12_needsNew cX12_needsNew 1 (some .boolean) :: wsL_law0) ({ frames := 3, cells := 0, slots := 0, locals := 160 }) D ct [] [.ref h0] (mW ct h0 y r q) (S := Int32 × zRr × zRq) (fun u => some (.int u.1)) (fun u => zI 0 1 u.1 ∧ mJ B u.2.1 ∧ zFr [104, 105, 106, 108, 109] r u.2.1 ∧ (mP u.2.1) ∧ ((r 105 0).toInt ≤ (u.2.1 105 0).toInt) ∧ u = (Gm_needsNew r q) ∧ True) (fun u => mW ct h0 y u.2.1 u.2.2) 0 0 := by
  refine zofQ cX12_needsNew 1 (some .boolean) (by decide) rfl (Nat.le_of_ble_eq_true rfl) ?_
  intro p e s m below meth c A a9 Q ha9 hx hb hr hml hts hown hlocks hname hK hA hZ hN hQ
  have hown : s.vm.findClass RX12 = some m.cls := hown
  have hiX12 : ∀ w ∈ wsX120, w ∈ .code yX12_needsNew cX12_needsNew 1 (some .boolean) :: wsL_law0 := fun _ h => ki (zs_wsX120 _ h)
  have lf147 := hts (.fieldLink RX12 147 "BeardPassModel" "word" "J") (ki (zr22 18 rfl))
  have lf276 := hts (.fieldLink RX12 276 "BeardPassModel" "fresh" "J") (ki (zr23 12 rfl))
  obtain ⟨X, hX⟩ : ∃ X, X = (Gm_needsNew r q) := ⟨_, rfl⟩
  intro H locs hw hS ls hl
  have hl : lv_has ls 1 [(0, .ref h0)] := hl
  have hE := hX
  unfold Gm_needsNew at hE
  refine lv_aload_n hx hb dX12_needsNew_0 rfl (lv_at hl 0 rfl) ?_
  refine mcallV (As := []) (rest := []) ⟨hx, hb, hml, hown, hts⟩ (mc_isKept l D ct h0 y B r q hJ0) (wqX12_266_mc_isKept hts ⟨Nat.le_of_ble_eq_true rfl, Nat.le_of_ble_eq_true rfl⟩) hw hS hA hK hN rfl hl.1 rfl (Nat.le_of_ble_eq_true rfl) dX12_needsNew_1 4 rfl (fun u1 H locs pu1 hw hS => ?_)
  have hu1 : zI 0 1 u1 := pu1.1
  have yu1_0 : u1 = 0 → zI 1 1 (r 106 0) := pu1.2.1
  have xu1 : u1 = (Gm_isKept r q) := pu1.2.2.1
  have hE := zletE xu1 hE
  have hw : zPD D A (mW ct h0 y r q) H := hw
  refine zfr 4 [.int u1] rfl rfl ?_
  refine lv_if_eq (tgt := 13) hx hb dX12_needsNew_4 (by decide) (fun c3 => ?_) (fun c3 => ?_)
  · have hE := zifT c3 hE
    have k4 : zI 0 0 (u1) := zI.eqq c3 (zI.lit (a := 0) (b := 0) (c := 0) (by decide))
    refine lv_aload_n hx hb dX12_needsNew_13 rfl (lv_at hl 0 rfl) ?_
    refine lv_iconst (v := 1) hx hb dX12_needsNew_14 (by decide) ?_
    refine mcallV (As := [.int 1]) (rest := []) ⟨hx, hb, hml, hown, hts⟩ (mc_townNamed1 l D ct h0 y B r q hJ0) (wqX12_270_mc_townNamed1 hts ⟨Nat.le_of_ble_eq_true rfl, Nat.le_of_ble_eq_true rfl⟩) hw hS hA hK hN rfl hl.1 rfl (Nat.le_of_ble_eq_true rfl) dX12_needsNew_15 18 rfl (fun u5 H locs pu5 hw hS => ?_)
    have hu5 : zI (-1) 5 u5 := pu5.1
    have yu5_0 : (0 ≤ u5.toInt → 1 ≤ (r 1 4).toInt) := pu5.2.1
    have xu5 : u5 = (Gm_townNamed1 r q) := pu5.2.2.1
    have hE := zletE xu5 hE
    have hw : zPD D A (mW ct h0 y r q) H := hw
    refine zfr 18 [.int u5] rfl rfl ?_
    refine lv_if_ge (tgt := 29) hx hb dX12_needsNew_18 (by decide) (fun c7 => ?_) (fun c7 => ?_)
    · have hE := zifT c7 hE
      have k8 : zI 0 5 (u5) := zI.leD c7 (zI.lit (a := 0) (b := 0) (c := 0) (by decide)) hu5 (by decide)
      refine lv_aload_n hx hb dX12_needsNew_29 rfl (lv_at hl 0 rfl) ?_
      refine lv_iconst (v := 3) hx hb dX12_needsNew_30 (by decide) ?_
      refine mcallV (As := [.int 3]) (rest := []) ⟨hx, hb, hml, hown, hts⟩ (mc_fails l D ct h0 y B 3 r q ((zI.lit (a := 3) (b := 3) (c := 3) (by decide)).w (c := 1) (d := 5) (by decide)) hJ0) (wqX12_193_mc_fails hts ⟨Nat.le_of_ble_eq_true rfl, Nat.le_of_ble_eq_true rfl⟩) hw hS hA hK hN rfl hl.1 rfl (Nat.le_of_ble_eq_true rfl) dX12_needsNew_31 34 rfl (fun u9 H locs pu9 hw hS => ?_)
      obtain ⟨v10, r11⟩ := u9
      have hv10 : zI 0 0 v10 := pu9.1
      have ju9 : mJ B r11 := pu9.2.1
      have fu9 : zFr [109] r r11 := pu9.2.2.1
      have xu9 : (v10, r11) = (Gm_fails (3 : Int32) r q) := pu9.2.2.2.1
      have hE := zc_vrE xu9 hE
      have hw : zPD D A (mW ct h0 y r11 q) H := hw
      refine zfr 34 [.int v10] rfl rfl ?_
      exact ziretQ hQ hx hb hr ((hv10.w (c := 0) (d := 1) (by decide)).rn) hlocks (v10, r11, q) rfl ⟨(hv10.w (c := 0) (d := 1) (by decide)), ju9, ((zFr.refl).tr fu9 rfl), (show mP r11 from (mP.fr x1 (fu9 103 rfl) (fu9 104 rfl) (fu9 105 rfl) (fu9 106 rfl))), (show (r 105 0).toInt ≤ (r11 105 0).toInt from (by have := congrArg Int32.toInt (congrFun (fu9 105 rfl) 0); omega)), (hE.symm.trans hX), trivial⟩ hw hS dX12_needsNew_34
    · have hE := zifF c7 hE
      have k12 : zI (-1) (-1) (u5) := zI.ltU (zI.nle c7) hu5 (zI.lit (a := 0) (b := 0) (c := 0) (by decide)) (by decide)
      refine lv_aload_n hx hb dX12_needsNew_21 rfl (lv_at hl 0 rfl) ?_
      refine lv_iconst (v := 1) hx hb dX12_needsNew_22 (by decide) ?_
      refine mcallV (As := [.int 1]) (rest := []) ⟨hx, hb, hml, hown, hts⟩ (mc_personNamed1 l D ct h0 y B r q hJ0) (wqX12_273_mc_personNamed1 hts ⟨Nat.le_of_ble_eq_true rfl, Nat.le_of_ble_eq_true rfl⟩) hw hS hA hK hN rfl hl.1 rfl (Nat.le_of_ble_eq_true rfl) dX12_needsNew_23 26 rfl (fun u13 H locs pu13 hw hS => ?_)
      have hu13 : zI (-1) 5 u13 := pu13.1
      have xu13 : u13 = (Gm_personNamed1 r q) := pu13.2.1
      have hE := zletE xu13 hE
      have hw : zPD D A (mW ct h0 y r q) H := hw
      refine zfr 26 [.int u13] rfl rfl ?_
      refine lv_if_lt (tgt := 35) hx hb dX12_needsNew_26 (by decide) (fun c15 => ?_) (fun c15 => ?_)
      · have hE := zifT c15 hE
        have k16 : zI (-1) (-1) (u13) := zI.ltU c15 hu13 (zI.lit (a := 0) (b := 0) (c := 0) (by decide)) (by decide)
        refine lv_aload_n hx hb dX12_needsNew_35 rfl (lv_at hl 0 rfl) ?_
        refine lv_aload_n hx hb dX12_needsNew_36 rfl (lv_at hl 0 rfl) ?_
        refine mget (v := .long (q 107 0)) hx hb hts hiX12 hown hK hw 7 (by decide) lf147 rfl rfl dX12_needsNew_37 (zgenLE (fun v17 ev17 => ?_))
        have hE := zletE ev17 hE
        refine mput (ty := .long) (v := .long v17) hx hb hts hiX12 hown hK hw hS 37 (by decide) lf276 rfl rfl (by decide +kernel) rfl rfl dX12_needsNew_40 _ (zset q 137 (fun _ => v17)) mWf37 (fun H locs hw hS => ?_)
        refine mqgen hw (fun q18 eq18 hw => ?_)
        have hE := zletE eq18 hE
        refine lv_aload_n hx hb dX12_needsNew_43 rfl (lv_at hl 0 rfl) ?_
        refine mcallV (As := []) (rest := []) ⟨hx, hb, hml, hown, hts⟩ (mc_nextToken l D ct h0 y B r q18 hJ0 ((x1).2.1)) (wqX12_200_mc_nextToken hts ⟨Nat.le_of_ble_eq_true rfl, Nat.le_of_ble_eq_true rfl⟩) hw hS hA hK hN rfl hl.1 rfl (Nat.le_of_ble_eq_true rfl) dX12_needsNew_44 47 rfl (fun u19 H locs pu19 hw hS => ?_)
        obtain ⟨r20, q21⟩ := u19
        have ju19 : mJ B r20 := pu19.1
        have fu19 : zFr [104, 105, 106, 108] r r20 := pu19.2.1
        have yu19_0 : mP r20 := pu19.2.2.1
        have yu19_1 : (r 104 0).toInt ≤ (r20 105 0).toInt := pu19.2.2.2.1
        have xu19 : (r20, q21) = (Gm_nextToken r q18) := pu19.2.2.2.2.1
        have hE := zc_rqE xu19 hE
        have hw : zPD D A (mW ct h0 y r20 q21) H := hw
        refine zfr 47 [] rfl rfl ?_
        refine lv_iconst (v := 1) hx hb dX12_needsNew_47 (by decide) ?_
        exact ziretQ hQ hx hb hr rfl hlocks (1, r20, q21) rfl ⟨((zI.lit (a := 1) (b := 1) (c := 1) (by decide)).w (c := 0) (d := 1) (by decide)), ju19, ((zFr.refl).tr fu19 rfl), (show mP r20 from yu19_0), (show (r 105 0).toInt ≤ (r20 105 0).toInt from (by have := yu19_1; have := (x1).1; omega)), (hE.symm.trans hX), trivial⟩ hw hS dX12_needsNew_48
      · have hE := zifF c15 hE
        have k22 : zI 0 5 (u13) := zI.leD (zI.nlt c15) (zI.lit (a := 0) (b := 0) (c := 0) (by decide)) hu13 (by decide)
        refine lv_aload_n hx hb dX12_needsNew_29 rfl (lv_at hl 0 rfl) ?_
        refine lv_iconst (v := 3) hx hb dX12_needsNew_30 (by decide) ?_
        refine mcallV (As := [.int 3]) (rest := []) ⟨hx, hb, hml, hown, hts⟩ (mc_fails l D ct h0 y B 3 r q ((zI.lit (a := 3) (b := 3) (c := 3) (by decide)).w (c := 1) (d := 5) (by decide)) hJ0) (wqX12_193_mc_fails hts ⟨Nat.le_of_ble_eq_true rfl, Nat.le_of_ble_eq_true rfl⟩) hw hS hA hK hN rfl hl.1 rfl (Nat.le_of_ble_eq_true rfl) dX12_needsNew_31 34 rfl (fun u23 H locs pu23 hw hS => ?_)
        obtain ⟨v24, r25⟩ := u23
        have hv24 : zI 0 0 v24 := pu23.1
        have ju23 : mJ B r25 := pu23.2.1
        have fu23 : zFr [109] r r25 := pu23.2.2.1
        have xu23 : (v24, r25) = (Gm_fails (3 : Int32) r q) := pu23.2.2.2.1
        have hE := zc_vrE xu23 hE
        have hw : zPD D A (mW ct h0 y r25 q) H := hw
        refine zfr 34 [.int v24] rfl rfl ?_
        exact ziretQ hQ hx hb hr ((hv24.w (c := 0) (d := 1) (by decide)).rn) hlocks (v24, r25, q) rfl ⟨(hv24.w (c := 0) (d := 1) (by decide)), ju23, ((zFr.refl).tr fu23 rfl), (show mP r25 from (mP.fr x1 (fu23 103 rfl) (fu23 104 rfl) (fu23 105 rfl) (fu23 106 rfl))), (show (r 105 0).toInt ≤ (r25 105 0).toInt from (by have := congrArg Int32.toInt (congrFun (fu23 105 rfl) 0); omega)), (hE.symm.trans hX), trivial⟩ hw hS dX12_needsNew_34
  · have hE := zifF c3 hE
    have k26 : zI 1 1 (u1) := zI.neD c3 hu1 (zI.lit (a := 0) (b := 0) (c := 0) (by decide)) (by decide)
    refine lv_aload_n hx hb dX12_needsNew_7 rfl (lv_at hl 0 rfl) ?_
    refine lv_iconst (v := 1) hx hb dX12_needsNew_8 (by decide) ?_
    refine mcallV (As := [.int 1]) (rest := []) ⟨hx, hb, hml, hown, hts⟩ (mc_fails l D ct h0 y B 1 r q ((zI.lit (a := 1) (b := 1) (c := 1) (by decide)).w (c := 1) (d := 5) (by decide)) hJ0) (wqX12_193_mc_fails hts ⟨Nat.le_of_ble_eq_true rfl, Nat.le_of_ble_eq_true rfl⟩) hw hS hA hK hN rfl hl.1 rfl (Nat.le_of_ble_eq_true rfl) dX12_needsNew_9 12 rfl (fun u27 H locs pu27 hw hS => ?_)
    obtain ⟨v28, r29⟩ := u27
    have hv28 : zI 0 0 v28 := pu27.1
    have ju27 : mJ B r29 := pu27.2.1
    have fu27 : zFr [109] r r29 := pu27.2.2.1
    have xu27 : (v28, r29) = (Gm_fails (1 : Int32) r q) := pu27.2.2.2.1
    have hE := zc_vrE xu27 hE
    have hw : zPD D A (mW ct h0 y r29 q) H := hw
    refine zfr 12 [.int v28] rfl rfl ?_
    exact ziretQ hQ hx hb hr ((hv28.w (c := 0) (d := 1) (by decide)).rn) hlocks (v28, r29, q) rfl ⟨(hv28.w (c := 0) (d := 1) (by decide)), ju27, ((zFr.refl).tr fu27 rfl), (show mP r29 from (mP.fr x1 (fu27 103 rfl) (fu27 104 rfl) (fu27 105 rfl) (fu27 106 rfl))), (show (r 105 0).toInt ≤ (r29 105 0).toInt from (by have := congrArg Int32.toInt (congrFun (fu27 105 rfl) 0); omega)), (hE.symm.trans hX), trivial⟩ hw hS dX12_needsNew_12

set_option maxHeartbeats 4000000 in
set_option maxRecDepth 100000 in
theorem mc_needsTown0 (l : Launch) (D : va_G) (ct : Nat → ClassId) (h0 : Nat) (y : Nat → Nat) (B : Int) (r : zRr) (q : zRq) (hJ0 : mJ B r) : zC l yX12_needsTown (.code yX12_needsTown cX12_needsTown 2 (some .boolean) :: wsL_law0) ({ frames := 2, cells := 0, slots := 0, locals := 120 }) D ct [] [.ref h0, .int 0] (mW ct h0 y r q) (S := Int32 × zRr) (fun u => some (.int u.1)) (fun u => zI 0 1 u.1 ∧ mJ B u.2 ∧ zFr [136, 109] r u.2 ∧ (¬ u.1 = 0 → zI 0 5 (u.2 136 0)) ∧ u = (Gm_needsTown0 r q) ∧ True) (fun u => mW ct h0 y u.2 q) 0 0 := by
  refine zofQ cX12_needsTown 2 (some .boolean) (by decide) rfl (Nat.le_of_ble_eq_true rfl) ?_
  intro p e s m below meth c A a9 Q ha9 hx hb hr hml hts hown hlocks hname hK hA hZ hN hQ
  have hown : s.vm.findClass RX12 = some m.cls := hown
  have hiX12 : ∀ w ∈ wsX120, w ∈ .code yX12_needsTown cX12_needsTown 2 (some .boolean) :: wsL_law0 := fun _ h => ki (zs_wsX120 _ h)
  have lf256 := hts (.fieldLink RX12 256 "BeardPassModel" "given" "I") (ki (zr23 11 rfl))
  obtain ⟨X, hX⟩ : ∃ X, X = (Gm_needsTown0 r q) := ⟨_, rfl⟩
  intro H locs hw hS ls hl
  have hl : lv_has ls 2 [(0, .ref h0), (1, .int 0)] := hl
  have hE := hX
  unfold Gm_needsTown0 at hE
  refine lv_aload_n hx hb dX12_needsTown_0 rfl (lv_at hl 0 rfl) ?_
  refine mcallV (As := []) (rest := []) ⟨hx, hb, hml, hown, hts⟩ (mc_isKept l D ct h0 y B r q hJ0) (wqX12_266_mc_isKept hts ⟨Nat.le_of_ble_eq_true rfl, Nat.le_of_ble_eq_true rfl⟩) hw hS hA hK hN rfl hl.1 rfl (Nat.le_of_ble_eq_true rfl) dX12_needsTown_1 4 rfl (fun u1 H locs pu1 hw hS => ?_)
  have hu1 : zI 0 1 u1 := pu1.1
  have yu1_0 : u1 = 0 → zI 1 1 (r 106 0) := pu1.2.1
  have xu1 : u1 = (Gm_isKept r q) := pu1.2.2.1
  have hE := zletE xu1 hE
  have hw : zPD D A (mW ct h0 y r q) H := hw
  refine zfr 4 [.int u1] rfl rfl ?_
  refine lv_if_eq (tgt := 13) hx hb dX12_needsTown_4 (by decide) (fun c3 => ?_) (fun c3 => ?_)
  · have hE := zifT c3 hE
    have k4 : zI 0 0 (u1) := zI.eqq c3 (zI.lit (a := 0) (b := 0) (c := 0) (by decide))
    refine lv_aload_n hx hb dX12_needsTown_13 rfl (lv_at hl 0 rfl) ?_
    refine lv_aload_n hx hb dX12_needsTown_14 rfl (lv_at hl 0 rfl) ?_
    refine lv_iload_n hx hb dX12_needsTown_15 rfl (lv_at hl 1 rfl) ?_
    refine mcallV (As := [.int 0]) (rest := [.ref h0]) ⟨hx, hb, hml, hown, hts⟩ (mc_townNamed0 l D ct h0 y B r q hJ0) (wqX12_270_mc_townNamed0 hts ⟨Nat.le_of_ble_eq_true rfl, Nat.le_of_ble_eq_true rfl⟩) hw hS hA hK hN rfl hl.1 rfl (Nat.le_of_ble_eq_true rfl) dX12_needsTown_16 19 rfl (fun u5 H locs pu5 hw hS => ?_)
    have hu5 : zI (-1) 5 u5 := pu5.1
    have xu5 : u5 = (Gm_townNamed0 r q) := pu5.2.1
    have hE := zletE xu5 hE
    have hw : zPD D A (mW ct h0 y r q) H := hw
    refine zfr 19 [.int u5, .ref h0] rfl rfl ?_
    refine mput (ty := .int) (v := .int u5) hx hb hts hiX12 hown hK hw hS 36 (by decide) lf256 rfl rfl (by decide +kernel) rfl rfl dX12_needsTown_19 (zset r 136 (fun _ => u5)) _ mWf36 (fun H locs hw hS => ?_)
    refine mgen (P := fun x => mJ B x ∧ zFr [136, 109] r x) hw ⟨hJ0.setc rfl (fun _ => (hu5.w (c := (-1)) (d := 9999) (by decide))), (zFr.refl).set rfl⟩ (fun r7 er7 hw pr7 => ?_)
    have hE := zletE er7 hE
    refine lv_aload_n hx hb dX12_needsTown_22 rfl (lv_at hl 0 rfl) ?_
    refine mget (v := .int (r7 136 0)) hx hb hts hiX12 hown hK hw 36 (by decide) lf256 rfl rfl dX12_needsTown_23 ?_
    refine lv_if_ge (tgt := 37) hx hb dX12_needsTown_26 (by decide) (fun c8 => ?_) (fun c8 => ?_)
    · have hE := zifT c8 hE
      have k9 : zI 0 5 (r7 136 0) := zI.leD c8 (zI.lit (a := 0) (b := 0) (c := 0) (by decide)) (zs_in er7 hu5) (by decide)
      refine lv_iconst (v := 1) hx hb dX12_needsTown_37 (by decide) ?_
      refine lv_goto (tgt := 42) hx hb dX12_needsTown_38 (by decide) ?_
      exact ziretQ hQ hx hb hr rfl hlocks (1, r7) rfl ⟨((zI.lit (a := 1) (b := 1) (c := 1) (by decide)).w (c := 0) (d := 1) (by decide)), pr7.1, pr7.2, (fun _ => k9), (hE.symm.trans hX), trivial⟩ hw hS dX12_needsTown_42
    · have hE := zifF c8 hE
      have k10 : zI (-1) (-1) (r7 136 0) := zI.ltU (zI.nle c8) (zs_in er7 hu5) (zI.lit (a := 0) (b := 0) (c := 0) (by decide)) (by decide)
      refine lv_aload_n hx hb dX12_needsTown_29 rfl (lv_at hl 0 rfl) ?_
      refine lv_iconst (v := 2) hx hb dX12_needsTown_30 (by decide) ?_
      refine mcallV (As := [.int 2]) (rest := []) ⟨hx, hb, hml, hown, hts⟩ (mc_fails l D ct h0 y B 2 r7 q ((zI.lit (a := 2) (b := 2) (c := 2) (by decide)).w (c := 1) (d := 5) (by decide)) pr7.1) (wqX12_193_mc_fails hts ⟨Nat.le_of_ble_eq_true rfl, Nat.le_of_ble_eq_true rfl⟩) hw hS hA hK hN rfl hl.1 rfl (Nat.le_of_ble_eq_true rfl) dX12_needsTown_31 34 rfl (fun u11 H locs pu11 hw hS => ?_)
      obtain ⟨v12, r13⟩ := u11
      have hv12 : zI 0 0 v12 := pu11.1
      have ju11 : mJ B r13 := pu11.2.1
      have fu11 : zFr [109] r7 r13 := pu11.2.2.1
      have xu11 : (v12, r13) = (Gm_fails (2 : Int32) r7 q) := pu11.2.2.2.1
      have hE := zc_vrE xu11 hE
      have hw : zPD D A (mW ct h0 y r13 q) H := hw
      refine zfr 34 [.int v12] rfl rfl ?_
      refine lv_if_eq (tgt := 41) hx hb dX12_needsTown_34 (by decide) (fun c14 => ?_) (fun c14 => ?_)
      · have hE := zifT c14 hE
        refine lv_iconst (v := 0) hx hb dX12_needsTown_41 (by decide) ?_
        exact ziretQ hQ hx hb hr rfl hlocks (0, r13) rfl ⟨((zI.lit (a := 0) (b := 0) (c := 0) (by decide)).w (c := 0) (d := 1) (by decide)), ju11, (pr7.2.tr fu11 rfl), (fun h => absurd rfl h), (hE.symm.trans hX), trivial⟩ hw hS dX12_needsTown_42
      · have hE := zifF c14 hE
        exact zI.abs (a := 1) (b := 0) (zI.neD c14 hv12 (zI.lit (a := 0) (b := 0) (c := 0) (by decide)) (by decide)) (by decide)
  · have hE := zifF c3 hE
    have k15 : zI 1 1 (u1) := zI.neD c3 hu1 (zI.lit (a := 0) (b := 0) (c := 0) (by decide)) (by decide)
    refine lv_aload_n hx hb dX12_needsTown_7 rfl (lv_at hl 0 rfl) ?_
    refine lv_iconst (v := 1) hx hb dX12_needsTown_8 (by decide) ?_
    refine mcallV (As := [.int 1]) (rest := []) ⟨hx, hb, hml, hown, hts⟩ (mc_fails l D ct h0 y B 1 r q ((zI.lit (a := 1) (b := 1) (c := 1) (by decide)).w (c := 1) (d := 5) (by decide)) hJ0) (wqX12_193_mc_fails hts ⟨Nat.le_of_ble_eq_true rfl, Nat.le_of_ble_eq_true rfl⟩) hw hS hA hK hN rfl hl.1 rfl (Nat.le_of_ble_eq_true rfl) dX12_needsTown_9 12 rfl (fun u16 H locs pu16 hw hS => ?_)
    obtain ⟨v17, r18⟩ := u16
    have hv17 : zI 0 0 v17 := pu16.1
    have ju16 : mJ B r18 := pu16.2.1
    have fu16 : zFr [109] r r18 := pu16.2.2.1
    have xu16 : (v17, r18) = (Gm_fails (1 : Int32) r q) := pu16.2.2.2.1
    have hE := zc_vrE xu16 hE
    have hw : zPD D A (mW ct h0 y r18 q) H := hw
    refine zfr 12 [.int v17] rfl rfl ?_
    exact ziretQ hQ hx hb hr ((hv17.w (c := 0) (d := 1) (by decide)).rn) hlocks (v17, r18) rfl ⟨(hv17.w (c := 0) (d := 1) (by decide)), ju16, ((zFr.refl).tr fu16 rfl), (fun h => absurd (zI.eq0 hv17) h), (hE.symm.trans hX), trivial⟩ hw hS dX12_needsTown_12

set_option maxHeartbeats 4000000 in
set_option maxRecDepth 100000 in
theorem mc_needsTown1 (l : Launch) (D : va_G) (ct : Nat → ClassId) (h0 : Nat) (y : Nat → Nat) (B : Int) (r : zRr) (q : zRq) (hJ0 : mJ B r) : zC l yX12_needsTown (.code yX12_needsTown cX12_needsTown 2 (some .boolean) :: wsL_law0) ({ frames := 2, cells := 0, slots := 0, locals := 120 }) D ct [] [.ref h0, .int 1] (mW ct h0 y r q) (S := Int32 × zRr) (fun u => some (.int u.1)) (fun u => zI 0 1 u.1 ∧ mJ B u.2 ∧ zFr [136, 109] r u.2 ∧ (¬ u.1 = 0 → zI 0 5 (u.2 136 0)) ∧ (¬ u.1 = 0 → 1 ≤ (u.2 1 4).toInt) ∧ u = (Gm_needsTown1 r q) ∧ True) (fun u => mW ct h0 y u.2 q) 0 0 := by
  refine zofQ cX12_needsTown 2 (some .boolean) (by decide) rfl (Nat.le_of_ble_eq_true rfl) ?_
  intro p e s m below meth c A a9 Q ha9 hx hb hr hml hts hown hlocks hname hK hA hZ hN hQ
  have hown : s.vm.findClass RX12 = some m.cls := hown
  have hiX12 : ∀ w ∈ wsX120, w ∈ .code yX12_needsTown cX12_needsTown 2 (some .boolean) :: wsL_law0 := fun _ h => ki (zs_wsX120 _ h)
  have lf256 := hts (.fieldLink RX12 256 "BeardPassModel" "given" "I") (ki (zr23 11 rfl))
  obtain ⟨X, hX⟩ : ∃ X, X = (Gm_needsTown1 r q) := ⟨_, rfl⟩
  intro H locs hw hS ls hl
  have hl : lv_has ls 2 [(0, .ref h0), (1, .int 1)] := hl
  have hE := hX
  unfold Gm_needsTown1 at hE
  refine lv_aload_n hx hb dX12_needsTown_0 rfl (lv_at hl 0 rfl) ?_
  refine mcallV (As := []) (rest := []) ⟨hx, hb, hml, hown, hts⟩ (mc_isKept l D ct h0 y B r q hJ0) (wqX12_266_mc_isKept hts ⟨Nat.le_of_ble_eq_true rfl, Nat.le_of_ble_eq_true rfl⟩) hw hS hA hK hN rfl hl.1 rfl (Nat.le_of_ble_eq_true rfl) dX12_needsTown_1 4 rfl (fun u1 H locs pu1 hw hS => ?_)
  have hu1 : zI 0 1 u1 := pu1.1
  have yu1_0 : u1 = 0 → zI 1 1 (r 106 0) := pu1.2.1
  have xu1 : u1 = (Gm_isKept r q) := pu1.2.2.1
  have hE := zletE xu1 hE
  have hw : zPD D A (mW ct h0 y r q) H := hw
  refine zfr 4 [.int u1] rfl rfl ?_
  refine lv_if_eq (tgt := 13) hx hb dX12_needsTown_4 (by decide) (fun c3 => ?_) (fun c3 => ?_)
  · have hE := zifT c3 hE
    have k4 : zI 0 0 (u1) := zI.eqq c3 (zI.lit (a := 0) (b := 0) (c := 0) (by decide))
    refine lv_aload_n hx hb dX12_needsTown_13 rfl (lv_at hl 0 rfl) ?_
    refine lv_aload_n hx hb dX12_needsTown_14 rfl (lv_at hl 0 rfl) ?_
    refine lv_iload_n hx hb dX12_needsTown_15 rfl (lv_at hl 1 rfl) ?_
    refine mcallV (As := [.int 1]) (rest := [.ref h0]) ⟨hx, hb, hml, hown, hts⟩ (mc_townNamed1 l D ct h0 y B r q hJ0) (wqX12_270_mc_townNamed1 hts ⟨Nat.le_of_ble_eq_true rfl, Nat.le_of_ble_eq_true rfl⟩) hw hS hA hK hN rfl hl.1 rfl (Nat.le_of_ble_eq_true rfl) dX12_needsTown_16 19 rfl (fun u5 H locs pu5 hw hS => ?_)
    have hu5 : zI (-1) 5 u5 := pu5.1
    have yu5_0 : (0 ≤ u5.toInt → 1 ≤ (r 1 4).toInt) := pu5.2.1
    have xu5 : u5 = (Gm_townNamed1 r q) := pu5.2.2.1
    have hE := zletE xu5 hE
    have hw : zPD D A (mW ct h0 y r q) H := hw
    refine zfr 19 [.int u5, .ref h0] rfl rfl ?_
    refine mput (ty := .int) (v := .int u5) hx hb hts hiX12 hown hK hw hS 36 (by decide) lf256 rfl rfl (by decide +kernel) rfl rfl dX12_needsTown_19 (zset r 136 (fun _ => u5)) _ mWf36 (fun H locs hw hS => ?_)
    refine mgen (P := fun x => mJ B x ∧ zFr [136, 109] r x) hw ⟨hJ0.setc rfl (fun _ => (hu5.w (c := (-1)) (d := 9999) (by decide))), (zFr.refl).set rfl⟩ (fun r7 er7 hw pr7 => ?_)
    have hE := zletE er7 hE
    refine lv_aload_n hx hb dX12_needsTown_22 rfl (lv_at hl 0 rfl) ?_
    refine mget (v := .int (r7 136 0)) hx hb hts hiX12 hown hK hw 36 (by decide) lf256 rfl rfl dX12_needsTown_23 ?_
    refine lv_if_ge (tgt := 37) hx hb dX12_needsTown_26 (by decide) (fun c8 => ?_) (fun c8 => ?_)
    · have hE := zifT c8 hE
      have k9 : zI 0 5 (r7 136 0) := zI.leD c8 (zI.lit (a := 0) (b := 0) (c := 0) (by decide)) (zs_in er7 hu5) (by decide)
      refine lv_iconst (v := 1) hx hb dX12_needsTown_37 (by decide) ?_
      refine lv_goto (tgt := 42) hx hb dX12_needsTown_38 (by decide) ?_
      exact ziretQ hQ hx hb hr rfl hlocks (1, r7) rfl ⟨((zI.lit (a := 1) (b := 1) (c := 1) (by decide)).w (c := 0) (d := 1) (by decide)), pr7.1, pr7.2, (fun _ => k9), (show ¬ (1 : Int32) = 0 → 1 ≤ (r7 1 4).toInt from (fun _ => by rw [(zs_row (k := 1) er7 (by decide))]; exact yu5_0 (by have h9 := (k9).1; rw [(congrFun (zs_self er7) 0)] at h9; exact h9))), (hE.symm.trans hX), trivial⟩ hw hS dX12_needsTown_42
    · have hE := zifF c8 hE
      have k10 : zI (-1) (-1) (r7 136 0) := zI.ltU (zI.nle c8) (zs_in er7 hu5) (zI.lit (a := 0) (b := 0) (c := 0) (by decide)) (by decide)
      refine lv_aload_n hx hb dX12_needsTown_29 rfl (lv_at hl 0 rfl) ?_
      refine lv_iconst (v := 2) hx hb dX12_needsTown_30 (by decide) ?_
      refine mcallV (As := [.int 2]) (rest := []) ⟨hx, hb, hml, hown, hts⟩ (mc_fails l D ct h0 y B 2 r7 q ((zI.lit (a := 2) (b := 2) (c := 2) (by decide)).w (c := 1) (d := 5) (by decide)) pr7.1) (wqX12_193_mc_fails hts ⟨Nat.le_of_ble_eq_true rfl, Nat.le_of_ble_eq_true rfl⟩) hw hS hA hK hN rfl hl.1 rfl (Nat.le_of_ble_eq_true rfl) dX12_needsTown_31 34 rfl (fun u11 H locs pu11 hw hS => ?_)
      obtain ⟨v12, r13⟩ := u11
      have hv12 : zI 0 0 v12 := pu11.1
      have ju11 : mJ B r13 := pu11.2.1
      have fu11 : zFr [109] r7 r13 := pu11.2.2.1
      have xu11 : (v12, r13) = (Gm_fails (2 : Int32) r7 q) := pu11.2.2.2.1
      have hE := zc_vrE xu11 hE
      have hw : zPD D A (mW ct h0 y r13 q) H := hw
      refine zfr 34 [.int v12] rfl rfl ?_
      refine lv_if_eq (tgt := 41) hx hb dX12_needsTown_34 (by decide) (fun c14 => ?_) (fun c14 => ?_)
      · have hE := zifT c14 hE
        refine lv_iconst (v := 0) hx hb dX12_needsTown_41 (by decide) ?_
        exact ziretQ hQ hx hb hr rfl hlocks (0, r13) rfl ⟨((zI.lit (a := 0) (b := 0) (c := 0) (by decide)).w (c := 0) (d := 1) (by decide)), ju11, (pr7.2.tr fu11 rfl), (fun h => absurd rfl h), (fun h => absurd rfl h), (hE.symm.trans hX), trivial⟩ hw hS dX12_needsTown_42
      · have hE := zifF c14 hE
        exact zI.abs (a := 1) (b := 0) (zI.neD c14 hv12 (zI.lit (a := 0) (b := 0) (c := 0) (by decide)) (by decide)) (by decide)
  · have hE := zifF c3 hE
    have k15 : zI 1 1 (u1) := zI.neD c3 hu1 (zI.lit (a := 0) (b := 0) (c := 0) (by decide)) (by decide)
    refine lv_aload_n hx hb dX12_needsTown_7 rfl (lv_at hl 0 rfl) ?_
    refine lv_iconst (v := 1) hx hb dX12_needsTown_8 (by decide) ?_
    refine mcallV (As := [.int 1]) (rest := []) ⟨hx, hb, hml, hown, hts⟩ (mc_fails l D ct h0 y B 1 r q ((zI.lit (a := 1) (b := 1) (c := 1) (by decide)).w (c := 1) (d := 5) (by decide)) hJ0) (wqX12_193_mc_fails hts ⟨Nat.le_of_ble_eq_true rfl, Nat.le_of_ble_eq_true rfl⟩) hw hS hA hK hN rfl hl.1 rfl (Nat.le_of_ble_eq_true rfl) dX12_needsTown_9 12 rfl (fun u16 H locs pu16 hw hS => ?_)
    obtain ⟨v17, r18⟩ := u16
    have hv17 : zI 0 0 v17 := pu16.1
    have ju16 : mJ B r18 := pu16.2.1
    have fu16 : zFr [109] r r18 := pu16.2.2.1
    have xu16 : (v17, r18) = (Gm_fails (1 : Int32) r q) := pu16.2.2.2.1
    have hE := zc_vrE xu16 hE
    have hw : zPD D A (mW ct h0 y r18 q) H := hw
    refine zfr 12 [.int v17] rfl rfl ?_
    exact ziretQ hQ hx hb hr ((hv17.w (c := 0) (d := 1) (by decide)).rn) hlocks (v17, r18) rfl ⟨(hv17.w (c := 0) (d := 1) (by decide)), ju16, ((zFr.refl).tr fu16 rfl), (fun h => absurd (zI.eq0 hv17) h), (fun h => absurd (zI.eq0 hv17) h), (hE.symm.trans hX), trivial⟩ hw hS dX12_needsTown_12

set_option maxHeartbeats 4000000 in
set_option maxRecDepth 100000 in
theorem mc_needsPerson (l : Launch) (D : va_G) (ct : Nat → ClassId) (h0 : Nat) (y : Nat → Nat) (B : Int) (r : zRr) (q : zRq) (hJ0 : mJ B r) : zC l yX12_needsPerson (.code yX12_needsPerson cX12_needsPerson 1 (some .boolean) :: wsL_law0) ({ frames := 2, cells := 0, slots := 0, locals := 120 }) D ct [] [.ref h0] (mW ct h0 y r q) (S := Int32 × zRr) (fun u => some (.int u.1)) (fun u => zI 0 1 u.1 ∧ mJ B u.2 ∧ zFr [136, 109] r u.2 ∧ (¬ u.1 = 0 → zI 0 5 (u.2 136 0)) ∧ u = (Gm_needsPerson r q) ∧ True) (fun u => mW ct h0 y u.2 q) 0 0 := by
  refine zofQ cX12_needsPerson 1 (some .boolean) (by decide) rfl (Nat.le_of_ble_eq_true rfl) ?_
  intro p e s m below meth c A a9 Q ha9 hx hb hr hml hts hown hlocks hname hK hA hZ hN hQ
  have hown : s.vm.findClass RX12 = some m.cls := hown
  have hiX12 : ∀ w ∈ wsX120, w ∈ .code yX12_needsPerson cX12_needsPerson 1 (some .boolean) :: wsL_law0 := fun _ h => ki (zs_wsX120 _ h)
  have lf256 := hts (.fieldLink RX12 256 "BeardPassModel" "given" "I") (ki (zr23 11 rfl))
  obtain ⟨X, hX⟩ : ∃ X, X = (Gm_needsPerson r q) := ⟨_, rfl⟩
  intro H locs hw hS ls hl
  have hl : lv_has ls 1 [(0, .ref h0)] := hl
  have hE := hX
  unfold Gm_needsPerson at hE
  refine lv_aload_n hx hb dX12_needsPerson_0 rfl (lv_at hl 0 rfl) ?_
  refine mcallV (As := []) (rest := []) ⟨hx, hb, hml, hown, hts⟩ (mc_isKept l D ct h0 y B r q hJ0) (wqX12_266_mc_isKept hts ⟨Nat.le_of_ble_eq_true rfl, Nat.le_of_ble_eq_true rfl⟩) hw hS hA hK hN rfl hl.1 rfl (Nat.le_of_ble_eq_true rfl) dX12_needsPerson_1 4 rfl (fun u1 H locs pu1 hw hS => ?_)
  have hu1 : zI 0 1 u1 := pu1.1
  have yu1_0 : u1 = 0 → zI 1 1 (r 106 0) := pu1.2.1
  have xu1 : u1 = (Gm_isKept r q) := pu1.2.2.1
  have hE := zletE xu1 hE
  have hw : zPD D A (mW ct h0 y r q) H := hw
  refine zfr 4 [.int u1] rfl rfl ?_
  refine lv_if_eq (tgt := 13) hx hb dX12_needsPerson_4 (by decide) (fun c3 => ?_) (fun c3 => ?_)
  · have hE := zifT c3 hE
    have k4 : zI 0 0 (u1) := zI.eqq c3 (zI.lit (a := 0) (b := 0) (c := 0) (by decide))
    refine lv_aload_n hx hb dX12_needsPerson_13 rfl (lv_at hl 0 rfl) ?_
    refine lv_aload_n hx hb dX12_needsPerson_14 rfl (lv_at hl 0 rfl) ?_
    refine lv_iconst (v := 0) hx hb dX12_needsPerson_15 (by decide) ?_
    refine mcallV (As := [.int 0]) (rest := [.ref h0]) ⟨hx, hb, hml, hown, hts⟩ (mc_personNamed0 l D ct h0 y B r q hJ0) (wqX12_273_mc_personNamed0 hts ⟨Nat.le_of_ble_eq_true rfl, Nat.le_of_ble_eq_true rfl⟩) hw hS hA hK hN rfl hl.1 rfl (Nat.le_of_ble_eq_true rfl) dX12_needsPerson_16 19 rfl (fun u5 H locs pu5 hw hS => ?_)
    have hu5 : zI (-1) 5 u5 := pu5.1
    have xu5 : u5 = (Gm_personNamed0 r q) := pu5.2.1
    have hE := zletE xu5 hE
    have hw : zPD D A (mW ct h0 y r q) H := hw
    refine zfr 19 [.int u5, .ref h0] rfl rfl ?_
    refine mput (ty := .int) (v := .int u5) hx hb hts hiX12 hown hK hw hS 36 (by decide) lf256 rfl rfl (by decide +kernel) rfl rfl dX12_needsPerson_19 (zset r 136 (fun _ => u5)) _ mWf36 (fun H locs hw hS => ?_)
    refine mgen (P := fun x => mJ B x ∧ zFr [136, 109] r x) hw ⟨hJ0.setc rfl (fun _ => (hu5.w (c := (-1)) (d := 9999) (by decide))), (zFr.refl).set rfl⟩ (fun r7 er7 hw pr7 => ?_)
    have hE := zletE er7 hE
    refine lv_aload_n hx hb dX12_needsPerson_22 rfl (lv_at hl 0 rfl) ?_
    refine mget (v := .int (r7 136 0)) hx hb hts hiX12 hown hK hw 36 (by decide) lf256 rfl rfl dX12_needsPerson_23 ?_
    refine lv_if_ge (tgt := 37) hx hb dX12_needsPerson_26 (by decide) (fun c8 => ?_) (fun c8 => ?_)
    · have hE := zifT c8 hE
      have k9 : zI 0 5 (r7 136 0) := zI.leD c8 (zI.lit (a := 0) (b := 0) (c := 0) (by decide)) (zs_in er7 hu5) (by decide)
      refine lv_iconst (v := 1) hx hb dX12_needsPerson_37 (by decide) ?_
      refine lv_goto (tgt := 42) hx hb dX12_needsPerson_38 (by decide) ?_
      exact ziretQ hQ hx hb hr rfl hlocks (1, r7) rfl ⟨((zI.lit (a := 1) (b := 1) (c := 1) (by decide)).w (c := 0) (d := 1) (by decide)), pr7.1, pr7.2, (fun _ => k9), (hE.symm.trans hX), trivial⟩ hw hS dX12_needsPerson_42
    · have hE := zifF c8 hE
      have k10 : zI (-1) (-1) (r7 136 0) := zI.ltU (zI.nle c8) (zs_in er7 hu5) (zI.lit (a := 0) (b := 0) (c := 0) (by decide)) (by decide)
      refine lv_aload_n hx hb dX12_needsPerson_29 rfl (lv_at hl 0 rfl) ?_
      refine lv_iconst (v := 2) hx hb dX12_needsPerson_30 (by decide) ?_
      refine mcallV (As := [.int 2]) (rest := []) ⟨hx, hb, hml, hown, hts⟩ (mc_fails l D ct h0 y B 2 r7 q ((zI.lit (a := 2) (b := 2) (c := 2) (by decide)).w (c := 1) (d := 5) (by decide)) pr7.1) (wqX12_193_mc_fails hts ⟨Nat.le_of_ble_eq_true rfl, Nat.le_of_ble_eq_true rfl⟩) hw hS hA hK hN rfl hl.1 rfl (Nat.le_of_ble_eq_true rfl) dX12_needsPerson_31 34 rfl (fun u11 H locs pu11 hw hS => ?_)
      obtain ⟨v12, r13⟩ := u11
      have hv12 : zI 0 0 v12 := pu11.1
      have ju11 : mJ B r13 := pu11.2.1
      have fu11 : zFr [109] r7 r13 := pu11.2.2.1
      have xu11 : (v12, r13) = (Gm_fails (2 : Int32) r7 q) := pu11.2.2.2.1
      have hE := zc_vrE xu11 hE
      have hw : zPD D A (mW ct h0 y r13 q) H := hw
      refine zfr 34 [.int v12] rfl rfl ?_
      refine lv_if_eq (tgt := 41) hx hb dX12_needsPerson_34 (by decide) (fun c14 => ?_) (fun c14 => ?_)
      · have hE := zifT c14 hE
        refine lv_iconst (v := 0) hx hb dX12_needsPerson_41 (by decide) ?_
        exact ziretQ hQ hx hb hr rfl hlocks (0, r13) rfl ⟨((zI.lit (a := 0) (b := 0) (c := 0) (by decide)).w (c := 0) (d := 1) (by decide)), ju11, (pr7.2.tr fu11 rfl), (fun h => absurd rfl h), (hE.symm.trans hX), trivial⟩ hw hS dX12_needsPerson_42
      · have hE := zifF c14 hE
        exact zI.abs (a := 1) (b := 0) (zI.neD c14 hv12 (zI.lit (a := 0) (b := 0) (c := 0) (by decide)) (by decide)) (by decide)
  · have hE := zifF c3 hE
    have k15 : zI 1 1 (u1) := zI.neD c3 hu1 (zI.lit (a := 0) (b := 0) (c := 0) (by decide)) (by decide)
    refine lv_aload_n hx hb dX12_needsPerson_7 rfl (lv_at hl 0 rfl) ?_
    refine lv_iconst (v := 1) hx hb dX12_needsPerson_8 (by decide) ?_
    refine mcallV (As := [.int 1]) (rest := []) ⟨hx, hb, hml, hown, hts⟩ (mc_fails l D ct h0 y B 1 r q ((zI.lit (a := 1) (b := 1) (c := 1) (by decide)).w (c := 1) (d := 5) (by decide)) hJ0) (wqX12_193_mc_fails hts ⟨Nat.le_of_ble_eq_true rfl, Nat.le_of_ble_eq_true rfl⟩) hw hS hA hK hN rfl hl.1 rfl (Nat.le_of_ble_eq_true rfl) dX12_needsPerson_9 12 rfl (fun u16 H locs pu16 hw hS => ?_)
    obtain ⟨v17, r18⟩ := u16
    have hv17 : zI 0 0 v17 := pu16.1
    have ju16 : mJ B r18 := pu16.2.1
    have fu16 : zFr [109] r r18 := pu16.2.2.1
    have xu16 : (v17, r18) = (Gm_fails (1 : Int32) r q) := pu16.2.2.2.1
    have hE := zc_vrE xu16 hE
    have hw : zPD D A (mW ct h0 y r18 q) H := hw
    refine zfr 12 [.int v17] rfl rfl ?_
    exact ziretQ hQ hx hb hr ((hv17.w (c := 0) (d := 1) (by decide)).rn) hlocks (v17, r18) rfl ⟨(hv17.w (c := 0) (d := 1) (by decide)), ju16, ((zFr.refl).tr fu16 rfl), (fun h => absurd (zI.eq0 hv17) h), (hE.symm.trans hX), trivial⟩ hw hS dX12_needsPerson_12
set_option maxHeartbeats 4000000 in
set_option maxRecDepth 100000 in
theorem mc_puts (l : Launch) (D : va_G) (ct : Nat → ClassId) (h0 : Nat) (y : Nat → Nat) (B : Int) (a1 : Int32) (r : zRr) (q : zRq) (hJ0 : mJ B r) (x1 : zI 1000 1999 (r 122 0)) : zC l yX12_puts (.code yX12_puts cX12_puts 2 none :: wsL_law0) ({ frames := 1, cells := 0, slots := 0, locals := 80 }) D ct [] [.ref h0, .int a1] (mW ct h0 y r q) (S := zRr) (fun u => none) (fun u => mJ B u ∧ zFr [12, 122] r u ∧ (u 12 = upd (r 12) (zn (r 122 0)) a1) ∧ (u 122 0 = r 122 0 + 1) ∧ u = (Gm_puts a1 r q) ∧ True) (fun u => mW ct h0 y u q) 0 0 := by
  refine zofQ cX12_puts 2 none (by decide) rfl (Nat.le_of_ble_eq_true rfl) ?_
  intro p e s m below meth c A a9 Q ha9 hx hb hr hml hts hown hlocks hname hK hA hZ hN hQ
  have hown : s.vm.findClass RX12 = some m.cls := hown
  have hiX12 : ∀ w ∈ wsX120, w ∈ .code yX12_puts cX12_puts 2 none :: wsL_law0 := fun _ h => ki (zs_wsX120 _ h)
  have lf47 := hts (.fieldLink RX12 47 "BeardPassModel" "codes" "[I") (ki (zr8 7 rfl))
  have lf168 := hts (.fieldLink RX12 168 "BeardPassModel" "code" "I") (ki (zr21 23 rfl))
  obtain ⟨X, hX⟩ : ∃ X, X = (Gm_puts a1 r q) := ⟨_, rfl⟩
  intro H locs hw hS ls hl
  have hl : lv_has ls 2 [(0, .ref h0), (1, .int a1)] := hl
  have hE := hX
  unfold Gm_puts at hE
  refine lv_aload_n hx hb dX12_puts_0 rfl (lv_at hl 0 rfl) ?_
  refine mget (v := .ref (y 12)) hx hb hts hiX12 hown hK hw 21 (by decide) lf47 rfl rfl dX12_puts_1 ?_
  refine lv_aload_n hx hb dX12_puts_4 rfl (lv_at hl 0 rfl) ?_
  refine mget (v := .int (r 122 0)) hx hb hts hiX12 hown hK hw 22 (by decide) lf168 rfl rfl dX12_puts_5 ?_
  refine lv_iload_n hx hb dX12_puts_8 rfl (lv_at hl 1 rfl) ?_
  refine miast hx hb hK hw hS 13 mWg12 x1 (by decide) dX12_puts_9 (mW ct h0 y (zset r 12 (upd (r 12) (zn (r 122 0)) a1)) q) mWs12 (fun H locs hw hS => ?_)
  refine mgen (P := fun x => mJ B x ∧ zFr [12, 122] r x) hw ⟨hJ0.setC (by have h9 := (x1).nn (by decide); omega), (zFr.refl).set rfl⟩ (fun r1 er1 hw pr1 => ?_)
  have hE := zletE er1 hE
  refine lv_aload_n hx hb dX12_puts_10 rfl (lv_at hl 0 rfl) ?_
  refine lv_dup hx hb dX12_puts_11 rfl ?_
  refine mget (v := .int (r1 122 0)) hx hb hts hiX12 hown hK hw 22 (by decide) lf168 rfl rfl dX12_puts_12 ?_
  refine lv_iconst (v := 1) hx hb dX12_puts_15 (by decide) ?_
  refine lv_iadd hx hb dX12_puts_16 ?_
  have k2 : zI 1001 2000 ((r1 122 0) + 1) := zI.add (zs_at er1 x1 (by decide)) (zI.lit (a := 1) (b := 1) (c := 1) (by decide)) (by decide)
  refine mput (ty := .int) (v := .int ((r1 122 0) + 1)) hx hb hts hiX12 hown hK hw hS 22 (by decide) lf168 rfl rfl (by decide +kernel) rfl rfl dX12_puts_17 (zset r1 122 (fun _ => (r1 122 0) + 1)) _ mWf22 (fun H locs hw hS => ?_)
  refine mgen (P := fun x => mJ B x ∧ zFr [12, 122] r x) hw ⟨pr1.1.setc rfl (fun _ => (k2.w (c := 0) (d := 2000) (by decide))), pr1.2.set rfl⟩ (fun r3 er3 hw pr3 => ?_)
  have hE := zletE er3 hE
  exact zvretQ hQ hx hb hr hlocks r3 rfl ⟨pr3.1, pr3.2, (show r3 12 = upd (r 12) (zn (r 122 0)) a1 from ((zs_row (k := 12) er3 (by decide)).trans (zs_self er1))), (show r3 122 0 = r 122 0 + 1 from ((congrFun (zs_self er3) 0).trans (congrArg (fun z => z + 1) (congrFun (zs_row (k := 122) er1 (by decide)) 0)))), (hE.symm.trans hX), trivial⟩ hw hS dX12_puts_20

set_option maxHeartbeats 4000000 in
set_option maxRecDepth 100000 in
theorem mc_readsTown (l : Launch) (D : va_G) (ct : Nat → ClassId) (h0 : Nat) (y : Nat → Nat) (B : Int) (r : zRr) (q : zRq) (hJ0 : mJ B r) (x1 : mP r) (x2 : zI 1 4 (r 106 0)) : zC l yX12_readsTown (.code yX12_readsTown cX12_readsTown 2 (some .boolean) :: wsL_law0) ({ frames := 5, cells := 0, slots := 0, locals := 240 }) D ct [] [.ref h0] (mW ct h0 y r q) (S := Int32 × zRr × zRq) (fun u => some (.int u.1)) (fun u => zI 0 1 u.1 ∧ mJ B u.2.1 ∧ zFr [104, 105, 106, 108, 109, 136, 4, 5, 1] r u.2.1 ∧ (mP u.2.1) ∧ (¬ u.1 = 0 → (r 105 0).toInt < (u.2.1 105 0).toInt) ∧ (¬ u.1 = 0 → mT1 u.2.1) ∧ u = (Gm_readsTown r q) ∧ True) (fun u => mW ct h0 y u.2.1 u.2.2) 0 0 := by
  refine zofQ cX12_readsTown 2 (some .boolean) (by decide) rfl (Nat.le_of_ble_eq_true rfl) ?_
  intro p e s m below meth c A a9 Q ha9 hx hb hr hml hts hown hlocks hname hK hA hZ hN hQ
  have hown : s.vm.findClass RX12 = some m.cls := hown
  have hiX12 : ∀ w ∈ wsX120, w ∈ .code yX12_readsTown cX12_readsTown 2 (some .boolean) :: wsL_law0 := fun _ h => ki (zs_wsX120 _ h)
  have lf13 := hts (.fieldLink RX12 13 "BeardPassModel" "land" "[I") (ki (zr7 20 rfl))
  have lf16 := hts (.fieldLink RX12 16 "BeardPassModel" "townName" "[J") (ki (zr7 21 rfl))
  have lf23 := hts (.fieldLink RX12 23 "BeardPassModel" "asks" "[I") (ki (zr7 23 rfl))
  have lf26 := hts (.fieldLink RX12 26 "BeardPassModel" "roads" "[I") (ki (zr8 0 rfl))
  have lf256 := hts (.fieldLink RX12 256 "BeardPassModel" "given" "I") (ki (zr23 11 rfl))
  have lf276 := hts (.fieldLink RX12 276 "BeardPassModel" "fresh" "J") (ki (zr23 12 rfl))
  obtain ⟨X, hX⟩ : ∃ X, X = (Gm_readsTown r q) := ⟨_, rfl⟩
  intro H locs hw hS ls hl
  have hl : lv_has ls 2 [(0, .ref h0)] := hl
  have hE := hX
  unfold Gm_readsTown at hE
  refine lv_bipush (v := 6) hx hb dX12_readsTown_0 (by decide) ?_
  refine lv_aload_n hx hb dX12_readsTown_2 rfl (lv_at hl 0 rfl) ?_
  refine mget (v := .ref (y 1)) hx hb hts hiX12 hown hK hw 10 (by decide) lf13 rfl rfl dX12_readsTown_3 ?_
  refine lv_iconst (v := 4) hx hb dX12_readsTown_6 (by decide) ?_
  refine ziald hx hb hK hw 2 mWg1 4 (by decide) (by decide) (by decide) dX12_readsTown_7 ?_
  refine lv_iadd hx hb dX12_readsTown_8 ?_
  have k1 : zI 6 12 (6 + (r 1 4)) := zI.add (zI.lit (a := 6) (b := 6) (c := 6) (by decide)) (show zI 0 6 (r 1 4) from hJ0.i 1 4) (by decide)
  refine lv_istore_n (lv' := [(1, .int (6 + (r 1 4))), (0, .ref h0)]) hx hb dX12_readsTown_9 rfl hl (by decide) rfl (fun ls hl => ?_)
  refine lv_iload_n hx hb dX12_readsTown_10 rfl (lv_at hl 0 rfl) ?_
  refine lv_bipush (v := 12) hx hb dX12_readsTown_11 (by decide) ?_
  refine lv_icmp_ne (tgt := 22) hx hb dX12_readsTown_13 (by decide) (fun c2 => ?_) (fun c2 => ?_)
  · have hE := zifnT c2 hE
    have k3 : zI 6 11 (6 + (r 1 4)) := zI.neU c2 k1 (zI.lit (a := 12) (b := 12) (c := 12) (by decide)) (by decide)
    have k4 : zI 0 5 (r 1 4) := zI.un6 k3 (show zI 0 6 (r 1 4) from hJ0.i 1 4)
    refine lv_aload_n hx hb dX12_readsTown_22 rfl (lv_at hl 1 rfl) ?_
    refine mcallV (As := []) (rest := []) ⟨hx, hb, hml, hown, hts⟩ (mc_nextToken l D ct h0 y B r q hJ0 ((x1).2.1)) (wqX12_200_mc_nextToken hts ⟨Nat.le_of_ble_eq_true rfl, Nat.le_of_ble_eq_true rfl⟩) hw hS hA hK hN rfl hl.1 rfl (Nat.le_of_ble_eq_true rfl) dX12_readsTown_23 26 rfl (fun u5 H locs pu5 hw hS => ?_)
    obtain ⟨r6, q7⟩ := u5
    have ju5 : mJ B r6 := pu5.1
    have fu5 : zFr [104, 105, 106, 108] r r6 := pu5.2.1
    have yu5_0 : mP r6 := pu5.2.2.1
    have yu5_1 : (r 104 0).toInt ≤ (r6 105 0).toInt := pu5.2.2.2.1
    have xu5 : (r6, q7) = (Gm_nextToken r q) := pu5.2.2.2.2.1
    have hE := zc_rqE xu5 hE
    have hw : zPD D A (mW ct h0 y r6 q7) H := hw
    refine zfr 26 [] rfl rfl ?_
    refine lv_aload_n hx hb dX12_readsTown_26 rfl (lv_at hl 1 rfl) ?_
    refine mcallV (As := []) (rest := []) ⟨hx, hb, hml, hown, hts⟩ (mc_needsNew l D ct h0 y B r6 q7 ju5 (yu5_0)) (wqX12_279_mc_needsNew hts ⟨Nat.le_of_ble_eq_true rfl, Nat.le_of_ble_eq_true rfl⟩) hw hS hA hK hN rfl hl.1 rfl (Nat.le_of_ble_eq_true rfl) dX12_readsTown_27 30 rfl (fun u8 H locs pu8 hw hS => ?_)
    obtain ⟨v9, r10, q11⟩ := u8
    have hv9 : zI 0 1 v9 := pu8.1
    have ju8 : mJ B r10 := pu8.2.1
    have fu8 : zFr [104, 105, 106, 108, 109] r6 r10 := pu8.2.2.1
    have yu8_0 : mP r10 := pu8.2.2.2.1
    have yu8_1 : (r6 105 0).toInt ≤ (r10 105 0).toInt := pu8.2.2.2.2.1
    have xu8 : (v9, r10, q11) = (Gm_needsNew r6 q7) := pu8.2.2.2.2.2.1
    have hE := zc_vrqE xu8 hE
    have hw : zPD D A (mW ct h0 y r10 q11) H := hw
    refine zfr 30 [.int v9] rfl rfl ?_
    refine lv_if_eq (tgt := 46) hx hb dX12_readsTown_30 (by decide) (fun c12 => ?_) (fun c12 => ?_)
    · have hE := zifT c12 hE
      have k13 : zI 0 0 (v9) := zI.eqq c12 (zI.lit (a := 0) (b := 0) (c := 0) (by decide))
      refine lv_iconst (v := 0) hx hb dX12_readsTown_46 (by decide) ?_
      exact ziretQ hQ hx hb hr rfl hlocks (0, r10, q11) rfl ⟨((zI.lit (a := 0) (b := 0) (c := 0) (by decide)).w (c := 0) (d := 1) (by decide)), ju8, (((zFr.refl).tr fu5 rfl).tr fu8 rfl), (show mP r10 from yu8_0), (fun h => absurd rfl h), (fun h => absurd rfl h), (hE.symm.trans hX), trivial⟩ hw hS dX12_readsTown_47
    · have hE := zifF c12 hE
      have k14 : zI 1 1 (v9) := zI.neD c12 hv9 (zI.lit (a := 0) (b := 0) (c := 0) (by decide)) (by decide)
      refine lv_aload_n hx hb dX12_readsTown_33 rfl (lv_at hl 1 rfl) ?_
      refine lv_ldc2 hx hb hown (hts (.constantLong RX12 218 33850) (ki (zr23 10 rfl))) dX12_readsTown_34 ?_
      refine lv_iconst (v := 0) hx hb dX12_readsTown_37 (by decide) ?_
      refine lv_bipush (v := 30) hx hb dX12_readsTown_38 (by decide) ?_
      refine mcallV (As := [.long 33850, .int 0, .int 30]) (rest := []) ⟨hx, hb, hml, hown, hts⟩ (mc_needsBoth l D ct h0 y B 33850 0 30 r10 q11 ju8 (yu8_0)) (wqX12_282_mc_needsBoth hts ⟨Nat.le_of_ble_eq_true rfl, Nat.le_of_ble_eq_true rfl⟩) hw hS hA hK hN rfl hl.1 rfl (Nat.le_of_ble_eq_true rfl) dX12_readsTown_40 43 rfl (fun u15 H locs pu15 hw hS => ?_)
      obtain ⟨v16, r17, q18⟩ := u15
      have hv16 : zI 0 1 v16 := pu15.1
      have ju15 : mJ B r17 := pu15.2.1
      have fu15 : zFr [104, 105, 106, 108, 109, 136] r10 r17 := pu15.2.2.1
      have yu15_0 : mP r17 := pu15.2.2.2.1
      have yu15_1 : (r10 105 0).toInt ≤ (r17 105 0).toInt := pu15.2.2.2.2.1
      have yu15_2 : ¬ v16 = 0 → zI 0 9999 (r17 136 0) := pu15.2.2.2.2.2.1
      have xu15 : (v16, r17, q18) = (Gm_needsBoth (33850 : Int64) (0 : Int32) (30 : Int32) r10 q11) := pu15.2.2.2.2.2.2.1
      have hE := zc_vrqE xu15 hE
      have hw : zPD D A (mW ct h0 y r17 q18) H := hw
      refine zfr 43 [.int v16] rfl rfl ?_
      refine lv_if_ne (tgt := 48) hx hb dX12_readsTown_43 (by decide) (fun c19 => ?_) (fun c19 => ?_)
      · have hE := zifnT c19 hE
        have k20 : zI 1 1 (v16) := zI.neD c19 hv16 (zI.lit (a := 0) (b := 0) (c := 0) (by decide)) (by decide)
        refine lv_aload_n hx hb dX12_readsTown_48 rfl (lv_at hl 1 rfl) ?_
        refine mget (v := .ref (y 4)) hx hb hts hiX12 hown hK hw 13 (by decide) lf23 rfl rfl dX12_readsTown_49 ?_
        refine lv_iload_n hx hb dX12_readsTown_52 rfl (lv_at hl 0 rfl) ?_
        refine lv_aload_n hx hb dX12_readsTown_53 rfl (lv_at hl 1 rfl) ?_
        refine mget (v := .int (r17 136 0)) hx hb hts hiX12 hown hK hw 36 (by decide) lf256 rfl rfl dX12_readsTown_54 (zgenE (lo := 0) (hi := 9999) ((yu15_2 c19)) (fun v21 ev21 hv21 => ?_))
        have hE := zletE ev21 hE
        refine miast hx hb hK hw hS 5 mWg4 k3 (by decide) dX12_readsTown_57 (mW ct h0 y (zset r17 4 (upd (r17 4) (zn (6 + (r 1 4))) v21)) q18) mWs4 (fun H locs hw hS => ?_)
        refine mgen (P := fun x => mJ B x ∧ zFr [104, 105, 106, 108, 109, 136, 4, 5, 1] r x) hw ⟨ju15.set rfl (zI.top _), ((((zFr.refl).tr fu5 rfl).tr fu8 rfl).tr fu15 rfl).set rfl⟩ (fun r22 er22 hw pr22 => ?_)
        have hE := zletE er22 hE
        refine lv_aload_n hx hb dX12_readsTown_58 rfl (lv_at hl 1 rfl) ?_
        refine mget (v := .ref (y 5)) hx hb hts hiX12 hown hK hw 14 (by decide) lf26 rfl rfl dX12_readsTown_59 ?_
        refine lv_iload_n hx hb dX12_readsTown_62 rfl (lv_at hl 0 rfl) ?_
        refine lv_iconst (v := 0) hx hb dX12_readsTown_63 (by decide) ?_
        refine miast hx hb hK hw hS 6 mWg5 k3 (by decide) dX12_readsTown_64 (mW ct h0 y (zset r22 5 (upd (r22 5) (zn (6 + (r 1 4))) (0 : Int32))) q18) mWs5 (fun H locs hw hS => ?_)
        refine mgen (P := fun x => mJ B x ∧ zFr [104, 105, 106, 108, 109, 136, 4, 5, 1] r x) hw ⟨pr22.1.set rfl (zI.top _), pr22.2.set rfl⟩ (fun r23 er23 hw pr23 => ?_)
        have hE := zletE er23 hE
        refine lv_aload_n hx hb dX12_readsTown_65 rfl (lv_at hl 1 rfl) ?_
        refine mget (v := .ref (y 2)) hx hb hts hiX12 hown hK hw 11 (by decide) lf16 rfl rfl dX12_readsTown_66 ?_
        refine lv_iload_n hx hb dX12_readsTown_69 rfl (lv_at hl 0 rfl) ?_
        refine lv_aload_n hx hb dX12_readsTown_70 rfl (lv_at hl 1 rfl) ?_
        refine mget (v := .long (q18 137 0)) hx hb hts hiX12 hown hK hw 37 (by decide) lf276 rfl rfl dX12_readsTown_71 (zgenLE (fun v24 ev24 => ?_))
        have hE := zletE ev24 hE
        refine mlast hx hb hK hw hS 3 mWg2 k3 (by decide) dX12_readsTown_74 (mW ct h0 y r23 (zset q18 2 (vp_updL (q18 2) (zn (6 + (r 1 4))) v24))) mWs2 (fun H locs hw hS => ?_)
        refine mqgen hw (fun q25 eq25 hw => ?_)
        have hE := zletE eq25 hE
        refine lv_aload_n hx hb dX12_readsTown_75 rfl (lv_at hl 1 rfl) ?_
        refine mget (v := .ref (y 1)) hx hb hts hiX12 hown hK hw 10 (by decide) lf13 rfl rfl dX12_readsTown_76 ?_
        refine lv_iconst (v := 4) hx hb dX12_readsTown_79 (by decide) ?_
        refine lv_dup2_11 hx hb dX12_readsTown_80 rfl rfl ?_
        refine ziald hx hb hK hw 2 mWg1 4 (by decide) (by decide) (by decide) dX12_readsTown_81 ?_
        refine lv_iconst (v := 1) hx hb dX12_readsTown_82 (by decide) ?_
        refine lv_iadd hx hb dX12_readsTown_83 ?_
        have k26 : zI 1 6 ((r23 1 4) + 1) := zI.add (zs_at er23 (zs_at er22 (fu15.at (fu8.at (fu5.at k4 rfl) rfl) rfl) (by decide)) (by decide)) (zI.lit (a := 1) (b := 1) (c := 1) (by decide)) (by decide)
        refine ziast hx hb hK hw hS 2 mWg1 4 (by decide) (by decide) (by decide) dX12_readsTown_84 (mW ct h0 y (zset r23 1 (upd (r23 1) 4 ((r23 1 4) + 1))) q25) mWs1 (fun H locs hw hS => ?_)
        refine mgen (P := fun x => mJ B x ∧ zFr [104, 105, 106, 108, 109, 136, 4, 5, 1] r x) hw ⟨pr23.1.setL (by decide) (k26.w (c := 0) (d := 6) (by decide)), pr23.2.set rfl⟩ (fun r27 er27 hw pr27 => ?_)
        have hE := zletE er27 hE
        refine lv_aload_n hx hb dX12_readsTown_85 rfl (lv_at hl 1 rfl) ?_
        refine mcallV (As := []) (rest := []) ⟨hx, hb, hml, hown, hts⟩ (mc_closes l D ct h0 y B r27 q25 pr27.1 ((mP.fr yu15_0 ((zs_row (k := 103) er27 (by decide)).trans ((zs_row (k := 103) er23 (by decide)).trans (zs_row (k := 103) er22 (by decide)))) ((zs_row (k := 104) er27 (by decide)).trans ((zs_row (k := 104) er23 (by decide)).trans (zs_row (k := 104) er22 (by decide)))) ((zs_row (k := 105) er27 (by decide)).trans ((zs_row (k := 105) er23 (by decide)).trans (zs_row (k := 105) er22 (by decide)))) ((zs_row (k := 106) er27 (by decide)).trans ((zs_row (k := 106) er23 (by decide)).trans (zs_row (k := 106) er22 (by decide))))))) (wqX12_286_mc_closes hts ⟨Nat.le_of_ble_eq_true rfl, Nat.le_of_ble_eq_true rfl⟩) hw hS hA hK hN rfl hl.1 rfl (Nat.le_of_ble_eq_true rfl) dX12_readsTown_86 89 rfl (fun u28 H locs pu28 hw hS => ?_)
        obtain ⟨v29, r30, q31⟩ := u28
        have hv29 : zI 0 1 v29 := pu28.1
        have ju28 : mJ B r30 := pu28.2.1
        have fu28 : zFr [104, 105, 106, 108, 109] r27 r30 := pu28.2.2.1
        have yu28_0 : mP r30 := pu28.2.2.2.1
        have yu28_1 : (r27 105 0).toInt ≤ (r30 105 0).toInt := pu28.2.2.2.2.1
        have xu28 : (v29, r30, q31) = (Gm_closes r27 q25) := pu28.2.2.2.2.2.1
        have hE := zc_vrqE xu28 hE
        have hw : zPD D A (mW ct h0 y r30 q31) H := hw
        refine zfr 89 [.int v29] rfl rfl ?_
        exact ziretQ hQ hx hb hr (hv29.rn) hlocks (v29, r30, q31) rfl ⟨hv29, ju28, (pr27.2.tr fu28 rfl), (show mP r30 from yu28_0), (show ¬ v29 = 0 → (r 105 0).toInt < (r30 105 0).toInt from (fun _ => by have := yu28_1; have := congrArg Int32.toInt (congrFun (zs_row (k := 105) er27 (by decide)) 0); have := congrArg Int32.toInt (congrFun (zs_row (k := 105) er23 (by decide)) 0); have := congrArg Int32.toInt (congrFun (zs_row (k := 105) er22 (by decide)) 0); have := yu15_1; have := yu8_1; have := yu5_1; have := (x1).1; have := (x1).2.2.resolve_left (tkne x2 (by decide)); omega)), (show ¬ v29 = 0 → mT1 r30 from (fun _ => by unfold mT1; rw [(fu28 1 rfl), zs_self er27, pk_us, pk_un (by decide)]; intro _; have h9 := (k26 : zI 1 6 _); have := h9.1; omega)), (hE.symm.trans hX), trivial⟩ hw hS dX12_readsTown_89
      · have hE := zifnF c19 hE
        have k32 : zI 0 0 (v16) := zI.eqq c19 (zI.lit (a := 0) (b := 0) (c := 0) (by decide))
        refine lv_iconst (v := 0) hx hb dX12_readsTown_46 (by decide) ?_
        exact ziretQ hQ hx hb hr rfl hlocks (0, r17, q18) rfl ⟨((zI.lit (a := 0) (b := 0) (c := 0) (by decide)).w (c := 0) (d := 1) (by decide)), ju15, ((((zFr.refl).tr fu5 rfl).tr fu8 rfl).tr fu15 rfl), (show mP r17 from yu15_0), (fun h => absurd rfl h), (fun h => absurd rfl h), (hE.symm.trans hX), trivial⟩ hw hS dX12_readsTown_47
  · have hE := zifnF c2 hE
    have k33 : zI 12 12 (6 + (r 1 4)) := zI.eqq c2 (zI.lit (a := 12) (b := 12) (c := 12) (by decide))
    refine lv_aload_n hx hb dX12_readsTown_16 rfl (lv_at hl 1 rfl) ?_
    refine lv_iconst (v := 5) hx hb dX12_readsTown_17 (by decide) ?_
    refine mcallV (As := [.int 5]) (rest := []) ⟨hx, hb, hml, hown, hts⟩ (mc_fails l D ct h0 y B 5 r q ((zI.lit (a := 5) (b := 5) (c := 5) (by decide)).w (c := 1) (d := 5) (by decide)) hJ0) (wqX12_193_mc_fails hts ⟨Nat.le_of_ble_eq_true rfl, Nat.le_of_ble_eq_true rfl⟩) hw hS hA hK hN rfl hl.1 rfl (Nat.le_of_ble_eq_true rfl) dX12_readsTown_18 21 rfl (fun u34 H locs pu34 hw hS => ?_)
    obtain ⟨v35, r36⟩ := u34
    have hv35 : zI 0 0 v35 := pu34.1
    have ju34 : mJ B r36 := pu34.2.1
    have fu34 : zFr [109] r r36 := pu34.2.2.1
    have xu34 : (v35, r36) = (Gm_fails (5 : Int32) r q) := pu34.2.2.2.1
    have hE := zc_vrE xu34 hE
    have hw : zPD D A (mW ct h0 y r36 q) H := hw
    refine zfr 21 [.int v35] rfl rfl ?_
    exact ziretQ hQ hx hb hr ((hv35.w (c := 0) (d := 1) (by decide)).rn) hlocks (v35, r36, q) rfl ⟨(hv35.w (c := 0) (d := 1) (by decide)), ju34, ((zFr.refl).tr fu34 rfl), (show mP r36 from (mP.fr x1 (fu34 103 rfl) (fu34 104 rfl) (fu34 105 rfl) (fu34 106 rfl))), (fun h => absurd (zI.eq0 hv35) h), (fun h => absurd (zI.eq0 hv35) h), (hE.symm.trans hX), trivial⟩ hw hS dX12_readsTown_21

set_option maxHeartbeats 4000000 in
set_option maxRecDepth 100000 in
theorem mc_readsRoad (l : Launch) (D : va_G) (ct : Nat → ClassId) (h0 : Nat) (y : Nat → Nat) (B : Int) (r : zRr) (q : zRq) (hJ0 : mJ B r) (x1 : mP r) (x2 : zI 1 4 (r 106 0)) : zC l yX12_readsRoad (.code yX12_readsRoad cX12_readsRoad 2 (some .boolean) :: wsL_law0) ({ frames := 4, cells := 0, slots := 0, locals := 200 }) D ct [] [.ref h0] (mW ct h0 y r q) (S := Int32 × zRr × zRq) (fun u => some (.int u.1)) (fun u => zI 0 1 u.1 ∧ mJ B u.2.1 ∧ zFr [104, 105, 106, 108, 109, 136, 5] r u.2.1 ∧ (mP u.2.1) ∧ (¬ u.1 = 0 → (r 105 0).toInt < (u.2.1 105 0).toInt) ∧ u = (Gm_readsRoad r q) ∧ True) (fun u => mW ct h0 y u.2.1 u.2.2) 0 0 := by
  refine zofQ cX12_readsRoad 2 (some .boolean) (by decide) rfl (Nat.le_of_ble_eq_true rfl) ?_
  intro p e s m below meth c A a9 Q ha9 hx hb hr hml hts hown hlocks hname hK hA hZ hN hQ
  have hown : s.vm.findClass RX12 = some m.cls := hown
  have hiX12 : ∀ w ∈ wsX120, w ∈ .code yX12_readsRoad cX12_readsRoad 2 (some .boolean) :: wsL_law0 := fun _ h => ki (zs_wsX120 _ h)
  have lf26 := hts (.fieldLink RX12 26 "BeardPassModel" "roads" "[I") (ki (zr8 0 rfl))
  have lf256 := hts (.fieldLink RX12 256 "BeardPassModel" "given" "I") (ki (zr23 11 rfl))
  obtain ⟨X, hX⟩ : ∃ X, X = (Gm_readsRoad r q) := ⟨_, rfl⟩
  intro H locs hw hS ls hl
  have hl : lv_has ls 2 [(0, .ref h0)] := hl
  have hE := hX
  unfold Gm_readsRoad at hE
  refine lv_aload_n hx hb dX12_readsRoad_0 rfl (lv_at hl 0 rfl) ?_
  refine mcallV (As := []) (rest := []) ⟨hx, hb, hml, hown, hts⟩ (mc_nextToken l D ct h0 y B r q hJ0 ((x1).2.1)) (wqX12_200_mc_nextToken hts ⟨Nat.le_of_ble_eq_true rfl, Nat.le_of_ble_eq_true rfl⟩) hw hS hA hK hN rfl hl.1 rfl (Nat.le_of_ble_eq_true rfl) dX12_readsRoad_1 4 rfl (fun u1 H locs pu1 hw hS => ?_)
  obtain ⟨r2, q3⟩ := u1
  have ju1 : mJ B r2 := pu1.1
  have fu1 : zFr [104, 105, 106, 108] r r2 := pu1.2.1
  have yu1_0 : mP r2 := pu1.2.2.1
  have yu1_1 : (r 104 0).toInt ≤ (r2 105 0).toInt := pu1.2.2.2.1
  have xu1 : (r2, q3) = (Gm_nextToken r q) := pu1.2.2.2.2.1
  have hE := zc_rqE xu1 hE
  have hw : zPD D A (mW ct h0 y r2 q3) H := hw
  refine zfr 4 [] rfl rfl ?_
  refine lv_aload_n hx hb dX12_readsRoad_4 rfl (lv_at hl 0 rfl) ?_
  refine lv_iconst (v := 1) hx hb dX12_readsRoad_5 (by decide) ?_
  refine mcallV (As := [.int 1]) (rest := []) ⟨hx, hb, hml, hown, hts⟩ (mc_needsTown1 l D ct h0 y B r2 q3 ju1) (wqX12_289_mc_needsTown1 hts ⟨Nat.le_of_ble_eq_true rfl, Nat.le_of_ble_eq_true rfl⟩) hw hS hA hK hN rfl hl.1 rfl (Nat.le_of_ble_eq_true rfl) dX12_readsRoad_6 9 rfl (fun u4 H locs pu4 hw hS => ?_)
  obtain ⟨v5, r6⟩ := u4
  have hv5 : zI 0 1 v5 := pu4.1
  have ju4 : mJ B r6 := pu4.2.1
  have fu4 : zFr [136, 109] r2 r6 := pu4.2.2.1
  have yu4_0 : ¬ v5 = 0 → zI 0 5 (r6 136 0) := pu4.2.2.2.1
  have yu4_1 : ¬ v5 = 0 → 1 ≤ (r6 1 4).toInt := pu4.2.2.2.2.1
  have xu4 : (v5, r6) = (Gm_needsTown1 r2 q3) := pu4.2.2.2.2.2.1
  have hE := zc_vrE xu4 hE
  have hw : zPD D A (mW ct h0 y r6 q3) H := hw
  refine zfr 9 [.int v5] rfl rfl ?_
  refine lv_if_ne (tgt := 14) hx hb dX12_readsRoad_9 (by decide) (fun c7 => ?_) (fun c7 => ?_)
  · have hE := zifnT c7 hE
    have k8 : zI 1 1 (v5) := zI.neD c7 hv5 (zI.lit (a := 0) (b := 0) (c := 0) (by decide)) (by decide)
    refine lv_aload_n hx hb dX12_readsRoad_14 rfl (lv_at hl 0 rfl) ?_
    refine mget (v := .int (r6 136 0)) hx hb hts hiX12 hown hK hw 36 (by decide) lf256 rfl rfl dX12_readsRoad_15 ?_
    refine lv_istore_n (lv' := [(1, .int (r6 136 0)), (0, .ref h0)]) hx hb dX12_readsRoad_18 rfl hl (by decide) rfl (fun ls hl => ?_)
    refine lv_aload_n hx hb dX12_readsRoad_19 rfl (lv_at hl 1 rfl) ?_
    refine mcallV (As := []) (rest := []) ⟨hx, hb, hml, hown, hts⟩ (mc_nextToken l D ct h0 y B r6 q3 ju4 (((mP.fr yu1_0 (fu4 103 rfl) (fu4 104 rfl) (fu4 105 rfl) (fu4 106 rfl))).2.1)) (wqX12_200_mc_nextToken hts ⟨Nat.le_of_ble_eq_true rfl, Nat.le_of_ble_eq_true rfl⟩) hw hS hA hK hN rfl hl.1 rfl (Nat.le_of_ble_eq_true rfl) dX12_readsRoad_20 23 rfl (fun u9 H locs pu9 hw hS => ?_)
    obtain ⟨r10, q11⟩ := u9
    have ju9 : mJ B r10 := pu9.1
    have fu9 : zFr [104, 105, 106, 108] r6 r10 := pu9.2.1
    have yu9_0 : mP r10 := pu9.2.2.1
    have yu9_1 : (r6 104 0).toInt ≤ (r10 105 0).toInt := pu9.2.2.2.1
    have xu9 : (r10, q11) = (Gm_nextToken r6 q3) := pu9.2.2.2.2.1
    have hE := zc_rqE xu9 hE
    have hw : zPD D A (mW ct h0 y r10 q11) H := hw
    refine zfr 23 [] rfl rfl ?_
    refine lv_aload_n hx hb dX12_readsRoad_23 rfl (lv_at hl 1 rfl) ?_
    refine lv_iconst (v := 1) hx hb dX12_readsRoad_24 (by decide) ?_
    refine mcallV (As := [.int 1]) (rest := []) ⟨hx, hb, hml, hown, hts⟩ (mc_needsTown1 l D ct h0 y B r10 q11 ju9) (wqX12_289_mc_needsTown1 hts ⟨Nat.le_of_ble_eq_true rfl, Nat.le_of_ble_eq_true rfl⟩) hw hS hA hK hN rfl hl.1 rfl (Nat.le_of_ble_eq_true rfl) dX12_readsRoad_25 28 rfl (fun u12 H locs pu12 hw hS => ?_)
    obtain ⟨v13, r14⟩ := u12
    have hv13 : zI 0 1 v13 := pu12.1
    have ju12 : mJ B r14 := pu12.2.1
    have fu12 : zFr [136, 109] r10 r14 := pu12.2.2.1
    have yu12_0 : ¬ v13 = 0 → zI 0 5 (r14 136 0) := pu12.2.2.2.1
    have yu12_1 : ¬ v13 = 0 → 1 ≤ (r14 1 4).toInt := pu12.2.2.2.2.1
    have xu12 : (v13, r14) = (Gm_needsTown1 r10 q11) := pu12.2.2.2.2.2.1
    have hE := zc_vrE xu12 hE
    have hw : zPD D A (mW ct h0 y r14 q11) H := hw
    refine zfr 28 [.int v13] rfl rfl ?_
    refine lv_if_ne (tgt := 33) hx hb dX12_readsRoad_28 (by decide) (fun c15 => ?_) (fun c15 => ?_)
    · have hE := zifnT c15 hE
      have k16 : zI 1 1 (v13) := zI.neD c15 hv13 (zI.lit (a := 0) (b := 0) (c := 0) (by decide)) (by decide)
      refine lv_aload_n hx hb dX12_readsRoad_33 rfl (lv_at hl 1 rfl) ?_
      refine mget (v := .int (r14 136 0)) hx hb hts hiX12 hown hK hw 36 (by decide) lf256 rfl rfl dX12_readsRoad_34 ?_
      refine lv_iload_n hx hb dX12_readsRoad_37 rfl (lv_at hl 0 rfl) ?_
      refine lv_icmp_eq (tgt := 61) hx hb dX12_readsRoad_38 (by decide) (fun c17 => ?_) (fun c17 => ?_)
      · have hE := zifT c17 hE
        refine lv_aload_n hx hb dX12_readsRoad_61 rfl (lv_at hl 1 rfl) ?_
        refine lv_iconst (v := 3) hx hb dX12_readsRoad_62 (by decide) ?_
        refine mcallV (As := [.int 3]) (rest := []) ⟨hx, hb, hml, hown, hts⟩ (mc_fails l D ct h0 y B 3 r14 q11 ((zI.lit (a := 3) (b := 3) (c := 3) (by decide)).w (c := 1) (d := 5) (by decide)) ju12) (wqX12_193_mc_fails hts ⟨Nat.le_of_ble_eq_true rfl, Nat.le_of_ble_eq_true rfl⟩) hw hS hA hK hN rfl hl.1 rfl (Nat.le_of_ble_eq_true rfl) dX12_readsRoad_63 66 rfl (fun u18 H locs pu18 hw hS => ?_)
        obtain ⟨v19, r20⟩ := u18
        have hv19 : zI 0 0 v19 := pu18.1
        have ju18 : mJ B r20 := pu18.2.1
        have fu18 : zFr [109] r14 r20 := pu18.2.2.1
        have xu18 : (v19, r20) = (Gm_fails (3 : Int32) r14 q11) := pu18.2.2.2.1
        have hE := zc_vrE xu18 hE
        have hw : zPD D A (mW ct h0 y r20 q11) H := hw
        refine zfr 66 [.int v19] rfl rfl ?_
        exact ziretQ hQ hx hb hr ((hv19.w (c := 0) (d := 1) (by decide)).rn) hlocks (v19, r20, q11) rfl ⟨(hv19.w (c := 0) (d := 1) (by decide)), ju18, ((((((zFr.refl).tr fu1 rfl).tr fu4 rfl).tr fu9 rfl).tr fu12 rfl).tr fu18 rfl), (show mP r20 from (mP.fr yu9_0 ((fu18 103 rfl).trans (fu12 103 rfl)) ((fu18 104 rfl).trans (fu12 104 rfl)) ((fu18 105 rfl).trans (fu12 105 rfl)) ((fu18 106 rfl).trans (fu12 106 rfl)))), (fun h => absurd (zI.eq0 hv19) h), (hE.symm.trans hX), trivial⟩ hw hS dX12_readsRoad_66
      · have hE := zifF c17 hE
        refine lv_aload_n hx hb dX12_readsRoad_41 rfl (lv_at hl 1 rfl) ?_
        refine mget (v := .ref (y 5)) hx hb hts hiX12 hown hK hw 14 (by decide) lf26 rfl rfl dX12_readsRoad_42 ?_
        refine lv_bipush (v := 6) hx hb dX12_readsRoad_45 (by decide) ?_
        refine lv_iload_n hx hb dX12_readsRoad_47 rfl (lv_at hl 0 rfl) ?_
        refine lv_iadd hx hb dX12_readsRoad_48 (zgenE (lo := 6) (hi := 11) (zI.add (zI.lit (a := 6) (b := 6) (c := 6) (by decide)) (yu4_0 c7) (by decide)) (fun v21 ev21 hv21 => ?_))
        have hE := zletE ev21 hE
        refine miald hx hb hK hw 6 mWg5 hv21 (by decide) dX12_readsRoad_49 (zgenE (zI.top _) (fun v22 ev22 _ => ?_))
        have hE := zletE ev22 hE
        refine lv_aload_n hx hb dX12_readsRoad_50 rfl (lv_at hl 1 rfl) ?_
        refine mget (v := .int (r14 136 0)) hx hb hts hiX12 hown hK hw 36 (by decide) lf256 rfl rfl dX12_readsRoad_51 ?_
        refine lv_ishr hx hb dX12_readsRoad_54 (zgenE (zI.top _) (fun v23 ev23 _ => ?_))
        have hE := zletE ev23 hE
        refine lv_iconst (v := 1) hx hb dX12_readsRoad_55 (by decide) ?_
        refine lv_iand hx hb dX12_readsRoad_56 (zgenE (lo := 0) (hi := 1) (zI.and (zI.lit (a := 1) (b := 1) (c := 1) (by decide)) (by decide)) (fun v24 ev24 hv24 => ?_))
        have hE := zletE ev24 hE
        refine lv_iconst (v := 1) hx hb dX12_readsRoad_57 (by decide) ?_
        refine lv_icmp_ne (tgt := 67) hx hb dX12_readsRoad_58 (by decide) (fun c25 => ?_) (fun c25 => ?_)
        · have hE := zifnT c25 hE
          have k26 : zI 0 0 (v24) := zI.neU c25 hv24 (zI.lit (a := 1) (b := 1) (c := 1) (by decide)) (by decide)
          refine lv_aload_n hx hb dX12_readsRoad_67 rfl (lv_at hl 1 rfl) ?_
          refine mget (v := .ref (y 5)) hx hb hts hiX12 hown hK hw 14 (by decide) lf26 rfl rfl dX12_readsRoad_68 ?_
          refine lv_bipush (v := 6) hx hb dX12_readsRoad_71 (by decide) ?_
          refine lv_iload_n hx hb dX12_readsRoad_73 rfl (lv_at hl 0 rfl) ?_
          refine lv_iadd hx hb dX12_readsRoad_74 (zgenE (lo := 6) (hi := 11) (zI.add (zI.lit (a := 6) (b := 6) (c := 6) (by decide)) (yu4_0 c7) (by decide)) (fun v27 ev27 hv27 => ?_))
          have hE := zletE ev27 hE
          refine lv_dup2_11 hx hb dX12_readsRoad_75 rfl rfl ?_
          refine miald hx hb hK hw 6 mWg5 hv27 (by decide) dX12_readsRoad_76 (zgenE (zI.top _) (fun v28 ev28 _ => ?_))
          have hE := zletE ev28 hE
          refine lv_iconst (v := 1) hx hb dX12_readsRoad_77 (by decide) ?_
          refine lv_aload_n hx hb dX12_readsRoad_78 rfl (lv_at hl 1 rfl) ?_
          refine mget (v := .int (r14 136 0)) hx hb hts hiX12 hown hK hw 36 (by decide) lf256 rfl rfl dX12_readsRoad_79 ?_
          refine lv_ishl hx hb dX12_readsRoad_82 (zgenE (lo := 1) (hi := 32) (zI.shl (yu12_0 c15) 5 (by decide)) (fun v29 ev29 hv29 => ?_))
          have hE := zletE ev29 hE
          refine lv_ior hx hb dX12_readsRoad_83 (zgenE (zI.top _) (fun v30 ev30 _ => ?_))
          have hE := zletE ev30 hE
          refine miast hx hb hK hw hS 6 mWg5 hv27 (by decide) dX12_readsRoad_84 (mW ct h0 y (zset r14 5 (upd (r14 5) (zn v27) v30)) q11) mWs5 (fun H locs hw hS => ?_)
          refine mgen (P := fun x => mJ B x ∧ zFr [104, 105, 106, 108, 109, 136, 5] r x) hw ⟨ju12.set rfl (zI.top _), (((((zFr.refl).tr fu1 rfl).tr fu4 rfl).tr fu9 rfl).tr fu12 rfl).set rfl⟩ (fun r31 er31 hw pr31 => ?_)
          have hE := zletE er31 hE
          refine lv_aload_n hx hb dX12_readsRoad_85 rfl (lv_at hl 1 rfl) ?_
          refine mget (v := .ref (y 5)) hx hb hts hiX12 hown hK hw 14 (by decide) lf26 rfl rfl dX12_readsRoad_86 ?_
          refine lv_bipush (v := 6) hx hb dX12_readsRoad_89 (by decide) ?_
          refine lv_aload_n hx hb dX12_readsRoad_91 rfl (lv_at hl 1 rfl) ?_
          refine mget (v := .int (r31 136 0)) hx hb hts hiX12 hown hK hw 36 (by decide) lf256 rfl rfl dX12_readsRoad_92 ?_
          refine lv_iadd hx hb dX12_readsRoad_95 (zgenE (lo := 6) (hi := 11) (zI.add (zI.lit (a := 6) (b := 6) (c := 6) (by decide)) (zs_at er31 (yu12_0 c15) (by decide)) (by decide)) (fun v32 ev32 hv32 => ?_))
          have hE := zletE ev32 hE
          refine lv_dup2_11 hx hb dX12_readsRoad_96 rfl rfl ?_
          refine miald hx hb hK hw 6 mWg5 hv32 (by decide) dX12_readsRoad_97 (zgenE (zI.top _) (fun v33 ev33 _ => ?_))
          have hE := zletE ev33 hE
          refine lv_iconst (v := 1) hx hb dX12_readsRoad_98 (by decide) ?_
          refine lv_iload_n hx hb dX12_readsRoad_99 rfl (lv_at hl 0 rfl) ?_
          refine lv_ishl hx hb dX12_readsRoad_100 (zgenE (lo := 1) (hi := 32) (zI.shl (yu4_0 c7) 5 (by decide)) (fun v34 ev34 hv34 => ?_))
          have hE := zletE ev34 hE
          refine lv_ior hx hb dX12_readsRoad_101 (zgenE (zI.top _) (fun v35 ev35 _ => ?_))
          have hE := zletE ev35 hE
          refine miast hx hb hK hw hS 6 mWg5 hv32 (by decide) dX12_readsRoad_102 (mW ct h0 y (zset r31 5 (upd (r31 5) (zn v32) v35)) q11) mWs5 (fun H locs hw hS => ?_)
          refine mgen (P := fun x => mJ B x ∧ zFr [104, 105, 106, 108, 109, 136, 5] r x) hw ⟨pr31.1.set rfl (zI.top _), pr31.2.set rfl⟩ (fun r36 er36 hw pr36 => ?_)
          have hE := zletE er36 hE
          refine lv_aload_n hx hb dX12_readsRoad_103 rfl (lv_at hl 1 rfl) ?_
          refine mcallV (As := []) (rest := []) ⟨hx, hb, hml, hown, hts⟩ (mc_nextToken l D ct h0 y B r36 q11 pr36.1 (((mP.fr yu9_0 ((zs_row (k := 103) er36 (by decide)).trans ((zs_row (k := 103) er31 (by decide)).trans (fu12 103 rfl))) ((zs_row (k := 104) er36 (by decide)).trans ((zs_row (k := 104) er31 (by decide)).trans (fu12 104 rfl))) ((zs_row (k := 105) er36 (by decide)).trans ((zs_row (k := 105) er31 (by decide)).trans (fu12 105 rfl))) ((zs_row (k := 106) er36 (by decide)).trans ((zs_row (k := 106) er31 (by decide)).trans (fu12 106 rfl))))).2.1)) (wqX12_200_mc_nextToken hts ⟨Nat.le_of_ble_eq_true rfl, Nat.le_of_ble_eq_true rfl⟩) hw hS hA hK hN rfl hl.1 rfl (Nat.le_of_ble_eq_true rfl) dX12_readsRoad_104 107 rfl (fun u37 H locs pu37 hw hS => ?_)
          obtain ⟨r38, q39⟩ := u37
          have ju37 : mJ B r38 := pu37.1
          have fu37 : zFr [104, 105, 106, 108] r36 r38 := pu37.2.1
          have yu37_0 : mP r38 := pu37.2.2.1
          have yu37_1 : (r36 104 0).toInt ≤ (r38 105 0).toInt := pu37.2.2.2.1
          have xu37 : (r38, q39) = (Gm_nextToken r36 q11) := pu37.2.2.2.2.1
          have hE := zc_rqE xu37 hE
          have hw : zPD D A (mW ct h0 y r38 q39) H := hw
          refine zfr 107 [] rfl rfl ?_
          refine lv_aload_n hx hb dX12_readsRoad_107 rfl (lv_at hl 1 rfl) ?_
          refine mcallV (As := []) (rest := []) ⟨hx, hb, hml, hown, hts⟩ (mc_closes l D ct h0 y B r38 q39 ju37 (yu37_0)) (wqX12_286_mc_closes hts ⟨Nat.le_of_ble_eq_true rfl, Nat.le_of_ble_eq_true rfl⟩) hw hS hA hK hN rfl hl.1 rfl (Nat.le_of_ble_eq_true rfl) dX12_readsRoad_108 111 rfl (fun u40 H locs pu40 hw hS => ?_)
          obtain ⟨v41, r42, q43⟩ := u40
          have hv41 : zI 0 1 v41 := pu40.1
          have ju40 : mJ B r42 := pu40.2.1
          have fu40 : zFr [104, 105, 106, 108, 109] r38 r42 := pu40.2.2.1
          have yu40_0 : mP r42 := pu40.2.2.2.1
          have yu40_1 : (r38 105 0).toInt ≤ (r42 105 0).toInt := pu40.2.2.2.2.1
          have xu40 : (v41, r42, q43) = (Gm_closes r38 q39) := pu40.2.2.2.2.2.1
          have hE := zc_vrqE xu40 hE
          have hw : zPD D A (mW ct h0 y r42 q43) H := hw
          refine zfr 111 [.int v41] rfl rfl ?_
          exact ziretQ hQ hx hb hr (hv41.rn) hlocks (v41, r42, q43) rfl ⟨hv41, ju40, ((pr36.2.tr fu37 rfl).tr fu40 rfl), (show mP r42 from yu40_0), (show ¬ v41 = 0 → (r 105 0).toInt < (r42 105 0).toInt from (fun _ => by have := yu40_1; have := yu37_1; have := ((mP.fr yu9_0 ((zs_row (k := 103) er36 (by decide)).trans ((zs_row (k := 103) er31 (by decide)).trans (fu12 103 rfl))) ((zs_row (k := 104) er36 (by decide)).trans ((zs_row (k := 104) er31 (by decide)).trans (fu12 104 rfl))) ((zs_row (k := 105) er36 (by decide)).trans ((zs_row (k := 105) er31 (by decide)).trans (fu12 105 rfl))) ((zs_row (k := 106) er36 (by decide)).trans ((zs_row (k := 106) er31 (by decide)).trans (fu12 106 rfl))))).1; have := congrArg Int32.toInt (congrFun (zs_row (k := 105) er36 (by decide)) 0); have := congrArg Int32.toInt (congrFun (zs_row (k := 105) er31 (by decide)) 0); have := congrArg Int32.toInt (congrFun (fu12 105 rfl) 0); have := yu9_1; have := ((mP.fr yu1_0 (fu4 103 rfl) (fu4 104 rfl) (fu4 105 rfl) (fu4 106 rfl))).1; have := congrArg Int32.toInt (congrFun (fu4 105 rfl) 0); have := yu1_1; have := (x1).1; have := (x1).2.2.resolve_left (tkne x2 (by decide)); omega)), (hE.symm.trans hX), trivial⟩ hw hS dX12_readsRoad_111
        · have hE := zifnF c25 hE
          have k44 : zI 1 1 (v24) := zI.eqq c25 (zI.lit (a := 1) (b := 1) (c := 1) (by decide))
          refine lv_aload_n hx hb dX12_readsRoad_61 rfl (lv_at hl 1 rfl) ?_
          refine lv_iconst (v := 3) hx hb dX12_readsRoad_62 (by decide) ?_
          refine mcallV (As := [.int 3]) (rest := []) ⟨hx, hb, hml, hown, hts⟩ (mc_fails l D ct h0 y B 3 r14 q11 ((zI.lit (a := 3) (b := 3) (c := 3) (by decide)).w (c := 1) (d := 5) (by decide)) ju12) (wqX12_193_mc_fails hts ⟨Nat.le_of_ble_eq_true rfl, Nat.le_of_ble_eq_true rfl⟩) hw hS hA hK hN rfl hl.1 rfl (Nat.le_of_ble_eq_true rfl) dX12_readsRoad_63 66 rfl (fun u45 H locs pu45 hw hS => ?_)
          obtain ⟨v46, r47⟩ := u45
          have hv46 : zI 0 0 v46 := pu45.1
          have ju45 : mJ B r47 := pu45.2.1
          have fu45 : zFr [109] r14 r47 := pu45.2.2.1
          have xu45 : (v46, r47) = (Gm_fails (3 : Int32) r14 q11) := pu45.2.2.2.1
          have hE := zc_vrE xu45 hE
          have hw : zPD D A (mW ct h0 y r47 q11) H := hw
          refine zfr 66 [.int v46] rfl rfl ?_
          exact ziretQ hQ hx hb hr ((hv46.w (c := 0) (d := 1) (by decide)).rn) hlocks (v46, r47, q11) rfl ⟨(hv46.w (c := 0) (d := 1) (by decide)), ju45, ((((((zFr.refl).tr fu1 rfl).tr fu4 rfl).tr fu9 rfl).tr fu12 rfl).tr fu45 rfl), (show mP r47 from (mP.fr yu9_0 ((fu45 103 rfl).trans (fu12 103 rfl)) ((fu45 104 rfl).trans (fu12 104 rfl)) ((fu45 105 rfl).trans (fu12 105 rfl)) ((fu45 106 rfl).trans (fu12 106 rfl)))), (fun h => absurd (zI.eq0 hv46) h), (hE.symm.trans hX), trivial⟩ hw hS dX12_readsRoad_66
    · have hE := zifnF c15 hE
      have k48 : zI 0 0 (v13) := zI.eqq c15 (zI.lit (a := 0) (b := 0) (c := 0) (by decide))
      refine lv_iconst (v := 0) hx hb dX12_readsRoad_31 (by decide) ?_
      exact ziretQ hQ hx hb hr rfl hlocks (0, r14, q11) rfl ⟨((zI.lit (a := 0) (b := 0) (c := 0) (by decide)).w (c := 0) (d := 1) (by decide)), ju12, (((((zFr.refl).tr fu1 rfl).tr fu4 rfl).tr fu9 rfl).tr fu12 rfl), (show mP r14 from (mP.fr yu9_0 (fu12 103 rfl) (fu12 104 rfl) (fu12 105 rfl) (fu12 106 rfl))), (fun h => absurd rfl h), (hE.symm.trans hX), trivial⟩ hw hS dX12_readsRoad_32
  · have hE := zifnF c7 hE
    have k49 : zI 0 0 (v5) := zI.eqq c7 (zI.lit (a := 0) (b := 0) (c := 0) (by decide))
    refine lv_iconst (v := 0) hx hb dX12_readsRoad_12 (by decide) ?_
    exact ziretQ hQ hx hb hr rfl hlocks (0, r6, q3) rfl ⟨((zI.lit (a := 0) (b := 0) (c := 0) (by decide)).w (c := 0) (d := 1) (by decide)), ju4, (((zFr.refl).tr fu1 rfl).tr fu4 rfl), (show mP r6 from (mP.fr yu1_0 (fu4 103 rfl) (fu4 104 rfl) (fu4 105 rfl) (fu4 106 rfl))), (fun h => absurd rfl h), (hE.symm.trans hX), trivial⟩ hw hS dX12_readsRoad_13

set_option maxHeartbeats 4000000 in
set_option maxRecDepth 100000 in
theorem mc_readsPerson (l : Launch) (D : va_G) (ct : Nat → ClassId) (h0 : Nat) (y : Nat → Nat) (B : Int) (r : zRr) (q : zRq) (hJ0 : mJ B r) (x1 : mP r) (x2 : zI 1 4 (r 106 0)) : zC l yX12_readsPerson (.code yX12_readsPerson cX12_readsPerson 4 (some .boolean) :: wsL_law0) ({ frames := 5, cells := 0, slots := 0, locals := 240 }) D ct [] [.ref h0] (mW ct h0 y r q) (S := Int32 × zRr × zRq) (fun u => some (.int u.1)) (fun u => zI 0 1 u.1 ∧ mJ B u.2.1 ∧ zFr [104, 105, 106, 108, 109, 136, 6, 7, 8, 9, 1] r u.2.1 ∧ (mP u.2.1) ∧ (¬ u.1 = 0 → (r 105 0).toInt < (u.2.1 105 0).toInt) ∧ (¬ u.1 = 0 → mT1 u.2.1) ∧ u = (Gm_readsPerson r q) ∧ True) (fun u => mW ct h0 y u.2.1 u.2.2) 0 0 := by
  refine zofQ cX12_readsPerson 4 (some .boolean) (by decide) rfl (Nat.le_of_ble_eq_true rfl) ?_
  intro p e s m below meth c A a9 Q ha9 hx hb hr hml hts hown hlocks hname hK hA hZ hN hQ
  have hown : s.vm.findClass RX12 = some m.cls := hown
  have hiX12 : ∀ w ∈ wsX120, w ∈ .code yX12_readsPerson cX12_readsPerson 4 (some .boolean) :: wsL_law0 := fun _ h => ki (zs_wsX120 _ h)
  have lf13 := hts (.fieldLink RX12 13 "BeardPassModel" "land" "[I") (ki (zr7 20 rfl))
  have lf20 := hts (.fieldLink RX12 20 "BeardPassModel" "personName" "[J") (ki (zr7 22 rfl))
  have lf29 := hts (.fieldLink RX12 29 "BeardPassModel" "kind" "[I") (ki (zr8 1 rfl))
  have lf32 := hts (.fieldLink RX12 32 "BeardPassModel" "atTold" "[I") (ki (zr8 2 rfl))
  have lf35 := hts (.fieldLink RX12 35 "BeardPassModel" "beardTold" "[I") (ki (zr8 3 rfl))
  have lf38 := hts (.fieldLink RX12 38 "BeardPassModel" "purseTold" "[I") (ki (zr8 4 rfl))
  have lf256 := hts (.fieldLink RX12 256 "BeardPassModel" "given" "I") (ki (zr23 11 rfl))
  have lf276 := hts (.fieldLink RX12 276 "BeardPassModel" "fresh" "J") (ki (zr23 12 rfl))
  obtain ⟨X, hX⟩ : ∃ X, X = (Gm_readsPerson r q) := ⟨_, rfl⟩
  have cut102 : ∀ (w102_2 : Int64) (w102_s0 : Int32) (rw102 : zRr) (qw102 : zRq) (hw102_1 : zI 6 11 (6 + (r 1 5))) (hw102_s0 : zI (-1) 3 w102_s0) (hw102_s1 : zI 6 11 (6 + (r 1 5))) (jw102 : mJ B rw102) (fw102 : zFr [104, 105, 106, 108, 109, 136, 6, 7, 8, 9, 1] r rw102) (mw102_1_5 : zI 0 5 (rw102 1 5)) (xp102 : mP rw102) (xm102 : (r 105 0).toInt < (rw102 105 0).toInt) (hE : X = Gm_readsPerson_102 r w102_2 w102_s0 rw102 qw102), zKf p l e ({ frames := 5, cells := 0, slots := 0, locals := 240 }) s m a9 below meth c Q D A 102 4 [.int w102_s0, .int (6 + (r 1 5)), .ref (y 6)] (mW ct h0 y rw102 qw102) [(0, .ref h0), (1, .int (6 + (r 1 5))), (2, .long w102_2)] := by
    intro w102_2 w102_s0 rw102 qw102 hw102_1 hw102_s0 hw102_s1 jw102 fw102 mw102_1_5 xp102 xm102 hE H locs ls hw hS hl
    unfold Gm_readsPerson_102 at hE
    refine miast hx hb hK hw hS 7 mWg6 hw102_s1 (by decide) dX12_readsPerson_102 (mW ct h0 y (zset rw102 6 (upd (rw102 6) (zn (6 + (r 1 5))) w102_s0)) qw102) mWs6 (fun H locs hw hS => ?_)
    refine mgen (P := fun x => mJ B x ∧ zFr [104, 105, 106, 108, 109, 136, 6, 7, 8, 9, 1] r x) hw ⟨jw102.set rfl (zI.top _), fw102.set rfl⟩ (fun r1 er1 hw pr1 => ?_)
    have hE := zletE er1 hE
    refine lv_aload_n hx hb dX12_readsPerson_103 rfl (lv_at hl 0 rfl) ?_
    refine mget (v := .ref (y 6)) hx hb hts hiX12 hown hK hw 15 (by decide) lf29 rfl rfl dX12_readsPerson_104 ?_
    refine lv_iload_n hx hb dX12_readsPerson_107 rfl (lv_at hl 1 rfl) ?_
    refine miald hx hb hK hw 7 mWg6 hw102_s1 (by decide) dX12_readsPerson_108 (zgenE (zI.top _) (fun v2 ev2 _ => ?_))
    have hE := zletE ev2 hE
    refine lv_if_ge (tgt := 118) hx hb dX12_readsPerson_109 (by decide) (fun c3 => ?_) (fun c3 => ?_)
    · have hE := zifT c3 hE
      have k4 : zI 0 2147483647 (v2) := zI.leD c3 (zI.lit (a := 0) (b := 0) (c := 0) (by decide)) (zI.top _) (by decide)
      refine lv_aload_n hx hb dX12_readsPerson_118 rfl (lv_at hl 0 rfl) ?_
      refine mcallV (As := []) (rest := []) ⟨hx, hb, hml, hown, hts⟩ (mc_nextToken l D ct h0 y B r1 qw102 pr1.1 (((mP.fr xp102 (zs_row (k := 103) er1 (by decide)) (zs_row (k := 104) er1 (by decide)) (zs_row (k := 105) er1 (by decide)) (zs_row (k := 106) er1 (by decide)))).2.1)) (wqX12_200_mc_nextToken hts ⟨Nat.le_of_ble_eq_true rfl, Nat.le_of_ble_eq_true rfl⟩) hw hS hA hK hN rfl hl.1 rfl (Nat.le_of_ble_eq_true rfl) dX12_readsPerson_119 122 rfl (fun u5 H locs pu5 hw hS => ?_)
      obtain ⟨r6, q7⟩ := u5
      have ju5 : mJ B r6 := pu5.1
      have fu5 : zFr [104, 105, 106, 108] r1 r6 := pu5.2.1
      have yu5_0 : mP r6 := pu5.2.2.1
      have yu5_1 : (r1 104 0).toInt ≤ (r6 105 0).toInt := pu5.2.2.2.1
      have xu5 : (r6, q7) = (Gm_nextToken r1 qw102) := pu5.2.2.2.2.1
      have hE := zc_rqE xu5 hE
      have hw : zPD D A (mW ct h0 y r6 q7) H := hw
      refine zfr 122 [] rfl rfl ?_
      refine lv_aload_n hx hb dX12_readsPerson_122 rfl (lv_at hl 0 rfl) ?_
      refine lv_ldc2 hx hb hown (hts (.constantLong RX12 224 47) (ki (zr24 1 rfl))) dX12_readsPerson_123 ?_
      refine mcallV (As := [.long 47]) (rest := []) ⟨hx, hb, hml, hown, hts⟩ (mc_needsWord l D ct h0 y B 47 r6 q7 ju5 (yu5_0)) (wqX12_259_mc_needsWord hts ⟨Nat.le_of_ble_eq_true rfl, Nat.le_of_ble_eq_true rfl⟩) hw hS hA hK hN rfl hl.1 rfl (Nat.le_of_ble_eq_true rfl) dX12_readsPerson_126 129 rfl (fun u8 H locs pu8 hw hS => ?_)
      obtain ⟨v9, r10, q11⟩ := u8
      have hv9 : zI 0 1 v9 := pu8.1
      have ju8 : mJ B r10 := pu8.2.1
      have fu8 : zFr [104, 105, 106, 108, 109] r6 r10 := pu8.2.2.1
      have yu8_0 : mP r10 := pu8.2.2.2.1
      have yu8_1 : (r6 105 0).toInt ≤ (r10 105 0).toInt := pu8.2.2.2.2.1
      have xu8 : (v9, r10, q11) = (Gm_needsWord (47 : Int64) r6 q7) := pu8.2.2.2.2.2.1
      have hE := zc_vrqE xu8 hE
      have hw : zPD D A (mW ct h0 y r10 q11) H := hw
      refine zfr 129 [.int v9] rfl rfl ?_
      refine lv_if_eq (tgt := 140) hx hb dX12_readsPerson_129 (by decide) (fun c12 => ?_) (fun c12 => ?_)
      · have hE := zifT c12 hE
        have k13 : zI 0 0 (v9) := zI.eqq c12 (zI.lit (a := 0) (b := 0) (c := 0) (by decide))
        refine lv_iconst (v := 0) hx hb dX12_readsPerson_140 (by decide) ?_
        exact ziretQ hQ hx hb hr rfl hlocks (0, r10, q11) rfl ⟨((zI.lit (a := 0) (b := 0) (c := 0) (by decide)).w (c := 0) (d := 1) (by decide)), ju8, ((pr1.2.tr fu5 rfl).tr fu8 rfl), (show mP r10 from yu8_0), (fun h => absurd rfl h), (fun h => absurd rfl h), (hE.symm.trans hX), trivial⟩ hw hS dX12_readsPerson_141
      · have hE := zifF c12 hE
        have k14 : zI 1 1 (v9) := zI.neD c12 hv9 (zI.lit (a := 0) (b := 0) (c := 0) (by decide)) (by decide)
        refine lv_aload_n hx hb dX12_readsPerson_132 rfl (lv_at hl 0 rfl) ?_
        refine lv_iconst (v := 1) hx hb dX12_readsPerson_133 (by decide) ?_
        refine mcallV (As := [.int 1]) (rest := []) ⟨hx, hb, hml, hown, hts⟩ (mc_needsTown1 l D ct h0 y B r10 q11 ju8) (wqX12_289_mc_needsTown1 hts ⟨Nat.le_of_ble_eq_true rfl, Nat.le_of_ble_eq_true rfl⟩) hw hS hA hK hN rfl hl.1 rfl (Nat.le_of_ble_eq_true rfl) dX12_readsPerson_134 137 rfl (fun u15 H locs pu15 hw hS => ?_)
        obtain ⟨v16, r17⟩ := u15
        have hv16 : zI 0 1 v16 := pu15.1
        have ju15 : mJ B r17 := pu15.2.1
        have fu15 : zFr [136, 109] r10 r17 := pu15.2.2.1
        have yu15_0 : ¬ v16 = 0 → zI 0 5 (r17 136 0) := pu15.2.2.2.1
        have yu15_1 : ¬ v16 = 0 → 1 ≤ (r17 1 4).toInt := pu15.2.2.2.2.1
        have xu15 : (v16, r17) = (Gm_needsTown1 r10 q11) := pu15.2.2.2.2.2.1
        have hE := zc_vrE xu15 hE
        have hw : zPD D A (mW ct h0 y r17 q11) H := hw
        refine zfr 137 [.int v16] rfl rfl ?_
        refine lv_if_ne (tgt := 142) hx hb dX12_readsPerson_137 (by decide) (fun c18 => ?_) (fun c18 => ?_)
        · have hE := zifnT c18 hE
          have k19 : zI 1 1 (v16) := zI.neD c18 hv16 (zI.lit (a := 0) (b := 0) (c := 0) (by decide)) (by decide)
          refine lv_aload_n hx hb dX12_readsPerson_142 rfl (lv_at hl 0 rfl) ?_
          refine mget (v := .ref (y 7)) hx hb hts hiX12 hown hK hw 16 (by decide) lf32 rfl rfl dX12_readsPerson_143 ?_
          refine lv_iload_n hx hb dX12_readsPerson_146 rfl (lv_at hl 1 rfl) ?_
          refine lv_aload_n hx hb dX12_readsPerson_147 rfl (lv_at hl 0 rfl) ?_
          refine mget (v := .int (r17 136 0)) hx hb hts hiX12 hown hK hw 36 (by decide) lf256 rfl rfl dX12_readsPerson_148 ?_
          refine miast hx hb hK hw hS 8 mWg7 hw102_s1 (by decide) dX12_readsPerson_151 (mW ct h0 y (zset r17 7 (upd (r17 7) (zn (6 + (r 1 5))) (r17 136 0))) q11) mWs7 (fun H locs hw hS => ?_)
          refine mgen (P := fun x => mJ B x ∧ zFr [104, 105, 106, 108, 109, 136, 6, 7, 8, 9, 1] r x) hw ⟨ju15.set rfl (yu15_0 c18), (((pr1.2.tr fu5 rfl).tr fu8 rfl).tr fu15 rfl).set rfl⟩ (fun r20 er20 hw pr20 => ?_)
          have hE := zletE er20 hE
          refine lv_aload_n hx hb dX12_readsPerson_152 rfl (lv_at hl 0 rfl) ?_
          refine mcallV (As := []) (rest := []) ⟨hx, hb, hml, hown, hts⟩ (mc_nextToken l D ct h0 y B r20 q11 pr20.1 (((mP.fr yu8_0 ((zs_row (k := 103) er20 (by decide)).trans (fu15 103 rfl)) ((zs_row (k := 104) er20 (by decide)).trans (fu15 104 rfl)) ((zs_row (k := 105) er20 (by decide)).trans (fu15 105 rfl)) ((zs_row (k := 106) er20 (by decide)).trans (fu15 106 rfl)))).2.1)) (wqX12_200_mc_nextToken hts ⟨Nat.le_of_ble_eq_true rfl, Nat.le_of_ble_eq_true rfl⟩) hw hS hA hK hN rfl hl.1 rfl (Nat.le_of_ble_eq_true rfl) dX12_readsPerson_153 156 rfl (fun u21 H locs pu21 hw hS => ?_)
          obtain ⟨r22, q23⟩ := u21
          have ju21 : mJ B r22 := pu21.1
          have fu21 : zFr [104, 105, 106, 108] r20 r22 := pu21.2.1
          have yu21_0 : mP r22 := pu21.2.2.1
          have yu21_1 : (r20 104 0).toInt ≤ (r22 105 0).toInt := pu21.2.2.2.1
          have xu21 : (r22, q23) = (Gm_nextToken r20 q11) := pu21.2.2.2.2.1
          have hE := zc_rqE xu21 hE
          have hw : zPD D A (mW ct h0 y r22 q23) H := hw
          refine zfr 156 [] rfl rfl ?_
          refine lv_aload_n hx hb dX12_readsPerson_156 rfl (lv_at hl 0 rfl) ?_
          refine lv_ldc2 hx hb hown (hts (.constantLong RX12 226 1162516) (ki (zr24 2 rfl))) dX12_readsPerson_157 ?_
          refine lv_iconst (v := 0) hx hb dX12_readsPerson_160 (by decide) ?_
          refine lv_bipush (v := 30) hx hb dX12_readsPerson_161 (by decide) ?_
          refine mcallV (As := [.long 1162516, .int 0, .int 30]) (rest := []) ⟨hx, hb, hml, hown, hts⟩ (mc_needsBoth l D ct h0 y B 1162516 0 30 r22 q23 ju21 (yu21_0)) (wqX12_282_mc_needsBoth hts ⟨Nat.le_of_ble_eq_true rfl, Nat.le_of_ble_eq_true rfl⟩) hw hS hA hK hN rfl hl.1 rfl (Nat.le_of_ble_eq_true rfl) dX12_readsPerson_163 166 rfl (fun u24 H locs pu24 hw hS => ?_)
          obtain ⟨v25, r26, q27⟩ := u24
          have hv25 : zI 0 1 v25 := pu24.1
          have ju24 : mJ B r26 := pu24.2.1
          have fu24 : zFr [104, 105, 106, 108, 109, 136] r22 r26 := pu24.2.2.1
          have yu24_0 : mP r26 := pu24.2.2.2.1
          have yu24_1 : (r22 105 0).toInt ≤ (r26 105 0).toInt := pu24.2.2.2.2.1
          have yu24_2 : ¬ v25 = 0 → zI 0 9999 (r26 136 0) := pu24.2.2.2.2.2.1
          have xu24 : (v25, r26, q27) = (Gm_needsBoth (1162516 : Int64) (0 : Int32) (30 : Int32) r22 q23) := pu24.2.2.2.2.2.2.1
          have hE := zc_vrqE xu24 hE
          have hw : zPD D A (mW ct h0 y r26 q27) H := hw
          refine zfr 166 [.int v25] rfl rfl ?_
          refine lv_if_ne (tgt := 171) hx hb dX12_readsPerson_166 (by decide) (fun c28 => ?_) (fun c28 => ?_)
          · have hE := zifnT c28 hE
            have k29 : zI 1 1 (v25) := zI.neD c28 hv25 (zI.lit (a := 0) (b := 0) (c := 0) (by decide)) (by decide)
            refine lv_aload_n hx hb dX12_readsPerson_171 rfl (lv_at hl 0 rfl) ?_
            refine mget (v := .ref (y 8)) hx hb hts hiX12 hown hK hw 17 (by decide) lf35 rfl rfl dX12_readsPerson_172 ?_
            refine lv_iload_n hx hb dX12_readsPerson_175 rfl (lv_at hl 1 rfl) ?_
            refine lv_aload_n hx hb dX12_readsPerson_176 rfl (lv_at hl 0 rfl) ?_
            refine mget (v := .int (r26 136 0)) hx hb hts hiX12 hown hK hw 36 (by decide) lf256 rfl rfl dX12_readsPerson_177 ?_
            refine miast hx hb hK hw hS 9 mWg8 hw102_s1 (by decide) dX12_readsPerson_180 (mW ct h0 y (zset r26 8 (upd (r26 8) (zn (6 + (r 1 5))) (r26 136 0))) q27) mWs8 (fun H locs hw hS => ?_)
            refine mgen (P := fun x => mJ B x ∧ zFr [104, 105, 106, 108, 109, 136, 6, 7, 8, 9, 1] r x) hw ⟨ju24.set rfl (zI.top _), ((pr20.2.tr fu21 rfl).tr fu24 rfl).set rfl⟩ (fun r30 er30 hw pr30 => ?_)
            have hE := zletE er30 hE
            refine lv_aload_n hx hb dX12_readsPerson_181 rfl (lv_at hl 0 rfl) ?_
            refine lv_ldc2 hx hb hown (hts (.constantLong RX12 228 8930039) (ki (zr24 3 rfl))) dX12_readsPerson_182 ?_
            refine lv_iconst (v := 0) hx hb dX12_readsPerson_185 (by decide) ?_
            refine lv_bipush (v := 99) hx hb dX12_readsPerson_186 (by decide) ?_
            refine mcallV (As := [.long 8930039, .int 0, .int 99]) (rest := []) ⟨hx, hb, hml, hown, hts⟩ (mc_needsBoth l D ct h0 y B 8930039 0 99 r30 q27 pr30.1 ((mP.fr yu24_0 (zs_row (k := 103) er30 (by decide)) (zs_row (k := 104) er30 (by decide)) (zs_row (k := 105) er30 (by decide)) (zs_row (k := 106) er30 (by decide))))) (wqX12_282_mc_needsBoth hts ⟨Nat.le_of_ble_eq_true rfl, Nat.le_of_ble_eq_true rfl⟩) hw hS hA hK hN rfl hl.1 rfl (Nat.le_of_ble_eq_true rfl) dX12_readsPerson_188 191 rfl (fun u31 H locs pu31 hw hS => ?_)
            obtain ⟨v32, r33, q34⟩ := u31
            have hv32 : zI 0 1 v32 := pu31.1
            have ju31 : mJ B r33 := pu31.2.1
            have fu31 : zFr [104, 105, 106, 108, 109, 136] r30 r33 := pu31.2.2.1
            have yu31_0 : mP r33 := pu31.2.2.2.1
            have yu31_1 : (r30 105 0).toInt ≤ (r33 105 0).toInt := pu31.2.2.2.2.1
            have yu31_2 : ¬ v32 = 0 → zI 0 9999 (r33 136 0) := pu31.2.2.2.2.2.1
            have xu31 : (v32, r33, q34) = (Gm_needsBoth (8930039 : Int64) (0 : Int32) (99 : Int32) r30 q27) := pu31.2.2.2.2.2.2.1
            have hE := zc_vrqE xu31 hE
            have hw : zPD D A (mW ct h0 y r33 q34) H := hw
            refine zfr 191 [.int v32] rfl rfl ?_
            refine lv_if_ne (tgt := 196) hx hb dX12_readsPerson_191 (by decide) (fun c35 => ?_) (fun c35 => ?_)
            · have hE := zifnT c35 hE
              have k36 : zI 1 1 (v32) := zI.neD c35 hv32 (zI.lit (a := 0) (b := 0) (c := 0) (by decide)) (by decide)
              refine lv_aload_n hx hb dX12_readsPerson_196 rfl (lv_at hl 0 rfl) ?_
              refine mget (v := .ref (y 9)) hx hb hts hiX12 hown hK hw 18 (by decide) lf38 rfl rfl dX12_readsPerson_197 ?_
              refine lv_iload_n hx hb dX12_readsPerson_200 rfl (lv_at hl 1 rfl) ?_
              refine lv_aload_n hx hb dX12_readsPerson_201 rfl (lv_at hl 0 rfl) ?_
              refine mget (v := .int (r33 136 0)) hx hb hts hiX12 hown hK hw 36 (by decide) lf256 rfl rfl dX12_readsPerson_202 ?_
              refine miast hx hb hK hw hS 10 mWg9 hw102_s1 (by decide) dX12_readsPerson_205 (mW ct h0 y (zset r33 9 (upd (r33 9) (zn (6 + (r 1 5))) (r33 136 0))) q34) mWs9 (fun H locs hw hS => ?_)
              refine mgen (P := fun x => mJ B x ∧ zFr [104, 105, 106, 108, 109, 136, 6, 7, 8, 9, 1] r x) hw ⟨ju31.set rfl (zI.top _), (pr30.2.tr fu31 rfl).set rfl⟩ (fun r37 er37 hw pr37 => ?_)
              have hE := zletE er37 hE
              refine lv_aload_n hx hb dX12_readsPerson_206 rfl (lv_at hl 0 rfl) ?_
              refine mget (v := .ref (y 3)) hx hb hts hiX12 hown hK hw 12 (by decide) lf20 rfl rfl dX12_readsPerson_207 ?_
              refine lv_iload_n hx hb dX12_readsPerson_210 rfl (lv_at hl 1 rfl) ?_
              refine lv_lload_n hx hb dX12_readsPerson_211 rfl (lv_at hl 2 rfl) ?_
              refine mlast hx hb hK hw hS 4 mWg3 hw102_s1 (by decide) dX12_readsPerson_212 (mW ct h0 y r37 (zset q34 3 (vp_updL (q34 3) (zn (6 + (r 1 5))) w102_2))) mWs3 (fun H locs hw hS => ?_)
              refine mqgen hw (fun q38 eq38 hw => ?_)
              have hE := zletE eq38 hE
              refine lv_aload_n hx hb dX12_readsPerson_213 rfl (lv_at hl 0 rfl) ?_
              refine mget (v := .ref (y 1)) hx hb hts hiX12 hown hK hw 10 (by decide) lf13 rfl rfl dX12_readsPerson_214 ?_
              refine lv_iconst (v := 5) hx hb dX12_readsPerson_217 (by decide) ?_
              refine lv_dup2_11 hx hb dX12_readsPerson_218 rfl rfl ?_
              refine ziald hx hb hK hw 2 mWg1 5 (by decide) (by decide) (by decide) dX12_readsPerson_219 ?_
              refine lv_iconst (v := 1) hx hb dX12_readsPerson_220 (by decide) ?_
              refine lv_iadd hx hb dX12_readsPerson_221 ?_
              have k39 : zI 1 6 ((r37 1 5) + 1) := zI.add (zs_at er37 (fu31.at (zs_at er30 (fu24.at (fu21.at (zs_at er20 (fu15.at (fu8.at (fu5.at (zs_at er1 mw102_1_5 (by decide)) rfl) rfl) rfl) (by decide)) rfl) rfl) (by decide)) rfl) (by decide)) (zI.lit (a := 1) (b := 1) (c := 1) (by decide)) (by decide)
              refine ziast hx hb hK hw hS 2 mWg1 5 (by decide) (by decide) (by decide) dX12_readsPerson_222 (mW ct h0 y (zset r37 1 (upd (r37 1) 5 ((r37 1 5) + 1))) q38) mWs1 (fun H locs hw hS => ?_)
              refine mgen (P := fun x => mJ B x ∧ zFr [104, 105, 106, 108, 109, 136, 6, 7, 8, 9, 1] r x) hw ⟨pr37.1.setL (by decide) (k39.w (c := 0) (d := 6) (by decide)), pr37.2.set rfl⟩ (fun r40 er40 hw pr40 => ?_)
              have hE := zletE er40 hE
              refine lv_aload_n hx hb dX12_readsPerson_223 rfl (lv_at hl 0 rfl) ?_
              refine mcallV (As := []) (rest := []) ⟨hx, hb, hml, hown, hts⟩ (mc_closes l D ct h0 y B r40 q38 pr40.1 ((mP.fr yu31_0 ((zs_row (k := 103) er40 (by decide)).trans (zs_row (k := 103) er37 (by decide))) ((zs_row (k := 104) er40 (by decide)).trans (zs_row (k := 104) er37 (by decide))) ((zs_row (k := 105) er40 (by decide)).trans (zs_row (k := 105) er37 (by decide))) ((zs_row (k := 106) er40 (by decide)).trans (zs_row (k := 106) er37 (by decide)))))) (wqX12_286_mc_closes hts ⟨Nat.le_of_ble_eq_true rfl, Nat.le_of_ble_eq_true rfl⟩) hw hS hA hK hN rfl hl.1 rfl (Nat.le_of_ble_eq_true rfl) dX12_readsPerson_224 227 rfl (fun u41 H locs pu41 hw hS => ?_)
              obtain ⟨v42, r43, q44⟩ := u41
              have hv42 : zI 0 1 v42 := pu41.1
              have ju41 : mJ B r43 := pu41.2.1
              have fu41 : zFr [104, 105, 106, 108, 109] r40 r43 := pu41.2.2.1
              have yu41_0 : mP r43 := pu41.2.2.2.1
              have yu41_1 : (r40 105 0).toInt ≤ (r43 105 0).toInt := pu41.2.2.2.2.1
              have xu41 : (v42, r43, q44) = (Gm_closes r40 q38) := pu41.2.2.2.2.2.1
              have hE := zc_vrqE xu41 hE
              have hw : zPD D A (mW ct h0 y r43 q44) H := hw
              refine zfr 227 [.int v42] rfl rfl ?_
              exact ziretQ hQ hx hb hr (hv42.rn) hlocks (v42, r43, q44) rfl ⟨hv42, ju41, (pr40.2.tr fu41 rfl), (show mP r43 from yu41_0), (show ¬ v42 = 0 → (r 105 0).toInt < (r43 105 0).toInt from (fun _ => by have := xm102; have := yu41_1; have := congrArg Int32.toInt (congrFun (zs_row (k := 105) er40 (by decide)) 0); have := congrArg Int32.toInt (congrFun (zs_row (k := 105) er37 (by decide)) 0); have := yu31_1; have := congrArg Int32.toInt (congrFun (zs_row (k := 105) er30 (by decide)) 0); have := yu24_1; have := yu21_1; have := ((mP.fr yu8_0 ((zs_row (k := 103) er20 (by decide)).trans (fu15 103 rfl)) ((zs_row (k := 104) er20 (by decide)).trans (fu15 104 rfl)) ((zs_row (k := 105) er20 (by decide)).trans (fu15 105 rfl)) ((zs_row (k := 106) er20 (by decide)).trans (fu15 106 rfl)))).1; have := congrArg Int32.toInt (congrFun (zs_row (k := 105) er20 (by decide)) 0); have := congrArg Int32.toInt (congrFun (fu15 105 rfl) 0); have := yu8_1; have := yu5_1; have := ((mP.fr xp102 (zs_row (k := 103) er1 (by decide)) (zs_row (k := 104) er1 (by decide)) (zs_row (k := 105) er1 (by decide)) (zs_row (k := 106) er1 (by decide)))).1; have := congrArg Int32.toInt (congrFun (zs_row (k := 105) er1 (by decide)) 0); omega)), (show ¬ v42 = 0 → mT1 r43 from (fun _ => by unfold mT1; rw [(fu41 1 rfl), zs_self er40, pk_us, pk_un (by decide)]; intro _; have h9 := yu15_1 c18; rw [← ((zs_row (k := 1) er37 (by decide)).trans ((fu31 1 rfl).trans ((zs_row (k := 1) er30 (by decide)).trans ((fu24 1 rfl).trans ((fu21 1 rfl).trans (zs_row (k := 1) er20 (by decide)))))))] at h9; omega)), (hE.symm.trans hX), trivial⟩ hw hS dX12_readsPerson_227
            · have hE := zifnF c35 hE
              have k45 : zI 0 0 (v32) := zI.eqq c35 (zI.lit (a := 0) (b := 0) (c := 0) (by decide))
              refine lv_iconst (v := 0) hx hb dX12_readsPerson_194 (by decide) ?_
              exact ziretQ hQ hx hb hr rfl hlocks (0, r33, q34) rfl ⟨((zI.lit (a := 0) (b := 0) (c := 0) (by decide)).w (c := 0) (d := 1) (by decide)), ju31, (pr30.2.tr fu31 rfl), (show mP r33 from yu31_0), (fun h => absurd rfl h), (fun h => absurd rfl h), (hE.symm.trans hX), trivial⟩ hw hS dX12_readsPerson_195
          · have hE := zifnF c28 hE
            have k46 : zI 0 0 (v25) := zI.eqq c28 (zI.lit (a := 0) (b := 0) (c := 0) (by decide))
            refine lv_iconst (v := 0) hx hb dX12_readsPerson_169 (by decide) ?_
            exact ziretQ hQ hx hb hr rfl hlocks (0, r26, q27) rfl ⟨((zI.lit (a := 0) (b := 0) (c := 0) (by decide)).w (c := 0) (d := 1) (by decide)), ju24, ((pr20.2.tr fu21 rfl).tr fu24 rfl), (show mP r26 from yu24_0), (fun h => absurd rfl h), (fun h => absurd rfl h), (hE.symm.trans hX), trivial⟩ hw hS dX12_readsPerson_170
        · have hE := zifnF c18 hE
          have k47 : zI 0 0 (v16) := zI.eqq c18 (zI.lit (a := 0) (b := 0) (c := 0) (by decide))
          refine lv_iconst (v := 0) hx hb dX12_readsPerson_140 (by decide) ?_
          exact ziretQ hQ hx hb hr rfl hlocks (0, r17, q11) rfl ⟨((zI.lit (a := 0) (b := 0) (c := 0) (by decide)).w (c := 0) (d := 1) (by decide)), ju15, (((pr1.2.tr fu5 rfl).tr fu8 rfl).tr fu15 rfl), (show mP r17 from (mP.fr yu8_0 (fu15 103 rfl) (fu15 104 rfl) (fu15 105 rfl) (fu15 106 rfl))), (fun h => absurd rfl h), (fun h => absurd rfl h), (hE.symm.trans hX), trivial⟩ hw hS dX12_readsPerson_141
    · have hE := zifF c3 hE
      have k48 : zI (-2147483648) (-1) (v2) := zI.ltU (zI.nle c3) (zI.top _) (zI.lit (a := 0) (b := 0) (c := 0) (by decide)) (by decide)
      refine lv_aload_n hx hb dX12_readsPerson_112 rfl (lv_at hl 0 rfl) ?_
      refine lv_iconst (v := 1) hx hb dX12_readsPerson_113 (by decide) ?_
      refine mcallV (As := [.int 1]) (rest := []) ⟨hx, hb, hml, hown, hts⟩ (mc_fails l D ct h0 y B 1 r1 qw102 ((zI.lit (a := 1) (b := 1) (c := 1) (by decide)).w (c := 1) (d := 5) (by decide)) pr1.1) (wqX12_193_mc_fails hts ⟨Nat.le_of_ble_eq_true rfl, Nat.le_of_ble_eq_true rfl⟩) hw hS hA hK hN rfl hl.1 rfl (Nat.le_of_ble_eq_true rfl) dX12_readsPerson_114 117 rfl (fun u49 H locs pu49 hw hS => ?_)
      obtain ⟨v50, r51⟩ := u49
      have hv50 : zI 0 0 v50 := pu49.1
      have ju49 : mJ B r51 := pu49.2.1
      have fu49 : zFr [109] r1 r51 := pu49.2.2.1
      have xu49 : (v50, r51) = (Gm_fails (1 : Int32) r1 qw102) := pu49.2.2.2.1
      have hE := zc_vrE xu49 hE
      have hw : zPD D A (mW ct h0 y r51 qw102) H := hw
      refine zfr 117 [.int v50] rfl rfl ?_
      exact ziretQ hQ hx hb hr ((hv50.w (c := 0) (d := 1) (by decide)).rn) hlocks (v50, r51, qw102) rfl ⟨(hv50.w (c := 0) (d := 1) (by decide)), ju49, (pr1.2.tr fu49 rfl), (show mP r51 from (mP.fr xp102 ((fu49 103 rfl).trans (zs_row (k := 103) er1 (by decide))) ((fu49 104 rfl).trans (zs_row (k := 104) er1 (by decide))) ((fu49 105 rfl).trans (zs_row (k := 105) er1 (by decide))) ((fu49 106 rfl).trans (zs_row (k := 106) er1 (by decide))))), (fun h => absurd (zI.eq0 hv50) h), (fun h => absurd (zI.eq0 hv50) h), (hE.symm.trans hX), trivial⟩ hw hS dX12_readsPerson_117
  intro H locs hw hS ls hl
  have hl : lv_has ls 4 [(0, .ref h0)] := hl
  have hE := hX
  unfold Gm_readsPerson at hE
  refine lv_bipush (v := 6) hx hb dX12_readsPerson_0 (by decide) ?_
  refine lv_aload_n hx hb dX12_readsPerson_2 rfl (lv_at hl 0 rfl) ?_
  refine mget (v := .ref (y 1)) hx hb hts hiX12 hown hK hw 10 (by decide) lf13 rfl rfl dX12_readsPerson_3 ?_
  refine lv_iconst (v := 5) hx hb dX12_readsPerson_6 (by decide) ?_
  refine ziald hx hb hK hw 2 mWg1 5 (by decide) (by decide) (by decide) dX12_readsPerson_7 ?_
  refine lv_iadd hx hb dX12_readsPerson_8 ?_
  have k52 : zI 6 12 (6 + (r 1 5)) := zI.add (zI.lit (a := 6) (b := 6) (c := 6) (by decide)) (show zI 0 6 (r 1 5) from hJ0.i 1 5) (by decide)
  refine lv_istore_n (lv' := [(1, .int (6 + (r 1 5))), (0, .ref h0)]) hx hb dX12_readsPerson_9 rfl hl (by decide) rfl (fun ls hl => ?_)
  refine lv_iload_n hx hb dX12_readsPerson_10 rfl (lv_at hl 0 rfl) ?_
  refine lv_bipush (v := 12) hx hb dX12_readsPerson_11 (by decide) ?_
  refine lv_icmp_ne (tgt := 22) hx hb dX12_readsPerson_13 (by decide) (fun c53 => ?_) (fun c53 => ?_)
  · have hE := zifnT c53 hE
    have k54 : zI 6 11 (6 + (r 1 5)) := zI.neU c53 k52 (zI.lit (a := 12) (b := 12) (c := 12) (by decide)) (by decide)
    have k55 : zI 0 5 (r 1 5) := zI.un6 k54 (show zI 0 6 (r 1 5) from hJ0.i 1 5)
    refine lv_aload_n hx hb dX12_readsPerson_22 rfl (lv_at hl 1 rfl) ?_
    refine mcallV (As := []) (rest := []) ⟨hx, hb, hml, hown, hts⟩ (mc_nextToken l D ct h0 y B r q hJ0 ((x1).2.1)) (wqX12_200_mc_nextToken hts ⟨Nat.le_of_ble_eq_true rfl, Nat.le_of_ble_eq_true rfl⟩) hw hS hA hK hN rfl hl.1 rfl (Nat.le_of_ble_eq_true rfl) dX12_readsPerson_23 26 rfl (fun u56 H locs pu56 hw hS => ?_)
    obtain ⟨r57, q58⟩ := u56
    have ju56 : mJ B r57 := pu56.1
    have fu56 : zFr [104, 105, 106, 108] r r57 := pu56.2.1
    have yu56_0 : mP r57 := pu56.2.2.1
    have yu56_1 : (r 104 0).toInt ≤ (r57 105 0).toInt := pu56.2.2.2.1
    have xu56 : (r57, q58) = (Gm_nextToken r q) := pu56.2.2.2.2.1
    have hE := zc_rqE xu56 hE
    have hw : zPD D A (mW ct h0 y r57 q58) H := hw
    refine zfr 26 [] rfl rfl ?_
    refine lv_aload_n hx hb dX12_readsPerson_26 rfl (lv_at hl 1 rfl) ?_
    refine mcallV (As := []) (rest := []) ⟨hx, hb, hml, hown, hts⟩ (mc_needsNew l D ct h0 y B r57 q58 ju56 (yu56_0)) (wqX12_279_mc_needsNew hts ⟨Nat.le_of_ble_eq_true rfl, Nat.le_of_ble_eq_true rfl⟩) hw hS hA hK hN rfl hl.1 rfl (Nat.le_of_ble_eq_true rfl) dX12_readsPerson_27 30 rfl (fun u59 H locs pu59 hw hS => ?_)
    obtain ⟨v60, r61, q62⟩ := u59
    have hv60 : zI 0 1 v60 := pu59.1
    have ju59 : mJ B r61 := pu59.2.1
    have fu59 : zFr [104, 105, 106, 108, 109] r57 r61 := pu59.2.2.1
    have yu59_0 : mP r61 := pu59.2.2.2.1
    have yu59_1 : (r57 105 0).toInt ≤ (r61 105 0).toInt := pu59.2.2.2.2.1
    have xu59 : (v60, r61, q62) = (Gm_needsNew r57 q58) := pu59.2.2.2.2.2.1
    have hE := zc_vrqE xu59 hE
    have hw : zPD D A (mW ct h0 y r61 q62) H := hw
    refine zfr 30 [.int v60] rfl rfl ?_
    refine lv_if_ne (tgt := 35) hx hb dX12_readsPerson_30 (by decide) (fun c63 => ?_) (fun c63 => ?_)
    · have hE := zifnT c63 hE
      have k64 : zI 1 1 (v60) := zI.neD c63 hv60 (zI.lit (a := 0) (b := 0) (c := 0) (by decide)) (by decide)
      refine lv_aload_n hx hb dX12_readsPerson_35 rfl (lv_at hl 1 rfl) ?_
      refine mget (v := .long (q62 137 0)) hx hb hts hiX12 hown hK hw 37 (by decide) lf276 rfl rfl dX12_readsPerson_36 (zgenLE (fun v65 ev65 => ?_))
      have hE := zletE ev65 hE
      refine lv_lstore_n (lv' := [(2, .long v65), (1, .int (6 + (r 1 5))), (0, .ref h0)]) hx hb dX12_readsPerson_39 rfl hl (by decide) rfl (fun ls hl => ?_)
      refine lv_aload_n hx hb dX12_readsPerson_40 rfl (lv_at hl 2 rfl) ?_
      refine mget (v := .ref (y 6)) hx hb hts hiX12 hown hK hw 15 (by decide) lf29 rfl rfl dX12_readsPerson_41 ?_
      refine lv_iload_n hx hb dX12_readsPerson_44 rfl (lv_at hl 1 rfl) ?_
      refine lv_aload_n hx hb dX12_readsPerson_45 rfl (lv_at hl 2 rfl) ?_
      refine lv_ldc2 hx hb hown (hts (.constantLong RX12 244 8740238) (ki (zr24 8 rfl))) dX12_readsPerson_46 ?_
      refine mcallV (As := [.long 8740238]) (rest := [.int (6 + (r 1 5)), .ref (y 6)]) ⟨hx, hb, hml, hown, hts⟩ (mc_isWord l D ct h0 y B 8740238 r61 q62 ju59) (wqX12_185_mc_isWord hts ⟨Nat.le_of_ble_eq_true rfl, Nat.le_of_ble_eq_true rfl⟩) hw hS hA hK hN rfl hl.1 rfl (Nat.le_of_ble_eq_true rfl) dX12_readsPerson_49 52 rfl (fun u66 H locs pu66 hw hS => ?_)
      have hu66 : zI 0 1 u66 := pu66.1
      have yu66_0 : ¬ u66 = 0 → zI 1 1 (r61 106 0) := pu66.2.1
      have xu66 : u66 = (Gm_isWord (8740238 : Int64) r61 q62) := pu66.2.2.1
      have hE := zletE xu66 hE
      have hw : zPD D A (mW ct h0 y r61 q62) H := hw
      refine zfr 52 [.int u66, .int (6 + (r 1 5)), .ref (y 6)] rfl rfl ?_
      refine lv_if_eq (tgt := 59) hx hb dX12_readsPerson_52 (by decide) (fun c68 => ?_) (fun c68 => ?_)
      · have hE := zifT c68 hE
        have k69 : zI 0 0 (u66) := zI.eqq c68 (zI.lit (a := 0) (b := 0) (c := 0) (by decide))
        refine lv_aload_n hx hb dX12_readsPerson_59 rfl (lv_at hl 2 rfl) ?_
        refine lv_ldc2 hx hb hown (hts (.constantLong RX12 246 279844694) (ki (zr24 9 rfl))) dX12_readsPerson_60 ?_
        refine mcallV (As := [.long 279844694]) (rest := [.int (6 + (r 1 5)), .ref (y 6)]) ⟨hx, hb, hml, hown, hts⟩ (mc_isWord l D ct h0 y B 279844694 r61 q62 ju59) (wqX12_185_mc_isWord hts ⟨Nat.le_of_ble_eq_true rfl, Nat.le_of_ble_eq_true rfl⟩) hw hS hA hK hN rfl hl.1 rfl (Nat.le_of_ble_eq_true rfl) dX12_readsPerson_63 66 rfl (fun u70 H locs pu70 hw hS => ?_)
        have hu70 : zI 0 1 u70 := pu70.1
        have yu70_0 : ¬ u70 = 0 → zI 1 1 (r61 106 0) := pu70.2.1
        have xu70 : u70 = (Gm_isWord (279844694 : Int64) r61 q62) := pu70.2.2.1
        have hE := zletE xu70 hE
        have hw : zPD D A (mW ct h0 y r61 q62) H := hw
        refine zfr 66 [.int u70, .int (6 + (r 1 5)), .ref (y 6)] rfl rfl ?_
        refine lv_if_eq (tgt := 73) hx hb dX12_readsPerson_66 (by decide) (fun c72 => ?_) (fun c72 => ?_)
        · have hE := zifT c72 hE
          have k73 : zI 0 0 (u70) := zI.eqq c72 (zI.lit (a := 0) (b := 0) (c := 0) (by decide))
          refine lv_aload_n hx hb dX12_readsPerson_73 rfl (lv_at hl 2 rfl) ?_
          refine lv_ldc2 hx hb hown (hts (.constantLong RX12 248 33861013) (ki (zr24 10 rfl))) dX12_readsPerson_74 ?_
          refine mcallV (As := [.long 33861013]) (rest := [.int (6 + (r 1 5)), .ref (y 6)]) ⟨hx, hb, hml, hown, hts⟩ (mc_isWord l D ct h0 y B 33861013 r61 q62 ju59) (wqX12_185_mc_isWord hts ⟨Nat.le_of_ble_eq_true rfl, Nat.le_of_ble_eq_true rfl⟩) hw hS hA hK hN rfl hl.1 rfl (Nat.le_of_ble_eq_true rfl) dX12_readsPerson_77 80 rfl (fun u74 H locs pu74 hw hS => ?_)
          have hu74 : zI 0 1 u74 := pu74.1
          have yu74_0 : ¬ u74 = 0 → zI 1 1 (r61 106 0) := pu74.2.1
          have xu74 : u74 = (Gm_isWord (33861013 : Int64) r61 q62) := pu74.2.2.1
          have hE := zletE xu74 hE
          have hw : zPD D A (mW ct h0 y r61 q62) H := hw
          refine zfr 80 [.int u74, .int (6 + (r 1 5)), .ref (y 6)] rfl rfl ?_
          refine lv_if_eq (tgt := 87) hx hb dX12_readsPerson_80 (by decide) (fun c76 => ?_) (fun c76 => ?_)
          · have hE := zifT c76 hE
            have k77 : zI 0 0 (u74) := zI.eqq c76 (zI.lit (a := 0) (b := 0) (c := 0) (by decide))
            refine lv_aload_n hx hb dX12_readsPerson_87 rfl (lv_at hl 2 rfl) ?_
            refine lv_ldc2 hx hb hown (hts (.constantLong RX12 250 151063) (ki (zr24 11 rfl))) dX12_readsPerson_88 ?_
            refine mcallV (As := [.long 151063]) (rest := [.int (6 + (r 1 5)), .ref (y 6)]) ⟨hx, hb, hml, hown, hts⟩ (mc_isWord l D ct h0 y B 151063 r61 q62 ju59) (wqX12_185_mc_isWord hts ⟨Nat.le_of_ble_eq_true rfl, Nat.le_of_ble_eq_true rfl⟩) hw hS hA hK hN rfl hl.1 rfl (Nat.le_of_ble_eq_true rfl) dX12_readsPerson_91 94 rfl (fun u78 H locs pu78 hw hS => ?_)
            have hu78 : zI 0 1 u78 := pu78.1
            have yu78_0 : ¬ u78 = 0 → zI 1 1 (r61 106 0) := pu78.2.1
            have xu78 : u78 = (Gm_isWord (151063 : Int64) r61 q62) := pu78.2.2.1
            have hE := zletE xu78 hE
            have hw : zPD D A (mW ct h0 y r61 q62) H := hw
            refine zfr 94 [.int u78, .int (6 + (r 1 5)), .ref (y 6)] rfl rfl ?_
            refine lv_if_eq (tgt := 101) hx hb dX12_readsPerson_94 (by decide) (fun c80 => ?_) (fun c80 => ?_)
            · have hE := zifT c80 hE
              have k81 : zI 0 0 (u78) := zI.eqq c80 (zI.lit (a := 0) (b := 0) (c := 0) (by decide))
              refine lv_iconst (v := (-1)) hx hb dX12_readsPerson_101 (by decide) ?_
              exact cut102 v65 (-1) r61 q62 k54 ((zI.lit (a := (-1)) (b := (-1)) (c := (-1)) (by decide)).w (c := (-1)) (d := 3) (by decide)) k54 ju59 (((zFr.refl).tr fu56 rfl).tr fu59 rfl) (fu59.at (fu56.at k55 rfl) rfl) (yu59_0) (by have := yu59_1; have := yu56_1; have := (x1).1; have := (x1).2.2.resolve_left (tkne x2 (by decide)); omega) hE H locs ls hw hS (lv_sub hl [2, 1, 0] rfl)
            · have hE := zifF c80 hE
              have k82 : zI 1 1 (u78) := zI.neD c80 hu78 (zI.lit (a := 0) (b := 0) (c := 0) (by decide)) (by decide)
              refine lv_iconst (v := 3) hx hb dX12_readsPerson_97 (by decide) ?_
              refine lv_goto (tgt := 102) hx hb dX12_readsPerson_98 (by decide) ?_
              exact cut102 v65 3 r61 q62 k54 ((zI.lit (a := 3) (b := 3) (c := 3) (by decide)).w (c := (-1)) (d := 3) (by decide)) k54 ju59 (((zFr.refl).tr fu56 rfl).tr fu59 rfl) (fu59.at (fu56.at k55 rfl) rfl) (yu59_0) (by have := yu59_1; have := yu56_1; have := (x1).1; have := (x1).2.2.resolve_left (tkne x2 (by decide)); omega) hE H locs ls hw hS (lv_sub hl [2, 1, 0] rfl)
          · have hE := zifF c76 hE
            have k83 : zI 1 1 (u74) := zI.neD c76 hu74 (zI.lit (a := 0) (b := 0) (c := 0) (by decide)) (by decide)
            refine lv_iconst (v := 2) hx hb dX12_readsPerson_83 (by decide) ?_
            refine lv_goto (tgt := 102) hx hb dX12_readsPerson_84 (by decide) ?_
            exact cut102 v65 2 r61 q62 k54 ((zI.lit (a := 2) (b := 2) (c := 2) (by decide)).w (c := (-1)) (d := 3) (by decide)) k54 ju59 (((zFr.refl).tr fu56 rfl).tr fu59 rfl) (fu59.at (fu56.at k55 rfl) rfl) (yu59_0) (by have := yu59_1; have := yu56_1; have := (x1).1; have := (x1).2.2.resolve_left (tkne x2 (by decide)); omega) hE H locs ls hw hS (lv_sub hl [2, 1, 0] rfl)
        · have hE := zifF c72 hE
          have k84 : zI 1 1 (u70) := zI.neD c72 hu70 (zI.lit (a := 0) (b := 0) (c := 0) (by decide)) (by decide)
          refine lv_iconst (v := 1) hx hb dX12_readsPerson_69 (by decide) ?_
          refine lv_goto (tgt := 102) hx hb dX12_readsPerson_70 (by decide) ?_
          exact cut102 v65 1 r61 q62 k54 ((zI.lit (a := 1) (b := 1) (c := 1) (by decide)).w (c := (-1)) (d := 3) (by decide)) k54 ju59 (((zFr.refl).tr fu56 rfl).tr fu59 rfl) (fu59.at (fu56.at k55 rfl) rfl) (yu59_0) (by have := yu59_1; have := yu56_1; have := (x1).1; have := (x1).2.2.resolve_left (tkne x2 (by decide)); omega) hE H locs ls hw hS (lv_sub hl [2, 1, 0] rfl)
      · have hE := zifF c68 hE
        have k85 : zI 1 1 (u66) := zI.neD c68 hu66 (zI.lit (a := 0) (b := 0) (c := 0) (by decide)) (by decide)
        refine lv_iconst (v := 0) hx hb dX12_readsPerson_55 (by decide) ?_
        refine lv_goto (tgt := 102) hx hb dX12_readsPerson_56 (by decide) ?_
        exact cut102 v65 0 r61 q62 k54 ((zI.lit (a := 0) (b := 0) (c := 0) (by decide)).w (c := (-1)) (d := 3) (by decide)) k54 ju59 (((zFr.refl).tr fu56 rfl).tr fu59 rfl) (fu59.at (fu56.at k55 rfl) rfl) (yu59_0) (by have := yu59_1; have := yu56_1; have := (x1).1; have := (x1).2.2.resolve_left (tkne x2 (by decide)); omega) hE H locs ls hw hS (lv_sub hl [2, 1, 0] rfl)
    · have hE := zifnF c63 hE
      have k86 : zI 0 0 (v60) := zI.eqq c63 (zI.lit (a := 0) (b := 0) (c := 0) (by decide))
      refine lv_iconst (v := 0) hx hb dX12_readsPerson_33 (by decide) ?_
      exact ziretQ hQ hx hb hr rfl hlocks (0, r61, q62) rfl ⟨((zI.lit (a := 0) (b := 0) (c := 0) (by decide)).w (c := 0) (d := 1) (by decide)), ju59, (((zFr.refl).tr fu56 rfl).tr fu59 rfl), (show mP r61 from yu59_0), (fun h => absurd rfl h), (fun h => absurd rfl h), (hE.symm.trans hX), trivial⟩ hw hS dX12_readsPerson_34
  · have hE := zifnF c53 hE
    have k87 : zI 12 12 (6 + (r 1 5)) := zI.eqq c53 (zI.lit (a := 12) (b := 12) (c := 12) (by decide))
    refine lv_aload_n hx hb dX12_readsPerson_16 rfl (lv_at hl 1 rfl) ?_
    refine lv_iconst (v := 5) hx hb dX12_readsPerson_17 (by decide) ?_
    refine mcallV (As := [.int 5]) (rest := []) ⟨hx, hb, hml, hown, hts⟩ (mc_fails l D ct h0 y B 5 r q ((zI.lit (a := 5) (b := 5) (c := 5) (by decide)).w (c := 1) (d := 5) (by decide)) hJ0) (wqX12_193_mc_fails hts ⟨Nat.le_of_ble_eq_true rfl, Nat.le_of_ble_eq_true rfl⟩) hw hS hA hK hN rfl hl.1 rfl (Nat.le_of_ble_eq_true rfl) dX12_readsPerson_18 21 rfl (fun u88 H locs pu88 hw hS => ?_)
    obtain ⟨v89, r90⟩ := u88
    have hv89 : zI 0 0 v89 := pu88.1
    have ju88 : mJ B r90 := pu88.2.1
    have fu88 : zFr [109] r r90 := pu88.2.2.1
    have xu88 : (v89, r90) = (Gm_fails (5 : Int32) r q) := pu88.2.2.2.1
    have hE := zc_vrE xu88 hE
    have hw : zPD D A (mW ct h0 y r90 q) H := hw
    refine zfr 21 [.int v89] rfl rfl ?_
    exact ziretQ hQ hx hb hr ((hv89.w (c := 0) (d := 1) (by decide)).rn) hlocks (v89, r90, q) rfl ⟨(hv89.w (c := 0) (d := 1) (by decide)), ju88, ((zFr.refl).tr fu88 rfl), (show mP r90 from (mP.fr x1 (fu88 103 rfl) (fu88 104 rfl) (fu88 105 rfl) (fu88 106 rfl))), (fun h => absurd (zI.eq0 hv89) h), (fun h => absurd (zI.eq0 hv89) h), (hE.symm.trans hX), trivial⟩ hw hS dX12_readsPerson_21

set_option maxHeartbeats 4000000 in
set_option maxRecDepth 100000 in
theorem mc_readsOne2 (l : Launch) (D : va_G) (ct : Nat → ClassId) (h0 : Nat) (y : Nat → Nat) (B : Int) (a2 : Int32) (a3 : Int32) (r : zRr) (q : zRq) (hJ0 : mJ B r) (x1 : mP r) (x2 : zI 1 4 (r 106 0)) (x3 : mT1 r) : zC l yX12_readsOne (.code yX12_readsOne cX12_readsOne 4 (some .boolean) :: wsL_law0) ({ frames := 4, cells := 0, slots := 0, locals := 200 }) D ct [] [.ref h0, .int 2, .int a2, .int a3] (mW ct h0 y r q) (S := Int32 × zRr × zRq) (fun u => some (.int u.1)) (fun u => zI 0 1 u.1 ∧ mJ B u.2.1 ∧ zFr [104, 105, 106, 108, 109, 136, 123, 1] r u.2.1 ∧ (mP u.2.1) ∧ (¬ u.1 = 0 → (r 105 0).toInt < (u.2.1 105 0).toInt) ∧ (¬ u.1 = 0 → mT1 u.2.1) ∧ u = (Gm_readsOne2 a2 a3 r q) ∧ True) (fun u => mW ct h0 y u.2.1 u.2.2) 0 0 := by
  refine zofQ cX12_readsOne 4 (some .boolean) (by decide) rfl (Nat.le_of_ble_eq_true rfl) ?_
  intro p e s m below meth c A a9 Q ha9 hx hb hr hml hts hown hlocks hname hK hA hZ hN hQ
  have hown : s.vm.findClass RX12 = some m.cls := hown
  have hiX12 : ∀ w ∈ wsX120, w ∈ .code yX12_readsOne cX12_readsOne 4 (some .boolean) :: wsL_law0 := fun _ h => ki (zs_wsX120 _ h)
  have lf13 := hts (.fieldLink RX12 13 "BeardPassModel" "land" "[I") (ki (zr7 20 rfl))
  have lf256 := hts (.fieldLink RX12 256 "BeardPassModel" "given" "I") (ki (zr23 11 rfl))
  have lf292 := hts (.fieldLink RX12 292 "BeardPassModel" "toldLines" "I") (ki (zr21 22 rfl))
  obtain ⟨X, hX⟩ : ∃ X, X = (Gm_readsOne2 a2 a3 r q) := ⟨_, rfl⟩
  intro H locs hw hS ls hl
  have hl : lv_has ls 4 [(0, .ref h0), (1, .int 2), (2, .int a2), (3, .int a3)] := hl
  have hE := hX
  unfold Gm_readsOne2 at hE
  refine lv_aload_n hx hb dX12_readsOne_0 rfl (lv_at hl 0 rfl) ?_
  refine mget (v := .int (r 123 0)) hx hb hts hiX12 hown hK hw 23 (by decide) lf292 rfl rfl dX12_readsOne_1 (zgenE (zI.top _) (fun v1 ev1 _ => ?_))
  have hE := zletE ev1 hE
  refine lv_iload_n hx hb dX12_readsOne_4 rfl (lv_at hl 1 rfl) ?_
  refine lv_ishr hx hb dX12_readsOne_5 (zgenE (zI.top _) (fun v2 ev2 _ => ?_))
  have hE := zletE ev2 hE
  refine lv_iconst (v := 1) hx hb dX12_readsOne_6 (by decide) ?_
  refine lv_iand hx hb dX12_readsOne_7 (zgenE (lo := 0) (hi := 1) (zI.and (zI.lit (a := 1) (b := 1) (c := 1) (by decide)) (by decide)) (fun v3 ev3 hv3 => ?_))
  have hE := zletE ev3 hE
  refine lv_iconst (v := 1) hx hb dX12_readsOne_8 (by decide) ?_
  refine lv_icmp_ne (tgt := 18) hx hb dX12_readsOne_9 (by decide) (fun c4 => ?_) (fun c4 => ?_)
  · have hE := zifnT c4 hE
    have k5 : zI 0 0 (v3) := zI.neU c4 hv3 (zI.lit (a := 1) (b := 1) (c := 1) (by decide)) (by decide)
    refine lv_aload_n hx hb dX12_readsOne_18 rfl (lv_at hl 0 rfl) ?_
    refine lv_dup hx hb dX12_readsOne_19 rfl ?_
    refine mget (v := .int (r 123 0)) hx hb hts hiX12 hown hK hw 23 (by decide) lf292 rfl rfl dX12_readsOne_20 (zgenE (zI.top _) (fun v6 ev6 _ => ?_))
    have hE := zletE ev6 hE
    refine lv_iconst (v := 1) hx hb dX12_readsOne_23 (by decide) ?_
    refine lv_iload_n hx hb dX12_readsOne_24 rfl (lv_at hl 1 rfl) ?_
    refine lv_ishl hx hb dX12_readsOne_25 (ztop (.int 4) (congrArg Value.int (by decide)) ?_)
    refine lv_ior hx hb dX12_readsOne_26 (zgenE (zI.top _) (fun v7 ev7 _ => ?_))
    have hE := zletE ev7 hE
    refine mput (ty := .int) (v := .int v7) hx hb hts hiX12 hown hK hw hS 23 (by decide) lf292 rfl rfl (by decide +kernel) rfl rfl dX12_readsOne_27 (zset r 123 (fun _ => v7)) _ mWf23 (fun H locs hw hS => ?_)
    refine mgen (P := fun x => mJ B x ∧ zFr [104, 105, 106, 108, 109, 136, 123, 1] r x) hw ⟨hJ0.setc rfl (fun _ => (zI.top _)), (zFr.refl).set rfl⟩ (fun r8 er8 hw pr8 => ?_)
    have hE := zletE er8 hE
    refine lv_aload_n hx hb dX12_readsOne_30 rfl (lv_at hl 0 rfl) ?_
    refine mcallV (As := []) (rest := []) ⟨hx, hb, hml, hown, hts⟩ (mc_nextToken l D ct h0 y B r8 q pr8.1 (((mP.fr x1 (zs_row (k := 103) er8 (by decide)) (zs_row (k := 104) er8 (by decide)) (zs_row (k := 105) er8 (by decide)) (zs_row (k := 106) er8 (by decide)))).2.1)) (wqX12_200_mc_nextToken hts ⟨Nat.le_of_ble_eq_true rfl, Nat.le_of_ble_eq_true rfl⟩) hw hS hA hK hN rfl hl.1 rfl (Nat.le_of_ble_eq_true rfl) dX12_readsOne_31 34 rfl (fun u9 H locs pu9 hw hS => ?_)
    obtain ⟨r10, q11⟩ := u9
    have ju9 : mJ B r10 := pu9.1
    have fu9 : zFr [104, 105, 106, 108] r8 r10 := pu9.2.1
    have yu9_0 : mP r10 := pu9.2.2.1
    have yu9_1 : (r8 104 0).toInt ≤ (r10 105 0).toInt := pu9.2.2.2.1
    have xu9 : (r10, q11) = (Gm_nextToken r8 q) := pu9.2.2.2.2.1
    have hE := zc_rqE xu9 hE
    have hw : zPD D A (mW ct h0 y r10 q11) H := hw
    refine zfr 34 [] rfl rfl ?_
    refine lv_aload_n hx hb dX12_readsOne_34 rfl (lv_at hl 0 rfl) ?_
    refine lv_iload_n hx hb dX12_readsOne_35 rfl (lv_at hl 2 rfl) ?_
    refine lv_iload_n hx hb dX12_readsOne_36 rfl (lv_at hl 3 rfl) ?_
    refine mcallV (As := [.int a2, .int a3]) (rest := []) ⟨hx, hb, hml, hown, hts⟩ (mc_needsNumber l D ct h0 y B a2 a3 r10 q11 ju9 (yu9_0)) (wqX12_262_mc_needsNumber hts ⟨Nat.le_of_ble_eq_true rfl, Nat.le_of_ble_eq_true rfl⟩) hw hS hA hK hN rfl hl.1 rfl (Nat.le_of_ble_eq_true rfl) dX12_readsOne_37 40 rfl (fun u12 H locs pu12 hw hS => ?_)
    obtain ⟨v13, r14, q15⟩ := u12
    have hv13 : zI 0 1 v13 := pu12.1
    have ju12 : mJ B r14 := pu12.2.1
    have fu12 : zFr [104, 105, 106, 108, 109, 136] r10 r14 := pu12.2.2.1
    have yu12_0 : mP r14 := pu12.2.2.2.1
    have yu12_1 : (r10 105 0).toInt ≤ (r14 105 0).toInt := pu12.2.2.2.2.1
    have yu12_2 : ¬ v13 = 0 → zI 0 9999 (r14 136 0) := pu12.2.2.2.2.2.1
    have xu12 : (v13, r14, q15) = (Gm_needsNumber a2 a3 r10 q11) := pu12.2.2.2.2.2.2.1
    have hE := zc_vrqE xu12 hE
    have hw : zPD D A (mW ct h0 y r14 q15) H := hw
    refine zfr 40 [.int v13] rfl rfl ?_
    refine lv_if_ne (tgt := 45) hx hb dX12_readsOne_40 (by decide) (fun c16 => ?_) (fun c16 => ?_)
    · have hE := zifnT c16 hE
      have k17 : zI 1 1 (v13) := zI.neD c16 hv13 (zI.lit (a := 0) (b := 0) (c := 0) (by decide)) (by decide)
      refine lv_aload_n hx hb dX12_readsOne_45 rfl (lv_at hl 0 rfl) ?_
      refine mget (v := .ref (y 1)) hx hb hts hiX12 hown hK hw 10 (by decide) lf13 rfl rfl dX12_readsOne_46 ?_
      refine lv_iconst (v := 4) hx hb dX12_readsOne_49 (by decide) ?_
      refine lv_iload_n hx hb dX12_readsOne_50 rfl (lv_at hl 1 rfl) ?_
      refine lv_iadd hx hb dX12_readsOne_51 (ztop (.int 6) (congrArg Value.int (by decide)) ?_)
      refine lv_aload_n hx hb dX12_readsOne_52 rfl (lv_at hl 0 rfl) ?_
      refine mget (v := .int (r14 136 0)) hx hb hts hiX12 hown hK hw 36 (by decide) lf256 rfl rfl dX12_readsOne_53 (zgenE (lo := 0) (hi := 9999) ((yu12_2 c16)) (fun v18 ev18 hv18 => ?_))
      have hE := zletE ev18 hE
      refine ziast hx hb hK hw hS 2 mWg1 6 (by decide) (by decide) (by decide) dX12_readsOne_56 (mW ct h0 y (zset r14 1 (upd (r14 1) 6 v18)) q15) mWs1 (fun H locs hw hS => ?_)
      refine mgen (P := fun x => mJ B x ∧ zFr [104, 105, 106, 108, 109, 136, 123, 1] r x) hw ⟨ju12.setL (by decide) (zI.top _), ((pr8.2.tr fu9 rfl).tr fu12 rfl).set rfl⟩ (fun r19 er19 hw pr19 => ?_)
      have hE := zletE er19 hE
      refine lv_aload_n hx hb dX12_readsOne_57 rfl (lv_at hl 0 rfl) ?_
      refine mcallV (As := []) (rest := []) ⟨hx, hb, hml, hown, hts⟩ (mc_closes l D ct h0 y B r19 q15 pr19.1 ((mP.fr yu12_0 (zs_row (k := 103) er19 (by decide)) (zs_row (k := 104) er19 (by decide)) (zs_row (k := 105) er19 (by decide)) (zs_row (k := 106) er19 (by decide))))) (wqX12_286_mc_closes hts ⟨Nat.le_of_ble_eq_true rfl, Nat.le_of_ble_eq_true rfl⟩) hw hS hA hK hN rfl hl.1 rfl (Nat.le_of_ble_eq_true rfl) dX12_readsOne_58 61 rfl (fun u20 H locs pu20 hw hS => ?_)
      obtain ⟨v21, r22, q23⟩ := u20
      have hv21 : zI 0 1 v21 := pu20.1
      have ju20 : mJ B r22 := pu20.2.1
      have fu20 : zFr [104, 105, 106, 108, 109] r19 r22 := pu20.2.2.1
      have yu20_0 : mP r22 := pu20.2.2.2.1
      have yu20_1 : (r19 105 0).toInt ≤ (r22 105 0).toInt := pu20.2.2.2.2.1
      have xu20 : (v21, r22, q23) = (Gm_closes r19 q15) := pu20.2.2.2.2.2.1
      have hE := zc_vrqE xu20 hE
      have hw : zPD D A (mW ct h0 y r22 q23) H := hw
      refine zfr 61 [.int v21] rfl rfl ?_
      exact ziretQ hQ hx hb hr (hv21.rn) hlocks (v21, r22, q23) rfl ⟨hv21, ju20, (pr19.2.tr fu20 rfl), (show mP r22 from yu20_0), (show ¬ v21 = 0 → (r 105 0).toInt < (r22 105 0).toInt from (fun _ => by have := yu20_1; have := congrArg Int32.toInt (congrFun (zs_row (k := 105) er19 (by decide)) 0); have := yu12_1; have := yu9_1; have := ((mP.fr x1 (zs_row (k := 103) er8 (by decide)) (zs_row (k := 104) er8 (by decide)) (zs_row (k := 105) er8 (by decide)) (zs_row (k := 106) er8 (by decide)))).1; have := ((mP.fr x1 (zs_row (k := 103) er8 (by decide)) (zs_row (k := 104) er8 (by decide)) (zs_row (k := 105) er8 (by decide)) (zs_row (k := 106) er8 (by decide)))).2.2.resolve_left (tkne (zs_at er8 x2 (by decide)) (by decide)); have := congrArg Int32.toInt (congrFun (zs_row (k := 105) er8 (by decide)) 0); omega)), (show ¬ v21 = 0 → mT1 r22 from (fun _ => x3.two (by rw [(fu20 1 rfl), zs_self er19, pk_un (by decide), ((fu12 1 rfl).trans ((fu9 1 rfl).trans (zs_row (k := 1) er8 (by decide))))]) (by rw [(fu20 1 rfl), zs_self er19, pk_un (by decide), ((fu12 1 rfl).trans ((fu9 1 rfl).trans (zs_row (k := 1) er8 (by decide))))]))), (hE.symm.trans hX), trivial⟩ hw hS dX12_readsOne_61
    · have hE := zifnF c16 hE
      have k24 : zI 0 0 (v13) := zI.eqq c16 (zI.lit (a := 0) (b := 0) (c := 0) (by decide))
      refine lv_iconst (v := 0) hx hb dX12_readsOne_43 (by decide) ?_
      exact ziretQ hQ hx hb hr rfl hlocks (0, r14, q15) rfl ⟨((zI.lit (a := 0) (b := 0) (c := 0) (by decide)).w (c := 0) (d := 1) (by decide)), ju12, ((pr8.2.tr fu9 rfl).tr fu12 rfl), (show mP r14 from yu12_0), (fun h => absurd rfl h), (fun h => absurd rfl h), (hE.symm.trans hX), trivial⟩ hw hS dX12_readsOne_44
  · have hE := zifnF c4 hE
    have k25 : zI 1 1 (v3) := zI.eqq c4 (zI.lit (a := 1) (b := 1) (c := 1) (by decide))
    refine lv_aload_n hx hb dX12_readsOne_12 rfl (lv_at hl 0 rfl) ?_
    refine lv_iconst (v := 3) hx hb dX12_readsOne_13 (by decide) ?_
    refine mcallV (As := [.int 3]) (rest := []) ⟨hx, hb, hml, hown, hts⟩ (mc_fails l D ct h0 y B 3 r q ((zI.lit (a := 3) (b := 3) (c := 3) (by decide)).w (c := 1) (d := 5) (by decide)) hJ0) (wqX12_193_mc_fails hts ⟨Nat.le_of_ble_eq_true rfl, Nat.le_of_ble_eq_true rfl⟩) hw hS hA hK hN rfl hl.1 rfl (Nat.le_of_ble_eq_true rfl) dX12_readsOne_14 17 rfl (fun u26 H locs pu26 hw hS => ?_)
    obtain ⟨v27, r28⟩ := u26
    have hv27 : zI 0 0 v27 := pu26.1
    have ju26 : mJ B r28 := pu26.2.1
    have fu26 : zFr [109] r r28 := pu26.2.2.1
    have xu26 : (v27, r28) = (Gm_fails (3 : Int32) r q) := pu26.2.2.2.1
    have hE := zc_vrE xu26 hE
    have hw : zPD D A (mW ct h0 y r28 q) H := hw
    refine zfr 17 [.int v27] rfl rfl ?_
    exact ziretQ hQ hx hb hr ((hv27.w (c := 0) (d := 1) (by decide)).rn) hlocks (v27, r28, q) rfl ⟨(hv27.w (c := 0) (d := 1) (by decide)), ju26, ((zFr.refl).tr fu26 rfl), (show mP r28 from (mP.fr x1 (fu26 103 rfl) (fu26 104 rfl) (fu26 105 rfl) (fu26 106 rfl))), (fun h => absurd (zI.eq0 hv27) h), (fun h => absurd (zI.eq0 hv27) h), (hE.symm.trans hX), trivial⟩ hw hS dX12_readsOne_17

set_option maxHeartbeats 4000000 in
set_option maxRecDepth 100000 in
theorem mc_readsOne3 (l : Launch) (D : va_G) (ct : Nat → ClassId) (h0 : Nat) (y : Nat → Nat) (B : Int) (a2 : Int32) (a3 : Int32) (r : zRr) (q : zRq) (hJ0 : mJ B r) (x1 : mP r) (x2 : zI 1 4 (r 106 0)) (x3 : mT1 r) : zC l yX12_readsOne (.code yX12_readsOne cX12_readsOne 4 (some .boolean) :: wsL_law0) ({ frames := 4, cells := 0, slots := 0, locals := 200 }) D ct [] [.ref h0, .int 3, .int a2, .int a3] (mW ct h0 y r q) (S := Int32 × zRr × zRq) (fun u => some (.int u.1)) (fun u => zI 0 1 u.1 ∧ mJ B u.2.1 ∧ zFr [104, 105, 106, 108, 109, 136, 123, 1] r u.2.1 ∧ (mP u.2.1) ∧ (¬ u.1 = 0 → (r 105 0).toInt < (u.2.1 105 0).toInt) ∧ (¬ u.1 = 0 → mT1 u.2.1) ∧ u = (Gm_readsOne3 a2 a3 r q) ∧ True) (fun u => mW ct h0 y u.2.1 u.2.2) 0 0 := by
  refine zofQ cX12_readsOne 4 (some .boolean) (by decide) rfl (Nat.le_of_ble_eq_true rfl) ?_
  intro p e s m below meth c A a9 Q ha9 hx hb hr hml hts hown hlocks hname hK hA hZ hN hQ
  have hown : s.vm.findClass RX12 = some m.cls := hown
  have hiX12 : ∀ w ∈ wsX120, w ∈ .code yX12_readsOne cX12_readsOne 4 (some .boolean) :: wsL_law0 := fun _ h => ki (zs_wsX120 _ h)
  have lf13 := hts (.fieldLink RX12 13 "BeardPassModel" "land" "[I") (ki (zr7 20 rfl))
  have lf256 := hts (.fieldLink RX12 256 "BeardPassModel" "given" "I") (ki (zr23 11 rfl))
  have lf292 := hts (.fieldLink RX12 292 "BeardPassModel" "toldLines" "I") (ki (zr21 22 rfl))
  obtain ⟨X, hX⟩ : ∃ X, X = (Gm_readsOne3 a2 a3 r q) := ⟨_, rfl⟩
  intro H locs hw hS ls hl
  have hl : lv_has ls 4 [(0, .ref h0), (1, .int 3), (2, .int a2), (3, .int a3)] := hl
  have hE := hX
  unfold Gm_readsOne3 at hE
  refine lv_aload_n hx hb dX12_readsOne_0 rfl (lv_at hl 0 rfl) ?_
  refine mget (v := .int (r 123 0)) hx hb hts hiX12 hown hK hw 23 (by decide) lf292 rfl rfl dX12_readsOne_1 (zgenE (zI.top _) (fun v1 ev1 _ => ?_))
  have hE := zletE ev1 hE
  refine lv_iload_n hx hb dX12_readsOne_4 rfl (lv_at hl 1 rfl) ?_
  refine lv_ishr hx hb dX12_readsOne_5 (zgenE (zI.top _) (fun v2 ev2 _ => ?_))
  have hE := zletE ev2 hE
  refine lv_iconst (v := 1) hx hb dX12_readsOne_6 (by decide) ?_
  refine lv_iand hx hb dX12_readsOne_7 (zgenE (lo := 0) (hi := 1) (zI.and (zI.lit (a := 1) (b := 1) (c := 1) (by decide)) (by decide)) (fun v3 ev3 hv3 => ?_))
  have hE := zletE ev3 hE
  refine lv_iconst (v := 1) hx hb dX12_readsOne_8 (by decide) ?_
  refine lv_icmp_ne (tgt := 18) hx hb dX12_readsOne_9 (by decide) (fun c4 => ?_) (fun c4 => ?_)
  · have hE := zifnT c4 hE
    have k5 : zI 0 0 (v3) := zI.neU c4 hv3 (zI.lit (a := 1) (b := 1) (c := 1) (by decide)) (by decide)
    refine lv_aload_n hx hb dX12_readsOne_18 rfl (lv_at hl 0 rfl) ?_
    refine lv_dup hx hb dX12_readsOne_19 rfl ?_
    refine mget (v := .int (r 123 0)) hx hb hts hiX12 hown hK hw 23 (by decide) lf292 rfl rfl dX12_readsOne_20 (zgenE (zI.top _) (fun v6 ev6 _ => ?_))
    have hE := zletE ev6 hE
    refine lv_iconst (v := 1) hx hb dX12_readsOne_23 (by decide) ?_
    refine lv_iload_n hx hb dX12_readsOne_24 rfl (lv_at hl 1 rfl) ?_
    refine lv_ishl hx hb dX12_readsOne_25 (ztop (.int 8) (congrArg Value.int (by decide)) ?_)
    refine lv_ior hx hb dX12_readsOne_26 (zgenE (zI.top _) (fun v7 ev7 _ => ?_))
    have hE := zletE ev7 hE
    refine mput (ty := .int) (v := .int v7) hx hb hts hiX12 hown hK hw hS 23 (by decide) lf292 rfl rfl (by decide +kernel) rfl rfl dX12_readsOne_27 (zset r 123 (fun _ => v7)) _ mWf23 (fun H locs hw hS => ?_)
    refine mgen (P := fun x => mJ B x ∧ zFr [104, 105, 106, 108, 109, 136, 123, 1] r x) hw ⟨hJ0.setc rfl (fun _ => (zI.top _)), (zFr.refl).set rfl⟩ (fun r8 er8 hw pr8 => ?_)
    have hE := zletE er8 hE
    refine lv_aload_n hx hb dX12_readsOne_30 rfl (lv_at hl 0 rfl) ?_
    refine mcallV (As := []) (rest := []) ⟨hx, hb, hml, hown, hts⟩ (mc_nextToken l D ct h0 y B r8 q pr8.1 (((mP.fr x1 (zs_row (k := 103) er8 (by decide)) (zs_row (k := 104) er8 (by decide)) (zs_row (k := 105) er8 (by decide)) (zs_row (k := 106) er8 (by decide)))).2.1)) (wqX12_200_mc_nextToken hts ⟨Nat.le_of_ble_eq_true rfl, Nat.le_of_ble_eq_true rfl⟩) hw hS hA hK hN rfl hl.1 rfl (Nat.le_of_ble_eq_true rfl) dX12_readsOne_31 34 rfl (fun u9 H locs pu9 hw hS => ?_)
    obtain ⟨r10, q11⟩ := u9
    have ju9 : mJ B r10 := pu9.1
    have fu9 : zFr [104, 105, 106, 108] r8 r10 := pu9.2.1
    have yu9_0 : mP r10 := pu9.2.2.1
    have yu9_1 : (r8 104 0).toInt ≤ (r10 105 0).toInt := pu9.2.2.2.1
    have xu9 : (r10, q11) = (Gm_nextToken r8 q) := pu9.2.2.2.2.1
    have hE := zc_rqE xu9 hE
    have hw : zPD D A (mW ct h0 y r10 q11) H := hw
    refine zfr 34 [] rfl rfl ?_
    refine lv_aload_n hx hb dX12_readsOne_34 rfl (lv_at hl 0 rfl) ?_
    refine lv_iload_n hx hb dX12_readsOne_35 rfl (lv_at hl 2 rfl) ?_
    refine lv_iload_n hx hb dX12_readsOne_36 rfl (lv_at hl 3 rfl) ?_
    refine mcallV (As := [.int a2, .int a3]) (rest := []) ⟨hx, hb, hml, hown, hts⟩ (mc_needsNumber l D ct h0 y B a2 a3 r10 q11 ju9 (yu9_0)) (wqX12_262_mc_needsNumber hts ⟨Nat.le_of_ble_eq_true rfl, Nat.le_of_ble_eq_true rfl⟩) hw hS hA hK hN rfl hl.1 rfl (Nat.le_of_ble_eq_true rfl) dX12_readsOne_37 40 rfl (fun u12 H locs pu12 hw hS => ?_)
    obtain ⟨v13, r14, q15⟩ := u12
    have hv13 : zI 0 1 v13 := pu12.1
    have ju12 : mJ B r14 := pu12.2.1
    have fu12 : zFr [104, 105, 106, 108, 109, 136] r10 r14 := pu12.2.2.1
    have yu12_0 : mP r14 := pu12.2.2.2.1
    have yu12_1 : (r10 105 0).toInt ≤ (r14 105 0).toInt := pu12.2.2.2.2.1
    have yu12_2 : ¬ v13 = 0 → zI 0 9999 (r14 136 0) := pu12.2.2.2.2.2.1
    have xu12 : (v13, r14, q15) = (Gm_needsNumber a2 a3 r10 q11) := pu12.2.2.2.2.2.2.1
    have hE := zc_vrqE xu12 hE
    have hw : zPD D A (mW ct h0 y r14 q15) H := hw
    refine zfr 40 [.int v13] rfl rfl ?_
    refine lv_if_ne (tgt := 45) hx hb dX12_readsOne_40 (by decide) (fun c16 => ?_) (fun c16 => ?_)
    · have hE := zifnT c16 hE
      have k17 : zI 1 1 (v13) := zI.neD c16 hv13 (zI.lit (a := 0) (b := 0) (c := 0) (by decide)) (by decide)
      refine lv_aload_n hx hb dX12_readsOne_45 rfl (lv_at hl 0 rfl) ?_
      refine mget (v := .ref (y 1)) hx hb hts hiX12 hown hK hw 10 (by decide) lf13 rfl rfl dX12_readsOne_46 ?_
      refine lv_iconst (v := 4) hx hb dX12_readsOne_49 (by decide) ?_
      refine lv_iload_n hx hb dX12_readsOne_50 rfl (lv_at hl 1 rfl) ?_
      refine lv_iadd hx hb dX12_readsOne_51 (ztop (.int 7) (congrArg Value.int (by decide)) ?_)
      refine lv_aload_n hx hb dX12_readsOne_52 rfl (lv_at hl 0 rfl) ?_
      refine mget (v := .int (r14 136 0)) hx hb hts hiX12 hown hK hw 36 (by decide) lf256 rfl rfl dX12_readsOne_53 (zgenE (lo := 0) (hi := 9999) ((yu12_2 c16)) (fun v18 ev18 hv18 => ?_))
      have hE := zletE ev18 hE
      refine ziast hx hb hK hw hS 2 mWg1 7 (by decide) (by decide) (by decide) dX12_readsOne_56 (mW ct h0 y (zset r14 1 (upd (r14 1) 7 v18)) q15) mWs1 (fun H locs hw hS => ?_)
      refine mgen (P := fun x => mJ B x ∧ zFr [104, 105, 106, 108, 109, 136, 123, 1] r x) hw ⟨ju12.setL (by decide) (zI.top _), ((pr8.2.tr fu9 rfl).tr fu12 rfl).set rfl⟩ (fun r19 er19 hw pr19 => ?_)
      have hE := zletE er19 hE
      refine lv_aload_n hx hb dX12_readsOne_57 rfl (lv_at hl 0 rfl) ?_
      refine mcallV (As := []) (rest := []) ⟨hx, hb, hml, hown, hts⟩ (mc_closes l D ct h0 y B r19 q15 pr19.1 ((mP.fr yu12_0 (zs_row (k := 103) er19 (by decide)) (zs_row (k := 104) er19 (by decide)) (zs_row (k := 105) er19 (by decide)) (zs_row (k := 106) er19 (by decide))))) (wqX12_286_mc_closes hts ⟨Nat.le_of_ble_eq_true rfl, Nat.le_of_ble_eq_true rfl⟩) hw hS hA hK hN rfl hl.1 rfl (Nat.le_of_ble_eq_true rfl) dX12_readsOne_58 61 rfl (fun u20 H locs pu20 hw hS => ?_)
      obtain ⟨v21, r22, q23⟩ := u20
      have hv21 : zI 0 1 v21 := pu20.1
      have ju20 : mJ B r22 := pu20.2.1
      have fu20 : zFr [104, 105, 106, 108, 109] r19 r22 := pu20.2.2.1
      have yu20_0 : mP r22 := pu20.2.2.2.1
      have yu20_1 : (r19 105 0).toInt ≤ (r22 105 0).toInt := pu20.2.2.2.2.1
      have xu20 : (v21, r22, q23) = (Gm_closes r19 q15) := pu20.2.2.2.2.2.1
      have hE := zc_vrqE xu20 hE
      have hw : zPD D A (mW ct h0 y r22 q23) H := hw
      refine zfr 61 [.int v21] rfl rfl ?_
      exact ziretQ hQ hx hb hr (hv21.rn) hlocks (v21, r22, q23) rfl ⟨hv21, ju20, (pr19.2.tr fu20 rfl), (show mP r22 from yu20_0), (show ¬ v21 = 0 → (r 105 0).toInt < (r22 105 0).toInt from (fun _ => by have := yu20_1; have := congrArg Int32.toInt (congrFun (zs_row (k := 105) er19 (by decide)) 0); have := yu12_1; have := yu9_1; have := ((mP.fr x1 (zs_row (k := 103) er8 (by decide)) (zs_row (k := 104) er8 (by decide)) (zs_row (k := 105) er8 (by decide)) (zs_row (k := 106) er8 (by decide)))).1; have := ((mP.fr x1 (zs_row (k := 103) er8 (by decide)) (zs_row (k := 104) er8 (by decide)) (zs_row (k := 105) er8 (by decide)) (zs_row (k := 106) er8 (by decide)))).2.2.resolve_left (tkne (zs_at er8 x2 (by decide)) (by decide)); have := congrArg Int32.toInt (congrFun (zs_row (k := 105) er8 (by decide)) 0); omega)), (show ¬ v21 = 0 → mT1 r22 from (fun _ => x3.two (by rw [(fu20 1 rfl), zs_self er19, pk_un (by decide), ((fu12 1 rfl).trans ((fu9 1 rfl).trans (zs_row (k := 1) er8 (by decide))))]) (by rw [(fu20 1 rfl), zs_self er19, pk_un (by decide), ((fu12 1 rfl).trans ((fu9 1 rfl).trans (zs_row (k := 1) er8 (by decide))))]))), (hE.symm.trans hX), trivial⟩ hw hS dX12_readsOne_61
    · have hE := zifnF c16 hE
      have k24 : zI 0 0 (v13) := zI.eqq c16 (zI.lit (a := 0) (b := 0) (c := 0) (by decide))
      refine lv_iconst (v := 0) hx hb dX12_readsOne_43 (by decide) ?_
      exact ziretQ hQ hx hb hr rfl hlocks (0, r14, q15) rfl ⟨((zI.lit (a := 0) (b := 0) (c := 0) (by decide)).w (c := 0) (d := 1) (by decide)), ju12, ((pr8.2.tr fu9 rfl).tr fu12 rfl), (show mP r14 from yu12_0), (fun h => absurd rfl h), (fun h => absurd rfl h), (hE.symm.trans hX), trivial⟩ hw hS dX12_readsOne_44
  · have hE := zifnF c4 hE
    have k25 : zI 1 1 (v3) := zI.eqq c4 (zI.lit (a := 1) (b := 1) (c := 1) (by decide))
    refine lv_aload_n hx hb dX12_readsOne_12 rfl (lv_at hl 0 rfl) ?_
    refine lv_iconst (v := 3) hx hb dX12_readsOne_13 (by decide) ?_
    refine mcallV (As := [.int 3]) (rest := []) ⟨hx, hb, hml, hown, hts⟩ (mc_fails l D ct h0 y B 3 r q ((zI.lit (a := 3) (b := 3) (c := 3) (by decide)).w (c := 1) (d := 5) (by decide)) hJ0) (wqX12_193_mc_fails hts ⟨Nat.le_of_ble_eq_true rfl, Nat.le_of_ble_eq_true rfl⟩) hw hS hA hK hN rfl hl.1 rfl (Nat.le_of_ble_eq_true rfl) dX12_readsOne_14 17 rfl (fun u26 H locs pu26 hw hS => ?_)
    obtain ⟨v27, r28⟩ := u26
    have hv27 : zI 0 0 v27 := pu26.1
    have ju26 : mJ B r28 := pu26.2.1
    have fu26 : zFr [109] r r28 := pu26.2.2.1
    have xu26 : (v27, r28) = (Gm_fails (3 : Int32) r q) := pu26.2.2.2.1
    have hE := zc_vrE xu26 hE
    have hw : zPD D A (mW ct h0 y r28 q) H := hw
    refine zfr 17 [.int v27] rfl rfl ?_
    exact ziretQ hQ hx hb hr ((hv27.w (c := 0) (d := 1) (by decide)).rn) hlocks (v27, r28, q) rfl ⟨(hv27.w (c := 0) (d := 1) (by decide)), ju26, ((zFr.refl).tr fu26 rfl), (show mP r28 from (mP.fr x1 (fu26 103 rfl) (fu26 104 rfl) (fu26 105 rfl) (fu26 106 rfl))), (fun h => absurd (zI.eq0 hv27) h), (fun h => absurd (zI.eq0 hv27) h), (hE.symm.trans hX), trivial⟩ hw hS dX12_readsOne_17
