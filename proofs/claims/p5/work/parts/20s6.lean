set_option maxHeartbeats 4000000 in
set_option maxRecDepth 100000 in
theorem mc_signAt (l : Launch) (D : va_G) (ct : Nat → ClassId) (h0 : Nat) (y : Nat → Nat) (B : Int) (a1 : Int32) (r : zRr) (q : zRq) (g1 : zI 0 1000 a1) (hJ0 : mJ B r) : zC l yX12_signAt (.code yX12_signAt cX12_signAt 2 (some .int) :: wsL_law0) ({ frames := 1, cells := 0, slots := 0, locals := 80 }) D ct [] [.ref h0, .int a1] (mW ct h0 y r q) (S := Int32) (fun u => some (.int u)) (fun u => zI (-2147483648) 2147483647 u ∧ (u = msg r a1) ∧ u = (Gm_signAt a1 r q) ∧ True) (fun u => mW ct h0 y r q) 0 0 := by
  refine zofQ cX12_signAt 2 (some .int) (by decide) rfl (Nat.le_of_ble_eq_true rfl) ?_
  intro p e s m below meth c A a9 Q ha9 hx hb hr hml hts hown hlocks hname hK hA hZ hN hQ
  have hown : s.vm.findClass RX12 = some m.cls := hown
  have hiX12 : ∀ w ∈ wsX120, w ∈ .code yX12_signAt cX12_signAt 2 (some .int) :: wsL_law0 := fun _ h => ki (zs_wsX120 _ h)
  have lf7 := hts (.fieldLink RX12 7 "BeardPassModel" "tape" "[I") (ki (zr7 19 rfl))
  have lf138 := hts (.fieldLink RX12 138 "BeardPassModel" "size" "I") (ki (zr22 11 rfl))
  obtain ⟨X, hX⟩ : ∃ X, X = (Gm_signAt a1 r q) := ⟨_, rfl⟩
  intro H locs hw hS ls hl
  have hl : lv_has ls 2 [(0, .ref h0), (1, .int a1)] := hl
  have hE := hX
  unfold Gm_signAt at hE
  refine lv_iload_n hx hb dX12_signAt_0 rfl (lv_at hl 1 rfl) ?_
  refine lv_aload_n hx hb dX12_signAt_1 rfl (lv_at hl 0 rfl) ?_
  refine mget (v := .int (r 103 0)) hx hb hts hiX12 hown hK hw 3 (by decide) lf138 rfl rfl dX12_signAt_2 ?_
  have k1 : zI 0 1000 (r 103 0) := (show zI 0 1000 (r 103 0) from hJ0.i 103 0)
  refine lv_icmp_ge (tgt := 17) hx hb dX12_signAt_5 (by decide) (fun c2 => ?_) (fun c2 => ?_)
  · have hE := zifT c2 hE
    refine lv_iconst (v := 0) hx hb dX12_signAt_17 (by decide) ?_
    exact ziretQ hQ hx hb hr rfl hlocks 0 rfl ⟨(zI.top _), (show (0 : Int32) = msg r a1 from (msg_out c2)), (hE.symm.trans hX), trivial⟩ hw hS dX12_signAt_18
  · have hE := zifF c2 hE
    have k3 : zI 0 999 (a1) := zI.ltU (zI.nle c2) g1 k1 (by decide)
    have k4 : zI 1 1000 (r 103 0) := zI.ltD (zI.nle c2) g1 k1 (by decide)
    refine lv_aload_n hx hb dX12_signAt_8 rfl (lv_at hl 0 rfl) ?_
    refine mget (v := .ref (y 0)) hx hb hts hiX12 hown hK hw 2 (by decide) lf7 rfl rfl dX12_signAt_9 ?_
    refine lv_iload_n hx hb dX12_signAt_12 rfl (lv_at hl 1 rfl) ?_
    refine miald hx hb hK hw 1 mWg0 k3 (by decide) dX12_signAt_13 ?_
    refine lv_goto (tgt := 18) hx hb dX12_signAt_14 (by decide) ?_
    exact ziretQ hQ hx hb hr rfl hlocks (r 0 (zn a1)) rfl ⟨(zI.top _), (show r 0 (zn a1) = msg r a1 from (msg_in (zI.nle c2)).symm), (hE.symm.trans hX), trivial⟩ hw hS dX12_signAt_18

set_option maxHeartbeats 4000000 in
set_option maxRecDepth 100000 in
theorem mc_nextToken (l : Launch) (D : va_G) (ct : Nat → ClassId) (h0 : Nat) (y : Nat → Nat) (B : Int) (r : zRr) (q : zRq) (hJ0 : mJ B r) (x1 : (r 104 0).toInt ≤ (r 103 0).toInt) : zC l yX12_nextToken (.code yX12_nextToken cX12_nextToken 2 none :: wsL_law0) ({ frames := 2, cells := 0, slots := 0, locals := 120 }) D ct [] [.ref h0] (mW ct h0 y r q) (S := zRr × zRq) (fun u => none) (fun u => mJ B u.1 ∧ zFr [104, 105, 106, 108] r u.1 ∧ (mP u.1) ∧ ((r 104 0).toInt ≤ (u.1 105 0).toInt) ∧ u = (Gm_nextToken r q) ∧ True) (fun u => mW ct h0 y u.1 u.2) 0 0 := by
  refine zofQ cX12_nextToken 2 none (by decide) rfl (Nat.le_of_ble_eq_true rfl) ?_
  intro p e s m below meth c A a9 Q ha9 hx hb hr hml hts hown hlocks hname hK hA hZ hN hQ
  have hown : s.vm.findClass RX12 = some m.cls := hown
  have hiX12 : ∀ w ∈ wsX120, w ∈ .code yX12_nextToken cX12_nextToken 2 none :: wsL_law0 := fun _ h => ki (zs_wsX120 _ h)
  have lf7 := hts (.fieldLink RX12 7 "BeardPassModel" "tape" "[I") (ki (zr7 19 rfl))
  have lf138 := hts (.fieldLink RX12 138 "BeardPassModel" "size" "I") (ki (zr22 11 rfl))
  have lf141 := hts (.fieldLink RX12 141 "BeardPassModel" "place" "I") (ki (zr22 12 rfl))
  have lf144 := hts (.fieldLink RX12 144 "BeardPassModel" "begin" "I") (ki (zr22 17 rfl))
  have lf147 := hts (.fieldLink RX12 147 "BeardPassModel" "word" "J") (ki (zr22 18 rfl))
  have lf151 := hts (.fieldLink RX12 151 "BeardPassModel" "told" "I") (ki (zr22 19 rfl))
  have lf154 := hts (.fieldLink RX12 154 "BeardPassModel" "token" "I") (ki (zr22 0 rfl))
  obtain ⟨X, hX⟩ : ∃ X, X = (Gm_nextToken r q) := ⟨_, rfl⟩
  have cut322 : ∀ (w322_1 : Int32) (rw322 : zRr) (qw322 : zRq) (jw322 : mJ B rw322) (fw322 : zFr [104, 105, 106, 108] r rw322) (mw322_104_0 : zI 0 999 (rw322 104 0)) (mw322_108_0 : zI 0 0 (rw322 108 0)) (x322 : (r 104 0).toInt ≤ (rw322 105 0).toInt ∧ (rw322 105 0).toInt ≤ (rw322 104 0).toInt ∧ (rw322 104 0).toInt < (rw322 103 0).toInt) (hE : X = Gm_nextToken_322 w322_1 rw322 qw322), zKf p l e ({ frames := 2, cells := 0, slots := 0, locals := 120 }) s m a9 below meth c Q D A 322 2 [] (mW ct h0 y rw322 qw322) [(0, .ref h0), (1, .int w322_1)] := by
    intro w322_1 rw322 qw322 jw322 fw322 mw322_104_0 mw322_108_0 x322 hE H locs ls hw hS hl
    unfold Gm_nextToken_322 at hE
    have k1 : zI 0 999 (rw322 104 0) := zI.ltU (Int32.lt_iff_toInt_lt.mpr x322.2.2) mw322_104_0 (show zI 0 1000 (rw322 103 0) from jw322.i 103 0) (by decide)
    refine lv_aload_n hx hb dX12_nextToken_322 rfl (lv_at hl 0 rfl) ?_
    refine lv_dup hx hb dX12_nextToken_323 rfl ?_
    refine mget (v := .int (rw322 104 0)) hx hb hts hiX12 hown hK hw 4 (by decide) lf141 rfl rfl dX12_nextToken_324 ?_
    refine lv_iconst (v := 1) hx hb dX12_nextToken_327 (by decide) ?_
    refine lv_iadd hx hb dX12_nextToken_328 ?_
    have k2 : zI 1 1000 ((rw322 104 0) + 1) := zI.add k1 (zI.lit (a := 1) (b := 1) (c := 1) (by decide)) (by decide)
    refine mput (ty := .int) (v := .int ((rw322 104 0) + 1)) hx hb hts hiX12 hown hK hw hS 4 (by decide) lf141 rfl rfl (by decide +kernel) rfl rfl dX12_nextToken_329 (zset rw322 104 (fun _ => (rw322 104 0) + 1)) _ mWf4 (fun H locs hw hS => ?_)
    refine mgen (P := fun x => mJ B x ∧ zFr [104, 105, 106, 108] r x) hw ⟨jw322.setc rfl (fun _ => (k2.w (c := 0) (d := 1000) (by decide))), fw322.set rfl⟩ (fun r3 er3 hw pr3 => ?_)
    have hE := zletE er3 hE
    refine lv_aload_n hx hb dX12_nextToken_332 rfl (lv_at hl 0 rfl) ?_
    refine lv_iload_n hx hb dX12_nextToken_333 rfl (lv_at hl 1 rfl) ?_
    refine lv_bipush (v := 40) hx hb dX12_nextToken_334 (by decide) ?_
    refine lv_icmp_lt (tgt := 345) hx hb dX12_nextToken_336 (by decide) (fun c4 => ?_) (fun c4 => ?_)
    · have hE := zifT c4 hE
      have k5 : zI (-2147483648) 39 (w322_1) := zI.ltU c4 (zI.top _) (zI.lit (a := 40) (b := 40) (c := 40) (by decide)) (by decide)
      refine lv_iload_n hx hb dX12_nextToken_345 rfl (lv_at hl 1 rfl) ?_
      refine lv_bipush (v := 45) hx hb dX12_nextToken_346 (by decide) ?_
      refine lv_icmp_eq (tgt := 363) hx hb dX12_nextToken_348 (by decide) (fun c6 => ?_) (fun c6 => ?_)
      · have hE := zifT c6 hE
        exact absurd (congrArg Int32.toInt c6) (by have := k5.2; have := (zI.lit (a := 45) (b := 45) (c := 45) (by decide)).1; omega)
      · have hE := zifF c6 hE
        refine lv_iload_n hx hb dX12_nextToken_351 rfl (lv_at hl 1 rfl) ?_
        refine lv_bipush (v := 59) hx hb dX12_nextToken_352 (by decide) ?_
        refine lv_icmp_lt (tgt := 367) hx hb dX12_nextToken_354 (by decide) (fun c7 => ?_) (fun c7 => ?_)
        · have hE := zifT c7 hE
          refine lv_iconst (v := 4) hx hb dX12_nextToken_367 (by decide) ?_
          refine mput (ty := .int) (v := .int 4) hx hb hts hiX12 hown hK hw hS 6 (by decide) lf154 rfl rfl (by decide +kernel) rfl rfl dX12_nextToken_368 (zset r3 106 (fun _ => (4 : Int32))) _ mWf6 (fun H locs hw hS => ?_)
          refine mgen (P := fun x => mJ B x ∧ zFr [104, 105, 106, 108] r x) hw ⟨pr3.1.setc rfl (fun _ => ((zI.lit (a := 4) (b := 4) (c := 4) (by decide)).w (c := 0) (d := 4) (by decide))), pr3.2.set rfl⟩ (fun r8 er8 hw pr8 => ?_)
          have hE := zletE er8 hE
          exact zvretQ hQ hx hb hr hlocks (r8, qw322) rfl ⟨pr8.1, pr8.2, (show mP r8 from (by have v103 : (r8 103 0).toInt = (rw322 103 0).toInt := (by rw [((congrFun (zs_row (k := 103) er8 (by decide)) 0).trans (congrFun (zs_row (k := 103) er3 (by decide)) 0))]); have v104 : (r8 104 0).toInt = (rw322 104 0).toInt + 1 := (by rw [((congrFun (zs_row (k := 104) er8 (by decide)) 0).trans (congrFun (zs_self er3) 0))]; exact i32_s k1 (by decide)); have v105 : (r8 105 0).toInt = (rw322 105 0).toInt := (by rw [((congrFun (zs_row (k := 105) er8 (by decide)) 0).trans (congrFun (zs_row (k := 105) er3 (by decide)) 0))]); have := x322; exact ⟨by omega, by omega, Or.inr (by omega)⟩)), (show (r 104 0).toInt ≤ (r8 105 0).toInt from (by have v104 : (r8 104 0).toInt = (rw322 104 0).toInt + 1 := (by rw [((congrFun (zs_row (k := 104) er8 (by decide)) 0).trans (congrFun (zs_self er3) 0))]; exact i32_s k1 (by decide)); have v105 : (r8 105 0).toInt = (rw322 105 0).toInt := (by rw [((congrFun (zs_row (k := 105) er8 (by decide)) 0).trans (congrFun (zs_row (k := 105) er3 (by decide)) 0))]); have := x322; omega)), (hE.symm.trans hX), trivial⟩ hw hS dX12_nextToken_371
        · have hE := zifF c7 hE
          exact zI.abs (a := 59) (b := 39) (zI.leU (zI.nlt c7) (zI.lit (a := 59) (b := 59) (c := 59) (by decide)) k5 (by decide)) (by decide)
    · have hE := zifF c4 hE
      have k9 : zI 40 2147483647 (w322_1) := zI.leD (zI.nlt c4) (zI.lit (a := 40) (b := 40) (c := 40) (by decide)) (zI.top _) (by decide)
      refine lv_iload_n hx hb dX12_nextToken_339 rfl (lv_at hl 1 rfl) ?_
      refine lv_bipush (v := 43) hx hb dX12_nextToken_340 (by decide) ?_
      refine lv_icmp_le (tgt := 363) hx hb dX12_nextToken_342 (by decide) (fun c10 => ?_) (fun c10 => ?_)
      · have hE := zifT c10 hE
        have k11 : zI 40 43 (w322_1) := zI.leU c10 k9 (zI.lit (a := 43) (b := 43) (c := 43) (by decide)) (by decide)
        refine lv_iconst (v := 3) hx hb dX12_nextToken_363 (by decide) ?_
        refine lv_goto (tgt := 368) hx hb dX12_nextToken_364 (by decide) ?_
        refine mput (ty := .int) (v := .int 3) hx hb hts hiX12 hown hK hw hS 6 (by decide) lf154 rfl rfl (by decide +kernel) rfl rfl dX12_nextToken_368 (zset r3 106 (fun _ => (3 : Int32))) _ mWf6 (fun H locs hw hS => ?_)
        refine mgen (P := fun x => mJ B x ∧ zFr [104, 105, 106, 108] r x) hw ⟨pr3.1.setc rfl (fun _ => ((zI.lit (a := 3) (b := 3) (c := 3) (by decide)).w (c := 0) (d := 4) (by decide))), pr3.2.set rfl⟩ (fun r12 er12 hw pr12 => ?_)
        have hE := zletE er12 hE
        exact zvretQ hQ hx hb hr hlocks (r12, qw322) rfl ⟨pr12.1, pr12.2, (show mP r12 from (by have v103 : (r12 103 0).toInt = (rw322 103 0).toInt := (by rw [((congrFun (zs_row (k := 103) er12 (by decide)) 0).trans (congrFun (zs_row (k := 103) er3 (by decide)) 0))]); have v104 : (r12 104 0).toInt = (rw322 104 0).toInt + 1 := (by rw [((congrFun (zs_row (k := 104) er12 (by decide)) 0).trans (congrFun (zs_self er3) 0))]; exact i32_s k1 (by decide)); have v105 : (r12 105 0).toInt = (rw322 105 0).toInt := (by rw [((congrFun (zs_row (k := 105) er12 (by decide)) 0).trans (congrFun (zs_row (k := 105) er3 (by decide)) 0))]); have := x322; exact ⟨by omega, by omega, Or.inr (by omega)⟩)), (show (r 104 0).toInt ≤ (r12 105 0).toInt from (by have v104 : (r12 104 0).toInt = (rw322 104 0).toInt + 1 := (by rw [((congrFun (zs_row (k := 104) er12 (by decide)) 0).trans (congrFun (zs_self er3) 0))]; exact i32_s k1 (by decide)); have v105 : (r12 105 0).toInt = (rw322 105 0).toInt := (by rw [((congrFun (zs_row (k := 105) er12 (by decide)) 0).trans (congrFun (zs_row (k := 105) er3 (by decide)) 0))]); have := x322; omega)), (hE.symm.trans hX), trivial⟩ hw hS dX12_nextToken_371
      · have hE := zifF c10 hE
        have k13 : zI 44 2147483647 (w322_1) := zI.ltD (zI.nle c10) (zI.lit (a := 43) (b := 43) (c := 43) (by decide)) k9 (by decide)
        refine lv_iload_n hx hb dX12_nextToken_345 rfl (lv_at hl 1 rfl) ?_
        refine lv_bipush (v := 45) hx hb dX12_nextToken_346 (by decide) ?_
        refine lv_icmp_eq (tgt := 363) hx hb dX12_nextToken_348 (by decide) (fun c14 => ?_) (fun c14 => ?_)
        · have hE := zifT c14 hE
          have k15 : zI 45 45 (w322_1) := zI.eqq c14 (zI.lit (a := 45) (b := 45) (c := 45) (by decide))
          refine lv_iconst (v := 3) hx hb dX12_nextToken_363 (by decide) ?_
          refine lv_goto (tgt := 368) hx hb dX12_nextToken_364 (by decide) ?_
          refine mput (ty := .int) (v := .int 3) hx hb hts hiX12 hown hK hw hS 6 (by decide) lf154 rfl rfl (by decide +kernel) rfl rfl dX12_nextToken_368 (zset r3 106 (fun _ => (3 : Int32))) _ mWf6 (fun H locs hw hS => ?_)
          refine mgen (P := fun x => mJ B x ∧ zFr [104, 105, 106, 108] r x) hw ⟨pr3.1.setc rfl (fun _ => ((zI.lit (a := 3) (b := 3) (c := 3) (by decide)).w (c := 0) (d := 4) (by decide))), pr3.2.set rfl⟩ (fun r16 er16 hw pr16 => ?_)
          have hE := zletE er16 hE
          exact zvretQ hQ hx hb hr hlocks (r16, qw322) rfl ⟨pr16.1, pr16.2, (show mP r16 from (by have v103 : (r16 103 0).toInt = (rw322 103 0).toInt := (by rw [((congrFun (zs_row (k := 103) er16 (by decide)) 0).trans (congrFun (zs_row (k := 103) er3 (by decide)) 0))]); have v104 : (r16 104 0).toInt = (rw322 104 0).toInt + 1 := (by rw [((congrFun (zs_row (k := 104) er16 (by decide)) 0).trans (congrFun (zs_self er3) 0))]; exact i32_s k1 (by decide)); have v105 : (r16 105 0).toInt = (rw322 105 0).toInt := (by rw [((congrFun (zs_row (k := 105) er16 (by decide)) 0).trans (congrFun (zs_row (k := 105) er3 (by decide)) 0))]); have := x322; exact ⟨by omega, by omega, Or.inr (by omega)⟩)), (show (r 104 0).toInt ≤ (r16 105 0).toInt from (by have v104 : (r16 104 0).toInt = (rw322 104 0).toInt + 1 := (by rw [((congrFun (zs_row (k := 104) er16 (by decide)) 0).trans (congrFun (zs_self er3) 0))]; exact i32_s k1 (by decide)); have v105 : (r16 105 0).toInt = (rw322 105 0).toInt := (by rw [((congrFun (zs_row (k := 105) er16 (by decide)) 0).trans (congrFun (zs_row (k := 105) er3 (by decide)) 0))]); have := x322; omega)), (hE.symm.trans hX), trivial⟩ hw hS dX12_nextToken_371
        · have hE := zifF c14 hE
          refine lv_iload_n hx hb dX12_nextToken_351 rfl (lv_at hl 1 rfl) ?_
          refine lv_bipush (v := 59) hx hb dX12_nextToken_352 (by decide) ?_
          refine lv_icmp_lt (tgt := 367) hx hb dX12_nextToken_354 (by decide) (fun c17 => ?_) (fun c17 => ?_)
          · have hE := zifT c17 hE
            have k18 : zI 44 58 (w322_1) := zI.ltU c17 k13 (zI.lit (a := 59) (b := 59) (c := 59) (by decide)) (by decide)
            refine lv_iconst (v := 4) hx hb dX12_nextToken_367 (by decide) ?_
            refine mput (ty := .int) (v := .int 4) hx hb hts hiX12 hown hK hw hS 6 (by decide) lf154 rfl rfl (by decide +kernel) rfl rfl dX12_nextToken_368 (zset r3 106 (fun _ => (4 : Int32))) _ mWf6 (fun H locs hw hS => ?_)
            refine mgen (P := fun x => mJ B x ∧ zFr [104, 105, 106, 108] r x) hw ⟨pr3.1.setc rfl (fun _ => ((zI.lit (a := 4) (b := 4) (c := 4) (by decide)).w (c := 0) (d := 4) (by decide))), pr3.2.set rfl⟩ (fun r19 er19 hw pr19 => ?_)
            have hE := zletE er19 hE
            exact zvretQ hQ hx hb hr hlocks (r19, qw322) rfl ⟨pr19.1, pr19.2, (show mP r19 from (by have v103 : (r19 103 0).toInt = (rw322 103 0).toInt := (by rw [((congrFun (zs_row (k := 103) er19 (by decide)) 0).trans (congrFun (zs_row (k := 103) er3 (by decide)) 0))]); have v104 : (r19 104 0).toInt = (rw322 104 0).toInt + 1 := (by rw [((congrFun (zs_row (k := 104) er19 (by decide)) 0).trans (congrFun (zs_self er3) 0))]; exact i32_s k1 (by decide)); have v105 : (r19 105 0).toInt = (rw322 105 0).toInt := (by rw [((congrFun (zs_row (k := 105) er19 (by decide)) 0).trans (congrFun (zs_row (k := 105) er3 (by decide)) 0))]); have := x322; exact ⟨by omega, by omega, Or.inr (by omega)⟩)), (show (r 104 0).toInt ≤ (r19 105 0).toInt from (by have v104 : (r19 104 0).toInt = (rw322 104 0).toInt + 1 := (by rw [((congrFun (zs_row (k := 104) er19 (by decide)) 0).trans (congrFun (zs_self er3) 0))]; exact i32_s k1 (by decide)); have v105 : (r19 105 0).toInt = (rw322 105 0).toInt := (by rw [((congrFun (zs_row (k := 105) er19 (by decide)) 0).trans (congrFun (zs_row (k := 105) er3 (by decide)) 0))]); have := x322; omega)), (hE.symm.trans hX), trivial⟩ hw hS dX12_nextToken_371
          · have hE := zifF c17 hE
            have k20 : zI 59 2147483647 (w322_1) := zI.leD (zI.nlt c17) (zI.lit (a := 59) (b := 59) (c := 59) (by decide)) k13 (by decide)
            refine lv_iload_n hx hb dX12_nextToken_357 rfl (lv_at hl 1 rfl) ?_
            refine lv_bipush (v := 61) hx hb dX12_nextToken_358 (by decide) ?_
            refine lv_icmp_gt (tgt := 367) hx hb dX12_nextToken_360 (by decide) (fun c21 => ?_) (fun c21 => ?_)
            · have hE := zifT c21 hE
              have k22 : zI 62 2147483647 (w322_1) := zI.ltD c21 (zI.lit (a := 61) (b := 61) (c := 61) (by decide)) k20 (by decide)
              refine lv_iconst (v := 4) hx hb dX12_nextToken_367 (by decide) ?_
              refine mput (ty := .int) (v := .int 4) hx hb hts hiX12 hown hK hw hS 6 (by decide) lf154 rfl rfl (by decide +kernel) rfl rfl dX12_nextToken_368 (zset r3 106 (fun _ => (4 : Int32))) _ mWf6 (fun H locs hw hS => ?_)
              refine mgen (P := fun x => mJ B x ∧ zFr [104, 105, 106, 108] r x) hw ⟨pr3.1.setc rfl (fun _ => ((zI.lit (a := 4) (b := 4) (c := 4) (by decide)).w (c := 0) (d := 4) (by decide))), pr3.2.set rfl⟩ (fun r23 er23 hw pr23 => ?_)
              have hE := zletE er23 hE
              exact zvretQ hQ hx hb hr hlocks (r23, qw322) rfl ⟨pr23.1, pr23.2, (show mP r23 from (by have v103 : (r23 103 0).toInt = (rw322 103 0).toInt := (by rw [((congrFun (zs_row (k := 103) er23 (by decide)) 0).trans (congrFun (zs_row (k := 103) er3 (by decide)) 0))]); have v104 : (r23 104 0).toInt = (rw322 104 0).toInt + 1 := (by rw [((congrFun (zs_row (k := 104) er23 (by decide)) 0).trans (congrFun (zs_self er3) 0))]; exact i32_s k1 (by decide)); have v105 : (r23 105 0).toInt = (rw322 105 0).toInt := (by rw [((congrFun (zs_row (k := 105) er23 (by decide)) 0).trans (congrFun (zs_row (k := 105) er3 (by decide)) 0))]); have := x322; exact ⟨by omega, by omega, Or.inr (by omega)⟩)), (show (r 104 0).toInt ≤ (r23 105 0).toInt from (by have v104 : (r23 104 0).toInt = (rw322 104 0).toInt + 1 := (by rw [((congrFun (zs_row (k := 104) er23 (by decide)) 0).trans (congrFun (zs_self er3) 0))]; exact i32_s k1 (by decide)); have v105 : (r23 105 0).toInt = (rw322 105 0).toInt := (by rw [((congrFun (zs_row (k := 105) er23 (by decide)) 0).trans (congrFun (zs_row (k := 105) er3 (by decide)) 0))]); have := x322; omega)), (hE.symm.trans hX), trivial⟩ hw hS dX12_nextToken_371
            · have hE := zifF c21 hE
              have k24 : zI 59 61 (w322_1) := zI.leU (zI.nlt c21) k20 (zI.lit (a := 61) (b := 61) (c := 61) (by decide)) (by decide)
              refine lv_iconst (v := 3) hx hb dX12_nextToken_363 (by decide) ?_
              refine lv_goto (tgt := 368) hx hb dX12_nextToken_364 (by decide) ?_
              refine mput (ty := .int) (v := .int 3) hx hb hts hiX12 hown hK hw hS 6 (by decide) lf154 rfl rfl (by decide +kernel) rfl rfl dX12_nextToken_368 (zset r3 106 (fun _ => (3 : Int32))) _ mWf6 (fun H locs hw hS => ?_)
              refine mgen (P := fun x => mJ B x ∧ zFr [104, 105, 106, 108] r x) hw ⟨pr3.1.setc rfl (fun _ => ((zI.lit (a := 3) (b := 3) (c := 3) (by decide)).w (c := 0) (d := 4) (by decide))), pr3.2.set rfl⟩ (fun r25 er25 hw pr25 => ?_)
              have hE := zletE er25 hE
              exact zvretQ hQ hx hb hr hlocks (r25, qw322) rfl ⟨pr25.1, pr25.2, (show mP r25 from (by have v103 : (r25 103 0).toInt = (rw322 103 0).toInt := (by rw [((congrFun (zs_row (k := 103) er25 (by decide)) 0).trans (congrFun (zs_row (k := 103) er3 (by decide)) 0))]); have v104 : (r25 104 0).toInt = (rw322 104 0).toInt + 1 := (by rw [((congrFun (zs_row (k := 104) er25 (by decide)) 0).trans (congrFun (zs_self er3) 0))]; exact i32_s k1 (by decide)); have v105 : (r25 105 0).toInt = (rw322 105 0).toInt := (by rw [((congrFun (zs_row (k := 105) er25 (by decide)) 0).trans (congrFun (zs_row (k := 105) er3 (by decide)) 0))]); have := x322; exact ⟨by omega, by omega, Or.inr (by omega)⟩)), (show (r 104 0).toInt ≤ (r25 105 0).toInt from (by have v104 : (r25 104 0).toInt = (rw322 104 0).toInt + 1 := (by rw [((congrFun (zs_row (k := 104) er25 (by decide)) 0).trans (congrFun (zs_self er3) 0))]; exact i32_s k1 (by decide)); have v105 : (r25 105 0).toInt = (rw322 105 0).toInt := (by rw [((congrFun (zs_row (k := 105) er25 (by decide)) 0).trans (congrFun (zs_row (k := 105) er3 (by decide)) 0))]); have := x322; omega)), (hE.symm.trans hX), trivial⟩ hw hS dX12_nextToken_371
  have cut299 : ∀ (rw299 : zRr) (qw299 : zRq) (jw299 : mJ B rw299) (fw299 : zFr [104, 105, 106, 108] r rw299) (mw299_108_0 : zI 0 65535 (rw299 108 0)) (x299 : (r 104 0).toInt ≤ (rw299 105 0).toInt ∧ (rw299 105 0).toInt < (rw299 104 0).toInt ∧ (rw299 104 0).toInt ≤ (rw299 103 0).toInt) (hE : X = Gm_nextToken_299 rw299 qw299), zKf p l e ({ frames := 2, cells := 0, slots := 0, locals := 120 }) s m a9 below meth c Q D A 299 2 [] (mW ct h0 y rw299 qw299) [(0, .ref h0)] := by
    intro rw299 qw299 jw299 fw299 mw299_108_0 x299 hE H locs ls hw hS hl
    unfold Gm_nextToken_299 at hE
    refine lv_aload_n hx hb dX12_nextToken_299 rfl (lv_at hl 0 rfl) ?_
    refine lv_aload_n hx hb dX12_nextToken_300 rfl (lv_at hl 0 rfl) ?_
    refine mget (v := .int (rw299 104 0)) hx hb hts hiX12 hown hK hw 4 (by decide) lf141 rfl rfl dX12_nextToken_301 ?_
    refine lv_aload_n hx hb dX12_nextToken_304 rfl (lv_at hl 0 rfl) ?_
    refine mget (v := .int (rw299 105 0)) hx hb hts hiX12 hown hK hw 5 (by decide) lf144 rfl rfl dX12_nextToken_305 ?_
    refine lv_isub hx hb dX12_nextToken_308 (zgenE (lo := (-1000)) (hi := 1000) (zI.sub (show zI 0 1000 (rw299 104 0) from jw299.i 104 0) (show zI 0 1000 (rw299 105 0) from jw299.i 105 0) (by decide)) (fun v26 ev26 hv26 => ?_))
    have hE := zletE ev26 hE
    refine lv_iconst (v := 4) hx hb dX12_nextToken_309 (by decide) ?_
    refine lv_icmp_le (tgt := 317) hx hb dX12_nextToken_310 (by decide) (fun c27 => ?_) (fun c27 => ?_)
    · have hE := zifT c27 hE
      have k28 : zI (-1000) 4 (v26) := zI.leU c27 hv26 (zI.lit (a := 4) (b := 4) (c := 4) (by decide)) (by decide)
      refine lv_iconst (v := 2) hx hb dX12_nextToken_317 (by decide) ?_
      refine mput (ty := .int) (v := .int 2) hx hb hts hiX12 hown hK hw hS 6 (by decide) lf154 rfl rfl (by decide +kernel) rfl rfl dX12_nextToken_318 (zset rw299 106 (fun _ => (2 : Int32))) _ mWf6 (fun H locs hw hS => ?_)
      refine mgen (P := fun x => mJ B x ∧ zFr [104, 105, 106, 108] r x) hw ⟨jw299.setc rfl (fun _ => ((zI.lit (a := 2) (b := 2) (c := 2) (by decide)).w (c := 0) (d := 4) (by decide))), fw299.set rfl⟩ (fun r29 er29 hw pr29 => ?_)
      have hE := zletE er29 hE
      exact zvretQ hQ hx hb hr hlocks (r29, qw299) rfl ⟨pr29.1, pr29.2, (show mP r29 from (by have v103 : (r29 103 0).toInt = (rw299 103 0).toInt := (by rw [(congrFun (zs_row (k := 103) er29 (by decide)) 0)]); have v104 : (r29 104 0).toInt = (rw299 104 0).toInt := (by rw [(congrFun (zs_row (k := 104) er29 (by decide)) 0)]); have v105 : (r29 105 0).toInt = (rw299 105 0).toInt := (by rw [(congrFun (zs_row (k := 105) er29 (by decide)) 0)]); have := x299; exact ⟨by omega, by omega, Or.inr (by omega)⟩)), (show (r 104 0).toInt ≤ (r29 105 0).toInt from (by have v104 : (r29 104 0).toInt = (rw299 104 0).toInt := (by rw [(congrFun (zs_row (k := 104) er29 (by decide)) 0)]); have v105 : (r29 105 0).toInt = (rw299 105 0).toInt := (by rw [(congrFun (zs_row (k := 105) er29 (by decide)) 0)]); have := x299; omega)), (hE.symm.trans hX), trivial⟩ hw hS dX12_nextToken_321
    · have hE := zifF c27 hE
      have k30 : zI 5 1000 (v26) := zI.ltD (zI.nle c27) (zI.lit (a := 4) (b := 4) (c := 4) (by decide)) hv26 (by decide)
      refine lv_iconst (v := 4) hx hb dX12_nextToken_313 (by decide) ?_
      refine lv_goto (tgt := 318) hx hb dX12_nextToken_314 (by decide) ?_
      refine mput (ty := .int) (v := .int 4) hx hb hts hiX12 hown hK hw hS 6 (by decide) lf154 rfl rfl (by decide +kernel) rfl rfl dX12_nextToken_318 (zset rw299 106 (fun _ => (4 : Int32))) _ mWf6 (fun H locs hw hS => ?_)
      refine mgen (P := fun x => mJ B x ∧ zFr [104, 105, 106, 108] r x) hw ⟨jw299.setc rfl (fun _ => ((zI.lit (a := 4) (b := 4) (c := 4) (by decide)).w (c := 0) (d := 4) (by decide))), fw299.set rfl⟩ (fun r31 er31 hw pr31 => ?_)
      have hE := zletE er31 hE
      exact zvretQ hQ hx hb hr hlocks (r31, qw299) rfl ⟨pr31.1, pr31.2, (show mP r31 from (by have v103 : (r31 103 0).toInt = (rw299 103 0).toInt := (by rw [(congrFun (zs_row (k := 103) er31 (by decide)) 0)]); have v104 : (r31 104 0).toInt = (rw299 104 0).toInt := (by rw [(congrFun (zs_row (k := 104) er31 (by decide)) 0)]); have v105 : (r31 105 0).toInt = (rw299 105 0).toInt := (by rw [(congrFun (zs_row (k := 105) er31 (by decide)) 0)]); have := x299; exact ⟨by omega, by omega, Or.inr (by omega)⟩)), (show (r 104 0).toInt ≤ (r31 105 0).toInt from (by have v104 : (r31 104 0).toInt = (rw299 104 0).toInt := (by rw [(congrFun (zs_row (k := 104) er31 (by decide)) 0)]); have v105 : (r31 105 0).toInt = (rw299 105 0).toInt := (by rw [(congrFun (zs_row (k := 105) er31 (by decide)) 0)]); have := x299; omega)), (hE.symm.trans hX), trivial⟩ hw hS dX12_nextToken_321
  have cut224 : ∀ (n224 : Nat) (rw224 : zRr) (qw224 : zRq) (jw224 : mJ B rw224) (fw224 : zFr [104, 105, 106, 108] r rw224) (mw224_108_0 : zI 0 65535 (rw224 108 0)) (x224 : (r 104 0).toInt ≤ (rw224 105 0).toInt ∧ (rw224 105 0).toInt ≤ (rw224 104 0).toInt ∧ (rw224 104 0).toInt ≤ (rw224 103 0).toInt ∧ ((rw224 105 0).toInt < (rw224 104 0).toInt ∨ zI 48 57 (msg rw224 (rw224 104 0)))) (x224b : ((rw224 104 0).toInt - (rw224 105 0).toInt ≤ 0 → (rw224 108 0).toInt ≤ 0) ∧ ((rw224 104 0).toInt - (rw224 105 0).toInt ≤ 1 → (rw224 108 0).toInt ≤ 9) ∧ ((rw224 104 0).toInt - (rw224 105 0).toInt ≤ 2 → (rw224 108 0).toInt ≤ 99) ∧ ((rw224 104 0).toInt - (rw224 105 0).toInt ≤ 3 → (rw224 108 0).toInt ≤ 999)) (hE : X = Gm_nextToken_224 n224 rw224 qw224), (rw224 103 0).toInt - (rw224 104 0).toInt < (n224 : Int) → zKf p l e ({ frames := 2, cells := 0, slots := 0, locals := 120 }) s m a9 below meth c Q D A 224 2 [] (mW ct h0 y rw224 qw224) [(0, .ref h0)] := by
    intro n224
    induction n224 with
    | zero => intro rw224 qw224 jw224 fw224 mw224_108_0 x224 x224b hE hm224; exact absurd hm224 (by obtain ⟨h2, h3, h4, -⟩ := x224; omega)
    | succ n224 ih224 =>
      intro rw224 qw224 jw224 fw224 mw224_108_0 x224 x224b hE hm224
      have hE : X = Bm_nextToken_224 (Gm_nextToken_224 n224) rw224 qw224 := hE
      unfold Bm_nextToken_224 at hE
      intro H locs ls hw hS hl
      refine lv_aload_n hx hb dX12_nextToken_224 rfl (lv_at hl 0 rfl) ?_
      refine lv_aload_n hx hb dX12_nextToken_225 rfl (lv_at hl 0 rfl) ?_
      refine mget (v := .int (rw224 104 0)) hx hb hts hiX12 hown hK hw 4 (by decide) lf141 rfl rfl dX12_nextToken_226 ?_
      refine zcallW (va_runV (As := [.int (rw224 104 0)]) (rest := []) ⟨hx, hb, hml, hown, hts⟩ (mc_signAt l D ct h0 y B (rw224 104 0) rw224 qw224 (show zI 0 1000 (rw224 104 0) from jw224.i 104 0) jw224 H.size) (cwV 1 hts (kgV (zr22 22 rfl) (zr22 23 rfl) (zr23 0 rfl) (zr1 5 rfl) (zr23 1 rfl)) rfl rfl rfl (by decide +kernel) ⟨Nat.le_of_ble_eq_true rfl, Nat.le_of_ble_eq_true rfl⟩) (zpreV hK hw hS hA zZ.nil hN (List.range (mW ct h0 y rw224 qw224).length) mWn (zrange _) 11 0 rfl mWo) rfl rfl hl.1 rfl (lv_room (Nat.le_of_ble_eq_true rfl)) dX12_nextToken_229 ⟨Nat.le_of_ble_eq_true rfl, Nat.le_of_ble_eq_true rfl⟩) hw hS hA 232 rfl (fun u32 H locs pu32 hw hS => ?_)
      have hu32 : zI (-2147483648) 2147483647 u32 := pu32.1
      have yu32_0 : u32 = msg rw224 (rw224 104 0) := pu32.2.1
      have xu32 : u32 = (Gm_signAt (rw224 104 0) rw224 qw224) := pu32.2.2.1
      have hE := zletE xu32 hE
      have hw : zPD D A (mW ct h0 y rw224 qw224) H := hw
      refine zfr 232 [.int u32] rfl rfl ?_
      refine lv_bipush (v := 48) hx hb dX12_nextToken_232 (by decide) ?_
      refine lv_icmp_lt (tgt := 299) hx hb dX12_nextToken_234 (by decide) (fun c34 => ?_) (fun c34 => ?_)
      · have hE := zifT c34 hE
        have k35 : zI (-2147483648) 47 (u32) := zI.ltU c34 (zI.top _) (zI.lit (a := 48) (b := 48) (c := 48) (by decide)) (by decide)
        exact cut299 rw224 qw224 jw224 fw224 mw224_108_0 (by obtain ⟨h2, h3, h4, h5⟩ := x224; refine ⟨h2, ?_, h4⟩; rcases h5 with h5 | h5; exact h5; have h6 : zI 48 57 u32 := (by rw [yu32_0]; exact h5); have := h6.1; have := h6.2; have := (k35).1; have := (k35).2; omega) hE H locs ls hw hS (lv_sub hl [0] rfl)
      · have hE := zifF c34 hE
        have k36 : zI 48 2147483647 (u32) := zI.leD (zI.nlt c34) (zI.lit (a := 48) (b := 48) (c := 48) (by decide)) (zI.top _) (by decide)
        refine lv_aload_n hx hb dX12_nextToken_237 rfl (lv_at hl 0 rfl) ?_
        refine lv_aload_n hx hb dX12_nextToken_238 rfl (lv_at hl 0 rfl) ?_
        refine mget (v := .int (rw224 104 0)) hx hb hts hiX12 hown hK hw 4 (by decide) lf141 rfl rfl dX12_nextToken_239 ?_
        refine zcallW (va_runV (As := [.int (rw224 104 0)]) (rest := []) ⟨hx, hb, hml, hown, hts⟩ (mc_signAt l D ct h0 y B (rw224 104 0) rw224 qw224 (show zI 0 1000 (rw224 104 0) from jw224.i 104 0) jw224 H.size) (cwV 1 hts (kgV (zr22 22 rfl) (zr22 23 rfl) (zr23 0 rfl) (zr1 5 rfl) (zr23 1 rfl)) rfl rfl rfl (by decide +kernel) ⟨Nat.le_of_ble_eq_true rfl, Nat.le_of_ble_eq_true rfl⟩) (zpreV hK hw hS hA zZ.nil hN (List.range (mW ct h0 y rw224 qw224).length) mWn (zrange _) 11 0 rfl mWo) rfl rfl hl.1 rfl (lv_room (Nat.le_of_ble_eq_true rfl)) dX12_nextToken_242 ⟨Nat.le_of_ble_eq_true rfl, Nat.le_of_ble_eq_true rfl⟩) hw hS hA 245 rfl (fun u37 H locs pu37 hw hS => ?_)
        have hu37 : zI (-2147483648) 2147483647 u37 := pu37.1
        have yu37_0 : u37 = msg rw224 (rw224 104 0) := pu37.2.1
        have xu37 : u37 = (Gm_signAt (rw224 104 0) rw224 qw224) := pu37.2.2.1
        have hE := zletE xu37 hE
        have hw : zPD D A (mW ct h0 y rw224 qw224) H := hw
        refine zfr 245 [.int u37] rfl rfl ?_
        refine lv_bipush (v := 57) hx hb dX12_nextToken_245 (by decide) ?_
        refine lv_icmp_gt (tgt := 299) hx hb dX12_nextToken_247 (by decide) (fun c39 => ?_) (fun c39 => ?_)
        · have hE := zifT c39 hE
          have k40 : zI 58 2147483647 (u37) := zI.ltD c39 (zI.lit (a := 57) (b := 57) (c := 57) (by decide)) (zI.top _) (by decide)
          exact cut299 rw224 qw224 jw224 fw224 mw224_108_0 (by obtain ⟨h2, h3, h4, h5⟩ := x224; refine ⟨h2, ?_, h4⟩; rcases h5 with h5 | h5; exact h5; have h6 : zI 48 57 u37 := (by rw [yu37_0]; exact h5); have := h6.1; have := h6.2; have := (k40).1; have := (k40).2; omega) hE H locs ls hw hS (lv_sub hl [0] rfl)
        · have hE := zifF c39 hE
          have k41 : zI (-2147483648) 57 (u37) := zI.leU (zI.nlt c39) (zI.top _) (zI.lit (a := 57) (b := 57) (c := 57) (by decide)) (by decide)
          have k42 : zI 0 999 (rw224 104 0) := zI.ltU (msg_lt yu32_0 (by have := (k36).1; omega)) (show zI 0 1000 (rw224 104 0) from jw224.i 104 0) (show zI 0 1000 (rw224 103 0) from jw224.i 103 0) (by decide)
          refine lv_aload_n hx hb dX12_nextToken_250 rfl (lv_at hl 0 rfl) ?_
          refine mget (v := .int (rw224 104 0)) hx hb hts hiX12 hown hK hw 4 (by decide) lf141 rfl rfl dX12_nextToken_251 ?_
          refine lv_aload_n hx hb dX12_nextToken_254 rfl (lv_at hl 0 rfl) ?_
          refine mget (v := .int (rw224 105 0)) hx hb hts hiX12 hown hK hw 5 (by decide) lf144 rfl rfl dX12_nextToken_255 ?_
          refine lv_isub hx hb dX12_nextToken_258 ?_
          have k43 : zI (-1000) 999 ((rw224 104 0) - (rw224 105 0)) := zI.sub k42 (show zI 0 1000 (rw224 105 0) from jw224.i 105 0) (by decide)
          refine lv_iconst (v := 4) hx hb dX12_nextToken_259 (by decide) ?_
          refine lv_icmp_ge (tgt := 286) hx hb dX12_nextToken_260 (by decide) (fun c44 => ?_) (fun c44 => ?_)
          · have hE := zifT c44 hE
            have k45 : zI 4 999 ((rw224 104 0) - (rw224 105 0)) := zI.leD c44 (zI.lit (a := 4) (b := 4) (c := 4) (by decide)) k43 (by decide)
            refine lv_aload_n hx hb dX12_nextToken_286 rfl (lv_at hl 0 rfl) ?_
            refine lv_dup hx hb dX12_nextToken_287 rfl ?_
            refine mget (v := .int (rw224 104 0)) hx hb hts hiX12 hown hK hw 4 (by decide) lf141 rfl rfl dX12_nextToken_288 ?_
            refine lv_iconst (v := 1) hx hb dX12_nextToken_291 (by decide) ?_
            refine lv_iadd hx hb dX12_nextToken_292 ?_
            have k46 : zI 1 1000 ((rw224 104 0) + 1) := zI.add k42 (zI.lit (a := 1) (b := 1) (c := 1) (by decide)) (by decide)
            refine mput (ty := .int) (v := .int ((rw224 104 0) + 1)) hx hb hts hiX12 hown hK hw hS 4 (by decide) lf141 rfl rfl (by decide +kernel) rfl rfl dX12_nextToken_293 (zset rw224 104 (fun _ => (rw224 104 0) + 1)) _ mWf4 (fun H locs hw hS => ?_)
            refine mgen (P := fun x => mJ B x ∧ zFr [104, 105, 106, 108] r x) hw ⟨jw224.setc rfl (fun _ => (k46.w (c := 0) (d := 1000) (by decide))), fw224.set rfl⟩ (fun r47 er47 hw pr47 => ?_)
            have hE := zletE er47 hE
            refine lv_goto (tgt := 224) hx hb dX12_nextToken_296 (by decide) ?_
            exact ih224 r47 qw224 pr47.1 pr47.2 (zs_at er47 mw224_108_0 (by decide)) (by have v103 : (r47 103 0).toInt = (rw224 103 0).toInt := (by rw [(congrFun (zs_row (k := 103) er47 (by decide)) 0)]); have v104 : (r47 104 0).toInt = (rw224 104 0).toInt + 1 := (by rw [(congrFun (zs_self er47) 0)]; exact i32_s k42 (by decide)); have v105 : (r47 105 0).toInt = (rw224 105 0).toInt := (by rw [(congrFun (zs_row (k := 105) er47 (by decide)) 0)]); have h1 := ltI (msg_lt yu32_0 (by have := (k36).1; omega)); obtain ⟨h2, h3, h4, -⟩ := x224; exact ⟨by omega, by omega, by omega, Or.inl (by omega)⟩) (by have v104 : (r47 104 0).toInt = (rw224 104 0).toInt + 1 := (by rw [(congrFun (zs_self er47) 0)]; exact i32_s k42 (by decide)); have v105 : (r47 105 0).toInt = (rw224 105 0).toInt := (by rw [(congrFun (zs_row (k := 105) er47 (by decide)) 0)]); have v108 : (r47 108 0).toInt = (rw224 108 0).toInt := (by rw [(congrFun (zs_row (k := 108) er47 (by decide)) 0)]); obtain ⟨t0, t1, t2, t3⟩ := x224b; have e9 := i32_d k42 (show zI 0 1000 (rw224 105 0) from jw224.i 105 0) (by decide); have c4 : (4 : Int32).toInt = 4 := (by decide); have h8 := leI c44; rw [c4, e9] at h8; exact ⟨by omega, by omega, by omega, by omega⟩) hE (by have v103 : (r47 103 0).toInt = (rw224 103 0).toInt := (by rw [(congrFun (zs_row (k := 103) er47 (by decide)) 0)]); have v104 : (r47 104 0).toInt = (rw224 104 0).toInt + 1 := (by rw [(congrFun (zs_self er47) 0)]; exact i32_s k42 (by decide)); omega) H locs ls hw hS (lv_sub hl [0] rfl)
          · have hE := zifF c44 hE
            have k48 : zI (-1000) 3 ((rw224 104 0) - (rw224 105 0)) := zI.ltU (zI.nle c44) k43 (zI.lit (a := 4) (b := 4) (c := 4) (by decide)) (by decide)
            have h999 : zI 0 999 (rw224 108 0) := ⟨(show zI 0 9999 (rw224 108 0) from jw224.i 108 0).1, by have e9 := i32_d k42 (show zI 0 1000 (rw224 105 0) from jw224.i 105 0) (by decide); have h8 := (k48).2; rw [e9] at h8; obtain ⟨t0, t1, t2, t3⟩ := x224b; omega⟩
            refine lv_aload_n hx hb dX12_nextToken_263 rfl (lv_at hl 0 rfl) ?_
            refine lv_aload_n hx hb dX12_nextToken_264 rfl (lv_at hl 0 rfl) ?_
            refine mget (v := .int (rw224 108 0)) hx hb hts hiX12 hown hK hw 8 (by decide) lf151 rfl rfl dX12_nextToken_265 ?_
            refine lv_bipush (v := 10) hx hb dX12_nextToken_268 (by decide) ?_
            refine lv_imul hx hb dX12_nextToken_270 ?_
            have k49 : zI 0 9990 ((rw224 108 0) * 10) := zI.mul h999 (zI.lit (a := 10) (b := 10) (c := 10) (by decide)) (by decide)
            refine lv_aload_n hx hb dX12_nextToken_271 rfl (lv_at hl 0 rfl) ?_
            refine lv_aload_n hx hb dX12_nextToken_272 rfl (lv_at hl 0 rfl) ?_
            refine mget (v := .int (rw224 104 0)) hx hb hts hiX12 hown hK hw 4 (by decide) lf141 rfl rfl dX12_nextToken_273 ?_
            refine zcallW (va_runV (As := [.int (rw224 104 0)]) (rest := [.int ((rw224 108 0) * 10), .ref h0]) ⟨hx, hb, hml, hown, hts⟩ (mc_signAt l D ct h0 y B (rw224 104 0) rw224 qw224 (k42.w (c := 0) (d := 1000) (by decide)) jw224 H.size) (cwV 1 hts (kgV (zr22 22 rfl) (zr22 23 rfl) (zr23 0 rfl) (zr1 5 rfl) (zr23 1 rfl)) rfl rfl rfl (by decide +kernel) ⟨Nat.le_of_ble_eq_true rfl, Nat.le_of_ble_eq_true rfl⟩) (zpreV hK hw hS hA zZ.nil hN (List.range (mW ct h0 y rw224 qw224).length) mWn (zrange _) 11 0 rfl mWo) rfl rfl hl.1 rfl (lv_room (Nat.le_of_ble_eq_true rfl)) dX12_nextToken_276 ⟨Nat.le_of_ble_eq_true rfl, Nat.le_of_ble_eq_true rfl⟩) hw hS hA 279 rfl (fun u50 H locs pu50 hw hS => ?_)
            have hu50 : zI (-2147483648) 2147483647 u50 := pu50.1
            have yu50_0 : u50 = msg rw224 (rw224 104 0) := pu50.2.1
            have xu50 : u50 = (Gm_signAt (rw224 104 0) rw224 qw224) := pu50.2.2.1
            have hE := zletE xu50 hE
            have hw : zPD D A (mW ct h0 y rw224 qw224) H := hw
            refine zfr 279 [.int u50, .int ((rw224 108 0) * 10), .ref h0] rfl rfl ?_
            have h57 : zI 48 57 u50 := ⟨by rw [yu50_0, ← yu32_0]; exact (k36).1, by rw [yu50_0, ← yu37_0]; exact (k41).2⟩
            refine lv_iadd hx hb dX12_nextToken_279 ?_
            have k52 : zI 48 10047 (((rw224 108 0) * 10) + u50) := zI.add k49 h57 (by decide)
            refine lv_bipush (v := 48) hx hb dX12_nextToken_280 (by decide) ?_
            refine lv_isub hx hb dX12_nextToken_282 ?_
            have k53 : zI 0 9999 ((((rw224 108 0) * 10) + u50) - 48) := zI.sub k52 (zI.lit (a := 48) (b := 48) (c := 48) (by decide)) (by decide)
            refine mput (ty := .int) (v := .int ((((rw224 108 0) * 10) + u50) - 48)) hx hb hts hiX12 hown hK hw hS 8 (by decide) lf151 rfl rfl (by decide +kernel) rfl rfl dX12_nextToken_283 (zset rw224 108 (fun _ => (((rw224 108 0) * 10) + u50) - 48)) _ mWf8 (fun H locs hw hS => ?_)
            refine mgen (P := fun x => mJ B x ∧ zFr [104, 105, 106, 108] r x) hw ⟨jw224.setc rfl (fun _ => k53), fw224.set rfl⟩ (fun r54 er54 hw pr54 => ?_)
            have hE := zletE er54 hE
            refine lv_aload_n hx hb dX12_nextToken_286 rfl (lv_at hl 0 rfl) ?_
            refine lv_dup hx hb dX12_nextToken_287 rfl ?_
            refine mget (v := .int (r54 104 0)) hx hb hts hiX12 hown hK hw 4 (by decide) lf141 rfl rfl dX12_nextToken_288 ?_
            refine lv_iconst (v := 1) hx hb dX12_nextToken_291 (by decide) ?_
            refine lv_iadd hx hb dX12_nextToken_292 ?_
            have k55 : zI 1 1000 ((r54 104 0) + 1) := zI.add (zs_at er54 k42 (by decide)) (zI.lit (a := 1) (b := 1) (c := 1) (by decide)) (by decide)
            refine mput (ty := .int) (v := .int ((r54 104 0) + 1)) hx hb hts hiX12 hown hK hw hS 4 (by decide) lf141 rfl rfl (by decide +kernel) rfl rfl dX12_nextToken_293 (zset r54 104 (fun _ => (r54 104 0) + 1)) _ mWf4 (fun H locs hw hS => ?_)
            refine mgen (P := fun x => mJ B x ∧ zFr [104, 105, 106, 108] r x) hw ⟨pr54.1.setc rfl (fun _ => (k55.w (c := 0) (d := 1000) (by decide))), pr54.2.set rfl⟩ (fun r56 er56 hw pr56 => ?_)
            have hE := zletE er56 hE
            refine lv_goto (tgt := 224) hx hb dX12_nextToken_296 (by decide) ?_
            exact ih224 r56 qw224 pr56.1 pr56.2 ((show zI 0 9999 (r56 108 0) from pr56.1.i 108 0).w (c := 0) (d := 65535) (by decide)) (by have v103 : (r56 103 0).toInt = (rw224 103 0).toInt := (by rw [((congrFun (zs_row (k := 103) er56 (by decide)) 0).trans (congrFun (zs_row (k := 103) er54 (by decide)) 0))]); have v104b : (r54 104 0).toInt = (rw224 104 0).toInt := (by rw [(congrFun (zs_row (k := 104) er54 (by decide)) 0)]); have v104 : (r56 104 0).toInt = (r54 104 0).toInt + 1 := (by rw [(congrFun (zs_self er56) 0)]; exact i32_s (zs_at er54 k42 (by decide)) (by decide)); have v105 : (r56 105 0).toInt = (rw224 105 0).toInt := (by rw [((congrFun (zs_row (k := 105) er56 (by decide)) 0).trans (congrFun (zs_row (k := 105) er54 (by decide)) 0))]); have h1 := ltI (msg_lt yu32_0 (by have := (k36).1; omega)); obtain ⟨h2, h3, h4, -⟩ := x224; exact ⟨by omega, by omega, by omega, Or.inl (by omega)⟩) (by have v104b : (r54 104 0).toInt = (rw224 104 0).toInt := (by rw [(congrFun (zs_row (k := 104) er54 (by decide)) 0)]); have v104 : (r56 104 0).toInt = (r54 104 0).toInt + 1 := (by rw [(congrFun (zs_self er56) 0)]; exact i32_s (zs_at er54 k42 (by decide)) (by decide)); have v105 : (r56 105 0).toInt = (rw224 105 0).toInt := (by rw [((congrFun (zs_row (k := 105) er56 (by decide)) 0).trans (congrFun (zs_row (k := 105) er54 (by decide)) 0))]); have v108 : (r56 108 0).toInt = (rw224 108 0).toInt * 10 + u50.toInt - 48 := (by rw [((congrFun (zs_row (k := 108) er56 (by decide)) 0).trans (congrFun (zs_self er54) 0))]; exact mtold h999 h57); have := h57.1; have := h57.2; obtain ⟨t0, t1, t2, t3⟩ := x224b; exact ⟨by omega, by omega, by omega, by omega⟩) hE (by have v103 : (r56 103 0).toInt = (rw224 103 0).toInt := (by rw [((congrFun (zs_row (k := 103) er56 (by decide)) 0).trans (congrFun (zs_row (k := 103) er54 (by decide)) 0))]); have v104b : (r54 104 0).toInt = (rw224 104 0).toInt := (by rw [(congrFun (zs_row (k := 104) er54 (by decide)) 0)]); have v104 : (r56 104 0).toInt = (r54 104 0).toInt + 1 := (by rw [(congrFun (zs_self er56) 0)]; exact i32_s (zs_at er54 k42 (by decide)) (by decide)); omega) H locs ls hw hS (lv_sub hl [0] rfl)
  have cut188 : ∀ (rw188 : zRr) (qw188 : zRq) (jw188 : mJ B rw188) (fw188 : zFr [104, 105, 106, 108] r rw188) (mw188_108_0 : zI 0 0 (rw188 108 0)) (x188 : (r 104 0).toInt ≤ (rw188 105 0).toInt ∧ (rw188 105 0).toInt < (rw188 104 0).toInt ∧ (rw188 104 0).toInt ≤ (rw188 103 0).toInt) (hE : X = Gm_nextToken_188 rw188 qw188), zKf p l e ({ frames := 2, cells := 0, slots := 0, locals := 120 }) s m a9 below meth c Q D A 188 2 [] (mW ct h0 y rw188 qw188) [(0, .ref h0)] := by
    intro rw188 qw188 jw188 fw188 mw188_108_0 x188 hE H locs ls hw hS hl
    unfold Gm_nextToken_188 at hE
    refine lv_aload_n hx hb dX12_nextToken_188 rfl (lv_at hl 0 rfl) ?_
    refine lv_aload_n hx hb dX12_nextToken_189 rfl (lv_at hl 0 rfl) ?_
    refine mget (v := .int (rw188 104 0)) hx hb hts hiX12 hown hK hw 4 (by decide) lf141 rfl rfl dX12_nextToken_190 ?_
    refine lv_aload_n hx hb dX12_nextToken_193 rfl (lv_at hl 0 rfl) ?_
    refine mget (v := .int (rw188 105 0)) hx hb hts hiX12 hown hK hw 5 (by decide) lf144 rfl rfl dX12_nextToken_194 ?_
    refine lv_isub hx hb dX12_nextToken_197 (zgenE (lo := (-1000)) (hi := 1000) (zI.sub (show zI 0 1000 (rw188 104 0) from jw188.i 104 0) (show zI 0 1000 (rw188 105 0) from jw188.i 105 0) (by decide)) (fun v57 ev57 hv57 => ?_))
    have hE := zletE ev57 hE
    refine lv_bipush (v := 8) hx hb dX12_nextToken_198 (by decide) ?_
    refine lv_icmp_le (tgt := 207) hx hb dX12_nextToken_200 (by decide) (fun c58 => ?_) (fun c58 => ?_)
    · have hE := zifT c58 hE
      have k59 : zI (-1000) 8 (v57) := zI.leU c58 hv57 (zI.lit (a := 8) (b := 8) (c := 8) (by decide)) (by decide)
      refine lv_iconst (v := 1) hx hb dX12_nextToken_207 (by decide) ?_
      refine mput (ty := .int) (v := .int 1) hx hb hts hiX12 hown hK hw hS 6 (by decide) lf154 rfl rfl (by decide +kernel) rfl rfl dX12_nextToken_208 (zset rw188 106 (fun _ => (1 : Int32))) _ mWf6 (fun H locs hw hS => ?_)
      refine mgen (P := fun x => mJ B x ∧ zFr [104, 105, 106, 108] r x) hw ⟨jw188.setc rfl (fun _ => ((zI.lit (a := 1) (b := 1) (c := 1) (by decide)).w (c := 0) (d := 4) (by decide))), fw188.set rfl⟩ (fun r60 er60 hw pr60 => ?_)
      have hE := zletE er60 hE
      exact zvretQ hQ hx hb hr hlocks (r60, qw188) rfl ⟨pr60.1, pr60.2, (show mP r60 from (by have v103 : (r60 103 0).toInt = (rw188 103 0).toInt := (by rw [(congrFun (zs_row (k := 103) er60 (by decide)) 0)]); have v104 : (r60 104 0).toInt = (rw188 104 0).toInt := (by rw [(congrFun (zs_row (k := 104) er60 (by decide)) 0)]); have v105 : (r60 105 0).toInt = (rw188 105 0).toInt := (by rw [(congrFun (zs_row (k := 105) er60 (by decide)) 0)]); have := x188; exact ⟨by omega, by omega, Or.inr (by omega)⟩)), (show (r 104 0).toInt ≤ (r60 105 0).toInt from (by have v104 : (r60 104 0).toInt = (rw188 104 0).toInt := (by rw [(congrFun (zs_row (k := 104) er60 (by decide)) 0)]); have v105 : (r60 105 0).toInt = (rw188 105 0).toInt := (by rw [(congrFun (zs_row (k := 105) er60 (by decide)) 0)]); have := x188; omega)), (hE.symm.trans hX), trivial⟩ hw hS dX12_nextToken_211
    · have hE := zifF c58 hE
      have k61 : zI 9 1000 (v57) := zI.ltD (zI.nle c58) (zI.lit (a := 8) (b := 8) (c := 8) (by decide)) hv57 (by decide)
      refine lv_iconst (v := 4) hx hb dX12_nextToken_203 (by decide) ?_
      refine lv_goto (tgt := 208) hx hb dX12_nextToken_204 (by decide) ?_
      refine mput (ty := .int) (v := .int 4) hx hb hts hiX12 hown hK hw hS 6 (by decide) lf154 rfl rfl (by decide +kernel) rfl rfl dX12_nextToken_208 (zset rw188 106 (fun _ => (4 : Int32))) _ mWf6 (fun H locs hw hS => ?_)
      refine mgen (P := fun x => mJ B x ∧ zFr [104, 105, 106, 108] r x) hw ⟨jw188.setc rfl (fun _ => ((zI.lit (a := 4) (b := 4) (c := 4) (by decide)).w (c := 0) (d := 4) (by decide))), fw188.set rfl⟩ (fun r62 er62 hw pr62 => ?_)
      have hE := zletE er62 hE
      exact zvretQ hQ hx hb hr hlocks (r62, qw188) rfl ⟨pr62.1, pr62.2, (show mP r62 from (by have v103 : (r62 103 0).toInt = (rw188 103 0).toInt := (by rw [(congrFun (zs_row (k := 103) er62 (by decide)) 0)]); have v104 : (r62 104 0).toInt = (rw188 104 0).toInt := (by rw [(congrFun (zs_row (k := 104) er62 (by decide)) 0)]); have v105 : (r62 105 0).toInt = (rw188 105 0).toInt := (by rw [(congrFun (zs_row (k := 105) er62 (by decide)) 0)]); have := x188; exact ⟨by omega, by omega, Or.inr (by omega)⟩)), (show (r 104 0).toInt ≤ (r62 105 0).toInt from (by have v104 : (r62 104 0).toInt = (rw188 104 0).toInt := (by rw [(congrFun (zs_row (k := 104) er62 (by decide)) 0)]); have v105 : (r62 105 0).toInt = (rw188 105 0).toInt := (by rw [(congrFun (zs_row (k := 105) er62 (by decide)) 0)]); have := x188; omega)), (hE.symm.trans hX), trivial⟩ hw hS dX12_nextToken_211
  have cut109 : ∀ (n109 : Nat) (rw109 : zRr) (qw109 : zRq) (jw109 : mJ B rw109) (fw109 : zFr [104, 105, 106, 108] r rw109) (mw109_108_0 : zI 0 0 (rw109 108 0)) (x109 : (r 104 0).toInt ≤ (rw109 105 0).toInt ∧ (rw109 105 0).toInt ≤ (rw109 104 0).toInt ∧ (rw109 104 0).toInt ≤ (rw109 103 0).toInt ∧ ((rw109 105 0).toInt < (rw109 104 0).toInt ∨ zI 97 122 (msg rw109 (rw109 104 0)))) (hE : X = Gm_nextToken_109 n109 rw109 qw109), (rw109 103 0).toInt - (rw109 104 0).toInt < (n109 : Int) → zKf p l e ({ frames := 2, cells := 0, slots := 0, locals := 120 }) s m a9 below meth c Q D A 109 2 [] (mW ct h0 y rw109 qw109) [(0, .ref h0)] := by
    intro n109
    induction n109 with
    | zero => intro rw109 qw109 jw109 fw109 mw109_108_0 x109 hE hm109; exact absurd hm109 (by obtain ⟨h2, h3, h4, -⟩ := x109; omega)
    | succ n109 ih109 =>
      intro rw109 qw109 jw109 fw109 mw109_108_0 x109 hE hm109
      have hE : X = Bm_nextToken_109 (Gm_nextToken_109 n109) rw109 qw109 := hE
      unfold Bm_nextToken_109 at hE
      intro H locs ls hw hS hl
      refine lv_aload_n hx hb dX12_nextToken_109 rfl (lv_at hl 0 rfl) ?_
      refine lv_aload_n hx hb dX12_nextToken_110 rfl (lv_at hl 0 rfl) ?_
      refine mget (v := .int (rw109 104 0)) hx hb hts hiX12 hown hK hw 4 (by decide) lf141 rfl rfl dX12_nextToken_111 ?_
      refine zcallW (va_runV (As := [.int (rw109 104 0)]) (rest := []) ⟨hx, hb, hml, hown, hts⟩ (mc_signAt l D ct h0 y B (rw109 104 0) rw109 qw109 (show zI 0 1000 (rw109 104 0) from jw109.i 104 0) jw109 H.size) (cwV 1 hts (kgV (zr22 22 rfl) (zr22 23 rfl) (zr23 0 rfl) (zr1 5 rfl) (zr23 1 rfl)) rfl rfl rfl (by decide +kernel) ⟨Nat.le_of_ble_eq_true rfl, Nat.le_of_ble_eq_true rfl⟩) (zpreV hK hw hS hA zZ.nil hN (List.range (mW ct h0 y rw109 qw109).length) mWn (zrange _) 11 0 rfl mWo) rfl rfl hl.1 rfl (lv_room (Nat.le_of_ble_eq_true rfl)) dX12_nextToken_114 ⟨Nat.le_of_ble_eq_true rfl, Nat.le_of_ble_eq_true rfl⟩) hw hS hA 117 rfl (fun u63 H locs pu63 hw hS => ?_)
      have hu63 : zI (-2147483648) 2147483647 u63 := pu63.1
      have yu63_0 : u63 = msg rw109 (rw109 104 0) := pu63.2.1
      have xu63 : u63 = (Gm_signAt (rw109 104 0) rw109 qw109) := pu63.2.2.1
      have hE := zletE xu63 hE
      have hw : zPD D A (mW ct h0 y rw109 qw109) H := hw
      refine zfr 117 [.int u63] rfl rfl ?_
      refine lv_bipush (v := 97) hx hb dX12_nextToken_117 (by decide) ?_
      refine lv_icmp_lt (tgt := 188) hx hb dX12_nextToken_119 (by decide) (fun c65 => ?_) (fun c65 => ?_)
      · have hE := zifT c65 hE
        have k66 : zI (-2147483648) 96 (u63) := zI.ltU c65 (zI.top _) (zI.lit (a := 97) (b := 97) (c := 97) (by decide)) (by decide)
        exact cut188 rw109 qw109 jw109 fw109 mw109_108_0 (by obtain ⟨h2, h3, h4, h5⟩ := x109; refine ⟨h2, ?_, h4⟩; rcases h5 with h5 | h5; exact h5; have h6 : zI 97 122 u63 := (by rw [yu63_0]; exact h5); have := h6.1; have := h6.2; have := (k66).1; have := (k66).2; omega) hE H locs ls hw hS (lv_sub hl [0] rfl)
      · have hE := zifF c65 hE
        have k67 : zI 97 2147483647 (u63) := zI.leD (zI.nlt c65) (zI.lit (a := 97) (b := 97) (c := 97) (by decide)) (zI.top _) (by decide)
        refine lv_aload_n hx hb dX12_nextToken_122 rfl (lv_at hl 0 rfl) ?_
        refine lv_aload_n hx hb dX12_nextToken_123 rfl (lv_at hl 0 rfl) ?_
        refine mget (v := .int (rw109 104 0)) hx hb hts hiX12 hown hK hw 4 (by decide) lf141 rfl rfl dX12_nextToken_124 ?_
        refine zcallW (va_runV (As := [.int (rw109 104 0)]) (rest := []) ⟨hx, hb, hml, hown, hts⟩ (mc_signAt l D ct h0 y B (rw109 104 0) rw109 qw109 (show zI 0 1000 (rw109 104 0) from jw109.i 104 0) jw109 H.size) (cwV 1 hts (kgV (zr22 22 rfl) (zr22 23 rfl) (zr23 0 rfl) (zr1 5 rfl) (zr23 1 rfl)) rfl rfl rfl (by decide +kernel) ⟨Nat.le_of_ble_eq_true rfl, Nat.le_of_ble_eq_true rfl⟩) (zpreV hK hw hS hA zZ.nil hN (List.range (mW ct h0 y rw109 qw109).length) mWn (zrange _) 11 0 rfl mWo) rfl rfl hl.1 rfl (lv_room (Nat.le_of_ble_eq_true rfl)) dX12_nextToken_127 ⟨Nat.le_of_ble_eq_true rfl, Nat.le_of_ble_eq_true rfl⟩) hw hS hA 130 rfl (fun u68 H locs pu68 hw hS => ?_)
        have hu68 : zI (-2147483648) 2147483647 u68 := pu68.1
        have yu68_0 : u68 = msg rw109 (rw109 104 0) := pu68.2.1
        have xu68 : u68 = (Gm_signAt (rw109 104 0) rw109 qw109) := pu68.2.2.1
        have hE := zletE xu68 hE
        have hw : zPD D A (mW ct h0 y rw109 qw109) H := hw
        refine zfr 130 [.int u68] rfl rfl ?_
        refine lv_bipush (v := 122) hx hb dX12_nextToken_130 (by decide) ?_
        refine lv_icmp_gt (tgt := 188) hx hb dX12_nextToken_132 (by decide) (fun c70 => ?_) (fun c70 => ?_)
        · have hE := zifT c70 hE
          have k71 : zI 123 2147483647 (u68) := zI.ltD c70 (zI.lit (a := 122) (b := 122) (c := 122) (by decide)) (zI.top _) (by decide)
          exact cut188 rw109 qw109 jw109 fw109 mw109_108_0 (by obtain ⟨h2, h3, h4, h5⟩ := x109; refine ⟨h2, ?_, h4⟩; rcases h5 with h5 | h5; exact h5; have h6 : zI 97 122 u68 := (by rw [yu68_0]; exact h5); have := h6.1; have := h6.2; have := (k71).1; have := (k71).2; omega) hE H locs ls hw hS (lv_sub hl [0] rfl)
        · have hE := zifF c70 hE
          have k72 : zI (-2147483648) 122 (u68) := zI.leU (zI.nlt c70) (zI.top _) (zI.lit (a := 122) (b := 122) (c := 122) (by decide)) (by decide)
          have k73 : zI 0 999 (rw109 104 0) := zI.ltU (msg_lt yu63_0 (by have := (k67).1; omega)) (show zI 0 1000 (rw109 104 0) from jw109.i 104 0) (show zI 0 1000 (rw109 103 0) from jw109.i 103 0) (by decide)
          refine lv_aload_n hx hb dX12_nextToken_135 rfl (lv_at hl 0 rfl) ?_
          refine mget (v := .int (rw109 104 0)) hx hb hts hiX12 hown hK hw 4 (by decide) lf141 rfl rfl dX12_nextToken_136 ?_
          refine lv_aload_n hx hb dX12_nextToken_139 rfl (lv_at hl 0 rfl) ?_
          refine mget (v := .int (rw109 105 0)) hx hb hts hiX12 hown hK hw 5 (by decide) lf144 rfl rfl dX12_nextToken_140 ?_
          refine lv_isub hx hb dX12_nextToken_143 (zgenE (lo := (-1000)) (hi := 999) (zI.sub k73 (show zI 0 1000 (rw109 105 0) from jw109.i 105 0) (by decide)) (fun v74 ev74 hv74 => ?_))
          have hE := zletE ev74 hE
          refine lv_bipush (v := 8) hx hb dX12_nextToken_144 (by decide) ?_
          refine lv_icmp_ge (tgt := 175) hx hb dX12_nextToken_146 (by decide) (fun c75 => ?_) (fun c75 => ?_)
          · have hE := zifT c75 hE
            have k76 : zI 8 999 (v74) := zI.leD c75 (zI.lit (a := 8) (b := 8) (c := 8) (by decide)) hv74 (by decide)
            refine lv_aload_n hx hb dX12_nextToken_175 rfl (lv_at hl 0 rfl) ?_
            refine lv_dup hx hb dX12_nextToken_176 rfl ?_
            refine mget (v := .int (rw109 104 0)) hx hb hts hiX12 hown hK hw 4 (by decide) lf141 rfl rfl dX12_nextToken_177 ?_
            refine lv_iconst (v := 1) hx hb dX12_nextToken_180 (by decide) ?_
            refine lv_iadd hx hb dX12_nextToken_181 ?_
            have k77 : zI 1 1000 ((rw109 104 0) + 1) := zI.add k73 (zI.lit (a := 1) (b := 1) (c := 1) (by decide)) (by decide)
            refine mput (ty := .int) (v := .int ((rw109 104 0) + 1)) hx hb hts hiX12 hown hK hw hS 4 (by decide) lf141 rfl rfl (by decide +kernel) rfl rfl dX12_nextToken_182 (zset rw109 104 (fun _ => (rw109 104 0) + 1)) _ mWf4 (fun H locs hw hS => ?_)
            refine mgen (P := fun x => mJ B x ∧ zFr [104, 105, 106, 108] r x) hw ⟨jw109.setc rfl (fun _ => (k77.w (c := 0) (d := 1000) (by decide))), fw109.set rfl⟩ (fun r78 er78 hw pr78 => ?_)
            have hE := zletE er78 hE
            refine lv_goto (tgt := 109) hx hb dX12_nextToken_185 (by decide) ?_
            exact ih109 r78 qw109 pr78.1 pr78.2 (zs_at er78 mw109_108_0 (by decide)) (by have v103 : (r78 103 0).toInt = (rw109 103 0).toInt := (by rw [(congrFun (zs_row (k := 103) er78 (by decide)) 0)]); have v104 : (r78 104 0).toInt = (rw109 104 0).toInt + 1 := (by rw [(congrFun (zs_self er78) 0)]; exact i32_s k73 (by decide)); have v105 : (r78 105 0).toInt = (rw109 105 0).toInt := (by rw [(congrFun (zs_row (k := 105) er78 (by decide)) 0)]); have h1 := ltI (msg_lt yu63_0 (by have := (k67).1; omega)); obtain ⟨h2, h3, h4, -⟩ := x109; exact ⟨by omega, by omega, by omega, Or.inl (by omega)⟩) hE (by have v103 : (r78 103 0).toInt = (rw109 103 0).toInt := (by rw [(congrFun (zs_row (k := 103) er78 (by decide)) 0)]); have v104 : (r78 104 0).toInt = (rw109 104 0).toInt + 1 := (by rw [(congrFun (zs_self er78) 0)]; exact i32_s k73 (by decide)); omega) H locs ls hw hS (lv_sub hl [0] rfl)
          · have hE := zifF c75 hE
            have k79 : zI (-1000) 7 (v74) := zI.ltU (zI.nle c75) hv74 (zI.lit (a := 8) (b := 8) (c := 8) (by decide)) (by decide)
            refine lv_aload_n hx hb dX12_nextToken_149 rfl (lv_at hl 0 rfl) ?_
            refine lv_aload_n hx hb dX12_nextToken_150 rfl (lv_at hl 0 rfl) ?_
            refine mget (v := .long (qw109 107 0)) hx hb hts hiX12 hown hK hw 7 (by decide) lf147 rfl rfl dX12_nextToken_151 (zgenLE (fun v80 ev80 => ?_))
            have hE := zletE ev80 hE
            refine lv_ldc2 hx hb hown (hts (.constantLong RX12 161 27) (ki (zr22 20 rfl))) dX12_nextToken_154 ?_
            refine lv_lmul hx hb dX12_nextToken_157 (zgenLE (fun v81 ev81 => ?_))
            have hE := zletE ev81 hE
            refine lv_aload_n hx hb dX12_nextToken_158 rfl (lv_at hl 0 rfl) ?_
            refine lv_aload_n hx hb dX12_nextToken_159 rfl (lv_at hl 0 rfl) ?_
            refine mget (v := .int (rw109 104 0)) hx hb hts hiX12 hown hK hw 4 (by decide) lf141 rfl rfl dX12_nextToken_160 ?_
            refine zcallW (va_runV (As := [.int (rw109 104 0)]) (rest := [.long v81, .ref h0]) ⟨hx, hb, hml, hown, hts⟩ (mc_signAt l D ct h0 y B (rw109 104 0) rw109 qw109 (k73.w (c := 0) (d := 1000) (by decide)) jw109 H.size) (cwV 1 hts (kgV (zr22 22 rfl) (zr22 23 rfl) (zr23 0 rfl) (zr1 5 rfl) (zr23 1 rfl)) rfl rfl rfl (by decide +kernel) ⟨Nat.le_of_ble_eq_true rfl, Nat.le_of_ble_eq_true rfl⟩) (zpreV hK hw hS hA zZ.nil hN (List.range (mW ct h0 y rw109 qw109).length) mWn (zrange _) 11 0 rfl mWo) rfl rfl hl.1 rfl (lv_room (Nat.le_of_ble_eq_true rfl)) dX12_nextToken_163 ⟨Nat.le_of_ble_eq_true rfl, Nat.le_of_ble_eq_true rfl⟩) hw hS hA 166 rfl (fun u82 H locs pu82 hw hS => ?_)
            have hu82 : zI (-2147483648) 2147483647 u82 := pu82.1
            have yu82_0 : u82 = msg rw109 (rw109 104 0) := pu82.2.1
            have xu82 : u82 = (Gm_signAt (rw109 104 0) rw109 qw109) := pu82.2.2.1
            have hE := zletE xu82 hE
            have hw : zPD D A (mW ct h0 y rw109 qw109) H := hw
            refine zfr 166 [.int u82, .long v81, .ref h0] rfl rfl ?_
            refine lv_i2l (v := u82.toInt64) hx hb dX12_nextToken_166 rfl (zgenLE (fun v84 ev84 => ?_))
            have hE := zletE ev84 hE
            refine lv_ladd hx hb dX12_nextToken_167 (zgenLE (fun v85 ev85 => ?_))
            have hE := zletE ev85 hE
            refine lv_ldc2 hx hb hown (hts (.constantLong RX12 163 96) (ki (zr22 21 rfl))) dX12_nextToken_168 ?_
            refine lv_lsub hx hb dX12_nextToken_171 (zgenLE (fun v86 ev86 => ?_))
            have hE := zletE ev86 hE
            refine mput (ty := .long) (v := .long v86) hx hb hts hiX12 hown hK hw hS 7 (by decide) lf147 rfl rfl (by decide +kernel) rfl rfl dX12_nextToken_172 _ (zset qw109 107 (fun _ => v86)) mWf7 (fun H locs hw hS => ?_)
            refine mqgen hw (fun q87 eq87 hw => ?_)
            have hE := zletE eq87 hE
            refine lv_aload_n hx hb dX12_nextToken_175 rfl (lv_at hl 0 rfl) ?_
            refine lv_dup hx hb dX12_nextToken_176 rfl ?_
            refine mget (v := .int (rw109 104 0)) hx hb hts hiX12 hown hK hw 4 (by decide) lf141 rfl rfl dX12_nextToken_177 ?_
            refine lv_iconst (v := 1) hx hb dX12_nextToken_180 (by decide) ?_
            refine lv_iadd hx hb dX12_nextToken_181 ?_
            have k88 : zI 1 1000 ((rw109 104 0) + 1) := zI.add k73 (zI.lit (a := 1) (b := 1) (c := 1) (by decide)) (by decide)
            refine mput (ty := .int) (v := .int ((rw109 104 0) + 1)) hx hb hts hiX12 hown hK hw hS 4 (by decide) lf141 rfl rfl (by decide +kernel) rfl rfl dX12_nextToken_182 (zset rw109 104 (fun _ => (rw109 104 0) + 1)) _ mWf4 (fun H locs hw hS => ?_)
            refine mgen (P := fun x => mJ B x ∧ zFr [104, 105, 106, 108] r x) hw ⟨jw109.setc rfl (fun _ => (k88.w (c := 0) (d := 1000) (by decide))), fw109.set rfl⟩ (fun r89 er89 hw pr89 => ?_)
            have hE := zletE er89 hE
            refine lv_goto (tgt := 109) hx hb dX12_nextToken_185 (by decide) ?_
            exact ih109 r89 q87 pr89.1 pr89.2 (zs_at er89 mw109_108_0 (by decide)) (by have v103 : (r89 103 0).toInt = (rw109 103 0).toInt := (by rw [(congrFun (zs_row (k := 103) er89 (by decide)) 0)]); have v104 : (r89 104 0).toInt = (rw109 104 0).toInt + 1 := (by rw [(congrFun (zs_self er89) 0)]; exact i32_s k73 (by decide)); have v105 : (r89 105 0).toInt = (rw109 105 0).toInt := (by rw [(congrFun (zs_row (k := 105) er89 (by decide)) 0)]); have h1 := ltI (msg_lt yu63_0 (by have := (k67).1; omega)); obtain ⟨h2, h3, h4, -⟩ := x109; exact ⟨by omega, by omega, by omega, Or.inl (by omega)⟩) hE (by have v103 : (r89 103 0).toInt = (rw109 103 0).toInt := (by rw [(congrFun (zs_row (k := 103) er89 (by decide)) 0)]); have v104 : (r89 104 0).toInt = (rw109 104 0).toInt + 1 := (by rw [(congrFun (zs_self er89) 0)]; exact i32_s k73 (by decide)); omega) H locs ls hw hS (lv_sub hl [0] rfl)
  have cut52 : ∀ (rw52 : zRr) (jw52 : mJ B rw52) (fw52 : zFr [104, 105, 106, 108] r rw52) (x52 : (r 104 0).toInt ≤ (rw52 104 0).toInt ∧ (rw52 104 0).toInt ≤ (rw52 103 0).toInt) (hE : X = Gm_nextToken_52 q rw52), zKf p l e ({ frames := 2, cells := 0, slots := 0, locals := 120 }) s m a9 below meth c Q D A 52 2 [] (mW ct h0 y rw52 q) [(0, .ref h0)] := by
    intro rw52 jw52 fw52 x52 hE H locs ls hw hS hl
    unfold Gm_nextToken_52 at hE
    refine lv_aload_n hx hb dX12_nextToken_52 rfl (lv_at hl 0 rfl) ?_
    refine lv_aload_n hx hb dX12_nextToken_53 rfl (lv_at hl 0 rfl) ?_
    refine mget (v := .int (rw52 104 0)) hx hb hts hiX12 hown hK hw 4 (by decide) lf141 rfl rfl dX12_nextToken_54 ?_
    refine mput (ty := .int) (v := .int (rw52 104 0)) hx hb hts hiX12 hown hK hw hS 5 (by decide) lf144 rfl rfl (by decide +kernel) rfl rfl dX12_nextToken_57 (zset rw52 105 (fun _ => rw52 104 0)) _ mWf5 (fun H locs hw hS => ?_)
    refine mgen (P := fun x => mJ B x ∧ zFr [104, 105, 106, 108] r x) hw ⟨jw52.setc rfl (fun _ => (show zI 0 1000 (rw52 104 0) from jw52.i 104 0)), fw52.set rfl⟩ (fun r90 er90 hw pr90 => ?_)
    have hE := zletE er90 hE
    refine lv_aload_n hx hb dX12_nextToken_60 rfl (lv_at hl 0 rfl) ?_
    refine lv_lconst (v := 0) hx hb dX12_nextToken_61 (by decide) ?_
    refine mput (ty := .long) (v := .long 0) hx hb hts hiX12 hown hK hw hS 7 (by decide) lf147 rfl rfl (by decide +kernel) rfl rfl dX12_nextToken_62 _ (zset q 107 (fun _ => (0 : Int64))) mWf7 (fun H locs hw hS => ?_)
    refine mqgen hw (fun q91 eq91 hw => ?_)
    have hE := zletE eq91 hE
    refine lv_aload_n hx hb dX12_nextToken_65 rfl (lv_at hl 0 rfl) ?_
    refine lv_iconst (v := 0) hx hb dX12_nextToken_66 (by decide) ?_
    refine mput (ty := .int) (v := .int 0) hx hb hts hiX12 hown hK hw hS 8 (by decide) lf151 rfl rfl (by decide +kernel) rfl rfl dX12_nextToken_67 (zset r90 108 (fun _ => (0 : Int32))) _ mWf8 (fun H locs hw hS => ?_)
    refine mgen (P := fun x => mJ B x ∧ zFr [104, 105, 106, 108] r x) hw ⟨pr90.1.setc rfl (fun _ => ((zI.lit (a := 0) (b := 0) (c := 0) (by decide)).w (c := 0) (d := 9999) (by decide))), pr90.2.set rfl⟩ (fun r92 er92 hw pr92 => ?_)
    have hE := zletE er92 hE
    refine lv_aload_n hx hb dX12_nextToken_70 rfl (lv_at hl 0 rfl) ?_
    refine mget (v := .int (r92 104 0)) hx hb hts hiX12 hown hK hw 4 (by decide) lf141 rfl rfl dX12_nextToken_71 ?_
    refine lv_aload_n hx hb dX12_nextToken_74 rfl (lv_at hl 0 rfl) ?_
    refine mget (v := .int (r92 103 0)) hx hb hts hiX12 hown hK hw 3 (by decide) lf138 rfl rfl dX12_nextToken_75 ?_
    refine lv_icmp_ne (tgt := 87) hx hb dX12_nextToken_78 (by decide) (fun c93 => ?_) (fun c93 => ?_)
    · have hE := zifnT c93 hE
      have hlt : r92 104 0 < r92 103 0 := Int32.lt_iff_toInt_lt.mpr (by have v103 : (r92 103 0).toInt = (rw52 103 0).toInt := (by rw [((congrFun (zs_row (k := 103) er92 (by decide)) 0).trans (congrFun (zs_row (k := 103) er90 (by decide)) 0))]); have v104 : (r92 104 0).toInt = (rw52 104 0).toInt := (by rw [((congrFun (zs_row (k := 104) er92 (by decide)) 0).trans (congrFun (zs_row (k := 104) er90 (by decide)) 0))]); have := neI c93; have := x52; omega)
      have k94 : zI 0 999 (r92 104 0) := zI.ltU hlt (show zI 0 1000 (r92 104 0) from pr92.1.i 104 0) (show zI 0 1000 (r92 103 0) from pr92.1.i 103 0) (by decide)
      refine lv_aload_n hx hb dX12_nextToken_87 rfl (lv_at hl 0 rfl) ?_
      refine mget (v := .ref (y 0)) hx hb hts hiX12 hown hK hw 2 (by decide) lf7 rfl rfl dX12_nextToken_88 ?_
      refine lv_aload_n hx hb dX12_nextToken_91 rfl (lv_at hl 0 rfl) ?_
      refine mget (v := .int (r92 104 0)) hx hb hts hiX12 hown hK hw 4 (by decide) lf141 rfl rfl dX12_nextToken_92 ?_
      refine miald hx hb hK hw 1 mWg0 k94 (by decide) dX12_nextToken_95 ?_
      refine lv_istore_n (lv' := [(1, .int (r92 0 (zn (r92 104 0)))), (0, .ref h0)]) hx hb dX12_nextToken_96 rfl hl (by decide) rfl (fun ls hl => ?_)
      refine lv_iload_n hx hb dX12_nextToken_97 rfl (lv_at hl 0 rfl) ?_
      refine lv_bipush (v := 97) hx hb dX12_nextToken_98 (by decide) ?_
      refine lv_icmp_lt (tgt := 212) hx hb dX12_nextToken_100 (by decide) (fun c95 => ?_) (fun c95 => ?_)
      · have hE := zifT c95 hE
        have k96 : zI (-2147483648) 96 (r92 0 (zn (r92 104 0))) := zI.ltU c95 (zI.top _) (zI.lit (a := 97) (b := 97) (c := 97) (by decide)) (by decide)
        refine lv_iload_n hx hb dX12_nextToken_212 rfl (lv_at hl 0 rfl) ?_
        refine lv_bipush (v := 48) hx hb dX12_nextToken_213 (by decide) ?_
        refine lv_icmp_lt (tgt := 322) hx hb dX12_nextToken_215 (by decide) (fun c97 => ?_) (fun c97 => ?_)
        · have hE := zifT c97 hE
          have k98 : zI (-2147483648) 47 (r92 0 (zn (r92 104 0))) := zI.ltU c97 k96 (zI.lit (a := 48) (b := 48) (c := 48) (by decide)) (by decide)
          exact cut322 (r92 0 (zn (r92 104 0))) r92 q91 pr92.1 pr92.2 k94 (zs_in er92 (zI.lit (a := 0) (b := 0) (c := 0) (by decide))) (by have v103 : (r92 103 0).toInt = (rw52 103 0).toInt := (by rw [((congrFun (zs_row (k := 103) er92 (by decide)) 0).trans (congrFun (zs_row (k := 103) er90 (by decide)) 0))]); have v104 : (r92 104 0).toInt = (rw52 104 0).toInt := (by rw [((congrFun (zs_row (k := 104) er92 (by decide)) 0).trans (congrFun (zs_row (k := 104) er90 (by decide)) 0))]); have v105 : (r92 105 0).toInt = (rw52 104 0).toInt := (by rw [((congrFun (zs_row (k := 105) er92 (by decide)) 0).trans (congrFun (zs_self er90) 0))]); have := x52; have := ltI hlt; exact ⟨by omega, by omega, by omega⟩) hE H locs ls hw hS (lv_sub hl [1, 0] rfl)
        · have hE := zifF c97 hE
          have k99 : zI 48 96 (r92 0 (zn (r92 104 0))) := zI.leD (zI.nlt c97) (zI.lit (a := 48) (b := 48) (c := 48) (by decide)) k96 (by decide)
          refine lv_iload_n hx hb dX12_nextToken_218 rfl (lv_at hl 0 rfl) ?_
          refine lv_bipush (v := 57) hx hb dX12_nextToken_219 (by decide) ?_
          refine lv_icmp_gt (tgt := 322) hx hb dX12_nextToken_221 (by decide) (fun c100 => ?_) (fun c100 => ?_)
          · have hE := zifT c100 hE
            have k101 : zI 58 96 (r92 0 (zn (r92 104 0))) := zI.ltD c100 (zI.lit (a := 57) (b := 57) (c := 57) (by decide)) k99 (by decide)
            exact cut322 (r92 0 (zn (r92 104 0))) r92 q91 pr92.1 pr92.2 k94 (zs_in er92 (zI.lit (a := 0) (b := 0) (c := 0) (by decide))) (by have v103 : (r92 103 0).toInt = (rw52 103 0).toInt := (by rw [((congrFun (zs_row (k := 103) er92 (by decide)) 0).trans (congrFun (zs_row (k := 103) er90 (by decide)) 0))]); have v104 : (r92 104 0).toInt = (rw52 104 0).toInt := (by rw [((congrFun (zs_row (k := 104) er92 (by decide)) 0).trans (congrFun (zs_row (k := 104) er90 (by decide)) 0))]); have v105 : (r92 105 0).toInt = (rw52 104 0).toInt := (by rw [((congrFun (zs_row (k := 105) er92 (by decide)) 0).trans (congrFun (zs_self er90) 0))]); have := x52; have := ltI hlt; exact ⟨by omega, by omega, by omega⟩) hE H locs ls hw hS (lv_sub hl [1, 0] rfl)
          · have hE := zifF c100 hE
            have k102 : zI 48 57 (r92 0 (zn (r92 104 0))) := zI.leU (zI.nlt c100) k99 (zI.lit (a := 57) (b := 57) (c := 57) (by decide)) (by decide)
            exact cut224 1001 r92 q91 pr92.1 pr92.2 ((zs_in er92 (zI.lit (a := 0) (b := 0) (c := 0) (by decide))).w (c := 0) (d := 65535) (by decide)) (by have v103 : (r92 103 0).toInt = (rw52 103 0).toInt := (by rw [((congrFun (zs_row (k := 103) er92 (by decide)) 0).trans (congrFun (zs_row (k := 103) er90 (by decide)) 0))]); have v104 : (r92 104 0).toInt = (rw52 104 0).toInt := (by rw [((congrFun (zs_row (k := 104) er92 (by decide)) 0).trans (congrFun (zs_row (k := 104) er90 (by decide)) 0))]); have v105 : (r92 105 0).toInt = (rw52 104 0).toInt := (by rw [((congrFun (zs_row (k := 105) er92 (by decide)) 0).trans (congrFun (zs_self er90) 0))]); have := x52; exact ⟨by omega, by omega, by omega, Or.inr (by rw [msg_in hlt]; exact k102)⟩) (by have v104 : (r92 104 0).toInt = (rw52 104 0).toInt := (by rw [((congrFun (zs_row (k := 104) er92 (by decide)) 0).trans (congrFun (zs_row (k := 104) er90 (by decide)) 0))]); have v105 : (r92 105 0).toInt = (rw52 104 0).toInt := (by rw [((congrFun (zs_row (k := 105) er92 (by decide)) 0).trans (congrFun (zs_self er90) 0))]); have v108 : (r92 108 0).toInt = 0 := (by rw [(congrFun (zs_self er92) 0)]; decide); exact ⟨by omega, by omega, by omega, by omega⟩) hE (by have h8 : zI 0 1000 (r92 103 0) := pr92.1.i 103 0; have h9 : zI 0 1000 (r92 104 0) := pr92.1.i 104 0; have := h8.2; have := h9.1; omega) H locs ls hw hS (lv_sub hl [1] rfl)
      · have hE := zifF c95 hE
        have k103 : zI 97 2147483647 (r92 0 (zn (r92 104 0))) := zI.leD (zI.nlt c95) (zI.lit (a := 97) (b := 97) (c := 97) (by decide)) (zI.top _) (by decide)
        refine lv_iload_n hx hb dX12_nextToken_103 rfl (lv_at hl 0 rfl) ?_
        refine lv_bipush (v := 122) hx hb dX12_nextToken_104 (by decide) ?_
        refine lv_icmp_gt (tgt := 212) hx hb dX12_nextToken_106 (by decide) (fun c104 => ?_) (fun c104 => ?_)
        · have hE := zifT c104 hE
          have k105 : zI 123 2147483647 (r92 0 (zn (r92 104 0))) := zI.ltD c104 (zI.lit (a := 122) (b := 122) (c := 122) (by decide)) k103 (by decide)
          refine lv_iload_n hx hb dX12_nextToken_212 rfl (lv_at hl 0 rfl) ?_
          refine lv_bipush (v := 48) hx hb dX12_nextToken_213 (by decide) ?_
          refine lv_icmp_lt (tgt := 322) hx hb dX12_nextToken_215 (by decide) (fun c106 => ?_) (fun c106 => ?_)
          · have hE := zifT c106 hE
            exact zI.abs (a := 123) (b := 47) (zI.ltU c106 k105 (zI.lit (a := 48) (b := 48) (c := 48) (by decide)) (by decide)) (by decide)
          · have hE := zifF c106 hE
            refine lv_iload_n hx hb dX12_nextToken_218 rfl (lv_at hl 0 rfl) ?_
            refine lv_bipush (v := 57) hx hb dX12_nextToken_219 (by decide) ?_
            refine lv_icmp_gt (tgt := 322) hx hb dX12_nextToken_221 (by decide) (fun c107 => ?_) (fun c107 => ?_)
            · have hE := zifT c107 hE
              exact cut322 (r92 0 (zn (r92 104 0))) r92 q91 pr92.1 pr92.2 k94 (zs_in er92 (zI.lit (a := 0) (b := 0) (c := 0) (by decide))) (by have v103 : (r92 103 0).toInt = (rw52 103 0).toInt := (by rw [((congrFun (zs_row (k := 103) er92 (by decide)) 0).trans (congrFun (zs_row (k := 103) er90 (by decide)) 0))]); have v104 : (r92 104 0).toInt = (rw52 104 0).toInt := (by rw [((congrFun (zs_row (k := 104) er92 (by decide)) 0).trans (congrFun (zs_row (k := 104) er90 (by decide)) 0))]); have v105 : (r92 105 0).toInt = (rw52 104 0).toInt := (by rw [((congrFun (zs_row (k := 105) er92 (by decide)) 0).trans (congrFun (zs_self er90) 0))]); have := x52; have := ltI hlt; exact ⟨by omega, by omega, by omega⟩) hE H locs ls hw hS (lv_sub hl [1, 0] rfl)
            · have hE := zifF c107 hE
              exact zI.abs (a := 123) (b := 57) (zI.leU (zI.nlt c107) k105 (zI.lit (a := 57) (b := 57) (c := 57) (by decide)) (by decide)) (by decide)
        · have hE := zifF c104 hE
          have k108 : zI 97 122 (r92 0 (zn (r92 104 0))) := zI.leU (zI.nlt c104) k103 (zI.lit (a := 122) (b := 122) (c := 122) (by decide)) (by decide)
          exact cut109 1001 r92 q91 pr92.1 pr92.2 (zs_in er92 (zI.lit (a := 0) (b := 0) (c := 0) (by decide))) (by have v103 : (r92 103 0).toInt = (rw52 103 0).toInt := (by rw [((congrFun (zs_row (k := 103) er92 (by decide)) 0).trans (congrFun (zs_row (k := 103) er90 (by decide)) 0))]); have v104 : (r92 104 0).toInt = (rw52 104 0).toInt := (by rw [((congrFun (zs_row (k := 104) er92 (by decide)) 0).trans (congrFun (zs_row (k := 104) er90 (by decide)) 0))]); have v105 : (r92 105 0).toInt = (rw52 104 0).toInt := (by rw [((congrFun (zs_row (k := 105) er92 (by decide)) 0).trans (congrFun (zs_self er90) 0))]); have := x52; exact ⟨by omega, by omega, by omega, Or.inr (by rw [msg_in hlt]; exact k108)⟩) hE (by have h8 : zI 0 1000 (r92 103 0) := pr92.1.i 103 0; have h9 : zI 0 1000 (r92 104 0) := pr92.1.i 104 0; have := h8.2; have := h9.1; omega) H locs ls hw hS (lv_sub hl [1] rfl)
    · have hE := zifnF c93 hE
      refine lv_aload_n hx hb dX12_nextToken_81 rfl (lv_at hl 0 rfl) ?_
      refine lv_iconst (v := 0) hx hb dX12_nextToken_82 (by decide) ?_
      refine mput (ty := .int) (v := .int 0) hx hb hts hiX12 hown hK hw hS 6 (by decide) lf154 rfl rfl (by decide +kernel) rfl rfl dX12_nextToken_83 (zset r92 106 (fun _ => (0 : Int32))) _ mWf6 (fun H locs hw hS => ?_)
      refine mgen (P := fun x => mJ B x ∧ zFr [104, 105, 106, 108] r x) hw ⟨pr92.1.setc rfl (fun _ => ((zI.lit (a := 0) (b := 0) (c := 0) (by decide)).w (c := 0) (d := 4) (by decide))), pr92.2.set rfl⟩ (fun r109 er109 hw pr109 => ?_)
      have hE := zletE er109 hE
      exact zvretQ hQ hx hb hr hlocks (r109, q91) rfl ⟨pr109.1, pr109.2, (show mP r109 from (by have v103 : (r109 103 0).toInt = (rw52 103 0).toInt := (by rw [((congrFun (zs_row (k := 103) er109 (by decide)) 0).trans ((congrFun (zs_row (k := 103) er92 (by decide)) 0).trans (congrFun (zs_row (k := 103) er90 (by decide)) 0)))]); have v104 : (r109 104 0).toInt = (rw52 104 0).toInt := (by rw [((congrFun (zs_row (k := 104) er109 (by decide)) 0).trans ((congrFun (zs_row (k := 104) er92 (by decide)) 0).trans (congrFun (zs_row (k := 104) er90 (by decide)) 0)))]); have v105 : (r109 105 0).toInt = (rw52 104 0).toInt := (by rw [((congrFun (zs_row (k := 105) er109 (by decide)) 0).trans ((congrFun (zs_row (k := 105) er92 (by decide)) 0).trans (congrFun (zs_self er90) 0)))]); have := x52; exact ⟨by omega, by omega, Or.inl (congrFun (zs_self er109) 0)⟩)), (show (r 104 0).toInt ≤ (r109 105 0).toInt from (by have v104 : (r109 104 0).toInt = (rw52 104 0).toInt := (by rw [((congrFun (zs_row (k := 104) er109 (by decide)) 0).trans ((congrFun (zs_row (k := 104) er92 (by decide)) 0).trans (congrFun (zs_row (k := 104) er90 (by decide)) 0)))]); have v105 : (r109 105 0).toInt = (rw52 104 0).toInt := (by rw [((congrFun (zs_row (k := 105) er109 (by decide)) 0).trans ((congrFun (zs_row (k := 105) er92 (by decide)) 0).trans (congrFun (zs_self er90) 0)))]); have := x52; omega)), (hE.symm.trans hX), trivial⟩ hw hS dX12_nextToken_86
  have cut0 : ∀ (n0 : Nat) (rw0 : zRr) (jw0 : mJ B rw0) (fw0 : zFr [104, 105, 106, 108] r rw0) (x0 : (r 104 0).toInt ≤ (rw0 104 0).toInt ∧ (rw0 104 0).toInt ≤ (rw0 103 0).toInt) (hE : X = Gm_nextToken_0 q n0 rw0), (rw0 103 0).toInt - (rw0 104 0).toInt < (n0 : Int) → zKf p l e ({ frames := 2, cells := 0, slots := 0, locals := 120 }) s m a9 below meth c Q D A 0 2 [] (mW ct h0 y rw0 q) [(0, .ref h0)] := by
    intro n0
    induction n0 with
    | zero => intro rw0 jw0 fw0 x0 hE hm0; exact absurd hm0 (by have h9 := x0; omega)
    | succ n0 ih0 =>
      intro rw0 jw0 fw0 x0 hE hm0
      have hE : X = Bm_nextToken_0 q (Gm_nextToken_0 q n0) rw0 := hE
      unfold Bm_nextToken_0 at hE
      intro H locs ls hw hS hl
      refine lv_aload_n hx hb dX12_nextToken_0 rfl (lv_at hl 0 rfl) ?_
      refine mget (v := .int (rw0 104 0)) hx hb hts hiX12 hown hK hw 4 (by decide) lf141 rfl rfl dX12_nextToken_1 ?_
      refine lv_aload_n hx hb dX12_nextToken_4 rfl (lv_at hl 0 rfl) ?_
      refine mget (v := .int (rw0 103 0)) hx hb hts hiX12 hown hK hw 3 (by decide) lf138 rfl rfl dX12_nextToken_5 ?_
      refine lv_icmp_ge (tgt := 52) hx hb dX12_nextToken_8 (by decide) (fun c110 => ?_) (fun c110 => ?_)
      · have hE := zifT c110 hE
        exact cut52 rw0 jw0 fw0 (x0) hE H locs ls hw hS (lv_sub hl [0] rfl)
      · have hE := zifF c110 hE
        have k111 : zI 0 999 (rw0 104 0) := zI.ltU (zI.nle c110) (show zI 0 1000 (rw0 104 0) from jw0.i 104 0) (show zI 0 1000 (rw0 103 0) from jw0.i 103 0) (by decide)
        have k112 : zI 1 1000 (rw0 103 0) := zI.ltD (zI.nle c110) (show zI 0 1000 (rw0 104 0) from jw0.i 104 0) (show zI 0 1000 (rw0 103 0) from jw0.i 103 0) (by decide)
        refine lv_aload_n hx hb dX12_nextToken_11 rfl (lv_at hl 0 rfl) ?_
        refine mget (v := .ref (y 0)) hx hb hts hiX12 hown hK hw 2 (by decide) lf7 rfl rfl dX12_nextToken_12 ?_
        refine lv_aload_n hx hb dX12_nextToken_15 rfl (lv_at hl 0 rfl) ?_
        refine mget (v := .int (rw0 104 0)) hx hb hts hiX12 hown hK hw 4 (by decide) lf141 rfl rfl dX12_nextToken_16 ?_
        refine miald hx hb hK hw 1 mWg0 k111 (by decide) dX12_nextToken_19 (zgenE (zI.top _) (fun v113 ev113 _ => ?_))
        have hE := zletE ev113 hE
        refine lv_bipush (v := 32) hx hb dX12_nextToken_20 (by decide) ?_
        refine lv_icmp_eq (tgt := 39) hx hb dX12_nextToken_22 (by decide) (fun c114 => ?_) (fun c114 => ?_)
        · have hE := zifT c114 hE
          have k115 : zI 32 32 (v113) := zI.eqq c114 (zI.lit (a := 32) (b := 32) (c := 32) (by decide))
          refine lv_aload_n hx hb dX12_nextToken_39 rfl (lv_at hl 0 rfl) ?_
          refine lv_dup hx hb dX12_nextToken_40 rfl ?_
          refine mget (v := .int (rw0 104 0)) hx hb hts hiX12 hown hK hw 4 (by decide) lf141 rfl rfl dX12_nextToken_41 ?_
          refine lv_iconst (v := 1) hx hb dX12_nextToken_44 (by decide) ?_
          refine lv_iadd hx hb dX12_nextToken_45 ?_
          have k116 : zI 1 1000 ((rw0 104 0) + 1) := zI.add k111 (zI.lit (a := 1) (b := 1) (c := 1) (by decide)) (by decide)
          refine mput (ty := .int) (v := .int ((rw0 104 0) + 1)) hx hb hts hiX12 hown hK hw hS 4 (by decide) lf141 rfl rfl (by decide +kernel) rfl rfl dX12_nextToken_46 (zset rw0 104 (fun _ => (rw0 104 0) + 1)) _ mWf4 (fun H locs hw hS => ?_)
          refine mgen (P := fun x => mJ B x ∧ zFr [104, 105, 106, 108] r x) hw ⟨jw0.setc rfl (fun _ => (k116.w (c := 0) (d := 1000) (by decide))), fw0.set rfl⟩ (fun r117 er117 hw pr117 => ?_)
          have hE := zletE er117 hE
          refine lv_goto (tgt := 0) hx hb dX12_nextToken_49 (by decide) ?_
          exact ih0 r117 pr117.1 pr117.2 (by have v103 : (r117 103 0).toInt = (rw0 103 0).toInt := (by rw [(congrFun (zs_row (k := 103) er117 (by decide)) 0)]); have v104 : (r117 104 0).toInt = (rw0 104 0).toInt + 1 := (by rw [(congrFun (zs_self er117) 0)]; exact i32_s k111 (by decide)); have := ltI (zI.nle c110); have := x0; exact ⟨by omega, by omega⟩) hE (by have v103 : (r117 103 0).toInt = (rw0 103 0).toInt := (by rw [(congrFun (zs_row (k := 103) er117 (by decide)) 0)]); have v104 : (r117 104 0).toInt = (rw0 104 0).toInt + 1 := (by rw [(congrFun (zs_self er117) 0)]; exact i32_s k111 (by decide)); omega) H locs ls hw hS (lv_sub hl [0] rfl)
        · have hE := zifF c114 hE
          refine lv_aload_n hx hb dX12_nextToken_25 rfl (lv_at hl 0 rfl) ?_
          refine mget (v := .ref (y 0)) hx hb hts hiX12 hown hK hw 2 (by decide) lf7 rfl rfl dX12_nextToken_26 ?_
          refine lv_aload_n hx hb dX12_nextToken_29 rfl (lv_at hl 0 rfl) ?_
          refine mget (v := .int (rw0 104 0)) hx hb hts hiX12 hown hK hw 4 (by decide) lf141 rfl rfl dX12_nextToken_30 ?_
          refine miald hx hb hK hw 1 mWg0 k111 (by decide) dX12_nextToken_33 (zgenE (zI.top _) (fun v118 ev118 _ => ?_))
          have hE := zletE ev118 hE
          refine lv_bipush (v := 10) hx hb dX12_nextToken_34 (by decide) ?_
          refine lv_icmp_ne (tgt := 52) hx hb dX12_nextToken_36 (by decide) (fun c119 => ?_) (fun c119 => ?_)
          · have hE := zifnT c119 hE
            exact cut52 rw0 jw0 fw0 (x0) hE H locs ls hw hS (lv_sub hl [0] rfl)
          · have hE := zifnF c119 hE
            have k120 : zI 10 10 (v118) := zI.eqq c119 (zI.lit (a := 10) (b := 10) (c := 10) (by decide))
            refine lv_aload_n hx hb dX12_nextToken_39 rfl (lv_at hl 0 rfl) ?_
            refine lv_dup hx hb dX12_nextToken_40 rfl ?_
            refine mget (v := .int (rw0 104 0)) hx hb hts hiX12 hown hK hw 4 (by decide) lf141 rfl rfl dX12_nextToken_41 ?_
            refine lv_iconst (v := 1) hx hb dX12_nextToken_44 (by decide) ?_
            refine lv_iadd hx hb dX12_nextToken_45 ?_
            have k121 : zI 1 1000 ((rw0 104 0) + 1) := zI.add k111 (zI.lit (a := 1) (b := 1) (c := 1) (by decide)) (by decide)
            refine mput (ty := .int) (v := .int ((rw0 104 0) + 1)) hx hb hts hiX12 hown hK hw hS 4 (by decide) lf141 rfl rfl (by decide +kernel) rfl rfl dX12_nextToken_46 (zset rw0 104 (fun _ => (rw0 104 0) + 1)) _ mWf4 (fun H locs hw hS => ?_)
            refine mgen (P := fun x => mJ B x ∧ zFr [104, 105, 106, 108] r x) hw ⟨jw0.setc rfl (fun _ => (k121.w (c := 0) (d := 1000) (by decide))), fw0.set rfl⟩ (fun r122 er122 hw pr122 => ?_)
            have hE := zletE er122 hE
            refine lv_goto (tgt := 0) hx hb dX12_nextToken_49 (by decide) ?_
            exact ih0 r122 pr122.1 pr122.2 (by have v103 : (r122 103 0).toInt = (rw0 103 0).toInt := (by rw [(congrFun (zs_row (k := 103) er122 (by decide)) 0)]); have v104 : (r122 104 0).toInt = (rw0 104 0).toInt + 1 := (by rw [(congrFun (zs_self er122) 0)]; exact i32_s k111 (by decide)); have := ltI (zI.nle c110); have := x0; exact ⟨by omega, by omega⟩) hE (by have v103 : (r122 103 0).toInt = (rw0 103 0).toInt := (by rw [(congrFun (zs_row (k := 103) er122 (by decide)) 0)]); have v104 : (r122 104 0).toInt = (rw0 104 0).toInt + 1 := (by rw [(congrFun (zs_self er122) 0)]; exact i32_s k111 (by decide)); omega) H locs ls hw hS (lv_sub hl [0] rfl)
  intro H locs hw hS ls hl
  have hl : lv_has ls 2 [(0, .ref h0)] := hl
  have hE := hX
  unfold Gm_nextToken at hE
  exact cut0 1001 r hJ0 (zFr.refl) (⟨Int.le_refl _, x1⟩) hE (by have h8 : zI 0 1000 (r 103 0) := hJ0.i 103 0; have h9 : zI 0 1000 (r 104 0) := hJ0.i 104 0; have := h8.2; have := h9.1; omega) H locs ls hw hS (lv_sub hl [0] rfl)
