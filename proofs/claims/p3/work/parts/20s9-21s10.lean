set_option maxHeartbeats 4000000 in
set_option maxRecDepth 100000 in
theorem mc_reads (l : Launch) (D : va_G) (ct : Nat → ClassId) (h0 : Nat) (y : Nat → Nat) (B : Int) (r : zRr) (q : zRq) (hJ0 : mJ B r) (x1 : mP r) (x2 : mC r) : zC l yX12_reads (.code yX12_reads cX12_reads 6 (some .boolean) :: wsL_law0) ({ frames := 3, cells := 0, slots := 0, locals := 160 }) D ct [] [.ref h0] (mW ct h0 y r q) (S := Int32 × zRr × zRq) (fun u => some (.int u.1)) (fun u => zI 0 1 u.1 ∧ mJ B u.2.1 ∧ zFr [104, 105, 106, 108, 109, 12, 122, 13, 14] r u.2.1 ∧ (mP u.2.1) ∧ ((r 105 0).toInt ≤ (u.2.1 105 0).toInt) ∧ (mC u.2.1) ∧ (¬ u.1 = 0 → mDf (u.2.1 12) (zn (r 122 0)) (zn (u.2.1 122 0))) ∧ u = (Gm_reads r q) ∧ True) (fun u => mW ct h0 y u.2.1 u.2.2) 0 0 := by
  refine zofQ cX12_reads 6 (some .boolean) (by decide) rfl (Nat.le_of_ble_eq_true rfl) ?_
  intro p e s m below meth c A a9 Q ha9 hx hb hr hml hts hown hlocks hname hK hA hZ hN hQ
  have hown : s.vm.findClass RX12 = some m.cls := hown
  have hiX12 : ∀ w ∈ wsX120, w ∈ .code yX12_reads cX12_reads 6 (some .boolean) :: wsL_law0 := fun _ h => ki (zs_wsX120 _ h)
  have lf50 := hts (.fieldLink RX12 50 "BeardPassModel" "opened" "[I") (ki (zr8 8 rfl))
  have lf53 := hts (.fieldLink RX12 53 "BeardPassModel" "compared" "[Z") (ki (zr8 10 rfl))
  have lf151 := hts (.fieldLink RX12 151 "BeardPassModel" "told" "I") (ki (zr22 19 rfl))
  have lf154 := hts (.fieldLink RX12 154 "BeardPassModel" "token" "I") (ki (zr22 0 rfl))
  obtain ⟨X, hX⟩ : ∃ X, X = (Gm_reads r q) := ⟨_, rfl⟩
  have cut11 : ∀ (n11 : Nat) (w11_1 : Int32) (w11_2 : Int32) (rw11 : zRr) (qw11 : zRq) (hw11_1 : zI 0 5 w11_1) (hw11_2 : zI 0 1 w11_2) (jw11 : mJ B rw11) (fw11 : zFr [104, 105, 106, 108, 109, 12, 122, 13, 14] r rw11) (xp11 : mP rw11) (xm11 : (r 105 0).toInt ≤ (rw11 105 0).toInt) (xc11 : mC rw11) (xx11 : mX (zn (r 122 0)) rw11 w11_1) (hE : X = Gm_reads_11 n11 w11_1 w11_2 rw11 qw11), 1001 - (rw11 105 0).toInt < (n11 : Int) → zKf p l e ({ frames := 3, cells := 0, slots := 0, locals := 160 }) s m a9 below meth c Q D A 11 6 [] (mW ct h0 y rw11 qw11) [(0, .ref h0), (1, .int w11_1), (2, .int w11_2)] := by
    intro n11
    induction n11 with
    | zero => intro w11_1 w11_2 rw11 qw11 hw11_1 hw11_2 jw11 fw11 xp11 xm11 xc11 xx11 hE hm11; exact absurd hm11 (by have h9 : zI 0 1000 (rw11 105 0) := jw11.i 105 0; have := h9.2; omega)
    | succ n11 ih11 =>
      intro w11_1 w11_2 rw11 qw11 hw11_1 hw11_2 jw11 fw11 xp11 xm11 xc11 xx11 hE hm11
      have hE : X = Bm_reads_11 (Gm_reads_11 n11) w11_1 w11_2 rw11 qw11 := hE
      unfold Bm_reads_11 at hE
      have cut424 : ∀ (w424_1 : Int32) (w424_2 : Int32) (rw424 : zRr) (hw424_1 : zI 0 5 w424_1) (hw424_2 : zI 0 1 w424_2) (jw424 : mJ B rw424) (fw424 : zFr [104, 105, 106, 108, 109, 12, 122, 13, 14] r rw424) (mw424_106_0 : zI 1 3 (rw424 106 0)) (xp424 : mP rw424) (xa424 : (rw11 105 0).toInt < (rw424 104 0).toInt) (xc424 : 1000 ≤ (rw424 122 0).toInt ∧ (rw424 122 0).toInt ≤ 1000 + (rw424 104 0).toInt) (xx424 : mX (zn (r 122 0)) rw424 w424_1) (hE : X = Gm_reads_424 qw11 (Gm_reads_11 n11) w424_1 w424_2 rw424), zKf p l e ({ frames := 3, cells := 0, slots := 0, locals := 160 }) s m a9 below meth c Q D A 424 6 [] (mW ct h0 y rw424 qw11) [(0, .ref h0), (1, .int w424_1), (2, .int w424_2)] := by
        intro w424_1 w424_2 rw424 hw424_1 hw424_2 jw424 fw424 mw424_106_0 xp424 xa424 xc424 xx424 hE H locs ls hw hS hl
        unfold Gm_reads_424 at hE
        refine lv_aload_n hx hb dX12_reads_424 rfl (lv_at hl 0 rfl) ?_
        refine mcallV (As := []) (rest := []) ⟨hx, hb, hml, hown, hts⟩ (mc_nextToken l D ct h0 y B rw424 qw11 jw424 ((xp424).2.1)) (wqX12_200_mc_nextToken hts ⟨Nat.le_of_ble_eq_true rfl, Nat.le_of_ble_eq_true rfl⟩) hw hS hA hK hN rfl hl.1 rfl (Nat.le_of_ble_eq_true rfl) dX12_reads_425 428 rfl (fun u1 H locs pu1 hw hS => ?_)
        obtain ⟨r2, q3⟩ := u1
        have ju1 : mJ B r2 := pu1.1
        have fu1 : zFr [104, 105, 106, 108] rw424 r2 := pu1.2.1
        have yu1_0 : mP r2 := pu1.2.2.1
        have yu1_1 : (rw424 104 0).toInt ≤ (r2 105 0).toInt := pu1.2.2.2.1
        have xu1 : (r2, q3) = (Gm_nextToken rw424 qw11) := pu1.2.2.2.2.1
        have hE := zc_rqE xu1 hE
        have hw : zPD D A (mW ct h0 y r2 q3) H := hw
        refine zfr 428 [] rfl rfl ?_
        refine lv_goto (tgt := 11) hx hb dX12_reads_428 (by decide) ?_
        exact ih11 w424_1 w424_2 r2 q3 hw424_1 hw424_2 ju1 (fw424.tr fu1 rfl) (yu1_0) (by have := xm11; have := xa424; have := yu1_1; omega) (by have e9 := congrArg Int32.toInt (congrFun (fu1 122 rfl) 0); have := xc424; have := yu1_1; exact ⟨by omega, by omega⟩) (xx424.row (fu1 12 rfl) (fu1 122 rfl) (fu1 13 rfl)) hE (by have := xa424; have := yu1_1; omega) H locs ls hw hS (lv_sub hl [0, 1, 2] rfl)
      have cut418 : ∀ (hE : X = Gm_reads_418 rw11 qw11 ), zKf p l e ({ frames := 3, cells := 0, slots := 0, locals := 160 }) s m a9 below meth c Q D A 418 6 [] (mW ct h0 y rw11 qw11) [(0, .ref h0)] := by
        intro hE H locs ls hw hS hl
        unfold Gm_reads_418 at hE
        refine lv_aload_n hx hb dX12_reads_418 rfl (lv_at hl 0 rfl) ?_
        refine lv_iconst (v := 1) hx hb dX12_reads_419 (by decide) ?_
        refine mcallV (As := [.int 1]) (rest := []) ⟨hx, hb, hml, hown, hts⟩ (mc_fails l D ct h0 y B 1 rw11 qw11 ((zI.lit (a := 1) (b := 1) (c := 1) (by decide)).w (c := 1) (d := 5) (by decide)) jw11) (wqX12_193_mc_fails hts ⟨Nat.le_of_ble_eq_true rfl, Nat.le_of_ble_eq_true rfl⟩) hw hS hA hK hN rfl hl.1 rfl (Nat.le_of_ble_eq_true rfl) dX12_reads_420 423 rfl (fun u4 H locs pu4 hw hS => ?_)
        obtain ⟨v5, r6⟩ := u4
        have hv5 : zI 0 0 v5 := pu4.1
        have ju4 : mJ B r6 := pu4.2.1
        have fu4 : zFr [109] rw11 r6 := pu4.2.2.1
        have xu4 : (v5, r6) = (Gm_fails (1 : Int32) rw11 qw11) := pu4.2.2.2.1
        have hE := zc_vrE xu4 hE
        have hw : zPD D A (mW ct h0 y r6 qw11) H := hw
        refine zfr 423 [.int v5] rfl rfl ?_
        exact ziretQ hQ hx hb hr ((hv5.w (c := 0) (d := 1) (by decide)).rn) hlocks (v5, r6, qw11) rfl ⟨(hv5.w (c := 0) (d := 1) (by decide)), ju4, (fw11.tr fu4 rfl), (show mP r6 from (mP.fr xp11 (fu4 103 rfl) (fu4 104 rfl) (fu4 105 rfl) (fu4 106 rfl))), (show (r 105 0).toInt ≤ (r6 105 0).toInt from (by have := xm11; have := congrArg Int32.toInt (congrFun (fu4 105 rfl) 0); omega)), (show mC r6 from (xc11.row (fu4 122 rfl) (fu4 105 rfl))), (fun h => absurd (zI.eq0 hv5) h), (hE.symm.trans hX), trivial⟩ hw hS dX12_reads_423
      have cut399 : ∀ (hw399_1 : zI 0 5 w11_1) (hE : X = Gm_reads_399 w11_1 rw11 qw11 ), zKf p l e ({ frames := 3, cells := 0, slots := 0, locals := 160 }) s m a9 below meth c Q D A 399 6 [] (mW ct h0 y rw11 qw11) [(0, .ref h0), (1, .int w11_1)] := by
        intro hw399_1 hE H locs ls hw hS hl
        unfold Gm_reads_399 at hE
        refine lv_iload_n hx hb dX12_reads_399 rfl (lv_at hl 1 rfl) ?_
        refine lv_if_ne (tgt := 418) hx hb dX12_reads_400 (by decide) (fun c7 => ?_) (fun c7 => ?_)
        · have hE := zifnT c7 hE
          have k8 : zI 1 5 (w11_1) := zI.neD c7 hw399_1 (zI.lit (a := 0) (b := 0) (c := 0) (by decide)) (by decide)
          exact cut418 hE H locs ls hw hS (lv_sub hl [0] rfl)
        · have hE := zifnF c7 hE
          have k9 : zI 0 0 (w11_1) := zI.eqq c7 (zI.lit (a := 0) (b := 0) (c := 0) (by decide))
          refine lv_aload_n hx hb dX12_reads_403 rfl (lv_at hl 0 rfl) ?_
          refine lv_bipush (v := 59) hx hb dX12_reads_404 (by decide) ?_
          refine mcallV (As := [.int 59]) (rest := []) ⟨hx, hb, hml, hown, hts⟩ (mc_isSign l D ct h0 y B 59 rw11 qw11 jw11 (xp11)) (wqX12_189_mc_isSign hts ⟨Nat.le_of_ble_eq_true rfl, Nat.le_of_ble_eq_true rfl⟩) hw hS hA hK hN rfl hl.1 rfl (Nat.le_of_ble_eq_true rfl) dX12_reads_406 409 rfl (fun u10 H locs pu10 hw hS => ?_)
          have hu10 : zI 0 1 u10 := pu10.1
          have yu10_0 : ¬ u10 = 0 → zI 3 3 (rw11 106 0) := pu10.2.1
          have xu10 : u10 = (Gm_isSign (59 : Int32) rw11 qw11) := pu10.2.2.1
          have hE := zletE xu10 hE
          have hw : zPD D A (mW ct h0 y rw11 qw11) H := hw
          refine zfr 409 [.int u10] rfl rfl ?_
          refine lv_if_eq (tgt := 418) hx hb dX12_reads_409 (by decide) (fun c12 => ?_) (fun c12 => ?_)
          · have hE := zifT c12 hE
            have k13 : zI 0 0 (u10) := zI.eqq c12 (zI.lit (a := 0) (b := 0) (c := 0) (by decide))
            exact cut418 hE H locs ls hw hS (lv_sub hl [0] rfl)
          · have hE := zifF c12 hE
            have k14 : zI 1 1 (u10) := zI.neD c12 hu10 (zI.lit (a := 0) (b := 0) (c := 0) (by decide)) (by decide)
            refine lv_aload_n hx hb dX12_reads_412 rfl (lv_at hl 0 rfl) ?_
            refine mcallV (As := []) (rest := []) ⟨hx, hb, hml, hown, hts⟩ (mc_nextToken l D ct h0 y B rw11 qw11 jw11 ((xp11).2.1)) (wqX12_200_mc_nextToken hts ⟨Nat.le_of_ble_eq_true rfl, Nat.le_of_ble_eq_true rfl⟩) hw hS hA hK hN rfl hl.1 rfl (Nat.le_of_ble_eq_true rfl) dX12_reads_413 416 rfl (fun u15 H locs pu15 hw hS => ?_)
            obtain ⟨r16, q17⟩ := u15
            have ju15 : mJ B r16 := pu15.1
            have fu15 : zFr [104, 105, 106, 108] rw11 r16 := pu15.2.1
            have yu15_0 : mP r16 := pu15.2.2.1
            have yu15_1 : (rw11 104 0).toInt ≤ (r16 105 0).toInt := pu15.2.2.2.1
            have xu15 : (r16, q17) = (Gm_nextToken rw11 qw11) := pu15.2.2.2.2.1
            have hE := zc_rqE xu15 hE
            have hw : zPD D A (mW ct h0 y r16 q17) H := hw
            refine zfr 416 [] rfl rfl ?_
            refine lv_iconst (v := 1) hx hb dX12_reads_416 (by decide) ?_
            exact ziretQ hQ hx hb hr rfl hlocks (1, r16, q17) rfl ⟨((zI.lit (a := 1) (b := 1) (c := 1) (by decide)).w (c := 0) (d := 1) (by decide)), ju15, (fw11.tr fu15 rfl), (show mP r16 from yu15_0), (show (r 105 0).toInt ≤ (r16 105 0).toInt from (by have := xm11; have := yu15_1; have := (xp11).1; omega)), (show mC r16 from (xc11.up (fu15 122 rfl) (by have := yu15_1; have := xp11.1; omega))), (show ¬ (1 : Int32) = 0 → mDf (r16 12) (zn (r 122 0)) (zn (r16 122 0)) from (fun _ => (xx11.row (fu15 12 rfl) (fu15 122 rfl) (fu15 13 rfl)).1.2)), (hE.symm.trans hX), trivial⟩ hw hS dX12_reads_417
      have cut379 : ∀ (n379 : Nat) (w379_1 : Int32) (rw379 : zRr) (hw379_1 : zI 0 4 w379_1) (hw379_2 : zI 0 0 w11_2) (jw379 : mJ B rw379) (fw379 : zFr [104, 105, 106, 108, 109, 12, 122, 13, 14] r rw379) (mw379_106_0 : zI 3 3 (rw379 106 0)) (xp379 : mP rw379) (xa379 : (rw11 105 0).toInt < (rw379 104 0).toInt) (xc379 : 1000 ≤ (rw379 122 0).toInt ∧ (rw379 122 0).toInt ≤ 1000 + (rw379 104 0).toInt) (xx379 : mY (zn (r 122 0)) rw379 w379_1) (hE : X = Gm_reads_379 w11_2 qw11 (Gm_reads_11 n11) n379 w379_1 rw379), w379_1.toInt - 0 < (n379 : Int) → zKf p l e ({ frames := 3, cells := 0, slots := 0, locals := 160 }) s m a9 below meth c Q D A 379 6 [] (mW ct h0 y rw379 qw11) [(0, .ref h0), (1, .int w379_1), (2, .int w11_2)] := by
        intro n379
        induction n379 with
        | zero => intro w379_1 rw379 hw379_1 hw379_2 jw379 fw379 mw379_106_0 xp379 xa379 xc379 xx379 hE hm379; exact zI.no1 hw379_1 (by decide) hm379
        | succ n379 ih379 =>
          intro w379_1 rw379 hw379_1 hw379_2 jw379 fw379 mw379_106_0 xp379 xa379 xc379 xx379 hE hm379
          have hE : X = Bm_reads_379 w11_2 qw11 (Gm_reads_11 n11) (Gm_reads_379 w11_2 qw11 (Gm_reads_11 n11) n379) w379_1 rw379 := hE
          unfold Bm_reads_379 at hE
          intro H locs ls hw hS hl
          refine lv_iload_n hx hb dX12_reads_379 rfl (lv_at hl 1 rfl) ?_
          refine lv_if_le (tgt := 424) hx hb dX12_reads_380 (by decide) (fun c18 => ?_) (fun c18 => ?_)
          · have hE := zifT c18 hE
            have k19 : zI 0 0 (w379_1) := zI.leU c18 hw379_1 (zI.lit (a := 0) (b := 0) (c := 0) (by decide)) (by decide)
            exact cut424 w379_1 w11_2 rw379 (k19.w (c := 0) (d := 5) (by decide)) (hw379_2.w (c := 0) (d := 1) (by decide)) jw379 fw379 (mw379_106_0.w (c := 1) (d := 3) (by decide)) (xp379) (xa379) (xc379) (xx379.exit0 c18) hE H locs ls hw hS (lv_sub hl [0, 1, 2] rfl)
          · have hE := zifF c18 hE
            have k20 : zI 1 4 (w379_1) := zI.ltD (zI.nle c18) (zI.lit (a := 0) (b := 0) (c := 0) (by decide)) hw379_1 (by decide)
            refine lv_aload_n hx hb dX12_reads_383 rfl (lv_at hl 0 rfl) ?_
            refine mget (v := .ref (y 13)) hx hb hts hiX12 hown hK hw 24 (by decide) lf50 rfl rfl dX12_reads_384 ?_
            refine lv_iload_n hx hb dX12_reads_387 rfl (lv_at hl 1 rfl) ?_
            refine miald hx hb hK hw 14 mWg13 k20 (by decide) dX12_reads_388 ?_
            refine lv_iconst (v := 1) hx hb dX12_reads_389 (by decide) ?_
            refine lv_icmp_ne (tgt := 424) hx hb dX12_reads_390 (by decide) (fun c21 => ?_) (fun c21 => ?_)
            · have hE := zifnT c21 hE
              exact cut424 w379_1 w11_2 rw379 (k20.w (c := 0) (d := 5) (by decide)) (hw379_2.w (c := 0) (d := 1) (by decide)) jw379 fw379 (mw379_106_0.w (c := 1) (d := 3) (by decide)) (xp379) (xa379) (xc379) (xx379.exit1 c21) hE H locs ls hw hS (lv_sub hl [0, 1, 2] rfl)
            · have hE := zifnF c21 hE
              have k22 : zI 1 1 (rw379 13 (zn w379_1)) := zI.eqq c21 (zI.lit (a := 1) (b := 1) (c := 1) (by decide))
              refine lv_iinc (v := w379_1 + (-1)) (lv' := [(1, .int (w379_1 + (-1))), (0, .ref h0), (2, .int w11_2)]) hx hb dX12_reads_393 hl (k := 1) rfl (rfl) (by decide) rfl (fun ls hl => ?_)
              have k23 : zI 0 3 (w379_1 + (-1)) := zI.add k20 (zI.lit (a := (-1)) (b := (-1)) (by decide)) (by decide)
              refine lv_goto (tgt := 379) hx hb dX12_reads_396 (by decide) ?_
              exact ih379 (w379_1 + (-1)) rw379 (k23.w (c := 0) (d := 4) (by decide)) hw379_2 jw379 fw379 mw379_106_0 (xp379) (xa379) (xc379) (xx379.back (zI.nle c18) c21) hE (zI.down k20 (by decide) hm379) H locs ls hw hS (lv_sub hl [1, 0, 2] rfl)
      have cut324 : ∀ (hw324_1 : zI 0 5 w11_1) (mw324_106_0 : zI 1 1 (rw11 106 0)) (hE : X = Gm_reads_324 w11_1 rw11 qw11 (Gm_reads_11 n11) ), zKf p l e ({ frames := 3, cells := 0, slots := 0, locals := 160 }) s m a9 below meth c Q D A 324 6 [] (mW ct h0 y rw11 qw11) [(0, .ref h0), (1, .int w11_1)] := by
        intro hw324_1 mw324_106_0 hE H locs ls hw hS hl
        unfold Gm_reads_324 at hE
        refine lv_aload_n hx hb dX12_reads_324 rfl (lv_at hl 0 rfl) ?_
        refine lv_aload_n hx hb dX12_reads_325 rfl (lv_at hl 0 rfl) ?_
        refine lv_ldc2 hx hb hown (hts (.constantLong RX12 203 1111) (ki (zr24 13 rfl))) dX12_reads_326 ?_
        refine mcallV (As := [.long 1111]) (rest := [.ref h0]) ⟨hx, hb, hml, hown, hts⟩ (mc_isWord l D ct h0 y B 1111 rw11 qw11 jw11) (wqX12_185_mc_isWord hts ⟨Nat.le_of_ble_eq_true rfl, Nat.le_of_ble_eq_true rfl⟩) hw hS hA hK hN rfl hl.1 rfl (Nat.le_of_ble_eq_true rfl) dX12_reads_329 332 rfl (fun u24 H locs pu24 hw hS => ?_)
        have hu24 : zI 0 1 u24 := pu24.1
        have yu24_0 : ¬ u24 = 0 → zI 1 1 (rw11 106 0) := pu24.2.1
        have xu24 : u24 = (Gm_isWord (1111 : Int64) rw11 qw11) := pu24.2.2.1
        have hE := zletE xu24 hE
        have hw : zPD D A (mW ct h0 y rw11 qw11) H := hw
        refine zfr 332 [.int u24, .ref h0] rfl rfl ?_
        refine lv_if_eq (tgt := 340) hx hb dX12_reads_332 (by decide) (fun c26 => ?_) (fun c26 => ?_)
        · have hE := zifT c26 hE
          have k27 : zI 0 0 (u24) := zI.eqq c26 (zI.lit (a := 0) (b := 0) (c := 0) (by decide))
          refine lv_bipush (v := 27) hx hb dX12_reads_340 (by decide) ?_
          refine mcallV (As := [.int 27]) (rest := []) ⟨hx, hb, hml, hown, hts⟩ (mc_puts l D ct h0 y B 27 rw11 qw11 jw11 (mC.k xc11 (xp11.b jw11.i (tkne mw324_106_0 (by decide))))) (wqX12_196_mc_puts hts ⟨Nat.le_of_ble_eq_true rfl, Nat.le_of_ble_eq_true rfl⟩) hw hS hA hK hN rfl hl.1 rfl (Nat.le_of_ble_eq_true rfl) dX12_reads_342 345 rfl (fun u28 H locs pu28 hw hS => ?_)
          have ju28 : mJ B u28 := pu28.1
          have fu28 : zFr [12, 122] rw11 u28 := pu28.2.1
          have yu28_0 : u28 12 = upd (rw11 12) (zn (rw11 122 0)) (27 : Int32) := pu28.2.2.1
          have yu28_1 : u28 122 0 = rw11 122 0 + 1 := pu28.2.2.2.1
          have xu28 : u28 = (Gm_puts (27 : Int32) rw11 qw11) := pu28.2.2.2.2.1
          have hE := zletE xu28 hE
          have hw : zPD D A (mW ct h0 y u28 qw11) H := hw
          refine zfr 345 [] rfl rfl ?_
          refine lv_aload_n hx hb dX12_reads_345 rfl (lv_at hl 0 rfl) ?_
          refine mget (v := .ref (y 14)) hx hb hts hiX12 hown hK hw 25 (by decide) lf53 rfl rfl dX12_reads_346 ?_
          refine lv_iload_n hx hb dX12_reads_349 rfl (lv_at hl 1 rfl) ?_
          refine lv_iconst (v := 0) hx hb dX12_reads_350 (by decide) ?_
          refine mzast hx hb hK hw hS 15 mWg14 hw324_1 (by decide)  ((zI.lit (a := 0) (b := 0) (c := 0) (by decide)).w (c := 0) (d := 1) (by decide)) dX12_reads_351 (mW ct h0 y (zset u28 14 (upd (u28 14) (zn w11_1) (0 : Int32))) qw11) mWs14 (fun H locs hw hS => ?_)
          refine mgen (P := fun x => mJ B x ∧ zFr [104, 105, 106, 108, 109, 12, 122, 13, 14] r x) hw ⟨ju28.set rfl ((zI.lit (a := 0) (b := 0) (c := 0) (by decide)).w (c := 0) (d := 1) (by decide)), (fw11.tr fu28 rfl).set rfl⟩ (fun r30 er30 hw pr30 => ?_)
          have hE := zletE er30 hE
          refine lv_iconst (v := 1) hx hb dX12_reads_352 (by decide) ?_
          refine lv_istore_n (lv' := [(2, .int 1), (0, .ref h0), (1, .int w11_1)]) hx hb dX12_reads_353 rfl hl (by decide) rfl (fun ls hl => ?_)
          refine lv_goto (tgt := 424) hx hb dX12_reads_354 (by decide) ?_
          exact cut424 w11_1 1 r30 hw324_1 ((zI.lit (a := 1) (b := 1) (c := 1) (by decide)).w (c := 0) (d := 1) (by decide)) pr30.1 pr30.2 ((zs_at er30 (fu28.at mw324_106_0 rfl) (by decide)).w (c := 1) (d := 3) (by decide)) ((mP.fr xp11 ((zs_row (k := 103) er30 (by decide)).trans (fu28 103 rfl)) ((zs_row (k := 104) er30 (by decide)).trans (fu28 104 rfl)) ((zs_row (k := 105) er30 (by decide)).trans (fu28 105 rfl)) ((zs_row (k := 106) er30 (by decide)).trans (fu28 106 rfl)))) (by have e9 := congrArg Int32.toInt (congrFun ((zs_row (k := 104) er30 (by decide)).trans (fu28 104 rfl)) 0); have := xp11.2.2.resolve_left (tkne mw324_106_0 (by decide)); omega) (by have e9 := congrArg Int32.toInt (congrFun ((zs_row (k := 104) er30 (by decide)).trans (fu28 104 rfl)) 0); have := xp11.2.2.resolve_left (tkne mw324_106_0 (by decide)); have e8 := congrArg Int32.toInt ((congrFun (zs_row (k := 122) er30 (by decide)) 0).trans yu28_1); rw [i32_s (mC.k xc11 (xp11.b jw11.i (tkne mw324_106_0 (by decide)))) (by decide)] at e8; have := xc11.1; have := xc11.2; exact ⟨by omega, by omega⟩) (xx11.op (mC.k xc11 (xp11.b jw11.i (tkne mw324_106_0 (by decide)))) (by decide) ((zs_row (k := 12) er30 (by decide)).trans yu28_0) ((congrFun (zs_row (k := 122) er30 (by decide)) 0).trans yu28_1) ((zs_row (k := 13) er30 (by decide)).trans (fu28 13 rfl)) (by decide)) hE H locs ls hw hS (lv_sub hl [1, 2, 0] rfl)
        · have hE := zifF c26 hE
          have k31 : zI 1 1 (u24) := zI.neD c26 hu24 (zI.lit (a := 0) (b := 0) (c := 0) (by decide)) (by decide)
          refine lv_bipush (v := 26) hx hb dX12_reads_335 (by decide) ?_
          refine lv_goto (tgt := 342) hx hb dX12_reads_337 (by decide) ?_
          refine mcallV (As := [.int 26]) (rest := []) ⟨hx, hb, hml, hown, hts⟩ (mc_puts l D ct h0 y B 26 rw11 qw11 jw11 (mC.k xc11 (xp11.b jw11.i (tkne mw324_106_0 (by decide))))) (wqX12_196_mc_puts hts ⟨Nat.le_of_ble_eq_true rfl, Nat.le_of_ble_eq_true rfl⟩) hw hS hA hK hN rfl hl.1 rfl (Nat.le_of_ble_eq_true rfl) dX12_reads_342 345 rfl (fun u32 H locs pu32 hw hS => ?_)
          have ju32 : mJ B u32 := pu32.1
          have fu32 : zFr [12, 122] rw11 u32 := pu32.2.1
          have yu32_0 : u32 12 = upd (rw11 12) (zn (rw11 122 0)) (26 : Int32) := pu32.2.2.1
          have yu32_1 : u32 122 0 = rw11 122 0 + 1 := pu32.2.2.2.1
          have xu32 : u32 = (Gm_puts (26 : Int32) rw11 qw11) := pu32.2.2.2.2.1
          have hE := zletE xu32 hE
          have hw : zPD D A (mW ct h0 y u32 qw11) H := hw
          refine zfr 345 [] rfl rfl ?_
          refine lv_aload_n hx hb dX12_reads_345 rfl (lv_at hl 0 rfl) ?_
          refine mget (v := .ref (y 14)) hx hb hts hiX12 hown hK hw 25 (by decide) lf53 rfl rfl dX12_reads_346 ?_
          refine lv_iload_n hx hb dX12_reads_349 rfl (lv_at hl 1 rfl) ?_
          refine lv_iconst (v := 0) hx hb dX12_reads_350 (by decide) ?_
          refine mzast hx hb hK hw hS 15 mWg14 hw324_1 (by decide)  ((zI.lit (a := 0) (b := 0) (c := 0) (by decide)).w (c := 0) (d := 1) (by decide)) dX12_reads_351 (mW ct h0 y (zset u32 14 (upd (u32 14) (zn w11_1) (0 : Int32))) qw11) mWs14 (fun H locs hw hS => ?_)
          refine mgen (P := fun x => mJ B x ∧ zFr [104, 105, 106, 108, 109, 12, 122, 13, 14] r x) hw ⟨ju32.set rfl ((zI.lit (a := 0) (b := 0) (c := 0) (by decide)).w (c := 0) (d := 1) (by decide)), (fw11.tr fu32 rfl).set rfl⟩ (fun r34 er34 hw pr34 => ?_)
          have hE := zletE er34 hE
          refine lv_iconst (v := 1) hx hb dX12_reads_352 (by decide) ?_
          refine lv_istore_n (lv' := [(2, .int 1), (0, .ref h0), (1, .int w11_1)]) hx hb dX12_reads_353 rfl hl (by decide) rfl (fun ls hl => ?_)
          refine lv_goto (tgt := 424) hx hb dX12_reads_354 (by decide) ?_
          exact cut424 w11_1 1 r34 hw324_1 ((zI.lit (a := 1) (b := 1) (c := 1) (by decide)).w (c := 0) (d := 1) (by decide)) pr34.1 pr34.2 ((zs_at er34 (fu32.at mw324_106_0 rfl) (by decide)).w (c := 1) (d := 3) (by decide)) ((mP.fr xp11 ((zs_row (k := 103) er34 (by decide)).trans (fu32 103 rfl)) ((zs_row (k := 104) er34 (by decide)).trans (fu32 104 rfl)) ((zs_row (k := 105) er34 (by decide)).trans (fu32 105 rfl)) ((zs_row (k := 106) er34 (by decide)).trans (fu32 106 rfl)))) (by have e9 := congrArg Int32.toInt (congrFun ((zs_row (k := 104) er34 (by decide)).trans (fu32 104 rfl)) 0); have := xp11.2.2.resolve_left (tkne mw324_106_0 (by decide)); omega) (by have e9 := congrArg Int32.toInt (congrFun ((zs_row (k := 104) er34 (by decide)).trans (fu32 104 rfl)) 0); have := xp11.2.2.resolve_left (tkne mw324_106_0 (by decide)); have e8 := congrArg Int32.toInt ((congrFun (zs_row (k := 122) er34 (by decide)) 0).trans yu32_1); rw [i32_s (mC.k xc11 (xp11.b jw11.i (tkne mw324_106_0 (by decide)))) (by decide)] at e8; have := xc11.1; have := xc11.2; exact ⟨by omega, by omega⟩) (xx11.op (mC.k xc11 (xp11.b jw11.i (tkne mw324_106_0 (by decide)))) (by decide) ((zs_row (k := 12) er34 (by decide)).trans yu32_0) ((congrFun (zs_row (k := 122) er34 (by decide)) 0).trans yu32_1) ((zs_row (k := 13) er34 (by decide)).trans (fu32 13 rfl)) (by decide)) hE H locs ls hw hS (lv_sub hl [1, 2, 0] rfl)
      have cut304 : ∀ (hw304_1 : zI 0 5 w11_1) (hw304_2 : zI 0 0 w11_2) (hE : X = Gm_reads_304 w11_1 w11_2 rw11 qw11 (Gm_reads_11 n11) ), zKf p l e ({ frames := 3, cells := 0, slots := 0, locals := 160 }) s m a9 below meth c Q D A 304 6 [] (mW ct h0 y rw11 qw11) [(0, .ref h0), (1, .int w11_1), (2, .int w11_2)] := by
        intro hw304_1 hw304_2 hE H locs ls hw hS hl
        unfold Gm_reads_304 at hE
        refine lv_aload_n hx hb dX12_reads_304 rfl (lv_at hl 0 rfl) ?_
        refine lv_ldc2 hx hb hown (hts (.constantLong RX12 203 1111) (ki (zr24 13 rfl))) dX12_reads_305 ?_
        refine mcallV (As := [.long 1111]) (rest := []) ⟨hx, hb, hml, hown, hts⟩ (mc_isWord l D ct h0 y B 1111 rw11 qw11 jw11) (wqX12_185_mc_isWord hts ⟨Nat.le_of_ble_eq_true rfl, Nat.le_of_ble_eq_true rfl⟩) hw hS hA hK hN rfl hl.1 rfl (Nat.le_of_ble_eq_true rfl) dX12_reads_308 311 rfl (fun u35 H locs pu35 hw hS => ?_)
        have hu35 : zI 0 1 u35 := pu35.1
        have yu35_0 : ¬ u35 = 0 → zI 1 1 (rw11 106 0) := pu35.2.1
        have xu35 : u35 = (Gm_isWord (1111 : Int64) rw11 qw11) := pu35.2.2.1
        have hE := zletE xu35 hE
        have hw : zPD D A (mW ct h0 y rw11 qw11) H := hw
        refine zfr 311 [.int u35] rfl rfl ?_
        refine lv_if_ne (tgt := 324) hx hb dX12_reads_311 (by decide) (fun c37 => ?_) (fun c37 => ?_)
        · have hE := zifnT c37 hE
          have k38 : zI 1 1 (u35) := zI.neD c37 hu35 (zI.lit (a := 0) (b := 0) (c := 0) (by decide)) (by decide)
          exact cut324 hw304_1 (yu35_0 c37) hE H locs ls hw hS (lv_sub hl [0, 1] rfl)
        · have hE := zifnF c37 hE
          have k39 : zI 0 0 (u35) := zI.eqq c37 (zI.lit (a := 0) (b := 0) (c := 0) (by decide))
          refine lv_aload_n hx hb dX12_reads_314 rfl (lv_at hl 0 rfl) ?_
          refine lv_ldc2 hx hb hown (hts (.constantLong RX12 205 423) (ki (zr24 14 rfl))) dX12_reads_315 ?_
          refine mcallV (As := [.long 423]) (rest := []) ⟨hx, hb, hml, hown, hts⟩ (mc_isWord l D ct h0 y B 423 rw11 qw11 jw11) (wqX12_185_mc_isWord hts ⟨Nat.le_of_ble_eq_true rfl, Nat.le_of_ble_eq_true rfl⟩) hw hS hA hK hN rfl hl.1 rfl (Nat.le_of_ble_eq_true rfl) dX12_reads_318 321 rfl (fun u40 H locs pu40 hw hS => ?_)
          have hu40 : zI 0 1 u40 := pu40.1
          have yu40_0 : ¬ u40 = 0 → zI 1 1 (rw11 106 0) := pu40.2.1
          have xu40 : u40 = (Gm_isWord (423 : Int64) rw11 qw11) := pu40.2.2.1
          have hE := zletE xu40 hE
          have hw : zPD D A (mW ct h0 y rw11 qw11) H := hw
          refine zfr 321 [.int u40] rfl rfl ?_
          refine lv_if_eq (tgt := 357) hx hb dX12_reads_321 (by decide) (fun c42 => ?_) (fun c42 => ?_)
          · have hE := zifT c42 hE
            have k43 : zI 0 0 (u40) := zI.eqq c42 (zI.lit (a := 0) (b := 0) (c := 0) (by decide))
            refine lv_aload_n hx hb dX12_reads_357 rfl (lv_at hl 0 rfl) ?_
            refine lv_bipush (v := 41) hx hb dX12_reads_358 (by decide) ?_
            refine mcallV (As := [.int 41]) (rest := []) ⟨hx, hb, hml, hown, hts⟩ (mc_isSign l D ct h0 y B 41 rw11 qw11 jw11 (xp11)) (wqX12_189_mc_isSign hts ⟨Nat.le_of_ble_eq_true rfl, Nat.le_of_ble_eq_true rfl⟩) hw hS hA hK hN rfl hl.1 rfl (Nat.le_of_ble_eq_true rfl) dX12_reads_360 363 rfl (fun u44 H locs pu44 hw hS => ?_)
            have hu44 : zI 0 1 u44 := pu44.1
            have yu44_0 : ¬ u44 = 0 → zI 3 3 (rw11 106 0) := pu44.2.1
            have xu44 : u44 = (Gm_isSign (41 : Int32) rw11 qw11) := pu44.2.2.1
            have hE := zletE xu44 hE
            have hw : zPD D A (mW ct h0 y rw11 qw11) H := hw
            refine zfr 363 [.int u44] rfl rfl ?_
            refine lv_if_eq (tgt := 399) hx hb dX12_reads_363 (by decide) (fun c46 => ?_) (fun c46 => ?_)
            · have hE := zifT c46 hE
              have k47 : zI 0 0 (u44) := zI.eqq c46 (zI.lit (a := 0) (b := 0) (c := 0) (by decide))
              exact cut399 hw304_1 hE H locs ls hw hS (lv_sub hl [0, 1] rfl)
            · have hE := zifF c46 hE
              have k48 : zI 1 1 (u44) := zI.neD c46 hu44 (zI.lit (a := 0) (b := 0) (c := 0) (by decide)) (by decide)
              refine lv_iload_n hx hb dX12_reads_366 rfl (lv_at hl 1 rfl) ?_
              refine lv_if_le (tgt := 399) hx hb dX12_reads_367 (by decide) (fun c49 => ?_) (fun c49 => ?_)
              · have hE := zifT c49 hE
                have k50 : zI 0 0 (w11_1) := zI.leU c49 hw304_1 (zI.lit (a := 0) (b := 0) (c := 0) (by decide)) (by decide)
                exact cut399 (k50.w (c := 0) (d := 5) (by decide)) hE H locs ls hw hS (lv_sub hl [0, 1] rfl)
              · have hE := zifF c49 hE
                have k51 : zI 1 5 (w11_1) := zI.ltD (zI.nle c49) (zI.lit (a := 0) (b := 0) (c := 0) (by decide)) hw304_1 (by decide)
                refine lv_aload_n hx hb dX12_reads_370 rfl (lv_at hl 0 rfl) ?_
                refine lv_bipush (v := 29) hx hb dX12_reads_371 (by decide) ?_
                refine mcallV (As := [.int 29]) (rest := []) ⟨hx, hb, hml, hown, hts⟩ (mc_puts l D ct h0 y B 29 rw11 qw11 jw11 (mC.k xc11 (xp11.b jw11.i (tkne (yu44_0 c46) (by decide))))) (wqX12_196_mc_puts hts ⟨Nat.le_of_ble_eq_true rfl, Nat.le_of_ble_eq_true rfl⟩) hw hS hA hK hN rfl hl.1 rfl (Nat.le_of_ble_eq_true rfl) dX12_reads_373 376 rfl (fun u52 H locs pu52 hw hS => ?_)
                have ju52 : mJ B u52 := pu52.1
                have fu52 : zFr [12, 122] rw11 u52 := pu52.2.1
                have yu52_0 : u52 12 = upd (rw11 12) (zn (rw11 122 0)) (29 : Int32) := pu52.2.2.1
                have yu52_1 : u52 122 0 = rw11 122 0 + 1 := pu52.2.2.2.1
                have xu52 : u52 = (Gm_puts (29 : Int32) rw11 qw11) := pu52.2.2.2.2.1
                have hE := zletE xu52 hE
                have hw : zPD D A (mW ct h0 y u52 qw11) H := hw
                refine zfr 376 [] rfl rfl ?_
                refine lv_iinc (v := w11_1 + (-1)) (lv' := [(1, .int (w11_1 + (-1))), (0, .ref h0), (2, .int w11_2)]) hx hb dX12_reads_376 hl (k := 1) rfl (rfl) (by decide) rfl (fun ls hl => ?_)
                have k54 : zI 0 4 (w11_1 + (-1)) := zI.add k51 (zI.lit (a := (-1)) (b := (-1)) (by decide)) (by decide)
                exact cut379 5 (w11_1 + (-1)) u52 k54 hw304_2 ju52 (fw11.tr fu52 rfl) (fu52.at (yu44_0 c46) rfl) ((mP.fr xp11 (fu52 103 rfl) (fu52 104 rfl) (fu52 105 rfl) (fu52 106 rfl))) (by have e9 := congrArg Int32.toInt (congrFun (fu52 104 rfl) 0); have := xp11.2.2.resolve_left (tkne (yu44_0 c46) (by decide)); omega) (by have e9 := congrArg Int32.toInt (congrFun (fu52 104 rfl) 0); have := xp11.2.2.resolve_left (tkne (yu44_0 c46) (by decide)); have e8 := congrArg Int32.toInt yu52_1; rw [i32_s (mC.k xc11 (xp11.b jw11.i (tkne (yu44_0 c46) (by decide)))) (by decide)] at e8; have := xc11.1; have := xc11.2; exact ⟨by omega, by omega⟩) (xx11.close (mC.k xc11 (xp11.b jw11.i (tkne (yu44_0 c46) (by decide)))) (by decide) k51 yu52_0 yu52_1 (fu52 13 rfl)) hE (zI.m1 k54 (by decide)) H locs ls hw hS (lv_sub hl [1, 0, 2] rfl)
          · have hE := zifF c42 hE
            have k55 : zI 1 1 (u40) := zI.neD c42 hu40 (zI.lit (a := 0) (b := 0) (c := 0) (by decide)) (by decide)
            exact cut324 hw304_1 (yu40_0 c42) hE H locs ls hw hS (lv_sub hl [0, 1] rfl)
      have cut263 : ∀ (hw263_1 : zI 0 5 w11_1) (hw263_2 : zI 0 0 w11_2) (mw263_106_0 : zI 3 3 (rw11 106 0)) (hE : X = Gm_reads_263 w11_1 w11_2 rw11 qw11 (Gm_reads_11 n11) ), zKf p l e ({ frames := 3, cells := 0, slots := 0, locals := 160 }) s m a9 below meth c Q D A 263 6 [] (mW ct h0 y rw11 qw11) [(0, .ref h0), (1, .int w11_1), (2, .int w11_2)] := by
        intro hw263_1 hw263_2 mw263_106_0 hE H locs ls hw hS hl
        unfold Gm_reads_263 at hE
        refine lv_aload_n hx hb dX12_reads_263 rfl (lv_at hl 0 rfl) ?_
        refine mget (v := .ref (y 14)) hx hb hts hiX12 hown hK hw 25 (by decide) lf53 rfl rfl dX12_reads_264 ?_
        refine lv_iload_n hx hb dX12_reads_267 rfl (lv_at hl 1 rfl) ?_
        refine mzald hx hb hK hw 15 mWg14 hw263_1 (by decide) dX12_reads_268 (zgenE (lo := 0) (hi := 1) ((show zI 0 1 (rw11 14 _) from jw11.i 14 _)) (fun v56 ev56 hv56 => ?_))
        have hE := zletE ev56 hE
        refine lv_if_ne (tgt := 304) hx hb dX12_reads_269 (by decide) (fun c57 => ?_) (fun c57 => ?_)
        · have hE := zifnT c57 hE
          have k58 : zI 1 1 (v56) := zI.neD c57 hv56 (zI.lit (a := 0) (b := 0) (c := 0) (by decide)) (by decide)
          exact cut304 hw263_1 hw263_2 hE H locs ls hw hS (lv_sub hl [0, 1, 2] rfl)
        · have hE := zifnF c57 hE
          have k59 : zI 0 0 (v56) := zI.eqq c57 (zI.lit (a := 0) (b := 0) (c := 0) (by decide))
          refine lv_aload_n hx hb dX12_reads_272 rfl (lv_at hl 0 rfl) ?_
          refine lv_aload_n hx hb dX12_reads_273 rfl (lv_at hl 0 rfl) ?_
          refine lv_bipush (v := 60) hx hb dX12_reads_274 (by decide) ?_
          refine mcallV (As := [.int 60]) (rest := [.ref h0]) ⟨hx, hb, hml, hown, hts⟩ (mc_isSign l D ct h0 y B 60 rw11 qw11 jw11 (xp11)) (wqX12_189_mc_isSign hts ⟨Nat.le_of_ble_eq_true rfl, Nat.le_of_ble_eq_true rfl⟩) hw hS hA hK hN rfl hl.1 rfl (Nat.le_of_ble_eq_true rfl) dX12_reads_276 279 rfl (fun u60 H locs pu60 hw hS => ?_)
          have hu60 : zI 0 1 u60 := pu60.1
          have yu60_0 : ¬ u60 = 0 → zI 3 3 (rw11 106 0) := pu60.2.1
          have xu60 : u60 = (Gm_isSign (60 : Int32) rw11 qw11) := pu60.2.2.1
          have hE := zletE xu60 hE
          have hw : zPD D A (mW ct h0 y rw11 qw11) H := hw
          refine zfr 279 [.int u60, .ref h0] rfl rfl ?_
          refine lv_if_eq (tgt := 287) hx hb dX12_reads_279 (by decide) (fun c62 => ?_) (fun c62 => ?_)
          · have hE := zifT c62 hE
            have k63 : zI 0 0 (u60) := zI.eqq c62 (zI.lit (a := 0) (b := 0) (c := 0) (by decide))
            refine lv_bipush (v := 25) hx hb dX12_reads_287 (by decide) ?_
            refine mcallV (As := [.int 25]) (rest := []) ⟨hx, hb, hml, hown, hts⟩ (mc_puts l D ct h0 y B 25 rw11 qw11 jw11 (mC.k xc11 (xp11.b jw11.i (tkne mw263_106_0 (by decide))))) (wqX12_196_mc_puts hts ⟨Nat.le_of_ble_eq_true rfl, Nat.le_of_ble_eq_true rfl⟩) hw hS hA hK hN rfl hl.1 rfl (Nat.le_of_ble_eq_true rfl) dX12_reads_289 292 rfl (fun u64 H locs pu64 hw hS => ?_)
            have ju64 : mJ B u64 := pu64.1
            have fu64 : zFr [12, 122] rw11 u64 := pu64.2.1
            have yu64_0 : u64 12 = upd (rw11 12) (zn (rw11 122 0)) (25 : Int32) := pu64.2.2.1
            have yu64_1 : u64 122 0 = rw11 122 0 + 1 := pu64.2.2.2.1
            have xu64 : u64 = (Gm_puts (25 : Int32) rw11 qw11) := pu64.2.2.2.2.1
            have hE := zletE xu64 hE
            have hw : zPD D A (mW ct h0 y u64 qw11) H := hw
            refine zfr 292 [] rfl rfl ?_
            refine lv_aload_n hx hb dX12_reads_292 rfl (lv_at hl 0 rfl) ?_
            refine mget (v := .ref (y 14)) hx hb hts hiX12 hown hK hw 25 (by decide) lf53 rfl rfl dX12_reads_293 ?_
            refine lv_iload_n hx hb dX12_reads_296 rfl (lv_at hl 1 rfl) ?_
            refine lv_iconst (v := 1) hx hb dX12_reads_297 (by decide) ?_
            refine mzast hx hb hK hw hS 15 mWg14 hw263_1 (by decide)  ((zI.lit (a := 1) (b := 1) (c := 1) (by decide)).w (c := 0) (d := 1) (by decide)) dX12_reads_298 (mW ct h0 y (zset u64 14 (upd (u64 14) (zn w11_1) (1 : Int32))) qw11) mWs14 (fun H locs hw hS => ?_)
            refine mgen (P := fun x => mJ B x ∧ zFr [104, 105, 106, 108, 109, 12, 122, 13, 14] r x) hw ⟨ju64.set rfl ((zI.lit (a := 1) (b := 1) (c := 1) (by decide)).w (c := 0) (d := 1) (by decide)), (fw11.tr fu64 rfl).set rfl⟩ (fun r66 er66 hw pr66 => ?_)
            have hE := zletE er66 hE
            refine lv_iconst (v := 1) hx hb dX12_reads_299 (by decide) ?_
            refine lv_istore_n (lv' := [(2, .int 1), (0, .ref h0), (1, .int w11_1)]) hx hb dX12_reads_300 rfl hl (by decide) rfl (fun ls hl => ?_)
            refine lv_goto (tgt := 424) hx hb dX12_reads_301 (by decide) ?_
            exact cut424 w11_1 1 r66 hw263_1 ((zI.lit (a := 1) (b := 1) (c := 1) (by decide)).w (c := 0) (d := 1) (by decide)) pr66.1 pr66.2 ((zs_at er66 (fu64.at mw263_106_0 rfl) (by decide)).w (c := 1) (d := 3) (by decide)) ((mP.fr xp11 ((zs_row (k := 103) er66 (by decide)).trans (fu64 103 rfl)) ((zs_row (k := 104) er66 (by decide)).trans (fu64 104 rfl)) ((zs_row (k := 105) er66 (by decide)).trans (fu64 105 rfl)) ((zs_row (k := 106) er66 (by decide)).trans (fu64 106 rfl)))) (by have e9 := congrArg Int32.toInt (congrFun ((zs_row (k := 104) er66 (by decide)).trans (fu64 104 rfl)) 0); have := xp11.2.2.resolve_left (tkne mw263_106_0 (by decide)); omega) (by have e9 := congrArg Int32.toInt (congrFun ((zs_row (k := 104) er66 (by decide)).trans (fu64 104 rfl)) 0); have := xp11.2.2.resolve_left (tkne mw263_106_0 (by decide)); have e8 := congrArg Int32.toInt ((congrFun (zs_row (k := 122) er66 (by decide)) 0).trans yu64_1); rw [i32_s (mC.k xc11 (xp11.b jw11.i (tkne mw263_106_0 (by decide)))) (by decide)] at e8; have := xc11.1; have := xc11.2; exact ⟨by omega, by omega⟩) (xx11.op (mC.k xc11 (xp11.b jw11.i (tkne mw263_106_0 (by decide)))) (by decide) ((zs_row (k := 12) er66 (by decide)).trans yu64_0) ((congrFun (zs_row (k := 122) er66 (by decide)) 0).trans yu64_1) ((zs_row (k := 13) er66 (by decide)).trans (fu64 13 rfl)) (by decide)) hE H locs ls hw hS (lv_sub hl [1, 2, 0] rfl)
          · have hE := zifF c62 hE
            have k67 : zI 1 1 (u60) := zI.neD c62 hu60 (zI.lit (a := 0) (b := 0) (c := 0) (by decide)) (by decide)
            refine lv_bipush (v := 24) hx hb dX12_reads_282 (by decide) ?_
            refine lv_goto (tgt := 289) hx hb dX12_reads_284 (by decide) ?_
            refine mcallV (As := [.int 24]) (rest := []) ⟨hx, hb, hml, hown, hts⟩ (mc_puts l D ct h0 y B 24 rw11 qw11 jw11 (mC.k xc11 (xp11.b jw11.i (tkne mw263_106_0 (by decide))))) (wqX12_196_mc_puts hts ⟨Nat.le_of_ble_eq_true rfl, Nat.le_of_ble_eq_true rfl⟩) hw hS hA hK hN rfl hl.1 rfl (Nat.le_of_ble_eq_true rfl) dX12_reads_289 292 rfl (fun u68 H locs pu68 hw hS => ?_)
            have ju68 : mJ B u68 := pu68.1
            have fu68 : zFr [12, 122] rw11 u68 := pu68.2.1
            have yu68_0 : u68 12 = upd (rw11 12) (zn (rw11 122 0)) (24 : Int32) := pu68.2.2.1
            have yu68_1 : u68 122 0 = rw11 122 0 + 1 := pu68.2.2.2.1
            have xu68 : u68 = (Gm_puts (24 : Int32) rw11 qw11) := pu68.2.2.2.2.1
            have hE := zletE xu68 hE
            have hw : zPD D A (mW ct h0 y u68 qw11) H := hw
            refine zfr 292 [] rfl rfl ?_
            refine lv_aload_n hx hb dX12_reads_292 rfl (lv_at hl 0 rfl) ?_
            refine mget (v := .ref (y 14)) hx hb hts hiX12 hown hK hw 25 (by decide) lf53 rfl rfl dX12_reads_293 ?_
            refine lv_iload_n hx hb dX12_reads_296 rfl (lv_at hl 1 rfl) ?_
            refine lv_iconst (v := 1) hx hb dX12_reads_297 (by decide) ?_
            refine mzast hx hb hK hw hS 15 mWg14 hw263_1 (by decide)  ((zI.lit (a := 1) (b := 1) (c := 1) (by decide)).w (c := 0) (d := 1) (by decide)) dX12_reads_298 (mW ct h0 y (zset u68 14 (upd (u68 14) (zn w11_1) (1 : Int32))) qw11) mWs14 (fun H locs hw hS => ?_)
            refine mgen (P := fun x => mJ B x ∧ zFr [104, 105, 106, 108, 109, 12, 122, 13, 14] r x) hw ⟨ju68.set rfl ((zI.lit (a := 1) (b := 1) (c := 1) (by decide)).w (c := 0) (d := 1) (by decide)), (fw11.tr fu68 rfl).set rfl⟩ (fun r70 er70 hw pr70 => ?_)
            have hE := zletE er70 hE
            refine lv_iconst (v := 1) hx hb dX12_reads_299 (by decide) ?_
            refine lv_istore_n (lv' := [(2, .int 1), (0, .ref h0), (1, .int w11_1)]) hx hb dX12_reads_300 rfl hl (by decide) rfl (fun ls hl => ?_)
            refine lv_goto (tgt := 424) hx hb dX12_reads_301 (by decide) ?_
            exact cut424 w11_1 1 r70 hw263_1 ((zI.lit (a := 1) (b := 1) (c := 1) (by decide)).w (c := 0) (d := 1) (by decide)) pr70.1 pr70.2 ((zs_at er70 (fu68.at mw263_106_0 rfl) (by decide)).w (c := 1) (d := 3) (by decide)) ((mP.fr xp11 ((zs_row (k := 103) er70 (by decide)).trans (fu68 103 rfl)) ((zs_row (k := 104) er70 (by decide)).trans (fu68 104 rfl)) ((zs_row (k := 105) er70 (by decide)).trans (fu68 105 rfl)) ((zs_row (k := 106) er70 (by decide)).trans (fu68 106 rfl)))) (by have e9 := congrArg Int32.toInt (congrFun ((zs_row (k := 104) er70 (by decide)).trans (fu68 104 rfl)) 0); have := xp11.2.2.resolve_left (tkne mw263_106_0 (by decide)); omega) (by have e9 := congrArg Int32.toInt (congrFun ((zs_row (k := 104) er70 (by decide)).trans (fu68 104 rfl)) 0); have := xp11.2.2.resolve_left (tkne mw263_106_0 (by decide)); have e8 := congrArg Int32.toInt ((congrFun (zs_row (k := 122) er70 (by decide)) 0).trans yu68_1); rw [i32_s (mC.k xc11 (xp11.b jw11.i (tkne mw263_106_0 (by decide)))) (by decide)] at e8; have := xc11.1; have := xc11.2; exact ⟨by omega, by omega⟩) (xx11.op (mC.k xc11 (xp11.b jw11.i (tkne mw263_106_0 (by decide)))) (by decide) ((zs_row (k := 12) er70 (by decide)).trans yu68_0) ((congrFun (zs_row (k := 122) er70 (by decide)) 0).trans yu68_1) ((zs_row (k := 13) er70 (by decide)).trans (fu68 13 rfl)) (by decide)) hE H locs ls hw hS (lv_sub hl [1, 2, 0] rfl)
      have cut206 : ∀ (hw206_1 : zI 0 5 w11_1) (mw206_106_0 : zI 3 3 (rw11 106 0)) (hE : X = Gm_reads_206 w11_1 rw11 qw11 (Gm_reads_11 n11) ), zKf p l e ({ frames := 3, cells := 0, slots := 0, locals := 160 }) s m a9 below meth c Q D A 206 6 [] (mW ct h0 y rw11 qw11) [(0, .ref h0), (1, .int w11_1)] := by
        intro hw206_1 mw206_106_0 hE H locs ls hw hS hl
        unfold Gm_reads_206 at hE
        refine lv_aload_n hx hb dX12_reads_206 rfl (lv_at hl 0 rfl) ?_
        refine lv_aload_n hx hb dX12_reads_207 rfl (lv_at hl 0 rfl) ?_
        refine lv_bipush (v := 43) hx hb dX12_reads_208 (by decide) ?_
        refine mcallV (As := [.int 43]) (rest := [.ref h0]) ⟨hx, hb, hml, hown, hts⟩ (mc_isSign l D ct h0 y B 43 rw11 qw11 jw11 (xp11)) (wqX12_189_mc_isSign hts ⟨Nat.le_of_ble_eq_true rfl, Nat.le_of_ble_eq_true rfl⟩) hw hS hA hK hN rfl hl.1 rfl (Nat.le_of_ble_eq_true rfl) dX12_reads_210 213 rfl (fun u71 H locs pu71 hw hS => ?_)
        have hu71 : zI 0 1 u71 := pu71.1
        have yu71_0 : ¬ u71 = 0 → zI 3 3 (rw11 106 0) := pu71.2.1
        have xu71 : u71 = (Gm_isSign (43 : Int32) rw11 qw11) := pu71.2.2.1
        have hE := zletE xu71 hE
        have hw : zPD D A (mW ct h0 y rw11 qw11) H := hw
        refine zfr 213 [.int u71, .ref h0] rfl rfl ?_
        refine lv_if_eq (tgt := 221) hx hb dX12_reads_213 (by decide) (fun c73 => ?_) (fun c73 => ?_)
        · have hE := zifT c73 hE
          have k74 : zI 0 0 (u71) := zI.eqq c73 (zI.lit (a := 0) (b := 0) (c := 0) (by decide))
          refine lv_aload_n hx hb dX12_reads_221 rfl (lv_at hl 0 rfl) ?_
          refine lv_bipush (v := 45) hx hb dX12_reads_222 (by decide) ?_
          refine mcallV (As := [.int 45]) (rest := [.ref h0]) ⟨hx, hb, hml, hown, hts⟩ (mc_isSign l D ct h0 y B 45 rw11 qw11 jw11 (xp11)) (wqX12_189_mc_isSign hts ⟨Nat.le_of_ble_eq_true rfl, Nat.le_of_ble_eq_true rfl⟩) hw hS hA hK hN rfl hl.1 rfl (Nat.le_of_ble_eq_true rfl) dX12_reads_224 227 rfl (fun u75 H locs pu75 hw hS => ?_)
          have hu75 : zI 0 1 u75 := pu75.1
          have yu75_0 : ¬ u75 = 0 → zI 3 3 (rw11 106 0) := pu75.2.1
          have xu75 : u75 = (Gm_isSign (45 : Int32) rw11 qw11) := pu75.2.2.1
          have hE := zletE xu75 hE
          have hw : zPD D A (mW ct h0 y rw11 qw11) H := hw
          refine zfr 227 [.int u75, .ref h0] rfl rfl ?_
          refine lv_if_eq (tgt := 235) hx hb dX12_reads_227 (by decide) (fun c77 => ?_) (fun c77 => ?_)
          · have hE := zifT c77 hE
            have k78 : zI 0 0 (u75) := zI.eqq c77 (zI.lit (a := 0) (b := 0) (c := 0) (by decide))
            refine lv_bipush (v := 22) hx hb dX12_reads_235 (by decide) ?_
            refine mcallV (As := [.int 22]) (rest := []) ⟨hx, hb, hml, hown, hts⟩ (mc_puts l D ct h0 y B 22 rw11 qw11 jw11 (mC.k xc11 (xp11.b jw11.i (tkne mw206_106_0 (by decide))))) (wqX12_196_mc_puts hts ⟨Nat.le_of_ble_eq_true rfl, Nat.le_of_ble_eq_true rfl⟩) hw hS hA hK hN rfl hl.1 rfl (Nat.le_of_ble_eq_true rfl) dX12_reads_237 240 rfl (fun u79 H locs pu79 hw hS => ?_)
            have ju79 : mJ B u79 := pu79.1
            have fu79 : zFr [12, 122] rw11 u79 := pu79.2.1
            have yu79_0 : u79 12 = upd (rw11 12) (zn (rw11 122 0)) (22 : Int32) := pu79.2.2.1
            have yu79_1 : u79 122 0 = rw11 122 0 + 1 := pu79.2.2.2.1
            have xu79 : u79 = (Gm_puts (22 : Int32) rw11 qw11) := pu79.2.2.2.2.1
            have hE := zletE xu79 hE
            have hw : zPD D A (mW ct h0 y u79 qw11) H := hw
            refine zfr 240 [] rfl rfl ?_
            refine lv_iconst (v := 1) hx hb dX12_reads_240 (by decide) ?_
            refine lv_istore_n (lv' := [(2, .int 1), (0, .ref h0), (1, .int w11_1)]) hx hb dX12_reads_241 rfl hl (by decide) rfl (fun ls hl => ?_)
            refine lv_goto (tgt := 424) hx hb dX12_reads_242 (by decide) ?_
            exact cut424 w11_1 1 u79 hw206_1 ((zI.lit (a := 1) (b := 1) (c := 1) (by decide)).w (c := 0) (d := 1) (by decide)) ju79 (fw11.tr fu79 rfl) ((fu79.at mw206_106_0 rfl).w (c := 1) (d := 3) (by decide)) ((mP.fr xp11 (fu79 103 rfl) (fu79 104 rfl) (fu79 105 rfl) (fu79 106 rfl))) (by have e9 := congrArg Int32.toInt (congrFun (fu79 104 rfl) 0); have := xp11.2.2.resolve_left (tkne mw206_106_0 (by decide)); omega) (by have e9 := congrArg Int32.toInt (congrFun (fu79 104 rfl) 0); have := xp11.2.2.resolve_left (tkne mw206_106_0 (by decide)); have e8 := congrArg Int32.toInt yu79_1; rw [i32_s (mC.k xc11 (xp11.b jw11.i (tkne mw206_106_0 (by decide)))) (by decide)] at e8; have := xc11.1; have := xc11.2; exact ⟨by omega, by omega⟩) (xx11.op (mC.k xc11 (xp11.b jw11.i (tkne mw206_106_0 (by decide)))) (by decide) yu79_0 yu79_1 (fu79 13 rfl) (by decide)) hE H locs ls hw hS (lv_sub hl [1, 2, 0] rfl)
          · have hE := zifF c77 hE
            have k81 : zI 1 1 (u75) := zI.neD c77 hu75 (zI.lit (a := 0) (b := 0) (c := 0) (by decide)) (by decide)
            refine lv_bipush (v := 21) hx hb dX12_reads_230 (by decide) ?_
            refine lv_goto (tgt := 237) hx hb dX12_reads_232 (by decide) ?_
            refine mcallV (As := [.int 21]) (rest := []) ⟨hx, hb, hml, hown, hts⟩ (mc_puts l D ct h0 y B 21 rw11 qw11 jw11 (mC.k xc11 (xp11.b jw11.i (tkne mw206_106_0 (by decide))))) (wqX12_196_mc_puts hts ⟨Nat.le_of_ble_eq_true rfl, Nat.le_of_ble_eq_true rfl⟩) hw hS hA hK hN rfl hl.1 rfl (Nat.le_of_ble_eq_true rfl) dX12_reads_237 240 rfl (fun u82 H locs pu82 hw hS => ?_)
            have ju82 : mJ B u82 := pu82.1
            have fu82 : zFr [12, 122] rw11 u82 := pu82.2.1
            have yu82_0 : u82 12 = upd (rw11 12) (zn (rw11 122 0)) (21 : Int32) := pu82.2.2.1
            have yu82_1 : u82 122 0 = rw11 122 0 + 1 := pu82.2.2.2.1
            have xu82 : u82 = (Gm_puts (21 : Int32) rw11 qw11) := pu82.2.2.2.2.1
            have hE := zletE xu82 hE
            have hw : zPD D A (mW ct h0 y u82 qw11) H := hw
            refine zfr 240 [] rfl rfl ?_
            refine lv_iconst (v := 1) hx hb dX12_reads_240 (by decide) ?_
            refine lv_istore_n (lv' := [(2, .int 1), (0, .ref h0), (1, .int w11_1)]) hx hb dX12_reads_241 rfl hl (by decide) rfl (fun ls hl => ?_)
            refine lv_goto (tgt := 424) hx hb dX12_reads_242 (by decide) ?_
            exact cut424 w11_1 1 u82 hw206_1 ((zI.lit (a := 1) (b := 1) (c := 1) (by decide)).w (c := 0) (d := 1) (by decide)) ju82 (fw11.tr fu82 rfl) ((fu82.at mw206_106_0 rfl).w (c := 1) (d := 3) (by decide)) ((mP.fr xp11 (fu82 103 rfl) (fu82 104 rfl) (fu82 105 rfl) (fu82 106 rfl))) (by have e9 := congrArg Int32.toInt (congrFun (fu82 104 rfl) 0); have := xp11.2.2.resolve_left (tkne mw206_106_0 (by decide)); omega) (by have e9 := congrArg Int32.toInt (congrFun (fu82 104 rfl) 0); have := xp11.2.2.resolve_left (tkne mw206_106_0 (by decide)); have e8 := congrArg Int32.toInt yu82_1; rw [i32_s (mC.k xc11 (xp11.b jw11.i (tkne mw206_106_0 (by decide)))) (by decide)] at e8; have := xc11.1; have := xc11.2; exact ⟨by omega, by omega⟩) (xx11.op (mC.k xc11 (xp11.b jw11.i (tkne mw206_106_0 (by decide)))) (by decide) yu82_0 yu82_1 (fu82 13 rfl) (by decide)) hE H locs ls hw hS (lv_sub hl [1, 2, 0] rfl)
        · have hE := zifF c73 hE
          have k84 : zI 1 1 (u71) := zI.neD c73 hu71 (zI.lit (a := 0) (b := 0) (c := 0) (by decide)) (by decide)
          refine lv_bipush (v := 20) hx hb dX12_reads_216 (by decide) ?_
          refine lv_goto (tgt := 237) hx hb dX12_reads_218 (by decide) ?_
          refine mcallV (As := [.int 20]) (rest := []) ⟨hx, hb, hml, hown, hts⟩ (mc_puts l D ct h0 y B 20 rw11 qw11 jw11 (mC.k xc11 (xp11.b jw11.i (tkne mw206_106_0 (by decide))))) (wqX12_196_mc_puts hts ⟨Nat.le_of_ble_eq_true rfl, Nat.le_of_ble_eq_true rfl⟩) hw hS hA hK hN rfl hl.1 rfl (Nat.le_of_ble_eq_true rfl) dX12_reads_237 240 rfl (fun u85 H locs pu85 hw hS => ?_)
          have ju85 : mJ B u85 := pu85.1
          have fu85 : zFr [12, 122] rw11 u85 := pu85.2.1
          have yu85_0 : u85 12 = upd (rw11 12) (zn (rw11 122 0)) (20 : Int32) := pu85.2.2.1
          have yu85_1 : u85 122 0 = rw11 122 0 + 1 := pu85.2.2.2.1
          have xu85 : u85 = (Gm_puts (20 : Int32) rw11 qw11) := pu85.2.2.2.2.1
          have hE := zletE xu85 hE
          have hw : zPD D A (mW ct h0 y u85 qw11) H := hw
          refine zfr 240 [] rfl rfl ?_
          refine lv_iconst (v := 1) hx hb dX12_reads_240 (by decide) ?_
          refine lv_istore_n (lv' := [(2, .int 1), (0, .ref h0), (1, .int w11_1)]) hx hb dX12_reads_241 rfl hl (by decide) rfl (fun ls hl => ?_)
          refine lv_goto (tgt := 424) hx hb dX12_reads_242 (by decide) ?_
          exact cut424 w11_1 1 u85 hw206_1 ((zI.lit (a := 1) (b := 1) (c := 1) (by decide)).w (c := 0) (d := 1) (by decide)) ju85 (fw11.tr fu85 rfl) ((fu85.at mw206_106_0 rfl).w (c := 1) (d := 3) (by decide)) ((mP.fr xp11 (fu85 103 rfl) (fu85 104 rfl) (fu85 105 rfl) (fu85 106 rfl))) (by have e9 := congrArg Int32.toInt (congrFun (fu85 104 rfl) 0); have := xp11.2.2.resolve_left (tkne mw206_106_0 (by decide)); omega) (by have e9 := congrArg Int32.toInt (congrFun (fu85 104 rfl) 0); have := xp11.2.2.resolve_left (tkne mw206_106_0 (by decide)); have e8 := congrArg Int32.toInt yu85_1; rw [i32_s (mC.k xc11 (xp11.b jw11.i (tkne mw206_106_0 (by decide)))) (by decide)] at e8; have := xc11.1; have := xc11.2; exact ⟨by omega, by omega⟩) (xx11.op (mC.k xc11 (xp11.b jw11.i (tkne mw206_106_0 (by decide)))) (by decide) yu85_0 yu85_1 (fu85 13 rfl) (by decide)) hE H locs ls hw hS (lv_sub hl [1, 2, 0] rfl)
      have cut172 : ∀ (w172_1 : Int32) (w172_2 : Int32) (rw172 : zRr) (hw172_1 : zI 0 5 w172_1) (hw172_2 : zI 0 1 w172_2) (jw172 : mJ B rw172) (fw172 : zFr [104, 105, 106, 108, 109, 12, 122, 13, 14] r rw172) (mw172_106_0 : zI 1 3 (rw172 106 0)) (xp172 : mP rw172) (xa172 : (rw11 105 0).toInt < (rw172 104 0).toInt) (xc172 : 1000 ≤ (rw172 122 0).toInt ∧ (rw172 122 0).toInt ≤ 1000 + (rw172 104 0).toInt) (xx172 : mX (zn (r 122 0)) rw172 w172_1) (hE : X = Gm_reads_172 qw11 (Gm_reads_11 n11) w172_1 w172_2 rw172), zKf p l e ({ frames := 3, cells := 0, slots := 0, locals := 160 }) s m a9 below meth c Q D A 172 6 [] (mW ct h0 y rw172 qw11) [(0, .ref h0), (1, .int w172_1), (2, .int w172_2)] := by
        intro w172_1 w172_2 rw172 hw172_1 hw172_2 jw172 fw172 mw172_106_0 xp172 xa172 xc172 xx172 hE H locs ls hw hS hl
        unfold Gm_reads_172 at hE
        refine lv_aload_n hx hb dX12_reads_172 rfl (lv_at hl 0 rfl) ?_
        refine mcallV (As := []) (rest := []) ⟨hx, hb, hml, hown, hts⟩ (mc_nextToken l D ct h0 y B rw172 qw11 jw172 ((xp172).2.1)) (wqX12_200_mc_nextToken hts ⟨Nat.le_of_ble_eq_true rfl, Nat.le_of_ble_eq_true rfl⟩) hw hS hA hK hN rfl hl.1 rfl (Nat.le_of_ble_eq_true rfl) dX12_reads_173 176 rfl (fun u87 H locs pu87 hw hS => ?_)
        obtain ⟨r88, q89⟩ := u87
        have ju87 : mJ B r88 := pu87.1
        have fu87 : zFr [104, 105, 106, 108] rw172 r88 := pu87.2.1
        have yu87_0 : mP r88 := pu87.2.2.1
        have yu87_1 : (rw172 104 0).toInt ≤ (r88 105 0).toInt := pu87.2.2.2.1
        have xu87 : (r88, q89) = (Gm_nextToken rw172 qw11) := pu87.2.2.2.2.1
        have hE := zc_rqE xu87 hE
        have hw : zPD D A (mW ct h0 y r88 q89) H := hw
        refine zfr 176 [] rfl rfl ?_
        refine lv_goto (tgt := 11) hx hb dX12_reads_176 (by decide) ?_
        exact ih11 w172_1 w172_2 r88 q89 hw172_1 hw172_2 ju87 (fw172.tr fu87 rfl) (yu87_0) (by have := xm11; have := xa172; have := yu87_1; omega) (by have e9 := congrArg Int32.toInt (congrFun (fu87 122 rfl) 0); have := xc172; have := yu87_1; exact ⟨by omega, by omega⟩) (xx172.row (fu87 12 rfl) (fu87 122 rfl) (fu87 13 rfl)) hE (by have := xa172; have := yu87_1; omega) H locs ls hw hS (lv_sub hl [0, 1, 2] rfl)
      have cut152 : ∀ (n152 : Nat) (w152_1 : Int32) (rw152 : zRr) (hw152_1 : zI 0 4 w152_1) (jw152 : mJ B rw152) (fw152 : zFr [104, 105, 106, 108, 109, 12, 122, 13, 14] r rw152) (mw152_106_0 : zI 1 3 (rw152 106 0)) (xp152 : mP rw152) (xa152 : (rw11 105 0).toInt < (rw152 104 0).toInt) (xc152 : 1000 ≤ (rw152 122 0).toInt ∧ (rw152 122 0).toInt ≤ 1000 + (rw152 104 0).toInt) (xx152 : mY (zn (r 122 0)) rw152 w152_1) (hE : X = Gm_reads_152 qw11 (Gm_reads_11 n11) n152 w152_1 rw152), w152_1.toInt - 0 < (n152 : Int) → zKf p l e ({ frames := 3, cells := 0, slots := 0, locals := 160 }) s m a9 below meth c Q D A 152 6 [] (mW ct h0 y rw152 qw11) [(0, .ref h0), (1, .int w152_1), (2, .int 0)] := by
        intro n152
        induction n152 with
        | zero => intro w152_1 rw152 hw152_1 jw152 fw152 mw152_106_0 xp152 xa152 xc152 xx152 hE hm152; exact zI.no1 hw152_1 (by decide) hm152
        | succ n152 ih152 =>
          intro w152_1 rw152 hw152_1 jw152 fw152 mw152_106_0 xp152 xa152 xc152 xx152 hE hm152
          have hE : X = Bm_reads_152 qw11 (Gm_reads_11 n11) (Gm_reads_152 qw11 (Gm_reads_11 n11) n152) w152_1 rw152 := hE
          unfold Bm_reads_152 at hE
          intro H locs ls hw hS hl
          refine lv_iload_n hx hb dX12_reads_152 rfl (lv_at hl 1 rfl) ?_
          refine lv_if_le (tgt := 172) hx hb dX12_reads_153 (by decide) (fun c90 => ?_) (fun c90 => ?_)
          · have hE := zifT c90 hE
            have k91 : zI 0 0 (w152_1) := zI.leU c90 hw152_1 (zI.lit (a := 0) (b := 0) (c := 0) (by decide)) (by decide)
            exact cut172 w152_1 0 rw152 (k91.w (c := 0) (d := 5) (by decide)) ((zI.lit (a := 0) (b := 0) (c := 0) (by decide)).w (c := 0) (d := 1) (by decide)) jw152 fw152 mw152_106_0 (xp152) (xa152) (xc152) (xx152.exit0 c90) hE H locs ls hw hS (lv_sub hl [0, 1, 2] rfl)
          · have hE := zifF c90 hE
            have k92 : zI 1 4 (w152_1) := zI.ltD (zI.nle c90) (zI.lit (a := 0) (b := 0) (c := 0) (by decide)) hw152_1 (by decide)
            refine lv_aload_n hx hb dX12_reads_156 rfl (lv_at hl 0 rfl) ?_
            refine mget (v := .ref (y 13)) hx hb hts hiX12 hown hK hw 24 (by decide) lf50 rfl rfl dX12_reads_157 ?_
            refine lv_iload_n hx hb dX12_reads_160 rfl (lv_at hl 1 rfl) ?_
            refine miald hx hb hK hw 14 mWg13 k92 (by decide) dX12_reads_161 ?_
            refine lv_iconst (v := 1) hx hb dX12_reads_162 (by decide) ?_
            refine lv_icmp_ne (tgt := 172) hx hb dX12_reads_163 (by decide) (fun c93 => ?_) (fun c93 => ?_)
            · have hE := zifnT c93 hE
              exact cut172 w152_1 0 rw152 (k92.w (c := 0) (d := 5) (by decide)) ((zI.lit (a := 0) (b := 0) (c := 0) (by decide)).w (c := 0) (d := 1) (by decide)) jw152 fw152 mw152_106_0 (xp152) (xa152) (xc152) (xx152.exit1 c93) hE H locs ls hw hS (lv_sub hl [0, 1, 2] rfl)
            · have hE := zifnF c93 hE
              have k94 : zI 1 1 (rw152 13 (zn w152_1)) := zI.eqq c93 (zI.lit (a := 1) (b := 1) (c := 1) (by decide))
              refine lv_iinc (v := w152_1 + (-1)) (lv' := [(1, .int (w152_1 + (-1))), (0, .ref h0), (2, .int 0)]) hx hb dX12_reads_166 hl (k := 1) rfl (rfl) (by decide) rfl (fun ls hl => ?_)
              have k95 : zI 0 3 (w152_1 + (-1)) := zI.add k92 (zI.lit (a := (-1)) (b := (-1)) (by decide)) (by decide)
              refine lv_goto (tgt := 152) hx hb dX12_reads_169 (by decide) ?_
              exact ih152 (w152_1 + (-1)) rw152 (k95.w (c := 0) (d := 4) (by decide)) jw152 fw152 mw152_106_0 (xp152) (xa152) (xc152) (xx152.back (zI.nle c90) c93) hE (zI.down k92 (by decide) hm152) H locs ls hw hS (lv_sub hl [1, 0, 2] rfl)
      have cut65 : ∀ (w65_3 : Int32) (w65_4 : Int32) (w65_5 : Int32) (hw65_1 : zI 0 5 w11_1) (hw65_2 : zI 1 1 w11_2) (hw65_3 : zI 0 4 w65_3) (hw65_4 : zI 0 1 w65_4) (hw65_5 : zI 0 1 w65_5) (mw65_106_0 : zI 1 3 (rw11 106 0)) (hE : X = Gm_reads_65 w11_1 w11_2 rw11 qw11 (Gm_reads_11 n11) w65_3 w65_4 w65_5), zKf p l e ({ frames := 3, cells := 0, slots := 0, locals := 160 }) s m a9 below meth c Q D A 65 6 [] (mW ct h0 y rw11 qw11) [(0, .ref h0), (1, .int w11_1), (2, .int w11_2), (3, .int w65_3), (4, .int w65_4), (5, .int w65_5)] := by
        intro w65_3 w65_4 w65_5 hw65_1 hw65_2 hw65_3 hw65_4 hw65_5 mw65_106_0 hE H locs ls hw hS hl
        unfold Gm_reads_65 at hE
        refine lv_iload_n hx hb dX12_reads_65 rfl (lv_at hl 1 rfl) ?_
        refine lv_iconst (v := 5) hx hb dX12_reads_66 (by decide) ?_
        refine lv_icmp_ne (tgt := 76) hx hb dX12_reads_67 (by decide) (fun c96 => ?_) (fun c96 => ?_)
        · have hE := zifnT c96 hE
          have k97 : zI 0 4 (w11_1) := zI.neU c96 hw65_1 (zI.lit (a := 5) (b := 5) (c := 5) (by decide)) (by decide)
          refine lv_iload hx hb dX12_reads_76 (lv_at hl 4 rfl) ?_
          refine lv_if_ne (tgt := 86) hx hb dX12_reads_78 (by decide) (fun c98 => ?_) (fun c98 => ?_)
          · have hE := zifnT c98 hE
            have k99 : zI 1 1 (w65_4) := zI.neD c98 hw65_4 (zI.lit (a := 0) (b := 0) (c := 0) (by decide)) (by decide)
            refine lv_aload_n hx hb dX12_reads_86 rfl (lv_at hl 0 rfl) ?_
            refine lv_iload hx hb dX12_reads_87 (lv_at hl 4 rfl) ?_
            refine lv_if_eq (tgt := 97) hx hb dX12_reads_89 (by decide) (fun c100 => ?_) (fun c100 => ?_)
            · have hE := zifT c100 hE
              exact absurd (congrArg Int32.toInt c100) (by have := k99.1; have := (zI.lit (a := 0) (b := 0) (c := 0) (by decide)).2; omega)
            · have hE := zifF c100 hE
              refine lv_bipush (v := 30) hx hb dX12_reads_92 (by decide) ?_
              refine lv_goto (tgt := 99) hx hb dX12_reads_94 (by decide) ?_
              refine mcallV (As := [.int 30]) (rest := []) ⟨hx, hb, hml, hown, hts⟩ (mc_puts l D ct h0 y B 30 rw11 qw11 jw11 (mC.k xc11 (xp11.b jw11.i (tkne mw65_106_0 (by decide))))) (wqX12_196_mc_puts hts ⟨Nat.le_of_ble_eq_true rfl, Nat.le_of_ble_eq_true rfl⟩) hw hS hA hK hN rfl hl.1 rfl (Nat.le_of_ble_eq_true rfl) dX12_reads_99 102 rfl (fun u101 H locs pu101 hw hS => ?_)
              have ju101 : mJ B u101 := pu101.1
              have fu101 : zFr [12, 122] rw11 u101 := pu101.2.1
              have yu101_0 : u101 12 = upd (rw11 12) (zn (rw11 122 0)) (30 : Int32) := pu101.2.2.1
              have yu101_1 : u101 122 0 = rw11 122 0 + 1 := pu101.2.2.2.1
              have xu101 : u101 = (Gm_puts (30 : Int32) rw11 qw11) := pu101.2.2.2.2.1
              have hE := zletE xu101 hE
              have hw : zPD D A (mW ct h0 y u101 qw11) H := hw
              refine zfr 102 [] rfl rfl ?_
              refine lv_iinc (v := w11_1 + 1) (lv' := [(1, .int (w11_1 + 1)), (0, .ref h0), (2, .int w11_2), (3, .int w65_3), (4, .int w65_4), (5, .int w65_5)]) hx hb dX12_reads_102 hl (k := 1) rfl (rfl) (by decide) rfl (fun ls hl => ?_)
              have k103 : zI 1 5 (w11_1 + 1) := zI.add k97 (zI.lit (a := 1) (b := 1) (by decide)) (by decide)
              refine lv_aload_n hx hb dX12_reads_105 rfl (lv_at hl 1 rfl) ?_
              refine mget (v := .ref (y 13)) hx hb hts hiX12 hown hK hw 24 (by decide) lf50 rfl rfl dX12_reads_106 ?_
              refine lv_iload_n hx hb dX12_reads_109 rfl (lv_at hl 0 rfl) ?_
              refine lv_iload hx hb dX12_reads_110 (lv_at hl 4 rfl) ?_
              refine lv_if_eq (tgt := 119) hx hb dX12_reads_112 (by decide) (fun c104 => ?_) (fun c104 => ?_)
              · have hE := zifT c104 hE
                exact absurd (congrArg Int32.toInt c104) (by have := k99.1; have := (zI.lit (a := 0) (b := 0) (c := 0) (by decide)).2; omega)
              · have hE := zifF c104 hE
                refine lv_iconst (v := 1) hx hb dX12_reads_115 (by decide) ?_
                refine lv_goto (tgt := 120) hx hb dX12_reads_116 (by decide) ?_
                refine miast hx hb hK hw hS 14 mWg13 k103 (by decide) dX12_reads_120 (mW ct h0 y (zset u101 13 (upd (u101 13) (zn (w11_1 + 1)) (1 : Int32))) qw11) mWs13 (fun H locs hw hS => ?_)
                refine mgen (P := fun x => mJ B x ∧ zFr [104, 105, 106, 108, 109, 12, 122, 13, 14] r x) hw ⟨ju101.set rfl (zI.top _), (fw11.tr fu101 rfl).set rfl⟩ (fun r105 er105 hw pr105 => ?_)
                have hE := zletE er105 hE
                refine lv_aload_n hx hb dX12_reads_121 rfl (lv_at hl 1 rfl) ?_
                refine mget (v := .ref (y 14)) hx hb hts hiX12 hown hK hw 25 (by decide) lf53 rfl rfl dX12_reads_122 ?_
                refine lv_iload_n hx hb dX12_reads_125 rfl (lv_at hl 0 rfl) ?_
                refine lv_iconst (v := 0) hx hb dX12_reads_126 (by decide) ?_
                refine mzast hx hb hK hw hS 15 mWg14 k103 (by decide)  ((zI.lit (a := 0) (b := 0) (c := 0) (by decide)).w (c := 0) (d := 1) (by decide)) dX12_reads_127 (mW ct h0 y (zset r105 14 (upd (r105 14) (zn (w11_1 + 1)) (0 : Int32))) qw11) mWs14 (fun H locs hw hS => ?_)
                refine mgen (P := fun x => mJ B x ∧ zFr [104, 105, 106, 108, 109, 12, 122, 13, 14] r x) hw ⟨pr105.1.set rfl ((zI.lit (a := 0) (b := 0) (c := 0) (by decide)).w (c := 0) (d := 1) (by decide)), pr105.2.set rfl⟩ (fun r106 er106 hw pr106 => ?_)
                have hE := zletE er106 hE
                refine lv_goto (tgt := 172) hx hb dX12_reads_128 (by decide) ?_
                exact cut172 (w11_1 + 1) w11_2 r106 (k103.w (c := 0) (d := 5) (by decide)) (hw65_2.w (c := 0) (d := 1) (by decide)) pr106.1 pr106.2 (zs_at er106 (zs_at er105 (fu101.at mw65_106_0 rfl) (by decide)) (by decide)) ((mP.fr xp11 ((zs_row (k := 103) er106 (by decide)).trans ((zs_row (k := 103) er105 (by decide)).trans (fu101 103 rfl))) ((zs_row (k := 104) er106 (by decide)).trans ((zs_row (k := 104) er105 (by decide)).trans (fu101 104 rfl))) ((zs_row (k := 105) er106 (by decide)).trans ((zs_row (k := 105) er105 (by decide)).trans (fu101 105 rfl))) ((zs_row (k := 106) er106 (by decide)).trans ((zs_row (k := 106) er105 (by decide)).trans (fu101 106 rfl))))) (by have e9 := congrArg Int32.toInt (congrFun ((zs_row (k := 104) er106 (by decide)).trans ((zs_row (k := 104) er105 (by decide)).trans (fu101 104 rfl))) 0); have := xp11.2.2.resolve_left (tkne mw65_106_0 (by decide)); omega) (by have e9 := congrArg Int32.toInt (congrFun ((zs_row (k := 104) er106 (by decide)).trans ((zs_row (k := 104) er105 (by decide)).trans (fu101 104 rfl))) 0); have := xp11.2.2.resolve_left (tkne mw65_106_0 (by decide)); have e8 := congrArg Int32.toInt ((congrFun ((zs_row (k := 122) er106 (by decide)).trans (zs_row (k := 122) er105 (by decide))) 0).trans yu101_1); rw [i32_s (mC.k xc11 (xp11.b jw11.i (tkne mw65_106_0 (by decide)))) (by decide)] at e8; have := xc11.1; have := xc11.2; exact ⟨by omega, by omega⟩) (xx11.push (mC.k xc11 (xp11.b jw11.i (tkne mw65_106_0 (by decide)))) (by decide) k97 (((zs_row (k := 12) er106 (by decide)).trans (zs_row (k := 12) er105 (by decide))).trans yu101_0) ((congrFun ((zs_row (k := 122) er106 (by decide)).trans (zs_row (k := 122) er105 (by decide))) 0).trans yu101_1) (by rw [(zs_row (k := 13) er106 (by decide)), zs_self er105, (fu101 13 rfl)]) (Or.inr ⟨rfl, rfl⟩)) hE H locs ls hw hS (lv_sub hl [1, 0, 2] rfl)
          · have hE := zifnF c98 hE
            have k107 : zI 0 0 (w65_4) := zI.eqq c98 (zI.lit (a := 0) (b := 0) (c := 0) (by decide))
            refine lv_iload hx hb dX12_reads_81 (lv_at hl 5 rfl) ?_
            refine lv_if_eq (tgt := 131) hx hb dX12_reads_83 (by decide) (fun c108 => ?_) (fun c108 => ?_)
            · have hE := zifT c108 hE
              have k109 : zI 0 0 (w65_5) := zI.eqq c108 (zI.lit (a := 0) (b := 0) (c := 0) (by decide))
              refine lv_aload_n hx hb dX12_reads_131 rfl (lv_at hl 0 rfl) ?_
              refine lv_iload_n hx hb dX12_reads_132 rfl (lv_at hl 3 rfl) ?_
              refine lv_if_le (tgt := 140) hx hb dX12_reads_133 (by decide) (fun c110 => ?_) (fun c110 => ?_)
              · have hE := zifT c110 hE
                have k111 : zI 0 0 (w65_3) := zI.leU c110 hw65_3 (zI.lit (a := 0) (b := 0) (c := 0) (by decide)) (by decide)
                refine lv_bipush (v := 100) hx hb dX12_reads_140 (by decide) ?_
                refine lv_aload_n hx hb dX12_reads_142 rfl (lv_at hl 0 rfl) ?_
                refine mget (v := .int (rw11 108 0)) hx hb hts hiX12 hown hK hw 8 (by decide) lf151 rfl rfl dX12_reads_143 (zgenE (lo := 0) (hi := 9999) ((show zI 0 9999 (rw11 108 0) from jw11.i 108 0)) (fun v112 ev112 hv112 => ?_))
                have hE := zletE ev112 hE
                refine lv_iadd hx hb dX12_reads_146 (zgenE (lo := 100) (hi := 10099) (zI.add (zI.lit (a := 100) (b := 100) (c := 100) (by decide)) hv112 (by decide)) (fun v113 ev113 hv113 => ?_))
                have hE := zletE ev113 hE
                refine mcallV (As := [.int v113]) (rest := []) ⟨hx, hb, hml, hown, hts⟩ (mc_puts l D ct h0 y B v113 rw11 qw11 jw11 (mC.k xc11 (xp11.b jw11.i (tkne mw65_106_0 (by decide))))) (wqX12_196_mc_puts hts ⟨Nat.le_of_ble_eq_true rfl, Nat.le_of_ble_eq_true rfl⟩) hw hS hA hK hN rfl hl.1 rfl (Nat.le_of_ble_eq_true rfl) dX12_reads_147 150 rfl (fun u114 H locs pu114 hw hS => ?_)
                have ju114 : mJ B u114 := pu114.1
                have fu114 : zFr [12, 122] rw11 u114 := pu114.2.1
                have yu114_0 : u114 12 = upd (rw11 12) (zn (rw11 122 0)) v113 := pu114.2.2.1
                have yu114_1 : u114 122 0 = rw11 122 0 + 1 := pu114.2.2.2.1
                have xu114 : u114 = (Gm_puts v113 rw11 qw11) := pu114.2.2.2.2.1
                have hE := zletE xu114 hE
                have hw : zPD D A (mW ct h0 y u114 qw11) H := hw
                refine zfr 150 [] rfl rfl ?_
                refine lv_iconst (v := 0) hx hb dX12_reads_150 (by decide) ?_
                refine lv_istore_n (lv' := [(2, .int 0), (0, .ref h0), (1, .int w11_1), (3, .int w65_3), (4, .int w65_4), (5, .int w65_5)]) hx hb dX12_reads_151 rfl hl (by decide) rfl (fun ls hl => ?_)
                exact cut152 5 w11_1 u114 k97 ju114 (fw11.tr fu114 rfl) (fu114.at mw65_106_0 rfl) ((mP.fr xp11 (fu114 103 rfl) (fu114 104 rfl) (fu114 105 rfl) (fu114 106 rfl))) (by have e9 := congrArg Int32.toInt (congrFun (fu114 104 rfl) 0); have := xp11.2.2.resolve_left (tkne mw65_106_0 (by decide)); omega) (by have e9 := congrArg Int32.toInt (congrFun (fu114 104 rfl) 0); have := xp11.2.2.resolve_left (tkne mw65_106_0 (by decide)); have e8 := congrArg Int32.toInt yu114_1; rw [i32_s (mC.k xc11 (xp11.b jw11.i (tkne mw65_106_0 (by decide)))) (by decide)] at e8; have := xc11.1; have := xc11.2; exact ⟨by omega, by omega⟩) (xx11.val (mC.k xc11 (xp11.b jw11.i (tkne mw65_106_0 (by decide)))) (by decide) yu114_0 yu114_1 (fu114 13 rfl) hv113 (by decide)) hE (zI.m1 k97 (by decide)) H locs ls hw hS (lv_sub hl [1, 2, 0] rfl)
              · have hE := zifF c110 hE
                have k116 : zI 1 4 (w65_3) := zI.ltD (zI.nle c110) (zI.lit (a := 0) (b := 0) (c := 0) (by decide)) hw65_3 (by decide)
                refine lv_iload_n hx hb dX12_reads_136 rfl (lv_at hl 3 rfl) ?_
                refine lv_goto (tgt := 147) hx hb dX12_reads_137 (by decide) ?_
                refine mcallV (As := [.int w65_3]) (rest := []) ⟨hx, hb, hml, hown, hts⟩ (mc_puts l D ct h0 y B w65_3 rw11 qw11 jw11 (mC.k xc11 (xp11.b jw11.i (tkne mw65_106_0 (by decide))))) (wqX12_196_mc_puts hts ⟨Nat.le_of_ble_eq_true rfl, Nat.le_of_ble_eq_true rfl⟩) hw hS hA hK hN rfl hl.1 rfl (Nat.le_of_ble_eq_true rfl) dX12_reads_147 150 rfl (fun u117 H locs pu117 hw hS => ?_)
                have ju117 : mJ B u117 := pu117.1
                have fu117 : zFr [12, 122] rw11 u117 := pu117.2.1
                have yu117_0 : u117 12 = upd (rw11 12) (zn (rw11 122 0)) w65_3 := pu117.2.2.1
                have yu117_1 : u117 122 0 = rw11 122 0 + 1 := pu117.2.2.2.1
                have xu117 : u117 = (Gm_puts w65_3 rw11 qw11) := pu117.2.2.2.2.1
                have hE := zletE xu117 hE
                have hw : zPD D A (mW ct h0 y u117 qw11) H := hw
                refine zfr 150 [] rfl rfl ?_
                refine lv_iconst (v := 0) hx hb dX12_reads_150 (by decide) ?_
                refine lv_istore_n (lv' := [(2, .int 0), (0, .ref h0), (1, .int w11_1), (3, .int w65_3), (4, .int w65_4), (5, .int w65_5)]) hx hb dX12_reads_151 rfl hl (by decide) rfl (fun ls hl => ?_)
                exact cut152 5 w11_1 u117 k97 ju117 (fw11.tr fu117 rfl) (fu117.at mw65_106_0 rfl) ((mP.fr xp11 (fu117 103 rfl) (fu117 104 rfl) (fu117 105 rfl) (fu117 106 rfl))) (by have e9 := congrArg Int32.toInt (congrFun (fu117 104 rfl) 0); have := xp11.2.2.resolve_left (tkne mw65_106_0 (by decide)); omega) (by have e9 := congrArg Int32.toInt (congrFun (fu117 104 rfl) 0); have := xp11.2.2.resolve_left (tkne mw65_106_0 (by decide)); have e8 := congrArg Int32.toInt yu117_1; rw [i32_s (mC.k xc11 (xp11.b jw11.i (tkne mw65_106_0 (by decide)))) (by decide)] at e8; have := xc11.1; have := xc11.2; exact ⟨by omega, by omega⟩) (xx11.val (mC.k xc11 (xp11.b jw11.i (tkne mw65_106_0 (by decide)))) (by decide) yu117_0 yu117_1 (fu117 13 rfl) k116 (by decide)) hE (zI.m1 k97 (by decide)) H locs ls hw hS (lv_sub hl [1, 2, 0] rfl)
            · have hE := zifF c108 hE
              have k119 : zI 1 1 (w65_5) := zI.neD c108 hw65_5 (zI.lit (a := 0) (b := 0) (c := 0) (by decide)) (by decide)
              refine lv_aload_n hx hb dX12_reads_86 rfl (lv_at hl 0 rfl) ?_
              refine lv_iload hx hb dX12_reads_87 (lv_at hl 4 rfl) ?_
              refine lv_if_eq (tgt := 97) hx hb dX12_reads_89 (by decide) (fun c120 => ?_) (fun c120 => ?_)
              · have hE := zifT c120 hE
                refine lv_bipush (v := 28) hx hb dX12_reads_97 (by decide) ?_
                refine mcallV (As := [.int 28]) (rest := []) ⟨hx, hb, hml, hown, hts⟩ (mc_puts l D ct h0 y B 28 rw11 qw11 jw11 (mC.k xc11 (xp11.b jw11.i (tkne mw65_106_0 (by decide))))) (wqX12_196_mc_puts hts ⟨Nat.le_of_ble_eq_true rfl, Nat.le_of_ble_eq_true rfl⟩) hw hS hA hK hN rfl hl.1 rfl (Nat.le_of_ble_eq_true rfl) dX12_reads_99 102 rfl (fun u121 H locs pu121 hw hS => ?_)
                have ju121 : mJ B u121 := pu121.1
                have fu121 : zFr [12, 122] rw11 u121 := pu121.2.1
                have yu121_0 : u121 12 = upd (rw11 12) (zn (rw11 122 0)) (28 : Int32) := pu121.2.2.1
                have yu121_1 : u121 122 0 = rw11 122 0 + 1 := pu121.2.2.2.1
                have xu121 : u121 = (Gm_puts (28 : Int32) rw11 qw11) := pu121.2.2.2.2.1
                have hE := zletE xu121 hE
                have hw : zPD D A (mW ct h0 y u121 qw11) H := hw
                refine zfr 102 [] rfl rfl ?_
                refine lv_iinc (v := w11_1 + 1) (lv' := [(1, .int (w11_1 + 1)), (0, .ref h0), (2, .int w11_2), (3, .int w65_3), (4, .int w65_4), (5, .int w65_5)]) hx hb dX12_reads_102 hl (k := 1) rfl (rfl) (by decide) rfl (fun ls hl => ?_)
                have k123 : zI 1 5 (w11_1 + 1) := zI.add k97 (zI.lit (a := 1) (b := 1) (by decide)) (by decide)
                refine lv_aload_n hx hb dX12_reads_105 rfl (lv_at hl 1 rfl) ?_
                refine mget (v := .ref (y 13)) hx hb hts hiX12 hown hK hw 24 (by decide) lf50 rfl rfl dX12_reads_106 ?_
                refine lv_iload_n hx hb dX12_reads_109 rfl (lv_at hl 0 rfl) ?_
                refine lv_iload hx hb dX12_reads_110 (lv_at hl 4 rfl) ?_
                refine lv_if_eq (tgt := 119) hx hb dX12_reads_112 (by decide) (fun c124 => ?_) (fun c124 => ?_)
                · have hE := zifT c124 hE
                  refine lv_iconst (v := 2) hx hb dX12_reads_119 (by decide) ?_
                  refine miast hx hb hK hw hS 14 mWg13 k123 (by decide) dX12_reads_120 (mW ct h0 y (zset u121 13 (upd (u121 13) (zn (w11_1 + 1)) (2 : Int32))) qw11) mWs13 (fun H locs hw hS => ?_)
                  refine mgen (P := fun x => mJ B x ∧ zFr [104, 105, 106, 108, 109, 12, 122, 13, 14] r x) hw ⟨ju121.set rfl (zI.top _), (fw11.tr fu121 rfl).set rfl⟩ (fun r125 er125 hw pr125 => ?_)
                  have hE := zletE er125 hE
                  refine lv_aload_n hx hb dX12_reads_121 rfl (lv_at hl 1 rfl) ?_
                  refine mget (v := .ref (y 14)) hx hb hts hiX12 hown hK hw 25 (by decide) lf53 rfl rfl dX12_reads_122 ?_
                  refine lv_iload_n hx hb dX12_reads_125 rfl (lv_at hl 0 rfl) ?_
                  refine lv_iconst (v := 0) hx hb dX12_reads_126 (by decide) ?_
                  refine mzast hx hb hK hw hS 15 mWg14 k123 (by decide)  ((zI.lit (a := 0) (b := 0) (c := 0) (by decide)).w (c := 0) (d := 1) (by decide)) dX12_reads_127 (mW ct h0 y (zset r125 14 (upd (r125 14) (zn (w11_1 + 1)) (0 : Int32))) qw11) mWs14 (fun H locs hw hS => ?_)
                  refine mgen (P := fun x => mJ B x ∧ zFr [104, 105, 106, 108, 109, 12, 122, 13, 14] r x) hw ⟨pr125.1.set rfl ((zI.lit (a := 0) (b := 0) (c := 0) (by decide)).w (c := 0) (d := 1) (by decide)), pr125.2.set rfl⟩ (fun r126 er126 hw pr126 => ?_)
                  have hE := zletE er126 hE
                  refine lv_goto (tgt := 172) hx hb dX12_reads_128 (by decide) ?_
                  exact cut172 (w11_1 + 1) w11_2 r126 (k123.w (c := 0) (d := 5) (by decide)) (hw65_2.w (c := 0) (d := 1) (by decide)) pr126.1 pr126.2 (zs_at er126 (zs_at er125 (fu121.at mw65_106_0 rfl) (by decide)) (by decide)) ((mP.fr xp11 ((zs_row (k := 103) er126 (by decide)).trans ((zs_row (k := 103) er125 (by decide)).trans (fu121 103 rfl))) ((zs_row (k := 104) er126 (by decide)).trans ((zs_row (k := 104) er125 (by decide)).trans (fu121 104 rfl))) ((zs_row (k := 105) er126 (by decide)).trans ((zs_row (k := 105) er125 (by decide)).trans (fu121 105 rfl))) ((zs_row (k := 106) er126 (by decide)).trans ((zs_row (k := 106) er125 (by decide)).trans (fu121 106 rfl))))) (by have e9 := congrArg Int32.toInt (congrFun ((zs_row (k := 104) er126 (by decide)).trans ((zs_row (k := 104) er125 (by decide)).trans (fu121 104 rfl))) 0); have := xp11.2.2.resolve_left (tkne mw65_106_0 (by decide)); omega) (by have e9 := congrArg Int32.toInt (congrFun ((zs_row (k := 104) er126 (by decide)).trans ((zs_row (k := 104) er125 (by decide)).trans (fu121 104 rfl))) 0); have := xp11.2.2.resolve_left (tkne mw65_106_0 (by decide)); have e8 := congrArg Int32.toInt ((congrFun ((zs_row (k := 122) er126 (by decide)).trans (zs_row (k := 122) er125 (by decide))) 0).trans yu121_1); rw [i32_s (mC.k xc11 (xp11.b jw11.i (tkne mw65_106_0 (by decide)))) (by decide)] at e8; have := xc11.1; have := xc11.2; exact ⟨by omega, by omega⟩) (xx11.push (mC.k xc11 (xp11.b jw11.i (tkne mw65_106_0 (by decide)))) (by decide) k97 (((zs_row (k := 12) er126 (by decide)).trans (zs_row (k := 12) er125 (by decide))).trans yu121_0) ((congrFun ((zs_row (k := 122) er126 (by decide)).trans (zs_row (k := 122) er125 (by decide))) 0).trans yu121_1) (by rw [(zs_row (k := 13) er126 (by decide)), zs_self er125, (fu121 13 rfl)]) (Or.inl ⟨rfl, rfl⟩)) hE H locs ls hw hS (lv_sub hl [1, 0, 2] rfl)
                · have hE := zifF c124 hE
                  exact zI.abs (a := 1) (b := 0) (zI.neD c124 k107 (zI.lit (a := 0) (b := 0) (c := 0) (by decide)) (by decide)) (by decide)
              · have hE := zifF c120 hE
                exact zI.abs (a := 1) (b := 0) (zI.neD c120 k107 (zI.lit (a := 0) (b := 0) (c := 0) (by decide)) (by decide)) (by decide)
        · have hE := zifnF c96 hE
          have k127 : zI 5 5 (w11_1) := zI.eqq c96 (zI.lit (a := 5) (b := 5) (c := 5) (by decide))
          refine lv_aload_n hx hb dX12_reads_70 rfl (lv_at hl 0 rfl) ?_
          refine lv_iconst (v := 5) hx hb dX12_reads_71 (by decide) ?_
          refine mcallV (As := [.int 5]) (rest := []) ⟨hx, hb, hml, hown, hts⟩ (mc_fails l D ct h0 y B 5 rw11 qw11 ((zI.lit (a := 5) (b := 5) (c := 5) (by decide)).w (c := 1) (d := 5) (by decide)) jw11) (wqX12_193_mc_fails hts ⟨Nat.le_of_ble_eq_true rfl, Nat.le_of_ble_eq_true rfl⟩) hw hS hA hK hN rfl hl.1 rfl (Nat.le_of_ble_eq_true rfl) dX12_reads_72 75 rfl (fun u128 H locs pu128 hw hS => ?_)
          obtain ⟨v129, r130⟩ := u128
          have hv129 : zI 0 0 v129 := pu128.1
          have ju128 : mJ B r130 := pu128.2.1
          have fu128 : zFr [109] rw11 r130 := pu128.2.2.1
          have xu128 : (v129, r130) = (Gm_fails (5 : Int32) rw11 qw11) := pu128.2.2.2.1
          have hE := zc_vrE xu128 hE
          have hw : zPD D A (mW ct h0 y r130 qw11) H := hw
          refine zfr 75 [.int v129] rfl rfl ?_
          exact ziretQ hQ hx hb hr ((hv129.w (c := 0) (d := 1) (by decide)).rn) hlocks (v129, r130, qw11) rfl ⟨(hv129.w (c := 0) (d := 1) (by decide)), ju128, (fw11.tr fu128 rfl), (show mP r130 from (mP.fr xp11 (fu128 103 rfl) (fu128 104 rfl) (fu128 105 rfl) (fu128 106 rfl))), (show (r 105 0).toInt ≤ (r130 105 0).toInt from (by have := xm11; have := congrArg Int32.toInt (congrFun (fu128 105 rfl) 0); omega)), (show mC r130 from (xc11.row (fu128 122 rfl) (fu128 105 rfl))), (fun h => absurd (zI.eq0 hv129) h), (hE.symm.trans hX), trivial⟩ hw hS dX12_reads_75
      intro H locs ls hw hS hl
      refine lv_iload_n hx hb dX12_reads_11 rfl (lv_at hl 2 rfl) ?_
      refine lv_if_eq (tgt := 179) hx hb dX12_reads_12 (by decide) (fun c131 => ?_) (fun c131 => ?_)
      · have hE := zifT c131 hE
        have k132 : zI 0 0 (w11_2) := zI.eqq c131 (zI.lit (a := 0) (b := 0) (c := 0) (by decide))
        refine lv_aload_n hx hb dX12_reads_179 rfl (lv_at hl 0 rfl) ?_
        refine lv_bipush (v := 43) hx hb dX12_reads_180 (by decide) ?_
        refine mcallV (As := [.int 43]) (rest := []) ⟨hx, hb, hml, hown, hts⟩ (mc_isSign l D ct h0 y B 43 rw11 qw11 jw11 (xp11)) (wqX12_189_mc_isSign hts ⟨Nat.le_of_ble_eq_true rfl, Nat.le_of_ble_eq_true rfl⟩) hw hS hA hK hN rfl hl.1 rfl (Nat.le_of_ble_eq_true rfl) dX12_reads_182 185 rfl (fun u133 H locs pu133 hw hS => ?_)
        have hu133 : zI 0 1 u133 := pu133.1
        have yu133_0 : ¬ u133 = 0 → zI 3 3 (rw11 106 0) := pu133.2.1
        have xu133 : u133 = (Gm_isSign (43 : Int32) rw11 qw11) := pu133.2.2.1
        have hE := zletE xu133 hE
        have hw : zPD D A (mW ct h0 y rw11 qw11) H := hw
        refine zfr 185 [.int u133] rfl rfl ?_
        refine lv_if_ne (tgt := 206) hx hb dX12_reads_185 (by decide) (fun c135 => ?_) (fun c135 => ?_)
        · have hE := zifnT c135 hE
          have k136 : zI 1 1 (u133) := zI.neD c135 hu133 (zI.lit (a := 0) (b := 0) (c := 0) (by decide)) (by decide)
          exact cut206 hw11_1 (yu133_0 c135) hE H locs ls hw hS (lv_sub hl [0, 1] rfl)
        · have hE := zifnF c135 hE
          have k137 : zI 0 0 (u133) := zI.eqq c135 (zI.lit (a := 0) (b := 0) (c := 0) (by decide))
          refine lv_aload_n hx hb dX12_reads_188 rfl (lv_at hl 0 rfl) ?_
          refine lv_bipush (v := 45) hx hb dX12_reads_189 (by decide) ?_
          refine mcallV (As := [.int 45]) (rest := []) ⟨hx, hb, hml, hown, hts⟩ (mc_isSign l D ct h0 y B 45 rw11 qw11 jw11 (xp11)) (wqX12_189_mc_isSign hts ⟨Nat.le_of_ble_eq_true rfl, Nat.le_of_ble_eq_true rfl⟩) hw hS hA hK hN rfl hl.1 rfl (Nat.le_of_ble_eq_true rfl) dX12_reads_191 194 rfl (fun u138 H locs pu138 hw hS => ?_)
          have hu138 : zI 0 1 u138 := pu138.1
          have yu138_0 : ¬ u138 = 0 → zI 3 3 (rw11 106 0) := pu138.2.1
          have xu138 : u138 = (Gm_isSign (45 : Int32) rw11 qw11) := pu138.2.2.1
          have hE := zletE xu138 hE
          have hw : zPD D A (mW ct h0 y rw11 qw11) H := hw
          refine zfr 194 [.int u138] rfl rfl ?_
          refine lv_if_ne (tgt := 206) hx hb dX12_reads_194 (by decide) (fun c140 => ?_) (fun c140 => ?_)
          · have hE := zifnT c140 hE
            have k141 : zI 1 1 (u138) := zI.neD c140 hu138 (zI.lit (a := 0) (b := 0) (c := 0) (by decide)) (by decide)
            exact cut206 hw11_1 (yu138_0 c140) hE H locs ls hw hS (lv_sub hl [0, 1] rfl)
          · have hE := zifnF c140 hE
            have k142 : zI 0 0 (u138) := zI.eqq c140 (zI.lit (a := 0) (b := 0) (c := 0) (by decide))
            refine lv_aload_n hx hb dX12_reads_197 rfl (lv_at hl 0 rfl) ?_
            refine lv_bipush (v := 42) hx hb dX12_reads_198 (by decide) ?_
            refine mcallV (As := [.int 42]) (rest := []) ⟨hx, hb, hml, hown, hts⟩ (mc_isSign l D ct h0 y B 42 rw11 qw11 jw11 (xp11)) (wqX12_189_mc_isSign hts ⟨Nat.le_of_ble_eq_true rfl, Nat.le_of_ble_eq_true rfl⟩) hw hS hA hK hN rfl hl.1 rfl (Nat.le_of_ble_eq_true rfl) dX12_reads_200 203 rfl (fun u143 H locs pu143 hw hS => ?_)
            have hu143 : zI 0 1 u143 := pu143.1
            have yu143_0 : ¬ u143 = 0 → zI 3 3 (rw11 106 0) := pu143.2.1
            have xu143 : u143 = (Gm_isSign (42 : Int32) rw11 qw11) := pu143.2.2.1
            have hE := zletE xu143 hE
            have hw : zPD D A (mW ct h0 y rw11 qw11) H := hw
            refine zfr 203 [.int u143] rfl rfl ?_
            refine lv_if_eq (tgt := 245) hx hb dX12_reads_203 (by decide) (fun c145 => ?_) (fun c145 => ?_)
            · have hE := zifT c145 hE
              have k146 : zI 0 0 (u143) := zI.eqq c145 (zI.lit (a := 0) (b := 0) (c := 0) (by decide))
              refine lv_aload_n hx hb dX12_reads_245 rfl (lv_at hl 0 rfl) ?_
              refine lv_bipush (v := 60) hx hb dX12_reads_246 (by decide) ?_
              refine mcallV (As := [.int 60]) (rest := []) ⟨hx, hb, hml, hown, hts⟩ (mc_isSign l D ct h0 y B 60 rw11 qw11 jw11 (xp11)) (wqX12_189_mc_isSign hts ⟨Nat.le_of_ble_eq_true rfl, Nat.le_of_ble_eq_true rfl⟩) hw hS hA hK hN rfl hl.1 rfl (Nat.le_of_ble_eq_true rfl) dX12_reads_248 251 rfl (fun u147 H locs pu147 hw hS => ?_)
              have hu147 : zI 0 1 u147 := pu147.1
              have yu147_0 : ¬ u147 = 0 → zI 3 3 (rw11 106 0) := pu147.2.1
              have xu147 : u147 = (Gm_isSign (60 : Int32) rw11 qw11) := pu147.2.2.1
              have hE := zletE xu147 hE
              have hw : zPD D A (mW ct h0 y rw11 qw11) H := hw
              refine zfr 251 [.int u147] rfl rfl ?_
              refine lv_if_ne (tgt := 263) hx hb dX12_reads_251 (by decide) (fun c149 => ?_) (fun c149 => ?_)
              · have hE := zifnT c149 hE
                have k150 : zI 1 1 (u147) := zI.neD c149 hu147 (zI.lit (a := 0) (b := 0) (c := 0) (by decide)) (by decide)
                exact cut263 hw11_1 k132 (yu147_0 c149) hE H locs ls hw hS (lv_sub hl [0, 1, 2] rfl)
              · have hE := zifnF c149 hE
                have k151 : zI 0 0 (u147) := zI.eqq c149 (zI.lit (a := 0) (b := 0) (c := 0) (by decide))
                refine lv_aload_n hx hb dX12_reads_254 rfl (lv_at hl 0 rfl) ?_
                refine lv_bipush (v := 61) hx hb dX12_reads_255 (by decide) ?_
                refine mcallV (As := [.int 61]) (rest := []) ⟨hx, hb, hml, hown, hts⟩ (mc_isSign l D ct h0 y B 61 rw11 qw11 jw11 (xp11)) (wqX12_189_mc_isSign hts ⟨Nat.le_of_ble_eq_true rfl, Nat.le_of_ble_eq_true rfl⟩) hw hS hA hK hN rfl hl.1 rfl (Nat.le_of_ble_eq_true rfl) dX12_reads_257 260 rfl (fun u152 H locs pu152 hw hS => ?_)
                have hu152 : zI 0 1 u152 := pu152.1
                have yu152_0 : ¬ u152 = 0 → zI 3 3 (rw11 106 0) := pu152.2.1
                have xu152 : u152 = (Gm_isSign (61 : Int32) rw11 qw11) := pu152.2.2.1
                have hE := zletE xu152 hE
                have hw : zPD D A (mW ct h0 y rw11 qw11) H := hw
                refine zfr 260 [.int u152] rfl rfl ?_
                refine lv_if_eq (tgt := 304) hx hb dX12_reads_260 (by decide) (fun c154 => ?_) (fun c154 => ?_)
                · have hE := zifT c154 hE
                  have k155 : zI 0 0 (u152) := zI.eqq c154 (zI.lit (a := 0) (b := 0) (c := 0) (by decide))
                  exact cut304 hw11_1 k132 hE H locs ls hw hS (lv_sub hl [0, 1, 2] rfl)
                · have hE := zifF c154 hE
                  have k156 : zI 1 1 (u152) := zI.neD c154 hu152 (zI.lit (a := 0) (b := 0) (c := 0) (by decide)) (by decide)
                  exact cut263 hw11_1 k132 (yu152_0 c154) hE H locs ls hw hS (lv_sub hl [0, 1, 2] rfl)
            · have hE := zifF c145 hE
              have k157 : zI 1 1 (u143) := zI.neD c145 hu143 (zI.lit (a := 0) (b := 0) (c := 0) (by decide)) (by decide)
              exact cut206 hw11_1 (yu143_0 c145) hE H locs ls hw hS (lv_sub hl [0, 1] rfl)
      · have hE := zifF c131 hE
        have k158 : zI 1 1 (w11_2) := zI.neD c131 hw11_2 (zI.lit (a := 0) (b := 0) (c := 0) (by decide)) (by decide)
        refine lv_aload_n hx hb dX12_reads_15 rfl (lv_at hl 0 rfl) ?_
        refine mcallV (As := []) (rest := []) ⟨hx, hb, hml, hown, hts⟩ (mc_fact l D ct h0 y B rw11 qw11 jw11) (wqX12_179_mc_fact hts ⟨Nat.le_of_ble_eq_true rfl, Nat.le_of_ble_eq_true rfl⟩) hw hS hA hK hN rfl hl.1 rfl (Nat.le_of_ble_eq_true rfl) dX12_reads_16 19 rfl (fun u159 H locs pu159 hw hS => ?_)
        have hu159 : zI 0 4 u159 := pu159.1
        have yu159_0 : ¬ u159 = 0 → zI 1 1 (rw11 106 0) := pu159.2.1
        have xu159 : u159 = (Gm_fact rw11 qw11) := pu159.2.2.1
        have hE := zletE xu159 hE
        have hw : zPD D A (mW ct h0 y rw11 qw11) H := hw
        refine zfr 19 [.int u159] rfl rfl ?_
        refine lv_istore_n (lv' := [(3, .int u159), (0, .ref h0), (1, .int w11_1), (2, .int w11_2)]) hx hb dX12_reads_19 rfl hl (by decide) rfl (fun ls hl => ?_)
        refine lv_aload_n hx hb dX12_reads_20 rfl (lv_at hl 1 rfl) ?_
        refine lv_ldc2 hx hb hown (hts (.constantLong RX12 183 10631) (ki (zr24 12 rfl))) dX12_reads_21 ?_
        refine mcallV (As := [.long 10631]) (rest := []) ⟨hx, hb, hml, hown, hts⟩ (mc_isWord l D ct h0 y B 10631 rw11 qw11 jw11) (wqX12_185_mc_isWord hts ⟨Nat.le_of_ble_eq_true rfl, Nat.le_of_ble_eq_true rfl⟩) hw hS hA hK hN rfl hl.1 rfl (Nat.le_of_ble_eq_true rfl) dX12_reads_24 27 rfl (fun u161 H locs pu161 hw hS => ?_)
        have hu161 : zI 0 1 u161 := pu161.1
        have yu161_0 : ¬ u161 = 0 → zI 1 1 (rw11 106 0) := pu161.2.1
        have xu161 : u161 = (Gm_isWord (10631 : Int64) rw11 qw11) := pu161.2.2.1
        have hE := zletE xu161 hE
        have hw : zPD D A (mW ct h0 y rw11 qw11) H := hw
        refine zfr 27 [.int u161] rfl rfl ?_
        refine lv_istore (lv' := [(4, .int u161), (3, .int u159), (0, .ref h0), (1, .int w11_1), (2, .int w11_2)]) hx hb dX12_reads_27 hl (by decide) rfl (fun ls hl => ?_)
        refine lv_aload_n hx hb dX12_reads_29 rfl (lv_at hl 2 rfl) ?_
        refine lv_bipush (v := 40) hx hb dX12_reads_30 (by decide) ?_
        refine mcallV (As := [.int 40]) (rest := []) ⟨hx, hb, hml, hown, hts⟩ (mc_isSign l D ct h0 y B 40 rw11 qw11 jw11 (xp11)) (wqX12_189_mc_isSign hts ⟨Nat.le_of_ble_eq_true rfl, Nat.le_of_ble_eq_true rfl⟩) hw hS hA hK hN rfl hl.1 rfl (Nat.le_of_ble_eq_true rfl) dX12_reads_32 35 rfl (fun u163 H locs pu163 hw hS => ?_)
        have hu163 : zI 0 1 u163 := pu163.1
        have yu163_0 : ¬ u163 = 0 → zI 3 3 (rw11 106 0) := pu163.2.1
        have xu163 : u163 = (Gm_isSign (40 : Int32) rw11 qw11) := pu163.2.2.1
        have hE := zletE xu163 hE
        have hw : zPD D A (mW ct h0 y rw11 qw11) H := hw
        refine zfr 35 [.int u163] rfl rfl ?_
        refine lv_istore (lv' := [(5, .int u163), (4, .int u161), (3, .int u159), (0, .ref h0), (1, .int w11_1), (2, .int w11_2)]) hx hb dX12_reads_35 hl (by decide) rfl (fun ls hl => ?_)
        refine lv_iload_n hx hb dX12_reads_37 rfl (lv_at hl 2 rfl) ?_
        refine lv_if_ne (tgt := 65) hx hb dX12_reads_38 (by decide) (fun c165 => ?_) (fun c165 => ?_)
        · have hE := zifnT c165 hE
          have k166 : zI 1 4 (u159) := zI.neD c165 hu159 (zI.lit (a := 0) (b := 0) (c := 0) (by decide)) (by decide)
          exact cut65 u159 u161 u163 hw11_1 k158 (k166.w (c := 0) (d := 4) (by decide)) hu161 hu163 ((yu159_0 c165).w (c := 1) (d := 3) (by decide)) hE H locs ls hw hS (lv_sub hl [3, 4, 5, 2, 1, 0] rfl)
        · have hE := zifnF c165 hE
          have k167 : zI 0 0 (u159) := zI.eqq c165 (zI.lit (a := 0) (b := 0) (c := 0) (by decide))
          refine lv_iload hx hb dX12_reads_41 (lv_at hl 1 rfl) ?_
          refine lv_if_ne (tgt := 65) hx hb dX12_reads_43 (by decide) (fun c168 => ?_) (fun c168 => ?_)
          · have hE := zifnT c168 hE
            have k169 : zI 1 1 (u161) := zI.neD c168 hu161 (zI.lit (a := 0) (b := 0) (c := 0) (by decide)) (by decide)
            exact cut65 u159 u161 u163 hw11_1 k158 (k167.w (c := 0) (d := 4) (by decide)) (k169.w (c := 0) (d := 1) (by decide)) hu163 ((yu161_0 c168).w (c := 1) (d := 3) (by decide)) hE H locs ls hw hS (lv_sub hl [3, 4, 5, 2, 1, 0] rfl)
          · have hE := zifnF c168 hE
            have k170 : zI 0 0 (u161) := zI.eqq c168 (zI.lit (a := 0) (b := 0) (c := 0) (by decide))
            refine lv_iload hx hb dX12_reads_46 (lv_at hl 0 rfl) ?_
            refine lv_if_ne (tgt := 65) hx hb dX12_reads_48 (by decide) (fun c171 => ?_) (fun c171 => ?_)
            · have hE := zifnT c171 hE
              have k172 : zI 1 1 (u163) := zI.neD c171 hu163 (zI.lit (a := 0) (b := 0) (c := 0) (by decide)) (by decide)
              exact cut65 u159 u161 u163 hw11_1 k158 (k167.w (c := 0) (d := 4) (by decide)) (k170.w (c := 0) (d := 1) (by decide)) (k172.w (c := 0) (d := 1) (by decide)) ((yu163_0 c171).w (c := 1) (d := 3) (by decide)) hE H locs ls hw hS (lv_sub hl [3, 4, 5, 2, 1, 0] rfl)
            · have hE := zifnF c171 hE
              have k173 : zI 0 0 (u163) := zI.eqq c171 (zI.lit (a := 0) (b := 0) (c := 0) (by decide))
              refine lv_aload_n hx hb dX12_reads_51 rfl (lv_at hl 3 rfl) ?_
              refine mget (v := .int (rw11 106 0)) hx hb hts hiX12 hown hK hw 6 (by decide) lf154 rfl rfl dX12_reads_52 ?_
              refine lv_iconst (v := 2) hx hb dX12_reads_55 (by decide) ?_
              refine lv_icmp_eq (tgt := 65) hx hb dX12_reads_56 (by decide) (fun c174 => ?_) (fun c174 => ?_)
              · have hE := zifT c174 hE
                have k175 : zI 2 2 (rw11 106 0) := zI.eqq c174 (zI.lit (a := 2) (b := 2) (c := 2) (by decide))
                exact cut65 u159 u161 u163 hw11_1 k158 (k167.w (c := 0) (d := 4) (by decide)) (k170.w (c := 0) (d := 1) (by decide)) (k173.w (c := 0) (d := 1) (by decide)) (k175.w (c := 1) (d := 3) (by decide)) hE H locs ls hw hS (lv_sub hl [3, 4, 5, 2, 1, 0] rfl)
              · have hE := zifF c174 hE
                refine lv_aload_n hx hb dX12_reads_59 rfl (lv_at hl 3 rfl) ?_
                refine lv_iconst (v := 1) hx hb dX12_reads_60 (by decide) ?_
                refine mcallV (As := [.int 1]) (rest := []) ⟨hx, hb, hml, hown, hts⟩ (mc_fails l D ct h0 y B 1 rw11 qw11 ((zI.lit (a := 1) (b := 1) (c := 1) (by decide)).w (c := 1) (d := 5) (by decide)) jw11) (wqX12_193_mc_fails hts ⟨Nat.le_of_ble_eq_true rfl, Nat.le_of_ble_eq_true rfl⟩) hw hS hA hK hN rfl hl.1 rfl (Nat.le_of_ble_eq_true rfl) dX12_reads_61 64 rfl (fun u176 H locs pu176 hw hS => ?_)
                obtain ⟨v177, r178⟩ := u176
                have hv177 : zI 0 0 v177 := pu176.1
                have ju176 : mJ B r178 := pu176.2.1
                have fu176 : zFr [109] rw11 r178 := pu176.2.2.1
                have xu176 : (v177, r178) = (Gm_fails (1 : Int32) rw11 qw11) := pu176.2.2.2.1
                have hE := zc_vrE xu176 hE
                have hw : zPD D A (mW ct h0 y r178 qw11) H := hw
                refine zfr 64 [.int v177] rfl rfl ?_
                exact ziretQ hQ hx hb hr ((hv177.w (c := 0) (d := 1) (by decide)).rn) hlocks (v177, r178, qw11) rfl ⟨(hv177.w (c := 0) (d := 1) (by decide)), ju176, (fw11.tr fu176 rfl), (show mP r178 from (mP.fr xp11 (fu176 103 rfl) (fu176 104 rfl) (fu176 105 rfl) (fu176 106 rfl))), (show (r 105 0).toInt ≤ (r178 105 0).toInt from (by have := xm11; have := congrArg Int32.toInt (congrFun (fu176 105 rfl) 0); omega)), (show mC r178 from (xc11.row (fu176 122 rfl) (fu176 105 rfl))), (fun h => absurd (zI.eq0 hv177) h), (hE.symm.trans hX), trivial⟩ hw hS dX12_reads_64
  intro H locs hw hS ls hl
  have hl : lv_has ls 6 [(0, .ref h0)] := hl
  have hE := hX
  unfold Gm_reads at hE
  refine lv_iconst (v := 0) hx hb dX12_reads_0 (by decide) ?_
  refine lv_istore_n (lv' := [(1, .int 0), (0, .ref h0)]) hx hb dX12_reads_1 rfl hl (by decide) rfl (fun ls hl => ?_)
  refine lv_iconst (v := 1) hx hb dX12_reads_2 (by decide) ?_
  refine lv_istore_n (lv' := [(2, .int 1), (1, .int 0), (0, .ref h0)]) hx hb dX12_reads_3 rfl hl (by decide) rfl (fun ls hl => ?_)
  refine lv_aload_n hx hb dX12_reads_4 rfl (lv_at hl 2 rfl) ?_
  refine mget (v := .ref (y 14)) hx hb hts hiX12 hown hK hw 25 (by decide) lf53 rfl rfl dX12_reads_5 ?_
  refine lv_iconst (v := 0) hx hb dX12_reads_8 (by decide) ?_
  refine lv_iconst (v := 0) hx hb dX12_reads_9 (by decide) ?_
  refine zzast hx hb hK hw hS 15 mWg14 0 (by decide) (by decide) (by decide) 0 ((zI.lit (a := 0) (b := 0) (c := 0) (by decide)).w (c := 0) (d := 1) (by decide)).bn dX12_reads_10 (mW ct h0 y (zset r 14 (upd (r 14) 0 (0 : Int32))) q) mWs14 (fun H locs hw hS => ?_)
  refine mgen (P := fun x => mJ B x ∧ zFr [104, 105, 106, 108, 109, 12, 122, 13, 14] r x) hw ⟨hJ0.set rfl ((zI.lit (a := 0) (b := 0) (c := 0) (by decide)).w (c := 0) (d := 1) (by decide)), (zFr.refl).set rfl⟩ (fun r179 er179 hw pr179 => ?_)
  have hE := zletE er179 hE
  exact cut11 1002 0 1 r179 q ((zI.lit (a := 0) (b := 0) (c := 0) (by decide)).w (c := 0) (d := 5) (by decide)) ((zI.lit (a := 1) (b := 1) (c := 1) (by decide)).w (c := 0) (d := 1) (by decide)) pr179.1 pr179.2 ((mP.fr x1 (zs_row (k := 103) er179 (by decide)) (zs_row (k := 104) er179 (by decide)) (zs_row (k := 105) er179 (by decide)) (zs_row (k := 106) er179 (by decide)))) (by have := congrArg Int32.toInt (congrFun (zs_row (k := 105) er179 (by decide)) 0); omega) (x2.row (zs_row (k := 122) er179 (by decide)) (zs_row (k := 105) er179 (by decide))) ((mX.new (R := r) trivial).row (zs_row (k := 12) er179 (by decide)) (zs_row (k := 122) er179 (by decide)) (zs_row (k := 13) er179 (by decide))) hE (by have h9 : zI 0 1000 (r179 105 0) := pr179.1.i 105 0; have := h9.1; omega) H locs ls hw hS (lv_sub hl [2, 1, 0] rfl)

set_option maxHeartbeats 4000000 in
set_option maxRecDepth 100000 in
theorem mc_readsReads (l : Launch) (D : va_G) (ct : Nat → ClassId) (h0 : Nat) (y : Nat → Nat) (B : Int) (r : zRr) (q : zRq) (hJ0 : mJ B r) (x1 : mP r) (x2 : zI 1 4 (r 106 0)) (x3 : mC r) : zC l yX12_readsReads (.code yX12_readsReads cX12_readsReads 1 (some .boolean) :: wsL_law0) ({ frames := 4, cells := 0, slots := 0, locals := 200 }) D ct [] [.ref h0] (mW ct h0 y r q) (S := Int32 × zRr × zRq) (fun u => some (.int u.1)) (fun u => zI 0 1 u.1 ∧ mJ B u.2.1 ∧ zFr [104, 105, 106, 108, 109, 12, 122, 13, 14, 10, 11] r u.2.1 ∧ (mP u.2.1) ∧ (¬ u.1 = 0 → (r 105 0).toInt < (u.2.1 105 0).toInt) ∧ (¬ u.1 = 0 → mC u.2.1) ∧ (¬ u.1 = 0 → mD1 u.2.1) ∧ (¬ u.1 = 0 → mF1 u.2.1) ∧ u = (Gm_readsReads r q) ∧ True) (fun u => mW ct h0 y u.2.1 u.2.2) 0 0 := by
  refine zofQ cX12_readsReads 1 (some .boolean) (by decide) rfl (Nat.le_of_ble_eq_true rfl) ?_
  intro p e s m below meth c A a9 Q ha9 hx hb hr hml hts hown hlocks hname hK hA hZ hN hQ
  have hown : s.vm.findClass RX12 = some m.cls := hown
  have hiX12 : ∀ w ∈ wsX120, w ∈ .code yX12_readsReads cX12_readsReads 1 (some .boolean) :: wsL_law0 := fun _ h => ki (zs_wsX120 _ h)
  have lf41 := hts (.fieldLink RX12 41 "BeardPassModel" "lineFrom" "[I") (ki (zr8 5 rfl))
  have lf44 := hts (.fieldLink RX12 44 "BeardPassModel" "lineTo" "[I") (ki (zr8 6 rfl))
  have lf168 := hts (.fieldLink RX12 168 "BeardPassModel" "code" "I") (ki (zr21 23 rfl))
  obtain ⟨X, hX⟩ : ∃ X, X = (Gm_readsReads r q) := ⟨_, rfl⟩
  intro H locs hw hS ls hl
  have hl : lv_has ls 1 [(0, .ref h0)] := hl
  have hE := hX
  unfold Gm_readsReads at hE
  refine lv_aload_n hx hb dX12_readsReads_0 rfl (lv_at hl 0 rfl) ?_
  refine mget (v := .ref (y 11)) hx hb hts hiX12 hown hK hw 20 (by decide) lf44 rfl rfl dX12_readsReads_1 ?_
  refine lv_iconst (v := 1) hx hb dX12_readsReads_4 (by decide) ?_
  refine ziald hx hb hK hw 12 mWg11 1 (by decide) (by decide) (by decide) dX12_readsReads_5 (zgenE (lo := 0) (hi := 2000) ((show zI 0 2000 (r 11 1) from hJ0.i 11 1)) (fun v1 ev1 hv1 => ?_))
  have hE := zletE ev1 hE
  refine lv_aload_n hx hb dX12_readsReads_6 rfl (lv_at hl 0 rfl) ?_
  refine mget (v := .ref (y 10)) hx hb hts hiX12 hown hK hw 19 (by decide) lf41 rfl rfl dX12_readsReads_7 ?_
  refine lv_iconst (v := 1) hx hb dX12_readsReads_10 (by decide) ?_
  refine ziald hx hb hK hw 11 mWg10 1 (by decide) (by decide) (by decide) dX12_readsReads_11 (zgenE (lo := 0) (hi := 2000) ((show zI 0 2000 (r 10 1) from hJ0.i 10 1)) (fun v2 ev2 hv2 => ?_))
  have hE := zletE ev2 hE
  refine lv_icmp_le (tgt := 21) hx hb dX12_readsReads_12 (by decide) (fun c3 => ?_) (fun c3 => ?_)
  · have hE := zifT c3 hE
    refine lv_aload_n hx hb dX12_readsReads_21 rfl (lv_at hl 0 rfl) ?_
    refine mcallV (As := []) (rest := []) ⟨hx, hb, hml, hown, hts⟩ (mc_nextToken l D ct h0 y B r q hJ0 ((x1).2.1)) (wqX12_200_mc_nextToken hts ⟨Nat.le_of_ble_eq_true rfl, Nat.le_of_ble_eq_true rfl⟩) hw hS hA hK hN rfl hl.1 rfl (Nat.le_of_ble_eq_true rfl) dX12_readsReads_22 25 rfl (fun u4 H locs pu4 hw hS => ?_)
    obtain ⟨r5, q6⟩ := u4
    have ju4 : mJ B r5 := pu4.1
    have fu4 : zFr [104, 105, 106, 108] r r5 := pu4.2.1
    have yu4_0 : mP r5 := pu4.2.2.1
    have yu4_1 : (r 104 0).toInt ≤ (r5 105 0).toInt := pu4.2.2.2.1
    have xu4 : (r5, q6) = (Gm_nextToken r q) := pu4.2.2.2.2.1
    have hE := zc_rqE xu4 hE
    have hw : zPD D A (mW ct h0 y r5 q6) H := hw
    refine zfr 25 [] rfl rfl ?_
    refine lv_aload_n hx hb dX12_readsReads_25 rfl (lv_at hl 0 rfl) ?_
    refine mget (v := .ref (y 10)) hx hb hts hiX12 hown hK hw 19 (by decide) lf41 rfl rfl dX12_readsReads_26 ?_
    refine lv_iconst (v := 1) hx hb dX12_readsReads_29 (by decide) ?_
    refine lv_aload_n hx hb dX12_readsReads_30 rfl (lv_at hl 0 rfl) ?_
    refine mget (v := .int (r5 122 0)) hx hb hts hiX12 hown hK hw 22 (by decide) lf168 rfl rfl dX12_readsReads_31 ?_
    refine ziast hx hb hK hw hS 11 mWg10 1 (by decide) (by decide) (by decide) dX12_readsReads_34 (mW ct h0 y (zset r5 10 (upd (r5 10) 1 (r5 122 0))) q6) mWs10 (fun H locs hw hS => ?_)
    refine mgen (P := fun x => mJ B x ∧ zFr [104, 105, 106, 108, 109, 12, 122, 13, 14, 10, 11] r x) hw ⟨ju4.setF (Or.inl rfl) (fu4.at (mC.w x3 hJ0.i) rfl), ((zFr.refl).tr fu4 rfl).set rfl⟩ (fun r7 er7 hw pr7 => ?_)
    have hE := zletE er7 hE
    refine lv_aload_n hx hb dX12_readsReads_35 rfl (lv_at hl 0 rfl) ?_
    refine mcallV (As := []) (rest := []) ⟨hx, hb, hml, hown, hts⟩ (mc_reads l D ct h0 y B r7 q6 pr7.1 ((mP.fr yu4_0 (zs_row (k := 103) er7 (by decide)) (zs_row (k := 104) er7 (by decide)) (zs_row (k := 105) er7 (by decide)) (zs_row (k := 106) er7 (by decide)))) (x3.up ((zs_row (k := 122) er7 (by decide)).trans (fu4 122 rfl)) (by have := congrArg Int32.toInt (congrFun (zs_row (k := 105) er7 (by decide)) 0); have := yu4_1; have := (x1).1; omega))) (wqX12_295_mc_reads hts ⟨Nat.le_of_ble_eq_true rfl, Nat.le_of_ble_eq_true rfl⟩) hw hS hA hK hN rfl hl.1 rfl (Nat.le_of_ble_eq_true rfl) dX12_readsReads_36 39 rfl (fun u8 H locs pu8 hw hS => ?_)
    obtain ⟨v9, r10, q11⟩ := u8
    have hv9 : zI 0 1 v9 := pu8.1
    have ju8 : mJ B r10 := pu8.2.1
    have fu8 : zFr [104, 105, 106, 108, 109, 12, 122, 13, 14] r7 r10 := pu8.2.2.1
    have yu8_0 : mP r10 := pu8.2.2.2.1
    have yu8_1 : (r7 105 0).toInt ≤ (r10 105 0).toInt := pu8.2.2.2.2.1
    have yu8_2 : mC r10 := pu8.2.2.2.2.2.1
    have yu8_3 : ¬ v9 = 0 → mDf (r10 12) (zn (r7 122 0)) (zn (r10 122 0)) := pu8.2.2.2.2.2.2.1
    have xu8 : (v9, r10, q11) = (Gm_reads r7 q6) := pu8.2.2.2.2.2.2.2.1
    have hE := zc_vrqE xu8 hE
    have hw : zPD D A (mW ct h0 y r10 q11) H := hw
    refine zfr 39 [.int v9] rfl rfl ?_
    refine lv_if_ne (tgt := 44) hx hb dX12_readsReads_39 (by decide) (fun c12 => ?_) (fun c12 => ?_)
    · have hE := zifnT c12 hE
      have k13 : zI 1 1 (v9) := zI.neD c12 hv9 (zI.lit (a := 0) (b := 0) (c := 0) (by decide)) (by decide)
      have k14 : zI 1000 2000 (r10 122 0) := mC.w yu8_2 ju8.i
      refine lv_aload_n hx hb dX12_readsReads_44 rfl (lv_at hl 0 rfl) ?_
      have k15 : zI 1000 2000 (r10 122 0) := mC.w yu8_2 ju8.i
      refine mget (v := .ref (y 11)) hx hb hts hiX12 hown hK hw 20 (by decide) lf44 rfl rfl dX12_readsReads_45 ?_
      refine lv_iconst (v := 1) hx hb dX12_readsReads_48 (by decide) ?_
      refine lv_aload_n hx hb dX12_readsReads_49 rfl (lv_at hl 0 rfl) ?_
      refine mget (v := .int (r10 122 0)) hx hb hts hiX12 hown hK hw 22 (by decide) lf168 rfl rfl dX12_readsReads_50 ?_
      refine ziast hx hb hK hw hS 12 mWg11 1 (by decide) (by decide) (by decide) dX12_readsReads_53 (mW ct h0 y (zset r10 11 (upd (r10 11) 1 (r10 122 0))) q11) mWs11 (fun H locs hw hS => ?_)
      refine mgen (P := fun x => mJ B x ∧ zFr [104, 105, 106, 108, 109, 12, 122, 13, 14, 10, 11] r x) hw ⟨ju8.setF (Or.inr rfl) k15, (pr7.2.tr fu8 rfl).set rfl⟩ (fun r16 er16 hw pr16 => ?_)
      have hE := zletE er16 hE
      refine lv_iconst (v := 1) hx hb dX12_readsReads_54 (by decide) ?_
      exact ziretQ hQ hx hb hr rfl hlocks (1, r16, q11) rfl ⟨((zI.lit (a := 1) (b := 1) (c := 1) (by decide)).w (c := 0) (d := 1) (by decide)), pr16.1, pr16.2, (show mP r16 from (mP.fr yu8_0 (zs_row (k := 103) er16 (by decide)) (zs_row (k := 104) er16 (by decide)) (zs_row (k := 105) er16 (by decide)) (zs_row (k := 106) er16 (by decide)))), (show ¬ (1 : Int32) = 0 → (r 105 0).toInt < (r16 105 0).toInt from (fun _ => by have := congrArg Int32.toInt (congrFun (zs_row (k := 105) er16 (by decide)) 0); have := yu8_1; have := congrArg Int32.toInt (congrFun (zs_row (k := 105) er7 (by decide)) 0); have := yu4_1; have := (x1).1; have := (x1).2.2.resolve_left (tkne x2 (by decide)); omega)), (show ¬ (1 : Int32) = 0 → mC r16 from (fun _ => yu8_2.row (zs_row (k := 122) er16 (by decide)) (zs_row (k := 105) er16 (by decide)))), (show ¬ (1 : Int32) = 0 → mD1 r16 from (fun _ => by unfold mD1; rw [(zs_row (k := 12) er16 (by decide)), ((zs_row (k := 10) er16 (by decide)).trans (fu8 10 rfl)), zs_self er7, zs_self er16, pk_us, pk_us, ← congrFun (zs_row (k := 122) er7 (by decide)) 0]; exact yu8_3 c12)), (show ¬ (1 : Int32) = 0 → mF1 r16 from (fun _ => ⟨(by rw [((zs_row (k := 10) er16 (by decide)).trans (fu8 10 rfl))]; rw [zs_self er7, pk_us]; exact (fu4.at (mC.w x3 hJ0.i) rfl)), (by rw [zs_self er16, pk_us]; exact k15)⟩)), (hE.symm.trans hX), trivial⟩ hw hS dX12_readsReads_55
    · have hE := zifnF c12 hE
      have k17 : zI 0 0 (v9) := zI.eqq c12 (zI.lit (a := 0) (b := 0) (c := 0) (by decide))
      refine lv_iconst (v := 0) hx hb dX12_readsReads_42 (by decide) ?_
      exact ziretQ hQ hx hb hr rfl hlocks (0, r10, q11) rfl ⟨((zI.lit (a := 0) (b := 0) (c := 0) (by decide)).w (c := 0) (d := 1) (by decide)), ju8, (pr7.2.tr fu8 rfl), (show mP r10 from yu8_0), (fun h => absurd rfl h), (fun h => absurd rfl h), (fun h => absurd rfl h), (fun h => absurd rfl h), (hE.symm.trans hX), trivial⟩ hw hS dX12_readsReads_43
  · have hE := zifF c3 hE
    have k18 : zI 0 1999 (v2) := zI.ltU (zI.nle c3) hv2 hv1 (by decide)
    have k19 : zI 1 2000 (v1) := zI.ltD (zI.nle c3) hv2 hv1 (by decide)
    refine lv_aload_n hx hb dX12_readsReads_15 rfl (lv_at hl 0 rfl) ?_
    refine lv_iconst (v := 3) hx hb dX12_readsReads_16 (by decide) ?_
    refine mcallV (As := [.int 3]) (rest := []) ⟨hx, hb, hml, hown, hts⟩ (mc_fails l D ct h0 y B 3 r q ((zI.lit (a := 3) (b := 3) (c := 3) (by decide)).w (c := 1) (d := 5) (by decide)) hJ0) (wqX12_193_mc_fails hts ⟨Nat.le_of_ble_eq_true rfl, Nat.le_of_ble_eq_true rfl⟩) hw hS hA hK hN rfl hl.1 rfl (Nat.le_of_ble_eq_true rfl) dX12_readsReads_17 20 rfl (fun u20 H locs pu20 hw hS => ?_)
    obtain ⟨v21, r22⟩ := u20
    have hv21 : zI 0 0 v21 := pu20.1
    have ju20 : mJ B r22 := pu20.2.1
    have fu20 : zFr [109] r r22 := pu20.2.2.1
    have xu20 : (v21, r22) = (Gm_fails (3 : Int32) r q) := pu20.2.2.2.1
    have hE := zc_vrE xu20 hE
    have hw : zPD D A (mW ct h0 y r22 q) H := hw
    refine zfr 20 [.int v21] rfl rfl ?_
    exact ziretQ hQ hx hb hr ((hv21.w (c := 0) (d := 1) (by decide)).rn) hlocks (v21, r22, q) rfl ⟨(hv21.w (c := 0) (d := 1) (by decide)), ju20, ((zFr.refl).tr fu20 rfl), (show mP r22 from (mP.fr x1 (fu20 103 rfl) (fu20 104 rfl) (fu20 105 rfl) (fu20 106 rfl))), (fun h => absurd (zI.eq0 hv21) h), (fun h => absurd (zI.eq0 hv21) h), (fun h => absurd (zI.eq0 hv21) h), (fun h => absurd (zI.eq0 hv21) h), (hE.symm.trans hX), trivial⟩ hw hS dX12_readsReads_20

set_option maxHeartbeats 4000000 in
set_option maxRecDepth 100000 in
theorem mc_begins (l : Launch) (D : va_G) (ct : Nat → ClassId) (h0 : Nat) (y : Nat → Nat) (B : Int) (r : zRr) (q : zRq) (hJ0 : mJ B r) : zC l yX12_begins (.code yX12_begins cX12_begins 1 none :: wsL_law0) ({ frames := 3, cells := 0, slots := 0, locals := 160 }) D ct [] [.ref h0] (mW ct h0 y r q) (S := zRr × zRq) (fun u => none) (fun u => mJ B u.1 ∧ zFr [104, 105, 106, 108, 103, 101] r u.1 ∧ (mP u.1) ∧ (u.1 101 0 = 0) ∧ u = (Gm_begins r q) ∧ True) (fun u => mW ct h0 y u.1 u.2) 0 0 := by
  refine zofQ cX12_begins 1 none (by decide) rfl (Nat.le_of_ble_eq_true rfl) ?_
  intro p e s m below meth c A a9 Q ha9 hx hb hr hml hts hown hlocks hname hK hA hZ hN hQ
  have hown : s.vm.findClass RX12 = some m.cls := hown
  have hiX12 : ∀ w ∈ wsX120, w ∈ .code yX12_begins cX12_begins 1 none :: wsL_law0 := fun _ h => ki (zs_wsX120 _ h)
  have lf135 := hts (.fieldLink RX12 135 "BeardPassModel" "taped" "I") (ki (zr10 3 rfl))
  have lf138 := hts (.fieldLink RX12 138 "BeardPassModel" "size" "I") (ki (zr22 11 rfl))
  have lf141 := hts (.fieldLink RX12 141 "BeardPassModel" "place" "I") (ki (zr22 12 rfl))
  obtain ⟨X, hX⟩ : ∃ X, X = (Gm_begins r q) := ⟨_, rfl⟩
  intro H locs hw hS ls hl
  have hl : lv_has ls 1 [(0, .ref h0)] := hl
  have hE := hX
  unfold Gm_begins at hE
  refine lv_aload_n hx hb dX12_begins_0 rfl (lv_at hl 0 rfl) ?_
  refine lv_aload_n hx hb dX12_begins_1 rfl (lv_at hl 0 rfl) ?_
  refine mget (v := .int (r 101 0)) hx hb hts hiX12 hown hK hw 1 (by decide) lf135 rfl rfl dX12_begins_2 ?_
  refine mput (ty := .int) (v := .int (r 101 0)) hx hb hts hiX12 hown hK hw hS 3 (by decide) lf138 rfl rfl (by decide +kernel) rfl rfl dX12_begins_5 (zset r 103 (fun _ => r 101 0)) _ mWf3 (fun H locs hw hS => ?_)
  refine mgen (P := fun x => mJ B x ∧ zFr [104, 105, 106, 108, 103, 101] r x) hw ⟨hJ0.setc rfl (fun _ => (show zI 0 1000 (r 101 0) from hJ0.i 101 0)), (zFr.refl).set rfl⟩ (fun r1 er1 hw pr1 => ?_)
  have hE := zletE er1 hE
  refine lv_aload_n hx hb dX12_begins_8 rfl (lv_at hl 0 rfl) ?_
  refine lv_iconst (v := 0) hx hb dX12_begins_9 (by decide) ?_
  refine mput (ty := .int) (v := .int 0) hx hb hts hiX12 hown hK hw hS 1 (by decide) lf135 rfl rfl (by decide +kernel) rfl rfl dX12_begins_10 (zset r1 101 (fun _ => (0 : Int32))) _ mWf1 (fun H locs hw hS => ?_)
  refine mgen (P := fun x => mJ B x ∧ zFr [104, 105, 106, 108, 103, 101] r x) hw ⟨pr1.1.setc rfl (fun _ => ((zI.lit (a := 0) (b := 0) (c := 0) (by decide)).w (c := 0) (d := 1000) (by decide))), pr1.2.set rfl⟩ (fun r2 er2 hw pr2 => ?_)
  have hE := zletE er2 hE
  refine lv_aload_n hx hb dX12_begins_13 rfl (lv_at hl 0 rfl) ?_
  refine lv_iconst (v := 0) hx hb dX12_begins_14 (by decide) ?_
  refine mput (ty := .int) (v := .int 0) hx hb hts hiX12 hown hK hw hS 4 (by decide) lf141 rfl rfl (by decide +kernel) rfl rfl dX12_begins_15 (zset r2 104 (fun _ => (0 : Int32))) _ mWf4 (fun H locs hw hS => ?_)
  refine mgen (P := fun x => mJ B x ∧ zFr [104, 105, 106, 108, 103, 101] r x) hw ⟨pr2.1.setc rfl (fun _ => ((zI.lit (a := 0) (b := 0) (c := 0) (by decide)).w (c := 0) (d := 1000) (by decide))), pr2.2.set rfl⟩ (fun r3 er3 hw pr3 => ?_)
  have hE := zletE er3 hE
  refine lv_aload_n hx hb dX12_begins_18 rfl (lv_at hl 0 rfl) ?_
  refine mcallV (As := []) (rest := []) ⟨hx, hb, hml, hown, hts⟩ (mc_nextToken l D ct h0 y B r3 q pr3.1 (by have v103 : (r3 103 0).toInt = (r 101 0).toInt := (by rw [((congrFun (zs_row (k := 103) er3 (by decide)) 0).trans ((congrFun (zs_row (k := 103) er2 (by decide)) 0).trans (congrFun (zs_self er1) 0)))]); have v104 : (r3 104 0).toInt = 0 := (by rw [(congrFun (zs_self er3) 0)]; decide); have h9 : zI 0 1000 (r 101 0) := hJ0.i 101 0; have := h9.1; omega)) (wqX12_200_mc_nextToken hts ⟨Nat.le_of_ble_eq_true rfl, Nat.le_of_ble_eq_true rfl⟩) hw hS hA hK hN rfl hl.1 rfl (Nat.le_of_ble_eq_true rfl) dX12_begins_19 22 rfl (fun u4 H locs pu4 hw hS => ?_)
  obtain ⟨r5, q6⟩ := u4
  have ju4 : mJ B r5 := pu4.1
  have fu4 : zFr [104, 105, 106, 108] r3 r5 := pu4.2.1
  have yu4_0 : mP r5 := pu4.2.2.1
  have yu4_1 : (r3 104 0).toInt ≤ (r5 105 0).toInt := pu4.2.2.2.1
  have xu4 : (r5, q6) = (Gm_nextToken r3 q) := pu4.2.2.2.2.1
  have hE := zc_rqE xu4 hE
  have hw : zPD D A (mW ct h0 y r5 q6) H := hw
  refine zfr 22 [] rfl rfl ?_
  exact zvretQ hQ hx hb hr hlocks (r5, q6) rfl ⟨ju4, (pr3.2.tr fu4 rfl), (show mP r5 from yu4_0), (show r5 101 0 = 0 from ((congrFun (fu4 101 rfl) 0).trans ((congrFun (zs_row (k := 101) er3 (by decide)) 0).trans (congrFun (zs_self er2) 0)))), (hE.symm.trans hX), trivial⟩ hw hS dX12_begins_22

set_option maxHeartbeats 4000000 in
set_option maxRecDepth 100000 in
theorem mc_readsAll (l : Launch) (D : va_G) (ct : Nat → ClassId) (h0 : Nat) (y : Nat → Nat) (B : Int) (r : zRr) (q : zRq) (hJ0 : mJ B r) : zC l yX12_readsAll (.code yX12_readsAll cX12_readsAll 2 (some .boolean) :: wsL_law0) ({ frames := 6, cells := 0, slots := 0, locals := 280 }) D ct [] [.ref h0] (mW ct h0 y r q) (S := Int32 × zRr × zRq) (fun u => some (.int u.1)) (fun u => zI 0 1 u.1 ∧ mJ B u.2.1 ∧ zFr [1, 4, 5, 6, 7, 8, 9, 10, 11, 12, 13, 14, 101, 103, 104, 105, 106, 108, 109, 122, 123, 136] r u.2.1 ∧ (¬ u.1 = 0 → mT1 u.2.1) ∧ (¬ u.1 = 0 → mD1 u.2.1) ∧ (¬ u.1 = 0 → mF1 u.2.1) ∧ (u.2.1 101 0 = 0) ∧ u = (Gm_readsAll r q) ∧ True) (fun u => mW ct h0 y u.2.1 u.2.2) 0 0 := by
  refine zofQ cX12_readsAll 2 (some .boolean) (by decide) rfl (Nat.le_of_ble_eq_true rfl) ?_
  intro p e s m below meth c A a9 Q ha9 hx hb hr hml hts hown hlocks hname hK hA hZ hN hQ
  have hown : s.vm.findClass RX12 = some m.cls := hown
  have hiX12 : ∀ w ∈ wsX120, w ∈ .code yX12_readsAll cX12_readsAll 2 (some .boolean) :: wsL_law0 := fun _ h => ki (zs_wsX120 _ h)
  have lf13 := hts (.fieldLink RX12 13 "BeardPassModel" "land" "[I") (ki (zr7 20 rfl))
  have lf41 := hts (.fieldLink RX12 41 "BeardPassModel" "lineFrom" "[I") (ki (zr8 5 rfl))
  have lf44 := hts (.fieldLink RX12 44 "BeardPassModel" "lineTo" "[I") (ki (zr8 6 rfl))
  have lf154 := hts (.fieldLink RX12 154 "BeardPassModel" "token" "I") (ki (zr22 0 rfl))
  have lf168 := hts (.fieldLink RX12 168 "BeardPassModel" "code" "I") (ki (zr21 23 rfl))
  have lf292 := hts (.fieldLink RX12 292 "BeardPassModel" "toldLines" "I") (ki (zr21 22 rfl))
  obtain ⟨X, hX⟩ : ∃ X, X = (Gm_readsAll r q) := ⟨_, rfl⟩
  have cut64 : ∀ (n64 : Nat) (rw64 : zRr) (qw64 : zRq) (jw64 : mJ B rw64) (fw64 : zFr [1, 4, 5, 6, 7, 8, 9, 10, 11, 12, 13, 14, 101, 103, 104, 105, 106, 108, 109, 122, 123, 136] r rw64) (xp64 : mP rw64) (xc64 : mC rw64) (xt64 : mT1 rw64) (xd64 : mD1 rw64) (xf64 : mF1 rw64) (xz64 : rw64 101 0 = 0) (hE : X = Gm_readsAll_64 n64 rw64 qw64), 1001 - (rw64 105 0).toInt < (n64 : Int) → zKf p l e ({ frames := 6, cells := 0, slots := 0, locals := 280 }) s m a9 below meth c Q D A 64 2 [] (mW ct h0 y rw64 qw64) [(0, .ref h0)] := by
    intro n64
    induction n64 with
    | zero => intro rw64 qw64 jw64 fw64 xp64 xc64 xt64 xd64 xf64 xz64 hE hm64; exact absurd hm64 (by have h9 : zI 0 1000 (rw64 105 0) := jw64.i 105 0; have := h9.2; omega)
    | succ n64 ih64 =>
      intro rw64 qw64 jw64 fw64 xp64 xc64 xt64 xd64 xf64 xz64 hE hm64
      have hE : X = Bm_readsAll_64 (Gm_readsAll_64 n64) rw64 qw64 := hE
      unfold Bm_readsAll_64 at hE
      intro H locs ls hw hS hl
      refine lv_aload_n hx hb dX12_readsAll_64 rfl (lv_at hl 0 rfl) ?_
      refine mget (v := .int (rw64 106 0)) hx hb hts hiX12 hown hK hw 6 (by decide) lf154 rfl rfl dX12_readsAll_65 ?_
      refine lv_if_eq (tgt := 195) hx hb dX12_readsAll_68 (by decide) (fun c1 => ?_) (fun c1 => ?_)
      · have hE := zifT c1 hE
        have k2 : zI 0 0 (rw64 106 0) := zI.eqq c1 (zI.lit (a := 0) (b := 0) (c := 0) (by decide))
        refine lv_iconst (v := 1) hx hb dX12_readsAll_195 (by decide) ?_
        exact ziretQ hQ hx hb hr rfl hlocks (1, rw64, qw64) rfl ⟨((zI.lit (a := 1) (b := 1) (c := 1) (by decide)).w (c := 0) (d := 1) (by decide)), jw64, fw64, (show ¬ (1 : Int32) = 0 → mT1 rw64 from (fun _ => xt64)), (show ¬ (1 : Int32) = 0 → mD1 rw64 from (fun _ => xd64)), (show ¬ (1 : Int32) = 0 → mF1 rw64 from (fun _ => xf64)), (show rw64 101 0 = 0 from xz64), (hE.symm.trans hX), trivial⟩ hw hS dX12_readsAll_196
      · have hE := zifF c1 hE
        have k3 : zI 1 4 (rw64 106 0) := zI.neD c1 (show zI 0 4 (rw64 106 0) from jw64.i 106 0) (zI.lit (a := 0) (b := 0) (c := 0) (by decide)) (by decide)
        refine lv_aload_n hx hb dX12_readsAll_71 rfl (lv_at hl 0 rfl) ?_
        refine lv_ldc2 hx hb hown (hts (.constantLong RX12 216 405230) (ki (zr22 1 rfl))) dX12_readsAll_72 ?_
        refine mcallV (As := [.long 405230]) (rest := []) ⟨hx, hb, hml, hown, hts⟩ (mc_isWord l D ct h0 y B 405230 rw64 qw64 jw64) (wqX12_185_mc_isWord hts ⟨Nat.le_of_ble_eq_true rfl, Nat.le_of_ble_eq_true rfl⟩) hw hS hA hK hN rfl hl.1 rfl (Nat.le_of_ble_eq_true rfl) dX12_readsAll_75 78 rfl (fun u4 H locs pu4 hw hS => ?_)
        have hu4 : zI 0 1 u4 := pu4.1
        have yu4_0 : ¬ u4 = 0 → zI 1 1 (rw64 106 0) := pu4.2.1
        have xu4 : u4 = (Gm_isWord (405230 : Int64) rw64 qw64) := pu4.2.2.1
        have hE := zletE xu4 hE
        have hw : zPD D A (mW ct h0 y rw64 qw64) H := hw
        refine zfr 78 [.int u4] rfl rfl ?_
        refine lv_if_eq (tgt := 88) hx hb dX12_readsAll_78 (by decide) (fun c6 => ?_) (fun c6 => ?_)
        · have hE := zifT c6 hE
          have k7 : zI 0 0 (u4) := zI.eqq c6 (zI.lit (a := 0) (b := 0) (c := 0) (by decide))
          refine lv_aload_n hx hb dX12_readsAll_88 rfl (lv_at hl 0 rfl) ?_
          refine lv_ldc2 hx hb hown (hts (.constantLong RX12 220 365260) (ki (zr22 2 rfl))) dX12_readsAll_89 ?_
          refine mcallV (As := [.long 365260]) (rest := []) ⟨hx, hb, hml, hown, hts⟩ (mc_isWord l D ct h0 y B 365260 rw64 qw64 jw64) (wqX12_185_mc_isWord hts ⟨Nat.le_of_ble_eq_true rfl, Nat.le_of_ble_eq_true rfl⟩) hw hS hA hK hN rfl hl.1 rfl (Nat.le_of_ble_eq_true rfl) dX12_readsAll_92 95 rfl (fun u8 H locs pu8 hw hS => ?_)
          have hu8 : zI 0 1 u8 := pu8.1
          have yu8_0 : ¬ u8 = 0 → zI 1 1 (rw64 106 0) := pu8.2.1
          have xu8 : u8 = (Gm_isWord (365260 : Int64) rw64 qw64) := pu8.2.2.1
          have hE := zletE xu8 hE
          have hw : zPD D A (mW ct h0 y rw64 qw64) H := hw
          refine zfr 95 [.int u8] rfl rfl ?_
          refine lv_if_eq (tgt := 105) hx hb dX12_readsAll_95 (by decide) (fun c10 => ?_) (fun c10 => ?_)
          · have hE := zifT c10 hE
            have k11 : zI 0 0 (u8) := zI.eqq c10 (zI.lit (a := 0) (b := 0) (c := 0) (by decide))
            refine lv_aload_n hx hb dX12_readsAll_105 rfl (lv_at hl 0 rfl) ?_
            refine lv_ldc2 hx hb hown (hts (.constantLong RX12 222 232608281) (ki (zr22 3 rfl))) dX12_readsAll_106 ?_
            refine mcallV (As := [.long 232608281]) (rest := []) ⟨hx, hb, hml, hown, hts⟩ (mc_isWord l D ct h0 y B 232608281 rw64 qw64 jw64) (wqX12_185_mc_isWord hts ⟨Nat.le_of_ble_eq_true rfl, Nat.le_of_ble_eq_true rfl⟩) hw hS hA hK hN rfl hl.1 rfl (Nat.le_of_ble_eq_true rfl) dX12_readsAll_109 112 rfl (fun u12 H locs pu12 hw hS => ?_)
            have hu12 : zI 0 1 u12 := pu12.1
            have yu12_0 : ¬ u12 = 0 → zI 1 1 (rw64 106 0) := pu12.2.1
            have xu12 : u12 = (Gm_isWord (232608281 : Int64) rw64 qw64) := pu12.2.2.1
            have hE := zletE xu12 hE
            have hw : zPD D A (mW ct h0 y rw64 qw64) H := hw
            refine zfr 112 [.int u12] rfl rfl ?_
            refine lv_if_eq (tgt := 122) hx hb dX12_readsAll_112 (by decide) (fun c14 => ?_) (fun c14 => ?_)
            · have hE := zifT c14 hE
              have k15 : zI 0 0 (u12) := zI.eqq c14 (zI.lit (a := 0) (b := 0) (c := 0) (by decide))
              refine lv_aload_n hx hb dX12_readsAll_122 rfl (lv_at hl 0 rfl) ?_
              refine lv_ldc2 hx hb hown (hts (.constantLong RX12 230 4085956) (ki (zr22 4 rfl))) dX12_readsAll_123 ?_
              refine mcallV (As := [.long 4085956]) (rest := []) ⟨hx, hb, hml, hown, hts⟩ (mc_isWord l D ct h0 y B 4085956 rw64 qw64 jw64) (wqX12_185_mc_isWord hts ⟨Nat.le_of_ble_eq_true rfl, Nat.le_of_ble_eq_true rfl⟩) hw hS hA hK hN rfl hl.1 rfl (Nat.le_of_ble_eq_true rfl) dX12_readsAll_126 129 rfl (fun u16 H locs pu16 hw hS => ?_)
              have hu16 : zI 0 1 u16 := pu16.1
              have yu16_0 : ¬ u16 = 0 → zI 1 1 (rw64 106 0) := pu16.2.1
              have xu16 : u16 = (Gm_isWord (4085956 : Int64) rw64 qw64) := pu16.2.2.1
              have hE := zletE xu16 hE
              have hw : zPD D A (mW ct h0 y rw64 qw64) H := hw
              refine zfr 129 [.int u16] rfl rfl ?_
              refine lv_if_eq (tgt := 142) hx hb dX12_readsAll_129 (by decide) (fun c18 => ?_) (fun c18 => ?_)
              · have hE := zifT c18 hE
                have k19 : zI 0 0 (u16) := zI.eqq c18 (zI.lit (a := 0) (b := 0) (c := 0) (by decide))
                refine lv_aload_n hx hb dX12_readsAll_142 rfl (lv_at hl 0 rfl) ?_
                refine lv_ldc2 hx hb hown (hts (.constantLong RX12 232 187442) (ki (zr22 5 rfl))) dX12_readsAll_143 ?_
                refine mcallV (As := [.long 187442]) (rest := []) ⟨hx, hb, hml, hown, hts⟩ (mc_isWord l D ct h0 y B 187442 rw64 qw64 jw64) (wqX12_185_mc_isWord hts ⟨Nat.le_of_ble_eq_true rfl, Nat.le_of_ble_eq_true rfl⟩) hw hS hA hK hN rfl hl.1 rfl (Nat.le_of_ble_eq_true rfl) dX12_readsAll_146 149 rfl (fun u20 H locs pu20 hw hS => ?_)
                have hu20 : zI 0 1 u20 := pu20.1
                have yu20_0 : ¬ u20 = 0 → zI 1 1 (rw64 106 0) := pu20.2.1
                have xu20 : u20 = (Gm_isWord (187442 : Int64) rw64 qw64) := pu20.2.2.1
                have hE := zletE xu20 hE
                have hw : zPD D A (mW ct h0 y rw64 qw64) H := hw
                refine zfr 149 [.int u20] rfl rfl ?_
                refine lv_if_eq (tgt := 163) hx hb dX12_readsAll_149 (by decide) (fun c22 => ?_) (fun c22 => ?_)
                · have hE := zifT c22 hE
                  have k23 : zI 0 0 (u20) := zI.eqq c22 (zI.lit (a := 0) (b := 0) (c := 0) (by decide))
                  refine lv_aload_n hx hb dX12_readsAll_163 rfl (lv_at hl 0 rfl) ?_
                  refine lv_ldc2 hx hb hown (hts (.constantLong RX12 234 9665209) (ki (zr22 6 rfl))) dX12_readsAll_164 ?_
                  refine mcallV (As := [.long 9665209]) (rest := []) ⟨hx, hb, hml, hown, hts⟩ (mc_isWord l D ct h0 y B 9665209 rw64 qw64 jw64) (wqX12_185_mc_isWord hts ⟨Nat.le_of_ble_eq_true rfl, Nat.le_of_ble_eq_true rfl⟩) hw hS hA hK hN rfl hl.1 rfl (Nat.le_of_ble_eq_true rfl) dX12_readsAll_167 170 rfl (fun u24 H locs pu24 hw hS => ?_)
                  have hu24 : zI 0 1 u24 := pu24.1
                  have yu24_0 : ¬ u24 = 0 → zI 1 1 (rw64 106 0) := pu24.2.1
                  have xu24 : u24 = (Gm_isWord (9665209 : Int64) rw64 qw64) := pu24.2.2.1
                  have hE := zletE xu24 hE
                  have hw : zPD D A (mW ct h0 y rw64 qw64) H := hw
                  refine zfr 170 [.int u24] rfl rfl ?_
                  refine lv_if_eq (tgt := 180) hx hb dX12_readsAll_170 (by decide) (fun c26 => ?_) (fun c26 => ?_)
                  · have hE := zifT c26 hE
                    have k27 : zI 0 0 (u24) := zI.eqq c26 (zI.lit (a := 0) (b := 0) (c := 0) (by decide))
                    refine lv_aload_n hx hb dX12_readsAll_180 rfl (lv_at hl 0 rfl) ?_
                    refine lv_iconst (v := 1) hx hb dX12_readsAll_181 (by decide) ?_
                    refine mcallV (As := [.int 1]) (rest := []) ⟨hx, hb, hml, hown, hts⟩ (mc_fails l D ct h0 y B 1 rw64 qw64 ((zI.lit (a := 1) (b := 1) (c := 1) (by decide)).w (c := 1) (d := 5) (by decide)) jw64) (wqX12_193_mc_fails hts ⟨Nat.le_of_ble_eq_true rfl, Nat.le_of_ble_eq_true rfl⟩) hw hS hA hK hN rfl hl.1 rfl (Nat.le_of_ble_eq_true rfl) dX12_readsAll_182 185 rfl (fun u28 H locs pu28 hw hS => ?_)
                    obtain ⟨v29, r30⟩ := u28
                    have hv29 : zI 0 0 v29 := pu28.1
                    have ju28 : mJ B r30 := pu28.2.1
                    have fu28 : zFr [109] rw64 r30 := pu28.2.2.1
                    have xu28 : (v29, r30) = (Gm_fails (1 : Int32) rw64 qw64) := pu28.2.2.2.1
                    have hE := zc_vrE xu28 hE
                    have hw : zPD D A (mW ct h0 y r30 qw64) H := hw
                    refine zfr 185 [.int v29] rfl rfl ?_
                    refine lv_istore_n (lv' := [(1, .int v29), (0, .ref h0)]) hx hb dX12_readsAll_185 rfl hl (by decide) rfl (fun ls hl => ?_)
                    refine lv_iload_n hx hb dX12_readsAll_186 rfl (lv_at hl 0 rfl) ?_
                    refine lv_if_ne (tgt := 192) hx hb dX12_readsAll_187 (by decide) (fun c31 => ?_) (fun c31 => ?_)
                    · have hE := zifnT c31 hE
                      exact zI.abs (a := 1) (b := 0) (zI.neD c31 hv29 (zI.lit (a := 0) (b := 0) (c := 0) (by decide)) (by decide)) (by decide)
                    · have hE := zifnF c31 hE
                      refine lv_iconst (v := 0) hx hb dX12_readsAll_190 (by decide) ?_
                      exact ziretQ hQ hx hb hr rfl hlocks (0, r30, qw64) rfl ⟨((zI.lit (a := 0) (b := 0) (c := 0) (by decide)).w (c := 0) (d := 1) (by decide)), ju28, (fw64.tr fu28 rfl), (fun h => absurd rfl h), (fun h => absurd rfl h), (fun h => absurd rfl h), (show r30 101 0 = 0 from ((congrFun (fu28 101 rfl) 0).trans xz64)), (hE.symm.trans hX), trivial⟩ hw hS dX12_readsAll_191
                  · have hE := zifF c26 hE
                    have k32 : zI 1 1 (u24) := zI.neD c26 hu24 (zI.lit (a := 0) (b := 0) (c := 0) (by decide)) (by decide)
                    refine lv_aload_n hx hb dX12_readsAll_173 rfl (lv_at hl 0 rfl) ?_
                    refine mcallV (As := []) (rest := []) ⟨hx, hb, hml, hown, hts⟩ (mc_readsReads l D ct h0 y B rw64 qw64 jw64 (xp64) (((yu24_0 c26).w (c := 1) (d := 4) (by decide))) (xc64)) (wqX12_313_mc_readsReads hts ⟨Nat.le_of_ble_eq_true rfl, Nat.le_of_ble_eq_true rfl⟩) hw hS hA hK hN rfl hl.1 rfl (Nat.le_of_ble_eq_true rfl) dX12_readsAll_174 177 rfl (fun u33 H locs pu33 hw hS => ?_)
                    obtain ⟨v34, r35, q36⟩ := u33
                    have hv34 : zI 0 1 v34 := pu33.1
                    have ju33 : mJ B r35 := pu33.2.1
                    have fu33 : zFr [104, 105, 106, 108, 109, 12, 122, 13, 14, 10, 11] rw64 r35 := pu33.2.2.1
                    have yu33_0 : mP r35 := pu33.2.2.2.1
                    have yu33_1 : ¬ v34 = 0 → (rw64 105 0).toInt < (r35 105 0).toInt := pu33.2.2.2.2.1
                    have yu33_2 : ¬ v34 = 0 → mC r35 := pu33.2.2.2.2.2.1
                    have yu33_3 : ¬ v34 = 0 → mD1 r35 := pu33.2.2.2.2.2.2.1
                    have yu33_4 : ¬ v34 = 0 → mF1 r35 := pu33.2.2.2.2.2.2.2.1
                    have xu33 : (v34, r35, q36) = (Gm_readsReads rw64 qw64) := pu33.2.2.2.2.2.2.2.2.1
                    have hE := zc_vrqE xu33 hE
                    have hw : zPD D A (mW ct h0 y r35 q36) H := hw
                    refine zfr 177 [.int v34] rfl rfl ?_
                    refine lv_goto (tgt := 185) hx hb dX12_readsAll_177 (by decide) ?_
                    refine lv_istore_n (lv' := [(1, .int v34), (0, .ref h0)]) hx hb dX12_readsAll_185 rfl hl (by decide) rfl (fun ls hl => ?_)
                    refine lv_iload_n hx hb dX12_readsAll_186 rfl (lv_at hl 0 rfl) ?_
                    refine lv_if_ne (tgt := 192) hx hb dX12_readsAll_187 (by decide) (fun c37 => ?_) (fun c37 => ?_)
                    · have hE := zifnT c37 hE
                      have k38 : zI 1 1 (v34) := zI.neD c37 hv34 (zI.lit (a := 0) (b := 0) (c := 0) (by decide)) (by decide)
                      refine lv_goto (tgt := 64) hx hb dX12_readsAll_192 (by decide) ?_
                      exact ih64 r35 q36 ju33 (fw64.tr fu33 rfl) (yu33_0) (yu33_2 c37) (xt64.row (fu33 1 rfl)) (yu33_3 c37) (yu33_4 c37) (((congrFun (fu33 101 rfl) 0).trans xz64)) hE (by have := yu33_1 c37; omega) H locs ls hw hS (lv_sub hl [1] rfl)
                    · have hE := zifnF c37 hE
                      have k39 : zI 0 0 (v34) := zI.eqq c37 (zI.lit (a := 0) (b := 0) (c := 0) (by decide))
                      refine lv_iconst (v := 0) hx hb dX12_readsAll_190 (by decide) ?_
                      exact ziretQ hQ hx hb hr rfl hlocks (0, r35, q36) rfl ⟨((zI.lit (a := 0) (b := 0) (c := 0) (by decide)).w (c := 0) (d := 1) (by decide)), ju33, (fw64.tr fu33 rfl), (fun h => absurd rfl h), (fun h => absurd rfl h), (fun h => absurd rfl h), (show r35 101 0 = 0 from ((congrFun (fu33 101 rfl) 0).trans xz64)), (hE.symm.trans hX), trivial⟩ hw hS dX12_readsAll_191
                · have hE := zifF c22 hE
                  have k40 : zI 1 1 (u20) := zI.neD c22 hu20 (zI.lit (a := 0) (b := 0) (c := 0) (by decide)) (by decide)
                  refine lv_aload_n hx hb dX12_readsAll_152 rfl (lv_at hl 0 rfl) ?_
                  refine lv_iconst (v := 3) hx hb dX12_readsAll_153 (by decide) ?_
                  refine lv_iconst (v := 1) hx hb dX12_readsAll_154 (by decide) ?_
                  refine lv_bipush (v := 9) hx hb dX12_readsAll_155 (by decide) ?_
                  refine mcallV (As := [.int 3, .int 1, .int 9]) (rest := []) ⟨hx, hb, hml, hown, hts⟩ (mc_readsOne3 l D ct h0 y B 1 9 rw64 qw64 jw64 (xp64) (((yu20_0 c22).w (c := 1) (d := 4) (by decide))) (xt64)) (wqX12_310_mc_readsOne3 hts ⟨Nat.le_of_ble_eq_true rfl, Nat.le_of_ble_eq_true rfl⟩) hw hS hA hK hN rfl hl.1 rfl (Nat.le_of_ble_eq_true rfl) dX12_readsAll_157 160 rfl (fun u41 H locs pu41 hw hS => ?_)
                  obtain ⟨v42, r43, q44⟩ := u41
                  have hv42 : zI 0 1 v42 := pu41.1
                  have ju41 : mJ B r43 := pu41.2.1
                  have fu41 : zFr [104, 105, 106, 108, 109, 136, 123, 1] rw64 r43 := pu41.2.2.1
                  have yu41_0 : mP r43 := pu41.2.2.2.1
                  have yu41_1 : ¬ v42 = 0 → (rw64 105 0).toInt < (r43 105 0).toInt := pu41.2.2.2.2.1
                  have yu41_2 : ¬ v42 = 0 → mT1 r43 := pu41.2.2.2.2.2.1
                  have xu41 : (v42, r43, q44) = (Gm_readsOne3 (1 : Int32) (9 : Int32) rw64 qw64) := pu41.2.2.2.2.2.2.1
                  have hE := zc_vrqE xu41 hE
                  have hw : zPD D A (mW ct h0 y r43 q44) H := hw
                  refine zfr 160 [.int v42] rfl rfl ?_
                  refine lv_goto (tgt := 185) hx hb dX12_readsAll_160 (by decide) ?_
                  refine lv_istore_n (lv' := [(1, .int v42), (0, .ref h0)]) hx hb dX12_readsAll_185 rfl hl (by decide) rfl (fun ls hl => ?_)
                  refine lv_iload_n hx hb dX12_readsAll_186 rfl (lv_at hl 0 rfl) ?_
                  refine lv_if_ne (tgt := 192) hx hb dX12_readsAll_187 (by decide) (fun c45 => ?_) (fun c45 => ?_)
                  · have hE := zifnT c45 hE
                    have k46 : zI 1 1 (v42) := zI.neD c45 hv42 (zI.lit (a := 0) (b := 0) (c := 0) (by decide)) (by decide)
                    refine lv_goto (tgt := 64) hx hb dX12_readsAll_192 (by decide) ?_
                    exact ih64 r43 q44 ju41 (fw64.tr fu41 rfl) (yu41_0) (xc64.up (fu41 122 rfl) (Int.le_of_lt (yu41_1 c45))) (yu41_2 c45) (xd64.row (fu41 12 rfl) (fu41 10 rfl) (fu41 11 rfl)) (xf64.row (fu41 10 rfl) (fu41 11 rfl)) (((congrFun (fu41 101 rfl) 0).trans xz64)) hE (by have := yu41_1 c45; omega) H locs ls hw hS (lv_sub hl [1] rfl)
                  · have hE := zifnF c45 hE
                    have k47 : zI 0 0 (v42) := zI.eqq c45 (zI.lit (a := 0) (b := 0) (c := 0) (by decide))
                    refine lv_iconst (v := 0) hx hb dX12_readsAll_190 (by decide) ?_
                    exact ziretQ hQ hx hb hr rfl hlocks (0, r43, q44) rfl ⟨((zI.lit (a := 0) (b := 0) (c := 0) (by decide)).w (c := 0) (d := 1) (by decide)), ju41, (fw64.tr fu41 rfl), (fun h => absurd rfl h), (fun h => absurd rfl h), (fun h => absurd rfl h), (show r43 101 0 = 0 from ((congrFun (fu41 101 rfl) 0).trans xz64)), (hE.symm.trans hX), trivial⟩ hw hS dX12_readsAll_191
              · have hE := zifF c18 hE
                have k48 : zI 1 1 (u16) := zI.neD c18 hu16 (zI.lit (a := 0) (b := 0) (c := 0) (by decide)) (by decide)
                refine lv_aload_n hx hb dX12_readsAll_132 rfl (lv_at hl 0 rfl) ?_
                refine lv_iconst (v := 2) hx hb dX12_readsAll_133 (by decide) ?_
                refine lv_iconst (v := 0) hx hb dX12_readsAll_134 (by decide) ?_
                refine lv_iconst (v := 5) hx hb dX12_readsAll_135 (by decide) ?_
                refine mcallV (As := [.int 2, .int 0, .int 5]) (rest := []) ⟨hx, hb, hml, hown, hts⟩ (mc_readsOne2 l D ct h0 y B 0 5 rw64 qw64 jw64 (xp64) (((yu16_0 c18).w (c := 1) (d := 4) (by decide))) (xt64)) (wqX12_310_mc_readsOne2 hts ⟨Nat.le_of_ble_eq_true rfl, Nat.le_of_ble_eq_true rfl⟩) hw hS hA hK hN rfl hl.1 rfl (Nat.le_of_ble_eq_true rfl) dX12_readsAll_136 139 rfl (fun u49 H locs pu49 hw hS => ?_)
                obtain ⟨v50, r51, q52⟩ := u49
                have hv50 : zI 0 1 v50 := pu49.1
                have ju49 : mJ B r51 := pu49.2.1
                have fu49 : zFr [104, 105, 106, 108, 109, 136, 123, 1] rw64 r51 := pu49.2.2.1
                have yu49_0 : mP r51 := pu49.2.2.2.1
                have yu49_1 : ¬ v50 = 0 → (rw64 105 0).toInt < (r51 105 0).toInt := pu49.2.2.2.2.1
                have yu49_2 : ¬ v50 = 0 → mT1 r51 := pu49.2.2.2.2.2.1
                have xu49 : (v50, r51, q52) = (Gm_readsOne2 (0 : Int32) (5 : Int32) rw64 qw64) := pu49.2.2.2.2.2.2.1
                have hE := zc_vrqE xu49 hE
                have hw : zPD D A (mW ct h0 y r51 q52) H := hw
                refine zfr 139 [.int v50] rfl rfl ?_
                refine lv_goto (tgt := 185) hx hb dX12_readsAll_139 (by decide) ?_
                refine lv_istore_n (lv' := [(1, .int v50), (0, .ref h0)]) hx hb dX12_readsAll_185 rfl hl (by decide) rfl (fun ls hl => ?_)
                refine lv_iload_n hx hb dX12_readsAll_186 rfl (lv_at hl 0 rfl) ?_
                refine lv_if_ne (tgt := 192) hx hb dX12_readsAll_187 (by decide) (fun c53 => ?_) (fun c53 => ?_)
                · have hE := zifnT c53 hE
                  have k54 : zI 1 1 (v50) := zI.neD c53 hv50 (zI.lit (a := 0) (b := 0) (c := 0) (by decide)) (by decide)
                  refine lv_goto (tgt := 64) hx hb dX12_readsAll_192 (by decide) ?_
                  exact ih64 r51 q52 ju49 (fw64.tr fu49 rfl) (yu49_0) (xc64.up (fu49 122 rfl) (Int.le_of_lt (yu49_1 c53))) (yu49_2 c53) (xd64.row (fu49 12 rfl) (fu49 10 rfl) (fu49 11 rfl)) (xf64.row (fu49 10 rfl) (fu49 11 rfl)) (((congrFun (fu49 101 rfl) 0).trans xz64)) hE (by have := yu49_1 c53; omega) H locs ls hw hS (lv_sub hl [1] rfl)
                · have hE := zifnF c53 hE
                  have k55 : zI 0 0 (v50) := zI.eqq c53 (zI.lit (a := 0) (b := 0) (c := 0) (by decide))
                  refine lv_iconst (v := 0) hx hb dX12_readsAll_190 (by decide) ?_
                  exact ziretQ hQ hx hb hr rfl hlocks (0, r51, q52) rfl ⟨((zI.lit (a := 0) (b := 0) (c := 0) (by decide)).w (c := 0) (d := 1) (by decide)), ju49, (fw64.tr fu49 rfl), (fun h => absurd rfl h), (fun h => absurd rfl h), (fun h => absurd rfl h), (show r51 101 0 = 0 from ((congrFun (fu49 101 rfl) 0).trans xz64)), (hE.symm.trans hX), trivial⟩ hw hS dX12_readsAll_191
            · have hE := zifF c14 hE
              have k56 : zI 1 1 (u12) := zI.neD c14 hu12 (zI.lit (a := 0) (b := 0) (c := 0) (by decide)) (by decide)
              refine lv_aload_n hx hb dX12_readsAll_115 rfl (lv_at hl 0 rfl) ?_
              refine mcallV (As := []) (rest := []) ⟨hx, hb, hml, hown, hts⟩ (mc_readsPerson l D ct h0 y B rw64 qw64 jw64 (xp64) (((yu12_0 c14).w (c := 1) (d := 4) (by decide)))) (wqX12_307_mc_readsPerson hts ⟨Nat.le_of_ble_eq_true rfl, Nat.le_of_ble_eq_true rfl⟩) hw hS hA hK hN rfl hl.1 rfl (Nat.le_of_ble_eq_true rfl) dX12_readsAll_116 119 rfl (fun u57 H locs pu57 hw hS => ?_)
              obtain ⟨v58, r59, q60⟩ := u57
              have hv58 : zI 0 1 v58 := pu57.1
              have ju57 : mJ B r59 := pu57.2.1
              have fu57 : zFr [104, 105, 106, 108, 109, 136, 6, 7, 8, 9, 1] rw64 r59 := pu57.2.2.1
              have yu57_0 : mP r59 := pu57.2.2.2.1
              have yu57_1 : ¬ v58 = 0 → (rw64 105 0).toInt < (r59 105 0).toInt := pu57.2.2.2.2.1
              have yu57_2 : ¬ v58 = 0 → mT1 r59 := pu57.2.2.2.2.2.1
              have xu57 : (v58, r59, q60) = (Gm_readsPerson rw64 qw64) := pu57.2.2.2.2.2.2.1
              have hE := zc_vrqE xu57 hE
              have hw : zPD D A (mW ct h0 y r59 q60) H := hw
              refine zfr 119 [.int v58] rfl rfl ?_
              refine lv_goto (tgt := 185) hx hb dX12_readsAll_119 (by decide) ?_
              refine lv_istore_n (lv' := [(1, .int v58), (0, .ref h0)]) hx hb dX12_readsAll_185 rfl hl (by decide) rfl (fun ls hl => ?_)
              refine lv_iload_n hx hb dX12_readsAll_186 rfl (lv_at hl 0 rfl) ?_
              refine lv_if_ne (tgt := 192) hx hb dX12_readsAll_187 (by decide) (fun c61 => ?_) (fun c61 => ?_)
              · have hE := zifnT c61 hE
                have k62 : zI 1 1 (v58) := zI.neD c61 hv58 (zI.lit (a := 0) (b := 0) (c := 0) (by decide)) (by decide)
                refine lv_goto (tgt := 64) hx hb dX12_readsAll_192 (by decide) ?_
                exact ih64 r59 q60 ju57 (fw64.tr fu57 rfl) (yu57_0) (xc64.up (fu57 122 rfl) (Int.le_of_lt (yu57_1 c61))) (yu57_2 c61) (xd64.row (fu57 12 rfl) (fu57 10 rfl) (fu57 11 rfl)) (xf64.row (fu57 10 rfl) (fu57 11 rfl)) (((congrFun (fu57 101 rfl) 0).trans xz64)) hE (by have := yu57_1 c61; omega) H locs ls hw hS (lv_sub hl [1] rfl)
              · have hE := zifnF c61 hE
                have k63 : zI 0 0 (v58) := zI.eqq c61 (zI.lit (a := 0) (b := 0) (c := 0) (by decide))
                refine lv_iconst (v := 0) hx hb dX12_readsAll_190 (by decide) ?_
                exact ziretQ hQ hx hb hr rfl hlocks (0, r59, q60) rfl ⟨((zI.lit (a := 0) (b := 0) (c := 0) (by decide)).w (c := 0) (d := 1) (by decide)), ju57, (fw64.tr fu57 rfl), (fun h => absurd rfl h), (fun h => absurd rfl h), (fun h => absurd rfl h), (show r59 101 0 = 0 from ((congrFun (fu57 101 rfl) 0).trans xz64)), (hE.symm.trans hX), trivial⟩ hw hS dX12_readsAll_191
          · have hE := zifF c10 hE
            have k64 : zI 1 1 (u8) := zI.neD c10 hu8 (zI.lit (a := 0) (b := 0) (c := 0) (by decide)) (by decide)
            refine lv_aload_n hx hb dX12_readsAll_98 rfl (lv_at hl 0 rfl) ?_
            refine mcallV (As := []) (rest := []) ⟨hx, hb, hml, hown, hts⟩ (mc_readsRoad l D ct h0 y B rw64 qw64 jw64 (xp64) (((yu8_0 c10).w (c := 1) (d := 4) (by decide)))) (wqX12_304_mc_readsRoad hts ⟨Nat.le_of_ble_eq_true rfl, Nat.le_of_ble_eq_true rfl⟩) hw hS hA hK hN rfl hl.1 rfl (Nat.le_of_ble_eq_true rfl) dX12_readsAll_99 102 rfl (fun u65 H locs pu65 hw hS => ?_)
            obtain ⟨v66, r67, q68⟩ := u65
            have hv66 : zI 0 1 v66 := pu65.1
            have ju65 : mJ B r67 := pu65.2.1
            have fu65 : zFr [104, 105, 106, 108, 109, 136, 5] rw64 r67 := pu65.2.2.1
            have yu65_0 : mP r67 := pu65.2.2.2.1
            have yu65_1 : ¬ v66 = 0 → (rw64 105 0).toInt < (r67 105 0).toInt := pu65.2.2.2.2.1
            have xu65 : (v66, r67, q68) = (Gm_readsRoad rw64 qw64) := pu65.2.2.2.2.2.1
            have hE := zc_vrqE xu65 hE
            have hw : zPD D A (mW ct h0 y r67 q68) H := hw
            refine zfr 102 [.int v66] rfl rfl ?_
            refine lv_goto (tgt := 185) hx hb dX12_readsAll_102 (by decide) ?_
            refine lv_istore_n (lv' := [(1, .int v66), (0, .ref h0)]) hx hb dX12_readsAll_185 rfl hl (by decide) rfl (fun ls hl => ?_)
            refine lv_iload_n hx hb dX12_readsAll_186 rfl (lv_at hl 0 rfl) ?_
            refine lv_if_ne (tgt := 192) hx hb dX12_readsAll_187 (by decide) (fun c69 => ?_) (fun c69 => ?_)
            · have hE := zifnT c69 hE
              have k70 : zI 1 1 (v66) := zI.neD c69 hv66 (zI.lit (a := 0) (b := 0) (c := 0) (by decide)) (by decide)
              refine lv_goto (tgt := 64) hx hb dX12_readsAll_192 (by decide) ?_
              exact ih64 r67 q68 ju65 (fw64.tr fu65 rfl) (yu65_0) (xc64.up (fu65 122 rfl) (Int.le_of_lt (yu65_1 c69))) (xt64.row (fu65 1 rfl)) (xd64.row (fu65 12 rfl) (fu65 10 rfl) (fu65 11 rfl)) (xf64.row (fu65 10 rfl) (fu65 11 rfl)) (((congrFun (fu65 101 rfl) 0).trans xz64)) hE (by have := yu65_1 c69; omega) H locs ls hw hS (lv_sub hl [1] rfl)
            · have hE := zifnF c69 hE
              have k71 : zI 0 0 (v66) := zI.eqq c69 (zI.lit (a := 0) (b := 0) (c := 0) (by decide))
              refine lv_iconst (v := 0) hx hb dX12_readsAll_190 (by decide) ?_
              exact ziretQ hQ hx hb hr rfl hlocks (0, r67, q68) rfl ⟨((zI.lit (a := 0) (b := 0) (c := 0) (by decide)).w (c := 0) (d := 1) (by decide)), ju65, (fw64.tr fu65 rfl), (fun h => absurd rfl h), (fun h => absurd rfl h), (fun h => absurd rfl h), (show r67 101 0 = 0 from ((congrFun (fu65 101 rfl) 0).trans xz64)), (hE.symm.trans hX), trivial⟩ hw hS dX12_readsAll_191
        · have hE := zifF c6 hE
          have k72 : zI 1 1 (u4) := zI.neD c6 hu4 (zI.lit (a := 0) (b := 0) (c := 0) (by decide)) (by decide)
          refine lv_aload_n hx hb dX12_readsAll_81 rfl (lv_at hl 0 rfl) ?_
          refine mcallV (As := []) (rest := []) ⟨hx, hb, hml, hown, hts⟩ (mc_readsTown l D ct h0 y B rw64 qw64 jw64 (xp64) (((yu4_0 c6).w (c := 1) (d := 4) (by decide)))) (wqX12_301_mc_readsTown hts ⟨Nat.le_of_ble_eq_true rfl, Nat.le_of_ble_eq_true rfl⟩) hw hS hA hK hN rfl hl.1 rfl (Nat.le_of_ble_eq_true rfl) dX12_readsAll_82 85 rfl (fun u73 H locs pu73 hw hS => ?_)
          obtain ⟨v74, r75, q76⟩ := u73
          have hv74 : zI 0 1 v74 := pu73.1
          have ju73 : mJ B r75 := pu73.2.1
          have fu73 : zFr [104, 105, 106, 108, 109, 136, 4, 5, 1] rw64 r75 := pu73.2.2.1
          have yu73_0 : mP r75 := pu73.2.2.2.1
          have yu73_1 : ¬ v74 = 0 → (rw64 105 0).toInt < (r75 105 0).toInt := pu73.2.2.2.2.1
          have yu73_2 : ¬ v74 = 0 → mT1 r75 := pu73.2.2.2.2.2.1
          have xu73 : (v74, r75, q76) = (Gm_readsTown rw64 qw64) := pu73.2.2.2.2.2.2.1
          have hE := zc_vrqE xu73 hE
          have hw : zPD D A (mW ct h0 y r75 q76) H := hw
          refine zfr 85 [.int v74] rfl rfl ?_
          refine lv_goto (tgt := 185) hx hb dX12_readsAll_85 (by decide) ?_
          refine lv_istore_n (lv' := [(1, .int v74), (0, .ref h0)]) hx hb dX12_readsAll_185 rfl hl (by decide) rfl (fun ls hl => ?_)
          refine lv_iload_n hx hb dX12_readsAll_186 rfl (lv_at hl 0 rfl) ?_
          refine lv_if_ne (tgt := 192) hx hb dX12_readsAll_187 (by decide) (fun c77 => ?_) (fun c77 => ?_)
          · have hE := zifnT c77 hE
            have k78 : zI 1 1 (v74) := zI.neD c77 hv74 (zI.lit (a := 0) (b := 0) (c := 0) (by decide)) (by decide)
            refine lv_goto (tgt := 64) hx hb dX12_readsAll_192 (by decide) ?_
            exact ih64 r75 q76 ju73 (fw64.tr fu73 rfl) (yu73_0) (xc64.up (fu73 122 rfl) (Int.le_of_lt (yu73_1 c77))) (yu73_2 c77) (xd64.row (fu73 12 rfl) (fu73 10 rfl) (fu73 11 rfl)) (xf64.row (fu73 10 rfl) (fu73 11 rfl)) (((congrFun (fu73 101 rfl) 0).trans xz64)) hE (by have := yu73_1 c77; omega) H locs ls hw hS (lv_sub hl [1] rfl)
          · have hE := zifnF c77 hE
            have k79 : zI 0 0 (v74) := zI.eqq c77 (zI.lit (a := 0) (b := 0) (c := 0) (by decide))
            refine lv_iconst (v := 0) hx hb dX12_readsAll_190 (by decide) ?_
            exact ziretQ hQ hx hb hr rfl hlocks (0, r75, q76) rfl ⟨((zI.lit (a := 0) (b := 0) (c := 0) (by decide)).w (c := 0) (d := 1) (by decide)), ju73, (fw64.tr fu73 rfl), (fun h => absurd rfl h), (fun h => absurd rfl h), (fun h => absurd rfl h), (show r75 101 0 = 0 from ((congrFun (fu73 101 rfl) 0).trans xz64)), (hE.symm.trans hX), trivial⟩ hw hS dX12_readsAll_191
  intro H locs hw hS ls hl
  have hl : lv_has ls 2 [(0, .ref h0)] := hl
  have hE := hX
  unfold Gm_readsAll at hE
  refine lv_aload_n hx hb dX12_readsAll_0 rfl (lv_at hl 0 rfl) ?_
  refine mget (v := .ref (y 1)) hx hb hts hiX12 hown hK hw 10 (by decide) lf13 rfl rfl dX12_readsAll_1 ?_
  refine lv_iconst (v := 4) hx hb dX12_readsAll_4 (by decide) ?_
  refine lv_iconst (v := 0) hx hb dX12_readsAll_5 (by decide) ?_
  refine ziast hx hb hK hw hS 2 mWg1 4 (by decide) (by decide) (by decide) dX12_readsAll_6 (mW ct h0 y (zset r 1 (upd (r 1) 4 (0 : Int32))) q) mWs1 (fun H locs hw hS => ?_)
  refine mgen (P := fun x => mJ B x ∧ zFr [1, 4, 5, 6, 7, 8, 9, 10, 11, 12, 13, 14, 101, 103, 104, 105, 106, 108, 109, 122, 123, 136] r x) hw ⟨hJ0.setL (by decide) ((zI.lit (a := 0) (b := 0) (c := 0) (by decide)).w (c := 0) (d := 6) (by decide)), (zFr.refl).set rfl⟩ (fun r80 er80 hw pr80 => ?_)
  have hE := zletE er80 hE
  refine lv_aload_n hx hb dX12_readsAll_7 rfl (lv_at hl 0 rfl) ?_
  refine mget (v := .ref (y 1)) hx hb hts hiX12 hown hK hw 10 (by decide) lf13 rfl rfl dX12_readsAll_8 ?_
  refine lv_iconst (v := 5) hx hb dX12_readsAll_11 (by decide) ?_
  refine lv_iconst (v := 0) hx hb dX12_readsAll_12 (by decide) ?_
  refine ziast hx hb hK hw hS 2 mWg1 5 (by decide) (by decide) (by decide) dX12_readsAll_13 (mW ct h0 y (zset r80 1 (upd (r80 1) 5 (0 : Int32))) q) mWs1 (fun H locs hw hS => ?_)
  refine mgen (P := fun x => mJ B x ∧ zFr [1, 4, 5, 6, 7, 8, 9, 10, 11, 12, 13, 14, 101, 103, 104, 105, 106, 108, 109, 122, 123, 136] r x) hw ⟨pr80.1.setL (by decide) ((zI.lit (a := 0) (b := 0) (c := 0) (by decide)).w (c := 0) (d := 6) (by decide)), pr80.2.set rfl⟩ (fun r81 er81 hw pr81 => ?_)
  have hE := zletE er81 hE
  refine lv_aload_n hx hb dX12_readsAll_14 rfl (lv_at hl 0 rfl) ?_
  refine mget (v := .ref (y 1)) hx hb hts hiX12 hown hK hw 10 (by decide) lf13 rfl rfl dX12_readsAll_15 ?_
  refine lv_bipush (v := 6) hx hb dX12_readsAll_18 (by decide) ?_
  refine lv_iconst (v := 1) hx hb dX12_readsAll_20 (by decide) ?_
  refine ziast hx hb hK hw hS 2 mWg1 6 (by decide) (by decide) (by decide) dX12_readsAll_21 (mW ct h0 y (zset r81 1 (upd (r81 1) 6 (1 : Int32))) q) mWs1 (fun H locs hw hS => ?_)
  refine mgen (P := fun x => mJ B x ∧ zFr [1, 4, 5, 6, 7, 8, 9, 10, 11, 12, 13, 14, 101, 103, 104, 105, 106, 108, 109, 122, 123, 136] r x) hw ⟨pr81.1.setL (by decide) (zI.top _), pr81.2.set rfl⟩ (fun r82 er82 hw pr82 => ?_)
  have hE := zletE er82 hE
  refine lv_aload_n hx hb dX12_readsAll_22 rfl (lv_at hl 0 rfl) ?_
  refine mget (v := .ref (y 1)) hx hb hts hiX12 hown hK hw 10 (by decide) lf13 rfl rfl dX12_readsAll_23 ?_
  refine lv_bipush (v := 7) hx hb dX12_readsAll_26 (by decide) ?_
  refine lv_iconst (v := 2) hx hb dX12_readsAll_28 (by decide) ?_
  refine ziast hx hb hK hw hS 2 mWg1 7 (by decide) (by decide) (by decide) dX12_readsAll_29 (mW ct h0 y (zset r82 1 (upd (r82 1) 7 (2 : Int32))) q) mWs1 (fun H locs hw hS => ?_)
  refine mgen (P := fun x => mJ B x ∧ zFr [1, 4, 5, 6, 7, 8, 9, 10, 11, 12, 13, 14, 101, 103, 104, 105, 106, 108, 109, 122, 123, 136] r x) hw ⟨pr82.1.setL (by decide) (zI.top _), pr82.2.set rfl⟩ (fun r83 er83 hw pr83 => ?_)
  have hE := zletE er83 hE
  refine lv_aload_n hx hb dX12_readsAll_30 rfl (lv_at hl 0 rfl) ?_
  refine mget (v := .ref (y 10)) hx hb hts hiX12 hown hK hw 19 (by decide) lf41 rfl rfl dX12_readsAll_31 ?_
  refine lv_iconst (v := 1) hx hb dX12_readsAll_34 (by decide) ?_
  refine lv_sipush (v := 1000) hx hb dX12_readsAll_35 (by decide) ?_
  refine ziast hx hb hK hw hS 11 mWg10 1 (by decide) (by decide) (by decide) dX12_readsAll_38 (mW ct h0 y (zset r83 10 (upd (r83 10) 1 (1000 : Int32))) q) mWs10 (fun H locs hw hS => ?_)
  refine mgen (P := fun x => mJ B x ∧ zFr [1, 4, 5, 6, 7, 8, 9, 10, 11, 12, 13, 14, 101, 103, 104, 105, 106, 108, 109, 122, 123, 136] r x) hw ⟨pr83.1.setF (Or.inl rfl) ((zI.lit (a := 1000) (b := 1000) (c := 1000) (by decide)).w (c := 1000) (d := 2000) (by decide)), pr83.2.set rfl⟩ (fun r84 er84 hw pr84 => ?_)
  have hE := zletE er84 hE
  refine lv_aload_n hx hb dX12_readsAll_39 rfl (lv_at hl 0 rfl) ?_
  refine mget (v := .ref (y 11)) hx hb hts hiX12 hown hK hw 20 (by decide) lf44 rfl rfl dX12_readsAll_40 ?_
  refine lv_iconst (v := 1) hx hb dX12_readsAll_43 (by decide) ?_
  refine lv_sipush (v := 1000) hx hb dX12_readsAll_44 (by decide) ?_
  refine ziast hx hb hK hw hS 12 mWg11 1 (by decide) (by decide) (by decide) dX12_readsAll_47 (mW ct h0 y (zset r84 11 (upd (r84 11) 1 (1000 : Int32))) q) mWs11 (fun H locs hw hS => ?_)
  refine mgen (P := fun x => mJ B x ∧ zFr [1, 4, 5, 6, 7, 8, 9, 10, 11, 12, 13, 14, 101, 103, 104, 105, 106, 108, 109, 122, 123, 136] r x) hw ⟨pr84.1.setF (Or.inr rfl) ((zI.lit (a := 1000) (b := 1000) (c := 1000) (by decide)).w (c := 1000) (d := 2000) (by decide)), pr84.2.set rfl⟩ (fun r85 er85 hw pr85 => ?_)
  have hE := zletE er85 hE
  refine lv_aload_n hx hb dX12_readsAll_48 rfl (lv_at hl 0 rfl) ?_
  refine lv_iconst (v := 0) hx hb dX12_readsAll_49 (by decide) ?_
  refine mput (ty := .int) (v := .int 0) hx hb hts hiX12 hown hK hw hS 23 (by decide) lf292 rfl rfl (by decide +kernel) rfl rfl dX12_readsAll_50 (zset r85 123 (fun _ => (0 : Int32))) _ mWf23 (fun H locs hw hS => ?_)
  refine mgen (P := fun x => mJ B x ∧ zFr [1, 4, 5, 6, 7, 8, 9, 10, 11, 12, 13, 14, 101, 103, 104, 105, 106, 108, 109, 122, 123, 136] r x) hw ⟨pr85.1.setc rfl (fun _ => (zI.top _)), pr85.2.set rfl⟩ (fun r86 er86 hw pr86 => ?_)
  have hE := zletE er86 hE
  refine lv_aload_n hx hb dX12_readsAll_53 rfl (lv_at hl 0 rfl) ?_
  refine lv_sipush (v := 1000) hx hb dX12_readsAll_54 (by decide) ?_
  refine mput (ty := .int) (v := .int 1000) hx hb hts hiX12 hown hK hw hS 22 (by decide) lf168 rfl rfl (by decide +kernel) rfl rfl dX12_readsAll_57 (zset r86 122 (fun _ => (1000 : Int32))) _ mWf22 (fun H locs hw hS => ?_)
  refine mgen (P := fun x => mJ B x ∧ zFr [1, 4, 5, 6, 7, 8, 9, 10, 11, 12, 13, 14, 101, 103, 104, 105, 106, 108, 109, 122, 123, 136] r x) hw ⟨pr86.1.setc rfl (fun _ => ((zI.lit (a := 1000) (b := 1000) (c := 1000) (by decide)).w (c := 0) (d := 2000) (by decide))), pr86.2.set rfl⟩ (fun r87 er87 hw pr87 => ?_)
  have hE := zletE er87 hE
  refine lv_aload_n hx hb dX12_readsAll_60 rfl (lv_at hl 0 rfl) ?_
  refine mcallV (As := []) (rest := []) ⟨hx, hb, hml, hown, hts⟩ (mc_begins l D ct h0 y B r87 q pr87.1) (wqX12_298_mc_begins hts ⟨Nat.le_of_ble_eq_true rfl, Nat.le_of_ble_eq_true rfl⟩) hw hS hA hK hN rfl hl.1 rfl (Nat.le_of_ble_eq_true rfl) dX12_readsAll_61 64 rfl (fun u88 H locs pu88 hw hS => ?_)
  obtain ⟨r89, q90⟩ := u88
  have ju88 : mJ B r89 := pu88.1
  have fu88 : zFr [104, 105, 106, 108, 103, 101] r87 r89 := pu88.2.1
  have yu88_0 : mP r89 := pu88.2.2.1
  have yu88_1 : r89 101 0 = 0 := pu88.2.2.2.1
  have xu88 : (r89, q90) = (Gm_begins r87 q) := pu88.2.2.2.2.1
  have hE := zc_rqE xu88 hE
  have hw : zPD D A (mW ct h0 y r89 q90) H := hw
  refine zfr 64 [] rfl rfl ?_
  exact cut64 1002 r89 q90 ju88 (pr87.2.tr fu88 rfl) (yu88_0) (by have e9 := congrArg Int32.toInt ((congrFun (fu88 122 rfl) 0).trans (congrFun (zs_self er87) 0)); have c9 : (1000 : Int32).toInt = 1000 := (by decide); have h9 : zI 0 1000 (r89 105 0) := ju88.i 105 0; have := h9.1; exact ⟨by omega, by omega⟩) (by unfold mT1; rw [((fu88 1 rfl).trans ((zs_row (k := 1) er87 (by decide)).trans ((zs_row (k := 1) er86 (by decide)).trans ((zs_row (k := 1) er85 (by decide)).trans (zs_row (k := 1) er84 (by decide)))))), zs_self er83, pk_un (by decide), zs_self er82, pk_un (by decide), zs_self er81, pk_us]; intro h9; exact absurd h9 (by decide)) (by unfold mD1; rw [((fu88 11 rfl).trans ((zs_row (k := 11) er87 (by decide)).trans (zs_row (k := 11) er86 (by decide)))), zs_self er85, pk_us, ((fu88 10 rfl).trans ((zs_row (k := 10) er87 (by decide)).trans ((zs_row (k := 10) er86 (by decide)).trans (zs_row (k := 10) er85 (by decide))))), zs_self er84, pk_us]; intro n hn; omega) (⟨by rw [((fu88 10 rfl).trans ((zs_row (k := 10) er87 (by decide)).trans ((zs_row (k := 10) er86 (by decide)).trans (zs_row (k := 10) er85 (by decide))))), zs_self er84, pk_us]; exact ⟨by decide, by decide⟩, by rw [((fu88 11 rfl).trans ((zs_row (k := 11) er87 (by decide)).trans (zs_row (k := 11) er86 (by decide)))), zs_self er85, pk_us]; exact ⟨by decide, by decide⟩⟩) (yu88_1) hE (by have h9 : zI 0 1000 (r89 105 0) := ju88.i 105 0; have := h9.1; omega) H locs ls hw hS (lv_sub hl [0] rfl)

set_option maxHeartbeats 4000000 in
set_option maxRecDepth 100000 in
theorem mc_readsLine (l : Launch) (D : va_G) (ct : Nat → ClassId) (h0 : Nat) (y : Nat → Nat) (B : Int) (r : zRr) (q : zRq) (hJ0 : mJ B r) (x1 : mP r) (x2 : zI 1 4 (r 106 0)) (x3 : zI 0 9999 (r 136 0)) : zC l yX12_readsLine (.code yX12_readsLine cX12_readsLine 3 (some .boolean) :: wsL_law0) ({ frames := 4, cells := 0, slots := 0, locals := 200 }) D ct [] [.ref h0] (mW ct h0 y r q) (S := Int32 × zRr × zRq) (fun u => some (.int u.1)) (fun u => zI 0 1 u.1 ∧ mJ B u.2.1 ∧ zFr [104, 105, 106, 108, 109, 136, 25, 26, 27, 28] r u.2.1 ∧ (mP u.2.1) ∧ (¬ u.1 = 0 → (r 105 0).toInt < (u.2.1 105 0).toInt) ∧ (¬ u.1 = 0 → zI 0 9999 (u.2.1 136 0)) ∧ u = (Gm_readsLine r q) ∧ True) (fun u => mW ct h0 y u.2.1 u.2.2) 0 0 := by
  refine zofQ cX12_readsLine 3 (some .boolean) (by decide) rfl (Nat.le_of_ble_eq_true rfl) ?_
  intro p e s m below meth c A a9 Q ha9 hx hb hr hml hts hown hlocks hname hK hA hZ hN hQ
  have hown : s.vm.findClass RX12 = some m.cls := hown
  have hiX12 : ∀ w ∈ wsX120, w ∈ .code yX12_readsLine cX12_readsLine 3 (some .boolean) :: wsL_law0 := fun _ h => ki (zs_wsX120 _ h)
  have lf87 := hts (.fieldLink RX12 87 "BeardPassModel" "lines" "[I") (ki (zr8 21 rfl))
  have lf90 := hts (.fieldLink RX12 90 "BeardPassModel" "lineWhat" "[I") (ki (zr8 22 rfl))
  have lf93 := hts (.fieldLink RX12 93 "BeardPassModel" "lineA" "[I") (ki (zr8 23 rfl))
  have lf96 := hts (.fieldLink RX12 96 "BeardPassModel" "lineB" "[I") (ki (zr9 0 rfl))
  have lf256 := hts (.fieldLink RX12 256 "BeardPassModel" "given" "I") (ki (zr23 11 rfl))
  obtain ⟨X, hX⟩ : ∃ X, X = (Gm_readsLine r q) := ⟨_, rfl⟩
  intro H locs hw hS ls hl
  have hl : lv_has ls 3 [(0, .ref h0)] := hl
  have hE := hX
  unfold Gm_readsLine at hE
  refine lv_aload_n hx hb dX12_readsLine_0 rfl (lv_at hl 0 rfl) ?_
  refine lv_ldc2 hx hb hown (hts (.constantLong RX12 236 204) (ki (zr24 4 rfl))) dX12_readsLine_1 ?_
  refine mcallV (As := [.long 204]) (rest := []) ⟨hx, hb, hml, hown, hts⟩ (mc_isWord l D ct h0 y B 204 r q hJ0) (wqX12_185_mc_isWord hts ⟨Nat.le_of_ble_eq_true rfl, Nat.le_of_ble_eq_true rfl⟩) hw hS hA hK hN rfl hl.1 rfl (Nat.le_of_ble_eq_true rfl) dX12_readsLine_4 7 rfl (fun u1 H locs pu1 hw hS => ?_)
  have hu1 : zI 0 1 u1 := pu1.1
  have yu1_0 : ¬ u1 = 0 → zI 1 1 (r 106 0) := pu1.2.1
  have xu1 : u1 = (Gm_isWord (204 : Int64) r q) := pu1.2.2.1
  have hE := zletE xu1 hE
  have hw : zPD D A (mW ct h0 y r q) H := hw
  refine zfr 7 [.int u1] rfl rfl ?_
  refine lv_if_eq (tgt := 14) hx hb dX12_readsLine_7 (by decide) (fun c3 => ?_) (fun c3 => ?_)
  · have hE := zifT c3 hE
    have k4 : zI 0 0 (u1) := zI.eqq c3 (zI.lit (a := 0) (b := 0) (c := 0) (by decide))
    refine lv_aload_n hx hb dX12_readsLine_14 rfl (lv_at hl 0 rfl) ?_
    refine lv_ldc2 hx hb hown (hts (.constantLong RX12 238 3497207) (ki (zr24 5 rfl))) dX12_readsLine_15 ?_
    refine mcallV (As := [.long 3497207]) (rest := []) ⟨hx, hb, hml, hown, hts⟩ (mc_isWord l D ct h0 y B 3497207 r q hJ0) (wqX12_185_mc_isWord hts ⟨Nat.le_of_ble_eq_true rfl, Nat.le_of_ble_eq_true rfl⟩) hw hS hA hK hN rfl hl.1 rfl (Nat.le_of_ble_eq_true rfl) dX12_readsLine_18 21 rfl (fun u5 H locs pu5 hw hS => ?_)
    have hu5 : zI 0 1 u5 := pu5.1
    have yu5_0 : ¬ u5 = 0 → zI 1 1 (r 106 0) := pu5.2.1
    have xu5 : u5 = (Gm_isWord (3497207 : Int64) r q) := pu5.2.2.1
    have hE := zletE xu5 hE
    have hw : zPD D A (mW ct h0 y r q) H := hw
    refine zfr 21 [.int u5] rfl rfl ?_
    refine lv_if_eq (tgt := 28) hx hb dX12_readsLine_21 (by decide) (fun c7 => ?_) (fun c7 => ?_)
    · have hE := zifT c7 hE
      have k8 : zI 0 0 (u5) := zI.eqq c7 (zI.lit (a := 0) (b := 0) (c := 0) (by decide))
      refine lv_aload_n hx hb dX12_readsLine_28 rfl (lv_at hl 0 rfl) ?_
      refine lv_ldc2 hx hb hown (hts (.constantLong RX12 240 10256171) (ki (zr24 6 rfl))) dX12_readsLine_29 ?_
      refine mcallV (As := [.long 10256171]) (rest := []) ⟨hx, hb, hml, hown, hts⟩ (mc_isWord l D ct h0 y B 10256171 r q hJ0) (wqX12_185_mc_isWord hts ⟨Nat.le_of_ble_eq_true rfl, Nat.le_of_ble_eq_true rfl⟩) hw hS hA hK hN rfl hl.1 rfl (Nat.le_of_ble_eq_true rfl) dX12_readsLine_32 35 rfl (fun u9 H locs pu9 hw hS => ?_)
      have hu9 : zI 0 1 u9 := pu9.1
      have yu9_0 : ¬ u9 = 0 → zI 1 1 (r 106 0) := pu9.2.1
      have xu9 : u9 = (Gm_isWord (10256171 : Int64) r q) := pu9.2.2.1
      have hE := zletE xu9 hE
      have hw : zPD D A (mW ct h0 y r q) H := hw
      refine zfr 35 [.int u9] rfl rfl ?_
      refine lv_if_eq (tgt := 42) hx hb dX12_readsLine_35 (by decide) (fun c11 => ?_) (fun c11 => ?_)
      · have hE := zifT c11 hE
        have k12 : zI 0 0 (u9) := zI.eqq c11 (zI.lit (a := 0) (b := 0) (c := 0) (by decide))
        refine lv_aload_n hx hb dX12_readsLine_42 rfl (lv_at hl 0 rfl) ?_
        refine lv_ldc2 hx hb hown (hts (.constantLong RX12 242 456500) (ki (zr24 7 rfl))) dX12_readsLine_43 ?_
        refine mcallV (As := [.long 456500]) (rest := []) ⟨hx, hb, hml, hown, hts⟩ (mc_isWord l D ct h0 y B 456500 r q hJ0) (wqX12_185_mc_isWord hts ⟨Nat.le_of_ble_eq_true rfl, Nat.le_of_ble_eq_true rfl⟩) hw hS hA hK hN rfl hl.1 rfl (Nat.le_of_ble_eq_true rfl) dX12_readsLine_46 49 rfl (fun u13 H locs pu13 hw hS => ?_)
        have hu13 : zI 0 1 u13 := pu13.1
        have yu13_0 : ¬ u13 = 0 → zI 1 1 (r 106 0) := pu13.2.1
        have xu13 : u13 = (Gm_isWord (456500 : Int64) r q) := pu13.2.2.1
        have hE := zletE xu13 hE
        have hw : zPD D A (mW ct h0 y r q) H := hw
        refine zfr 49 [.int u13] rfl rfl ?_
        refine lv_if_eq (tgt := 56) hx hb dX12_readsLine_49 (by decide) (fun c15 => ?_) (fun c15 => ?_)
        · have hE := zifT c15 hE
          have k16 : zI 0 0 (u13) := zI.eqq c15 (zI.lit (a := 0) (b := 0) (c := 0) (by decide))
          refine lv_iconst (v := (-1)) hx hb dX12_readsLine_56 (by decide) ?_
          refine lv_istore_n (lv' := [(1, .int (-1)), (0, .ref h0)]) hx hb dX12_readsLine_57 rfl hl (by decide) rfl (fun ls hl => ?_)
          refine lv_iload_n hx hb dX12_readsLine_58 rfl (lv_at hl 0 rfl) ?_
          refine lv_if_ge (tgt := 68) hx hb dX12_readsLine_59 (by decide) (fun h => absurd h (by decide)) (fun _ => ?_)
          refine lv_aload_n hx hb dX12_readsLine_62 rfl (lv_at hl 1 rfl) ?_
          refine lv_iconst (v := 1) hx hb dX12_readsLine_63 (by decide) ?_
          refine mcallV (As := [.int 1]) (rest := []) ⟨hx, hb, hml, hown, hts⟩ (mc_fails l D ct h0 y B 1 r q ((zI.lit (a := 1) (b := 1) (c := 1) (by decide)).w (c := 1) (d := 5) (by decide)) hJ0) (wqX12_193_mc_fails hts ⟨Nat.le_of_ble_eq_true rfl, Nat.le_of_ble_eq_true rfl⟩) hw hS hA hK hN rfl hl.1 rfl (Nat.le_of_ble_eq_true rfl) dX12_readsLine_64 67 rfl (fun u18 H locs pu18 hw hS => ?_)
          obtain ⟨v19, r20⟩ := u18
          have hv19 : zI 0 0 v19 := pu18.1
          have ju18 : mJ B r20 := pu18.2.1
          have fu18 : zFr [109] r r20 := pu18.2.2.1
          have xu18 : (v19, r20) = (Gm_fails (1 : Int32) r q) := pu18.2.2.2.1
          have hE := zc_vrE xu18 hE
          have hw : zPD D A (mW ct h0 y r20 q) H := hw
          refine zfr 67 [.int v19] rfl rfl ?_
          exact ziretQ hQ hx hb hr ((hv19.w (c := 0) (d := 1) (by decide)).rn) hlocks (v19, r20, q) rfl ⟨(hv19.w (c := 0) (d := 1) (by decide)), ju18, ((zFr.refl).tr fu18 rfl), (show mP r20 from (mP.fr x1 (fu18 103 rfl) (fu18 104 rfl) (fu18 105 rfl) (fu18 106 rfl))), (fun h => absurd (zI.eq0 hv19) h), (fun h => absurd (zI.eq0 hv19) h), (hE.symm.trans hX), trivial⟩ hw hS dX12_readsLine_67
        · have hE := zifF c15 hE
          have k21 : zI 1 1 (u13) := zI.neD c15 hu13 (zI.lit (a := 0) (b := 0) (c := 0) (by decide)) (by decide)
          refine lv_iconst (v := 3) hx hb dX12_readsLine_52 (by decide) ?_
          refine lv_goto (tgt := 57) hx hb dX12_readsLine_53 (by decide) ?_
          refine lv_istore_n (lv' := [(1, .int 3), (0, .ref h0)]) hx hb dX12_readsLine_57 rfl hl (by decide) rfl (fun ls hl => ?_)
          refine lv_iload_n hx hb dX12_readsLine_58 rfl (lv_at hl 0 rfl) ?_
          refine lv_if_ge (tgt := 68) hx hb dX12_readsLine_59 (by decide) (fun _ => ?_) (fun h => absurd (by decide) h)
          refine lv_aload_n hx hb dX12_readsLine_68 rfl (lv_at hl 1 rfl) ?_
          refine mget (v := .ref (y 25)) hx hb hts hiX12 hown hK hw 38 (by decide) lf87 rfl rfl dX12_readsLine_69 ?_
          refine lv_iconst (v := 5) hx hb dX12_readsLine_72 (by decide) ?_
          refine ziald hx hb hK hw 26 mWg25 5 (by decide) (by decide) (by decide) dX12_readsLine_73 ?_
          refine lv_bipush (v := 40) hx hb dX12_readsLine_74 (by decide) ?_
          refine lv_icmp_ne (tgt := 85) hx hb dX12_readsLine_76 (by decide) (fun c23 => ?_) (fun c23 => ?_)
          · have hE := zifnT c23 hE
            have k24 : zI 0 39 (r 25 5) := zI.neU c23 (show zI 0 40 (r 25 5) from hJ0.i 25 5) (zI.lit (a := 40) (b := 40) (c := 40) (by decide)) (by decide)
            refine lv_aload_n hx hb dX12_readsLine_85 rfl (lv_at hl 1 rfl) ?_
            refine mcallV (As := []) (rest := []) ⟨hx, hb, hml, hown, hts⟩ (mc_nextToken l D ct h0 y B r q hJ0 ((x1).2.1)) (wqX12_200_mc_nextToken hts ⟨Nat.le_of_ble_eq_true rfl, Nat.le_of_ble_eq_true rfl⟩) hw hS hA hK hN rfl hl.1 rfl (Nat.le_of_ble_eq_true rfl) dX12_readsLine_86 89 rfl (fun u25 H locs pu25 hw hS => ?_)
            obtain ⟨r26, q27⟩ := u25
            have ju25 : mJ B r26 := pu25.1
            have fu25 : zFr [104, 105, 106, 108] r r26 := pu25.2.1
            have yu25_0 : mP r26 := pu25.2.2.1
            have yu25_1 : (r 104 0).toInt ≤ (r26 105 0).toInt := pu25.2.2.2.1
            have xu25 : (r26, q27) = (Gm_nextToken r q) := pu25.2.2.2.2.1
            have hE := zc_rqE xu25 hE
            have hw : zPD D A (mW ct h0 y r26 q27) H := hw
            refine zfr 89 [] rfl rfl ?_
            refine lv_sipush (v := 200) hx hb dX12_readsLine_89 (by decide) ?_
            refine lv_aload_n hx hb dX12_readsLine_92 rfl (lv_at hl 1 rfl) ?_
            refine mget (v := .ref (y 25)) hx hb hts hiX12 hown hK hw 38 (by decide) lf87 rfl rfl dX12_readsLine_93 ?_
            refine lv_iconst (v := 5) hx hb dX12_readsLine_96 (by decide) ?_
            refine ziald hx hb hK hw 26 mWg25 5 (by decide) (by decide) (by decide) dX12_readsLine_97 ?_
            refine lv_iadd hx hb dX12_readsLine_98 ?_
            have k28 : zI 200 239 (200 + (r26 25 5)) := zI.add (zI.lit (a := 200) (b := 200) (c := 200) (by decide)) (fu25.at k24 rfl) (by decide)
            refine lv_istore_n (lv' := [(2, .int (200 + (r26 25 5))), (1, .int 3), (0, .ref h0)]) hx hb dX12_readsLine_99 rfl hl (by decide) rfl (fun ls hl => ?_)
            refine lv_aload_n hx hb dX12_readsLine_100 rfl (lv_at hl 2 rfl) ?_
            refine mget (v := .ref (y 26)) hx hb hts hiX12 hown hK hw 39 (by decide) lf90 rfl rfl dX12_readsLine_101 ?_
            refine lv_iload_n hx hb dX12_readsLine_104 rfl (lv_at hl 0 rfl) ?_
            refine lv_iload_n hx hb dX12_readsLine_105 rfl (lv_at hl 1 rfl) ?_
            refine miast hx hb hK hw hS 27 mWg26 k28 (by decide) dX12_readsLine_106 (mW ct h0 y (zset r26 26 (upd (r26 26) (zn (200 + (r26 25 5))) (3 : Int32))) q27) mWs26 (fun H locs hw hS => ?_)
            refine mgen (P := fun x => mJ B x ∧ zFr [104, 105, 106, 108, 109, 136, 25, 26, 27, 28] r x) hw ⟨ju25.setW (Or.inl rfl) (zI.top _) rfl (fu25.at k24 rfl) (by decide) (Int.le_refl _), ((zFr.refl).tr fu25 rfl).set rfl⟩ (fun r29 er29 hw pr29 => ?_)
            have hE := zletE er29 hE
            refine lv_iload_n hx hb dX12_readsLine_107 rfl (lv_at hl 1 rfl) ?_
            refine lv_iconst (v := 3) hx hb dX12_readsLine_108 (by decide) ?_
            refine lv_icmp_eq (tgt := 135) hx hb dX12_readsLine_109 (by decide) (fun _ => ?_) (fun h => absurd (by decide) h)
            refine lv_iload_n hx hb dX12_readsLine_135 rfl (lv_at hl 1 rfl) ?_
            refine lv_if_ne (tgt := 156) hx hb dX12_readsLine_136 (by decide) (fun _ => ?_) (fun h => absurd h (by decide))
            refine lv_iload_n hx hb dX12_readsLine_156 rfl (lv_at hl 1 rfl) ?_
            refine lv_iconst (v := 1) hx hb dX12_readsLine_157 (by decide) ?_
            refine lv_icmp_ne (tgt := 173) hx hb dX12_readsLine_158 (by decide) (fun _ => ?_) (fun h => absurd h (by decide))
            refine lv_aload_n hx hb dX12_readsLine_173 rfl (lv_at hl 2 rfl) ?_
            refine mget (v := .ref (y 28)) hx hb hts hiX12 hown hK hw 41 (by decide) lf96 rfl rfl dX12_readsLine_174 ?_
            refine lv_iload_n hx hb dX12_readsLine_177 rfl (lv_at hl 0 rfl) ?_
            refine lv_aload_n hx hb dX12_readsLine_178 rfl (lv_at hl 2 rfl) ?_
            refine mget (v := .int (r29 136 0)) hx hb hts hiX12 hown hK hw 36 (by decide) lf256 rfl rfl dX12_readsLine_179 ?_
            refine miast hx hb hK hw hS 29 mWg28 k28 (by decide) dX12_readsLine_182 (mW ct h0 y (zset r29 28 (upd (r29 28) (zn (200 + (r26 25 5))) (r29 136 0))) q27) mWs28 (fun H locs hw hS => ?_)
            refine mgen (P := fun x => mJ B x ∧ zFr [104, 105, 106, 108, 109, 136, 25, 26, 27, 28] r x) hw ⟨pr29.1.setW (Or.inr rfl) (zs_at er29 (fu25.at x3 rfl) (by decide)) rfl (fu25.at k24 rfl) (by decide) (Int.le_of_eq (congrArg Int32.toInt (congrFun (zs_row (k := 25) er29 (by decide)) 5))), pr29.2.set rfl⟩ (fun r33 er33 hw pr33 => ?_)
            have hE := zletE er33 hE
            refine lv_aload_n hx hb dX12_readsLine_183 rfl (lv_at hl 2 rfl) ?_
            refine mget (v := .ref (y 25)) hx hb hts hiX12 hown hK hw 38 (by decide) lf87 rfl rfl dX12_readsLine_184 ?_
            refine lv_iconst (v := 5) hx hb dX12_readsLine_187 (by decide) ?_
            refine lv_dup2_11 hx hb dX12_readsLine_188 rfl rfl ?_
            refine ziald hx hb hK hw 26 mWg25 5 (by decide) (by decide) (by decide) dX12_readsLine_189 ?_
            refine lv_iconst (v := 1) hx hb dX12_readsLine_190 (by decide) ?_
            refine lv_iadd hx hb dX12_readsLine_191 ?_
            have k34 : zI 1 40 ((r33 25 5) + 1) := zI.add (zs_at er33 (zs_at er29 (fu25.at k24 rfl) (by decide)) (by decide)) (zI.lit (a := 1) (b := 1) (c := 1) (by decide)) (by decide)
            refine ziast hx hb hK hw hS 26 mWg25 5 (by decide) (by decide) (by decide) dX12_readsLine_192 (mW ct h0 y (zset r33 25 (upd (r33 25) 5 ((r33 25 5) + 1))) q27) mWs25 (fun H locs hw hS => ?_)
            refine mgen (P := fun x => mJ B x ∧ zFr [104, 105, 106, 108, 109, 136, 25, 26, 27, 28] r x) hw ⟨pr33.1.line1 (zs_at er33 (zs_at er29 (fu25.at k24 rfl) (by decide)) (by decide)) (congrArg (fun z : Nat → Int32 => (200 : Int32) + z 5) ((zs_row (k := 25) er33 (by decide)).trans (zs_row (k := 25) er29 (by decide))).symm) (fun h9 => by rw [(zs_row (k := 26) er33 (by decide)), zs_self er29, pk_us] at h9; exact absurd h9 (by decide)), pr33.2.set rfl⟩ (fun r35 er35 hw pr35 => ?_)
            have hE := zletE er35 hE
            refine lv_aload_n hx hb dX12_readsLine_193 rfl (lv_at hl 2 rfl) ?_
            refine mcallV (As := []) (rest := []) ⟨hx, hb, hml, hown, hts⟩ (mc_closes l D ct h0 y B r35 q27 pr35.1 ((mP.fr yu25_0 ((zs_row (k := 103) er35 (by decide)).trans ((zs_row (k := 103) er33 (by decide)).trans (zs_row (k := 103) er29 (by decide)))) ((zs_row (k := 104) er35 (by decide)).trans ((zs_row (k := 104) er33 (by decide)).trans (zs_row (k := 104) er29 (by decide)))) ((zs_row (k := 105) er35 (by decide)).trans ((zs_row (k := 105) er33 (by decide)).trans (zs_row (k := 105) er29 (by decide)))) ((zs_row (k := 106) er35 (by decide)).trans ((zs_row (k := 106) er33 (by decide)).trans (zs_row (k := 106) er29 (by decide))))))) (wqX12_286_mc_closes hts ⟨Nat.le_of_ble_eq_true rfl, Nat.le_of_ble_eq_true rfl⟩) hw hS hA hK hN rfl hl.1 rfl (Nat.le_of_ble_eq_true rfl) dX12_readsLine_194 197 rfl (fun u36 H locs pu36 hw hS => ?_)
            obtain ⟨v37, r38, q39⟩ := u36
            have hv37 : zI 0 1 v37 := pu36.1
            have ju36 : mJ B r38 := pu36.2.1
            have fu36 : zFr [104, 105, 106, 108, 109] r35 r38 := pu36.2.2.1
            have yu36_0 : mP r38 := pu36.2.2.2.1
            have yu36_1 : (r35 105 0).toInt ≤ (r38 105 0).toInt := pu36.2.2.2.2.1
            have xu36 : (v37, r38, q39) = (Gm_closes r35 q27) := pu36.2.2.2.2.2.1
            have hE := zc_vrqE xu36 hE
            have hw : zPD D A (mW ct h0 y r38 q39) H := hw
            refine zfr 197 [.int v37] rfl rfl ?_
            exact ziretQ hQ hx hb hr (hv37.rn) hlocks (v37, r38, q39) rfl ⟨hv37, ju36, (pr35.2.tr fu36 rfl), (show mP r38 from yu36_0), (show ¬ v37 = 0 → (r 105 0).toInt < (r38 105 0).toInt from (fun _ => by have := yu36_1; have := congrArg Int32.toInt (congrFun (zs_row (k := 105) er35 (by decide)) 0); have := congrArg Int32.toInt (congrFun (zs_row (k := 105) er33 (by decide)) 0); have := congrArg Int32.toInt (congrFun (zs_row (k := 105) er29 (by decide)) 0); have := yu25_1; have := (x1).1; have := (x1).2.2.resolve_left (tkne (yu13_0 c15) (by decide)); omega)), (fun _ => (fu36.at (zs_at er35 (zs_at er33 (zs_at er29 (fu25.at x3 rfl) (by decide)) (by decide)) (by decide)) rfl)), (hE.symm.trans hX), trivial⟩ hw hS dX12_readsLine_197
          · have hE := zifnF c23 hE
            have k40 : zI 40 40 (r 25 5) := zI.eqq c23 (zI.lit (a := 40) (b := 40) (c := 40) (by decide))
            refine lv_aload_n hx hb dX12_readsLine_79 rfl (lv_at hl 1 rfl) ?_
            refine lv_iconst (v := 5) hx hb dX12_readsLine_80 (by decide) ?_
            refine mcallV (As := [.int 5]) (rest := []) ⟨hx, hb, hml, hown, hts⟩ (mc_fails l D ct h0 y B 5 r q ((zI.lit (a := 5) (b := 5) (c := 5) (by decide)).w (c := 1) (d := 5) (by decide)) hJ0) (wqX12_193_mc_fails hts ⟨Nat.le_of_ble_eq_true rfl, Nat.le_of_ble_eq_true rfl⟩) hw hS hA hK hN rfl hl.1 rfl (Nat.le_of_ble_eq_true rfl) dX12_readsLine_81 84 rfl (fun u41 H locs pu41 hw hS => ?_)
            obtain ⟨v42, r43⟩ := u41
            have hv42 : zI 0 0 v42 := pu41.1
            have ju41 : mJ B r43 := pu41.2.1
            have fu41 : zFr [109] r r43 := pu41.2.2.1
            have xu41 : (v42, r43) = (Gm_fails (5 : Int32) r q) := pu41.2.2.2.1
            have hE := zc_vrE xu41 hE
            have hw : zPD D A (mW ct h0 y r43 q) H := hw
            refine zfr 84 [.int v42] rfl rfl ?_
            exact ziretQ hQ hx hb hr ((hv42.w (c := 0) (d := 1) (by decide)).rn) hlocks (v42, r43, q) rfl ⟨(hv42.w (c := 0) (d := 1) (by decide)), ju41, ((zFr.refl).tr fu41 rfl), (show mP r43 from (mP.fr x1 (fu41 103 rfl) (fu41 104 rfl) (fu41 105 rfl) (fu41 106 rfl))), (fun h => absurd (zI.eq0 hv42) h), (fun h => absurd (zI.eq0 hv42) h), (hE.symm.trans hX), trivial⟩ hw hS dX12_readsLine_84
      · have hE := zifF c11 hE
        have k44 : zI 1 1 (u9) := zI.neD c11 hu9 (zI.lit (a := 0) (b := 0) (c := 0) (by decide)) (by decide)
        refine lv_iconst (v := 2) hx hb dX12_readsLine_38 (by decide) ?_
        refine lv_goto (tgt := 57) hx hb dX12_readsLine_39 (by decide) ?_
        refine lv_istore_n (lv' := [(1, .int 2), (0, .ref h0)]) hx hb dX12_readsLine_57 rfl hl (by decide) rfl (fun ls hl => ?_)
        refine lv_iload_n hx hb dX12_readsLine_58 rfl (lv_at hl 0 rfl) ?_
        refine lv_if_ge (tgt := 68) hx hb dX12_readsLine_59 (by decide) (fun _ => ?_) (fun h => absurd (by decide) h)
        refine lv_aload_n hx hb dX12_readsLine_68 rfl (lv_at hl 1 rfl) ?_
        refine mget (v := .ref (y 25)) hx hb hts hiX12 hown hK hw 38 (by decide) lf87 rfl rfl dX12_readsLine_69 ?_
        refine lv_iconst (v := 5) hx hb dX12_readsLine_72 (by decide) ?_
        refine ziald hx hb hK hw 26 mWg25 5 (by decide) (by decide) (by decide) dX12_readsLine_73 ?_
        refine lv_bipush (v := 40) hx hb dX12_readsLine_74 (by decide) ?_
        refine lv_icmp_ne (tgt := 85) hx hb dX12_readsLine_76 (by decide) (fun c46 => ?_) (fun c46 => ?_)
        · have hE := zifnT c46 hE
          have k47 : zI 0 39 (r 25 5) := zI.neU c46 (show zI 0 40 (r 25 5) from hJ0.i 25 5) (zI.lit (a := 40) (b := 40) (c := 40) (by decide)) (by decide)
          refine lv_aload_n hx hb dX12_readsLine_85 rfl (lv_at hl 1 rfl) ?_
          refine mcallV (As := []) (rest := []) ⟨hx, hb, hml, hown, hts⟩ (mc_nextToken l D ct h0 y B r q hJ0 ((x1).2.1)) (wqX12_200_mc_nextToken hts ⟨Nat.le_of_ble_eq_true rfl, Nat.le_of_ble_eq_true rfl⟩) hw hS hA hK hN rfl hl.1 rfl (Nat.le_of_ble_eq_true rfl) dX12_readsLine_86 89 rfl (fun u48 H locs pu48 hw hS => ?_)
          obtain ⟨r49, q50⟩ := u48
          have ju48 : mJ B r49 := pu48.1
          have fu48 : zFr [104, 105, 106, 108] r r49 := pu48.2.1
          have yu48_0 : mP r49 := pu48.2.2.1
          have yu48_1 : (r 104 0).toInt ≤ (r49 105 0).toInt := pu48.2.2.2.1
          have xu48 : (r49, q50) = (Gm_nextToken r q) := pu48.2.2.2.2.1
          have hE := zc_rqE xu48 hE
          have hw : zPD D A (mW ct h0 y r49 q50) H := hw
          refine zfr 89 [] rfl rfl ?_
          refine lv_sipush (v := 200) hx hb dX12_readsLine_89 (by decide) ?_
          refine lv_aload_n hx hb dX12_readsLine_92 rfl (lv_at hl 1 rfl) ?_
          refine mget (v := .ref (y 25)) hx hb hts hiX12 hown hK hw 38 (by decide) lf87 rfl rfl dX12_readsLine_93 ?_
          refine lv_iconst (v := 5) hx hb dX12_readsLine_96 (by decide) ?_
          refine ziald hx hb hK hw 26 mWg25 5 (by decide) (by decide) (by decide) dX12_readsLine_97 ?_
          refine lv_iadd hx hb dX12_readsLine_98 ?_
          have k51 : zI 200 239 (200 + (r49 25 5)) := zI.add (zI.lit (a := 200) (b := 200) (c := 200) (by decide)) (fu48.at k47 rfl) (by decide)
          refine lv_istore_n (lv' := [(2, .int (200 + (r49 25 5))), (1, .int 2), (0, .ref h0)]) hx hb dX12_readsLine_99 rfl hl (by decide) rfl (fun ls hl => ?_)
          refine lv_aload_n hx hb dX12_readsLine_100 rfl (lv_at hl 2 rfl) ?_
          refine mget (v := .ref (y 26)) hx hb hts hiX12 hown hK hw 39 (by decide) lf90 rfl rfl dX12_readsLine_101 ?_
          refine lv_iload_n hx hb dX12_readsLine_104 rfl (lv_at hl 0 rfl) ?_
          refine lv_iload_n hx hb dX12_readsLine_105 rfl (lv_at hl 1 rfl) ?_
          refine miast hx hb hK hw hS 27 mWg26 k51 (by decide) dX12_readsLine_106 (mW ct h0 y (zset r49 26 (upd (r49 26) (zn (200 + (r49 25 5))) (2 : Int32))) q50) mWs26 (fun H locs hw hS => ?_)
          refine mgen (P := fun x => mJ B x ∧ zFr [104, 105, 106, 108, 109, 136, 25, 26, 27, 28] r x) hw ⟨ju48.setW (Or.inl rfl) (zI.top _) rfl (fu48.at k47 rfl) (by decide) (Int.le_refl _), ((zFr.refl).tr fu48 rfl).set rfl⟩ (fun r52 er52 hw pr52 => ?_)
          have hE := zletE er52 hE
          refine lv_iload_n hx hb dX12_readsLine_107 rfl (lv_at hl 1 rfl) ?_
          refine lv_iconst (v := 3) hx hb dX12_readsLine_108 (by decide) ?_
          refine lv_icmp_eq (tgt := 135) hx hb dX12_readsLine_109 (by decide) (fun h => absurd h (by decide)) (fun _ => ?_)
          refine lv_aload_n hx hb dX12_readsLine_112 rfl (lv_at hl 2 rfl) ?_
          refine mcallV (As := []) (rest := []) ⟨hx, hb, hml, hown, hts⟩ (mc_needsPerson l D ct h0 y B r52 q50 pr52.1) (wqX12_324_mc_needsPerson hts ⟨Nat.le_of_ble_eq_true rfl, Nat.le_of_ble_eq_true rfl⟩) hw hS hA hK hN rfl hl.1 rfl (Nat.le_of_ble_eq_true rfl) dX12_readsLine_113 116 rfl (fun u54 H locs pu54 hw hS => ?_)
          obtain ⟨v55, r56⟩ := u54
          have hv55 : zI 0 1 v55 := pu54.1
          have ju54 : mJ B r56 := pu54.2.1
          have fu54 : zFr [136, 109] r52 r56 := pu54.2.2.1
          have yu54_0 : ¬ v55 = 0 → zI 0 5 (r56 136 0) := pu54.2.2.2.1
          have xu54 : (v55, r56) = (Gm_needsPerson r52 q50) := pu54.2.2.2.2.1
          have hE := zc_vrE xu54 hE
          have hw : zPD D A (mW ct h0 y r56 q50) H := hw
          refine zfr 116 [.int v55] rfl rfl ?_
          refine lv_if_ne (tgt := 121) hx hb dX12_readsLine_116 (by decide) (fun c57 => ?_) (fun c57 => ?_)
          · have hE := zifnT c57 hE
            have k58 : zI 1 1 (v55) := zI.neD c57 hv55 (zI.lit (a := 0) (b := 0) (c := 0) (by decide)) (by decide)
            refine lv_aload_n hx hb dX12_readsLine_121 rfl (lv_at hl 2 rfl) ?_
            refine mget (v := .ref (y 27)) hx hb hts hiX12 hown hK hw 40 (by decide) lf93 rfl rfl dX12_readsLine_122 ?_
            refine lv_iload_n hx hb dX12_readsLine_125 rfl (lv_at hl 0 rfl) ?_
            refine lv_aload_n hx hb dX12_readsLine_126 rfl (lv_at hl 2 rfl) ?_
            refine mget (v := .int (r56 136 0)) hx hb hts hiX12 hown hK hw 36 (by decide) lf256 rfl rfl dX12_readsLine_127 ?_
            refine miast hx hb hK hw hS 28 mWg27 k51 (by decide) dX12_readsLine_130 (mW ct h0 y (zset r56 27 (upd (r56 27) (zn (200 + (r49 25 5))) (r56 136 0))) q50) mWs27 (fun H locs hw hS => ?_)
            refine mgen (P := fun x => mJ B x ∧ zFr [104, 105, 106, 108, 109, 136, 25, 26, 27, 28] r x) hw ⟨ju54.set rfl (yu54_0 c57), (pr52.2.tr fu54 rfl).set rfl⟩ (fun r59 er59 hw pr59 => ?_)
            have hE := zletE er59 hE
            refine lv_aload_n hx hb dX12_readsLine_131 rfl (lv_at hl 2 rfl) ?_
            refine mcallV (As := []) (rest := []) ⟨hx, hb, hml, hown, hts⟩ (mc_nextToken l D ct h0 y B r59 q50 pr59.1 (((mP.fr yu48_0 ((zs_row (k := 103) er59 (by decide)).trans ((fu54 103 rfl).trans (zs_row (k := 103) er52 (by decide)))) ((zs_row (k := 104) er59 (by decide)).trans ((fu54 104 rfl).trans (zs_row (k := 104) er52 (by decide)))) ((zs_row (k := 105) er59 (by decide)).trans ((fu54 105 rfl).trans (zs_row (k := 105) er52 (by decide)))) ((zs_row (k := 106) er59 (by decide)).trans ((fu54 106 rfl).trans (zs_row (k := 106) er52 (by decide)))))).2.1)) (wqX12_200_mc_nextToken hts ⟨Nat.le_of_ble_eq_true rfl, Nat.le_of_ble_eq_true rfl⟩) hw hS hA hK hN rfl hl.1 rfl (Nat.le_of_ble_eq_true rfl) dX12_readsLine_132 135 rfl (fun u60 H locs pu60 hw hS => ?_)
            obtain ⟨r61, q62⟩ := u60
            have ju60 : mJ B r61 := pu60.1
            have fu60 : zFr [104, 105, 106, 108] r59 r61 := pu60.2.1
            have yu60_0 : mP r61 := pu60.2.2.1
            have yu60_1 : (r59 104 0).toInt ≤ (r61 105 0).toInt := pu60.2.2.2.1
            have xu60 : (r61, q62) = (Gm_nextToken r59 q50) := pu60.2.2.2.2.1
            have hE := zc_rqE xu60 hE
            have hw : zPD D A (mW ct h0 y r61 q62) H := hw
            refine zfr 135 [] rfl rfl ?_
            refine lv_iload_n hx hb dX12_readsLine_135 rfl (lv_at hl 1 rfl) ?_
            refine lv_if_ne (tgt := 156) hx hb dX12_readsLine_136 (by decide) (fun _ => ?_) (fun h => absurd h (by decide))
            refine lv_iload_n hx hb dX12_readsLine_156 rfl (lv_at hl 1 rfl) ?_
            refine lv_iconst (v := 1) hx hb dX12_readsLine_157 (by decide) ?_
            refine lv_icmp_ne (tgt := 173) hx hb dX12_readsLine_158 (by decide) (fun _ => ?_) (fun h => absurd h (by decide))
            refine lv_aload_n hx hb dX12_readsLine_173 rfl (lv_at hl 2 rfl) ?_
            refine mget (v := .ref (y 28)) hx hb hts hiX12 hown hK hw 41 (by decide) lf96 rfl rfl dX12_readsLine_174 ?_
            refine lv_iload_n hx hb dX12_readsLine_177 rfl (lv_at hl 0 rfl) ?_
            refine lv_aload_n hx hb dX12_readsLine_178 rfl (lv_at hl 2 rfl) ?_
            refine mget (v := .int (r61 136 0)) hx hb hts hiX12 hown hK hw 36 (by decide) lf256 rfl rfl dX12_readsLine_179 ?_
            refine miast hx hb hK hw hS 29 mWg28 k51 (by decide) dX12_readsLine_182 (mW ct h0 y (zset r61 28 (upd (r61 28) (zn (200 + (r49 25 5))) (r61 136 0))) q62) mWs28 (fun H locs hw hS => ?_)
            refine mgen (P := fun x => mJ B x ∧ zFr [104, 105, 106, 108, 109, 136, 25, 26, 27, 28] r x) hw ⟨ju60.setW (Or.inr rfl) ((fu60.at (zs_at er59 (yu54_0 c57) (by decide)) rfl).w (c := 0) (d := 9999) (by decide)) rfl (fu48.at k47 rfl) (by decide) (Int.le_of_eq (congrArg Int32.toInt (congrFun ((fu60 25 rfl).trans ((zs_row (k := 25) er59 (by decide)).trans ((fu54 25 rfl).trans (zs_row (k := 25) er52 (by decide))))) 5))), (pr59.2.tr fu60 rfl).set rfl⟩ (fun r65 er65 hw pr65 => ?_)
            have hE := zletE er65 hE
            refine lv_aload_n hx hb dX12_readsLine_183 rfl (lv_at hl 2 rfl) ?_
            refine mget (v := .ref (y 25)) hx hb hts hiX12 hown hK hw 38 (by decide) lf87 rfl rfl dX12_readsLine_184 ?_
            refine lv_iconst (v := 5) hx hb dX12_readsLine_187 (by decide) ?_
            refine lv_dup2_11 hx hb dX12_readsLine_188 rfl rfl ?_
            refine ziald hx hb hK hw 26 mWg25 5 (by decide) (by decide) (by decide) dX12_readsLine_189 ?_
            refine lv_iconst (v := 1) hx hb dX12_readsLine_190 (by decide) ?_
            refine lv_iadd hx hb dX12_readsLine_191 ?_
            have k66 : zI 1 40 ((r65 25 5) + 1) := zI.add (zs_at er65 (fu60.at (zs_at er59 (fu54.at (zs_at er52 (fu48.at k47 rfl) (by decide)) rfl) (by decide)) rfl) (by decide)) (zI.lit (a := 1) (b := 1) (c := 1) (by decide)) (by decide)
            refine ziast hx hb hK hw hS 26 mWg25 5 (by decide) (by decide) (by decide) dX12_readsLine_192 (mW ct h0 y (zset r65 25 (upd (r65 25) 5 ((r65 25 5) + 1))) q62) mWs25 (fun H locs hw hS => ?_)
            refine mgen (P := fun x => mJ B x ∧ zFr [104, 105, 106, 108, 109, 136, 25, 26, 27, 28] r x) hw ⟨pr65.1.line1 (zs_at er65 (fu60.at (zs_at er59 (fu54.at (zs_at er52 (fu48.at k47 rfl) (by decide)) rfl) (by decide)) rfl) (by decide)) (congrArg (fun z : Nat → Int32 => (200 : Int32) + z 5) ((zs_row (k := 25) er65 (by decide)).trans ((fu60 25 rfl).trans ((zs_row (k := 25) er59 (by decide)).trans ((fu54 25 rfl).trans (zs_row (k := 25) er52 (by decide)))))).symm) (fun h9 => by rw [((zs_row (k := 26) er65 (by decide)).trans ((fu60 26 rfl).trans ((zs_row (k := 26) er59 (by decide)).trans (fu54 26 rfl)))), zs_self er52, pk_us] at h9; exact absurd h9 (by decide)), pr65.2.set rfl⟩ (fun r67 er67 hw pr67 => ?_)
            have hE := zletE er67 hE
            refine lv_aload_n hx hb dX12_readsLine_193 rfl (lv_at hl 2 rfl) ?_
            refine mcallV (As := []) (rest := []) ⟨hx, hb, hml, hown, hts⟩ (mc_closes l D ct h0 y B r67 q62 pr67.1 ((mP.fr yu60_0 ((zs_row (k := 103) er67 (by decide)).trans (zs_row (k := 103) er65 (by decide))) ((zs_row (k := 104) er67 (by decide)).trans (zs_row (k := 104) er65 (by decide))) ((zs_row (k := 105) er67 (by decide)).trans (zs_row (k := 105) er65 (by decide))) ((zs_row (k := 106) er67 (by decide)).trans (zs_row (k := 106) er65 (by decide)))))) (wqX12_286_mc_closes hts ⟨Nat.le_of_ble_eq_true rfl, Nat.le_of_ble_eq_true rfl⟩) hw hS hA hK hN rfl hl.1 rfl (Nat.le_of_ble_eq_true rfl) dX12_readsLine_194 197 rfl (fun u68 H locs pu68 hw hS => ?_)
            obtain ⟨v69, r70, q71⟩ := u68
            have hv69 : zI 0 1 v69 := pu68.1
            have ju68 : mJ B r70 := pu68.2.1
            have fu68 : zFr [104, 105, 106, 108, 109] r67 r70 := pu68.2.2.1
            have yu68_0 : mP r70 := pu68.2.2.2.1
            have yu68_1 : (r67 105 0).toInt ≤ (r70 105 0).toInt := pu68.2.2.2.2.1
            have xu68 : (v69, r70, q71) = (Gm_closes r67 q62) := pu68.2.2.2.2.2.1
            have hE := zc_vrqE xu68 hE
            have hw : zPD D A (mW ct h0 y r70 q71) H := hw
            refine zfr 197 [.int v69] rfl rfl ?_
            exact ziretQ hQ hx hb hr (hv69.rn) hlocks (v69, r70, q71) rfl ⟨hv69, ju68, (pr67.2.tr fu68 rfl), (show mP r70 from yu68_0), (show ¬ v69 = 0 → (r 105 0).toInt < (r70 105 0).toInt from (fun _ => by have := yu68_1; have := congrArg Int32.toInt (congrFun (zs_row (k := 105) er67 (by decide)) 0); have := congrArg Int32.toInt (congrFun (zs_row (k := 105) er65 (by decide)) 0); have := yu60_1; have := ((mP.fr yu48_0 ((zs_row (k := 103) er59 (by decide)).trans ((fu54 103 rfl).trans (zs_row (k := 103) er52 (by decide)))) ((zs_row (k := 104) er59 (by decide)).trans ((fu54 104 rfl).trans (zs_row (k := 104) er52 (by decide)))) ((zs_row (k := 105) er59 (by decide)).trans ((fu54 105 rfl).trans (zs_row (k := 105) er52 (by decide)))) ((zs_row (k := 106) er59 (by decide)).trans ((fu54 106 rfl).trans (zs_row (k := 106) er52 (by decide)))))).1; have := congrArg Int32.toInt (congrFun (zs_row (k := 105) er59 (by decide)) 0); have := congrArg Int32.toInt (congrFun (fu54 105 rfl) 0); have := congrArg Int32.toInt (congrFun (zs_row (k := 105) er52 (by decide)) 0); have := yu48_1; have := (x1).1; have := (x1).2.2.resolve_left (tkne (yu9_0 c11) (by decide)); omega)), (fun _ => ((fu68.at (zs_at er67 (zs_at er65 (fu60.at (zs_at er59 (yu54_0 c57) (by decide)) rfl) (by decide)) (by decide)) rfl).w (c := 0) (d := 9999) (by decide))), (hE.symm.trans hX), trivial⟩ hw hS dX12_readsLine_197
          · have hE := zifnF c57 hE
            have k72 : zI 0 0 (v55) := zI.eqq c57 (zI.lit (a := 0) (b := 0) (c := 0) (by decide))
            refine lv_iconst (v := 0) hx hb dX12_readsLine_119 (by decide) ?_
            exact ziretQ hQ hx hb hr rfl hlocks (0, r56, q50) rfl ⟨((zI.lit (a := 0) (b := 0) (c := 0) (by decide)).w (c := 0) (d := 1) (by decide)), ju54, (pr52.2.tr fu54 rfl), (show mP r56 from (mP.fr yu48_0 ((fu54 103 rfl).trans (zs_row (k := 103) er52 (by decide))) ((fu54 104 rfl).trans (zs_row (k := 104) er52 (by decide))) ((fu54 105 rfl).trans (zs_row (k := 105) er52 (by decide))) ((fu54 106 rfl).trans (zs_row (k := 106) er52 (by decide))))), (fun h => absurd rfl h), (fun h => absurd rfl h), (hE.symm.trans hX), trivial⟩ hw hS dX12_readsLine_120
        · have hE := zifnF c46 hE
          have k73 : zI 40 40 (r 25 5) := zI.eqq c46 (zI.lit (a := 40) (b := 40) (c := 40) (by decide))
          refine lv_aload_n hx hb dX12_readsLine_79 rfl (lv_at hl 1 rfl) ?_
          refine lv_iconst (v := 5) hx hb dX12_readsLine_80 (by decide) ?_
          refine mcallV (As := [.int 5]) (rest := []) ⟨hx, hb, hml, hown, hts⟩ (mc_fails l D ct h0 y B 5 r q ((zI.lit (a := 5) (b := 5) (c := 5) (by decide)).w (c := 1) (d := 5) (by decide)) hJ0) (wqX12_193_mc_fails hts ⟨Nat.le_of_ble_eq_true rfl, Nat.le_of_ble_eq_true rfl⟩) hw hS hA hK hN rfl hl.1 rfl (Nat.le_of_ble_eq_true rfl) dX12_readsLine_81 84 rfl (fun u74 H locs pu74 hw hS => ?_)
          obtain ⟨v75, r76⟩ := u74
          have hv75 : zI 0 0 v75 := pu74.1
          have ju74 : mJ B r76 := pu74.2.1
          have fu74 : zFr [109] r r76 := pu74.2.2.1
          have xu74 : (v75, r76) = (Gm_fails (5 : Int32) r q) := pu74.2.2.2.1
          have hE := zc_vrE xu74 hE
          have hw : zPD D A (mW ct h0 y r76 q) H := hw
          refine zfr 84 [.int v75] rfl rfl ?_
          exact ziretQ hQ hx hb hr ((hv75.w (c := 0) (d := 1) (by decide)).rn) hlocks (v75, r76, q) rfl ⟨(hv75.w (c := 0) (d := 1) (by decide)), ju74, ((zFr.refl).tr fu74 rfl), (show mP r76 from (mP.fr x1 (fu74 103 rfl) (fu74 104 rfl) (fu74 105 rfl) (fu74 106 rfl))), (fun h => absurd (zI.eq0 hv75) h), (fun h => absurd (zI.eq0 hv75) h), (hE.symm.trans hX), trivial⟩ hw hS dX12_readsLine_84
    · have hE := zifF c7 hE
      have k77 : zI 1 1 (u5) := zI.neD c7 hu5 (zI.lit (a := 0) (b := 0) (c := 0) (by decide)) (by decide)
      refine lv_iconst (v := 1) hx hb dX12_readsLine_24 (by decide) ?_
      refine lv_goto (tgt := 57) hx hb dX12_readsLine_25 (by decide) ?_
      refine lv_istore_n (lv' := [(1, .int 1), (0, .ref h0)]) hx hb dX12_readsLine_57 rfl hl (by decide) rfl (fun ls hl => ?_)
      refine lv_iload_n hx hb dX12_readsLine_58 rfl (lv_at hl 0 rfl) ?_
      refine lv_if_ge (tgt := 68) hx hb dX12_readsLine_59 (by decide) (fun _ => ?_) (fun h => absurd (by decide) h)
      refine lv_aload_n hx hb dX12_readsLine_68 rfl (lv_at hl 1 rfl) ?_
      refine mget (v := .ref (y 25)) hx hb hts hiX12 hown hK hw 38 (by decide) lf87 rfl rfl dX12_readsLine_69 ?_
      refine lv_iconst (v := 5) hx hb dX12_readsLine_72 (by decide) ?_
      refine ziald hx hb hK hw 26 mWg25 5 (by decide) (by decide) (by decide) dX12_readsLine_73 ?_
      refine lv_bipush (v := 40) hx hb dX12_readsLine_74 (by decide) ?_
      refine lv_icmp_ne (tgt := 85) hx hb dX12_readsLine_76 (by decide) (fun c79 => ?_) (fun c79 => ?_)
      · have hE := zifnT c79 hE
        have k80 : zI 0 39 (r 25 5) := zI.neU c79 (show zI 0 40 (r 25 5) from hJ0.i 25 5) (zI.lit (a := 40) (b := 40) (c := 40) (by decide)) (by decide)
        refine lv_aload_n hx hb dX12_readsLine_85 rfl (lv_at hl 1 rfl) ?_
        refine mcallV (As := []) (rest := []) ⟨hx, hb, hml, hown, hts⟩ (mc_nextToken l D ct h0 y B r q hJ0 ((x1).2.1)) (wqX12_200_mc_nextToken hts ⟨Nat.le_of_ble_eq_true rfl, Nat.le_of_ble_eq_true rfl⟩) hw hS hA hK hN rfl hl.1 rfl (Nat.le_of_ble_eq_true rfl) dX12_readsLine_86 89 rfl (fun u81 H locs pu81 hw hS => ?_)
        obtain ⟨r82, q83⟩ := u81
        have ju81 : mJ B r82 := pu81.1
        have fu81 : zFr [104, 105, 106, 108] r r82 := pu81.2.1
        have yu81_0 : mP r82 := pu81.2.2.1
        have yu81_1 : (r 104 0).toInt ≤ (r82 105 0).toInt := pu81.2.2.2.1
        have xu81 : (r82, q83) = (Gm_nextToken r q) := pu81.2.2.2.2.1
        have hE := zc_rqE xu81 hE
        have hw : zPD D A (mW ct h0 y r82 q83) H := hw
        refine zfr 89 [] rfl rfl ?_
        refine lv_sipush (v := 200) hx hb dX12_readsLine_89 (by decide) ?_
        refine lv_aload_n hx hb dX12_readsLine_92 rfl (lv_at hl 1 rfl) ?_
        refine mget (v := .ref (y 25)) hx hb hts hiX12 hown hK hw 38 (by decide) lf87 rfl rfl dX12_readsLine_93 ?_
        refine lv_iconst (v := 5) hx hb dX12_readsLine_96 (by decide) ?_
        refine ziald hx hb hK hw 26 mWg25 5 (by decide) (by decide) (by decide) dX12_readsLine_97 ?_
        refine lv_iadd hx hb dX12_readsLine_98 ?_
        have k84 : zI 200 239 (200 + (r82 25 5)) := zI.add (zI.lit (a := 200) (b := 200) (c := 200) (by decide)) (fu81.at k80 rfl) (by decide)
        refine lv_istore_n (lv' := [(2, .int (200 + (r82 25 5))), (1, .int 1), (0, .ref h0)]) hx hb dX12_readsLine_99 rfl hl (by decide) rfl (fun ls hl => ?_)
        refine lv_aload_n hx hb dX12_readsLine_100 rfl (lv_at hl 2 rfl) ?_
        refine mget (v := .ref (y 26)) hx hb hts hiX12 hown hK hw 39 (by decide) lf90 rfl rfl dX12_readsLine_101 ?_
        refine lv_iload_n hx hb dX12_readsLine_104 rfl (lv_at hl 0 rfl) ?_
        refine lv_iload_n hx hb dX12_readsLine_105 rfl (lv_at hl 1 rfl) ?_
        refine miast hx hb hK hw hS 27 mWg26 k84 (by decide) dX12_readsLine_106 (mW ct h0 y (zset r82 26 (upd (r82 26) (zn (200 + (r82 25 5))) (1 : Int32))) q83) mWs26 (fun H locs hw hS => ?_)
        refine mgen (P := fun x => mJ B x ∧ zFr [104, 105, 106, 108, 109, 136, 25, 26, 27, 28] r x) hw ⟨ju81.setW (Or.inl rfl) (zI.top _) rfl (fu81.at k80 rfl) (by decide) (Int.le_refl _), ((zFr.refl).tr fu81 rfl).set rfl⟩ (fun r85 er85 hw pr85 => ?_)
        have hE := zletE er85 hE
        refine lv_iload_n hx hb dX12_readsLine_107 rfl (lv_at hl 1 rfl) ?_
        refine lv_iconst (v := 3) hx hb dX12_readsLine_108 (by decide) ?_
        refine lv_icmp_eq (tgt := 135) hx hb dX12_readsLine_109 (by decide) (fun h => absurd h (by decide)) (fun _ => ?_)
        refine lv_aload_n hx hb dX12_readsLine_112 rfl (lv_at hl 2 rfl) ?_
        refine mcallV (As := []) (rest := []) ⟨hx, hb, hml, hown, hts⟩ (mc_needsPerson l D ct h0 y B r85 q83 pr85.1) (wqX12_324_mc_needsPerson hts ⟨Nat.le_of_ble_eq_true rfl, Nat.le_of_ble_eq_true rfl⟩) hw hS hA hK hN rfl hl.1 rfl (Nat.le_of_ble_eq_true rfl) dX12_readsLine_113 116 rfl (fun u87 H locs pu87 hw hS => ?_)
        obtain ⟨v88, r89⟩ := u87
        have hv88 : zI 0 1 v88 := pu87.1
        have ju87 : mJ B r89 := pu87.2.1
        have fu87 : zFr [136, 109] r85 r89 := pu87.2.2.1
        have yu87_0 : ¬ v88 = 0 → zI 0 5 (r89 136 0) := pu87.2.2.2.1
        have xu87 : (v88, r89) = (Gm_needsPerson r85 q83) := pu87.2.2.2.2.1
        have hE := zc_vrE xu87 hE
        have hw : zPD D A (mW ct h0 y r89 q83) H := hw
        refine zfr 116 [.int v88] rfl rfl ?_
        refine lv_if_ne (tgt := 121) hx hb dX12_readsLine_116 (by decide) (fun c90 => ?_) (fun c90 => ?_)
        · have hE := zifnT c90 hE
          have k91 : zI 1 1 (v88) := zI.neD c90 hv88 (zI.lit (a := 0) (b := 0) (c := 0) (by decide)) (by decide)
          refine lv_aload_n hx hb dX12_readsLine_121 rfl (lv_at hl 2 rfl) ?_
          refine mget (v := .ref (y 27)) hx hb hts hiX12 hown hK hw 40 (by decide) lf93 rfl rfl dX12_readsLine_122 ?_
          refine lv_iload_n hx hb dX12_readsLine_125 rfl (lv_at hl 0 rfl) ?_
          refine lv_aload_n hx hb dX12_readsLine_126 rfl (lv_at hl 2 rfl) ?_
          refine mget (v := .int (r89 136 0)) hx hb hts hiX12 hown hK hw 36 (by decide) lf256 rfl rfl dX12_readsLine_127 ?_
          refine miast hx hb hK hw hS 28 mWg27 k84 (by decide) dX12_readsLine_130 (mW ct h0 y (zset r89 27 (upd (r89 27) (zn (200 + (r82 25 5))) (r89 136 0))) q83) mWs27 (fun H locs hw hS => ?_)
          refine mgen (P := fun x => mJ B x ∧ zFr [104, 105, 106, 108, 109, 136, 25, 26, 27, 28] r x) hw ⟨ju87.set rfl (yu87_0 c90), (pr85.2.tr fu87 rfl).set rfl⟩ (fun r92 er92 hw pr92 => ?_)
          have hE := zletE er92 hE
          refine lv_aload_n hx hb dX12_readsLine_131 rfl (lv_at hl 2 rfl) ?_
          refine mcallV (As := []) (rest := []) ⟨hx, hb, hml, hown, hts⟩ (mc_nextToken l D ct h0 y B r92 q83 pr92.1 (((mP.fr yu81_0 ((zs_row (k := 103) er92 (by decide)).trans ((fu87 103 rfl).trans (zs_row (k := 103) er85 (by decide)))) ((zs_row (k := 104) er92 (by decide)).trans ((fu87 104 rfl).trans (zs_row (k := 104) er85 (by decide)))) ((zs_row (k := 105) er92 (by decide)).trans ((fu87 105 rfl).trans (zs_row (k := 105) er85 (by decide)))) ((zs_row (k := 106) er92 (by decide)).trans ((fu87 106 rfl).trans (zs_row (k := 106) er85 (by decide)))))).2.1)) (wqX12_200_mc_nextToken hts ⟨Nat.le_of_ble_eq_true rfl, Nat.le_of_ble_eq_true rfl⟩) hw hS hA hK hN rfl hl.1 rfl (Nat.le_of_ble_eq_true rfl) dX12_readsLine_132 135 rfl (fun u93 H locs pu93 hw hS => ?_)
          obtain ⟨r94, q95⟩ := u93
          have ju93 : mJ B r94 := pu93.1
          have fu93 : zFr [104, 105, 106, 108] r92 r94 := pu93.2.1
          have yu93_0 : mP r94 := pu93.2.2.1
          have yu93_1 : (r92 104 0).toInt ≤ (r94 105 0).toInt := pu93.2.2.2.1
          have xu93 : (r94, q95) = (Gm_nextToken r92 q83) := pu93.2.2.2.2.1
          have hE := zc_rqE xu93 hE
          have hw : zPD D A (mW ct h0 y r94 q95) H := hw
          refine zfr 135 [] rfl rfl ?_
          refine lv_iload_n hx hb dX12_readsLine_135 rfl (lv_at hl 1 rfl) ?_
          refine lv_if_ne (tgt := 156) hx hb dX12_readsLine_136 (by decide) (fun _ => ?_) (fun h => absurd h (by decide))
          refine lv_iload_n hx hb dX12_readsLine_156 rfl (lv_at hl 1 rfl) ?_
          refine lv_iconst (v := 1) hx hb dX12_readsLine_157 (by decide) ?_
          refine lv_icmp_ne (tgt := 173) hx hb dX12_readsLine_158 (by decide) (fun h => absurd (by decide) h) (fun _ => ?_)
          refine lv_aload_n hx hb dX12_readsLine_161 rfl (lv_at hl 2 rfl) ?_
          refine lv_iconst (v := 1) hx hb dX12_readsLine_162 (by decide) ?_
          refine lv_bipush (v := 20) hx hb dX12_readsLine_163 (by decide) ?_
          refine mcallV (As := [.int 1, .int 20]) (rest := []) ⟨hx, hb, hml, hown, hts⟩ (mc_needsNumber l D ct h0 y B 1 20 r94 q95 ju93 (yu93_0)) (wqX12_262_mc_needsNumber hts ⟨Nat.le_of_ble_eq_true rfl, Nat.le_of_ble_eq_true rfl⟩) hw hS hA hK hN rfl hl.1 rfl (Nat.le_of_ble_eq_true rfl) dX12_readsLine_165 168 rfl (fun u98 H locs pu98 hw hS => ?_)
          obtain ⟨v99, r100, q101⟩ := u98
          have hv99 : zI 0 1 v99 := pu98.1
          have ju98 : mJ B r100 := pu98.2.1
          have fu98 : zFr [104, 105, 106, 108, 109, 136] r94 r100 := pu98.2.2.1
          have yu98_0 : mP r100 := pu98.2.2.2.1
          have yu98_1 : (r94 105 0).toInt ≤ (r100 105 0).toInt := pu98.2.2.2.2.1
          have yu98_2 : ¬ v99 = 0 → zI 0 9999 (r100 136 0) := pu98.2.2.2.2.2.1
          have xu98 : (v99, r100, q101) = (Gm_needsNumber (1 : Int32) (20 : Int32) r94 q95) := pu98.2.2.2.2.2.2.1
          have hE := zc_vrqE xu98 hE
          have hw : zPD D A (mW ct h0 y r100 q101) H := hw
          refine zfr 168 [.int v99] rfl rfl ?_
          refine lv_if_ne (tgt := 173) hx hb dX12_readsLine_168 (by decide) (fun c102 => ?_) (fun c102 => ?_)
          · have hE := zifnT c102 hE
            have k103 : zI 1 1 (v99) := zI.neD c102 hv99 (zI.lit (a := 0) (b := 0) (c := 0) (by decide)) (by decide)
            refine lv_aload_n hx hb dX12_readsLine_173 rfl (lv_at hl 2 rfl) ?_
            refine mget (v := .ref (y 28)) hx hb hts hiX12 hown hK hw 41 (by decide) lf96 rfl rfl dX12_readsLine_174 ?_
            refine lv_iload_n hx hb dX12_readsLine_177 rfl (lv_at hl 0 rfl) ?_
            refine lv_aload_n hx hb dX12_readsLine_178 rfl (lv_at hl 2 rfl) ?_
            refine mget (v := .int (r100 136 0)) hx hb hts hiX12 hown hK hw 36 (by decide) lf256 rfl rfl dX12_readsLine_179 ?_
            refine miast hx hb hK hw hS 29 mWg28 k84 (by decide) dX12_readsLine_182 (mW ct h0 y (zset r100 28 (upd (r100 28) (zn (200 + (r82 25 5))) (r100 136 0))) q101) mWs28 (fun H locs hw hS => ?_)
            refine mgen (P := fun x => mJ B x ∧ zFr [104, 105, 106, 108, 109, 136, 25, 26, 27, 28] r x) hw ⟨ju98.setW (Or.inr rfl) (yu98_2 c102) rfl (fu81.at k80 rfl) (by decide) (Int.le_of_eq (congrArg Int32.toInt (congrFun ((fu98 25 rfl).trans ((fu93 25 rfl).trans ((zs_row (k := 25) er92 (by decide)).trans ((fu87 25 rfl).trans (zs_row (k := 25) er85 (by decide)))))) 5))), ((pr92.2.tr fu93 rfl).tr fu98 rfl).set rfl⟩ (fun r104 er104 hw pr104 => ?_)
            have hE := zletE er104 hE
            refine lv_aload_n hx hb dX12_readsLine_183 rfl (lv_at hl 2 rfl) ?_
            refine mget (v := .ref (y 25)) hx hb hts hiX12 hown hK hw 38 (by decide) lf87 rfl rfl dX12_readsLine_184 ?_
            refine lv_iconst (v := 5) hx hb dX12_readsLine_187 (by decide) ?_
            refine lv_dup2_11 hx hb dX12_readsLine_188 rfl rfl ?_
            refine ziald hx hb hK hw 26 mWg25 5 (by decide) (by decide) (by decide) dX12_readsLine_189 ?_
            refine lv_iconst (v := 1) hx hb dX12_readsLine_190 (by decide) ?_
            refine lv_iadd hx hb dX12_readsLine_191 ?_
            have k105 : zI 1 40 ((r104 25 5) + 1) := zI.add (zs_at er104 (fu98.at (fu93.at (zs_at er92 (fu87.at (zs_at er85 (fu81.at k80 rfl) (by decide)) rfl) (by decide)) rfl) rfl) (by decide)) (zI.lit (a := 1) (b := 1) (c := 1) (by decide)) (by decide)
            refine ziast hx hb hK hw hS 26 mWg25 5 (by decide) (by decide) (by decide) dX12_readsLine_192 (mW ct h0 y (zset r104 25 (upd (r104 25) 5 ((r104 25 5) + 1))) q101) mWs25 (fun H locs hw hS => ?_)
            refine mgen (P := fun x => mJ B x ∧ zFr [104, 105, 106, 108, 109, 136, 25, 26, 27, 28] r x) hw ⟨pr104.1.line1 (zs_at er104 (fu98.at (fu93.at (zs_at er92 (fu87.at (zs_at er85 (fu81.at k80 rfl) (by decide)) rfl) (by decide)) rfl) rfl) (by decide)) (congrArg (fun z : Nat → Int32 => (200 : Int32) + z 5) ((zs_row (k := 25) er104 (by decide)).trans ((fu98 25 rfl).trans ((fu93 25 rfl).trans ((zs_row (k := 25) er92 (by decide)).trans ((fu87 25 rfl).trans (zs_row (k := 25) er85 (by decide))))))).symm) (fun h9 => by rw [((zs_row (k := 26) er104 (by decide)).trans ((fu98 26 rfl).trans ((fu93 26 rfl).trans ((zs_row (k := 26) er92 (by decide)).trans (fu87 26 rfl))))), zs_self er85, pk_us] at h9; exact absurd h9 (by decide)), pr104.2.set rfl⟩ (fun r106 er106 hw pr106 => ?_)
            have hE := zletE er106 hE
            refine lv_aload_n hx hb dX12_readsLine_193 rfl (lv_at hl 2 rfl) ?_
            refine mcallV (As := []) (rest := []) ⟨hx, hb, hml, hown, hts⟩ (mc_closes l D ct h0 y B r106 q101 pr106.1 ((mP.fr yu98_0 ((zs_row (k := 103) er106 (by decide)).trans (zs_row (k := 103) er104 (by decide))) ((zs_row (k := 104) er106 (by decide)).trans (zs_row (k := 104) er104 (by decide))) ((zs_row (k := 105) er106 (by decide)).trans (zs_row (k := 105) er104 (by decide))) ((zs_row (k := 106) er106 (by decide)).trans (zs_row (k := 106) er104 (by decide)))))) (wqX12_286_mc_closes hts ⟨Nat.le_of_ble_eq_true rfl, Nat.le_of_ble_eq_true rfl⟩) hw hS hA hK hN rfl hl.1 rfl (Nat.le_of_ble_eq_true rfl) dX12_readsLine_194 197 rfl (fun u107 H locs pu107 hw hS => ?_)
            obtain ⟨v108, r109, q110⟩ := u107
            have hv108 : zI 0 1 v108 := pu107.1
            have ju107 : mJ B r109 := pu107.2.1
            have fu107 : zFr [104, 105, 106, 108, 109] r106 r109 := pu107.2.2.1
            have yu107_0 : mP r109 := pu107.2.2.2.1
            have yu107_1 : (r106 105 0).toInt ≤ (r109 105 0).toInt := pu107.2.2.2.2.1
            have xu107 : (v108, r109, q110) = (Gm_closes r106 q101) := pu107.2.2.2.2.2.1
            have hE := zc_vrqE xu107 hE
            have hw : zPD D A (mW ct h0 y r109 q110) H := hw
            refine zfr 197 [.int v108] rfl rfl ?_
            exact ziretQ hQ hx hb hr (hv108.rn) hlocks (v108, r109, q110) rfl ⟨hv108, ju107, (pr106.2.tr fu107 rfl), (show mP r109 from yu107_0), (show ¬ v108 = 0 → (r 105 0).toInt < (r109 105 0).toInt from (fun _ => by have := yu107_1; have := congrArg Int32.toInt (congrFun (zs_row (k := 105) er106 (by decide)) 0); have := congrArg Int32.toInt (congrFun (zs_row (k := 105) er104 (by decide)) 0); have := yu98_1; have := yu93_1; have := ((mP.fr yu81_0 ((zs_row (k := 103) er92 (by decide)).trans ((fu87 103 rfl).trans (zs_row (k := 103) er85 (by decide)))) ((zs_row (k := 104) er92 (by decide)).trans ((fu87 104 rfl).trans (zs_row (k := 104) er85 (by decide)))) ((zs_row (k := 105) er92 (by decide)).trans ((fu87 105 rfl).trans (zs_row (k := 105) er85 (by decide)))) ((zs_row (k := 106) er92 (by decide)).trans ((fu87 106 rfl).trans (zs_row (k := 106) er85 (by decide)))))).1; have := congrArg Int32.toInt (congrFun (zs_row (k := 105) er92 (by decide)) 0); have := congrArg Int32.toInt (congrFun (fu87 105 rfl) 0); have := congrArg Int32.toInt (congrFun (zs_row (k := 105) er85 (by decide)) 0); have := yu81_1; have := (x1).1; have := (x1).2.2.resolve_left (tkne (yu5_0 c7) (by decide)); omega)), (fun _ => (fu107.at (zs_at er106 (zs_at er104 (yu98_2 c102) (by decide)) (by decide)) rfl)), (hE.symm.trans hX), trivial⟩ hw hS dX12_readsLine_197
          · have hE := zifnF c102 hE
            have k111 : zI 0 0 (v99) := zI.eqq c102 (zI.lit (a := 0) (b := 0) (c := 0) (by decide))
            refine lv_iconst (v := 0) hx hb dX12_readsLine_171 (by decide) ?_
            exact ziretQ hQ hx hb hr rfl hlocks (0, r100, q101) rfl ⟨((zI.lit (a := 0) (b := 0) (c := 0) (by decide)).w (c := 0) (d := 1) (by decide)), ju98, ((pr92.2.tr fu93 rfl).tr fu98 rfl), (show mP r100 from yu98_0), (fun h => absurd rfl h), (fun h => absurd rfl h), (hE.symm.trans hX), trivial⟩ hw hS dX12_readsLine_172
        · have hE := zifnF c90 hE
          have k112 : zI 0 0 (v88) := zI.eqq c90 (zI.lit (a := 0) (b := 0) (c := 0) (by decide))
          refine lv_iconst (v := 0) hx hb dX12_readsLine_119 (by decide) ?_
          exact ziretQ hQ hx hb hr rfl hlocks (0, r89, q83) rfl ⟨((zI.lit (a := 0) (b := 0) (c := 0) (by decide)).w (c := 0) (d := 1) (by decide)), ju87, (pr85.2.tr fu87 rfl), (show mP r89 from (mP.fr yu81_0 ((fu87 103 rfl).trans (zs_row (k := 103) er85 (by decide))) ((fu87 104 rfl).trans (zs_row (k := 104) er85 (by decide))) ((fu87 105 rfl).trans (zs_row (k := 105) er85 (by decide))) ((fu87 106 rfl).trans (zs_row (k := 106) er85 (by decide))))), (fun h => absurd rfl h), (fun h => absurd rfl h), (hE.symm.trans hX), trivial⟩ hw hS dX12_readsLine_120
      · have hE := zifnF c79 hE
        have k113 : zI 40 40 (r 25 5) := zI.eqq c79 (zI.lit (a := 40) (b := 40) (c := 40) (by decide))
        refine lv_aload_n hx hb dX12_readsLine_79 rfl (lv_at hl 1 rfl) ?_
        refine lv_iconst (v := 5) hx hb dX12_readsLine_80 (by decide) ?_
        refine mcallV (As := [.int 5]) (rest := []) ⟨hx, hb, hml, hown, hts⟩ (mc_fails l D ct h0 y B 5 r q ((zI.lit (a := 5) (b := 5) (c := 5) (by decide)).w (c := 1) (d := 5) (by decide)) hJ0) (wqX12_193_mc_fails hts ⟨Nat.le_of_ble_eq_true rfl, Nat.le_of_ble_eq_true rfl⟩) hw hS hA hK hN rfl hl.1 rfl (Nat.le_of_ble_eq_true rfl) dX12_readsLine_81 84 rfl (fun u114 H locs pu114 hw hS => ?_)
        obtain ⟨v115, r116⟩ := u114
        have hv115 : zI 0 0 v115 := pu114.1
        have ju114 : mJ B r116 := pu114.2.1
        have fu114 : zFr [109] r r116 := pu114.2.2.1
        have xu114 : (v115, r116) = (Gm_fails (5 : Int32) r q) := pu114.2.2.2.1
        have hE := zc_vrE xu114 hE
        have hw : zPD D A (mW ct h0 y r116 q) H := hw
        refine zfr 84 [.int v115] rfl rfl ?_
        exact ziretQ hQ hx hb hr ((hv115.w (c := 0) (d := 1) (by decide)).rn) hlocks (v115, r116, q) rfl ⟨(hv115.w (c := 0) (d := 1) (by decide)), ju114, ((zFr.refl).tr fu114 rfl), (show mP r116 from (mP.fr x1 (fu114 103 rfl) (fu114 104 rfl) (fu114 105 rfl) (fu114 106 rfl))), (fun h => absurd (zI.eq0 hv115) h), (fun h => absurd (zI.eq0 hv115) h), (hE.symm.trans hX), trivial⟩ hw hS dX12_readsLine_84
  · have hE := zifF c3 hE
    have k117 : zI 1 1 (u1) := zI.neD c3 hu1 (zI.lit (a := 0) (b := 0) (c := 0) (by decide)) (by decide)
    refine lv_iconst (v := 0) hx hb dX12_readsLine_10 (by decide) ?_
    refine lv_goto (tgt := 57) hx hb dX12_readsLine_11 (by decide) ?_
    refine lv_istore_n (lv' := [(1, .int 0), (0, .ref h0)]) hx hb dX12_readsLine_57 rfl hl (by decide) rfl (fun ls hl => ?_)
    refine lv_iload_n hx hb dX12_readsLine_58 rfl (lv_at hl 0 rfl) ?_
    refine lv_if_ge (tgt := 68) hx hb dX12_readsLine_59 (by decide) (fun _ => ?_) (fun h => absurd (by decide) h)
    refine lv_aload_n hx hb dX12_readsLine_68 rfl (lv_at hl 1 rfl) ?_
    refine mget (v := .ref (y 25)) hx hb hts hiX12 hown hK hw 38 (by decide) lf87 rfl rfl dX12_readsLine_69 ?_
    refine lv_iconst (v := 5) hx hb dX12_readsLine_72 (by decide) ?_
    refine ziald hx hb hK hw 26 mWg25 5 (by decide) (by decide) (by decide) dX12_readsLine_73 ?_
    refine lv_bipush (v := 40) hx hb dX12_readsLine_74 (by decide) ?_
    refine lv_icmp_ne (tgt := 85) hx hb dX12_readsLine_76 (by decide) (fun c119 => ?_) (fun c119 => ?_)
    · have hE := zifnT c119 hE
      have k120 : zI 0 39 (r 25 5) := zI.neU c119 (show zI 0 40 (r 25 5) from hJ0.i 25 5) (zI.lit (a := 40) (b := 40) (c := 40) (by decide)) (by decide)
      refine lv_aload_n hx hb dX12_readsLine_85 rfl (lv_at hl 1 rfl) ?_
      refine mcallV (As := []) (rest := []) ⟨hx, hb, hml, hown, hts⟩ (mc_nextToken l D ct h0 y B r q hJ0 ((x1).2.1)) (wqX12_200_mc_nextToken hts ⟨Nat.le_of_ble_eq_true rfl, Nat.le_of_ble_eq_true rfl⟩) hw hS hA hK hN rfl hl.1 rfl (Nat.le_of_ble_eq_true rfl) dX12_readsLine_86 89 rfl (fun u121 H locs pu121 hw hS => ?_)
      obtain ⟨r122, q123⟩ := u121
      have ju121 : mJ B r122 := pu121.1
      have fu121 : zFr [104, 105, 106, 108] r r122 := pu121.2.1
      have yu121_0 : mP r122 := pu121.2.2.1
      have yu121_1 : (r 104 0).toInt ≤ (r122 105 0).toInt := pu121.2.2.2.1
      have xu121 : (r122, q123) = (Gm_nextToken r q) := pu121.2.2.2.2.1
      have hE := zc_rqE xu121 hE
      have hw : zPD D A (mW ct h0 y r122 q123) H := hw
      refine zfr 89 [] rfl rfl ?_
      refine lv_sipush (v := 200) hx hb dX12_readsLine_89 (by decide) ?_
      refine lv_aload_n hx hb dX12_readsLine_92 rfl (lv_at hl 1 rfl) ?_
      refine mget (v := .ref (y 25)) hx hb hts hiX12 hown hK hw 38 (by decide) lf87 rfl rfl dX12_readsLine_93 ?_
      refine lv_iconst (v := 5) hx hb dX12_readsLine_96 (by decide) ?_
      refine ziald hx hb hK hw 26 mWg25 5 (by decide) (by decide) (by decide) dX12_readsLine_97 ?_
      refine lv_iadd hx hb dX12_readsLine_98 ?_
      have k124 : zI 200 239 (200 + (r122 25 5)) := zI.add (zI.lit (a := 200) (b := 200) (c := 200) (by decide)) (fu121.at k120 rfl) (by decide)
      refine lv_istore_n (lv' := [(2, .int (200 + (r122 25 5))), (1, .int 0), (0, .ref h0)]) hx hb dX12_readsLine_99 rfl hl (by decide) rfl (fun ls hl => ?_)
      refine lv_aload_n hx hb dX12_readsLine_100 rfl (lv_at hl 2 rfl) ?_
      refine mget (v := .ref (y 26)) hx hb hts hiX12 hown hK hw 39 (by decide) lf90 rfl rfl dX12_readsLine_101 ?_
      refine lv_iload_n hx hb dX12_readsLine_104 rfl (lv_at hl 0 rfl) ?_
      refine lv_iload_n hx hb dX12_readsLine_105 rfl (lv_at hl 1 rfl) ?_
      refine miast hx hb hK hw hS 27 mWg26 k124 (by decide) dX12_readsLine_106 (mW ct h0 y (zset r122 26 (upd (r122 26) (zn (200 + (r122 25 5))) (0 : Int32))) q123) mWs26 (fun H locs hw hS => ?_)
      refine mgen (P := fun x => mJ B x ∧ zFr [104, 105, 106, 108, 109, 136, 25, 26, 27, 28] r x) hw ⟨ju121.setW (Or.inl rfl) (zI.top _) rfl (fu121.at k120 rfl) (by decide) (Int.le_refl _), ((zFr.refl).tr fu121 rfl).set rfl⟩ (fun r125 er125 hw pr125 => ?_)
      have hE := zletE er125 hE
      refine lv_iload_n hx hb dX12_readsLine_107 rfl (lv_at hl 1 rfl) ?_
      refine lv_iconst (v := 3) hx hb dX12_readsLine_108 (by decide) ?_
      refine lv_icmp_eq (tgt := 135) hx hb dX12_readsLine_109 (by decide) (fun h => absurd h (by decide)) (fun _ => ?_)
      refine lv_aload_n hx hb dX12_readsLine_112 rfl (lv_at hl 2 rfl) ?_
      refine mcallV (As := []) (rest := []) ⟨hx, hb, hml, hown, hts⟩ (mc_needsPerson l D ct h0 y B r125 q123 pr125.1) (wqX12_324_mc_needsPerson hts ⟨Nat.le_of_ble_eq_true rfl, Nat.le_of_ble_eq_true rfl⟩) hw hS hA hK hN rfl hl.1 rfl (Nat.le_of_ble_eq_true rfl) dX12_readsLine_113 116 rfl (fun u127 H locs pu127 hw hS => ?_)
      obtain ⟨v128, r129⟩ := u127
      have hv128 : zI 0 1 v128 := pu127.1
      have ju127 : mJ B r129 := pu127.2.1
      have fu127 : zFr [136, 109] r125 r129 := pu127.2.2.1
      have yu127_0 : ¬ v128 = 0 → zI 0 5 (r129 136 0) := pu127.2.2.2.1
      have xu127 : (v128, r129) = (Gm_needsPerson r125 q123) := pu127.2.2.2.2.1
      have hE := zc_vrE xu127 hE
      have hw : zPD D A (mW ct h0 y r129 q123) H := hw
      refine zfr 116 [.int v128] rfl rfl ?_
      refine lv_if_ne (tgt := 121) hx hb dX12_readsLine_116 (by decide) (fun c130 => ?_) (fun c130 => ?_)
      · have hE := zifnT c130 hE
        have k131 : zI 1 1 (v128) := zI.neD c130 hv128 (zI.lit (a := 0) (b := 0) (c := 0) (by decide)) (by decide)
        refine lv_aload_n hx hb dX12_readsLine_121 rfl (lv_at hl 2 rfl) ?_
        refine mget (v := .ref (y 27)) hx hb hts hiX12 hown hK hw 40 (by decide) lf93 rfl rfl dX12_readsLine_122 ?_
        refine lv_iload_n hx hb dX12_readsLine_125 rfl (lv_at hl 0 rfl) ?_
        refine lv_aload_n hx hb dX12_readsLine_126 rfl (lv_at hl 2 rfl) ?_
        refine mget (v := .int (r129 136 0)) hx hb hts hiX12 hown hK hw 36 (by decide) lf256 rfl rfl dX12_readsLine_127 ?_
        refine miast hx hb hK hw hS 28 mWg27 k124 (by decide) dX12_readsLine_130 (mW ct h0 y (zset r129 27 (upd (r129 27) (zn (200 + (r122 25 5))) (r129 136 0))) q123) mWs27 (fun H locs hw hS => ?_)
        refine mgen (P := fun x => mJ B x ∧ zFr [104, 105, 106, 108, 109, 136, 25, 26, 27, 28] r x) hw ⟨ju127.set rfl (yu127_0 c130), (pr125.2.tr fu127 rfl).set rfl⟩ (fun r132 er132 hw pr132 => ?_)
        have hE := zletE er132 hE
        refine lv_aload_n hx hb dX12_readsLine_131 rfl (lv_at hl 2 rfl) ?_
        refine mcallV (As := []) (rest := []) ⟨hx, hb, hml, hown, hts⟩ (mc_nextToken l D ct h0 y B r132 q123 pr132.1 (((mP.fr yu121_0 ((zs_row (k := 103) er132 (by decide)).trans ((fu127 103 rfl).trans (zs_row (k := 103) er125 (by decide)))) ((zs_row (k := 104) er132 (by decide)).trans ((fu127 104 rfl).trans (zs_row (k := 104) er125 (by decide)))) ((zs_row (k := 105) er132 (by decide)).trans ((fu127 105 rfl).trans (zs_row (k := 105) er125 (by decide)))) ((zs_row (k := 106) er132 (by decide)).trans ((fu127 106 rfl).trans (zs_row (k := 106) er125 (by decide)))))).2.1)) (wqX12_200_mc_nextToken hts ⟨Nat.le_of_ble_eq_true rfl, Nat.le_of_ble_eq_true rfl⟩) hw hS hA hK hN rfl hl.1 rfl (Nat.le_of_ble_eq_true rfl) dX12_readsLine_132 135 rfl (fun u133 H locs pu133 hw hS => ?_)
        obtain ⟨r134, q135⟩ := u133
        have ju133 : mJ B r134 := pu133.1
        have fu133 : zFr [104, 105, 106, 108] r132 r134 := pu133.2.1
        have yu133_0 : mP r134 := pu133.2.2.1
        have yu133_1 : (r132 104 0).toInt ≤ (r134 105 0).toInt := pu133.2.2.2.1
        have xu133 : (r134, q135) = (Gm_nextToken r132 q123) := pu133.2.2.2.2.1
        have hE := zc_rqE xu133 hE
        have hw : zPD D A (mW ct h0 y r134 q135) H := hw
        refine zfr 135 [] rfl rfl ?_
        refine lv_iload_n hx hb dX12_readsLine_135 rfl (lv_at hl 1 rfl) ?_
        refine lv_if_ne (tgt := 156) hx hb dX12_readsLine_136 (by decide) (fun h => absurd (by decide) h) (fun _ => ?_)
        refine lv_aload_n hx hb dX12_readsLine_139 rfl (lv_at hl 2 rfl) ?_
        refine lv_iconst (v := 0) hx hb dX12_readsLine_140 (by decide) ?_
        refine mcallV (As := [.int 0]) (rest := []) ⟨hx, hb, hml, hown, hts⟩ (mc_needsTown0 l D ct h0 y B r134 q135 ju133) (wqX12_289_mc_needsTown0 hts ⟨Nat.le_of_ble_eq_true rfl, Nat.le_of_ble_eq_true rfl⟩) hw hS hA hK hN rfl hl.1 rfl (Nat.le_of_ble_eq_true rfl) dX12_readsLine_141 144 rfl (fun u137 H locs pu137 hw hS => ?_)
        obtain ⟨v138, r139⟩ := u137
        have hv138 : zI 0 1 v138 := pu137.1
        have ju137 : mJ B r139 := pu137.2.1
        have fu137 : zFr [136, 109] r134 r139 := pu137.2.2.1
        have yu137_0 : ¬ v138 = 0 → zI 0 5 (r139 136 0) := pu137.2.2.2.1
        have xu137 : (v138, r139) = (Gm_needsTown0 r134 q135) := pu137.2.2.2.2.1
        have hE := zc_vrE xu137 hE
        have hw : zPD D A (mW ct h0 y r139 q135) H := hw
        refine zfr 144 [.int v138] rfl rfl ?_
        refine lv_if_ne (tgt := 149) hx hb dX12_readsLine_144 (by decide) (fun c140 => ?_) (fun c140 => ?_)
        · have hE := zifnT c140 hE
          have k141 : zI 1 1 (v138) := zI.neD c140 hv138 (zI.lit (a := 0) (b := 0) (c := 0) (by decide)) (by decide)
          refine lv_aload_n hx hb dX12_readsLine_149 rfl (lv_at hl 2 rfl) ?_
          refine mcallV (As := []) (rest := []) ⟨hx, hb, hml, hown, hts⟩ (mc_nextToken l D ct h0 y B r139 q135 ju137 (((mP.fr yu133_0 (fu137 103 rfl) (fu137 104 rfl) (fu137 105 rfl) (fu137 106 rfl))).2.1)) (wqX12_200_mc_nextToken hts ⟨Nat.le_of_ble_eq_true rfl, Nat.le_of_ble_eq_true rfl⟩) hw hS hA hK hN rfl hl.1 rfl (Nat.le_of_ble_eq_true rfl) dX12_readsLine_150 153 rfl (fun u142 H locs pu142 hw hS => ?_)
          obtain ⟨r143, q144⟩ := u142
          have ju142 : mJ B r143 := pu142.1
          have fu142 : zFr [104, 105, 106, 108] r139 r143 := pu142.2.1
          have yu142_0 : mP r143 := pu142.2.2.1
          have yu142_1 : (r139 104 0).toInt ≤ (r143 105 0).toInt := pu142.2.2.2.1
          have xu142 : (r143, q144) = (Gm_nextToken r139 q135) := pu142.2.2.2.2.1
          have hE := zc_rqE xu142 hE
          have hw : zPD D A (mW ct h0 y r143 q144) H := hw
          refine zfr 153 [] rfl rfl ?_
          refine lv_goto (tgt := 173) hx hb dX12_readsLine_153 (by decide) ?_
          refine lv_aload_n hx hb dX12_readsLine_173 rfl (lv_at hl 2 rfl) ?_
          refine mget (v := .ref (y 28)) hx hb hts hiX12 hown hK hw 41 (by decide) lf96 rfl rfl dX12_readsLine_174 ?_
          refine lv_iload_n hx hb dX12_readsLine_177 rfl (lv_at hl 0 rfl) ?_
          refine lv_aload_n hx hb dX12_readsLine_178 rfl (lv_at hl 2 rfl) ?_
          refine mget (v := .int (r143 136 0)) hx hb hts hiX12 hown hK hw 36 (by decide) lf256 rfl rfl dX12_readsLine_179 ?_
          refine miast hx hb hK hw hS 29 mWg28 k124 (by decide) dX12_readsLine_182 (mW ct h0 y (zset r143 28 (upd (r143 28) (zn (200 + (r122 25 5))) (r143 136 0))) q144) mWs28 (fun H locs hw hS => ?_)
          refine mgen (P := fun x => mJ B x ∧ zFr [104, 105, 106, 108, 109, 136, 25, 26, 27, 28] r x) hw ⟨ju142.setW (Or.inr rfl) ((fu142.at (yu137_0 c140) rfl).w (c := 0) (d := 9999) (by decide)) rfl (fu121.at k120 rfl) (by decide) (Int.le_of_eq (congrArg Int32.toInt (congrFun ((fu142 25 rfl).trans ((fu137 25 rfl).trans ((fu133 25 rfl).trans ((zs_row (k := 25) er132 (by decide)).trans ((fu127 25 rfl).trans (zs_row (k := 25) er125 (by decide))))))) 5))), (((pr132.2.tr fu133 rfl).tr fu137 rfl).tr fu142 rfl).set rfl⟩ (fun r145 er145 hw pr145 => ?_)
          have hE := zletE er145 hE
          refine lv_aload_n hx hb dX12_readsLine_183 rfl (lv_at hl 2 rfl) ?_
          refine mget (v := .ref (y 25)) hx hb hts hiX12 hown hK hw 38 (by decide) lf87 rfl rfl dX12_readsLine_184 ?_
          refine lv_iconst (v := 5) hx hb dX12_readsLine_187 (by decide) ?_
          refine lv_dup2_11 hx hb dX12_readsLine_188 rfl rfl ?_
          refine ziald hx hb hK hw 26 mWg25 5 (by decide) (by decide) (by decide) dX12_readsLine_189 ?_
          refine lv_iconst (v := 1) hx hb dX12_readsLine_190 (by decide) ?_
          refine lv_iadd hx hb dX12_readsLine_191 ?_
          have k146 : zI 1 40 ((r145 25 5) + 1) := zI.add (zs_at er145 (fu142.at (fu137.at (fu133.at (zs_at er132 (fu127.at (zs_at er125 (fu121.at k120 rfl) (by decide)) rfl) (by decide)) rfl) rfl) rfl) (by decide)) (zI.lit (a := 1) (b := 1) (c := 1) (by decide)) (by decide)
          refine ziast hx hb hK hw hS 26 mWg25 5 (by decide) (by decide) (by decide) dX12_readsLine_192 (mW ct h0 y (zset r145 25 (upd (r145 25) 5 ((r145 25 5) + 1))) q144) mWs25 (fun H locs hw hS => ?_)
          refine mgen (P := fun x => mJ B x ∧ zFr [104, 105, 106, 108, 109, 136, 25, 26, 27, 28] r x) hw ⟨pr145.1.line1 (zs_at er145 (fu142.at (fu137.at (fu133.at (zs_at er132 (fu127.at (zs_at er125 (fu121.at k120 rfl) (by decide)) rfl) (by decide)) rfl) rfl) rfl) (by decide)) (congrArg (fun z : Nat → Int32 => (200 : Int32) + z 5) ((zs_row (k := 25) er145 (by decide)).trans ((fu142 25 rfl).trans ((fu137 25 rfl).trans ((fu133 25 rfl).trans ((zs_row (k := 25) er132 (by decide)).trans ((fu127 25 rfl).trans (zs_row (k := 25) er125 (by decide)))))))).symm) (fun _ => by rw [zs_self er145, pk_us]; exact (fu142.at (yu137_0 c140) rfl)), pr145.2.set rfl⟩ (fun r147 er147 hw pr147 => ?_)
          have hE := zletE er147 hE
          refine lv_aload_n hx hb dX12_readsLine_193 rfl (lv_at hl 2 rfl) ?_
          refine mcallV (As := []) (rest := []) ⟨hx, hb, hml, hown, hts⟩ (mc_closes l D ct h0 y B r147 q144 pr147.1 ((mP.fr yu142_0 ((zs_row (k := 103) er147 (by decide)).trans (zs_row (k := 103) er145 (by decide))) ((zs_row (k := 104) er147 (by decide)).trans (zs_row (k := 104) er145 (by decide))) ((zs_row (k := 105) er147 (by decide)).trans (zs_row (k := 105) er145 (by decide))) ((zs_row (k := 106) er147 (by decide)).trans (zs_row (k := 106) er145 (by decide)))))) (wqX12_286_mc_closes hts ⟨Nat.le_of_ble_eq_true rfl, Nat.le_of_ble_eq_true rfl⟩) hw hS hA hK hN rfl hl.1 rfl (Nat.le_of_ble_eq_true rfl) dX12_readsLine_194 197 rfl (fun u148 H locs pu148 hw hS => ?_)
          obtain ⟨v149, r150, q151⟩ := u148
          have hv149 : zI 0 1 v149 := pu148.1
          have ju148 : mJ B r150 := pu148.2.1
          have fu148 : zFr [104, 105, 106, 108, 109] r147 r150 := pu148.2.2.1
          have yu148_0 : mP r150 := pu148.2.2.2.1
          have yu148_1 : (r147 105 0).toInt ≤ (r150 105 0).toInt := pu148.2.2.2.2.1
          have xu148 : (v149, r150, q151) = (Gm_closes r147 q144) := pu148.2.2.2.2.2.1
          have hE := zc_vrqE xu148 hE
          have hw : zPD D A (mW ct h0 y r150 q151) H := hw
          refine zfr 197 [.int v149] rfl rfl ?_
          exact ziretQ hQ hx hb hr (hv149.rn) hlocks (v149, r150, q151) rfl ⟨hv149, ju148, (pr147.2.tr fu148 rfl), (show mP r150 from yu148_0), (show ¬ v149 = 0 → (r 105 0).toInt < (r150 105 0).toInt from (fun _ => by have := yu148_1; have := congrArg Int32.toInt (congrFun (zs_row (k := 105) er147 (by decide)) 0); have := congrArg Int32.toInt (congrFun (zs_row (k := 105) er145 (by decide)) 0); have := yu142_1; have := ((mP.fr yu133_0 (fu137 103 rfl) (fu137 104 rfl) (fu137 105 rfl) (fu137 106 rfl))).1; have := congrArg Int32.toInt (congrFun (fu137 105 rfl) 0); have := yu133_1; have := ((mP.fr yu121_0 ((zs_row (k := 103) er132 (by decide)).trans ((fu127 103 rfl).trans (zs_row (k := 103) er125 (by decide)))) ((zs_row (k := 104) er132 (by decide)).trans ((fu127 104 rfl).trans (zs_row (k := 104) er125 (by decide)))) ((zs_row (k := 105) er132 (by decide)).trans ((fu127 105 rfl).trans (zs_row (k := 105) er125 (by decide)))) ((zs_row (k := 106) er132 (by decide)).trans ((fu127 106 rfl).trans (zs_row (k := 106) er125 (by decide)))))).1; have := congrArg Int32.toInt (congrFun (zs_row (k := 105) er132 (by decide)) 0); have := congrArg Int32.toInt (congrFun (fu127 105 rfl) 0); have := congrArg Int32.toInt (congrFun (zs_row (k := 105) er125 (by decide)) 0); have := yu121_1; have := (x1).1; have := (x1).2.2.resolve_left (tkne (yu1_0 c3) (by decide)); omega)), (fun _ => ((fu148.at (zs_at er147 (zs_at er145 (fu142.at (yu137_0 c140) rfl) (by decide)) (by decide)) rfl).w (c := 0) (d := 9999) (by decide))), (hE.symm.trans hX), trivial⟩ hw hS dX12_readsLine_197
        · have hE := zifnF c140 hE
          have k152 : zI 0 0 (v138) := zI.eqq c140 (zI.lit (a := 0) (b := 0) (c := 0) (by decide))
          refine lv_iconst (v := 0) hx hb dX12_readsLine_147 (by decide) ?_
          exact ziretQ hQ hx hb hr rfl hlocks (0, r139, q135) rfl ⟨((zI.lit (a := 0) (b := 0) (c := 0) (by decide)).w (c := 0) (d := 1) (by decide)), ju137, ((pr132.2.tr fu133 rfl).tr fu137 rfl), (show mP r139 from (mP.fr yu133_0 (fu137 103 rfl) (fu137 104 rfl) (fu137 105 rfl) (fu137 106 rfl))), (fun h => absurd rfl h), (fun h => absurd rfl h), (hE.symm.trans hX), trivial⟩ hw hS dX12_readsLine_148
      · have hE := zifnF c130 hE
        have k153 : zI 0 0 (v128) := zI.eqq c130 (zI.lit (a := 0) (b := 0) (c := 0) (by decide))
        refine lv_iconst (v := 0) hx hb dX12_readsLine_119 (by decide) ?_
        exact ziretQ hQ hx hb hr rfl hlocks (0, r129, q123) rfl ⟨((zI.lit (a := 0) (b := 0) (c := 0) (by decide)).w (c := 0) (d := 1) (by decide)), ju127, (pr125.2.tr fu127 rfl), (show mP r129 from (mP.fr yu121_0 ((fu127 103 rfl).trans (zs_row (k := 103) er125 (by decide))) ((fu127 104 rfl).trans (zs_row (k := 104) er125 (by decide))) ((fu127 105 rfl).trans (zs_row (k := 105) er125 (by decide))) ((fu127 106 rfl).trans (zs_row (k := 106) er125 (by decide))))), (fun h => absurd rfl h), (fun h => absurd rfl h), (hE.symm.trans hX), trivial⟩ hw hS dX12_readsLine_120
    · have hE := zifnF c119 hE
      have k154 : zI 40 40 (r 25 5) := zI.eqq c119 (zI.lit (a := 40) (b := 40) (c := 40) (by decide))
      refine lv_aload_n hx hb dX12_readsLine_79 rfl (lv_at hl 1 rfl) ?_
      refine lv_iconst (v := 5) hx hb dX12_readsLine_80 (by decide) ?_
      refine mcallV (As := [.int 5]) (rest := []) ⟨hx, hb, hml, hown, hts⟩ (mc_fails l D ct h0 y B 5 r q ((zI.lit (a := 5) (b := 5) (c := 5) (by decide)).w (c := 1) (d := 5) (by decide)) hJ0) (wqX12_193_mc_fails hts ⟨Nat.le_of_ble_eq_true rfl, Nat.le_of_ble_eq_true rfl⟩) hw hS hA hK hN rfl hl.1 rfl (Nat.le_of_ble_eq_true rfl) dX12_readsLine_81 84 rfl (fun u155 H locs pu155 hw hS => ?_)
      obtain ⟨v156, r157⟩ := u155
      have hv156 : zI 0 0 v156 := pu155.1
      have ju155 : mJ B r157 := pu155.2.1
      have fu155 : zFr [109] r r157 := pu155.2.2.1
      have xu155 : (v156, r157) = (Gm_fails (5 : Int32) r q) := pu155.2.2.2.1
      have hE := zc_vrE xu155 hE
      have hw : zPD D A (mW ct h0 y r157 q) H := hw
      refine zfr 84 [.int v156] rfl rfl ?_
      exact ziretQ hQ hx hb hr ((hv156.w (c := 0) (d := 1) (by decide)).rn) hlocks (v156, r157, q) rfl ⟨(hv156.w (c := 0) (d := 1) (by decide)), ju155, ((zFr.refl).tr fu155 rfl), (show mP r157 from (mP.fr x1 (fu155 103 rfl) (fu155 104 rfl) (fu155 105 rfl) (fu155 106 rfl))), (fun h => absurd (zI.eq0 hv156) h), (fun h => absurd (zI.eq0 hv156) h), (hE.symm.trans hX), trivial⟩ hw hS dX12_readsLine_84

set_option maxHeartbeats 4000000 in
set_option maxRecDepth 100000 in
theorem mc_journey (l : Launch) (D : va_G) (ct : Nat → ClassId) (h0 : Nat) (y : Nat → Nat) (B : Int) (r : zRr) (q : zRq) (hJ0 : mJ B r) : zC l yX12_journey (.code yX12_journey cX12_journey 1 (some .int) :: wsL_law0) ({ frames := 5, cells := 0, slots := 0, locals := 240 }) D ct [] [.ref h0] (mW ct h0 y r q) (S := Int32 × zRr × zRq) (fun u => some (.int u.1)) (fun u => zI (-2147483648) 2147483647 u.1 ∧ mJ B u.2.1 ∧ zFr [25, 26, 27, 28, 100, 101, 103, 104, 105, 106, 108, 109, 136] r u.2.1 ∧ (u.2.1 101 0 = 0) ∧ u = (Gm_journey r q) ∧ True) (fun u => mW ct h0 y u.2.1 u.2.2) 0 0 := by
  refine zofQ cX12_journey 1 (some .int) (by decide) rfl (Nat.le_of_ble_eq_true rfl) ?_
  intro p e s m below meth c A a9 Q ha9 hx hb hr hml hts hown hlocks hname hK hA hZ hN hQ
  have hown : s.vm.findClass RX12 = some m.cls := hown
  have hiX12 : ∀ w ∈ wsX120, w ∈ .code yX12_journey cX12_journey 1 (some .int) :: wsL_law0 := fun _ h => ki (zs_wsX120 _ h)
  have lf87 := hts (.fieldLink RX12 87 "BeardPassModel" "lines" "[I") (ki (zr8 21 rfl))
  have lf129 := hts (.fieldLink RX12 129 "BeardPassModel" "thrown" "I") (ki (zr10 1 rfl))
  have lf154 := hts (.fieldLink RX12 154 "BeardPassModel" "token" "I") (ki (zr22 0 rfl))
  have lf165 := hts (.fieldLink RX12 165 "BeardPassModel" "wrong" "I") (ki (zr21 16 rfl))
  have lf256 := hts (.fieldLink RX12 256 "BeardPassModel" "given" "I") (ki (zr23 11 rfl))
  obtain ⟨X, hX⟩ : ∃ X, X = (Gm_journey r q) := ⟨_, rfl⟩
  have cut21 : ∀ (n21 : Nat) (rw21 : zRr) (qw21 : zRq) (jw21 : mJ B rw21) (fw21 : zFr [25, 26, 27, 28, 100, 101, 103, 104, 105, 106, 108, 109, 136] r rw21) (mw21_136_0 : zI 0 9999 (rw21 136 0)) (xp21 : mP rw21) (xz21 : rw21 101 0 = 0) (hE : X = Gm_journey_21 n21 rw21 qw21), 1001 - (rw21 105 0).toInt < (n21 : Int) → zKf p l e ({ frames := 5, cells := 0, slots := 0, locals := 240 }) s m a9 below meth c Q D A 21 1 [] (mW ct h0 y rw21 qw21) [(0, .ref h0)] := by
    intro n21
    induction n21 with
    | zero => intro rw21 qw21 jw21 fw21 mw21_136_0 xp21 xz21 hE hm21; exact absurd hm21 (by have h9 : zI 0 1000 (rw21 105 0) := jw21.i 105 0; have := h9.2; omega)
    | succ n21 ih21 =>
      intro rw21 qw21 jw21 fw21 mw21_136_0 xp21 xz21 hE hm21
      have hE : X = Bm_journey_21 (Gm_journey_21 n21) rw21 qw21 := hE
      unfold Bm_journey_21 at hE
      intro H locs ls hw hS hl
      refine lv_aload_n hx hb dX12_journey_21 rfl (lv_at hl 0 rfl) ?_
      refine mget (v := .int (rw21 106 0)) hx hb hts hiX12 hown hK hw 6 (by decide) lf154 rfl rfl dX12_journey_22 ?_
      refine lv_if_eq (tgt := 40) hx hb dX12_journey_25 (by decide) (fun c1 => ?_) (fun c1 => ?_)
      · have hE := zifT c1 hE
        have k2 : zI 0 0 (rw21 106 0) := zI.eqq c1 (zI.lit (a := 0) (b := 0) (c := 0) (by decide))
        refine lv_aload_n hx hb dX12_journey_40 rfl (lv_at hl 0 rfl) ?_
        refine lv_iconst (v := 5) hx hb dX12_journey_41 (by decide) ?_
        refine lv_iconst (v := 0) hx hb dX12_journey_42 (by decide) ?_
        refine mcallV (As := [.int 5, .int 0]) (rest := []) ⟨hx, hb, hml, hown, hts⟩ (mc_laysLines l D ct h0 y B 5 0 rw21 qw21 ((zI.lit (a := 5) (b := 5) (c := 5) (by decide)).w (c := 0) (d := 5) (by decide)) ((zI.lit (a := 0) (b := 0) (c := 0) (by decide)).w (c := 0) (d := 5) (by decide)) jw21 (by decide)) (wqX12_342_mc_laysLines hts ⟨Nat.le_of_ble_eq_true rfl, Nat.le_of_ble_eq_true rfl⟩) hw hS hA hK hN rfl hl.1 rfl (Nat.le_of_ble_eq_true rfl) dX12_journey_43 46 rfl (fun u3 H locs pu3 hw hS => ?_)
        have ju3 : mJ B u3 := pu3.1
        have fu3 : zFr [25, 26, 27, 28] rw21 u3 := pu3.2.1
        have xu3 : u3 = (Gm_laysLines (5 : Int32) (0 : Int32) rw21 qw21) := pu3.2.2.1
        have hE := zletE xu3 hE
        have hw : zPD D A (mW ct h0 y u3 qw21) H := hw
        refine zfr 46 [] rfl rfl ?_
        refine lv_iconst (v := 0) hx hb dX12_journey_46 (by decide) ?_
        exact ziretQ hQ hx hb hr rfl hlocks (0, u3, qw21) rfl ⟨(zI.top _), ju3, (fw21.tr fu3 rfl), (show u3 101 0 = 0 from ((congrFun (fu3 101 rfl) 0).trans xz21)), (hE.symm.trans hX), trivial⟩ hw hS dX12_journey_47
      · have hE := zifF c1 hE
        have k5 : zI 1 4 (rw21 106 0) := zI.neD c1 (show zI 0 4 (rw21 106 0) from jw21.i 106 0) (zI.lit (a := 0) (b := 0) (c := 0) (by decide)) (by decide)
        refine lv_aload_n hx hb dX12_journey_28 rfl (lv_at hl 0 rfl) ?_
        refine mcallV (As := []) (rest := []) ⟨hx, hb, hml, hown, hts⟩ (mc_readsLine l D ct h0 y B rw21 qw21 jw21 (xp21) (k5) (mw21_136_0)) (wqX12_339_mc_readsLine hts ⟨Nat.le_of_ble_eq_true rfl, Nat.le_of_ble_eq_true rfl⟩) hw hS hA hK hN rfl hl.1 rfl (Nat.le_of_ble_eq_true rfl) dX12_journey_29 32 rfl (fun u6 H locs pu6 hw hS => ?_)
        obtain ⟨v7, r8, q9⟩ := u6
        have hv7 : zI 0 1 v7 := pu6.1
        have ju6 : mJ B r8 := pu6.2.1
        have fu6 : zFr [104, 105, 106, 108, 109, 136, 25, 26, 27, 28] rw21 r8 := pu6.2.2.1
        have yu6_0 : mP r8 := pu6.2.2.2.1
        have yu6_1 : ¬ v7 = 0 → (rw21 105 0).toInt < (r8 105 0).toInt := pu6.2.2.2.2.1
        have yu6_2 : ¬ v7 = 0 → zI 0 9999 (r8 136 0) := pu6.2.2.2.2.2.1
        have xu6 : (v7, r8, q9) = (Gm_readsLine rw21 qw21) := pu6.2.2.2.2.2.2.1
        have hE := zc_vrqE xu6 hE
        have hw : zPD D A (mW ct h0 y r8 q9) H := hw
        refine zfr 32 [.int v7] rfl rfl ?_
        refine lv_if_ne (tgt := 21) hx hb dX12_journey_32 (by decide) (fun c10 => ?_) (fun c10 => ?_)
        · have hE := zifnT c10 hE
          have k11 : zI 1 1 (v7) := zI.neD c10 hv7 (zI.lit (a := 0) (b := 0) (c := 0) (by decide)) (by decide)
          exact ih21 r8 q9 ju6 (fw21.tr fu6 rfl) (yu6_2 c10) (yu6_0) (((congrFun (fu6 101 rfl) 0).trans xz21)) hE (by have := yu6_1 c10; omega) H locs ls hw hS (lv_sub hl [0] rfl)
        · have hE := zifnF c10 hE
          have k12 : zI 0 0 (v7) := zI.eqq c10 (zI.lit (a := 0) (b := 0) (c := 0) (by decide))
          refine lv_aload_n hx hb dX12_journey_35 rfl (lv_at hl 0 rfl) ?_
          refine mget (v := .int (r8 109 0)) hx hb hts hiX12 hown hK hw 9 (by decide) lf165 rfl rfl dX12_journey_36 (zgenE (zI.top _) (fun v13 ev13 _ => ?_))
          have hE := zletE ev13 hE
          exact ziretQ hQ hx hb hr rfl hlocks (v13, r8, q9) rfl ⟨(zI.top _), ju6, (fw21.tr fu6 rfl), (show r8 101 0 = 0 from ((congrFun (fu6 101 rfl) 0).trans xz21)), (hE.symm.trans hX), trivial⟩ hw hS dX12_journey_39
  intro H locs hw hS ls hl
  have hl : lv_has ls 1 [(0, .ref h0)] := hl
  have hE := hX
  unfold Gm_journey at hE
  refine lv_aload_n hx hb dX12_journey_0 rfl (lv_at hl 0 rfl) ?_
  refine lv_iconst (v := 0) hx hb dX12_journey_1 (by decide) ?_
  refine mput (ty := .int) (v := .int 0) hx hb hts hiX12 hown hK hw hS 0 (by decide) lf129 rfl rfl (by decide +kernel) rfl rfl dX12_journey_2 (zset r 100 (fun _ => (0 : Int32))) _ mWf0 (fun H locs hw hS => ?_)
  refine mgen (P := fun x => mJ B x ∧ zFr [25, 26, 27, 28, 100, 101, 103, 104, 105, 106, 108, 109, 136] r x) hw ⟨hJ0.setc rfl (fun _ => (zI.top _)), (zFr.refl).set rfl⟩ (fun r14 er14 hw pr14 => ?_)
  have hE := zletE er14 hE
  refine lv_aload_n hx hb dX12_journey_5 rfl (lv_at hl 0 rfl) ?_
  refine mget (v := .ref (y 25)) hx hb hts hiX12 hown hK hw 38 (by decide) lf87 rfl rfl dX12_journey_6 ?_
  refine lv_iconst (v := 5) hx hb dX12_journey_9 (by decide) ?_
  refine lv_iconst (v := 0) hx hb dX12_journey_10 (by decide) ?_
  refine ziast hx hb hK hw hS 26 mWg25 5 (by decide) (by decide) (by decide) dX12_journey_11 (mW ct h0 y (zset r14 25 (upd (r14 25) 5 (0 : Int32))) q) mWs25 (fun H locs hw hS => ?_)
  refine mgen (P := fun x => mJ B x ∧ zFr [25, 26, 27, 28, 100, 101, 103, 104, 105, 106, 108, 109, 136] r x) hw ⟨pr14.1.line0 rfl, pr14.2.set rfl⟩ (fun r15 er15 hw pr15 => ?_)
  have hE := zletE er15 hE
  refine lv_aload_n hx hb dX12_journey_12 rfl (lv_at hl 0 rfl) ?_
  refine lv_iconst (v := 0) hx hb dX12_journey_13 (by decide) ?_
  refine mput (ty := .int) (v := .int 0) hx hb hts hiX12 hown hK hw hS 36 (by decide) lf256 rfl rfl (by decide +kernel) rfl rfl dX12_journey_14 (zset r15 136 (fun _ => (0 : Int32))) _ mWf36 (fun H locs hw hS => ?_)
  refine mgen (P := fun x => mJ B x ∧ zFr [25, 26, 27, 28, 100, 101, 103, 104, 105, 106, 108, 109, 136] r x) hw ⟨pr15.1.setc rfl (fun _ => ((zI.lit (a := 0) (b := 0) (c := 0) (by decide)).w (c := (-1)) (d := 9999) (by decide))), pr15.2.set rfl⟩ (fun r16 er16 hw pr16 => ?_)
  have hE := zletE er16 hE
  refine lv_aload_n hx hb dX12_journey_17 rfl (lv_at hl 0 rfl) ?_
  refine mcallV (As := []) (rest := []) ⟨hx, hb, hml, hown, hts⟩ (mc_begins l D ct h0 y B r16 q pr16.1) (wqX12_298_mc_begins hts ⟨Nat.le_of_ble_eq_true rfl, Nat.le_of_ble_eq_true rfl⟩) hw hS hA hK hN rfl hl.1 rfl (Nat.le_of_ble_eq_true rfl) dX12_journey_18 21 rfl (fun u17 H locs pu17 hw hS => ?_)
  obtain ⟨r18, q19⟩ := u17
  have ju17 : mJ B r18 := pu17.1
  have fu17 : zFr [104, 105, 106, 108, 103, 101] r16 r18 := pu17.2.1
  have yu17_0 : mP r18 := pu17.2.2.1
  have yu17_1 : r18 101 0 = 0 := pu17.2.2.2.1
  have xu17 : (r18, q19) = (Gm_begins r16 q) := pu17.2.2.2.2.1
  have hE := zc_rqE xu17 hE
  have hw : zPD D A (mW ct h0 y r18 q19) H := hw
  refine zfr 21 [] rfl rfl ?_
  exact cut21 1002 r18 q19 ju17 (pr16.2.tr fu17 rfl) ((fu17.at (zs_in er16 (zI.lit (a := 0) (b := 0) (c := 0) (by decide))) rfl).w (c := 0) (d := 9999) (by decide)) (yu17_0) (yu17_1) hE (by have h9 : zI 0 1000 (r18 105 0) := ju17.i 105 0; have := h9.1; omega) H locs ls hw hS (lv_sub hl [0] rfl)
/-! ===== a land that was read is laid: the second halves onto the first ===== -/
theorem zsf_lo {f : Nat → Int32} {n i j : Nat} (h : j < i) : zsf f n i j = f (n + j) := if_pos h
theorem zsf_hi {f : Nat → Int32} {n i j : Nat} (h : ¬ j < i) : zsf f n i j = f j := if_neg h
theorem mN.shc {B : Int} {r : zRr} (h : mN B r) {k n : Nat} {a b : Int} (ha : ∀ j, mlo k j = a) (hb : ∀ j, mhi B k j = b) : ∀ j, zI (mlo k j) (mhi B k j) (zsf (r k) n n j) := by
  intro j
  have h9 := fun i => h.i k i
  rw [ha, hb]
  unfold zsf
  split
  · have h8 := h9 (n + j); rw [ha, hb] at h8; exact h8
  · have h8 := h9 j; rw [ha, hb] at h8; exact h8
theorem mN.shl {B : Int} {r : zRr} (h : mN B r) : ∀ j, zI (mlo 1 j) (mhi B 1 j) (zsf (r 1) 4 4 j) := by
  intro j
  by_cases hj : j < 4
  · rw [zsf_lo hj]
    rcases (show j = 0 ∨ j = 1 ∨ j = 2 ∨ j = 3 by omega) with rfl | rfl | rfl | rfl
    · exact h.i 1 4
    · exact h.i 1 5
    · exact zI.top _
    · exact zI.top _
  · rw [zsf_hi hj]; exact h.i 1 j
theorem mrun_sh {f : Nat → Int32} {a : Nat} : ∀ n, a + n ≤ 1000 → mrun (zsf f 1000 1000) a n = mrun f (1000 + a) n
  | 0, _ => rfl
  | n + 1, h => by
    show mst (zsf f 1000 1000 (a + n)) (mrun (zsf f 1000 1000) a n) = mst (f (1000 + a + n)) (mrun f (1000 + a) n)
    rw [mrun_sh n (by omega), zsf_lo (by omega), show 1000 + (a + n) = 1000 + a + n by omega]
theorem mDf_sh {f : Nat → Int32} {a b : Nat} (hb : b ≤ 1000) (h : mDf f (1000 + a) (1000 + b)) : mDf (zsf f 1000 1000) a b := by
  intro n hn
  rw [mrun_sh n (by omega), zsf_lo (by omega), show 1000 + (a + n) = 1000 + a + n by omega]
  exact h n (by omega)
theorem zn_m1000 {x : Int32} (h : zI 1000 2000 x) : 1000 + zn (x - 1000) = zn x ∧ zn (x - 1000) ≤ 1000 := by
  have e := i32_d h (zI.lit (a := 1000) (b := 1000) (c := 1000) (by decide)) (by decide)
  have c9 : (1000 : Int32).toInt = 1000 := by decide
  obtain ⟨h1, h2⟩ := h
  unfold zn
  omega
theorem mlays {B : Int} {r r1 : zRr} (h : mJ B r) (h1 : mN B r1) (hT : mT1 r) (hD : mD1 r) (hF : mF1 r) (e1 : r1 1 = zsf (r 1) 4 4) (e12 : r1 12 = zsf (r 12) 1000 1000) (e10 : r1 10 0 = r 10 1 - 1000) (e11 : r1 11 0 = r 11 1 - 1000) (e25 : r1 25 = r 25) (e26 : r1 26 = r 26) (e28 : r1 28 = r 28) : mJ B r1 := by
  obtain ⟨i10, i11⟩ := hF
  obtain ⟨b1, b2, b3, b4, b5, b6⟩ := h
  refine ⟨b1, b2, h1.i, ?_, ?_, ?_⟩
  · show mDf (r1 12) (zn (r1 10 0)) (zn (r1 11 0))
    rw [e12, e10, e11]
    refine mDf_sh (zn_m1000 i11).2 ?_
    rw [(zn_m1000 i10).1, (zn_m1000 i11).1]
    exact hD
  · intro b j
    rw [e25, e26, e28]; exact b5 b j
  · show 0 < (r1 1 1).toInt → 0 < (r1 1 0).toInt
    rw [e1]; exact hT
set_option maxRecDepth 20000 in
theorem mL_X12_shifts : ∀ w ∈ wsX12_shifts, w ∈ wsL_law0 := (zcm (zr27 16 rfl) znm)
set_option maxRecDepth 20000 in
theorem mL_X12_shiftsNames : ∀ w ∈ wsX12_shiftsNames, w ∈ wsL_law0 := (zcm (zr27 19 rfl) znm)
noncomputable def Gm_lays (r : zRr) (q : zRq) : zRr × zRq :=
  zlet (α := zRr) (zset r 1 (zsf (r 1) 4 4)) <| fun r1 => zlet (α := zRq) (zset q 2 (zsL (q 2) 6 6)) <| fun q2 => zlet (α := zRq) (zset q2 3 (zsL (q2 3) 6 6)) <| fun q3 => zlet (α := zRr) (zset r1 4 (zsf (r1 4) 6 6)) <| fun r4 => zlet (α := zRr) (zset r4 5 (zsf (r4 5) 6 6)) <| fun r5 => zlet (α := zRr) (zset r5 6 (zsf (r5 6) 6 6)) <| fun r6 => zlet (α := zRr) (zset r6 7 (zsf (r6 7) 6 6)) <| fun r7 => zlet (α := zRr) (zset r7 8 (zsf (r7 8) 6 6)) <| fun r8 => zlet (α := zRr) (zset r8 9 (zsf (r8 9) 6 6)) <| fun r9 => zlet (α := zRr) (zset r9 12 (zsf (r9 12) 1000 1000)) <| fun r10 => zlet (α := zRr) (zset r10 10 (upd (r10 10) 0 ((r10 10 1) - 1000))) <| fun r12 => zlet (α := zRr) (zset r12 11 (upd (r12 11) 0 ((r12 11 1) - 1000))) <| fun r14 => (r14, q3)
set_option maxHeartbeats 4000000 in
set_option maxRecDepth 100000 in
theorem mc_lays (l : Launch) (D : va_G) (ct : Nat → ClassId) (h0 : Nat) (y : Nat → Nat) (B : Int) (r : zRr) (q : zRq) (hJ0 : mJ B r) (x1 : mT1 r) (x2 : mD1 r) (x3 : mF1 r) : zC l yX12_lays (.code yX12_lays cX12_lays 1 none :: wsL_law0) ({ frames := 2, cells := 0, slots := 0, locals := 120 }) D ct [] [.ref h0] (mW ct h0 y r q) (S := zRr × zRq) (fun u => none) (fun u => mJ B u.1 ∧ zFr [1, 4, 5, 6, 7, 8, 9, 12, 10, 11] r u.1 ∧ u = (Gm_lays r q) ∧ True) (fun u => mW ct h0 y u.1 u.2) 0 0 := by
  refine zofQ cX12_lays 1 none (by decide) rfl (Nat.le_of_ble_eq_true rfl) ?_
  intro p e s m below meth c A a9 Q ha9 hx hb hr hml hts hown hlocks hname hK hA hZ hN hQ
  have hown : s.vm.findClass RX12 = some m.cls := hown
  have hiX12 : ∀ w ∈ wsX120, w ∈ .code yX12_lays cX12_lays 1 none :: wsL_law0 := fun _ h => ki (zs_wsX120 _ h)
  have lf13 := hts (.fieldLink RX12 13 "BeardPassModel" "land" "[I") (ki (zr7 20 rfl))
  have lf16 := hts (.fieldLink RX12 16 "BeardPassModel" "townName" "[J") (ki (zr7 21 rfl))
  have lf20 := hts (.fieldLink RX12 20 "BeardPassModel" "personName" "[J") (ki (zr7 22 rfl))
  have lf23 := hts (.fieldLink RX12 23 "BeardPassModel" "asks" "[I") (ki (zr7 23 rfl))
  have lf26 := hts (.fieldLink RX12 26 "BeardPassModel" "roads" "[I") (ki (zr8 0 rfl))
  have lf29 := hts (.fieldLink RX12 29 "BeardPassModel" "kind" "[I") (ki (zr8 1 rfl))
  have lf32 := hts (.fieldLink RX12 32 "BeardPassModel" "atTold" "[I") (ki (zr8 2 rfl))
  have lf35 := hts (.fieldLink RX12 35 "BeardPassModel" "beardTold" "[I") (ki (zr8 3 rfl))
  have lf38 := hts (.fieldLink RX12 38 "BeardPassModel" "purseTold" "[I") (ki (zr8 4 rfl))
  have lf41 := hts (.fieldLink RX12 41 "BeardPassModel" "lineFrom" "[I") (ki (zr8 5 rfl))
  have lf44 := hts (.fieldLink RX12 44 "BeardPassModel" "lineTo" "[I") (ki (zr8 6 rfl))
  have lf47 := hts (.fieldLink RX12 47 "BeardPassModel" "codes" "[I") (ki (zr8 7 rfl))
  obtain ⟨X, hX⟩ : ∃ X, X = (Gm_lays r q) := ⟨_, rfl⟩
  intro H locs hw hS ls hl
  have hl : lv_has ls 1 [(0, .ref h0)] := hl
  have hE := hX
  unfold Gm_lays at hE
  refine lv_aload_n hx hb dX12_lays_0 rfl (lv_at hl 0 rfl) ?_
  refine mget (v := .ref (y 1)) hx hb hts hiX12 hown hK hw 10 (by decide) lf13 rfl rfl dX12_lays_1 ?_
  refine lv_iconst (v := 4) hx hb dX12_lays_4 (by decide) ?_
  refine zfr 5 [.int (nI 4), .ref (y 1)] rfl rfl ?_
  refine mcp1 2 (As := [.ref (y 1), .int (nI 4)]) (rest := []) ⟨hx, hb, hml, hown, hts⟩ (c_shifts l D ct (y 1) 4 8 (r 1) (by decide) (by decide)) (va_cwS 2 hts (kgSm (zr27 14 rfl) (zr27 15 rfl) (zr1 5 rfl) mL_X12_shifts) rfl rfl rfl (by decide +kernel) ⟨Nat.le_of_ble_eq_true rfl, Nat.le_of_ble_eq_true rfl⟩) hw hS hA hK hN mWg1 rfl rfl hl.1 rfl (Nat.le_of_ble_eq_true rfl) dX12_lays_5 mWs1 (fun _ H locs _ hw hS => ?_)
  have hw : zPD D A (mW ct h0 y (zset r 1 (zsf (r 1) 4 4)) q) H := hw
  refine zfr 8 [] rfl rfl ?_
  refine mgen (P := fun x => mN B x ∧ zFr [1, 4, 5, 6, 7, 8, 9, 12, 10, 11] r x) hw ⟨hJ0.n.setr rfl hJ0.n.shl, (zFr.refl).set rfl⟩ (fun r1 er1 hw pr1 => ?_)
  have hE := zletE er1 hE
  refine lv_aload_n hx hb dX12_lays_8 rfl (lv_at hl 0 rfl) ?_
  refine mget (v := .ref (y 2)) hx hb hts hiX12 hown hK hw 11 (by decide) lf16 rfl rfl dX12_lays_9 ?_
  refine mcp1 3 (As := [.ref (y 2)]) (rest := []) ⟨hx, hb, hml, hown, hts⟩ (c_shiftsN l D ct (y 2) (q 2)) (va_cwS 1 hts (kgSm (zr27 17 rfl) (zr27 18 rfl) (zr1 5 rfl) mL_X12_shiftsNames) rfl rfl rfl (by decide +kernel) ⟨Nat.le_of_ble_eq_true rfl, Nat.le_of_ble_eq_true rfl⟩) hw hS hA hK hN mWg2 rfl rfl hl.1 rfl (Nat.le_of_ble_eq_true rfl) dX12_lays_12 mWs2 (fun _ H locs _ hw hS => ?_)
  have hw : zPD D A (mW ct h0 y r1 (zset q 2 (zsL (q 2) 6 6))) H := hw
  refine zfr 15 [] rfl rfl ?_
  refine mqgen hw (fun q2 eq2 hw => ?_)
  have hE := zletE eq2 hE
  refine lv_aload_n hx hb dX12_lays_15 rfl (lv_at hl 0 rfl) ?_
  refine mget (v := .ref (y 3)) hx hb hts hiX12 hown hK hw 12 (by decide) lf20 rfl rfl dX12_lays_16 ?_
  refine mcp1 4 (As := [.ref (y 3)]) (rest := []) ⟨hx, hb, hml, hown, hts⟩ (c_shiftsN l D ct (y 3) (q2 3)) (va_cwS 1 hts (kgSm (zr27 17 rfl) (zr27 18 rfl) (zr1 5 rfl) mL_X12_shiftsNames) rfl rfl rfl (by decide +kernel) ⟨Nat.le_of_ble_eq_true rfl, Nat.le_of_ble_eq_true rfl⟩) hw hS hA hK hN mWg3 rfl rfl hl.1 rfl (Nat.le_of_ble_eq_true rfl) dX12_lays_19 mWs3 (fun _ H locs _ hw hS => ?_)
  have hw : zPD D A (mW ct h0 y r1 (zset q2 3 (zsL (q2 3) 6 6))) H := hw
  refine zfr 22 [] rfl rfl ?_
  refine mqgen hw (fun q3 eq3 hw => ?_)
  have hE := zletE eq3 hE
  refine lv_aload_n hx hb dX12_lays_22 rfl (lv_at hl 0 rfl) ?_
  refine mget (v := .ref (y 4)) hx hb hts hiX12 hown hK hw 13 (by decide) lf23 rfl rfl dX12_lays_23 ?_
  refine lv_bipush (v := 6) hx hb dX12_lays_26 (by decide) ?_
  refine zfr 28 [.int (nI 6), .ref (y 4)] rfl rfl ?_
  refine mcp1 5 (As := [.ref (y 4), .int (nI 6)]) (rest := []) ⟨hx, hb, hml, hown, hts⟩ (c_shifts l D ct (y 4) 6 12 (r1 4) (by decide) (by decide)) (va_cwS 2 hts (kgSm (zr27 14 rfl) (zr27 15 rfl) (zr1 5 rfl) mL_X12_shifts) rfl rfl rfl (by decide +kernel) ⟨Nat.le_of_ble_eq_true rfl, Nat.le_of_ble_eq_true rfl⟩) hw hS hA hK hN mWg4 rfl rfl hl.1 rfl (Nat.le_of_ble_eq_true rfl) dX12_lays_28 mWs4 (fun _ H locs _ hw hS => ?_)
  have hw : zPD D A (mW ct h0 y (zset r1 4 (zsf (r1 4) 6 6)) q3) H := hw
  refine zfr 31 [] rfl rfl ?_
  refine mgen (P := fun x => mN B x ∧ zFr [1, 4, 5, 6, 7, 8, 9, 12, 10, 11] r x) hw ⟨pr1.1.setr rfl (pr1.1.shc (fun _ => rfl) (fun _ => rfl)), pr1.2.set rfl⟩ (fun r4 er4 hw pr4 => ?_)
  have hE := zletE er4 hE
  refine lv_aload_n hx hb dX12_lays_31 rfl (lv_at hl 0 rfl) ?_
  refine mget (v := .ref (y 5)) hx hb hts hiX12 hown hK hw 14 (by decide) lf26 rfl rfl dX12_lays_32 ?_
  refine lv_bipush (v := 6) hx hb dX12_lays_35 (by decide) ?_
  refine zfr 37 [.int (nI 6), .ref (y 5)] rfl rfl ?_
  refine mcp1 6 (As := [.ref (y 5), .int (nI 6)]) (rest := []) ⟨hx, hb, hml, hown, hts⟩ (c_shifts l D ct (y 5) 6 12 (r4 5) (by decide) (by decide)) (va_cwS 2 hts (kgSm (zr27 14 rfl) (zr27 15 rfl) (zr1 5 rfl) mL_X12_shifts) rfl rfl rfl (by decide +kernel) ⟨Nat.le_of_ble_eq_true rfl, Nat.le_of_ble_eq_true rfl⟩) hw hS hA hK hN mWg5 rfl rfl hl.1 rfl (Nat.le_of_ble_eq_true rfl) dX12_lays_37 mWs5 (fun _ H locs _ hw hS => ?_)
  have hw : zPD D A (mW ct h0 y (zset r4 5 (zsf (r4 5) 6 6)) q3) H := hw
  refine zfr 40 [] rfl rfl ?_
  refine mgen (P := fun x => mN B x ∧ zFr [1, 4, 5, 6, 7, 8, 9, 12, 10, 11] r x) hw ⟨pr4.1.setr rfl (pr4.1.shc (fun _ => rfl) (fun _ => rfl)), pr4.2.set rfl⟩ (fun r5 er5 hw pr5 => ?_)
  have hE := zletE er5 hE
  refine lv_aload_n hx hb dX12_lays_40 rfl (lv_at hl 0 rfl) ?_
  refine mget (v := .ref (y 6)) hx hb hts hiX12 hown hK hw 15 (by decide) lf29 rfl rfl dX12_lays_41 ?_
  refine lv_bipush (v := 6) hx hb dX12_lays_44 (by decide) ?_
  refine zfr 46 [.int (nI 6), .ref (y 6)] rfl rfl ?_
  refine mcp1 7 (As := [.ref (y 6), .int (nI 6)]) (rest := []) ⟨hx, hb, hml, hown, hts⟩ (c_shifts l D ct (y 6) 6 12 (r5 6) (by decide) (by decide)) (va_cwS 2 hts (kgSm (zr27 14 rfl) (zr27 15 rfl) (zr1 5 rfl) mL_X12_shifts) rfl rfl rfl (by decide +kernel) ⟨Nat.le_of_ble_eq_true rfl, Nat.le_of_ble_eq_true rfl⟩) hw hS hA hK hN mWg6 rfl rfl hl.1 rfl (Nat.le_of_ble_eq_true rfl) dX12_lays_46 mWs6 (fun _ H locs _ hw hS => ?_)
  have hw : zPD D A (mW ct h0 y (zset r5 6 (zsf (r5 6) 6 6)) q3) H := hw
  refine zfr 49 [] rfl rfl ?_
  refine mgen (P := fun x => mN B x ∧ zFr [1, 4, 5, 6, 7, 8, 9, 12, 10, 11] r x) hw ⟨pr5.1.setr rfl (pr5.1.shc (fun _ => rfl) (fun _ => rfl)), pr5.2.set rfl⟩ (fun r6 er6 hw pr6 => ?_)
  have hE := zletE er6 hE
  refine lv_aload_n hx hb dX12_lays_49 rfl (lv_at hl 0 rfl) ?_
  refine mget (v := .ref (y 7)) hx hb hts hiX12 hown hK hw 16 (by decide) lf32 rfl rfl dX12_lays_50 ?_
  refine lv_bipush (v := 6) hx hb dX12_lays_53 (by decide) ?_
  refine zfr 55 [.int (nI 6), .ref (y 7)] rfl rfl ?_
  refine mcp1 8 (As := [.ref (y 7), .int (nI 6)]) (rest := []) ⟨hx, hb, hml, hown, hts⟩ (c_shifts l D ct (y 7) 6 12 (r6 7) (by decide) (by decide)) (va_cwS 2 hts (kgSm (zr27 14 rfl) (zr27 15 rfl) (zr1 5 rfl) mL_X12_shifts) rfl rfl rfl (by decide +kernel) ⟨Nat.le_of_ble_eq_true rfl, Nat.le_of_ble_eq_true rfl⟩) hw hS hA hK hN mWg7 rfl rfl hl.1 rfl (Nat.le_of_ble_eq_true rfl) dX12_lays_55 mWs7 (fun _ H locs _ hw hS => ?_)
  have hw : zPD D A (mW ct h0 y (zset r6 7 (zsf (r6 7) 6 6)) q3) H := hw
  refine zfr 58 [] rfl rfl ?_
  refine mgen (P := fun x => mN B x ∧ zFr [1, 4, 5, 6, 7, 8, 9, 12, 10, 11] r x) hw ⟨pr6.1.setr rfl (pr6.1.shc (fun _ => rfl) (fun _ => rfl)), pr6.2.set rfl⟩ (fun r7 er7 hw pr7 => ?_)
  have hE := zletE er7 hE
  refine lv_aload_n hx hb dX12_lays_58 rfl (lv_at hl 0 rfl) ?_
  refine mget (v := .ref (y 8)) hx hb hts hiX12 hown hK hw 17 (by decide) lf35 rfl rfl dX12_lays_59 ?_
  refine lv_bipush (v := 6) hx hb dX12_lays_62 (by decide) ?_
  refine zfr 64 [.int (nI 6), .ref (y 8)] rfl rfl ?_
  refine mcp1 9 (As := [.ref (y 8), .int (nI 6)]) (rest := []) ⟨hx, hb, hml, hown, hts⟩ (c_shifts l D ct (y 8) 6 12 (r7 8) (by decide) (by decide)) (va_cwS 2 hts (kgSm (zr27 14 rfl) (zr27 15 rfl) (zr1 5 rfl) mL_X12_shifts) rfl rfl rfl (by decide +kernel) ⟨Nat.le_of_ble_eq_true rfl, Nat.le_of_ble_eq_true rfl⟩) hw hS hA hK hN mWg8 rfl rfl hl.1 rfl (Nat.le_of_ble_eq_true rfl) dX12_lays_64 mWs8 (fun _ H locs _ hw hS => ?_)
  have hw : zPD D A (mW ct h0 y (zset r7 8 (zsf (r7 8) 6 6)) q3) H := hw
  refine zfr 67 [] rfl rfl ?_
  refine mgen (P := fun x => mN B x ∧ zFr [1, 4, 5, 6, 7, 8, 9, 12, 10, 11] r x) hw ⟨pr7.1.setr rfl (pr7.1.shc (fun _ => rfl) (fun _ => rfl)), pr7.2.set rfl⟩ (fun r8 er8 hw pr8 => ?_)
  have hE := zletE er8 hE
  refine lv_aload_n hx hb dX12_lays_67 rfl (lv_at hl 0 rfl) ?_
  refine mget (v := .ref (y 9)) hx hb hts hiX12 hown hK hw 18 (by decide) lf38 rfl rfl dX12_lays_68 ?_
  refine lv_bipush (v := 6) hx hb dX12_lays_71 (by decide) ?_
  refine zfr 73 [.int (nI 6), .ref (y 9)] rfl rfl ?_
  refine mcp1 10 (As := [.ref (y 9), .int (nI 6)]) (rest := []) ⟨hx, hb, hml, hown, hts⟩ (c_shifts l D ct (y 9) 6 12 (r8 9) (by decide) (by decide)) (va_cwS 2 hts (kgSm (zr27 14 rfl) (zr27 15 rfl) (zr1 5 rfl) mL_X12_shifts) rfl rfl rfl (by decide +kernel) ⟨Nat.le_of_ble_eq_true rfl, Nat.le_of_ble_eq_true rfl⟩) hw hS hA hK hN mWg9 rfl rfl hl.1 rfl (Nat.le_of_ble_eq_true rfl) dX12_lays_73 mWs9 (fun _ H locs _ hw hS => ?_)
  have hw : zPD D A (mW ct h0 y (zset r8 9 (zsf (r8 9) 6 6)) q3) H := hw
  refine zfr 76 [] rfl rfl ?_
  refine mgen (P := fun x => mN B x ∧ zFr [1, 4, 5, 6, 7, 8, 9, 12, 10, 11] r x) hw ⟨pr8.1.setr rfl (pr8.1.shc (fun _ => rfl) (fun _ => rfl)), pr8.2.set rfl⟩ (fun r9 er9 hw pr9 => ?_)
  have hE := zletE er9 hE
  refine lv_aload_n hx hb dX12_lays_76 rfl (lv_at hl 0 rfl) ?_
  refine mget (v := .ref (y 12)) hx hb hts hiX12 hown hK hw 21 (by decide) lf47 rfl rfl dX12_lays_77 ?_
  refine lv_sipush (v := 1000) hx hb dX12_lays_80 (by decide) ?_
  refine zfr 83 [.int (nI 1000), .ref (y 12)] rfl rfl ?_
  refine mcp1 13 (As := [.ref (y 12), .int (nI 1000)]) (rest := []) ⟨hx, hb, hml, hown, hts⟩ (c_shifts l D ct (y 12) 1000 2000 (r9 12) (by decide) (by decide)) (va_cwS 2 hts (kgSm (zr27 14 rfl) (zr27 15 rfl) (zr1 5 rfl) mL_X12_shifts) rfl rfl rfl (by decide +kernel) ⟨Nat.le_of_ble_eq_true rfl, Nat.le_of_ble_eq_true rfl⟩) hw hS hA hK hN mWg12 rfl rfl hl.1 rfl (Nat.le_of_ble_eq_true rfl) dX12_lays_83 mWs12 (fun _ H locs _ hw hS => ?_)
  have hw : zPD D A (mW ct h0 y (zset r9 12 (zsf (r9 12) 1000 1000)) q3) H := hw
  refine zfr 86 [] rfl rfl ?_
  refine mgen (P := fun x => mN B x ∧ zFr [1, 4, 5, 6, 7, 8, 9, 12, 10, 11] r x) hw ⟨pr9.1.setr rfl (pr9.1.shc (fun _ => rfl) (fun _ => rfl)), pr9.2.set rfl⟩ (fun r10 er10 hw pr10 => ?_)
  have hE := zletE er10 hE
  refine lv_aload_n hx hb dX12_lays_86 rfl (lv_at hl 0 rfl) ?_
  refine mget (v := .ref (y 10)) hx hb hts hiX12 hown hK hw 19 (by decide) lf41 rfl rfl dX12_lays_87 ?_
  refine lv_iconst (v := 0) hx hb dX12_lays_90 (by decide) ?_
  refine lv_aload_n hx hb dX12_lays_91 rfl (lv_at hl 0 rfl) ?_
  refine mget (v := .ref (y 10)) hx hb hts hiX12 hown hK hw 19 (by decide) lf41 rfl rfl dX12_lays_92 ?_
  refine lv_iconst (v := 1) hx hb dX12_lays_95 (by decide) ?_
  refine ziald hx hb hK hw 11 mWg10 1 (by decide) (by decide) (by decide) dX12_lays_96 ?_
  refine lv_sipush (v := 1000) hx hb dX12_lays_97 (by decide) ?_
  refine lv_isub hx hb dX12_lays_100 ?_
  have k11 : zI 0 1000 ((r10 10 1) - 1000) := zI.sub (zs_at er10 (zs_at er9 (zs_at er8 (zs_at er7 (zs_at er6 (zs_at er5 (zs_at er4 (zs_at er1 x3.1 (by decide)) (by decide)) (by decide)) (by decide)) (by decide)) (by decide)) (by decide)) (by decide)) (zI.lit (a := 1000) (b := 1000) (c := 1000) (by decide)) (by decide)
  refine ziast hx hb hK hw hS 11 mWg10 0 (by decide) (by decide) (by decide) dX12_lays_101 (mW ct h0 y (zset r10 10 (upd (r10 10) 0 ((r10 10 1) - 1000))) q3) mWs10 (fun H locs hw hS => ?_)
  refine mgen (P := fun x => mN B x ∧ zFr [1, 4, 5, 6, 7, 8, 9, 12, 10, 11] r x) hw ⟨pr10.1.set rfl k11, pr10.2.set rfl⟩ (fun r12 er12 hw pr12 => ?_)
  have hE := zletE er12 hE
  refine lv_aload_n hx hb dX12_lays_102 rfl (lv_at hl 0 rfl) ?_
  refine mget (v := .ref (y 11)) hx hb hts hiX12 hown hK hw 20 (by decide) lf44 rfl rfl dX12_lays_103 ?_
  refine lv_iconst (v := 0) hx hb dX12_lays_106 (by decide) ?_
  refine lv_aload_n hx hb dX12_lays_107 rfl (lv_at hl 0 rfl) ?_
  refine mget (v := .ref (y 11)) hx hb hts hiX12 hown hK hw 20 (by decide) lf44 rfl rfl dX12_lays_108 ?_
  refine lv_iconst (v := 1) hx hb dX12_lays_111 (by decide) ?_
  refine ziald hx hb hK hw 12 mWg11 1 (by decide) (by decide) (by decide) dX12_lays_112 ?_
  refine lv_sipush (v := 1000) hx hb dX12_lays_113 (by decide) ?_
  refine lv_isub hx hb dX12_lays_116 ?_
  have k13 : zI 0 1000 ((r12 11 1) - 1000) := zI.sub (zs_at er12 (zs_at er10 (zs_at er9 (zs_at er8 (zs_at er7 (zs_at er6 (zs_at er5 (zs_at er4 (zs_at er1 x3.2 (by decide)) (by decide)) (by decide)) (by decide)) (by decide)) (by decide)) (by decide)) (by decide)) (by decide)) (zI.lit (a := 1000) (b := 1000) (c := 1000) (by decide)) (by decide)
  refine ziast hx hb hK hw hS 12 mWg11 0 (by decide) (by decide) (by decide) dX12_lays_117 (mW ct h0 y (zset r12 11 (upd (r12 11) 0 ((r12 11 1) - 1000))) q3) mWs11 (fun H locs hw hS => ?_)
  refine mgen (P := fun x => mN B x ∧ zFr [1, 4, 5, 6, 7, 8, 9, 12, 10, 11] r x) hw ⟨pr12.1.set rfl k13, pr12.2.set rfl⟩ (fun r14 er14 hw pr14 => ?_)
  have hE := zletE er14 hE
  exact zvretQ hQ hx hb hr hlocks (r14, q3) rfl ⟨(mlays (r1 := r14) hJ0 pr14.1 x1 x2 x3 (by rw [(((zs_row (k := 1) er14 (by decide)).trans ((zs_row (k := 1) er12 (by decide)).trans ((zs_row (k := 1) er10 (by decide)).trans ((zs_row (k := 1) er9 (by decide)).trans ((zs_row (k := 1) er8 (by decide)).trans ((zs_row (k := 1) er7 (by decide)).trans ((zs_row (k := 1) er6 (by decide)).trans ((zs_row (k := 1) er5 (by decide)).trans (zs_row (k := 1) er4 (by decide)))))))))).trans (zs_self er1))]) (by rw [(((zs_row (k := 12) er14 (by decide)).trans (zs_row (k := 12) er12 (by decide))).trans (zs_self er10)), ((zs_row (k := 12) er9 (by decide)).trans ((zs_row (k := 12) er8 (by decide)).trans ((zs_row (k := 12) er7 (by decide)).trans ((zs_row (k := 12) er6 (by decide)).trans ((zs_row (k := 12) er5 (by decide)).trans ((zs_row (k := 12) er4 (by decide)).trans (zs_row (k := 12) er1 (by decide))))))))]) (by rw [((zs_row (k := 10) er14 (by decide)).trans (zs_self er12)), pk_us, ((zs_row (k := 10) er10 (by decide)).trans ((zs_row (k := 10) er9 (by decide)).trans ((zs_row (k := 10) er8 (by decide)).trans ((zs_row (k := 10) er7 (by decide)).trans ((zs_row (k := 10) er6 (by decide)).trans ((zs_row (k := 10) er5 (by decide)).trans ((zs_row (k := 10) er4 (by decide)).trans (zs_row (k := 10) er1 (by decide)))))))))]) (by rw [(zs_self er14), pk_us, ((zs_row (k := 11) er12 (by decide)).trans ((zs_row (k := 11) er10 (by decide)).trans ((zs_row (k := 11) er9 (by decide)).trans ((zs_row (k := 11) er8 (by decide)).trans ((zs_row (k := 11) er7 (by decide)).trans ((zs_row (k := 11) er6 (by decide)).trans ((zs_row (k := 11) er5 (by decide)).trans ((zs_row (k := 11) er4 (by decide)).trans (zs_row (k := 11) er1 (by decide))))))))))]) ((zs_row (k := 25) er14 (by decide)).trans ((zs_row (k := 25) er12 (by decide)).trans ((zs_row (k := 25) er10 (by decide)).trans ((zs_row (k := 25) er9 (by decide)).trans ((zs_row (k := 25) er8 (by decide)).trans ((zs_row (k := 25) er7 (by decide)).trans ((zs_row (k := 25) er6 (by decide)).trans ((zs_row (k := 25) er5 (by decide)).trans ((zs_row (k := 25) er4 (by decide)).trans (zs_row (k := 25) er1 (by decide))))))))))) ((zs_row (k := 26) er14 (by decide)).trans ((zs_row (k := 26) er12 (by decide)).trans ((zs_row (k := 26) er10 (by decide)).trans ((zs_row (k := 26) er9 (by decide)).trans ((zs_row (k := 26) er8 (by decide)).trans ((zs_row (k := 26) er7 (by decide)).trans ((zs_row (k := 26) er6 (by decide)).trans ((zs_row (k := 26) er5 (by decide)).trans ((zs_row (k := 26) er4 (by decide)).trans (zs_row (k := 26) er1 (by decide))))))))))) ((zs_row (k := 28) er14 (by decide)).trans ((zs_row (k := 28) er12 (by decide)).trans ((zs_row (k := 28) er10 (by decide)).trans ((zs_row (k := 28) er9 (by decide)).trans ((zs_row (k := 28) er8 (by decide)).trans ((zs_row (k := 28) er7 (by decide)).trans ((zs_row (k := 28) er6 (by decide)).trans ((zs_row (k := 28) er5 (by decide)).trans ((zs_row (k := 28) er4 (by decide)).trans (zs_row (k := 28) er1 (by decide)))))))))))), pr14.2, (hE.symm.trans hX), trivial⟩ hw hS dX12_lays_118

noncomputable def Bm_land_46 (ih46 : Int32 → zRr → zRq → (Int32 × zRr × zRq)) (w46_1 : Int32) (rw46 : zRr) (qw46 : zRq) : Int32 × zRr × zRq :=
  zif ((4 : Int32) ≤ w46_1) (((0 : Int32), rw46, qw46)) (zlet (α := zRr) (zset rw46 37 (upd (rw46 37) (zn w46_1) (0 : Int32))) <| fun r4 => ih46 (w46_1 + 1) r4 qw46)
noncomputable def Gm_land_46 (n : Nat) : Int32 → zRr → zRq → (Int32 × zRr × zRq) :=
  Nat.rec (motive := fun _ => Int32 → zRr → zRq → (Int32 × zRr × zRq)) (fun _ rw46 qw46 => (default, rw46, qw46)) (fun _ ih => Bm_land_46 ih) n
noncomputable def Gm_land (r : zRr) (q : zRq) : Int32 × zRr × zRq :=
  zlet (α := zRr) (zset r 100 (fun _ => (0 : Int32))) <| fun r6 => zc_vrq (Gm_readsAll r6 q) <| fun v8 r9 q10 => zifn (v8 = (0 : Int32)) (zc_rq (Gm_lays r9 q10) <| fun r14 q15 => zlet (α := zRr) ((Gm_fresh0 r14 q15)) <| fun u16 => zlet (α := zRr) (zset u16 25 (upd (u16 25) 0 (0 : Int32))) <| fun r18 => zlet (α := zRr) (zset r18 29 (upd (r18 29) 0 (0 : Int32))) <| fun r19 => zlet (α := zRr) (zset r19 151 (fun _ => (0 : Int32))) <| fun r20 => Gm_land_46 5 0 r20 q15) (zlet (α := Int32) (r9 109 0) <| fun v22 => (v22, r9, q10))
set_option maxHeartbeats 4000000 in
set_option maxRecDepth 100000 in
theorem mc_land (l : Launch) (D : va_G) (ct : Nat → ClassId) (h0 : Nat) (y : Nat → Nat) (B : Int) (r : zRr) (q : zRq) (hJ0 : mJ B r) : zC l yX12_land (.code yX12_land cX12_land 2 (some .int) :: wsL_law0) ({ frames := 7, cells := 0, slots := 0, locals := 320 }) D ct [] [.ref h0] (mW ct h0 y r q) (S := Int32 × zRr × zRq) (fun u => some (.int u.1)) (fun u => zI (-2147483648) 2147483647 u.1 ∧ mJ B u.2.1 ∧ zFr [1, 4, 5, 6, 7, 8, 9, 10, 11, 12, 13, 14, 25, 29, 32, 37, 100, 101, 103, 104, 105, 106, 108, 109, 122, 123, 136, 151] r u.2.1 ∧ (u.2.1 101 0 = 0) ∧ u = (Gm_land r q) ∧ True) (fun u => mW ct h0 y u.2.1 u.2.2) 0 0 := by
  refine zofQ cX12_land 2 (some .int) (by decide) rfl (Nat.le_of_ble_eq_true rfl) ?_
  intro p e s m below meth c A a9 Q ha9 hx hb hr hml hts hown hlocks hname hK hA hZ hN hQ
  have hown : s.vm.findClass RX12 = some m.cls := hown
  have hiX12 : ∀ w ∈ wsX120, w ∈ .code yX12_land cX12_land 2 (some .int) :: wsL_law0 := fun _ h => ki (zs_wsX120 _ h)
  have lf87 := hts (.fieldLink RX12 87 "BeardPassModel" "lines" "[I") (ki (zr8 21 rfl))
  have lf99 := hts (.fieldLink RX12 99 "BeardPassModel" "seens" "[I") (ki (zr9 1 rfl))
  have lf123 := hts (.fieldLink RX12 123 "BeardPassModel" "isLaid" "[Z") (ki (zr9 9 rfl))
  have lf129 := hts (.fieldLink RX12 129 "BeardPassModel" "thrown" "I") (ki (zr10 1 rfl))
  have lf165 := hts (.fieldLink RX12 165 "BeardPassModel" "wrong" "I") (ki (zr21 16 rfl))
  have lf336 := hts (.fieldLink RX12 336 "BeardPassModel" "done" "I") (ki (zr21 17 rfl))
  obtain ⟨X, hX⟩ : ∃ X, X = (Gm_land r q) := ⟨_, rfl⟩
  have cut46 : ∀ (n46 : Nat) (w46_1 : Int32) (rw46 : zRr) (qw46 : zRq) (hw46_1 : zI 0 4 w46_1) (jw46 : mJ B rw46) (fw46 : zFr [1, 4, 5, 6, 7, 8, 9, 10, 11, 12, 13, 14, 25, 29, 32, 37, 100, 101, 103, 104, 105, 106, 108, 109, 122, 123, 136, 151] r rw46) (xz46 : rw46 101 0 = 0) (hE : X = Gm_land_46 n46 w46_1 rw46 qw46), 4 - w46_1.toInt < (n46 : Int) → zKf p l e ({ frames := 7, cells := 0, slots := 0, locals := 320 }) s m a9 below meth c Q D A 46 2 [] (mW ct h0 y rw46 qw46) [(0, .ref h0), (1, .int w46_1)] := by
    intro n46
    induction n46 with
    | zero => intro w46_1 rw46 qw46 hw46_1 jw46 fw46 xz46 hE hm46; exact zI.no hw46_1 (by decide) hm46
    | succ n46 ih46 =>
      intro w46_1 rw46 qw46 hw46_1 jw46 fw46 xz46 hE hm46
      have hE : X = Bm_land_46 (Gm_land_46 n46) w46_1 rw46 qw46 := hE
      unfold Bm_land_46 at hE
      intro H locs ls hw hS hl
      refine lv_iload_n hx hb dX12_land_46 rfl (lv_at hl 1 rfl) ?_
      refine lv_iconst (v := 4) hx hb dX12_land_47 (by decide) ?_
      refine lv_icmp_ge (tgt := 64) hx hb dX12_land_48 (by decide) (fun c1 => ?_) (fun c1 => ?_)
      · have hE := zifT c1 hE
        have k2 : zI 4 4 (w46_1) := zI.leD c1 (zI.lit (a := 4) (b := 4) (c := 4) (by decide)) hw46_1 (by decide)
        refine lv_iconst (v := 0) hx hb dX12_land_64 (by decide) ?_
        exact ziretQ hQ hx hb hr rfl hlocks (0, rw46, qw46) rfl ⟨(zI.top _), jw46, fw46, (show rw46 101 0 = 0 from xz46), (hE.symm.trans hX), trivial⟩ hw hS dX12_land_65
      · have hE := zifF c1 hE
        have k3 : zI 0 3 (w46_1) := zI.ltU (zI.nle c1) hw46_1 (zI.lit (a := 4) (b := 4) (c := 4) (by decide)) (by decide)
        refine lv_aload_n hx hb dX12_land_51 rfl (lv_at hl 0 rfl) ?_
        refine mget (v := .ref (y 37)) hx hb hts hiX12 hown hK hw 50 (by decide) lf123 rfl rfl dX12_land_52 ?_
        refine lv_iload_n hx hb dX12_land_55 rfl (lv_at hl 1 rfl) ?_
        refine lv_iconst (v := 0) hx hb dX12_land_56 (by decide) ?_
        refine mzast hx hb hK hw hS 38 mWg37 k3 (by decide)  ((zI.lit (a := 0) (b := 0) (c := 0) (by decide)).w (c := 0) (d := 1) (by decide)) dX12_land_57 (mW ct h0 y (zset rw46 37 (upd (rw46 37) (zn w46_1) (0 : Int32))) qw46) mWs37 (fun H locs hw hS => ?_)
        refine mgen (P := fun x => mJ B x ∧ zFr [1, 4, 5, 6, 7, 8, 9, 10, 11, 12, 13, 14, 25, 29, 32, 37, 100, 101, 103, 104, 105, 106, 108, 109, 122, 123, 136, 151] r x) hw ⟨jw46.set rfl ((zI.lit (a := 0) (b := 0) (c := 0) (by decide)).w (c := 0) (d := 1) (by decide)), fw46.set rfl⟩ (fun r4 er4 hw pr4 => ?_)
        have hE := zletE er4 hE
        refine lv_iinc (v := w46_1 + 1) (lv' := [(1, .int (w46_1 + 1)), (0, .ref h0)]) hx hb dX12_land_58 hl (k := 1) rfl (rfl) (by decide) rfl (fun ls hl => ?_)
        have k5 : zI 1 4 (w46_1 + 1) := zI.add k3 (zI.lit (a := 1) (b := 1) (by decide)) (by decide)
        refine lv_goto (tgt := 46) hx hb dX12_land_61 (by decide) ?_
        exact ih46 (w46_1 + 1) r4 qw46 (k5.w (c := 0) (d := 4) (by decide)) pr4.1 pr4.2 (((congrFun (zs_row (k := 101) er4 (by decide)) 0).trans xz46)) hE (zI.up k3 (by decide) hm46) H locs ls hw hS (lv_sub hl [1, 0] rfl)
  intro H locs hw hS ls hl
  have hl : lv_has ls 2 [(0, .ref h0)] := hl
  have hE := hX
  unfold Gm_land at hE
  refine lv_aload_n hx hb dX12_land_0 rfl (lv_at hl 0 rfl) ?_
  refine lv_iconst (v := 0) hx hb dX12_land_1 (by decide) ?_
  refine mput (ty := .int) (v := .int 0) hx hb hts hiX12 hown hK hw hS 0 (by decide) lf129 rfl rfl (by decide +kernel) rfl rfl dX12_land_2 (zset r 100 (fun _ => (0 : Int32))) _ mWf0 (fun H locs hw hS => ?_)
  refine mgen (P := fun x => mJ B x ∧ zFr [1, 4, 5, 6, 7, 8, 9, 10, 11, 12, 13, 14, 25, 29, 32, 37, 100, 101, 103, 104, 105, 106, 108, 109, 122, 123, 136, 151] r x) hw ⟨hJ0.setc rfl (fun _ => (zI.top _)), (zFr.refl).set rfl⟩ (fun r6 er6 hw pr6 => ?_)
  have hE := zletE er6 hE
  refine lv_aload_n hx hb dX12_land_5 rfl (lv_at hl 0 rfl) ?_
  refine mcallV (As := []) (rest := []) ⟨hx, hb, hml, hown, hts⟩ (mc_readsAll l D ct h0 y B r6 q pr6.1) (wqX12_327_mc_readsAll hts ⟨Nat.le_of_ble_eq_true rfl, Nat.le_of_ble_eq_true rfl⟩) hw hS hA hK hN rfl hl.1 rfl (Nat.le_of_ble_eq_true rfl) dX12_land_6 9 rfl (fun u7 H locs pu7 hw hS => ?_)
  obtain ⟨v8, r9, q10⟩ := u7
  have hv8 : zI 0 1 v8 := pu7.1
  have ju7 : mJ B r9 := pu7.2.1
  have fu7 : zFr [1, 4, 5, 6, 7, 8, 9, 10, 11, 12, 13, 14, 101, 103, 104, 105, 106, 108, 109, 122, 123, 136] r6 r9 := pu7.2.2.1
  have yu7_0 : ¬ v8 = 0 → mT1 r9 := pu7.2.2.2.1
  have yu7_1 : ¬ v8 = 0 → mD1 r9 := pu7.2.2.2.2.1
  have yu7_2 : ¬ v8 = 0 → mF1 r9 := pu7.2.2.2.2.2.1
  have yu7_3 : r9 101 0 = 0 := pu7.2.2.2.2.2.2.1
  have xu7 : (v8, r9, q10) = (Gm_readsAll r6 q) := pu7.2.2.2.2.2.2.2.1
  have hE := zc_vrqE xu7 hE
  have hw : zPD D A (mW ct h0 y r9 q10) H := hw
  refine zfr 9 [.int v8] rfl rfl ?_
  refine lv_if_ne (tgt := 17) hx hb dX12_land_9 (by decide) (fun c11 => ?_) (fun c11 => ?_)
  · have hE := zifnT c11 hE
    have k12 : zI 1 1 (v8) := zI.neD c11 hv8 (zI.lit (a := 0) (b := 0) (c := 0) (by decide)) (by decide)
    refine lv_aload_n hx hb dX12_land_17 rfl (lv_at hl 0 rfl) ?_
    refine mcallV (As := []) (rest := []) ⟨hx, hb, hml, hown, hts⟩ (mc_lays l D ct h0 y B r9 q10 ju7 (yu7_0 c11) (yu7_1 c11) (yu7_2 c11)) (wqX12_330_mc_lays hts ⟨Nat.le_of_ble_eq_true rfl, Nat.le_of_ble_eq_true rfl⟩) hw hS hA hK hN rfl hl.1 rfl (Nat.le_of_ble_eq_true rfl) dX12_land_18 21 rfl (fun u13 H locs pu13 hw hS => ?_)
    obtain ⟨r14, q15⟩ := u13
    have ju13 : mJ B r14 := pu13.1
    have fu13 : zFr [1, 4, 5, 6, 7, 8, 9, 12, 10, 11] r9 r14 := pu13.2.1
    have xu13 : (r14, q15) = (Gm_lays r9 q10) := pu13.2.2.1
    have hE := zc_rqE xu13 hE
    have hw : zPD D A (mW ct h0 y r14 q15) H := hw
    refine zfr 21 [] rfl rfl ?_
    refine lv_aload_n hx hb dX12_land_21 rfl (lv_at hl 0 rfl) ?_
    refine mcallV (As := []) (rest := []) ⟨hx, hb, hml, hown, hts⟩ (mc_fresh0 l D ct h0 y B r14 q15 ju13) (wqX12_333_mc_fresh0 hts ⟨Nat.le_of_ble_eq_true rfl, Nat.le_of_ble_eq_true rfl⟩) hw hS hA hK hN rfl hl.1 rfl (Nat.le_of_ble_eq_true rfl) dX12_land_22 25 rfl (fun u16 H locs pu16 hw hS => ?_)
    have ju16 : mJ B u16 := pu16.1
    have fu16 : zFr [32] r14 u16 := pu16.2.1
    have xu16 : u16 = (Gm_fresh0 r14 q15) := pu16.2.2.1
    have hE := zletE xu16 hE
    have hw : zPD D A (mW ct h0 y u16 q15) H := hw
    refine zfr 25 [] rfl rfl ?_
    refine lv_aload_n hx hb dX12_land_25 rfl (lv_at hl 0 rfl) ?_
    refine mget (v := .ref (y 25)) hx hb hts hiX12 hown hK hw 38 (by decide) lf87 rfl rfl dX12_land_26 ?_
    refine lv_iconst (v := 0) hx hb dX12_land_29 (by decide) ?_
    refine lv_iconst (v := 0) hx hb dX12_land_30 (by decide) ?_
    refine ziast hx hb hK hw hS 26 mWg25 0 (by decide) (by decide) (by decide) dX12_land_31 (mW ct h0 y (zset u16 25 (upd (u16 25) 0 (0 : Int32))) q15) mWs25 (fun H locs hw hS => ?_)
    refine mgen (P := fun x => mJ B x ∧ zFr [1, 4, 5, 6, 7, 8, 9, 10, 11, 12, 13, 14, 25, 29, 32, 37, 100, 101, 103, 104, 105, 106, 108, 109, 122, 123, 136, 151] r x) hw ⟨ju16.line0 rfl, (((pr6.2.tr fu7 rfl).tr fu13 rfl).tr fu16 rfl).set rfl⟩ (fun r18 er18 hw pr18 => ?_)
    have hE := zletE er18 hE
    refine lv_aload_n hx hb dX12_land_32 rfl (lv_at hl 0 rfl) ?_
    refine mget (v := .ref (y 29)) hx hb hts hiX12 hown hK hw 42 (by decide) lf99 rfl rfl dX12_land_33 ?_
    refine lv_iconst (v := 0) hx hb dX12_land_36 (by decide) ?_
    refine lv_iconst (v := 0) hx hb dX12_land_37 (by decide) ?_
    refine ziast hx hb hK hw hS 30 mWg29 0 (by decide) (by decide) (by decide) dX12_land_38 (mW ct h0 y (zset r18 29 (upd (r18 29) 0 (0 : Int32))) q15) mWs29 (fun H locs hw hS => ?_)
    refine mgen (P := fun x => mJ B x ∧ zFr [1, 4, 5, 6, 7, 8, 9, 10, 11, 12, 13, 14, 25, 29, 32, 37, 100, 101, 103, 104, 105, 106, 108, 109, 122, 123, 136, 151] r x) hw ⟨pr18.1.set rfl ((zI.lit (a := 0) (b := 0) (c := 0) (by decide)).w (c := 0) (d := 8) (by decide)), pr18.2.set rfl⟩ (fun r19 er19 hw pr19 => ?_)
    have hE := zletE er19 hE
    refine lv_aload_n hx hb dX12_land_39 rfl (lv_at hl 0 rfl) ?_
    refine lv_iconst (v := 0) hx hb dX12_land_40 (by decide) ?_
    refine mput (ty := .int) (v := .int 0) hx hb hts hiX12 hown hK hw hS 51 (by decide) lf336 rfl rfl (by decide +kernel) rfl rfl dX12_land_41 (zset r19 151 (fun _ => (0 : Int32))) _ mWf51 (fun H locs hw hS => ?_)
    refine mgen (P := fun x => mJ B x ∧ zFr [1, 4, 5, 6, 7, 8, 9, 10, 11, 12, 13, 14, 25, 29, 32, 37, 100, 101, 103, 104, 105, 106, 108, 109, 122, 123, 136, 151] r x) hw ⟨pr19.1.setc rfl (fun _ => ((zI.lit (a := 0) (b := 0) (c := 0) (by decide)).w (c := 0) (d := 16) (by decide))), pr19.2.set rfl⟩ (fun r20 er20 hw pr20 => ?_)
    have hE := zletE er20 hE
    refine lv_iconst (v := 0) hx hb dX12_land_44 (by decide) ?_
    refine lv_istore_n (lv' := [(1, .int 0), (0, .ref h0)]) hx hb dX12_land_45 rfl hl (by decide) rfl (fun ls hl => ?_)
    exact cut46 5 0 r20 q15 ((zI.lit (a := 0) (b := 0) (c := 0) (by decide)).w (c := 0) (d := 4) (by decide)) pr20.1 pr20.2 ((((congrFun (zs_row (k := 101) er20 (by decide)) 0).trans ((congrFun (zs_row (k := 101) er19 (by decide)) 0).trans ((congrFun (zs_row (k := 101) er18 (by decide)) 0).trans ((congrFun (fu16 101 rfl) 0).trans (congrFun (fu13 101 rfl) 0))))).trans yu7_3)) hE (zI.m0 (zI.lit (a := 0) (b := 0) (c := 0) (by decide)) (by decide)) H locs ls hw hS (lv_sub hl [1, 0] rfl)
  · have hE := zifnF c11 hE
    have k21 : zI 0 0 (v8) := zI.eqq c11 (zI.lit (a := 0) (b := 0) (c := 0) (by decide))
    refine lv_aload_n hx hb dX12_land_12 rfl (lv_at hl 0 rfl) ?_
    refine mget (v := .int (r9 109 0)) hx hb hts hiX12 hown hK hw 9 (by decide) lf165 rfl rfl dX12_land_13 (zgenE (zI.top _) (fun v22 ev22 _ => ?_))
    have hE := zletE ev22 hE
    exact ziretQ hQ hx hb hr rfl hlocks (v22, r9, q10) rfl ⟨(zI.top _), ju7, (pr6.2.tr fu7 rfl), (show r9 101 0 = 0 from yu7_3), (hE.symm.trans hX), trivial⟩ hw hS dX12_land_16
