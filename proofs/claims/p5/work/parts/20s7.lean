set_option maxHeartbeats 4000000 in
set_option maxRecDepth 100000 in
theorem mc_isWord (l : Launch) (D : va_G) (ct : Nat → ClassId) (h0 : Nat) (y : Nat → Nat) (B : Int) (a1 : Int64) (r : zRr) (q : zRq) (hJ0 : mJ B r) : zC l yX12_isWord (.code yX12_isWord cX12_isWord 3 (some .boolean) :: wsL_law0) ({ frames := 1, cells := 0, slots := 0, locals := 80 }) D ct [] [.ref h0, .long a1] (mW ct h0 y r q) (S := Int32) (fun u => some (.int u)) (fun u => zI 0 1 u ∧ (¬ u = 0 → zI 1 1 (r 106 0)) ∧ u = (Gm_isWord a1 r q) ∧ True) (fun u => mW ct h0 y r q) 0 0 := by
  refine zofQ cX12_isWord 3 (some .boolean) (by decide) rfl (Nat.le_of_ble_eq_true rfl) ?_
  intro p e s m below meth c A a9 Q ha9 hx hb hr hml hts hown hlocks hname hK hA hZ hN hQ
  have hown : s.vm.findClass RX12 = some m.cls := hown
  have hiX12 : ∀ w ∈ wsX120, w ∈ .code yX12_isWord cX12_isWord 3 (some .boolean) :: wsL_law0 := fun _ h => ki (zs_wsX120 _ h)
  have lf147 := hts (.fieldLink RX12 147 "BeardPassModel" "word" "J") (ki (zr22 18 rfl))
  have lf154 := hts (.fieldLink RX12 154 "BeardPassModel" "token" "I") (ki (zr22 0 rfl))
  obtain ⟨X, hX⟩ : ∃ X, X = (Gm_isWord a1 r q) := ⟨_, rfl⟩
  intro H locs hw hS ls hl
  have hl : lv_has ls 3 [(0, .ref h0), (1, .long a1)] := hl
  have hE := hX
  unfold Gm_isWord at hE
  refine lv_aload_n hx hb dX12_isWord_0 rfl (lv_at hl 0 rfl) ?_
  refine mget (v := .int (r 106 0)) hx hb hts hiX12 hown hK hw 6 (by decide) lf154 rfl rfl dX12_isWord_1 ?_
  refine lv_iconst (v := 1) hx hb dX12_isWord_4 (by decide) ?_
  refine lv_icmp_ne (tgt := 21) hx hb dX12_isWord_5 (by decide) (fun c1 => ?_) (fun c1 => ?_)
  · have hE := zifnT c1 hE
    refine lv_iconst (v := 0) hx hb dX12_isWord_21 (by decide) ?_
    exact ziretQ hQ hx hb hr rfl hlocks 0 rfl ⟨((zI.lit (a := 0) (b := 0) (c := 0) (by decide)).w (c := 0) (d := 1) (by decide)), (fun h => absurd rfl h), (hE.symm.trans hX), trivial⟩ hw hS dX12_isWord_22
  · have hE := zifnF c1 hE
    have k2 : zI 1 1 (r 106 0) := zI.eqq c1 (zI.lit (a := 1) (b := 1) (c := 1) (by decide))
    refine lv_aload_n hx hb dX12_isWord_8 rfl (lv_at hl 0 rfl) ?_
    refine mget (v := .long (q 107 0)) hx hb hts hiX12 hown hK hw 7 (by decide) lf147 rfl rfl dX12_isWord_9 (zgenLE (fun v3 ev3 => ?_))
    have hE := zletE ev3 hE
    refine lv_lload_n hx hb dX12_isWord_12 rfl (lv_at hl 1 rfl) ?_
    refine W.lcmp hx hb dX12_isWord_13 (zgenE (zI.top _) (fun v4 ev4 _ => ?_))
    have hE := zletE ev4 hE
    refine lv_if_ne (tgt := 21) hx hb dX12_isWord_14 (by decide) (fun c5 => ?_) (fun c5 => ?_)
    · have hE := zifnT c5 hE
      refine lv_iconst (v := 0) hx hb dX12_isWord_21 (by decide) ?_
      exact ziretQ hQ hx hb hr rfl hlocks 0 rfl ⟨((zI.lit (a := 0) (b := 0) (c := 0) (by decide)).w (c := 0) (d := 1) (by decide)), (fun h => absurd rfl h), (hE.symm.trans hX), trivial⟩ hw hS dX12_isWord_22
    · have hE := zifnF c5 hE
      have k6 : zI 0 0 (v4) := zI.eqq c5 (zI.lit (a := 0) (b := 0) (c := 0) (by decide))
      refine lv_iconst (v := 1) hx hb dX12_isWord_17 (by decide) ?_
      refine lv_goto (tgt := 22) hx hb dX12_isWord_18 (by decide) ?_
      exact ziretQ hQ hx hb hr rfl hlocks 1 rfl ⟨((zI.lit (a := 1) (b := 1) (c := 1) (by decide)).w (c := 0) (d := 1) (by decide)), (fun _ => k2), (hE.symm.trans hX), trivial⟩ hw hS dX12_isWord_22

set_option maxHeartbeats 4000000 in
set_option maxRecDepth 100000 in
theorem mc_isSign (l : Launch) (D : va_G) (ct : Nat → ClassId) (h0 : Nat) (y : Nat → Nat) (B : Int) (a1 : Int32) (r : zRr) (q : zRq) (hJ0 : mJ B r) (x1 : mP r) : zC l yX12_isSign (.code yX12_isSign cX12_isSign 2 (some .boolean) :: wsL_law0) ({ frames := 1, cells := 0, slots := 0, locals := 80 }) D ct [] [.ref h0, .int a1] (mW ct h0 y r q) (S := Int32) (fun u => some (.int u)) (fun u => zI 0 1 u ∧ (¬ u = 0 → zI 3 3 (r 106 0)) ∧ u = (Gm_isSign a1 r q) ∧ True) (fun u => mW ct h0 y r q) 0 0 := by
  refine zofQ cX12_isSign 2 (some .boolean) (by decide) rfl (Nat.le_of_ble_eq_true rfl) ?_
  intro p e s m below meth c A a9 Q ha9 hx hb hr hml hts hown hlocks hname hK hA hZ hN hQ
  have hown : s.vm.findClass RX12 = some m.cls := hown
  have hiX12 : ∀ w ∈ wsX120, w ∈ .code yX12_isSign cX12_isSign 2 (some .boolean) :: wsL_law0 := fun _ h => ki (zs_wsX120 _ h)
  have lf7 := hts (.fieldLink RX12 7 "BeardPassModel" "tape" "[I") (ki (zr7 19 rfl))
  have lf144 := hts (.fieldLink RX12 144 "BeardPassModel" "begin" "I") (ki (zr22 17 rfl))
  have lf154 := hts (.fieldLink RX12 154 "BeardPassModel" "token" "I") (ki (zr22 0 rfl))
  obtain ⟨X, hX⟩ : ∃ X, X = (Gm_isSign a1 r q) := ⟨_, rfl⟩
  intro H locs hw hS ls hl
  have hl : lv_has ls 2 [(0, .ref h0), (1, .int a1)] := hl
  have hE := hX
  unfold Gm_isSign at hE
  refine lv_aload_n hx hb dX12_isSign_0 rfl (lv_at hl 0 rfl) ?_
  refine mget (v := .int (r 106 0)) hx hb hts hiX12 hown hK hw 6 (by decide) lf154 rfl rfl dX12_isSign_1 ?_
  refine lv_iconst (v := 3) hx hb dX12_isSign_4 (by decide) ?_
  refine lv_icmp_ne (tgt := 25) hx hb dX12_isSign_5 (by decide) (fun c1 => ?_) (fun c1 => ?_)
  · have hE := zifnT c1 hE
    refine lv_iconst (v := 0) hx hb dX12_isSign_25 (by decide) ?_
    exact ziretQ hQ hx hb hr rfl hlocks 0 rfl ⟨((zI.lit (a := 0) (b := 0) (c := 0) (by decide)).w (c := 0) (d := 1) (by decide)), (fun h => absurd rfl h), (hE.symm.trans hX), trivial⟩ hw hS dX12_isSign_26
  · have hE := zifnF c1 hE
    have k2 : zI 3 3 (r 106 0) := zI.eqq c1 (zI.lit (a := 3) (b := 3) (c := 3) (by decide))
    refine lv_aload_n hx hb dX12_isSign_8 rfl (lv_at hl 0 rfl) ?_
    refine mget (v := .ref (y 0)) hx hb hts hiX12 hown hK hw 2 (by decide) lf7 rfl rfl dX12_isSign_9 ?_
    refine lv_aload_n hx hb dX12_isSign_12 rfl (lv_at hl 0 rfl) ?_
    refine mget (v := .int (r 105 0)) hx hb hts hiX12 hown hK hw 5 (by decide) lf144 rfl rfl dX12_isSign_13 ?_
    have k3 : zI 0 999 (r 105 0) := x1.b hJ0.i (tkne k2 (by decide))
    refine miald hx hb hK hw 1 mWg0 k3 (by decide) dX12_isSign_16 (zgenE (zI.top _) (fun v4 ev4 _ => ?_))
    have hE := zletE ev4 hE
    refine lv_iload_n hx hb dX12_isSign_17 rfl (lv_at hl 1 rfl) ?_
    refine lv_icmp_ne (tgt := 25) hx hb dX12_isSign_18 (by decide) (fun c5 => ?_) (fun c5 => ?_)
    · have hE := zifnT c5 hE
      refine lv_iconst (v := 0) hx hb dX12_isSign_25 (by decide) ?_
      exact ziretQ hQ hx hb hr rfl hlocks 0 rfl ⟨((zI.lit (a := 0) (b := 0) (c := 0) (by decide)).w (c := 0) (d := 1) (by decide)), (fun h => absurd rfl h), (hE.symm.trans hX), trivial⟩ hw hS dX12_isSign_26
    · have hE := zifnF c5 hE
      refine lv_iconst (v := 1) hx hb dX12_isSign_21 (by decide) ?_
      refine lv_goto (tgt := 26) hx hb dX12_isSign_22 (by decide) ?_
      exact ziretQ hQ hx hb hr rfl hlocks 1 rfl ⟨((zI.lit (a := 1) (b := 1) (c := 1) (by decide)).w (c := 0) (d := 1) (by decide)), (fun _ => k2), (hE.symm.trans hX), trivial⟩ hw hS dX12_isSign_26

set_option maxHeartbeats 4000000 in
set_option maxRecDepth 100000 in
theorem mc_fails (l : Launch) (D : va_G) (ct : Nat → ClassId) (h0 : Nat) (y : Nat → Nat) (B : Int) (a1 : Int32) (r : zRr) (q : zRq) (g1 : zI 1 5 a1) (hJ0 : mJ B r) : zC l yX12_fails (.code yX12_fails cX12_fails 2 (some .boolean) :: wsL_law0) ({ frames := 1, cells := 0, slots := 0, locals := 80 }) D ct [] [.ref h0, .int a1] (mW ct h0 y r q) (S := Int32 × zRr) (fun u => some (.int u.1)) (fun u => zI 0 0 u.1 ∧ mJ B u.2 ∧ zFr [109] r u.2 ∧ u = (Gm_fails a1 r q) ∧ True) (fun u => mW ct h0 y u.2 q) 0 0 := by
  refine zofQ cX12_fails 2 (some .boolean) (by decide) rfl (Nat.le_of_ble_eq_true rfl) ?_
  intro p e s m below meth c A a9 Q ha9 hx hb hr hml hts hown hlocks hname hK hA hZ hN hQ
  have hown : s.vm.findClass RX12 = some m.cls := hown
  have hiX12 : ∀ w ∈ wsX120, w ∈ .code yX12_fails cX12_fails 2 (some .boolean) :: wsL_law0 := fun _ h => ki (zs_wsX120 _ h)
  have lf144 := hts (.fieldLink RX12 144 "BeardPassModel" "begin" "I") (ki (zr22 17 rfl))
  have lf165 := hts (.fieldLink RX12 165 "BeardPassModel" "wrong" "I") (ki (zr21 16 rfl))
  obtain ⟨X, hX⟩ : ∃ X, X = (Gm_fails a1 r q) := ⟨_, rfl⟩
  intro H locs hw hS ls hl
  have hl : lv_has ls 2 [(0, .ref h0), (1, .int a1)] := hl
  have hE := hX
  unfold Gm_fails at hE
  refine lv_aload_n hx hb dX12_fails_0 rfl (lv_at hl 0 rfl) ?_
  refine lv_iload_n hx hb dX12_fails_1 rfl (lv_at hl 1 rfl) ?_
  refine lv_bipush (v := 16) hx hb dX12_fails_2 (by decide) ?_
  refine lv_aload_n hx hb dX12_fails_4 rfl (lv_at hl 0 rfl) ?_
  refine mget (v := .int (r 105 0)) hx hb hts hiX12 hown hK hw 5 (by decide) lf144 rfl rfl dX12_fails_5 (zgenE (lo := 0) (hi := 1000) ((show zI 0 1000 (r 105 0) from hJ0.i 105 0)) (fun v1 ev1 hv1 => ?_))
  have hE := zletE ev1 hE
  refine lv_imul hx hb dX12_fails_8 (zgenE (lo := 0) (hi := 16000) (zI.mul (zI.lit (a := 16) (b := 16) (c := 16) (by decide)) hv1 (by decide)) (fun v2 ev2 hv2 => ?_))
  have hE := zletE ev2 hE
  refine lv_iadd hx hb dX12_fails_9 (zgenE (lo := 1) (hi := 16005) (zI.add g1 hv2 (by decide)) (fun v3 ev3 hv3 => ?_))
  have hE := zletE ev3 hE
  refine mput (ty := .int) (v := .int v3) hx hb hts hiX12 hown hK hw hS 9 (by decide) lf165 rfl rfl (by decide +kernel) rfl rfl dX12_fails_10 (zset r 109 (fun _ => v3)) _ mWf9 (fun H locs hw hS => ?_)
  refine mgen (P := fun x => mJ B x ∧ zFr [109] r x) hw ⟨hJ0.setc rfl (fun _ => (zI.top _)), (zFr.refl).set rfl⟩ (fun r4 er4 hw pr4 => ?_)
  have hE := zletE er4 hE
  refine lv_iconst (v := 0) hx hb dX12_fails_13 (by decide) ?_
  exact ziretQ hQ hx hb hr rfl hlocks (0, r4) rfl ⟨(zI.lit (a := 0) (b := 0) (c := 0) (by decide)), pr4.1, pr4.2, (hE.symm.trans hX), trivial⟩ hw hS dX12_fails_14

set_option maxHeartbeats 4000000 in
set_option maxRecDepth 100000 in
theorem mc_fact (l : Launch) (D : va_G) (ct : Nat → ClassId) (h0 : Nat) (y : Nat → Nat) (B : Int) (r : zRr) (q : zRq) (hJ0 : mJ B r) : zC l yX12_fact (.code yX12_fact cX12_fact 1 (some .int) :: wsL_law0) ({ frames := 1, cells := 0, slots := 0, locals := 80 }) D ct [] [.ref h0] (mW ct h0 y r q) (S := Int32) (fun u => some (.int u)) (fun u => zI 0 4 u ∧ (¬ u = 0 → zI 1 1 (r 106 0)) ∧ u = (Gm_fact r q) ∧ True) (fun u => mW ct h0 y r q) 0 0 := by
  refine zofQ cX12_fact 1 (some .int) (by decide) rfl (Nat.le_of_ble_eq_true rfl) ?_
  intro p e s m below meth c A a9 Q ha9 hx hb hr hml hts hown hlocks hname hK hA hZ hN hQ
  have hown : s.vm.findClass RX12 = some m.cls := hown
  have hiX12 : ∀ w ∈ wsX120, w ∈ .code yX12_fact cX12_fact 1 (some .int) :: wsL_law0 := fun _ h => ki (zs_wsX120 _ h)
  have lf147 := hts (.fieldLink RX12 147 "BeardPassModel" "word" "J") (ki (zr22 18 rfl))
  have lf154 := hts (.fieldLink RX12 154 "BeardPassModel" "token" "I") (ki (zr22 0 rfl))
  obtain ⟨X, hX⟩ : ∃ X, X = (Gm_fact r q) := ⟨_, rfl⟩
  intro H locs hw hS ls hl
  have hl : lv_has ls 1 [(0, .ref h0)] := hl
  have hE := hX
  unfold Gm_fact at hE
  refine lv_aload_n hx hb dX12_fact_0 rfl (lv_at hl 0 rfl) ?_
  refine mget (v := .int (r 106 0)) hx hb hts hiX12 hown hK hw 6 (by decide) lf154 rfl rfl dX12_fact_1 ?_
  refine lv_iconst (v := 1) hx hb dX12_fact_4 (by decide) ?_
  refine lv_icmp_eq (tgt := 10) hx hb dX12_fact_5 (by decide) (fun c1 => ?_) (fun c1 => ?_)
  · have hE := zifT c1 hE
    have k2 : zI 1 1 (r 106 0) := zI.eqq c1 (zI.lit (a := 1) (b := 1) (c := 1) (by decide))
    refine lv_aload_n hx hb dX12_fact_10 rfl (lv_at hl 0 rfl) ?_
    refine mget (v := .long (q 107 0)) hx hb hts hiX12 hown hK hw 7 (by decide) lf147 rfl rfl dX12_fact_11 (zgenLE (fun v3 ev3 => ?_))
    have hE := zletE ev3 hE
    refine lv_ldc2 hx hb hown (hts (.constantLong RX12 171 247516) (ki (zr27 2 rfl))) dX12_fact_14 ?_
    refine W.lcmp hx hb dX12_fact_17 (zgenE (zI.top _) (fun v4 ev4 _ => ?_))
    have hE := zletE ev4 hE
    refine lv_if_ne (tgt := 23) hx hb dX12_fact_18 (by decide) (fun c5 => ?_) (fun c5 => ?_)
    · have hE := zifnT c5 hE
      refine lv_aload_n hx hb dX12_fact_23 rfl (lv_at hl 0 rfl) ?_
      refine mget (v := .long (q 107 0)) hx hb hts hiX12 hown hK hw 7 (by decide) lf147 rfl rfl dX12_fact_24 (zgenLE (fun v6 ev6 => ?_))
      have hE := zletE ev6 hE
      refine lv_ldc2 hx hb hown (hts (.constantLong RX12 173 3217595) (ki (zr27 3 rfl))) dX12_fact_27 ?_
      refine W.lcmp hx hb dX12_fact_30 (zgenE (zI.top _) (fun v7 ev7 _ => ?_))
      have hE := zletE ev7 hE
      refine lv_if_ne (tgt := 36) hx hb dX12_fact_31 (by decide) (fun c8 => ?_) (fun c8 => ?_)
      · have hE := zifnT c8 hE
        refine lv_aload_n hx hb dX12_fact_36 rfl (lv_at hl 0 rfl) ?_
        refine mget (v := .long (q 107 0)) hx hb hts hiX12 hown hK hw 7 (by decide) lf147 rfl rfl dX12_fact_37 (zgenLE (fun v9 ev9 => ?_))
        have hE := zletE ev9 hE
        refine lv_ldc2 hx hb hown (hts (.constantLong RX12 175 913576) (ki (zr27 4 rfl))) dX12_fact_40 ?_
        refine W.lcmp hx hb dX12_fact_43 (zgenE (zI.top _) (fun v10 ev10 _ => ?_))
        have hE := zletE ev10 hE
        refine lv_if_ne (tgt := 51) hx hb dX12_fact_44 (by decide) (fun c11 => ?_) (fun c11 => ?_)
        · have hE := zifnT c11 hE
          refine lv_aload_n hx hb dX12_fact_51 rfl (lv_at hl 0 rfl) ?_
          refine mget (v := .long (q 107 0)) hx hb hts hiX12 hown hK hw 7 (by decide) lf147 rfl rfl dX12_fact_52 (zgenLE (fun v12 ev12 => ?_))
          have hE := zletE ev12 hE
          refine lv_ldc2 hx hb hown (hts (.constantLong RX12 177 12325519) (ki (zr27 5 rfl))) dX12_fact_55 ?_
          refine W.lcmp hx hb dX12_fact_58 (zgenE (zI.top _) (fun v13 ev13 _ => ?_))
          have hE := zletE ev13 hE
          refine lv_if_ne (tgt := 66) hx hb dX12_fact_59 (by decide) (fun c14 => ?_) (fun c14 => ?_)
          · have hE := zifnT c14 hE
            refine lv_iconst (v := 0) hx hb dX12_fact_66 (by decide) ?_
            exact ziretQ hQ hx hb hr rfl hlocks 0 rfl ⟨((zI.lit (a := 0) (b := 0) (c := 0) (by decide)).w (c := 0) (d := 4) (by decide)), (fun h => absurd rfl h), (hE.symm.trans hX), trivial⟩ hw hS dX12_fact_67
          · have hE := zifnF c14 hE
            have k15 : zI 0 0 (v13) := zI.eqq c14 (zI.lit (a := 0) (b := 0) (c := 0) (by decide))
            refine lv_iconst (v := 4) hx hb dX12_fact_62 (by decide) ?_
            refine lv_goto (tgt := 67) hx hb dX12_fact_63 (by decide) ?_
            exact ziretQ hQ hx hb hr rfl hlocks 4 rfl ⟨((zI.lit (a := 4) (b := 4) (c := 4) (by decide)).w (c := 0) (d := 4) (by decide)), (fun _ => k2), (hE.symm.trans hX), trivial⟩ hw hS dX12_fact_67
        · have hE := zifnF c11 hE
          have k16 : zI 0 0 (v10) := zI.eqq c11 (zI.lit (a := 0) (b := 0) (c := 0) (by decide))
          refine lv_iconst (v := 3) hx hb dX12_fact_47 (by decide) ?_
          refine lv_goto (tgt := 67) hx hb dX12_fact_48 (by decide) ?_
          exact ziretQ hQ hx hb hr rfl hlocks 3 rfl ⟨((zI.lit (a := 3) (b := 3) (c := 3) (by decide)).w (c := 0) (d := 4) (by decide)), (fun _ => k2), (hE.symm.trans hX), trivial⟩ hw hS dX12_fact_67
      · have hE := zifnF c8 hE
        have k17 : zI 0 0 (v7) := zI.eqq c8 (zI.lit (a := 0) (b := 0) (c := 0) (by decide))
        refine lv_iconst (v := 2) hx hb dX12_fact_34 (by decide) ?_
        exact ziretQ hQ hx hb hr rfl hlocks 2 rfl ⟨((zI.lit (a := 2) (b := 2) (c := 2) (by decide)).w (c := 0) (d := 4) (by decide)), (fun _ => k2), (hE.symm.trans hX), trivial⟩ hw hS dX12_fact_35
    · have hE := zifnF c5 hE
      have k18 : zI 0 0 (v4) := zI.eqq c5 (zI.lit (a := 0) (b := 0) (c := 0) (by decide))
      refine lv_iconst (v := 1) hx hb dX12_fact_21 (by decide) ?_
      exact ziretQ hQ hx hb hr rfl hlocks 1 rfl ⟨((zI.lit (a := 1) (b := 1) (c := 1) (by decide)).w (c := 0) (d := 4) (by decide)), (fun _ => k2), (hE.symm.trans hX), trivial⟩ hw hS dX12_fact_22
  · have hE := zifF c1 hE
    refine lv_iconst (v := 0) hx hb dX12_fact_8 (by decide) ?_
    exact ziretQ hQ hx hb hr rfl hlocks 0 rfl ⟨((zI.lit (a := 0) (b := 0) (c := 0) (by decide)).w (c := 0) (d := 4) (by decide)), (fun h => absurd rfl h), (hE.symm.trans hX), trivial⟩ hw hS dX12_fact_9

set_option maxHeartbeats 4000000 in
set_option maxRecDepth 100000 in
theorem mc_isKept (l : Launch) (D : va_G) (ct : Nat → ClassId) (h0 : Nat) (y : Nat → Nat) (B : Int) (r : zRr) (q : zRq) (hJ0 : mJ B r) : zC l yX12_isKept (.code yX12_isKept cX12_isKept 1 (some .boolean) :: wsL_law0) ({ frames := 1, cells := 0, slots := 0, locals := 80 }) D ct [] [.ref h0] (mW ct h0 y r q) (S := Int32) (fun u => some (.int u)) (fun u => zI 0 1 u ∧ (u = 0 → zI 1 1 (r 106 0)) ∧ u = (Gm_isKept r q) ∧ True) (fun u => mW ct h0 y r q) 0 0 := by
  refine zofQ cX12_isKept 1 (some .boolean) (by decide) rfl (Nat.le_of_ble_eq_true rfl) ?_
  intro p e s m below meth c A a9 Q ha9 hx hb hr hml hts hown hlocks hname hK hA hZ hN hQ
  have hown : s.vm.findClass RX12 = some m.cls := hown
  have hiX12 : ∀ w ∈ wsX120, w ∈ .code yX12_isKept cX12_isKept 1 (some .boolean) :: wsL_law0 := fun _ h => ki (zs_wsX120 _ h)
  have lf147 := hts (.fieldLink RX12 147 "BeardPassModel" "word" "J") (ki (zr22 18 rfl))
  have lf154 := hts (.fieldLink RX12 154 "BeardPassModel" "token" "I") (ki (zr22 0 rfl))
  obtain ⟨X, hX⟩ : ∃ X, X = (Gm_isKept r q) := ⟨_, rfl⟩
  intro H locs hw hS ls hl
  have hl : lv_has ls 1 [(0, .ref h0)] := hl
  have hE := hX
  unfold Gm_isKept at hE
  refine lv_aload_n hx hb dX12_isKept_0 rfl (lv_at hl 0 rfl) ?_
  refine mget (v := .int (r 106 0)) hx hb hts hiX12 hown hK hw 6 (by decide) lf154 rfl rfl dX12_isKept_1 ?_
  refine lv_iconst (v := 1) hx hb dX12_isKept_4 (by decide) ?_
  refine lv_icmp_eq (tgt := 10) hx hb dX12_isKept_5 (by decide) (fun c1 => ?_) (fun c1 => ?_)
  · have hE := zifT c1 hE
    have k2 : zI 1 1 (r 106 0) := zI.eqq c1 (zI.lit (a := 1) (b := 1) (c := 1) (by decide))
    refine lv_aload_n hx hb dX12_isKept_10 rfl (lv_at hl 0 rfl) ?_
    refine mget (v := .long (q 107 0)) hx hb hts hiX12 hown hK hw 7 (by decide) lf147 rfl rfl dX12_isKept_11 (zgenLE (fun v3 ev3 => ?_))
    have hE := zletE ev3 hE
    refine lv_ldc2 hx hb hown (hts (.constantLong RX12 216 405230) (ki (zr22 1 rfl))) dX12_isKept_14 ?_
    refine W.lcmp hx hb dX12_isKept_17 (zgenE (zI.top _) (fun v4 ev4 _ => ?_))
    have hE := zletE ev4 hE
    refine lv_if_eq (tgt := 241) hx hb dX12_isKept_18 (by decide) (fun c5 => ?_) (fun c5 => ?_)
    · have hE := zifT c5 hE
      have k6 : zI 0 0 (v4) := zI.eqq c5 (zI.lit (a := 0) (b := 0) (c := 0) (by decide))
      refine lv_iconst (v := 1) hx hb dX12_isKept_241 (by decide) ?_
      refine lv_goto (tgt := 246) hx hb dX12_isKept_242 (by decide) ?_
      exact ziretQ hQ hx hb hr rfl hlocks 1 rfl ⟨((zI.lit (a := 1) (b := 1) (c := 1) (by decide)).w (c := 0) (d := 1) (by decide)), (fun h => absurd h (by decide)), (hE.symm.trans hX), trivial⟩ hw hS dX12_isKept_246
    · have hE := zifF c5 hE
      refine lv_aload_n hx hb dX12_isKept_21 rfl (lv_at hl 0 rfl) ?_
      refine mget (v := .long (q 107 0)) hx hb hts hiX12 hown hK hw 7 (by decide) lf147 rfl rfl dX12_isKept_22 (zgenLE (fun v7 ev7 => ?_))
      have hE := zletE ev7 hE
      refine lv_ldc2 hx hb hown (hts (.constantLong RX12 218 33850) (ki (zr23 10 rfl))) dX12_isKept_25 ?_
      refine W.lcmp hx hb dX12_isKept_28 (zgenE (zI.top _) (fun v8 ev8 _ => ?_))
      have hE := zletE ev8 hE
      refine lv_if_eq (tgt := 241) hx hb dX12_isKept_29 (by decide) (fun c9 => ?_) (fun c9 => ?_)
      · have hE := zifT c9 hE
        have k10 : zI 0 0 (v8) := zI.eqq c9 (zI.lit (a := 0) (b := 0) (c := 0) (by decide))
        refine lv_iconst (v := 1) hx hb dX12_isKept_241 (by decide) ?_
        refine lv_goto (tgt := 246) hx hb dX12_isKept_242 (by decide) ?_
        exact ziretQ hQ hx hb hr rfl hlocks 1 rfl ⟨((zI.lit (a := 1) (b := 1) (c := 1) (by decide)).w (c := 0) (d := 1) (by decide)), (fun h => absurd h (by decide)), (hE.symm.trans hX), trivial⟩ hw hS dX12_isKept_246
      · have hE := zifF c9 hE
        refine lv_aload_n hx hb dX12_isKept_32 rfl (lv_at hl 0 rfl) ?_
        refine mget (v := .long (q 107 0)) hx hb hts hiX12 hown hK hw 7 (by decide) lf147 rfl rfl dX12_isKept_33 (zgenLE (fun v11 ev11 => ?_))
        have hE := zletE ev11 hE
        refine lv_ldc2 hx hb hown (hts (.constantLong RX12 220 365260) (ki (zr22 2 rfl))) dX12_isKept_36 ?_
        refine W.lcmp hx hb dX12_isKept_39 (zgenE (zI.top _) (fun v12 ev12 _ => ?_))
        have hE := zletE ev12 hE
        refine lv_if_eq (tgt := 241) hx hb dX12_isKept_40 (by decide) (fun c13 => ?_) (fun c13 => ?_)
        · have hE := zifT c13 hE
          have k14 : zI 0 0 (v12) := zI.eqq c13 (zI.lit (a := 0) (b := 0) (c := 0) (by decide))
          refine lv_iconst (v := 1) hx hb dX12_isKept_241 (by decide) ?_
          refine lv_goto (tgt := 246) hx hb dX12_isKept_242 (by decide) ?_
          exact ziretQ hQ hx hb hr rfl hlocks 1 rfl ⟨((zI.lit (a := 1) (b := 1) (c := 1) (by decide)).w (c := 0) (d := 1) (by decide)), (fun h => absurd h (by decide)), (hE.symm.trans hX), trivial⟩ hw hS dX12_isKept_246
        · have hE := zifF c13 hE
          refine lv_aload_n hx hb dX12_isKept_43 rfl (lv_at hl 0 rfl) ?_
          refine mget (v := .long (q 107 0)) hx hb hts hiX12 hown hK hw 7 (by decide) lf147 rfl rfl dX12_isKept_44 (zgenLE (fun v15 ev15 => ?_))
          have hE := zletE ev15 hE
          refine lv_ldc2 hx hb hown (hts (.constantLong RX12 222 232608281) (ki (zr22 3 rfl))) dX12_isKept_47 ?_
          refine W.lcmp hx hb dX12_isKept_50 (zgenE (zI.top _) (fun v16 ev16 _ => ?_))
          have hE := zletE ev16 hE
          refine lv_if_eq (tgt := 241) hx hb dX12_isKept_51 (by decide) (fun c17 => ?_) (fun c17 => ?_)
          · have hE := zifT c17 hE
            have k18 : zI 0 0 (v16) := zI.eqq c17 (zI.lit (a := 0) (b := 0) (c := 0) (by decide))
            refine lv_iconst (v := 1) hx hb dX12_isKept_241 (by decide) ?_
            refine lv_goto (tgt := 246) hx hb dX12_isKept_242 (by decide) ?_
            exact ziretQ hQ hx hb hr rfl hlocks 1 rfl ⟨((zI.lit (a := 1) (b := 1) (c := 1) (by decide)).w (c := 0) (d := 1) (by decide)), (fun h => absurd h (by decide)), (hE.symm.trans hX), trivial⟩ hw hS dX12_isKept_246
          · have hE := zifF c17 hE
            refine lv_aload_n hx hb dX12_isKept_54 rfl (lv_at hl 0 rfl) ?_
            refine mget (v := .long (q 107 0)) hx hb hts hiX12 hown hK hw 7 (by decide) lf147 rfl rfl dX12_isKept_55 (zgenLE (fun v19 ev19 => ?_))
            have hE := zletE ev19 hE
            refine lv_ldc2 hx hb hown (hts (.constantLong RX12 224 47) (ki (zr24 1 rfl))) dX12_isKept_58 ?_
            refine W.lcmp hx hb dX12_isKept_61 (zgenE (zI.top _) (fun v20 ev20 _ => ?_))
            have hE := zletE ev20 hE
            refine lv_if_eq (tgt := 241) hx hb dX12_isKept_62 (by decide) (fun c21 => ?_) (fun c21 => ?_)
            · have hE := zifT c21 hE
              have k22 : zI 0 0 (v20) := zI.eqq c21 (zI.lit (a := 0) (b := 0) (c := 0) (by decide))
              refine lv_iconst (v := 1) hx hb dX12_isKept_241 (by decide) ?_
              refine lv_goto (tgt := 246) hx hb dX12_isKept_242 (by decide) ?_
              exact ziretQ hQ hx hb hr rfl hlocks 1 rfl ⟨((zI.lit (a := 1) (b := 1) (c := 1) (by decide)).w (c := 0) (d := 1) (by decide)), (fun h => absurd h (by decide)), (hE.symm.trans hX), trivial⟩ hw hS dX12_isKept_246
            · have hE := zifF c21 hE
              refine lv_aload_n hx hb dX12_isKept_65 rfl (lv_at hl 0 rfl) ?_
              refine mget (v := .long (q 107 0)) hx hb hts hiX12 hown hK hw 7 (by decide) lf147 rfl rfl dX12_isKept_66 (zgenLE (fun v23 ev23 => ?_))
              have hE := zletE ev23 hE
              refine lv_ldc2 hx hb hown (hts (.constantLong RX12 226 1162516) (ki (zr24 2 rfl))) dX12_isKept_69 ?_
              refine W.lcmp hx hb dX12_isKept_72 (zgenE (zI.top _) (fun v24 ev24 _ => ?_))
              have hE := zletE ev24 hE
              refine lv_if_eq (tgt := 241) hx hb dX12_isKept_73 (by decide) (fun c25 => ?_) (fun c25 => ?_)
              · have hE := zifT c25 hE
                have k26 : zI 0 0 (v24) := zI.eqq c25 (zI.lit (a := 0) (b := 0) (c := 0) (by decide))
                refine lv_iconst (v := 1) hx hb dX12_isKept_241 (by decide) ?_
                refine lv_goto (tgt := 246) hx hb dX12_isKept_242 (by decide) ?_
                exact ziretQ hQ hx hb hr rfl hlocks 1 rfl ⟨((zI.lit (a := 1) (b := 1) (c := 1) (by decide)).w (c := 0) (d := 1) (by decide)), (fun h => absurd h (by decide)), (hE.symm.trans hX), trivial⟩ hw hS dX12_isKept_246
              · have hE := zifF c25 hE
                refine lv_aload_n hx hb dX12_isKept_76 rfl (lv_at hl 0 rfl) ?_
                refine mget (v := .long (q 107 0)) hx hb hts hiX12 hown hK hw 7 (by decide) lf147 rfl rfl dX12_isKept_77 (zgenLE (fun v27 ev27 => ?_))
                have hE := zletE ev27 hE
                refine lv_ldc2 hx hb hown (hts (.constantLong RX12 228 8930039) (ki (zr24 3 rfl))) dX12_isKept_80 ?_
                refine W.lcmp hx hb dX12_isKept_83 (zgenE (zI.top _) (fun v28 ev28 _ => ?_))
                have hE := zletE ev28 hE
                refine lv_if_eq (tgt := 241) hx hb dX12_isKept_84 (by decide) (fun c29 => ?_) (fun c29 => ?_)
                · have hE := zifT c29 hE
                  have k30 : zI 0 0 (v28) := zI.eqq c29 (zI.lit (a := 0) (b := 0) (c := 0) (by decide))
                  refine lv_iconst (v := 1) hx hb dX12_isKept_241 (by decide) ?_
                  refine lv_goto (tgt := 246) hx hb dX12_isKept_242 (by decide) ?_
                  exact ziretQ hQ hx hb hr rfl hlocks 1 rfl ⟨((zI.lit (a := 1) (b := 1) (c := 1) (by decide)).w (c := 0) (d := 1) (by decide)), (fun h => absurd h (by decide)), (hE.symm.trans hX), trivial⟩ hw hS dX12_isKept_246
                · have hE := zifF c29 hE
                  refine lv_aload_n hx hb dX12_isKept_87 rfl (lv_at hl 0 rfl) ?_
                  refine mget (v := .long (q 107 0)) hx hb hts hiX12 hown hK hw 7 (by decide) lf147 rfl rfl dX12_isKept_88 (zgenLE (fun v31 ev31 => ?_))
                  have hE := zletE ev31 hE
                  refine lv_ldc2 hx hb hown (hts (.constantLong RX12 230 4085956) (ki (zr22 4 rfl))) dX12_isKept_91 ?_
                  refine W.lcmp hx hb dX12_isKept_94 (zgenE (zI.top _) (fun v32 ev32 _ => ?_))
                  have hE := zletE ev32 hE
                  refine lv_if_eq (tgt := 241) hx hb dX12_isKept_95 (by decide) (fun c33 => ?_) (fun c33 => ?_)
                  · have hE := zifT c33 hE
                    have k34 : zI 0 0 (v32) := zI.eqq c33 (zI.lit (a := 0) (b := 0) (c := 0) (by decide))
                    refine lv_iconst (v := 1) hx hb dX12_isKept_241 (by decide) ?_
                    refine lv_goto (tgt := 246) hx hb dX12_isKept_242 (by decide) ?_
                    exact ziretQ hQ hx hb hr rfl hlocks 1 rfl ⟨((zI.lit (a := 1) (b := 1) (c := 1) (by decide)).w (c := 0) (d := 1) (by decide)), (fun h => absurd h (by decide)), (hE.symm.trans hX), trivial⟩ hw hS dX12_isKept_246
                  · have hE := zifF c33 hE
                    refine lv_aload_n hx hb dX12_isKept_98 rfl (lv_at hl 0 rfl) ?_
                    refine mget (v := .long (q 107 0)) hx hb hts hiX12 hown hK hw 7 (by decide) lf147 rfl rfl dX12_isKept_99 (zgenLE (fun v35 ev35 => ?_))
                    have hE := zletE ev35 hE
                    refine lv_ldc2 hx hb hown (hts (.constantLong RX12 232 187442) (ki (zr22 5 rfl))) dX12_isKept_102 ?_
                    refine W.lcmp hx hb dX12_isKept_105 (zgenE (zI.top _) (fun v36 ev36 _ => ?_))
                    have hE := zletE ev36 hE
                    refine lv_if_eq (tgt := 241) hx hb dX12_isKept_106 (by decide) (fun c37 => ?_) (fun c37 => ?_)
                    · have hE := zifT c37 hE
                      have k38 : zI 0 0 (v36) := zI.eqq c37 (zI.lit (a := 0) (b := 0) (c := 0) (by decide))
                      refine lv_iconst (v := 1) hx hb dX12_isKept_241 (by decide) ?_
                      refine lv_goto (tgt := 246) hx hb dX12_isKept_242 (by decide) ?_
                      exact ziretQ hQ hx hb hr rfl hlocks 1 rfl ⟨((zI.lit (a := 1) (b := 1) (c := 1) (by decide)).w (c := 0) (d := 1) (by decide)), (fun h => absurd h (by decide)), (hE.symm.trans hX), trivial⟩ hw hS dX12_isKept_246
                    · have hE := zifF c37 hE
                      refine lv_aload_n hx hb dX12_isKept_109 rfl (lv_at hl 0 rfl) ?_
                      refine mget (v := .long (q 107 0)) hx hb hts hiX12 hown hK hw 7 (by decide) lf147 rfl rfl dX12_isKept_110 (zgenLE (fun v39 ev39 => ?_))
                      have hE := zletE ev39 hE
                      refine lv_ldc2 hx hb hown (hts (.constantLong RX12 234 9665209) (ki (zr22 6 rfl))) dX12_isKept_113 ?_
                      refine W.lcmp hx hb dX12_isKept_116 (zgenE (zI.top _) (fun v40 ev40 _ => ?_))
                      have hE := zletE ev40 hE
                      refine lv_if_eq (tgt := 241) hx hb dX12_isKept_117 (by decide) (fun c41 => ?_) (fun c41 => ?_)
                      · have hE := zifT c41 hE
                        have k42 : zI 0 0 (v40) := zI.eqq c41 (zI.lit (a := 0) (b := 0) (c := 0) (by decide))
                        refine lv_iconst (v := 1) hx hb dX12_isKept_241 (by decide) ?_
                        refine lv_goto (tgt := 246) hx hb dX12_isKept_242 (by decide) ?_
                        exact ziretQ hQ hx hb hr rfl hlocks 1 rfl ⟨((zI.lit (a := 1) (b := 1) (c := 1) (by decide)).w (c := 0) (d := 1) (by decide)), (fun h => absurd h (by decide)), (hE.symm.trans hX), trivial⟩ hw hS dX12_isKept_246
                      · have hE := zifF c41 hE
                        refine lv_aload_n hx hb dX12_isKept_120 rfl (lv_at hl 0 rfl) ?_
                        refine mget (v := .long (q 107 0)) hx hb hts hiX12 hown hK hw 7 (by decide) lf147 rfl rfl dX12_isKept_121 (zgenLE (fun v43 ev43 => ?_))
                        have hE := zletE ev43 hE
                        refine lv_ldc2 hx hb hown (hts (.constantLong RX12 236 204) (ki (zr24 4 rfl))) dX12_isKept_124 ?_
                        refine W.lcmp hx hb dX12_isKept_127 (zgenE (zI.top _) (fun v44 ev44 _ => ?_))
                        have hE := zletE ev44 hE
                        refine lv_if_eq (tgt := 241) hx hb dX12_isKept_128 (by decide) (fun c45 => ?_) (fun c45 => ?_)
                        · have hE := zifT c45 hE
                          have k46 : zI 0 0 (v44) := zI.eqq c45 (zI.lit (a := 0) (b := 0) (c := 0) (by decide))
                          refine lv_iconst (v := 1) hx hb dX12_isKept_241 (by decide) ?_
                          refine lv_goto (tgt := 246) hx hb dX12_isKept_242 (by decide) ?_
                          exact ziretQ hQ hx hb hr rfl hlocks 1 rfl ⟨((zI.lit (a := 1) (b := 1) (c := 1) (by decide)).w (c := 0) (d := 1) (by decide)), (fun h => absurd h (by decide)), (hE.symm.trans hX), trivial⟩ hw hS dX12_isKept_246
                        · have hE := zifF c45 hE
                          refine lv_aload_n hx hb dX12_isKept_131 rfl (lv_at hl 0 rfl) ?_
                          refine mget (v := .long (q 107 0)) hx hb hts hiX12 hown hK hw 7 (by decide) lf147 rfl rfl dX12_isKept_132 (zgenLE (fun v47 ev47 => ?_))
                          have hE := zletE ev47 hE
                          refine lv_ldc2 hx hb hown (hts (.constantLong RX12 238 3497207) (ki (zr24 5 rfl))) dX12_isKept_135 ?_
                          refine W.lcmp hx hb dX12_isKept_138 (zgenE (zI.top _) (fun v48 ev48 _ => ?_))
                          have hE := zletE ev48 hE
                          refine lv_if_eq (tgt := 241) hx hb dX12_isKept_139 (by decide) (fun c49 => ?_) (fun c49 => ?_)
                          · have hE := zifT c49 hE
                            have k50 : zI 0 0 (v48) := zI.eqq c49 (zI.lit (a := 0) (b := 0) (c := 0) (by decide))
                            refine lv_iconst (v := 1) hx hb dX12_isKept_241 (by decide) ?_
                            refine lv_goto (tgt := 246) hx hb dX12_isKept_242 (by decide) ?_
                            exact ziretQ hQ hx hb hr rfl hlocks 1 rfl ⟨((zI.lit (a := 1) (b := 1) (c := 1) (by decide)).w (c := 0) (d := 1) (by decide)), (fun h => absurd h (by decide)), (hE.symm.trans hX), trivial⟩ hw hS dX12_isKept_246
                          · have hE := zifF c49 hE
                            refine lv_aload_n hx hb dX12_isKept_142 rfl (lv_at hl 0 rfl) ?_
                            refine mget (v := .long (q 107 0)) hx hb hts hiX12 hown hK hw 7 (by decide) lf147 rfl rfl dX12_isKept_143 (zgenLE (fun v51 ev51 => ?_))
                            have hE := zletE ev51 hE
                            refine lv_ldc2 hx hb hown (hts (.constantLong RX12 240 10256171) (ki (zr24 6 rfl))) dX12_isKept_146 ?_
                            refine W.lcmp hx hb dX12_isKept_149 (zgenE (zI.top _) (fun v52 ev52 _ => ?_))
                            have hE := zletE ev52 hE
                            refine lv_if_eq (tgt := 241) hx hb dX12_isKept_150 (by decide) (fun c53 => ?_) (fun c53 => ?_)
                            · have hE := zifT c53 hE
                              have k54 : zI 0 0 (v52) := zI.eqq c53 (zI.lit (a := 0) (b := 0) (c := 0) (by decide))
                              refine lv_iconst (v := 1) hx hb dX12_isKept_241 (by decide) ?_
                              refine lv_goto (tgt := 246) hx hb dX12_isKept_242 (by decide) ?_
                              exact ziretQ hQ hx hb hr rfl hlocks 1 rfl ⟨((zI.lit (a := 1) (b := 1) (c := 1) (by decide)).w (c := 0) (d := 1) (by decide)), (fun h => absurd h (by decide)), (hE.symm.trans hX), trivial⟩ hw hS dX12_isKept_246
                            · have hE := zifF c53 hE
                              refine lv_aload_n hx hb dX12_isKept_153 rfl (lv_at hl 0 rfl) ?_
                              refine mget (v := .long (q 107 0)) hx hb hts hiX12 hown hK hw 7 (by decide) lf147 rfl rfl dX12_isKept_154 (zgenLE (fun v55 ev55 => ?_))
                              have hE := zletE ev55 hE
                              refine lv_ldc2 hx hb hown (hts (.constantLong RX12 242 456500) (ki (zr24 7 rfl))) dX12_isKept_157 ?_
                              refine W.lcmp hx hb dX12_isKept_160 (zgenE (zI.top _) (fun v56 ev56 _ => ?_))
                              have hE := zletE ev56 hE
                              refine lv_if_eq (tgt := 241) hx hb dX12_isKept_161 (by decide) (fun c57 => ?_) (fun c57 => ?_)
                              · have hE := zifT c57 hE
                                have k58 : zI 0 0 (v56) := zI.eqq c57 (zI.lit (a := 0) (b := 0) (c := 0) (by decide))
                                refine lv_iconst (v := 1) hx hb dX12_isKept_241 (by decide) ?_
                                refine lv_goto (tgt := 246) hx hb dX12_isKept_242 (by decide) ?_
                                exact ziretQ hQ hx hb hr rfl hlocks 1 rfl ⟨((zI.lit (a := 1) (b := 1) (c := 1) (by decide)).w (c := 0) (d := 1) (by decide)), (fun h => absurd h (by decide)), (hE.symm.trans hX), trivial⟩ hw hS dX12_isKept_246
                              · have hE := zifF c57 hE
                                refine lv_aload_n hx hb dX12_isKept_164 rfl (lv_at hl 0 rfl) ?_
                                refine mget (v := .long (q 107 0)) hx hb hts hiX12 hown hK hw 7 (by decide) lf147 rfl rfl dX12_isKept_165 (zgenLE (fun v59 ev59 => ?_))
                                have hE := zletE ev59 hE
                                refine lv_ldc2 hx hb hown (hts (.constantLong RX12 244 8740238) (ki (zr24 8 rfl))) dX12_isKept_168 ?_
                                refine W.lcmp hx hb dX12_isKept_171 (zgenE (zI.top _) (fun v60 ev60 _ => ?_))
                                have hE := zletE ev60 hE
                                refine lv_if_eq (tgt := 241) hx hb dX12_isKept_172 (by decide) (fun c61 => ?_) (fun c61 => ?_)
                                · have hE := zifT c61 hE
                                  have k62 : zI 0 0 (v60) := zI.eqq c61 (zI.lit (a := 0) (b := 0) (c := 0) (by decide))
                                  refine lv_iconst (v := 1) hx hb dX12_isKept_241 (by decide) ?_
                                  refine lv_goto (tgt := 246) hx hb dX12_isKept_242 (by decide) ?_
                                  exact ziretQ hQ hx hb hr rfl hlocks 1 rfl ⟨((zI.lit (a := 1) (b := 1) (c := 1) (by decide)).w (c := 0) (d := 1) (by decide)), (fun h => absurd h (by decide)), (hE.symm.trans hX), trivial⟩ hw hS dX12_isKept_246
                                · have hE := zifF c61 hE
                                  refine lv_aload_n hx hb dX12_isKept_175 rfl (lv_at hl 0 rfl) ?_
                                  refine mget (v := .long (q 107 0)) hx hb hts hiX12 hown hK hw 7 (by decide) lf147 rfl rfl dX12_isKept_176 (zgenLE (fun v63 ev63 => ?_))
                                  have hE := zletE ev63 hE
                                  refine lv_ldc2 hx hb hown (hts (.constantLong RX12 246 279844694) (ki (zr24 9 rfl))) dX12_isKept_179 ?_
                                  refine W.lcmp hx hb dX12_isKept_182 (zgenE (zI.top _) (fun v64 ev64 _ => ?_))
                                  have hE := zletE ev64 hE
                                  refine lv_if_eq (tgt := 241) hx hb dX12_isKept_183 (by decide) (fun c65 => ?_) (fun c65 => ?_)
                                  · have hE := zifT c65 hE
                                    have k66 : zI 0 0 (v64) := zI.eqq c65 (zI.lit (a := 0) (b := 0) (c := 0) (by decide))
                                    refine lv_iconst (v := 1) hx hb dX12_isKept_241 (by decide) ?_
                                    refine lv_goto (tgt := 246) hx hb dX12_isKept_242 (by decide) ?_
                                    exact ziretQ hQ hx hb hr rfl hlocks 1 rfl ⟨((zI.lit (a := 1) (b := 1) (c := 1) (by decide)).w (c := 0) (d := 1) (by decide)), (fun h => absurd h (by decide)), (hE.symm.trans hX), trivial⟩ hw hS dX12_isKept_246
                                  · have hE := zifF c65 hE
                                    refine lv_aload_n hx hb dX12_isKept_186 rfl (lv_at hl 0 rfl) ?_
                                    refine mget (v := .long (q 107 0)) hx hb hts hiX12 hown hK hw 7 (by decide) lf147 rfl rfl dX12_isKept_187 (zgenLE (fun v67 ev67 => ?_))
                                    have hE := zletE ev67 hE
                                    refine lv_ldc2 hx hb hown (hts (.constantLong RX12 248 33861013) (ki (zr24 10 rfl))) dX12_isKept_190 ?_
                                    refine W.lcmp hx hb dX12_isKept_193 (zgenE (zI.top _) (fun v68 ev68 _ => ?_))
                                    have hE := zletE ev68 hE
                                    refine lv_if_eq (tgt := 241) hx hb dX12_isKept_194 (by decide) (fun c69 => ?_) (fun c69 => ?_)
                                    · have hE := zifT c69 hE
                                      have k70 : zI 0 0 (v68) := zI.eqq c69 (zI.lit (a := 0) (b := 0) (c := 0) (by decide))
                                      refine lv_iconst (v := 1) hx hb dX12_isKept_241 (by decide) ?_
                                      refine lv_goto (tgt := 246) hx hb dX12_isKept_242 (by decide) ?_
                                      exact ziretQ hQ hx hb hr rfl hlocks 1 rfl ⟨((zI.lit (a := 1) (b := 1) (c := 1) (by decide)).w (c := 0) (d := 1) (by decide)), (fun h => absurd h (by decide)), (hE.symm.trans hX), trivial⟩ hw hS dX12_isKept_246
                                    · have hE := zifF c69 hE
                                      refine lv_aload_n hx hb dX12_isKept_197 rfl (lv_at hl 0 rfl) ?_
                                      refine mget (v := .long (q 107 0)) hx hb hts hiX12 hown hK hw 7 (by decide) lf147 rfl rfl dX12_isKept_198 (zgenLE (fun v71 ev71 => ?_))
                                      have hE := zletE ev71 hE
                                      refine lv_ldc2 hx hb hown (hts (.constantLong RX12 250 151063) (ki (zr24 11 rfl))) dX12_isKept_201 ?_
                                      refine W.lcmp hx hb dX12_isKept_204 (zgenE (zI.top _) (fun v72 ev72 _ => ?_))
                                      have hE := zletE ev72 hE
                                      refine lv_if_eq (tgt := 241) hx hb dX12_isKept_205 (by decide) (fun c73 => ?_) (fun c73 => ?_)
                                      · have hE := zifT c73 hE
                                        have k74 : zI 0 0 (v72) := zI.eqq c73 (zI.lit (a := 0) (b := 0) (c := 0) (by decide))
                                        refine lv_iconst (v := 1) hx hb dX12_isKept_241 (by decide) ?_
                                        refine lv_goto (tgt := 246) hx hb dX12_isKept_242 (by decide) ?_
                                        exact ziretQ hQ hx hb hr rfl hlocks 1 rfl ⟨((zI.lit (a := 1) (b := 1) (c := 1) (by decide)).w (c := 0) (d := 1) (by decide)), (fun h => absurd h (by decide)), (hE.symm.trans hX), trivial⟩ hw hS dX12_isKept_246
                                      · have hE := zifF c73 hE
                                        refine lv_aload_n hx hb dX12_isKept_208 rfl (lv_at hl 0 rfl) ?_
                                        refine mget (v := .long (q 107 0)) hx hb hts hiX12 hown hK hw 7 (by decide) lf147 rfl rfl dX12_isKept_209 (zgenLE (fun v75 ev75 => ?_))
                                        have hE := zletE ev75 hE
                                        refine lv_ldc2 hx hb hown (hts (.constantLong RX12 183 10631) (ki (zr24 12 rfl))) dX12_isKept_212 ?_
                                        refine W.lcmp hx hb dX12_isKept_215 (zgenE (zI.top _) (fun v76 ev76 _ => ?_))
                                        have hE := zletE ev76 hE
                                        refine lv_if_eq (tgt := 241) hx hb dX12_isKept_216 (by decide) (fun c77 => ?_) (fun c77 => ?_)
                                        · have hE := zifT c77 hE
                                          have k78 : zI 0 0 (v76) := zI.eqq c77 (zI.lit (a := 0) (b := 0) (c := 0) (by decide))
                                          refine lv_iconst (v := 1) hx hb dX12_isKept_241 (by decide) ?_
                                          refine lv_goto (tgt := 246) hx hb dX12_isKept_242 (by decide) ?_
                                          exact ziretQ hQ hx hb hr rfl hlocks 1 rfl ⟨((zI.lit (a := 1) (b := 1) (c := 1) (by decide)).w (c := 0) (d := 1) (by decide)), (fun h => absurd h (by decide)), (hE.symm.trans hX), trivial⟩ hw hS dX12_isKept_246
                                        · have hE := zifF c77 hE
                                          refine lv_aload_n hx hb dX12_isKept_219 rfl (lv_at hl 0 rfl) ?_
                                          refine mget (v := .long (q 107 0)) hx hb hts hiX12 hown hK hw 7 (by decide) lf147 rfl rfl dX12_isKept_220 (zgenLE (fun v79 ev79 => ?_))
                                          have hE := zletE ev79 hE
                                          refine lv_ldc2 hx hb hown (hts (.constantLong RX12 203 1111) (ki (zr24 13 rfl))) dX12_isKept_223 ?_
                                          refine W.lcmp hx hb dX12_isKept_226 (zgenE (zI.top _) (fun v80 ev80 _ => ?_))
                                          have hE := zletE ev80 hE
                                          refine lv_if_eq (tgt := 241) hx hb dX12_isKept_227 (by decide) (fun c81 => ?_) (fun c81 => ?_)
                                          · have hE := zifT c81 hE
                                            have k82 : zI 0 0 (v80) := zI.eqq c81 (zI.lit (a := 0) (b := 0) (c := 0) (by decide))
                                            refine lv_iconst (v := 1) hx hb dX12_isKept_241 (by decide) ?_
                                            refine lv_goto (tgt := 246) hx hb dX12_isKept_242 (by decide) ?_
                                            exact ziretQ hQ hx hb hr rfl hlocks 1 rfl ⟨((zI.lit (a := 1) (b := 1) (c := 1) (by decide)).w (c := 0) (d := 1) (by decide)), (fun h => absurd h (by decide)), (hE.symm.trans hX), trivial⟩ hw hS dX12_isKept_246
                                          · have hE := zifF c81 hE
                                            refine lv_aload_n hx hb dX12_isKept_230 rfl (lv_at hl 0 rfl) ?_
                                            refine mget (v := .long (q 107 0)) hx hb hts hiX12 hown hK hw 7 (by decide) lf147 rfl rfl dX12_isKept_231 (zgenLE (fun v83 ev83 => ?_))
                                            have hE := zletE ev83 hE
                                            refine lv_ldc2 hx hb hown (hts (.constantLong RX12 205 423) (ki (zr24 14 rfl))) dX12_isKept_234 ?_
                                            refine W.lcmp hx hb dX12_isKept_237 (zgenE (zI.top _) (fun v84 ev84 _ => ?_))
                                            have hE := zletE ev84 hE
                                            refine lv_if_ne (tgt := 245) hx hb dX12_isKept_238 (by decide) (fun c85 => ?_) (fun c85 => ?_)
                                            · have hE := zifnT c85 hE
                                              refine lv_iconst (v := 0) hx hb dX12_isKept_245 (by decide) ?_
                                              exact ziretQ hQ hx hb hr rfl hlocks 0 rfl ⟨((zI.lit (a := 0) (b := 0) (c := 0) (by decide)).w (c := 0) (d := 1) (by decide)), (fun _ => k2), (hE.symm.trans hX), trivial⟩ hw hS dX12_isKept_246
                                            · have hE := zifnF c85 hE
                                              have k86 : zI 0 0 (v84) := zI.eqq c85 (zI.lit (a := 0) (b := 0) (c := 0) (by decide))
                                              refine lv_iconst (v := 1) hx hb dX12_isKept_241 (by decide) ?_
                                              refine lv_goto (tgt := 246) hx hb dX12_isKept_242 (by decide) ?_
                                              exact ziretQ hQ hx hb hr rfl hlocks 1 rfl ⟨((zI.lit (a := 1) (b := 1) (c := 1) (by decide)).w (c := 0) (d := 1) (by decide)), (fun h => absurd h (by decide)), (hE.symm.trans hX), trivial⟩ hw hS dX12_isKept_246
  · have hE := zifF c1 hE
    refine lv_iconst (v := 1) hx hb dX12_isKept_8 (by decide) ?_
    exact ziretQ hQ hx hb hr rfl hlocks 1 rfl ⟨((zI.lit (a := 1) (b := 1) (c := 1) (by decide)).w (c := 0) (d := 1) (by decide)), (fun h => absurd h (by decide)), (hE.symm.trans hX), trivial⟩ hw hS dX12_isKept_9

set_option maxHeartbeats 4000000 in
set_option maxRecDepth 100000 in
theorem mc_townNamed0 (l : Launch) (D : va_G) (ct : Nat → ClassId) (h0 : Nat) (y : Nat → Nat) (B : Int) (r : zRr) (q : zRq) (hJ0 : mJ B r) : zC l yX12_townNamed (.code yX12_townNamed cX12_townNamed 3 (some .int) :: wsL_law0) ({ frames := 1, cells := 0, slots := 0, locals := 80 }) D ct [] [.ref h0, .int 0] (mW ct h0 y r q) (S := Int32) (fun u => some (.int u)) (fun u => zI (-1) 5 u ∧ u = (Gm_townNamed0 r q) ∧ True) (fun u => mW ct h0 y r q) 0 0 := by
  refine zofQ cX12_townNamed 3 (some .int) (by decide) rfl (Nat.le_of_ble_eq_true rfl) ?_
  intro p e s m below meth c A a9 Q ha9 hx hb hr hml hts hown hlocks hname hK hA hZ hN hQ
  have hown : s.vm.findClass RX12 = some m.cls := hown
  have hiX12 : ∀ w ∈ wsX120, w ∈ .code yX12_townNamed cX12_townNamed 3 (some .int) :: wsL_law0 := fun _ h => ki (zs_wsX120 _ h)
  have lf13 := hts (.fieldLink RX12 13 "BeardPassModel" "land" "[I") (ki (zr7 20 rfl))
  have lf16 := hts (.fieldLink RX12 16 "BeardPassModel" "townName" "[J") (ki (zr7 21 rfl))
  have lf147 := hts (.fieldLink RX12 147 "BeardPassModel" "word" "J") (ki (zr22 18 rfl))
  obtain ⟨X, hX⟩ : ∃ X, X = (Gm_townNamed0 r q) := ⟨_, rfl⟩
  have cut5 : ∀ (n5 : Nat) (w5_2 : Int32) (hw5_2 : zI 0 6 w5_2) (hE : X = Gm_townNamed0_5 r q n5 w5_2), 6 - w5_2.toInt < (n5 : Int) → zKf p l e ({ frames := 1, cells := 0, slots := 0, locals := 80 }) s m a9 below meth c Q D A 5 3 [] (mW ct h0 y r q) [(0, .ref h0), (1, .int 0), (2, .int w5_2)] := by
    intro n5
    induction n5 with
    | zero => intro w5_2 hw5_2 hE hm5; exact zI.no hw5_2 (by decide) hm5
    | succ n5 ih5 =>
      intro w5_2 hw5_2 hE hm5
      have hE : X = Bm_townNamed0_5 r q (Gm_townNamed0_5 r q n5) w5_2 := hE
      unfold Bm_townNamed0_5 at hE
      intro H locs ls hw hS hl
      refine lv_iload_n hx hb dX12_townNamed_5 rfl (lv_at hl 2 rfl) ?_
      refine lv_bipush (v := 6) hx hb dX12_townNamed_6 (by decide) ?_
      refine lv_iload_n hx hb dX12_townNamed_8 rfl (lv_at hl 1 rfl) ?_
      refine lv_imul hx hb dX12_townNamed_9 (ztop (.int 0) (congrArg Value.int (by decide)) ?_)
      refine lv_aload_n hx hb dX12_townNamed_10 rfl (lv_at hl 0 rfl) ?_
      refine mget (v := .ref (y 1)) hx hb hts hiX12 hown hK hw 10 (by decide) lf13 rfl rfl dX12_townNamed_11 ?_
      refine lv_iconst (v := 4) hx hb dX12_townNamed_14 (by decide) ?_
      refine lv_iload_n hx hb dX12_townNamed_15 rfl (lv_at hl 1 rfl) ?_
      refine lv_imul hx hb dX12_townNamed_16 (ztop (.int 0) (congrArg Value.int (by decide)) ?_)
      refine lv_iconst (v := 0) hx hb dX12_townNamed_17 (by decide) ?_
      refine lv_iadd hx hb dX12_townNamed_18 (ztop (.int 0) (congrArg Value.int (by decide)) ?_)
      refine ziald hx hb hK hw 2 mWg1 0 (by decide) (by decide) (by decide) dX12_townNamed_19 ?_
      refine lv_iadd hx hb dX12_townNamed_20 ?_
      have k1 : zI 0 6 (0 + (r 1 0)) := zI.add (zI.lit (a := 0) (b := 0) (c := 0) (by decide)) (show zI 0 6 (r 1 0) from hJ0.i 1 0) (by decide)
      refine lv_icmp_ge (tgt := 51) hx hb dX12_townNamed_21 (by decide) (fun c2 => ?_) (fun c2 => ?_)
      · have hE := zifT c2 hE
        refine lv_iconst (v := (-1)) hx hb dX12_townNamed_51 (by decide) ?_
        exact ziretQ hQ hx hb hr rfl hlocks (-1) rfl ⟨((zI.lit (a := (-1)) (b := (-1)) (c := (-1)) (by decide)).w (c := (-1)) (d := 5) (by decide)), (hE.symm.trans hX), trivial⟩ hw hS dX12_townNamed_52
      · have hE := zifF c2 hE
        have k3 : zI 0 5 (w5_2) := zI.ltU (zI.nle c2) hw5_2 k1 (by decide)
        have k4 : zI 1 6 (0 + (r 1 0)) := zI.ltD (zI.nle c2) hw5_2 k1 (by decide)
        refine lv_aload_n hx hb dX12_townNamed_24 rfl (lv_at hl 0 rfl) ?_
        refine mget (v := .ref (y 2)) hx hb hts hiX12 hown hK hw 11 (by decide) lf16 rfl rfl dX12_townNamed_25 ?_
        refine lv_iload_n hx hb dX12_townNamed_28 rfl (lv_at hl 2 rfl) ?_
        refine mlald hx hb hK hw 3 mWg2 k3 (by decide) dX12_townNamed_29 (zgenLE (fun v5 ev5 => ?_))
        have hE := zletE ev5 hE
        refine lv_aload_n hx hb dX12_townNamed_30 rfl (lv_at hl 0 rfl) ?_
        refine mget (v := .long (q 107 0)) hx hb hts hiX12 hown hK hw 7 (by decide) lf147 rfl rfl dX12_townNamed_31 (zgenLE (fun v6 ev6 => ?_))
        have hE := zletE ev6 hE
        refine W.lcmp hx hb dX12_townNamed_34 (zgenE (zI.top _) (fun v7 ev7 _ => ?_))
        have hE := zletE ev7 hE
        refine lv_if_ne (tgt := 45) hx hb dX12_townNamed_35 (by decide) (fun c8 => ?_) (fun c8 => ?_)
        · have hE := zifnT c8 hE
          refine lv_iinc (v := w5_2 + 1) (lv' := [(2, .int (w5_2 + 1)), (0, .ref h0), (1, .int 0)]) hx hb dX12_townNamed_45 hl (k := 2) rfl (rfl) (by decide) rfl (fun ls hl => ?_)
          have k9 : zI 1 6 (w5_2 + 1) := zI.add k3 (zI.lit (a := 1) (b := 1) (by decide)) (by decide)
          refine lv_goto (tgt := 5) hx hb dX12_townNamed_48 (by decide) ?_
          exact ih5 (w5_2 + 1) (k9.w (c := 0) (d := 6) (by decide)) hE (zI.up k3 (by decide) hm5) H locs ls hw hS (lv_sub hl [1, 2, 0] rfl)
        · have hE := zifnF c8 hE
          have k10 : zI 0 0 (v7) := zI.eqq c8 (zI.lit (a := 0) (b := 0) (c := 0) (by decide))
          refine lv_iload_n hx hb dX12_townNamed_38 rfl (lv_at hl 2 rfl) ?_
          refine lv_bipush (v := 6) hx hb dX12_townNamed_39 (by decide) ?_
          refine lv_iload_n hx hb dX12_townNamed_41 rfl (lv_at hl 1 rfl) ?_
          refine lv_imul hx hb dX12_townNamed_42 (ztop (.int 0) (congrArg Value.int (by decide)) ?_)
          refine lv_isub hx hb dX12_townNamed_43 (zgenE (lo := 0) (hi := 5) (zI.sub k3 (zI.lit (a := 0) (b := 0) (c := 0) (by decide)) (by decide)) (fun v11 ev11 hv11 => ?_))
          have hE := zletE ev11 hE
          exact ziretQ hQ hx hb hr rfl hlocks v11 rfl ⟨(hv11.w (c := (-1)) (d := 5) (by decide)), (hE.symm.trans hX), trivial⟩ hw hS dX12_townNamed_44
  intro H locs hw hS ls hl
  have hl : lv_has ls 3 [(0, .ref h0), (1, .int 0)] := hl
  have hE := hX
  unfold Gm_townNamed0 at hE
  refine lv_bipush (v := 6) hx hb dX12_townNamed_0 (by decide) ?_
  refine lv_iload_n hx hb dX12_townNamed_2 rfl (lv_at hl 1 rfl) ?_
  refine lv_imul hx hb dX12_townNamed_3 (ztop (.int 0) (congrArg Value.int (by decide)) ?_)
  refine lv_istore_n (lv' := [(2, .int 0), (0, .ref h0), (1, .int 0)]) hx hb dX12_townNamed_4 rfl hl (by decide) rfl (fun ls hl => ?_)
  exact cut5 7 0 ((zI.lit (a := 0) (b := 0) (c := 0) (by decide)).w (c := 0) (d := 6) (by decide)) hE (zI.m0 (zI.lit (a := 0) (b := 0) (c := 0) (by decide)) (by decide)) H locs ls hw hS (lv_sub hl [1, 2, 0] rfl)

set_option maxHeartbeats 4000000 in
set_option maxRecDepth 100000 in
theorem mc_townNamed1 (l : Launch) (D : va_G) (ct : Nat → ClassId) (h0 : Nat) (y : Nat → Nat) (B : Int) (r : zRr) (q : zRq) (hJ0 : mJ B r) : zC l yX12_townNamed (.code yX12_townNamed cX12_townNamed 3 (some .int) :: wsL_law0) ({ frames := 1, cells := 0, slots := 0, locals := 80 }) D ct [] [.ref h0, .int 1] (mW ct h0 y r q) (S := Int32) (fun u => some (.int u)) (fun u => zI (-1) 5 u ∧ ((0 ≤ u.toInt → 1 ≤ (r 1 4).toInt)) ∧ u = (Gm_townNamed1 r q) ∧ True) (fun u => mW ct h0 y r q) 0 0 := by
  refine zofQ cX12_townNamed 3 (some .int) (by decide) rfl (Nat.le_of_ble_eq_true rfl) ?_
  intro p e s m below meth c A a9 Q ha9 hx hb hr hml hts hown hlocks hname hK hA hZ hN hQ
  have hown : s.vm.findClass RX12 = some m.cls := hown
  have hiX12 : ∀ w ∈ wsX120, w ∈ .code yX12_townNamed cX12_townNamed 3 (some .int) :: wsL_law0 := fun _ h => ki (zs_wsX120 _ h)
  have lf13 := hts (.fieldLink RX12 13 "BeardPassModel" "land" "[I") (ki (zr7 20 rfl))
  have lf16 := hts (.fieldLink RX12 16 "BeardPassModel" "townName" "[J") (ki (zr7 21 rfl))
  have lf147 := hts (.fieldLink RX12 147 "BeardPassModel" "word" "J") (ki (zr22 18 rfl))
  obtain ⟨X, hX⟩ : ∃ X, X = (Gm_townNamed1 r q) := ⟨_, rfl⟩
  have cut5 : ∀ (n5 : Nat) (w5_2 : Int32) (hw5_2 : zI 6 12 w5_2) (hE : X = Gm_townNamed1_5 r q n5 w5_2), 12 - w5_2.toInt < (n5 : Int) → zKf p l e ({ frames := 1, cells := 0, slots := 0, locals := 80 }) s m a9 below meth c Q D A 5 3 [] (mW ct h0 y r q) [(0, .ref h0), (1, .int 1), (2, .int w5_2)] := by
    intro n5
    induction n5 with
    | zero => intro w5_2 hw5_2 hE hm5; exact zI.no hw5_2 (by decide) hm5
    | succ n5 ih5 =>
      intro w5_2 hw5_2 hE hm5
      have hE : X = Bm_townNamed1_5 r q (Gm_townNamed1_5 r q n5) w5_2 := hE
      unfold Bm_townNamed1_5 at hE
      intro H locs ls hw hS hl
      refine lv_iload_n hx hb dX12_townNamed_5 rfl (lv_at hl 2 rfl) ?_
      refine lv_bipush (v := 6) hx hb dX12_townNamed_6 (by decide) ?_
      refine lv_iload_n hx hb dX12_townNamed_8 rfl (lv_at hl 1 rfl) ?_
      refine lv_imul hx hb dX12_townNamed_9 (ztop (.int 6) (congrArg Value.int (by decide)) ?_)
      refine lv_aload_n hx hb dX12_townNamed_10 rfl (lv_at hl 0 rfl) ?_
      refine mget (v := .ref (y 1)) hx hb hts hiX12 hown hK hw 10 (by decide) lf13 rfl rfl dX12_townNamed_11 ?_
      refine lv_iconst (v := 4) hx hb dX12_townNamed_14 (by decide) ?_
      refine lv_iload_n hx hb dX12_townNamed_15 rfl (lv_at hl 1 rfl) ?_
      refine lv_imul hx hb dX12_townNamed_16 (ztop (.int 4) (congrArg Value.int (by decide)) ?_)
      refine lv_iconst (v := 0) hx hb dX12_townNamed_17 (by decide) ?_
      refine lv_iadd hx hb dX12_townNamed_18 (ztop (.int 4) (congrArg Value.int (by decide)) ?_)
      refine ziald hx hb hK hw 2 mWg1 4 (by decide) (by decide) (by decide) dX12_townNamed_19 ?_
      refine lv_iadd hx hb dX12_townNamed_20 ?_
      have k1 : zI 6 12 (6 + (r 1 4)) := zI.add (zI.lit (a := 6) (b := 6) (c := 6) (by decide)) (show zI 0 6 (r 1 4) from hJ0.i 1 4) (by decide)
      refine lv_icmp_ge (tgt := 51) hx hb dX12_townNamed_21 (by decide) (fun c2 => ?_) (fun c2 => ?_)
      · have hE := zifT c2 hE
        refine lv_iconst (v := (-1)) hx hb dX12_townNamed_51 (by decide) ?_
        exact ziretQ hQ hx hb hr rfl hlocks (-1) rfl ⟨((zI.lit (a := (-1)) (b := (-1)) (c := (-1)) (by decide)).w (c := (-1)) (d := 5) (by decide)), (show (0 ≤ ((-1) : Int32).toInt → 1 ≤ (r 1 4).toInt) from (fun h => absurd h (by decide))), (hE.symm.trans hX), trivial⟩ hw hS dX12_townNamed_52
      · have hE := zifF c2 hE
        have k3 : zI 6 11 (w5_2) := zI.ltU (zI.nle c2) hw5_2 k1 (by decide)
        have k4 : zI 7 12 (6 + (r 1 4)) := zI.ltD (zI.nle c2) hw5_2 k1 (by decide)
        refine lv_aload_n hx hb dX12_townNamed_24 rfl (lv_at hl 0 rfl) ?_
        refine mget (v := .ref (y 2)) hx hb hts hiX12 hown hK hw 11 (by decide) lf16 rfl rfl dX12_townNamed_25 ?_
        refine lv_iload_n hx hb dX12_townNamed_28 rfl (lv_at hl 2 rfl) ?_
        refine mlald hx hb hK hw 3 mWg2 k3 (by decide) dX12_townNamed_29 (zgenLE (fun v5 ev5 => ?_))
        have hE := zletE ev5 hE
        refine lv_aload_n hx hb dX12_townNamed_30 rfl (lv_at hl 0 rfl) ?_
        refine mget (v := .long (q 107 0)) hx hb hts hiX12 hown hK hw 7 (by decide) lf147 rfl rfl dX12_townNamed_31 (zgenLE (fun v6 ev6 => ?_))
        have hE := zletE ev6 hE
        refine W.lcmp hx hb dX12_townNamed_34 (zgenE (zI.top _) (fun v7 ev7 _ => ?_))
        have hE := zletE ev7 hE
        refine lv_if_ne (tgt := 45) hx hb dX12_townNamed_35 (by decide) (fun c8 => ?_) (fun c8 => ?_)
        · have hE := zifnT c8 hE
          refine lv_iinc (v := w5_2 + 1) (lv' := [(2, .int (w5_2 + 1)), (0, .ref h0), (1, .int 1)]) hx hb dX12_townNamed_45 hl (k := 2) rfl (rfl) (by decide) rfl (fun ls hl => ?_)
          have k9 : zI 7 12 (w5_2 + 1) := zI.add k3 (zI.lit (a := 1) (b := 1) (by decide)) (by decide)
          refine lv_goto (tgt := 5) hx hb dX12_townNamed_48 (by decide) ?_
          exact ih5 (w5_2 + 1) (k9.w (c := 6) (d := 12) (by decide)) hE (zI.up k3 (by decide) hm5) H locs ls hw hS (lv_sub hl [1, 2, 0] rfl)
        · have hE := zifnF c8 hE
          have k10 : zI 0 0 (v7) := zI.eqq c8 (zI.lit (a := 0) (b := 0) (c := 0) (by decide))
          refine lv_iload_n hx hb dX12_townNamed_38 rfl (lv_at hl 2 rfl) ?_
          refine lv_bipush (v := 6) hx hb dX12_townNamed_39 (by decide) ?_
          refine lv_iload_n hx hb dX12_townNamed_41 rfl (lv_at hl 1 rfl) ?_
          refine lv_imul hx hb dX12_townNamed_42 (ztop (.int 6) (congrArg Value.int (by decide)) ?_)
          refine lv_isub hx hb dX12_townNamed_43 (zgenE (lo := 0) (hi := 5) (zI.sub k3 (zI.lit (a := 6) (b := 6) (c := 6) (by decide)) (by decide)) (fun v11 ev11 hv11 => ?_))
          have hE := zletE ev11 hE
          exact ziretQ hQ hx hb hr rfl hlocks v11 rfl ⟨(hv11.w (c := (-1)) (d := 5) (by decide)), (show (0 ≤ v11.toInt → 1 ≤ (r 1 4).toInt) from (fun _ => by have h8 := ltI (zI.nle c2); have e9 := i32_a (zI.lit (a := 6) (b := 6) (c := 6) (by decide)) (show zI 0 6 (r 1 4) from hJ0.i 1 4) (by decide); have c6 : (6 : Int32).toInt = 6 := (by decide); have := (k3).1; omega)), (hE.symm.trans hX), trivial⟩ hw hS dX12_townNamed_44
  intro H locs hw hS ls hl
  have hl : lv_has ls 3 [(0, .ref h0), (1, .int 1)] := hl
  have hE := hX
  unfold Gm_townNamed1 at hE
  refine lv_bipush (v := 6) hx hb dX12_townNamed_0 (by decide) ?_
  refine lv_iload_n hx hb dX12_townNamed_2 rfl (lv_at hl 1 rfl) ?_
  refine lv_imul hx hb dX12_townNamed_3 (ztop (.int 6) (congrArg Value.int (by decide)) ?_)
  refine lv_istore_n (lv' := [(2, .int 6), (0, .ref h0), (1, .int 1)]) hx hb dX12_townNamed_4 rfl hl (by decide) rfl (fun ls hl => ?_)
  exact cut5 7 6 ((zI.lit (a := 6) (b := 6) (c := 6) (by decide)).w (c := 6) (d := 12) (by decide)) hE (zI.m0 (zI.lit (a := 6) (b := 6) (c := 6) (by decide)) (by decide)) H locs ls hw hS (lv_sub hl [1, 2, 0] rfl)

set_option maxHeartbeats 4000000 in
set_option maxRecDepth 100000 in
theorem mc_personNamed0 (l : Launch) (D : va_G) (ct : Nat → ClassId) (h0 : Nat) (y : Nat → Nat) (B : Int) (r : zRr) (q : zRq) (hJ0 : mJ B r) : zC l yX12_personNamed (.code yX12_personNamed cX12_personNamed 3 (some .int) :: wsL_law0) ({ frames := 1, cells := 0, slots := 0, locals := 80 }) D ct [] [.ref h0, .int 0] (mW ct h0 y r q) (S := Int32) (fun u => some (.int u)) (fun u => zI (-1) 5 u ∧ u = (Gm_personNamed0 r q) ∧ True) (fun u => mW ct h0 y r q) 0 0 := by
  refine zofQ cX12_personNamed 3 (some .int) (by decide) rfl (Nat.le_of_ble_eq_true rfl) ?_
  intro p e s m below meth c A a9 Q ha9 hx hb hr hml hts hown hlocks hname hK hA hZ hN hQ
  have hown : s.vm.findClass RX12 = some m.cls := hown
  have hiX12 : ∀ w ∈ wsX120, w ∈ .code yX12_personNamed cX12_personNamed 3 (some .int) :: wsL_law0 := fun _ h => ki (zs_wsX120 _ h)
  have lf13 := hts (.fieldLink RX12 13 "BeardPassModel" "land" "[I") (ki (zr7 20 rfl))
  have lf20 := hts (.fieldLink RX12 20 "BeardPassModel" "personName" "[J") (ki (zr7 22 rfl))
  have lf147 := hts (.fieldLink RX12 147 "BeardPassModel" "word" "J") (ki (zr22 18 rfl))
  obtain ⟨X, hX⟩ : ∃ X, X = (Gm_personNamed0 r q) := ⟨_, rfl⟩
  have cut5 : ∀ (n5 : Nat) (w5_2 : Int32) (hw5_2 : zI 0 6 w5_2) (hE : X = Gm_personNamed0_5 r q n5 w5_2), 6 - w5_2.toInt < (n5 : Int) → zKf p l e ({ frames := 1, cells := 0, slots := 0, locals := 80 }) s m a9 below meth c Q D A 5 3 [] (mW ct h0 y r q) [(0, .ref h0), (1, .int 0), (2, .int w5_2)] := by
    intro n5
    induction n5 with
    | zero => intro w5_2 hw5_2 hE hm5; exact zI.no hw5_2 (by decide) hm5
    | succ n5 ih5 =>
      intro w5_2 hw5_2 hE hm5
      have hE : X = Bm_personNamed0_5 r q (Gm_personNamed0_5 r q n5) w5_2 := hE
      unfold Bm_personNamed0_5 at hE
      intro H locs ls hw hS hl
      refine lv_iload_n hx hb dX12_personNamed_5 rfl (lv_at hl 2 rfl) ?_
      refine lv_bipush (v := 6) hx hb dX12_personNamed_6 (by decide) ?_
      refine lv_iload_n hx hb dX12_personNamed_8 rfl (lv_at hl 1 rfl) ?_
      refine lv_imul hx hb dX12_personNamed_9 (ztop (.int 0) (congrArg Value.int (by decide)) ?_)
      refine lv_aload_n hx hb dX12_personNamed_10 rfl (lv_at hl 0 rfl) ?_
      refine mget (v := .ref (y 1)) hx hb hts hiX12 hown hK hw 10 (by decide) lf13 rfl rfl dX12_personNamed_11 ?_
      refine lv_iconst (v := 4) hx hb dX12_personNamed_14 (by decide) ?_
      refine lv_iload_n hx hb dX12_personNamed_15 rfl (lv_at hl 1 rfl) ?_
      refine lv_imul hx hb dX12_personNamed_16 (ztop (.int 0) (congrArg Value.int (by decide)) ?_)
      refine lv_iconst (v := 1) hx hb dX12_personNamed_17 (by decide) ?_
      refine lv_iadd hx hb dX12_personNamed_18 (ztop (.int 1) (congrArg Value.int (by decide)) ?_)
      refine ziald hx hb hK hw 2 mWg1 1 (by decide) (by decide) (by decide) dX12_personNamed_19 ?_
      refine lv_iadd hx hb dX12_personNamed_20 ?_
      have k1 : zI 0 6 (0 + (r 1 1)) := zI.add (zI.lit (a := 0) (b := 0) (c := 0) (by decide)) (show zI 0 6 (r 1 1) from hJ0.i 1 1) (by decide)
      refine lv_icmp_ge (tgt := 51) hx hb dX12_personNamed_21 (by decide) (fun c2 => ?_) (fun c2 => ?_)
      · have hE := zifT c2 hE
        refine lv_iconst (v := (-1)) hx hb dX12_personNamed_51 (by decide) ?_
        exact ziretQ hQ hx hb hr rfl hlocks (-1) rfl ⟨((zI.lit (a := (-1)) (b := (-1)) (c := (-1)) (by decide)).w (c := (-1)) (d := 5) (by decide)), (hE.symm.trans hX), trivial⟩ hw hS dX12_personNamed_52
      · have hE := zifF c2 hE
        have k3 : zI 0 5 (w5_2) := zI.ltU (zI.nle c2) hw5_2 k1 (by decide)
        have k4 : zI 1 6 (0 + (r 1 1)) := zI.ltD (zI.nle c2) hw5_2 k1 (by decide)
        refine lv_aload_n hx hb dX12_personNamed_24 rfl (lv_at hl 0 rfl) ?_
        refine mget (v := .ref (y 3)) hx hb hts hiX12 hown hK hw 12 (by decide) lf20 rfl rfl dX12_personNamed_25 ?_
        refine lv_iload_n hx hb dX12_personNamed_28 rfl (lv_at hl 2 rfl) ?_
        refine mlald hx hb hK hw 4 mWg3 k3 (by decide) dX12_personNamed_29 (zgenLE (fun v5 ev5 => ?_))
        have hE := zletE ev5 hE
        refine lv_aload_n hx hb dX12_personNamed_30 rfl (lv_at hl 0 rfl) ?_
        refine mget (v := .long (q 107 0)) hx hb hts hiX12 hown hK hw 7 (by decide) lf147 rfl rfl dX12_personNamed_31 (zgenLE (fun v6 ev6 => ?_))
        have hE := zletE ev6 hE
        refine W.lcmp hx hb dX12_personNamed_34 (zgenE (zI.top _) (fun v7 ev7 _ => ?_))
        have hE := zletE ev7 hE
        refine lv_if_ne (tgt := 45) hx hb dX12_personNamed_35 (by decide) (fun c8 => ?_) (fun c8 => ?_)
        · have hE := zifnT c8 hE
          refine lv_iinc (v := w5_2 + 1) (lv' := [(2, .int (w5_2 + 1)), (0, .ref h0), (1, .int 0)]) hx hb dX12_personNamed_45 hl (k := 2) rfl (rfl) (by decide) rfl (fun ls hl => ?_)
          have k9 : zI 1 6 (w5_2 + 1) := zI.add k3 (zI.lit (a := 1) (b := 1) (by decide)) (by decide)
          refine lv_goto (tgt := 5) hx hb dX12_personNamed_48 (by decide) ?_
          exact ih5 (w5_2 + 1) (k9.w (c := 0) (d := 6) (by decide)) hE (zI.up k3 (by decide) hm5) H locs ls hw hS (lv_sub hl [1, 2, 0] rfl)
        · have hE := zifnF c8 hE
          have k10 : zI 0 0 (v7) := zI.eqq c8 (zI.lit (a := 0) (b := 0) (c := 0) (by decide))
          refine lv_iload_n hx hb dX12_personNamed_38 rfl (lv_at hl 2 rfl) ?_
          refine lv_bipush (v := 6) hx hb dX12_personNamed_39 (by decide) ?_
          refine lv_iload_n hx hb dX12_personNamed_41 rfl (lv_at hl 1 rfl) ?_
          refine lv_imul hx hb dX12_personNamed_42 (ztop (.int 0) (congrArg Value.int (by decide)) ?_)
          refine lv_isub hx hb dX12_personNamed_43 (zgenE (lo := 0) (hi := 5) (zI.sub k3 (zI.lit (a := 0) (b := 0) (c := 0) (by decide)) (by decide)) (fun v11 ev11 hv11 => ?_))
          have hE := zletE ev11 hE
          exact ziretQ hQ hx hb hr rfl hlocks v11 rfl ⟨(hv11.w (c := (-1)) (d := 5) (by decide)), (hE.symm.trans hX), trivial⟩ hw hS dX12_personNamed_44
  intro H locs hw hS ls hl
  have hl : lv_has ls 3 [(0, .ref h0), (1, .int 0)] := hl
  have hE := hX
  unfold Gm_personNamed0 at hE
  refine lv_bipush (v := 6) hx hb dX12_personNamed_0 (by decide) ?_
  refine lv_iload_n hx hb dX12_personNamed_2 rfl (lv_at hl 1 rfl) ?_
  refine lv_imul hx hb dX12_personNamed_3 (ztop (.int 0) (congrArg Value.int (by decide)) ?_)
  refine lv_istore_n (lv' := [(2, .int 0), (0, .ref h0), (1, .int 0)]) hx hb dX12_personNamed_4 rfl hl (by decide) rfl (fun ls hl => ?_)
  exact cut5 7 0 ((zI.lit (a := 0) (b := 0) (c := 0) (by decide)).w (c := 0) (d := 6) (by decide)) hE (zI.m0 (zI.lit (a := 0) (b := 0) (c := 0) (by decide)) (by decide)) H locs ls hw hS (lv_sub hl [1, 2, 0] rfl)

set_option maxHeartbeats 4000000 in
set_option maxRecDepth 100000 in
theorem mc_personNamed1 (l : Launch) (D : va_G) (ct : Nat → ClassId) (h0 : Nat) (y : Nat → Nat) (B : Int) (r : zRr) (q : zRq) (hJ0 : mJ B r) : zC l yX12_personNamed (.code yX12_personNamed cX12_personNamed 3 (some .int) :: wsL_law0) ({ frames := 1, cells := 0, slots := 0, locals := 80 }) D ct [] [.ref h0, .int 1] (mW ct h0 y r q) (S := Int32) (fun u => some (.int u)) (fun u => zI (-1) 5 u ∧ u = (Gm_personNamed1 r q) ∧ True) (fun u => mW ct h0 y r q) 0 0 := by
  refine zofQ cX12_personNamed 3 (some .int) (by decide) rfl (Nat.le_of_ble_eq_true rfl) ?_
  intro p e s m below meth c A a9 Q ha9 hx hb hr hml hts hown hlocks hname hK hA hZ hN hQ
  have hown : s.vm.findClass RX12 = some m.cls := hown
  have hiX12 : ∀ w ∈ wsX120, w ∈ .code yX12_personNamed cX12_personNamed 3 (some .int) :: wsL_law0 := fun _ h => ki (zs_wsX120 _ h)
  have lf13 := hts (.fieldLink RX12 13 "BeardPassModel" "land" "[I") (ki (zr7 20 rfl))
  have lf20 := hts (.fieldLink RX12 20 "BeardPassModel" "personName" "[J") (ki (zr7 22 rfl))
  have lf147 := hts (.fieldLink RX12 147 "BeardPassModel" "word" "J") (ki (zr22 18 rfl))
  obtain ⟨X, hX⟩ : ∃ X, X = (Gm_personNamed1 r q) := ⟨_, rfl⟩
  have cut5 : ∀ (n5 : Nat) (w5_2 : Int32) (hw5_2 : zI 6 12 w5_2) (hE : X = Gm_personNamed1_5 r q n5 w5_2), 12 - w5_2.toInt < (n5 : Int) → zKf p l e ({ frames := 1, cells := 0, slots := 0, locals := 80 }) s m a9 below meth c Q D A 5 3 [] (mW ct h0 y r q) [(0, .ref h0), (1, .int 1), (2, .int w5_2)] := by
    intro n5
    induction n5 with
    | zero => intro w5_2 hw5_2 hE hm5; exact zI.no hw5_2 (by decide) hm5
    | succ n5 ih5 =>
      intro w5_2 hw5_2 hE hm5
      have hE : X = Bm_personNamed1_5 r q (Gm_personNamed1_5 r q n5) w5_2 := hE
      unfold Bm_personNamed1_5 at hE
      intro H locs ls hw hS hl
      refine lv_iload_n hx hb dX12_personNamed_5 rfl (lv_at hl 2 rfl) ?_
      refine lv_bipush (v := 6) hx hb dX12_personNamed_6 (by decide) ?_
      refine lv_iload_n hx hb dX12_personNamed_8 rfl (lv_at hl 1 rfl) ?_
      refine lv_imul hx hb dX12_personNamed_9 (ztop (.int 6) (congrArg Value.int (by decide)) ?_)
      refine lv_aload_n hx hb dX12_personNamed_10 rfl (lv_at hl 0 rfl) ?_
      refine mget (v := .ref (y 1)) hx hb hts hiX12 hown hK hw 10 (by decide) lf13 rfl rfl dX12_personNamed_11 ?_
      refine lv_iconst (v := 4) hx hb dX12_personNamed_14 (by decide) ?_
      refine lv_iload_n hx hb dX12_personNamed_15 rfl (lv_at hl 1 rfl) ?_
      refine lv_imul hx hb dX12_personNamed_16 (ztop (.int 4) (congrArg Value.int (by decide)) ?_)
      refine lv_iconst (v := 1) hx hb dX12_personNamed_17 (by decide) ?_
      refine lv_iadd hx hb dX12_personNamed_18 (ztop (.int 5) (congrArg Value.int (by decide)) ?_)
      refine ziald hx hb hK hw 2 mWg1 5 (by decide) (by decide) (by decide) dX12_personNamed_19 ?_
      refine lv_iadd hx hb dX12_personNamed_20 ?_
      have k1 : zI 6 12 (6 + (r 1 5)) := zI.add (zI.lit (a := 6) (b := 6) (c := 6) (by decide)) (show zI 0 6 (r 1 5) from hJ0.i 1 5) (by decide)
      refine lv_icmp_ge (tgt := 51) hx hb dX12_personNamed_21 (by decide) (fun c2 => ?_) (fun c2 => ?_)
      · have hE := zifT c2 hE
        refine lv_iconst (v := (-1)) hx hb dX12_personNamed_51 (by decide) ?_
        exact ziretQ hQ hx hb hr rfl hlocks (-1) rfl ⟨((zI.lit (a := (-1)) (b := (-1)) (c := (-1)) (by decide)).w (c := (-1)) (d := 5) (by decide)), (hE.symm.trans hX), trivial⟩ hw hS dX12_personNamed_52
      · have hE := zifF c2 hE
        have k3 : zI 6 11 (w5_2) := zI.ltU (zI.nle c2) hw5_2 k1 (by decide)
        have k4 : zI 7 12 (6 + (r 1 5)) := zI.ltD (zI.nle c2) hw5_2 k1 (by decide)
        refine lv_aload_n hx hb dX12_personNamed_24 rfl (lv_at hl 0 rfl) ?_
        refine mget (v := .ref (y 3)) hx hb hts hiX12 hown hK hw 12 (by decide) lf20 rfl rfl dX12_personNamed_25 ?_
        refine lv_iload_n hx hb dX12_personNamed_28 rfl (lv_at hl 2 rfl) ?_
        refine mlald hx hb hK hw 4 mWg3 k3 (by decide) dX12_personNamed_29 (zgenLE (fun v5 ev5 => ?_))
        have hE := zletE ev5 hE
        refine lv_aload_n hx hb dX12_personNamed_30 rfl (lv_at hl 0 rfl) ?_
        refine mget (v := .long (q 107 0)) hx hb hts hiX12 hown hK hw 7 (by decide) lf147 rfl rfl dX12_personNamed_31 (zgenLE (fun v6 ev6 => ?_))
        have hE := zletE ev6 hE
        refine W.lcmp hx hb dX12_personNamed_34 (zgenE (zI.top _) (fun v7 ev7 _ => ?_))
        have hE := zletE ev7 hE
        refine lv_if_ne (tgt := 45) hx hb dX12_personNamed_35 (by decide) (fun c8 => ?_) (fun c8 => ?_)
        · have hE := zifnT c8 hE
          refine lv_iinc (v := w5_2 + 1) (lv' := [(2, .int (w5_2 + 1)), (0, .ref h0), (1, .int 1)]) hx hb dX12_personNamed_45 hl (k := 2) rfl (rfl) (by decide) rfl (fun ls hl => ?_)
          have k9 : zI 7 12 (w5_2 + 1) := zI.add k3 (zI.lit (a := 1) (b := 1) (by decide)) (by decide)
          refine lv_goto (tgt := 5) hx hb dX12_personNamed_48 (by decide) ?_
          exact ih5 (w5_2 + 1) (k9.w (c := 6) (d := 12) (by decide)) hE (zI.up k3 (by decide) hm5) H locs ls hw hS (lv_sub hl [1, 2, 0] rfl)
        · have hE := zifnF c8 hE
          have k10 : zI 0 0 (v7) := zI.eqq c8 (zI.lit (a := 0) (b := 0) (c := 0) (by decide))
          refine lv_iload_n hx hb dX12_personNamed_38 rfl (lv_at hl 2 rfl) ?_
          refine lv_bipush (v := 6) hx hb dX12_personNamed_39 (by decide) ?_
          refine lv_iload_n hx hb dX12_personNamed_41 rfl (lv_at hl 1 rfl) ?_
          refine lv_imul hx hb dX12_personNamed_42 (ztop (.int 6) (congrArg Value.int (by decide)) ?_)
          refine lv_isub hx hb dX12_personNamed_43 (zgenE (lo := 0) (hi := 5) (zI.sub k3 (zI.lit (a := 6) (b := 6) (c := 6) (by decide)) (by decide)) (fun v11 ev11 hv11 => ?_))
          have hE := zletE ev11 hE
          exact ziretQ hQ hx hb hr rfl hlocks v11 rfl ⟨(hv11.w (c := (-1)) (d := 5) (by decide)), (hE.symm.trans hX), trivial⟩ hw hS dX12_personNamed_44
  intro H locs hw hS ls hl
  have hl : lv_has ls 3 [(0, .ref h0), (1, .int 1)] := hl
  have hE := hX
  unfold Gm_personNamed1 at hE
  refine lv_bipush (v := 6) hx hb dX12_personNamed_0 (by decide) ?_
  refine lv_iload_n hx hb dX12_personNamed_2 rfl (lv_at hl 1 rfl) ?_
  refine lv_imul hx hb dX12_personNamed_3 (ztop (.int 6) (congrArg Value.int (by decide)) ?_)
  refine lv_istore_n (lv' := [(2, .int 6), (0, .ref h0), (1, .int 1)]) hx hb dX12_personNamed_4 rfl hl (by decide) rfl (fun ls hl => ?_)
  exact cut5 7 6 ((zI.lit (a := 6) (b := 6) (c := 6) (by decide)).w (c := 6) (d := 12) (by decide)) hE (zI.m0 (zI.lit (a := 6) (b := 6) (c := 6) (by decide)) (by decide)) H locs ls hw hS (lv_sub hl [1, 2, 0] rfl)

set_option maxHeartbeats 4000000 in
set_option maxRecDepth 100000 in
theorem mc_needsNumber (l : Launch) (D : va_G) (ct : Nat → ClassId) (h0 : Nat) (y : Nat → Nat) (B : Int) (a1 : Int32) (a2 : Int32) (r : zRr) (q : zRq) (hJ0 : mJ B r) (x1 : mP r) : zC l yX12_needsNumber (.code yX12_needsNumber cX12_needsNumber 3 (some .boolean) :: wsL_law0) ({ frames := 3, cells := 0, slots := 0, locals := 160 }) D ct [] [.ref h0, .int a1, .int a2] (mW ct h0 y r q) (S := Int32 × zRr × zRq) (fun u => some (.int u.1)) (fun u => zI 0 1 u.1 ∧ mJ B u.2.1 ∧ zFr [104, 105, 106, 108, 109, 136] r u.2.1 ∧ (mP u.2.1) ∧ ((r 105 0).toInt ≤ (u.2.1 105 0).toInt) ∧ (¬ u.1 = 0 → zI 0 9999 (u.2.1 136 0)) ∧ u = (Gm_needsNumber a1 a2 r q) ∧ True) (fun u => mW ct h0 y u.2.1 u.2.2) 0 0 := by
  refine zofQ cX12_needsNumber 3 (some .boolean) (by decide) rfl (Nat.le_of_ble_eq_true rfl) ?_
  intro p e s m below meth c A a9 Q ha9 hx hb hr hml hts hown hlocks hname hK hA hZ hN hQ
  have hown : s.vm.findClass RX12 = some m.cls := hown
  have hiX12 : ∀ w ∈ wsX120, w ∈ .code yX12_needsNumber cX12_needsNumber 3 (some .boolean) :: wsL_law0 := fun _ h => ki (zs_wsX120 _ h)
  have lf151 := hts (.fieldLink RX12 151 "BeardPassModel" "told" "I") (ki (zr22 19 rfl))
  have lf154 := hts (.fieldLink RX12 154 "BeardPassModel" "token" "I") (ki (zr22 0 rfl))
  have lf256 := hts (.fieldLink RX12 256 "BeardPassModel" "given" "I") (ki (zr23 11 rfl))
  obtain ⟨X, hX⟩ : ∃ X, X = (Gm_needsNumber a1 a2 r q) := ⟨_, rfl⟩
  intro H locs hw hS ls hl
  have hl : lv_has ls 3 [(0, .ref h0), (1, .int a1), (2, .int a2)] := hl
  have hE := hX
  unfold Gm_needsNumber at hE
  refine lv_aload_n hx hb dX12_needsNumber_0 rfl (lv_at hl 0 rfl) ?_
  refine mget (v := .int (r 106 0)) hx hb hts hiX12 hown hK hw 6 (by decide) lf154 rfl rfl dX12_needsNumber_1 (zgenE (lo := 0) (hi := 4) ((show zI 0 4 (r 106 0) from hJ0.i 106 0)) (fun v1 ev1 hv1 => ?_))
  have hE := zletE ev1 hE
  refine lv_iconst (v := 2) hx hb dX12_needsNumber_4 (by decide) ?_
  refine lv_icmp_eq (tgt := 14) hx hb dX12_needsNumber_5 (by decide) (fun c2 => ?_) (fun c2 => ?_)
  · have hE := zifT c2 hE
    have k3 : zI 2 2 (v1) := zI.eqq c2 (zI.lit (a := 2) (b := 2) (c := 2) (by decide))
    refine lv_aload_n hx hb dX12_needsNumber_14 rfl (lv_at hl 0 rfl) ?_
    refine mget (v := .int (r 108 0)) hx hb hts hiX12 hown hK hw 8 (by decide) lf151 rfl rfl dX12_needsNumber_15 ?_
    refine lv_iload_n hx hb dX12_needsNumber_18 rfl (lv_at hl 1 rfl) ?_
    refine lv_iload_n hx hb dX12_needsNumber_19 rfl (lv_at hl 2 rfl) ?_
    refine zcallE (va_runS (As := [.int (r 108 0), .int a1, .int a2]) (rest := []) ⟨hx, hb, hml, hown, hts⟩ (mc_within l D ct (r 108 0) a1 a2 H.size) (va_cwS 3 hts (kgS (zr25 11 rfl) (zr25 12 rfl) (zr1 5 rfl) (zr25 13 rfl)) rfl rfl rfl (by decide +kernel) ⟨Nat.le_of_ble_eq_true rfl, Nat.le_of_ble_eq_true rfl⟩) (zpreS hK hw hS hA zZ.nil hN [] rfl rfl) rfl rfl hl.1 rfl (lv_room (Nat.le_of_ble_eq_true rfl)) dX12_needsNumber_20 ⟨Nat.le_of_ble_eq_true rfl, Nat.le_of_ble_eq_true rfl⟩) hw hS hA mWn 23 rfl (fun u4 H locs pu4 hw hS => ?_)
    have hu4 : zI 0 1 u4 := pu4.1
    have yu4_0 : ¬ u4 = 0 → a1 ≤ (r 108 0) ∧ (r 108 0) ≤ a2 := pu4.2.1
    have xu4 : u4 = (Gm_within (r 108 0) a1 a2) := pu4.2.2.1
    have hE := zletE xu4 hE
    refine zfr 23 [.int u4] rfl rfl ?_
    refine lv_if_ne (tgt := 32) hx hb dX12_needsNumber_23 (by decide) (fun c6 => ?_) (fun c6 => ?_)
    · have hE := zifnT c6 hE
      have k7 : zI 1 1 (u4) := zI.neD c6 hu4 (zI.lit (a := 0) (b := 0) (c := 0) (by decide)) (by decide)
      have k8 : zI (-2147483648) 9999 (a1) := zI.leU (yu4_0 c6).1 (zI.top _) (show zI 0 9999 (r 108 0) from hJ0.i 108 0) (by decide)
      have k9 : zI 0 2147483647 (a2) := zI.leD (yu4_0 c6).2 (show zI 0 9999 (r 108 0) from hJ0.i 108 0) (zI.top _) (by decide)
      refine lv_aload_n hx hb dX12_needsNumber_32 rfl (lv_at hl 0 rfl) ?_
      refine lv_aload_n hx hb dX12_needsNumber_33 rfl (lv_at hl 0 rfl) ?_
      refine mget (v := .int (r 108 0)) hx hb hts hiX12 hown hK hw 8 (by decide) lf151 rfl rfl dX12_needsNumber_34 ?_
      refine mput (ty := .int) (v := .int (r 108 0)) hx hb hts hiX12 hown hK hw hS 36 (by decide) lf256 rfl rfl (by decide +kernel) rfl rfl dX12_needsNumber_37 (zset r 136 (fun _ => r 108 0)) _ mWf36 (fun H locs hw hS => ?_)
      refine mgen (P := fun x => mJ B x ∧ zFr [104, 105, 106, 108, 109, 136] r x) hw ⟨hJ0.setc rfl (fun _ => ((show zI 0 9999 (r 108 0) from hJ0.i 108 0).w (c := (-1)) (d := 9999) (by decide))), (zFr.refl).set rfl⟩ (fun r10 er10 hw pr10 => ?_)
      have hE := zletE er10 hE
      refine lv_aload_n hx hb dX12_needsNumber_40 rfl (lv_at hl 0 rfl) ?_
      refine zcallW (va_runV (As := []) (rest := []) ⟨hx, hb, hml, hown, hts⟩ (mc_nextToken l D ct h0 y B r10 q pr10.1 (((mP.fr x1 (zs_row (k := 103) er10 (by decide)) (zs_row (k := 104) er10 (by decide)) (zs_row (k := 105) er10 (by decide)) (zs_row (k := 106) er10 (by decide)))).2.1) H.size) (cwV 0 hts (kgV (zr22 13 rfl) (zr22 14 rfl) (zr22 15 rfl) (zr1 5 rfl) (zr22 16 rfl)) rfl rfl rfl (by decide +kernel) ⟨Nat.le_of_ble_eq_true rfl, Nat.le_of_ble_eq_true rfl⟩) (zpreV hK hw hS hA zZ.nil hN (List.range (mW ct h0 y r10 q).length) mWn (zrange _) 11 0 rfl mWo) rfl rfl hl.1 rfl (lv_room (Nat.le_of_ble_eq_true rfl)) dX12_needsNumber_41 ⟨Nat.le_of_ble_eq_true rfl, Nat.le_of_ble_eq_true rfl⟩) hw hS hA 44 rfl (fun u11 H locs pu11 hw hS => ?_)
      obtain ⟨r12, q13⟩ := u11
      have ju11 : mJ B r12 := pu11.1
      have fu11 : zFr [104, 105, 106, 108] r10 r12 := pu11.2.1
      have yu11_0 : mP r12 := pu11.2.2.1
      have yu11_1 : (r10 104 0).toInt ≤ (r12 105 0).toInt := pu11.2.2.2.1
      have xu11 : (r12, q13) = (Gm_nextToken r10 q) := pu11.2.2.2.2.1
      have hE := zc_rqE xu11 hE
      have hw : zPD D A (mW ct h0 y r12 q13) H := hw
      refine zfr 44 [] rfl rfl ?_
      refine lv_iconst (v := 1) hx hb dX12_needsNumber_44 (by decide) ?_
      exact ziretQ hQ hx hb hr rfl hlocks (1, r12, q13) rfl ⟨((zI.lit (a := 1) (b := 1) (c := 1) (by decide)).w (c := 0) (d := 1) (by decide)), ju11, (pr10.2.tr fu11 rfl), (show mP r12 from yu11_0), (show (r 105 0).toInt ≤ (r12 105 0).toInt from (by have := yu11_1; have := ((mP.fr x1 (zs_row (k := 103) er10 (by decide)) (zs_row (k := 104) er10 (by decide)) (zs_row (k := 105) er10 (by decide)) (zs_row (k := 106) er10 (by decide)))).1; have := congrArg Int32.toInt (congrFun (zs_row (k := 105) er10 (by decide)) 0); omega)), (fun _ => (fu11.at (zs_in er10 (show zI 0 9999 (r 108 0) from hJ0.i 108 0)) rfl)), (hE.symm.trans hX), trivial⟩ hw hS dX12_needsNumber_45
    · have hE := zifnF c6 hE
      have k14 : zI 0 0 (u4) := zI.eqq c6 (zI.lit (a := 0) (b := 0) (c := 0) (by decide))
      refine lv_aload_n hx hb dX12_needsNumber_26 rfl (lv_at hl 0 rfl) ?_
      refine lv_iconst (v := 4) hx hb dX12_needsNumber_27 (by decide) ?_
      refine zcallW (va_runV (As := [.int 4]) (rest := []) ⟨hx, hb, hml, hown, hts⟩ (mc_fails l D ct h0 y B 4 r q ((zI.lit (a := 4) (b := 4) (c := 4) (by decide)).w (c := 1) (d := 5) (by decide)) hJ0 H.size) (cwV 1 hts (kgV (zr23 13 rfl) (zr23 14 rfl) (zr23 15 rfl) (zr1 5 rfl) (zr23 16 rfl)) rfl rfl rfl (by decide +kernel) ⟨Nat.le_of_ble_eq_true rfl, Nat.le_of_ble_eq_true rfl⟩) (zpreV hK hw hS hA zZ.nil hN (List.range (mW ct h0 y r q).length) mWn (zrange _) 11 0 rfl mWo) rfl rfl hl.1 rfl (lv_room (Nat.le_of_ble_eq_true rfl)) dX12_needsNumber_28 ⟨Nat.le_of_ble_eq_true rfl, Nat.le_of_ble_eq_true rfl⟩) hw hS hA 31 rfl (fun u15 H locs pu15 hw hS => ?_)
      obtain ⟨v16, r17⟩ := u15
      have hv16 : zI 0 0 v16 := pu15.1
      have ju15 : mJ B r17 := pu15.2.1
      have fu15 : zFr [109] r r17 := pu15.2.2.1
      have xu15 : (v16, r17) = (Gm_fails (4 : Int32) r q) := pu15.2.2.2.1
      have hE := zc_vrE xu15 hE
      have hw : zPD D A (mW ct h0 y r17 q) H := hw
      refine zfr 31 [.int v16] rfl rfl ?_
      exact ziretQ hQ hx hb hr ((hv16.w (c := 0) (d := 1) (by decide)).rn) hlocks (v16, r17, q) rfl ⟨(hv16.w (c := 0) (d := 1) (by decide)), ju15, ((zFr.refl).tr fu15 rfl), (show mP r17 from (mP.fr x1 (fu15 103 rfl) (fu15 104 rfl) (fu15 105 rfl) (fu15 106 rfl))), (show (r 105 0).toInt ≤ (r17 105 0).toInt from (by have := congrArg Int32.toInt (congrFun (fu15 105 rfl) 0); omega)), (fun h => absurd (zI.eq0 hv16) h), (hE.symm.trans hX), trivial⟩ hw hS dX12_needsNumber_31
  · have hE := zifF c2 hE
    refine lv_aload_n hx hb dX12_needsNumber_8 rfl (lv_at hl 0 rfl) ?_
    refine lv_iconst (v := 1) hx hb dX12_needsNumber_9 (by decide) ?_
    refine zcallW (va_runV (As := [.int 1]) (rest := []) ⟨hx, hb, hml, hown, hts⟩ (mc_fails l D ct h0 y B 1 r q ((zI.lit (a := 1) (b := 1) (c := 1) (by decide)).w (c := 1) (d := 5) (by decide)) hJ0 H.size) (cwV 1 hts (kgV (zr23 13 rfl) (zr23 14 rfl) (zr23 15 rfl) (zr1 5 rfl) (zr23 16 rfl)) rfl rfl rfl (by decide +kernel) ⟨Nat.le_of_ble_eq_true rfl, Nat.le_of_ble_eq_true rfl⟩) (zpreV hK hw hS hA zZ.nil hN (List.range (mW ct h0 y r q).length) mWn (zrange _) 11 0 rfl mWo) rfl rfl hl.1 rfl (lv_room (Nat.le_of_ble_eq_true rfl)) dX12_needsNumber_10 ⟨Nat.le_of_ble_eq_true rfl, Nat.le_of_ble_eq_true rfl⟩) hw hS hA 13 rfl (fun u18 H locs pu18 hw hS => ?_)
    obtain ⟨v19, r20⟩ := u18
    have hv19 : zI 0 0 v19 := pu18.1
    have ju18 : mJ B r20 := pu18.2.1
    have fu18 : zFr [109] r r20 := pu18.2.2.1
    have xu18 : (v19, r20) = (Gm_fails (1 : Int32) r q) := pu18.2.2.2.1
    have hE := zc_vrE xu18 hE
    have hw : zPD D A (mW ct h0 y r20 q) H := hw
    refine zfr 13 [.int v19] rfl rfl ?_
    exact ziretQ hQ hx hb hr ((hv19.w (c := 0) (d := 1) (by decide)).rn) hlocks (v19, r20, q) rfl ⟨(hv19.w (c := 0) (d := 1) (by decide)), ju18, ((zFr.refl).tr fu18 rfl), (show mP r20 from (mP.fr x1 (fu18 103 rfl) (fu18 104 rfl) (fu18 105 rfl) (fu18 106 rfl))), (show (r 105 0).toInt ≤ (r20 105 0).toInt from (by have := congrArg Int32.toInt (congrFun (fu18 105 rfl) 0); omega)), (fun h => absurd (zI.eq0 hv19) h), (hE.symm.trans hX), trivial⟩ hw hS dX12_needsNumber_13

set_option maxHeartbeats 4000000 in
set_option maxRecDepth 100000 in
theorem mc_needsWord (l : Launch) (D : va_G) (ct : Nat → ClassId) (h0 : Nat) (y : Nat → Nat) (B : Int) (a1 : Int64) (r : zRr) (q : zRq) (hJ0 : mJ B r) (x1 : mP r) : zC l yX12_needsWord (.code yX12_needsWord cX12_needsWord 3 (some .boolean) :: wsL_law0) ({ frames := 3, cells := 0, slots := 0, locals := 160 }) D ct [] [.ref h0, .long a1] (mW ct h0 y r q) (S := Int32 × zRr × zRq) (fun u => some (.int u.1)) (fun u => zI 0 1 u.1 ∧ mJ B u.2.1 ∧ zFr [104, 105, 106, 108, 109] r u.2.1 ∧ (mP u.2.1) ∧ ((r 105 0).toInt ≤ (u.2.1 105 0).toInt) ∧ u = (Gm_needsWord a1 r q) ∧ True) (fun u => mW ct h0 y u.2.1 u.2.2) 0 0 := by
  refine zofQ cX12_needsWord 3 (some .boolean) (by decide) rfl (Nat.le_of_ble_eq_true rfl) ?_
  intro p e s m below meth c A a9 Q ha9 hx hb hr hml hts hown hlocks hname hK hA hZ hN hQ
  have hown : s.vm.findClass RX12 = some m.cls := hown
  obtain ⟨X, hX⟩ : ∃ X, X = (Gm_needsWord a1 r q) := ⟨_, rfl⟩
  intro H locs hw hS ls hl
  have hl : lv_has ls 3 [(0, .ref h0), (1, .long a1)] := hl
  have hE := hX
  unfold Gm_needsWord at hE
  refine lv_aload_n hx hb dX12_needsWord_0 rfl (lv_at hl 0 rfl) ?_
  refine lv_lload_n hx hb dX12_needsWord_1 rfl (lv_at hl 1 rfl) ?_
  refine zcallW (va_runV (As := [.long a1]) (rest := []) ⟨hx, hb, hml, hown, hts⟩ (mc_isWord l D ct h0 y B a1 r q hJ0 H.size) (cwV 1 hts (kgV (zr23 2 rfl) (zr23 3 rfl) (zr23 4 rfl) (zr1 5 rfl) (zr23 5 rfl)) rfl rfl rfl (by decide +kernel) ⟨Nat.le_of_ble_eq_true rfl, Nat.le_of_ble_eq_true rfl⟩) (zpreV hK hw hS hA zZ.nil hN (List.range (mW ct h0 y r q).length) mWn (zrange _) 11 0 rfl mWo) rfl rfl hl.1 rfl (lv_room (Nat.le_of_ble_eq_true rfl)) dX12_needsWord_2 ⟨Nat.le_of_ble_eq_true rfl, Nat.le_of_ble_eq_true rfl⟩) hw hS hA 5 rfl (fun u1 H locs pu1 hw hS => ?_)
  have hu1 : zI 0 1 u1 := pu1.1
  have yu1_0 : ¬ u1 = 0 → zI 1 1 (r 106 0) := pu1.2.1
  have xu1 : u1 = (Gm_isWord a1 r q) := pu1.2.2.1
  have hE := zletE xu1 hE
  have hw : zPD D A (mW ct h0 y r q) H := hw
  refine zfr 5 [.int u1] rfl rfl ?_
  refine lv_if_ne (tgt := 14) hx hb dX12_needsWord_5 (by decide) (fun c3 => ?_) (fun c3 => ?_)
  · have hE := zifnT c3 hE
    have k4 : zI 1 1 (u1) := zI.neD c3 hu1 (zI.lit (a := 0) (b := 0) (c := 0) (by decide)) (by decide)
    refine lv_aload_n hx hb dX12_needsWord_14 rfl (lv_at hl 0 rfl) ?_
    refine zcallW (va_runV (As := []) (rest := []) ⟨hx, hb, hml, hown, hts⟩ (mc_nextToken l D ct h0 y B r q hJ0 ((x1).2.1) H.size) (cwV 0 hts (kgV (zr22 13 rfl) (zr22 14 rfl) (zr22 15 rfl) (zr1 5 rfl) (zr22 16 rfl)) rfl rfl rfl (by decide +kernel) ⟨Nat.le_of_ble_eq_true rfl, Nat.le_of_ble_eq_true rfl⟩) (zpreV hK hw hS hA zZ.nil hN (List.range (mW ct h0 y r q).length) mWn (zrange _) 11 0 rfl mWo) rfl rfl hl.1 rfl (lv_room (Nat.le_of_ble_eq_true rfl)) dX12_needsWord_15 ⟨Nat.le_of_ble_eq_true rfl, Nat.le_of_ble_eq_true rfl⟩) hw hS hA 18 rfl (fun u5 H locs pu5 hw hS => ?_)
    obtain ⟨r6, q7⟩ := u5
    have ju5 : mJ B r6 := pu5.1
    have fu5 : zFr [104, 105, 106, 108] r r6 := pu5.2.1
    have yu5_0 : mP r6 := pu5.2.2.1
    have yu5_1 : (r 104 0).toInt ≤ (r6 105 0).toInt := pu5.2.2.2.1
    have xu5 : (r6, q7) = (Gm_nextToken r q) := pu5.2.2.2.2.1
    have hE := zc_rqE xu5 hE
    have hw : zPD D A (mW ct h0 y r6 q7) H := hw
    refine zfr 18 [] rfl rfl ?_
    refine lv_iconst (v := 1) hx hb dX12_needsWord_18 (by decide) ?_
    exact ziretQ hQ hx hb hr rfl hlocks (1, r6, q7) rfl ⟨((zI.lit (a := 1) (b := 1) (c := 1) (by decide)).w (c := 0) (d := 1) (by decide)), ju5, ((zFr.refl).tr fu5 rfl), (show mP r6 from yu5_0), (show (r 105 0).toInt ≤ (r6 105 0).toInt from (by have := yu5_1; have := (x1).1; omega)), (hE.symm.trans hX), trivial⟩ hw hS dX12_needsWord_19
  · have hE := zifnF c3 hE
    have k8 : zI 0 0 (u1) := zI.eqq c3 (zI.lit (a := 0) (b := 0) (c := 0) (by decide))
    refine lv_aload_n hx hb dX12_needsWord_8 rfl (lv_at hl 0 rfl) ?_
    refine lv_iconst (v := 1) hx hb dX12_needsWord_9 (by decide) ?_
    refine zcallW (va_runV (As := [.int 1]) (rest := []) ⟨hx, hb, hml, hown, hts⟩ (mc_fails l D ct h0 y B 1 r q ((zI.lit (a := 1) (b := 1) (c := 1) (by decide)).w (c := 1) (d := 5) (by decide)) hJ0 H.size) (cwV 1 hts (kgV (zr23 13 rfl) (zr23 14 rfl) (zr23 15 rfl) (zr1 5 rfl) (zr23 16 rfl)) rfl rfl rfl (by decide +kernel) ⟨Nat.le_of_ble_eq_true rfl, Nat.le_of_ble_eq_true rfl⟩) (zpreV hK hw hS hA zZ.nil hN (List.range (mW ct h0 y r q).length) mWn (zrange _) 11 0 rfl mWo) rfl rfl hl.1 rfl (lv_room (Nat.le_of_ble_eq_true rfl)) dX12_needsWord_10 ⟨Nat.le_of_ble_eq_true rfl, Nat.le_of_ble_eq_true rfl⟩) hw hS hA 13 rfl (fun u9 H locs pu9 hw hS => ?_)
    obtain ⟨v10, r11⟩ := u9
    have hv10 : zI 0 0 v10 := pu9.1
    have ju9 : mJ B r11 := pu9.2.1
    have fu9 : zFr [109] r r11 := pu9.2.2.1
    have xu9 : (v10, r11) = (Gm_fails (1 : Int32) r q) := pu9.2.2.2.1
    have hE := zc_vrE xu9 hE
    have hw : zPD D A (mW ct h0 y r11 q) H := hw
    refine zfr 13 [.int v10] rfl rfl ?_
    exact ziretQ hQ hx hb hr ((hv10.w (c := 0) (d := 1) (by decide)).rn) hlocks (v10, r11, q) rfl ⟨(hv10.w (c := 0) (d := 1) (by decide)), ju9, ((zFr.refl).tr fu9 rfl), (show mP r11 from (mP.fr x1 (fu9 103 rfl) (fu9 104 rfl) (fu9 105 rfl) (fu9 106 rfl))), (show (r 105 0).toInt ≤ (r11 105 0).toInt from (by have := congrArg Int32.toInt (congrFun (fu9 105 rfl) 0); omega)), (hE.symm.trans hX), trivial⟩ hw hS dX12_needsWord_13

set_option maxHeartbeats 4000000 in
set_option maxRecDepth 100000 in
theorem mc_needsBoth (l : Launch) (D : va_G) (ct : Nat → ClassId) (h0 : Nat) (y : Nat → Nat) (B : Int) (a1 : Int64) (a2 : Int32) (a3 : Int32) (r : zRr) (q : zRq) (hJ0 : mJ B r) (x1 : mP r) : zC l yX12_needsBoth (.code yX12_needsBoth cX12_needsBoth 5 (some .boolean) :: wsL_law0) ({ frames := 4, cells := 0, slots := 0, locals := 200 }) D ct [] [.ref h0, .long a1, .int a2, .int a3] (mW ct h0 y r q) (S := Int32 × zRr × zRq) (fun u => some (.int u.1)) (fun u => zI 0 1 u.1 ∧ mJ B u.2.1 ∧ zFr [104, 105, 106, 108, 109, 136] r u.2.1 ∧ (mP u.2.1) ∧ ((r 105 0).toInt ≤ (u.2.1 105 0).toInt) ∧ (¬ u.1 = 0 → zI 0 9999 (u.2.1 136 0)) ∧ u = (Gm_needsBoth a1 a2 a3 r q) ∧ True) (fun u => mW ct h0 y u.2.1 u.2.2) 0 0 := by
  refine zofQ cX12_needsBoth 5 (some .boolean) (by decide) rfl (Nat.le_of_ble_eq_true rfl) ?_
  intro p e s m below meth c A a9 Q ha9 hx hb hr hml hts hown hlocks hname hK hA hZ hN hQ
  have hown : s.vm.findClass RX12 = some m.cls := hown
  obtain ⟨X, hX⟩ : ∃ X, X = (Gm_needsBoth a1 a2 a3 r q) := ⟨_, rfl⟩
  intro H locs hw hS ls hl
  have hl : lv_has ls 5 [(0, .ref h0), (1, .long a1), (3, .int a2), (4, .int a3)] := hl
  have hE := hX
  unfold Gm_needsBoth at hE
  refine lv_aload_n hx hb dX12_needsBoth_0 rfl (lv_at hl 0 rfl) ?_
  refine lv_lload_n hx hb dX12_needsBoth_1 rfl (lv_at hl 1 rfl) ?_
  refine zcallW (va_runV (As := [.long a1]) (rest := []) ⟨hx, hb, hml, hown, hts⟩ (mc_needsWord l D ct h0 y B a1 r q hJ0 (x1) H.size) (cwV 1 hts (kgV (zr25 3 rfl) (zr25 4 rfl) (zr25 5 rfl) (zr1 5 rfl) (zr25 6 rfl)) rfl rfl rfl (by decide +kernel) ⟨Nat.le_of_ble_eq_true rfl, Nat.le_of_ble_eq_true rfl⟩) (zpreV hK hw hS hA zZ.nil hN (List.range (mW ct h0 y r q).length) mWn (zrange _) 11 0 rfl mWo) rfl rfl hl.1 rfl (lv_room (Nat.le_of_ble_eq_true rfl)) dX12_needsBoth_2 ⟨Nat.le_of_ble_eq_true rfl, Nat.le_of_ble_eq_true rfl⟩) hw hS hA 5 rfl (fun u1 H locs pu1 hw hS => ?_)
  obtain ⟨v2, r3, q4⟩ := u1
  have hv2 : zI 0 1 v2 := pu1.1
  have ju1 : mJ B r3 := pu1.2.1
  have fu1 : zFr [104, 105, 106, 108, 109] r r3 := pu1.2.2.1
  have yu1_0 : mP r3 := pu1.2.2.2.1
  have yu1_1 : (r 105 0).toInt ≤ (r3 105 0).toInt := pu1.2.2.2.2.1
  have xu1 : (v2, r3, q4) = (Gm_needsWord a1 r q) := pu1.2.2.2.2.2.1
  have hE := zc_vrqE xu1 hE
  have hw : zPD D A (mW ct h0 y r3 q4) H := hw
  refine zfr 5 [.int v2] rfl rfl ?_
  refine lv_if_eq (tgt := 22) hx hb dX12_needsBoth_5 (by decide) (fun c5 => ?_) (fun c5 => ?_)
  · have hE := zifT c5 hE
    have k6 : zI 0 0 (v2) := zI.eqq c5 (zI.lit (a := 0) (b := 0) (c := 0) (by decide))
    refine lv_iconst (v := 0) hx hb dX12_needsBoth_22 (by decide) ?_
    exact ziretQ hQ hx hb hr rfl hlocks (0, r3, q4) rfl ⟨((zI.lit (a := 0) (b := 0) (c := 0) (by decide)).w (c := 0) (d := 1) (by decide)), ju1, ((zFr.refl).tr fu1 rfl), (show mP r3 from yu1_0), (show (r 105 0).toInt ≤ (r3 105 0).toInt from (by have := yu1_1; omega)), (fun h => absurd rfl h), (hE.symm.trans hX), trivial⟩ hw hS dX12_needsBoth_23
  · have hE := zifF c5 hE
    have k7 : zI 1 1 (v2) := zI.neD c5 hv2 (zI.lit (a := 0) (b := 0) (c := 0) (by decide)) (by decide)
    refine lv_aload_n hx hb dX12_needsBoth_8 rfl (lv_at hl 0 rfl) ?_
    refine lv_iload_n hx hb dX12_needsBoth_9 rfl (lv_at hl 2 rfl) ?_
    refine lv_iload hx hb dX12_needsBoth_10 (lv_at hl 3 rfl) ?_
    refine zcallW (va_runV (As := [.int a2, .int a3]) (rest := []) ⟨hx, hb, hml, hown, hts⟩ (mc_needsNumber l D ct h0 y B a2 a3 r3 q4 ju1 (yu1_0) H.size) (cwV 2 hts (kgV (zr25 7 rfl) (zr25 8 rfl) (zr25 9 rfl) (zr1 5 rfl) (zr25 10 rfl)) rfl rfl rfl (by decide +kernel) ⟨Nat.le_of_ble_eq_true rfl, Nat.le_of_ble_eq_true rfl⟩) (zpreV hK hw hS hA zZ.nil hN (List.range (mW ct h0 y r3 q4).length) mWn (zrange _) 11 0 rfl mWo) rfl rfl hl.1 rfl (lv_room (Nat.le_of_ble_eq_true rfl)) dX12_needsBoth_12 ⟨Nat.le_of_ble_eq_true rfl, Nat.le_of_ble_eq_true rfl⟩) hw hS hA 15 rfl (fun u8 H locs pu8 hw hS => ?_)
    obtain ⟨v9, r10, q11⟩ := u8
    have hv9 : zI 0 1 v9 := pu8.1
    have ju8 : mJ B r10 := pu8.2.1
    have fu8 : zFr [104, 105, 106, 108, 109, 136] r3 r10 := pu8.2.2.1
    have yu8_0 : mP r10 := pu8.2.2.2.1
    have yu8_1 : (r3 105 0).toInt ≤ (r10 105 0).toInt := pu8.2.2.2.2.1
    have yu8_2 : ¬ v9 = 0 → zI 0 9999 (r10 136 0) := pu8.2.2.2.2.2.1
    have xu8 : (v9, r10, q11) = (Gm_needsNumber a2 a3 r3 q4) := pu8.2.2.2.2.2.2.1
    have hE := zc_vrqE xu8 hE
    have hw : zPD D A (mW ct h0 y r10 q11) H := hw
    refine zfr 15 [.int v9] rfl rfl ?_
    refine lv_if_eq (tgt := 22) hx hb dX12_needsBoth_15 (by decide) (fun c12 => ?_) (fun c12 => ?_)
    · have hE := zifT c12 hE
      have k13 : zI 0 0 (v9) := zI.eqq c12 (zI.lit (a := 0) (b := 0) (c := 0) (by decide))
      refine lv_iconst (v := 0) hx hb dX12_needsBoth_22 (by decide) ?_
      exact ziretQ hQ hx hb hr rfl hlocks (0, r10, q11) rfl ⟨((zI.lit (a := 0) (b := 0) (c := 0) (by decide)).w (c := 0) (d := 1) (by decide)), ju8, (((zFr.refl).tr fu1 rfl).tr fu8 rfl), (show mP r10 from yu8_0), (show (r 105 0).toInt ≤ (r10 105 0).toInt from (by have := yu8_1; have := yu1_1; omega)), (fun h => absurd rfl h), (hE.symm.trans hX), trivial⟩ hw hS dX12_needsBoth_23
    · have hE := zifF c12 hE
      have k14 : zI 1 1 (v9) := zI.neD c12 hv9 (zI.lit (a := 0) (b := 0) (c := 0) (by decide)) (by decide)
      refine lv_iconst (v := 1) hx hb dX12_needsBoth_18 (by decide) ?_
      refine lv_goto (tgt := 23) hx hb dX12_needsBoth_19 (by decide) ?_
      exact ziretQ hQ hx hb hr rfl hlocks (1, r10, q11) rfl ⟨((zI.lit (a := 1) (b := 1) (c := 1) (by decide)).w (c := 0) (d := 1) (by decide)), ju8, (((zFr.refl).tr fu1 rfl).tr fu8 rfl), (show mP r10 from yu8_0), (show (r 105 0).toInt ≤ (r10 105 0).toInt from (by have := yu8_1; have := yu1_1; omega)), (fun _ => (yu8_2 c12)), (hE.symm.trans hX), trivial⟩ hw hS dX12_needsBoth_23

set_option maxHeartbeats 4000000 in
set_option maxRecDepth 100000 in
theorem mc_closes (l : Launch) (D : va_G) (ct : Nat → ClassId) (h0 : Nat) (y : Nat → Nat) (B : Int) (r : zRr) (q : zRq) (hJ0 : mJ B r) (x1 : mP r) : zC l yX12_closes (.code yX12_closes cX12_closes 1 (some .boolean) :: wsL_law0) ({ frames := 3, cells := 0, slots := 0, locals := 160 }) D ct [] [.ref h0] (mW ct h0 y r q) (S := Int32 × zRr × zRq) (fun u => some (.int u.1)) (fun u => zI 0 1 u.1 ∧ mJ B u.2.1 ∧ zFr [104, 105, 106, 108, 109] r u.2.1 ∧ (mP u.2.1) ∧ ((r 105 0).toInt ≤ (u.2.1 105 0).toInt) ∧ u = (Gm_closes r q) ∧ True) (fun u => mW ct h0 y u.2.1 u.2.2) 0 0 := by
  refine zofQ cX12_closes 1 (some .boolean) (by decide) rfl (Nat.le_of_ble_eq_true rfl) ?_
  intro p e s m below meth c A a9 Q ha9 hx hb hr hml hts hown hlocks hname hK hA hZ hN hQ
  have hown : s.vm.findClass RX12 = some m.cls := hown
  obtain ⟨X, hX⟩ : ∃ X, X = (Gm_closes r q) := ⟨_, rfl⟩
  intro H locs hw hS ls hl
  have hl : lv_has ls 1 [(0, .ref h0)] := hl
  have hE := hX
  unfold Gm_closes at hE
  refine lv_aload_n hx hb dX12_closes_0 rfl (lv_at hl 0 rfl) ?_
  refine lv_bipush (v := 59) hx hb dX12_closes_1 (by decide) ?_
  refine zcallW (va_runV (As := [.int 59]) (rest := []) ⟨hx, hb, hml, hown, hts⟩ (mc_isSign l D ct h0 y B 59 r q hJ0 (x1) H.size) (cwV 1 hts (kgV (zr25 18 rfl) (zr25 19 rfl) (zr25 20 rfl) (zr1 5 rfl) (zr25 21 rfl)) rfl rfl rfl (by decide +kernel) ⟨Nat.le_of_ble_eq_true rfl, Nat.le_of_ble_eq_true rfl⟩) (zpreV hK hw hS hA zZ.nil hN (List.range (mW ct h0 y r q).length) mWn (zrange _) 11 0 rfl mWo) rfl rfl hl.1 rfl (lv_room (Nat.le_of_ble_eq_true rfl)) dX12_closes_3 ⟨Nat.le_of_ble_eq_true rfl, Nat.le_of_ble_eq_true rfl⟩) hw hS hA 6 rfl (fun u1 H locs pu1 hw hS => ?_)
  have hu1 : zI 0 1 u1 := pu1.1
  have yu1_0 : ¬ u1 = 0 → zI 3 3 (r 106 0) := pu1.2.1
  have xu1 : u1 = (Gm_isSign (59 : Int32) r q) := pu1.2.2.1
  have hE := zletE xu1 hE
  have hw : zPD D A (mW ct h0 y r q) H := hw
  refine zfr 6 [.int u1] rfl rfl ?_
  refine lv_if_ne (tgt := 15) hx hb dX12_closes_6 (by decide) (fun c3 => ?_) (fun c3 => ?_)
  · have hE := zifnT c3 hE
    have k4 : zI 1 1 (u1) := zI.neD c3 hu1 (zI.lit (a := 0) (b := 0) (c := 0) (by decide)) (by decide)
    refine lv_aload_n hx hb dX12_closes_15 rfl (lv_at hl 0 rfl) ?_
    refine zcallW (va_runV (As := []) (rest := []) ⟨hx, hb, hml, hown, hts⟩ (mc_nextToken l D ct h0 y B r q hJ0 ((x1).2.1) H.size) (cwV 0 hts (kgV (zr22 13 rfl) (zr22 14 rfl) (zr22 15 rfl) (zr1 5 rfl) (zr22 16 rfl)) rfl rfl rfl (by decide +kernel) ⟨Nat.le_of_ble_eq_true rfl, Nat.le_of_ble_eq_true rfl⟩) (zpreV hK hw hS hA zZ.nil hN (List.range (mW ct h0 y r q).length) mWn (zrange _) 11 0 rfl mWo) rfl rfl hl.1 rfl (lv_room (Nat.le_of_ble_eq_true rfl)) dX12_closes_16 ⟨Nat.le_of_ble_eq_true rfl, Nat.le_of_ble_eq_true rfl⟩) hw hS hA 19 rfl (fun u5 H locs pu5 hw hS => ?_)
    obtain ⟨r6, q7⟩ := u5
    have ju5 : mJ B r6 := pu5.1
    have fu5 : zFr [104, 105, 106, 108] r r6 := pu5.2.1
    have yu5_0 : mP r6 := pu5.2.2.1
    have yu5_1 : (r 104 0).toInt ≤ (r6 105 0).toInt := pu5.2.2.2.1
    have xu5 : (r6, q7) = (Gm_nextToken r q) := pu5.2.2.2.2.1
    have hE := zc_rqE xu5 hE
    have hw : zPD D A (mW ct h0 y r6 q7) H := hw
    refine zfr 19 [] rfl rfl ?_
    refine lv_iconst (v := 1) hx hb dX12_closes_19 (by decide) ?_
    exact ziretQ hQ hx hb hr rfl hlocks (1, r6, q7) rfl ⟨((zI.lit (a := 1) (b := 1) (c := 1) (by decide)).w (c := 0) (d := 1) (by decide)), ju5, ((zFr.refl).tr fu5 rfl), (show mP r6 from yu5_0), (show (r 105 0).toInt ≤ (r6 105 0).toInt from (by have := yu5_1; have := (x1).1; omega)), (hE.symm.trans hX), trivial⟩ hw hS dX12_closes_20
  · have hE := zifnF c3 hE
    have k8 : zI 0 0 (u1) := zI.eqq c3 (zI.lit (a := 0) (b := 0) (c := 0) (by decide))
    refine lv_aload_n hx hb dX12_closes_9 rfl (lv_at hl 0 rfl) ?_
    refine lv_iconst (v := 1) hx hb dX12_closes_10 (by decide) ?_
    refine zcallW (va_runV (As := [.int 1]) (rest := []) ⟨hx, hb, hml, hown, hts⟩ (mc_fails l D ct h0 y B 1 r q ((zI.lit (a := 1) (b := 1) (c := 1) (by decide)).w (c := 1) (d := 5) (by decide)) hJ0 H.size) (cwV 1 hts (kgV (zr23 13 rfl) (zr23 14 rfl) (zr23 15 rfl) (zr1 5 rfl) (zr23 16 rfl)) rfl rfl rfl (by decide +kernel) ⟨Nat.le_of_ble_eq_true rfl, Nat.le_of_ble_eq_true rfl⟩) (zpreV hK hw hS hA zZ.nil hN (List.range (mW ct h0 y r q).length) mWn (zrange _) 11 0 rfl mWo) rfl rfl hl.1 rfl (lv_room (Nat.le_of_ble_eq_true rfl)) dX12_closes_11 ⟨Nat.le_of_ble_eq_true rfl, Nat.le_of_ble_eq_true rfl⟩) hw hS hA 14 rfl (fun u9 H locs pu9 hw hS => ?_)
    obtain ⟨v10, r11⟩ := u9
    have hv10 : zI 0 0 v10 := pu9.1
    have ju9 : mJ B r11 := pu9.2.1
    have fu9 : zFr [109] r r11 := pu9.2.2.1
    have xu9 : (v10, r11) = (Gm_fails (1 : Int32) r q) := pu9.2.2.2.1
    have hE := zc_vrE xu9 hE
    have hw : zPD D A (mW ct h0 y r11 q) H := hw
    refine zfr 14 [.int v10] rfl rfl ?_
    exact ziretQ hQ hx hb hr ((hv10.w (c := 0) (d := 1) (by decide)).rn) hlocks (v10, r11, q) rfl ⟨(hv10.w (c := 0) (d := 1) (by decide)), ju9, ((zFr.refl).tr fu9 rfl), (show mP r11 from (mP.fr x1 (fu9 103 rfl) (fu9 104 rfl) (fu9 105 rfl) (fu9 106 rfl))), (show (r 105 0).toInt ≤ (r11 105 0).toInt from (by have := congrArg Int32.toInt (congrFun (fu9 105 rfl) 0); omega)), (hE.symm.trans hX), trivial⟩ hw hS dX12_closes_14

set_option maxHeartbeats 4000000 in
set_option maxRecDepth 100000 in
theorem mc_needsNew (l : Launch) (D : va_G) (ct : Nat → ClassId) (h0 : Nat) (y : Nat → Nat) (B : Int) (r : zRr) (q : zRq) (hJ0 : mJ B r) (x1 : mP r) : zC l yX12_needsNew (.code yX12_needsNew cX12_needsNew 1 (some .boolean) :: wsL_law0) ({ frames := 3, cells := 0, slots := 0, locals := 160 }) D ct [] [.ref h0] (mW ct h0 y r q) (S := Int32 × zRr × zRq) (fun u => some (.int u.1)) (fun u => zI 0 1 u.1 ∧ mJ B u.2.1 ∧ zFr [104, 105, 106, 108, 109] r u.2.1 ∧ (mP u.2.1) ∧ ((r 105 0).toInt ≤ (u.2.1 105 0).toInt) ∧ u = (Gm_needsNew r q) ∧ True) (fun u => mW ct h0 y u.2.1 u.2.2) 0 0 := by
  refine zofQ cX12_needsNew 1 (some .boolean) (by decide) rfl (Nat.le_of_ble_eq_true rfl) ?_
  intro p e s m below meth c A a9 Q ha9 hx hb hr hml hts hown hlocks hname hK hA hZ hN hQ
  have hown : s.vm.findClass RX12 = some m.cls := hown
  have hiX12 : ∀ w ∈ wsX120, w ∈ .code yX12_needsNew cX12_needsNew 1 (some .boolean) :: wsL_law0 := fun _ h => ki (zs_wsX120 _ h)
  have lf147 := hts (.fieldLink RX12 147 "BeardPassModel" "word" "J") (ki (zr22 18 rfl))
  have lf276 := hts (.fieldLink RX12 276 "BeardPassModel" "fresh" "J") (ki (zr23 12 rfl))
  obtain ⟨X, hX⟩ : ∃ X, X = (Gm_needsNew r q) := ⟨_, rfl⟩
  intro H locs hw hS ls hl
  have hl : lv_has ls 1 [(0, .ref h0)] := hl
  have hE := hX
  unfold Gm_needsNew at hE
  refine lv_aload_n hx hb dX12_needsNew_0 rfl (lv_at hl 0 rfl) ?_
  refine zcallW (va_runV (As := []) (rest := []) ⟨hx, hb, hml, hown, hts⟩ (mc_isKept l D ct h0 y B r q hJ0 H.size) (cwV 0 hts (kgV (zr23 21 rfl) (zr23 22 rfl) (zr23 23 rfl) (zr1 5 rfl) (zr24 0 rfl)) rfl rfl rfl (by decide +kernel) ⟨Nat.le_of_ble_eq_true rfl, Nat.le_of_ble_eq_true rfl⟩) (zpreV hK hw hS hA zZ.nil hN (List.range (mW ct h0 y r q).length) mWn (zrange _) 11 0 rfl mWo) rfl rfl hl.1 rfl (lv_room (Nat.le_of_ble_eq_true rfl)) dX12_needsNew_1 ⟨Nat.le_of_ble_eq_true rfl, Nat.le_of_ble_eq_true rfl⟩) hw hS hA 4 rfl (fun u1 H locs pu1 hw hS => ?_)
  have hu1 : zI 0 1 u1 := pu1.1
  have yu1_0 : u1 = 0 → zI 1 1 (r 106 0) := pu1.2.1
  have xu1 : u1 = (Gm_isKept r q) := pu1.2.2.1
  have hE := zletE xu1 hE
  have hw : zPD D A (mW ct h0 y r q) H := hw
  refine zfr 4 [.int u1] rfl rfl ?_
  refine lv_if_eq (tgt := 13) hx hb dX12_needsNew_4 (by decide) (fun c3 => ?_) (fun c3 => ?_)
  · have hE := zifT c3 hE
    have k4 : zI 0 0 (u1) := zI.eqq c3 (zI.lit (a := 0) (b := 0) (c := 0) (by decide))
    refine lv_aload_n hx hb dX12_needsNew_13 rfl (lv_at hl 0 rfl) ?_
    refine lv_iconst (v := 1) hx hb dX12_needsNew_14 (by decide) ?_
    refine zcallW (va_runV (As := [.int 1]) (rest := []) ⟨hx, hb, hml, hown, hts⟩ (mc_townNamed1 l D ct h0 y B r q hJ0 H.size) (cwV 1 hts (kgV (zr24 15 rfl) (zr24 16 rfl) (zr24 17 rfl) (zr1 5 rfl) (zr24 18 rfl)) rfl rfl rfl (by decide +kernel) ⟨Nat.le_of_ble_eq_true rfl, Nat.le_of_ble_eq_true rfl⟩) (zpreV hK hw hS hA zZ.nil hN (List.range (mW ct h0 y r q).length) mWn (zrange _) 11 0 rfl mWo) rfl rfl hl.1 rfl (lv_room (Nat.le_of_ble_eq_true rfl)) dX12_needsNew_15 ⟨Nat.le_of_ble_eq_true rfl, Nat.le_of_ble_eq_true rfl⟩) hw hS hA 18 rfl (fun u5 H locs pu5 hw hS => ?_)
    have hu5 : zI (-1) 5 u5 := pu5.1
    have yu5_0 : (0 ≤ u5.toInt → 1 ≤ (r 1 4).toInt) := pu5.2.1
    have xu5 : u5 = (Gm_townNamed1 r q) := pu5.2.2.1
    have hE := zletE xu5 hE
    have hw : zPD D A (mW ct h0 y r q) H := hw
    refine zfr 18 [.int u5] rfl rfl ?_
    refine lv_if_ge (tgt := 29) hx hb dX12_needsNew_18 (by decide) (fun c7 => ?_) (fun c7 => ?_)
    · have hE := zifT c7 hE
      have k8 : zI 0 5 (u5) := zI.leD c7 (zI.lit (a := 0) (b := 0) (c := 0) (by decide)) hu5 (by decide)
      refine lv_aload_n hx hb dX12_needsNew_29 rfl (lv_at hl 0 rfl) ?_
      refine lv_iconst (v := 3) hx hb dX12_needsNew_30 (by decide) ?_
      refine zcallW (va_runV (As := [.int 3]) (rest := []) ⟨hx, hb, hml, hown, hts⟩ (mc_fails l D ct h0 y B 3 r q ((zI.lit (a := 3) (b := 3) (c := 3) (by decide)).w (c := 1) (d := 5) (by decide)) hJ0 H.size) (cwV 1 hts (kgV (zr23 13 rfl) (zr23 14 rfl) (zr23 15 rfl) (zr1 5 rfl) (zr23 16 rfl)) rfl rfl rfl (by decide +kernel) ⟨Nat.le_of_ble_eq_true rfl, Nat.le_of_ble_eq_true rfl⟩) (zpreV hK hw hS hA zZ.nil hN (List.range (mW ct h0 y r q).length) mWn (zrange _) 11 0 rfl mWo) rfl rfl hl.1 rfl (lv_room (Nat.le_of_ble_eq_true rfl)) dX12_needsNew_31 ⟨Nat.le_of_ble_eq_true rfl, Nat.le_of_ble_eq_true rfl⟩) hw hS hA 34 rfl (fun u9 H locs pu9 hw hS => ?_)
      obtain ⟨v10, r11⟩ := u9
      have hv10 : zI 0 0 v10 := pu9.1
      have ju9 : mJ B r11 := pu9.2.1
      have fu9 : zFr [109] r r11 := pu9.2.2.1
      have xu9 : (v10, r11) = (Gm_fails (3 : Int32) r q) := pu9.2.2.2.1
      have hE := zc_vrE xu9 hE
      have hw : zPD D A (mW ct h0 y r11 q) H := hw
      refine zfr 34 [.int v10] rfl rfl ?_
      exact ziretQ hQ hx hb hr ((hv10.w (c := 0) (d := 1) (by decide)).rn) hlocks (v10, r11, q) rfl ⟨(hv10.w (c := 0) (d := 1) (by decide)), ju9, ((zFr.refl).tr fu9 rfl), (show mP r11 from (mP.fr x1 (fu9 103 rfl) (fu9 104 rfl) (fu9 105 rfl) (fu9 106 rfl))), (show (r 105 0).toInt ≤ (r11 105 0).toInt from (by have := congrArg Int32.toInt (congrFun (fu9 105 rfl) 0); omega)), (hE.symm.trans hX), trivial⟩ hw hS dX12_needsNew_34
    · have hE := zifF c7 hE
      have k12 : zI (-1) (-1) (u5) := zI.ltU (zI.nle c7) hu5 (zI.lit (a := 0) (b := 0) (c := 0) (by decide)) (by decide)
      refine lv_aload_n hx hb dX12_needsNew_21 rfl (lv_at hl 0 rfl) ?_
      refine lv_iconst (v := 1) hx hb dX12_needsNew_22 (by decide) ?_
      refine zcallW (va_runV (As := [.int 1]) (rest := []) ⟨hx, hb, hml, hown, hts⟩ (mc_personNamed1 l D ct h0 y B r q hJ0 H.size) (cwV 1 hts (kgV (zr24 19 rfl) (zr24 20 rfl) (zr24 21 rfl) (zr1 5 rfl) (zr24 22 rfl)) rfl rfl rfl (by decide +kernel) ⟨Nat.le_of_ble_eq_true rfl, Nat.le_of_ble_eq_true rfl⟩) (zpreV hK hw hS hA zZ.nil hN (List.range (mW ct h0 y r q).length) mWn (zrange _) 11 0 rfl mWo) rfl rfl hl.1 rfl (lv_room (Nat.le_of_ble_eq_true rfl)) dX12_needsNew_23 ⟨Nat.le_of_ble_eq_true rfl, Nat.le_of_ble_eq_true rfl⟩) hw hS hA 26 rfl (fun u13 H locs pu13 hw hS => ?_)
      have hu13 : zI (-1) 5 u13 := pu13.1
      have xu13 : u13 = (Gm_personNamed1 r q) := pu13.2.1
      have hE := zletE xu13 hE
      have hw : zPD D A (mW ct h0 y r q) H := hw
      refine zfr 26 [.int u13] rfl rfl ?_
      refine lv_if_lt (tgt := 35) hx hb dX12_needsNew_26 (by decide) (fun c15 => ?_) (fun c15 => ?_)
      · have hE := zifT c15 hE
        have k16 : zI (-1) (-1) (u13) := zI.ltU c15 hu13 (zI.lit (a := 0) (b := 0) (c := 0) (by decide)) (by decide)
        refine lv_aload_n hx hb dX12_needsNew_35 rfl (lv_at hl 0 rfl) ?_
        refine lv_aload_n hx hb dX12_needsNew_36 rfl (lv_at hl 0 rfl) ?_
        refine mget (v := .long (q 107 0)) hx hb hts hiX12 hown hK hw 7 (by decide) lf147 rfl rfl dX12_needsNew_37 (zgenLE (fun v17 ev17 => ?_))
        have hE := zletE ev17 hE
        refine mput (ty := .long) (v := .long v17) hx hb hts hiX12 hown hK hw hS 37 (by decide) lf276 rfl rfl (by decide +kernel) rfl rfl dX12_needsNew_40 _ (zset q 137 (fun _ => v17)) mWf37 (fun H locs hw hS => ?_)
        refine mqgen hw (fun q18 eq18 hw => ?_)
        have hE := zletE eq18 hE
        refine lv_aload_n hx hb dX12_needsNew_43 rfl (lv_at hl 0 rfl) ?_
        refine zcallW (va_runV (As := []) (rest := []) ⟨hx, hb, hml, hown, hts⟩ (mc_nextToken l D ct h0 y B r q18 hJ0 ((x1).2.1) H.size) (cwV 0 hts (kgV (zr22 13 rfl) (zr22 14 rfl) (zr22 15 rfl) (zr1 5 rfl) (zr22 16 rfl)) rfl rfl rfl (by decide +kernel) ⟨Nat.le_of_ble_eq_true rfl, Nat.le_of_ble_eq_true rfl⟩) (zpreV hK hw hS hA zZ.nil hN (List.range (mW ct h0 y r q18).length) mWn (zrange _) 11 0 rfl mWo) rfl rfl hl.1 rfl (lv_room (Nat.le_of_ble_eq_true rfl)) dX12_needsNew_44 ⟨Nat.le_of_ble_eq_true rfl, Nat.le_of_ble_eq_true rfl⟩) hw hS hA 47 rfl (fun u19 H locs pu19 hw hS => ?_)
        obtain ⟨r20, q21⟩ := u19
        have ju19 : mJ B r20 := pu19.1
        have fu19 : zFr [104, 105, 106, 108] r r20 := pu19.2.1
        have yu19_0 : mP r20 := pu19.2.2.1
        have yu19_1 : (r 104 0).toInt ≤ (r20 105 0).toInt := pu19.2.2.2.1
        have xu19 : (r20, q21) = (Gm_nextToken r q18) := pu19.2.2.2.2.1
        have hE := zc_rqE xu19 hE
        have hw : zPD D A (mW ct h0 y r20 q21) H := hw
        refine zfr 47 [] rfl rfl ?_
        refine lv_iconst (v := 1) hx hb dX12_needsNew_47 (by decide) ?_
        exact ziretQ hQ hx hb hr rfl hlocks (1, r20, q21) rfl ⟨((zI.lit (a := 1) (b := 1) (c := 1) (by decide)).w (c := 0) (d := 1) (by decide)), ju19, ((zFr.refl).tr fu19 rfl), (show mP r20 from yu19_0), (show (r 105 0).toInt ≤ (r20 105 0).toInt from (by have := yu19_1; have := (x1).1; omega)), (hE.symm.trans hX), trivial⟩ hw hS dX12_needsNew_48
      · have hE := zifF c15 hE
        have k22 : zI 0 5 (u13) := zI.leD (zI.nlt c15) (zI.lit (a := 0) (b := 0) (c := 0) (by decide)) hu13 (by decide)
        refine lv_aload_n hx hb dX12_needsNew_29 rfl (lv_at hl 0 rfl) ?_
        refine lv_iconst (v := 3) hx hb dX12_needsNew_30 (by decide) ?_
        refine zcallW (va_runV (As := [.int 3]) (rest := []) ⟨hx, hb, hml, hown, hts⟩ (mc_fails l D ct h0 y B 3 r q ((zI.lit (a := 3) (b := 3) (c := 3) (by decide)).w (c := 1) (d := 5) (by decide)) hJ0 H.size) (cwV 1 hts (kgV (zr23 13 rfl) (zr23 14 rfl) (zr23 15 rfl) (zr1 5 rfl) (zr23 16 rfl)) rfl rfl rfl (by decide +kernel) ⟨Nat.le_of_ble_eq_true rfl, Nat.le_of_ble_eq_true rfl⟩) (zpreV hK hw hS hA zZ.nil hN (List.range (mW ct h0 y r q).length) mWn (zrange _) 11 0 rfl mWo) rfl rfl hl.1 rfl (lv_room (Nat.le_of_ble_eq_true rfl)) dX12_needsNew_31 ⟨Nat.le_of_ble_eq_true rfl, Nat.le_of_ble_eq_true rfl⟩) hw hS hA 34 rfl (fun u23 H locs pu23 hw hS => ?_)
        obtain ⟨v24, r25⟩ := u23
        have hv24 : zI 0 0 v24 := pu23.1
        have ju23 : mJ B r25 := pu23.2.1
        have fu23 : zFr [109] r r25 := pu23.2.2.1
        have xu23 : (v24, r25) = (Gm_fails (3 : Int32) r q) := pu23.2.2.2.1
        have hE := zc_vrE xu23 hE
        have hw : zPD D A (mW ct h0 y r25 q) H := hw
        refine zfr 34 [.int v24] rfl rfl ?_
        exact ziretQ hQ hx hb hr ((hv24.w (c := 0) (d := 1) (by decide)).rn) hlocks (v24, r25, q) rfl ⟨(hv24.w (c := 0) (d := 1) (by decide)), ju23, ((zFr.refl).tr fu23 rfl), (show mP r25 from (mP.fr x1 (fu23 103 rfl) (fu23 104 rfl) (fu23 105 rfl) (fu23 106 rfl))), (show (r 105 0).toInt ≤ (r25 105 0).toInt from (by have := congrArg Int32.toInt (congrFun (fu23 105 rfl) 0); omega)), (hE.symm.trans hX), trivial⟩ hw hS dX12_needsNew_34
  · have hE := zifF c3 hE
    have k26 : zI 1 1 (u1) := zI.neD c3 hu1 (zI.lit (a := 0) (b := 0) (c := 0) (by decide)) (by decide)
    refine lv_aload_n hx hb dX12_needsNew_7 rfl (lv_at hl 0 rfl) ?_
    refine lv_iconst (v := 1) hx hb dX12_needsNew_8 (by decide) ?_
    refine zcallW (va_runV (As := [.int 1]) (rest := []) ⟨hx, hb, hml, hown, hts⟩ (mc_fails l D ct h0 y B 1 r q ((zI.lit (a := 1) (b := 1) (c := 1) (by decide)).w (c := 1) (d := 5) (by decide)) hJ0 H.size) (cwV 1 hts (kgV (zr23 13 rfl) (zr23 14 rfl) (zr23 15 rfl) (zr1 5 rfl) (zr23 16 rfl)) rfl rfl rfl (by decide +kernel) ⟨Nat.le_of_ble_eq_true rfl, Nat.le_of_ble_eq_true rfl⟩) (zpreV hK hw hS hA zZ.nil hN (List.range (mW ct h0 y r q).length) mWn (zrange _) 11 0 rfl mWo) rfl rfl hl.1 rfl (lv_room (Nat.le_of_ble_eq_true rfl)) dX12_needsNew_9 ⟨Nat.le_of_ble_eq_true rfl, Nat.le_of_ble_eq_true rfl⟩) hw hS hA 12 rfl (fun u27 H locs pu27 hw hS => ?_)
    obtain ⟨v28, r29⟩ := u27
    have hv28 : zI 0 0 v28 := pu27.1
    have ju27 : mJ B r29 := pu27.2.1
    have fu27 : zFr [109] r r29 := pu27.2.2.1
    have xu27 : (v28, r29) = (Gm_fails (1 : Int32) r q) := pu27.2.2.2.1
    have hE := zc_vrE xu27 hE
    have hw : zPD D A (mW ct h0 y r29 q) H := hw
    refine zfr 12 [.int v28] rfl rfl ?_
    exact ziretQ hQ hx hb hr ((hv28.w (c := 0) (d := 1) (by decide)).rn) hlocks (v28, r29, q) rfl ⟨(hv28.w (c := 0) (d := 1) (by decide)), ju27, ((zFr.refl).tr fu27 rfl), (show mP r29 from (mP.fr x1 (fu27 103 rfl) (fu27 104 rfl) (fu27 105 rfl) (fu27 106 rfl))), (show (r 105 0).toInt ≤ (r29 105 0).toInt from (by have := congrArg Int32.toInt (congrFun (fu27 105 rfl) 0); omega)), (hE.symm.trans hX), trivial⟩ hw hS dX12_needsNew_12

set_option maxHeartbeats 4000000 in
set_option maxRecDepth 100000 in
theorem mc_needsTown0 (l : Launch) (D : va_G) (ct : Nat → ClassId) (h0 : Nat) (y : Nat → Nat) (B : Int) (r : zRr) (q : zRq) (hJ0 : mJ B r) : zC l yX12_needsTown (.code yX12_needsTown cX12_needsTown 2 (some .boolean) :: wsL_law0) ({ frames := 2, cells := 0, slots := 0, locals := 120 }) D ct [] [.ref h0, .int 0] (mW ct h0 y r q) (S := Int32 × zRr) (fun u => some (.int u.1)) (fun u => zI 0 1 u.1 ∧ mJ B u.2 ∧ zFr [136, 109] r u.2 ∧ (¬ u.1 = 0 → zI 0 5 (u.2 136 0)) ∧ u = (Gm_needsTown0 r q) ∧ True) (fun u => mW ct h0 y u.2 q) 0 0 := by
  refine zofQ cX12_needsTown 2 (some .boolean) (by decide) rfl (Nat.le_of_ble_eq_true rfl) ?_
  intro p e s m below meth c A a9 Q ha9 hx hb hr hml hts hown hlocks hname hK hA hZ hN hQ
  have hown : s.vm.findClass RX12 = some m.cls := hown
  have hiX12 : ∀ w ∈ wsX120, w ∈ .code yX12_needsTown cX12_needsTown 2 (some .boolean) :: wsL_law0 := fun _ h => ki (zs_wsX120 _ h)
  have lf256 := hts (.fieldLink RX12 256 "BeardPassModel" "given" "I") (ki (zr23 11 rfl))
  obtain ⟨X, hX⟩ : ∃ X, X = (Gm_needsTown0 r q) := ⟨_, rfl⟩
  intro H locs hw hS ls hl
  have hl : lv_has ls 2 [(0, .ref h0), (1, .int 0)] := hl
  have hE := hX
  unfold Gm_needsTown0 at hE
  refine lv_aload_n hx hb dX12_needsTown_0 rfl (lv_at hl 0 rfl) ?_
  refine zcallW (va_runV (As := []) (rest := []) ⟨hx, hb, hml, hown, hts⟩ (mc_isKept l D ct h0 y B r q hJ0 H.size) (cwV 0 hts (kgV (zr23 21 rfl) (zr23 22 rfl) (zr23 23 rfl) (zr1 5 rfl) (zr24 0 rfl)) rfl rfl rfl (by decide +kernel) ⟨Nat.le_of_ble_eq_true rfl, Nat.le_of_ble_eq_true rfl⟩) (zpreV hK hw hS hA zZ.nil hN (List.range (mW ct h0 y r q).length) mWn (zrange _) 11 0 rfl mWo) rfl rfl hl.1 rfl (lv_room (Nat.le_of_ble_eq_true rfl)) dX12_needsTown_1 ⟨Nat.le_of_ble_eq_true rfl, Nat.le_of_ble_eq_true rfl⟩) hw hS hA 4 rfl (fun u1 H locs pu1 hw hS => ?_)
  have hu1 : zI 0 1 u1 := pu1.1
  have yu1_0 : u1 = 0 → zI 1 1 (r 106 0) := pu1.2.1
  have xu1 : u1 = (Gm_isKept r q) := pu1.2.2.1
  have hE := zletE xu1 hE
  have hw : zPD D A (mW ct h0 y r q) H := hw
  refine zfr 4 [.int u1] rfl rfl ?_
  refine lv_if_eq (tgt := 13) hx hb dX12_needsTown_4 (by decide) (fun c3 => ?_) (fun c3 => ?_)
  · have hE := zifT c3 hE
    have k4 : zI 0 0 (u1) := zI.eqq c3 (zI.lit (a := 0) (b := 0) (c := 0) (by decide))
    refine lv_aload_n hx hb dX12_needsTown_13 rfl (lv_at hl 0 rfl) ?_
    refine lv_aload_n hx hb dX12_needsTown_14 rfl (lv_at hl 0 rfl) ?_
    refine lv_iload_n hx hb dX12_needsTown_15 rfl (lv_at hl 1 rfl) ?_
    refine zcallW (va_runV (As := [.int 0]) (rest := [.ref h0]) ⟨hx, hb, hml, hown, hts⟩ (mc_townNamed0 l D ct h0 y B r q hJ0 H.size) (cwV 1 hts (kgV (zr24 15 rfl) (zr24 16 rfl) (zr24 17 rfl) (zr1 5 rfl) (zr24 18 rfl)) rfl rfl rfl (by decide +kernel) ⟨Nat.le_of_ble_eq_true rfl, Nat.le_of_ble_eq_true rfl⟩) (zpreV hK hw hS hA zZ.nil hN (List.range (mW ct h0 y r q).length) mWn (zrange _) 11 0 rfl mWo) rfl rfl hl.1 rfl (lv_room (Nat.le_of_ble_eq_true rfl)) dX12_needsTown_16 ⟨Nat.le_of_ble_eq_true rfl, Nat.le_of_ble_eq_true rfl⟩) hw hS hA 19 rfl (fun u5 H locs pu5 hw hS => ?_)
    have hu5 : zI (-1) 5 u5 := pu5.1
    have xu5 : u5 = (Gm_townNamed0 r q) := pu5.2.1
    have hE := zletE xu5 hE
    have hw : zPD D A (mW ct h0 y r q) H := hw
    refine zfr 19 [.int u5, .ref h0] rfl rfl ?_
    refine mput (ty := .int) (v := .int u5) hx hb hts hiX12 hown hK hw hS 36 (by decide) lf256 rfl rfl (by decide +kernel) rfl rfl dX12_needsTown_19 (zset r 136 (fun _ => u5)) _ mWf36 (fun H locs hw hS => ?_)
    refine mgen (P := fun x => mJ B x ∧ zFr [136, 109] r x) hw ⟨hJ0.setc rfl (fun _ => (hu5.w (c := (-1)) (d := 9999) (by decide))), (zFr.refl).set rfl⟩ (fun r7 er7 hw pr7 => ?_)
    have hE := zletE er7 hE
    refine lv_aload_n hx hb dX12_needsTown_22 rfl (lv_at hl 0 rfl) ?_
    refine mget (v := .int (r7 136 0)) hx hb hts hiX12 hown hK hw 36 (by decide) lf256 rfl rfl dX12_needsTown_23 ?_
    refine lv_if_ge (tgt := 37) hx hb dX12_needsTown_26 (by decide) (fun c8 => ?_) (fun c8 => ?_)
    · have hE := zifT c8 hE
      have k9 : zI 0 5 (r7 136 0) := zI.leD c8 (zI.lit (a := 0) (b := 0) (c := 0) (by decide)) (zs_in er7 hu5) (by decide)
      refine lv_iconst (v := 1) hx hb dX12_needsTown_37 (by decide) ?_
      refine lv_goto (tgt := 42) hx hb dX12_needsTown_38 (by decide) ?_
      exact ziretQ hQ hx hb hr rfl hlocks (1, r7) rfl ⟨((zI.lit (a := 1) (b := 1) (c := 1) (by decide)).w (c := 0) (d := 1) (by decide)), pr7.1, pr7.2, (fun _ => k9), (hE.symm.trans hX), trivial⟩ hw hS dX12_needsTown_42
    · have hE := zifF c8 hE
      have k10 : zI (-1) (-1) (r7 136 0) := zI.ltU (zI.nle c8) (zs_in er7 hu5) (zI.lit (a := 0) (b := 0) (c := 0) (by decide)) (by decide)
      refine lv_aload_n hx hb dX12_needsTown_29 rfl (lv_at hl 0 rfl) ?_
      refine lv_iconst (v := 2) hx hb dX12_needsTown_30 (by decide) ?_
      refine zcallW (va_runV (As := [.int 2]) (rest := []) ⟨hx, hb, hml, hown, hts⟩ (mc_fails l D ct h0 y B 2 r7 q ((zI.lit (a := 2) (b := 2) (c := 2) (by decide)).w (c := 1) (d := 5) (by decide)) pr7.1 H.size) (cwV 1 hts (kgV (zr23 13 rfl) (zr23 14 rfl) (zr23 15 rfl) (zr1 5 rfl) (zr23 16 rfl)) rfl rfl rfl (by decide +kernel) ⟨Nat.le_of_ble_eq_true rfl, Nat.le_of_ble_eq_true rfl⟩) (zpreV hK hw hS hA zZ.nil hN (List.range (mW ct h0 y r7 q).length) mWn (zrange _) 11 0 rfl mWo) rfl rfl hl.1 rfl (lv_room (Nat.le_of_ble_eq_true rfl)) dX12_needsTown_31 ⟨Nat.le_of_ble_eq_true rfl, Nat.le_of_ble_eq_true rfl⟩) hw hS hA 34 rfl (fun u11 H locs pu11 hw hS => ?_)
      obtain ⟨v12, r13⟩ := u11
      have hv12 : zI 0 0 v12 := pu11.1
      have ju11 : mJ B r13 := pu11.2.1
      have fu11 : zFr [109] r7 r13 := pu11.2.2.1
      have xu11 : (v12, r13) = (Gm_fails (2 : Int32) r7 q) := pu11.2.2.2.1
      have hE := zc_vrE xu11 hE
      have hw : zPD D A (mW ct h0 y r13 q) H := hw
      refine zfr 34 [.int v12] rfl rfl ?_
      refine lv_if_eq (tgt := 41) hx hb dX12_needsTown_34 (by decide) (fun c14 => ?_) (fun c14 => ?_)
      · have hE := zifT c14 hE
        refine lv_iconst (v := 0) hx hb dX12_needsTown_41 (by decide) ?_
        exact ziretQ hQ hx hb hr rfl hlocks (0, r13) rfl ⟨((zI.lit (a := 0) (b := 0) (c := 0) (by decide)).w (c := 0) (d := 1) (by decide)), ju11, (pr7.2.tr fu11 rfl), (fun h => absurd rfl h), (hE.symm.trans hX), trivial⟩ hw hS dX12_needsTown_42
      · have hE := zifF c14 hE
        exact zI.abs (a := 1) (b := 0) (zI.neD c14 hv12 (zI.lit (a := 0) (b := 0) (c := 0) (by decide)) (by decide)) (by decide)
  · have hE := zifF c3 hE
    have k15 : zI 1 1 (u1) := zI.neD c3 hu1 (zI.lit (a := 0) (b := 0) (c := 0) (by decide)) (by decide)
    refine lv_aload_n hx hb dX12_needsTown_7 rfl (lv_at hl 0 rfl) ?_
    refine lv_iconst (v := 1) hx hb dX12_needsTown_8 (by decide) ?_
    refine zcallW (va_runV (As := [.int 1]) (rest := []) ⟨hx, hb, hml, hown, hts⟩ (mc_fails l D ct h0 y B 1 r q ((zI.lit (a := 1) (b := 1) (c := 1) (by decide)).w (c := 1) (d := 5) (by decide)) hJ0 H.size) (cwV 1 hts (kgV (zr23 13 rfl) (zr23 14 rfl) (zr23 15 rfl) (zr1 5 rfl) (zr23 16 rfl)) rfl rfl rfl (by decide +kernel) ⟨Nat.le_of_ble_eq_true rfl, Nat.le_of_ble_eq_true rfl⟩) (zpreV hK hw hS hA zZ.nil hN (List.range (mW ct h0 y r q).length) mWn (zrange _) 11 0 rfl mWo) rfl rfl hl.1 rfl (lv_room (Nat.le_of_ble_eq_true rfl)) dX12_needsTown_9 ⟨Nat.le_of_ble_eq_true rfl, Nat.le_of_ble_eq_true rfl⟩) hw hS hA 12 rfl (fun u16 H locs pu16 hw hS => ?_)
    obtain ⟨v17, r18⟩ := u16
    have hv17 : zI 0 0 v17 := pu16.1
    have ju16 : mJ B r18 := pu16.2.1
    have fu16 : zFr [109] r r18 := pu16.2.2.1
    have xu16 : (v17, r18) = (Gm_fails (1 : Int32) r q) := pu16.2.2.2.1
    have hE := zc_vrE xu16 hE
    have hw : zPD D A (mW ct h0 y r18 q) H := hw
    refine zfr 12 [.int v17] rfl rfl ?_
    exact ziretQ hQ hx hb hr ((hv17.w (c := 0) (d := 1) (by decide)).rn) hlocks (v17, r18) rfl ⟨(hv17.w (c := 0) (d := 1) (by decide)), ju16, ((zFr.refl).tr fu16 rfl), (fun h => absurd (zI.eq0 hv17) h), (hE.symm.trans hX), trivial⟩ hw hS dX12_needsTown_12

set_option maxHeartbeats 4000000 in
set_option maxRecDepth 100000 in
theorem mc_needsTown1 (l : Launch) (D : va_G) (ct : Nat → ClassId) (h0 : Nat) (y : Nat → Nat) (B : Int) (r : zRr) (q : zRq) (hJ0 : mJ B r) : zC l yX12_needsTown (.code yX12_needsTown cX12_needsTown 2 (some .boolean) :: wsL_law0) ({ frames := 2, cells := 0, slots := 0, locals := 120 }) D ct [] [.ref h0, .int 1] (mW ct h0 y r q) (S := Int32 × zRr) (fun u => some (.int u.1)) (fun u => zI 0 1 u.1 ∧ mJ B u.2 ∧ zFr [136, 109] r u.2 ∧ (¬ u.1 = 0 → zI 0 5 (u.2 136 0)) ∧ (¬ u.1 = 0 → 1 ≤ (u.2 1 4).toInt) ∧ u = (Gm_needsTown1 r q) ∧ True) (fun u => mW ct h0 y u.2 q) 0 0 := by
  refine zofQ cX12_needsTown 2 (some .boolean) (by decide) rfl (Nat.le_of_ble_eq_true rfl) ?_
  intro p e s m below meth c A a9 Q ha9 hx hb hr hml hts hown hlocks hname hK hA hZ hN hQ
  have hown : s.vm.findClass RX12 = some m.cls := hown
  have hiX12 : ∀ w ∈ wsX120, w ∈ .code yX12_needsTown cX12_needsTown 2 (some .boolean) :: wsL_law0 := fun _ h => ki (zs_wsX120 _ h)
  have lf256 := hts (.fieldLink RX12 256 "BeardPassModel" "given" "I") (ki (zr23 11 rfl))
  obtain ⟨X, hX⟩ : ∃ X, X = (Gm_needsTown1 r q) := ⟨_, rfl⟩
  intro H locs hw hS ls hl
  have hl : lv_has ls 2 [(0, .ref h0), (1, .int 1)] := hl
  have hE := hX
  unfold Gm_needsTown1 at hE
  refine lv_aload_n hx hb dX12_needsTown_0 rfl (lv_at hl 0 rfl) ?_
  refine zcallW (va_runV (As := []) (rest := []) ⟨hx, hb, hml, hown, hts⟩ (mc_isKept l D ct h0 y B r q hJ0 H.size) (cwV 0 hts (kgV (zr23 21 rfl) (zr23 22 rfl) (zr23 23 rfl) (zr1 5 rfl) (zr24 0 rfl)) rfl rfl rfl (by decide +kernel) ⟨Nat.le_of_ble_eq_true rfl, Nat.le_of_ble_eq_true rfl⟩) (zpreV hK hw hS hA zZ.nil hN (List.range (mW ct h0 y r q).length) mWn (zrange _) 11 0 rfl mWo) rfl rfl hl.1 rfl (lv_room (Nat.le_of_ble_eq_true rfl)) dX12_needsTown_1 ⟨Nat.le_of_ble_eq_true rfl, Nat.le_of_ble_eq_true rfl⟩) hw hS hA 4 rfl (fun u1 H locs pu1 hw hS => ?_)
  have hu1 : zI 0 1 u1 := pu1.1
  have yu1_0 : u1 = 0 → zI 1 1 (r 106 0) := pu1.2.1
  have xu1 : u1 = (Gm_isKept r q) := pu1.2.2.1
  have hE := zletE xu1 hE
  have hw : zPD D A (mW ct h0 y r q) H := hw
  refine zfr 4 [.int u1] rfl rfl ?_
  refine lv_if_eq (tgt := 13) hx hb dX12_needsTown_4 (by decide) (fun c3 => ?_) (fun c3 => ?_)
  · have hE := zifT c3 hE
    have k4 : zI 0 0 (u1) := zI.eqq c3 (zI.lit (a := 0) (b := 0) (c := 0) (by decide))
    refine lv_aload_n hx hb dX12_needsTown_13 rfl (lv_at hl 0 rfl) ?_
    refine lv_aload_n hx hb dX12_needsTown_14 rfl (lv_at hl 0 rfl) ?_
    refine lv_iload_n hx hb dX12_needsTown_15 rfl (lv_at hl 1 rfl) ?_
    refine zcallW (va_runV (As := [.int 1]) (rest := [.ref h0]) ⟨hx, hb, hml, hown, hts⟩ (mc_townNamed1 l D ct h0 y B r q hJ0 H.size) (cwV 1 hts (kgV (zr24 15 rfl) (zr24 16 rfl) (zr24 17 rfl) (zr1 5 rfl) (zr24 18 rfl)) rfl rfl rfl (by decide +kernel) ⟨Nat.le_of_ble_eq_true rfl, Nat.le_of_ble_eq_true rfl⟩) (zpreV hK hw hS hA zZ.nil hN (List.range (mW ct h0 y r q).length) mWn (zrange _) 11 0 rfl mWo) rfl rfl hl.1 rfl (lv_room (Nat.le_of_ble_eq_true rfl)) dX12_needsTown_16 ⟨Nat.le_of_ble_eq_true rfl, Nat.le_of_ble_eq_true rfl⟩) hw hS hA 19 rfl (fun u5 H locs pu5 hw hS => ?_)
    have hu5 : zI (-1) 5 u5 := pu5.1
    have yu5_0 : (0 ≤ u5.toInt → 1 ≤ (r 1 4).toInt) := pu5.2.1
    have xu5 : u5 = (Gm_townNamed1 r q) := pu5.2.2.1
    have hE := zletE xu5 hE
    have hw : zPD D A (mW ct h0 y r q) H := hw
    refine zfr 19 [.int u5, .ref h0] rfl rfl ?_
    refine mput (ty := .int) (v := .int u5) hx hb hts hiX12 hown hK hw hS 36 (by decide) lf256 rfl rfl (by decide +kernel) rfl rfl dX12_needsTown_19 (zset r 136 (fun _ => u5)) _ mWf36 (fun H locs hw hS => ?_)
    refine mgen (P := fun x => mJ B x ∧ zFr [136, 109] r x) hw ⟨hJ0.setc rfl (fun _ => (hu5.w (c := (-1)) (d := 9999) (by decide))), (zFr.refl).set rfl⟩ (fun r7 er7 hw pr7 => ?_)
    have hE := zletE er7 hE
    refine lv_aload_n hx hb dX12_needsTown_22 rfl (lv_at hl 0 rfl) ?_
    refine mget (v := .int (r7 136 0)) hx hb hts hiX12 hown hK hw 36 (by decide) lf256 rfl rfl dX12_needsTown_23 ?_
    refine lv_if_ge (tgt := 37) hx hb dX12_needsTown_26 (by decide) (fun c8 => ?_) (fun c8 => ?_)
    · have hE := zifT c8 hE
      have k9 : zI 0 5 (r7 136 0) := zI.leD c8 (zI.lit (a := 0) (b := 0) (c := 0) (by decide)) (zs_in er7 hu5) (by decide)
      refine lv_iconst (v := 1) hx hb dX12_needsTown_37 (by decide) ?_
      refine lv_goto (tgt := 42) hx hb dX12_needsTown_38 (by decide) ?_
      exact ziretQ hQ hx hb hr rfl hlocks (1, r7) rfl ⟨((zI.lit (a := 1) (b := 1) (c := 1) (by decide)).w (c := 0) (d := 1) (by decide)), pr7.1, pr7.2, (fun _ => k9), (show ¬ (1 : Int32) = 0 → 1 ≤ (r7 1 4).toInt from (fun _ => by rw [(zs_row (k := 1) er7 (by decide))]; exact yu5_0 (by have h9 := (k9).1; rw [(congrFun (zs_self er7) 0)] at h9; exact h9))), (hE.symm.trans hX), trivial⟩ hw hS dX12_needsTown_42
    · have hE := zifF c8 hE
      have k10 : zI (-1) (-1) (r7 136 0) := zI.ltU (zI.nle c8) (zs_in er7 hu5) (zI.lit (a := 0) (b := 0) (c := 0) (by decide)) (by decide)
      refine lv_aload_n hx hb dX12_needsTown_29 rfl (lv_at hl 0 rfl) ?_
      refine lv_iconst (v := 2) hx hb dX12_needsTown_30 (by decide) ?_
      refine zcallW (va_runV (As := [.int 2]) (rest := []) ⟨hx, hb, hml, hown, hts⟩ (mc_fails l D ct h0 y B 2 r7 q ((zI.lit (a := 2) (b := 2) (c := 2) (by decide)).w (c := 1) (d := 5) (by decide)) pr7.1 H.size) (cwV 1 hts (kgV (zr23 13 rfl) (zr23 14 rfl) (zr23 15 rfl) (zr1 5 rfl) (zr23 16 rfl)) rfl rfl rfl (by decide +kernel) ⟨Nat.le_of_ble_eq_true rfl, Nat.le_of_ble_eq_true rfl⟩) (zpreV hK hw hS hA zZ.nil hN (List.range (mW ct h0 y r7 q).length) mWn (zrange _) 11 0 rfl mWo) rfl rfl hl.1 rfl (lv_room (Nat.le_of_ble_eq_true rfl)) dX12_needsTown_31 ⟨Nat.le_of_ble_eq_true rfl, Nat.le_of_ble_eq_true rfl⟩) hw hS hA 34 rfl (fun u11 H locs pu11 hw hS => ?_)
      obtain ⟨v12, r13⟩ := u11
      have hv12 : zI 0 0 v12 := pu11.1
      have ju11 : mJ B r13 := pu11.2.1
      have fu11 : zFr [109] r7 r13 := pu11.2.2.1
      have xu11 : (v12, r13) = (Gm_fails (2 : Int32) r7 q) := pu11.2.2.2.1
      have hE := zc_vrE xu11 hE
      have hw : zPD D A (mW ct h0 y r13 q) H := hw
      refine zfr 34 [.int v12] rfl rfl ?_
      refine lv_if_eq (tgt := 41) hx hb dX12_needsTown_34 (by decide) (fun c14 => ?_) (fun c14 => ?_)
      · have hE := zifT c14 hE
        refine lv_iconst (v := 0) hx hb dX12_needsTown_41 (by decide) ?_
        exact ziretQ hQ hx hb hr rfl hlocks (0, r13) rfl ⟨((zI.lit (a := 0) (b := 0) (c := 0) (by decide)).w (c := 0) (d := 1) (by decide)), ju11, (pr7.2.tr fu11 rfl), (fun h => absurd rfl h), (fun h => absurd rfl h), (hE.symm.trans hX), trivial⟩ hw hS dX12_needsTown_42
      · have hE := zifF c14 hE
        exact zI.abs (a := 1) (b := 0) (zI.neD c14 hv12 (zI.lit (a := 0) (b := 0) (c := 0) (by decide)) (by decide)) (by decide)
  · have hE := zifF c3 hE
    have k15 : zI 1 1 (u1) := zI.neD c3 hu1 (zI.lit (a := 0) (b := 0) (c := 0) (by decide)) (by decide)
    refine lv_aload_n hx hb dX12_needsTown_7 rfl (lv_at hl 0 rfl) ?_
    refine lv_iconst (v := 1) hx hb dX12_needsTown_8 (by decide) ?_
    refine zcallW (va_runV (As := [.int 1]) (rest := []) ⟨hx, hb, hml, hown, hts⟩ (mc_fails l D ct h0 y B 1 r q ((zI.lit (a := 1) (b := 1) (c := 1) (by decide)).w (c := 1) (d := 5) (by decide)) hJ0 H.size) (cwV 1 hts (kgV (zr23 13 rfl) (zr23 14 rfl) (zr23 15 rfl) (zr1 5 rfl) (zr23 16 rfl)) rfl rfl rfl (by decide +kernel) ⟨Nat.le_of_ble_eq_true rfl, Nat.le_of_ble_eq_true rfl⟩) (zpreV hK hw hS hA zZ.nil hN (List.range (mW ct h0 y r q).length) mWn (zrange _) 11 0 rfl mWo) rfl rfl hl.1 rfl (lv_room (Nat.le_of_ble_eq_true rfl)) dX12_needsTown_9 ⟨Nat.le_of_ble_eq_true rfl, Nat.le_of_ble_eq_true rfl⟩) hw hS hA 12 rfl (fun u16 H locs pu16 hw hS => ?_)
    obtain ⟨v17, r18⟩ := u16
    have hv17 : zI 0 0 v17 := pu16.1
    have ju16 : mJ B r18 := pu16.2.1
    have fu16 : zFr [109] r r18 := pu16.2.2.1
    have xu16 : (v17, r18) = (Gm_fails (1 : Int32) r q) := pu16.2.2.2.1
    have hE := zc_vrE xu16 hE
    have hw : zPD D A (mW ct h0 y r18 q) H := hw
    refine zfr 12 [.int v17] rfl rfl ?_
    exact ziretQ hQ hx hb hr ((hv17.w (c := 0) (d := 1) (by decide)).rn) hlocks (v17, r18) rfl ⟨(hv17.w (c := 0) (d := 1) (by decide)), ju16, ((zFr.refl).tr fu16 rfl), (fun h => absurd (zI.eq0 hv17) h), (fun h => absurd (zI.eq0 hv17) h), (hE.symm.trans hX), trivial⟩ hw hS dX12_needsTown_12

set_option maxHeartbeats 4000000 in
set_option maxRecDepth 100000 in
theorem mc_needsPerson (l : Launch) (D : va_G) (ct : Nat → ClassId) (h0 : Nat) (y : Nat → Nat) (B : Int) (r : zRr) (q : zRq) (hJ0 : mJ B r) : zC l yX12_needsPerson (.code yX12_needsPerson cX12_needsPerson 1 (some .boolean) :: wsL_law0) ({ frames := 2, cells := 0, slots := 0, locals := 120 }) D ct [] [.ref h0] (mW ct h0 y r q) (S := Int32 × zRr) (fun u => some (.int u.1)) (fun u => zI 0 1 u.1 ∧ mJ B u.2 ∧ zFr [136, 109] r u.2 ∧ (¬ u.1 = 0 → zI 0 5 (u.2 136 0)) ∧ u = (Gm_needsPerson r q) ∧ True) (fun u => mW ct h0 y u.2 q) 0 0 := by
  refine zofQ cX12_needsPerson 1 (some .boolean) (by decide) rfl (Nat.le_of_ble_eq_true rfl) ?_
  intro p e s m below meth c A a9 Q ha9 hx hb hr hml hts hown hlocks hname hK hA hZ hN hQ
  have hown : s.vm.findClass RX12 = some m.cls := hown
  have hiX12 : ∀ w ∈ wsX120, w ∈ .code yX12_needsPerson cX12_needsPerson 1 (some .boolean) :: wsL_law0 := fun _ h => ki (zs_wsX120 _ h)
  have lf256 := hts (.fieldLink RX12 256 "BeardPassModel" "given" "I") (ki (zr23 11 rfl))
  obtain ⟨X, hX⟩ : ∃ X, X = (Gm_needsPerson r q) := ⟨_, rfl⟩
  intro H locs hw hS ls hl
  have hl : lv_has ls 1 [(0, .ref h0)] := hl
  have hE := hX
  unfold Gm_needsPerson at hE
  refine lv_aload_n hx hb dX12_needsPerson_0 rfl (lv_at hl 0 rfl) ?_
  refine zcallW (va_runV (As := []) (rest := []) ⟨hx, hb, hml, hown, hts⟩ (mc_isKept l D ct h0 y B r q hJ0 H.size) (cwV 0 hts (kgV (zr23 21 rfl) (zr23 22 rfl) (zr23 23 rfl) (zr1 5 rfl) (zr24 0 rfl)) rfl rfl rfl (by decide +kernel) ⟨Nat.le_of_ble_eq_true rfl, Nat.le_of_ble_eq_true rfl⟩) (zpreV hK hw hS hA zZ.nil hN (List.range (mW ct h0 y r q).length) mWn (zrange _) 11 0 rfl mWo) rfl rfl hl.1 rfl (lv_room (Nat.le_of_ble_eq_true rfl)) dX12_needsPerson_1 ⟨Nat.le_of_ble_eq_true rfl, Nat.le_of_ble_eq_true rfl⟩) hw hS hA 4 rfl (fun u1 H locs pu1 hw hS => ?_)
  have hu1 : zI 0 1 u1 := pu1.1
  have yu1_0 : u1 = 0 → zI 1 1 (r 106 0) := pu1.2.1
  have xu1 : u1 = (Gm_isKept r q) := pu1.2.2.1
  have hE := zletE xu1 hE
  have hw : zPD D A (mW ct h0 y r q) H := hw
  refine zfr 4 [.int u1] rfl rfl ?_
  refine lv_if_eq (tgt := 13) hx hb dX12_needsPerson_4 (by decide) (fun c3 => ?_) (fun c3 => ?_)
  · have hE := zifT c3 hE
    have k4 : zI 0 0 (u1) := zI.eqq c3 (zI.lit (a := 0) (b := 0) (c := 0) (by decide))
    refine lv_aload_n hx hb dX12_needsPerson_13 rfl (lv_at hl 0 rfl) ?_
    refine lv_aload_n hx hb dX12_needsPerson_14 rfl (lv_at hl 0 rfl) ?_
    refine lv_iconst (v := 0) hx hb dX12_needsPerson_15 (by decide) ?_
    refine zcallW (va_runV (As := [.int 0]) (rest := [.ref h0]) ⟨hx, hb, hml, hown, hts⟩ (mc_personNamed0 l D ct h0 y B r q hJ0 H.size) (cwV 1 hts (kgV (zr24 19 rfl) (zr24 20 rfl) (zr24 21 rfl) (zr1 5 rfl) (zr24 22 rfl)) rfl rfl rfl (by decide +kernel) ⟨Nat.le_of_ble_eq_true rfl, Nat.le_of_ble_eq_true rfl⟩) (zpreV hK hw hS hA zZ.nil hN (List.range (mW ct h0 y r q).length) mWn (zrange _) 11 0 rfl mWo) rfl rfl hl.1 rfl (lv_room (Nat.le_of_ble_eq_true rfl)) dX12_needsPerson_16 ⟨Nat.le_of_ble_eq_true rfl, Nat.le_of_ble_eq_true rfl⟩) hw hS hA 19 rfl (fun u5 H locs pu5 hw hS => ?_)
    have hu5 : zI (-1) 5 u5 := pu5.1
    have xu5 : u5 = (Gm_personNamed0 r q) := pu5.2.1
    have hE := zletE xu5 hE
    have hw : zPD D A (mW ct h0 y r q) H := hw
    refine zfr 19 [.int u5, .ref h0] rfl rfl ?_
    refine mput (ty := .int) (v := .int u5) hx hb hts hiX12 hown hK hw hS 36 (by decide) lf256 rfl rfl (by decide +kernel) rfl rfl dX12_needsPerson_19 (zset r 136 (fun _ => u5)) _ mWf36 (fun H locs hw hS => ?_)
    refine mgen (P := fun x => mJ B x ∧ zFr [136, 109] r x) hw ⟨hJ0.setc rfl (fun _ => (hu5.w (c := (-1)) (d := 9999) (by decide))), (zFr.refl).set rfl⟩ (fun r7 er7 hw pr7 => ?_)
    have hE := zletE er7 hE
    refine lv_aload_n hx hb dX12_needsPerson_22 rfl (lv_at hl 0 rfl) ?_
    refine mget (v := .int (r7 136 0)) hx hb hts hiX12 hown hK hw 36 (by decide) lf256 rfl rfl dX12_needsPerson_23 ?_
    refine lv_if_ge (tgt := 37) hx hb dX12_needsPerson_26 (by decide) (fun c8 => ?_) (fun c8 => ?_)
    · have hE := zifT c8 hE
      have k9 : zI 0 5 (r7 136 0) := zI.leD c8 (zI.lit (a := 0) (b := 0) (c := 0) (by decide)) (zs_in er7 hu5) (by decide)
      refine lv_iconst (v := 1) hx hb dX12_needsPerson_37 (by decide) ?_
      refine lv_goto (tgt := 42) hx hb dX12_needsPerson_38 (by decide) ?_
      exact ziretQ hQ hx hb hr rfl hlocks (1, r7) rfl ⟨((zI.lit (a := 1) (b := 1) (c := 1) (by decide)).w (c := 0) (d := 1) (by decide)), pr7.1, pr7.2, (fun _ => k9), (hE.symm.trans hX), trivial⟩ hw hS dX12_needsPerson_42
    · have hE := zifF c8 hE
      have k10 : zI (-1) (-1) (r7 136 0) := zI.ltU (zI.nle c8) (zs_in er7 hu5) (zI.lit (a := 0) (b := 0) (c := 0) (by decide)) (by decide)
      refine lv_aload_n hx hb dX12_needsPerson_29 rfl (lv_at hl 0 rfl) ?_
      refine lv_iconst (v := 2) hx hb dX12_needsPerson_30 (by decide) ?_
      refine zcallW (va_runV (As := [.int 2]) (rest := []) ⟨hx, hb, hml, hown, hts⟩ (mc_fails l D ct h0 y B 2 r7 q ((zI.lit (a := 2) (b := 2) (c := 2) (by decide)).w (c := 1) (d := 5) (by decide)) pr7.1 H.size) (cwV 1 hts (kgV (zr23 13 rfl) (zr23 14 rfl) (zr23 15 rfl) (zr1 5 rfl) (zr23 16 rfl)) rfl rfl rfl (by decide +kernel) ⟨Nat.le_of_ble_eq_true rfl, Nat.le_of_ble_eq_true rfl⟩) (zpreV hK hw hS hA zZ.nil hN (List.range (mW ct h0 y r7 q).length) mWn (zrange _) 11 0 rfl mWo) rfl rfl hl.1 rfl (lv_room (Nat.le_of_ble_eq_true rfl)) dX12_needsPerson_31 ⟨Nat.le_of_ble_eq_true rfl, Nat.le_of_ble_eq_true rfl⟩) hw hS hA 34 rfl (fun u11 H locs pu11 hw hS => ?_)
      obtain ⟨v12, r13⟩ := u11
      have hv12 : zI 0 0 v12 := pu11.1
      have ju11 : mJ B r13 := pu11.2.1
      have fu11 : zFr [109] r7 r13 := pu11.2.2.1
      have xu11 : (v12, r13) = (Gm_fails (2 : Int32) r7 q) := pu11.2.2.2.1
      have hE := zc_vrE xu11 hE
      have hw : zPD D A (mW ct h0 y r13 q) H := hw
      refine zfr 34 [.int v12] rfl rfl ?_
      refine lv_if_eq (tgt := 41) hx hb dX12_needsPerson_34 (by decide) (fun c14 => ?_) (fun c14 => ?_)
      · have hE := zifT c14 hE
        refine lv_iconst (v := 0) hx hb dX12_needsPerson_41 (by decide) ?_
        exact ziretQ hQ hx hb hr rfl hlocks (0, r13) rfl ⟨((zI.lit (a := 0) (b := 0) (c := 0) (by decide)).w (c := 0) (d := 1) (by decide)), ju11, (pr7.2.tr fu11 rfl), (fun h => absurd rfl h), (hE.symm.trans hX), trivial⟩ hw hS dX12_needsPerson_42
      · have hE := zifF c14 hE
        exact zI.abs (a := 1) (b := 0) (zI.neD c14 hv12 (zI.lit (a := 0) (b := 0) (c := 0) (by decide)) (by decide)) (by decide)
  · have hE := zifF c3 hE
    have k15 : zI 1 1 (u1) := zI.neD c3 hu1 (zI.lit (a := 0) (b := 0) (c := 0) (by decide)) (by decide)
    refine lv_aload_n hx hb dX12_needsPerson_7 rfl (lv_at hl 0 rfl) ?_
    refine lv_iconst (v := 1) hx hb dX12_needsPerson_8 (by decide) ?_
    refine zcallW (va_runV (As := [.int 1]) (rest := []) ⟨hx, hb, hml, hown, hts⟩ (mc_fails l D ct h0 y B 1 r q ((zI.lit (a := 1) (b := 1) (c := 1) (by decide)).w (c := 1) (d := 5) (by decide)) hJ0 H.size) (cwV 1 hts (kgV (zr23 13 rfl) (zr23 14 rfl) (zr23 15 rfl) (zr1 5 rfl) (zr23 16 rfl)) rfl rfl rfl (by decide +kernel) ⟨Nat.le_of_ble_eq_true rfl, Nat.le_of_ble_eq_true rfl⟩) (zpreV hK hw hS hA zZ.nil hN (List.range (mW ct h0 y r q).length) mWn (zrange _) 11 0 rfl mWo) rfl rfl hl.1 rfl (lv_room (Nat.le_of_ble_eq_true rfl)) dX12_needsPerson_9 ⟨Nat.le_of_ble_eq_true rfl, Nat.le_of_ble_eq_true rfl⟩) hw hS hA 12 rfl (fun u16 H locs pu16 hw hS => ?_)
    obtain ⟨v17, r18⟩ := u16
    have hv17 : zI 0 0 v17 := pu16.1
    have ju16 : mJ B r18 := pu16.2.1
    have fu16 : zFr [109] r r18 := pu16.2.2.1
    have xu16 : (v17, r18) = (Gm_fails (1 : Int32) r q) := pu16.2.2.2.1
    have hE := zc_vrE xu16 hE
    have hw : zPD D A (mW ct h0 y r18 q) H := hw
    refine zfr 12 [.int v17] rfl rfl ?_
    exact ziretQ hQ hx hb hr ((hv17.w (c := 0) (d := 1) (by decide)).rn) hlocks (v17, r18) rfl ⟨(hv17.w (c := 0) (d := 1) (by decide)), ju16, ((zFr.refl).tr fu16 rfl), (fun h => absurd (zI.eq0 hv17) h), (hE.symm.trans hX), trivial⟩ hw hS dX12_needsPerson_12
