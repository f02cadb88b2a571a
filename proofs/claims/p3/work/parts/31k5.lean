noncomputable def Gk_isPerson (a1 : Int32) (r : zRr) (q : zRq) : Int32 :=
  zif (a1 < (0 : Int32)) ((0 : Int32)) (zlet (α := Int32) (r 171 10) <| fun v4 => zif (v4 ≤ a1) ((0 : Int32)) ((1 : Int32)))
set_option maxHeartbeats 4000000 in
set_option maxRecDepth 100000 in
theorem kc_isPerson (l : Launch) (D : va_G) (ct : Nat → ClassId) (E : Nat → Nat) (y : Nat → Nat) (a1 : Int32) (r : zRr) (q : zRq) (hJ0 : kJ r) (hEi : kEi E) : cC l yX11_isPerson (.code yX11_isPerson cX11_isPerson 2 (some .boolean) :: wsL_law0) ({ frames := 1, cells := 0, slots := 0, locals := 80 }) D ct E [.ref (y 195), .int a1] (kW ct E y r q) (S := Int32) (fun u => some (.int u)) (fun u => zI 0 1 u ∧ (¬ u = 0 → zI 0 5 a1) ∧ u = (Gk_isPerson a1 r q) ∧ True) (fun u => kW ct E y r q) := by
  refine cofQ cX11_isPerson 2 (some .boolean) (by decide) rfl (Nat.le_of_ble_eq_true rfl) ?_
  intro p e s m below meth c A a9 Q ha9 hx hb hr hml hts hown hlocks hname hK hA hZ hN hQ
  have hown : s.vm.findClass RX11 = some m.cls := hown
  have hiX11 : ∀ w ∈ wsX110, w ∈ .code yX11_isPerson cX11_isPerson 2 (some .boolean) :: wsL_law0 := fun _ h => ki (zs_wsX110 _ h)
  have hiX2 : ∀ w ∈ wsX20, w ∈ .code yX11_isPerson cX11_isPerson 2 (some .boolean) :: wsL_law0 := fun _ h => ki (zs_wsX20 _ h)
  have lf19 := hts (.fieldLink RX11 19 "BeardPass" "told" "LBeardPass$Land;") (ki (zr1 21 rfl))
  have lf172 := hts (.fieldLink RX11 172 "BeardPass$Land" "persons" "I") (ki (zr31 0 rfl))
  obtain ⟨X, hX⟩ : ∃ X, X = (Gk_isPerson a1 r q) := ⟨_, rfl⟩
  intro H locs hw hS ls hl
  have hl : lv_has ls 2 [(0, .ref (y 195)), (1, .int a1)] := hl
  have hE := hX
  unfold Gk_isPerson at hE
  refine lv_iload_n hx hb dX11_isPerson_0 rfl (lv_at hl 1 rfl) ?_
  refine lv_if_lt (tgt := 19) hx hb dX11_isPerson_1 (by decide) (fun c1 => ?_) (fun c1 => ?_)
  · have hE := zifT c1 hE
    have k2 : zI (-2147483648) (-1) (a1) := zI.ltU c1 (zI.top _) (zI.lit (a := 0) (b := 0) (c := 0) (by decide)) (by decide)
    refine lv_iconst (v := 0) hx hb dX11_isPerson_19 (by decide) ?_
    exact ziretQ hQ hx hb hr rfl hlocks (0 : Int32) rfl ⟨((zI.lit (a := 0) (b := 0) (c := 0) (by decide)).w (c := 0) (d := 1) (by decide)), (fun h => absurd rfl h), (hE.symm.trans hX), trivial⟩ hw hS dX11_isPerson_20
  · have hE := zifF c1 hE
    have k3 : zI 0 2147483647 (a1) := zI.leD (zI.nlt c1) (zI.lit (a := 0) (b := 0) (c := 0) (by decide)) (zI.top _) (by decide)
    refine lv_iload_n hx hb dX11_isPerson_4 rfl (lv_at hl 1 rfl) ?_
    refine lv_aload_n hx hb dX11_isPerson_5 rfl (lv_at hl 0 rfl) ?_
    refine va_get (D := D) (ci := 10) (v := .ref (y 171)) hx hb hts hiX11 hown hK hw.1 195 kg195 rfl 1 (by decide) lf19 (fun _ h9 => h9) rfl dX11_isPerson_6 ?_
    refine va_get (D := D) (ci := 2) (v := .int (r 171 10)) hx hb hts hiX2 hown hK hw.1 171 kg171 rfl 10 (by decide) lf172 (fun _ h9 => h9) rfl dX11_isPerson_9 (zgenE (lo := 0) (hi := 6) ((show zI 0 6 (r 171 10) from hJ0.i 171 10)) (fun v4 ev4 hv4 => ?_))
    have hE := zletE ev4 hE
    refine lv_icmp_ge (tgt := 19) hx hb dX11_isPerson_12 (by decide) (fun c5 => ?_) (fun c5 => ?_)
    · have hE := zifT c5 hE
      refine lv_iconst (v := 0) hx hb dX11_isPerson_19 (by decide) ?_
      exact ziretQ hQ hx hb hr rfl hlocks (0 : Int32) rfl ⟨((zI.lit (a := 0) (b := 0) (c := 0) (by decide)).w (c := 0) (d := 1) (by decide)), (fun h => absurd rfl h), (hE.symm.trans hX), trivial⟩ hw hS dX11_isPerson_20
    · have hE := zifF c5 hE
      have k6 : zI 0 5 (a1) := zI.ltU (zI.nle c5) k3 hv4 (by decide)
      have k7 : zI 1 6 (v4) := zI.ltD (zI.nle c5) k3 hv4 (by decide)
      refine lv_iconst (v := 1) hx hb dX11_isPerson_15 (by decide) ?_
      refine lv_goto (tgt := 20) hx hb dX11_isPerson_16 (by decide) ?_
      exact ziretQ hQ hx hb hr rfl hlocks (1 : Int32) rfl ⟨((zI.lit (a := 1) (b := 1) (c := 1) (by decide)).w (c := 0) (d := 1) (by decide)), (fun _ => k6), (hE.symm.trans hX), trivial⟩ hw hS dX11_isPerson_20

noncomputable def Gk_isTown (a1 : Int32) (r : zRr) (q : zRq) : Int32 :=
  zif (a1 < (0 : Int32)) ((0 : Int32)) (zlet (α := Int32) (r 171 9) <| fun v4 => zif (v4 ≤ a1) ((0 : Int32)) ((1 : Int32)))
set_option maxHeartbeats 4000000 in
set_option maxRecDepth 100000 in
theorem kc_isTown (l : Launch) (D : va_G) (ct : Nat → ClassId) (E : Nat → Nat) (y : Nat → Nat) (a1 : Int32) (r : zRr) (q : zRq) (hJ0 : kJ r) (hEi : kEi E) : cC l yX11_isTown (.code yX11_isTown cX11_isTown 2 (some .boolean) :: wsL_law0) ({ frames := 1, cells := 0, slots := 0, locals := 80 }) D ct E [.ref (y 195), .int a1] (kW ct E y r q) (S := Int32) (fun u => some (.int u)) (fun u => zI 0 1 u ∧ (¬ u = 0 → zI 0 5 a1) ∧ u = (Gk_isTown a1 r q) ∧ True) (fun u => kW ct E y r q) := by
  refine cofQ cX11_isTown 2 (some .boolean) (by decide) rfl (Nat.le_of_ble_eq_true rfl) ?_
  intro p e s m below meth c A a9 Q ha9 hx hb hr hml hts hown hlocks hname hK hA hZ hN hQ
  have hown : s.vm.findClass RX11 = some m.cls := hown
  have hiX11 : ∀ w ∈ wsX110, w ∈ .code yX11_isTown cX11_isTown 2 (some .boolean) :: wsL_law0 := fun _ h => ki (zs_wsX110 _ h)
  have hiX2 : ∀ w ∈ wsX20, w ∈ .code yX11_isTown cX11_isTown 2 (some .boolean) :: wsL_law0 := fun _ h => ki (zs_wsX20 _ h)
  have lf19 := hts (.fieldLink RX11 19 "BeardPass" "told" "LBeardPass$Land;") (ki (zr1 21 rfl))
  have lf169 := hts (.fieldLink RX11 169 "BeardPass$Land" "towns" "I") (ki (zr31 19 rfl))
  obtain ⟨X, hX⟩ : ∃ X, X = (Gk_isTown a1 r q) := ⟨_, rfl⟩
  intro H locs hw hS ls hl
  have hl : lv_has ls 2 [(0, .ref (y 195)), (1, .int a1)] := hl
  have hE := hX
  unfold Gk_isTown at hE
  refine lv_iload_n hx hb dX11_isTown_0 rfl (lv_at hl 1 rfl) ?_
  refine lv_if_lt (tgt := 19) hx hb dX11_isTown_1 (by decide) (fun c1 => ?_) (fun c1 => ?_)
  · have hE := zifT c1 hE
    have k2 : zI (-2147483648) (-1) (a1) := zI.ltU c1 (zI.top _) (zI.lit (a := 0) (b := 0) (c := 0) (by decide)) (by decide)
    refine lv_iconst (v := 0) hx hb dX11_isTown_19 (by decide) ?_
    exact ziretQ hQ hx hb hr rfl hlocks (0 : Int32) rfl ⟨((zI.lit (a := 0) (b := 0) (c := 0) (by decide)).w (c := 0) (d := 1) (by decide)), (fun h => absurd rfl h), (hE.symm.trans hX), trivial⟩ hw hS dX11_isTown_20
  · have hE := zifF c1 hE
    have k3 : zI 0 2147483647 (a1) := zI.leD (zI.nlt c1) (zI.lit (a := 0) (b := 0) (c := 0) (by decide)) (zI.top _) (by decide)
    refine lv_iload_n hx hb dX11_isTown_4 rfl (lv_at hl 1 rfl) ?_
    refine lv_aload_n hx hb dX11_isTown_5 rfl (lv_at hl 0 rfl) ?_
    refine va_get (D := D) (ci := 10) (v := .ref (y 171)) hx hb hts hiX11 hown hK hw.1 195 kg195 rfl 1 (by decide) lf19 (fun _ h9 => h9) rfl dX11_isTown_6 ?_
    refine va_get (D := D) (ci := 2) (v := .int (r 171 9)) hx hb hts hiX2 hown hK hw.1 171 kg171 rfl 9 (by decide) lf169 (fun _ h9 => h9) rfl dX11_isTown_9 (zgenE (lo := 0) (hi := 6) ((show zI 0 6 (r 171 9) from hJ0.i 171 9)) (fun v4 ev4 hv4 => ?_))
    have hE := zletE ev4 hE
    refine lv_icmp_ge (tgt := 19) hx hb dX11_isTown_12 (by decide) (fun c5 => ?_) (fun c5 => ?_)
    · have hE := zifT c5 hE
      refine lv_iconst (v := 0) hx hb dX11_isTown_19 (by decide) ?_
      exact ziretQ hQ hx hb hr rfl hlocks (0 : Int32) rfl ⟨((zI.lit (a := 0) (b := 0) (c := 0) (by decide)).w (c := 0) (d := 1) (by decide)), (fun h => absurd rfl h), (hE.symm.trans hX), trivial⟩ hw hS dX11_isTown_20
    · have hE := zifF c5 hE
      have k6 : zI 0 5 (a1) := zI.ltU (zI.nle c5) k3 hv4 (by decide)
      have k7 : zI 1 6 (v4) := zI.ltD (zI.nle c5) k3 hv4 (by decide)
      refine lv_iconst (v := 1) hx hb dX11_isTown_15 (by decide) ?_
      refine lv_goto (tgt := 20) hx hb dX11_isTown_16 (by decide) ?_
      exact ziretQ hQ hx hb hr rfl hlocks (1 : Int32) rfl ⟨((zI.lit (a := 1) (b := 1) (c := 1) (by decide)).w (c := 0) (d := 1) (by decide)), (fun _ => k6), (hE.symm.trans hX), trivial⟩ hw hS dX11_isTown_20

noncomputable def Gk_clear6 (r : zRr) (q : zRq) : zRr :=
  zlet (α := zRr) ((zset r 162 (upd (r 162) 0 (2147483647 : Int32)))) <| fun r1 => zlet (α := zRr) ((zset r1 162 (upd (r1 162) 1 (0 : Int32)))) <| fun r2 => r2
set_option maxHeartbeats 4000000 in
set_option maxRecDepth 100000 in
theorem kc_clear6 (l : Launch) (D : va_G) (ct : Nat → ClassId) (E : Nat → Nat) (y : Nat → Nat) (r : zRr) (q : zRq) (hJ0 : kJ r) (hEi : kEi E) : cC l yX6_clear (.code yX6_clear cX6_clear 1 none :: wsL_law0) ({ frames := 1, cells := 0, slots := 0, locals := 80 }) D ct E [.ref (y 162)] (kW ct E y r q) (S := zRr) (fun u => none) (fun u => kJ u ∧ zFr [162] r u ∧ u = (Gk_clear6 r q) ∧ True) (fun u => kW ct E y u q) := by
  refine cofQ cX6_clear 1 none (by decide) rfl (Nat.le_of_ble_eq_true rfl) ?_
  intro p e s m below meth c A a9 Q ha9 hx hb hr hml hts hown hlocks hname hK hA hZ hN hQ
  have hown : s.vm.findClass RX6 = some m.cls := hown
  have hiX6 : ∀ w ∈ wsX60, w ∈ .code yX6_clear cX6_clear 1 none :: wsL_law0 := fun _ h => ki (zs_wsX60 _ h)
  have lf10 := hts (.fieldLink RX6 10 "BeardPass$Sightings" "possible" "I") (ki (zr7 3 rfl))
  have lf16 := hts (.fieldLink RX6 16 "BeardPass$Sightings" "many" "I") (ki (zr7 4 rfl))
  obtain ⟨X, hX⟩ : ∃ X, X = (Gk_clear6 r q) := ⟨_, rfl⟩
  intro H locs hw hS ls hl
  have hl : lv_has ls 1 [(0, .ref (y 162))] := hl
  have hE := hX
  unfold Gk_clear6 at hE
  refine lv_aload_n hx hb dX6_clear_0 rfl (lv_at hl 0 rfl) ?_
  refine lv_ldc hx hb hown (hts (.constant RX6 9 2147483647) (ki (zr7 2 rfl))) dX6_clear_1 ?_
  refine zput (D := D) (ci := 6) (v := .int 2147483647) (ty := .int) hx hb hts hiX6 tyX6 tyX6_ok nmX6 hown hK hw hS 162 kg162 rfl 0 (by decide) lf10 (fun _ h9 => h9) rfl (by decide +kernel) rfl rfl (Nat.le_of_ble_eq_true rfl) dX6_clear_3 (kW ct E y (zset r 162 (upd (r 162) 0 (2147483647 : Int32))) q) ks162_0 (fun H locs hw hS => ?_)
  refine cmgen (P := fun x => kJ x ∧ zFr [162] r x) hw ⟨hJ0.set rfl (zI.top _), (zFr.refl).set rfl⟩ (fun r1 er1 hw pr1 => ?_)
  have hE := zletE er1 hE
  refine lv_aload_n hx hb dX6_clear_6 rfl (lv_at hl 0 rfl) ?_
  refine lv_iconst (v := 0) hx hb dX6_clear_7 (by decide) ?_
  refine zput (D := D) (ci := 6) (v := .int 0) (ty := .int) hx hb hts hiX6 tyX6 tyX6_ok nmX6 hown hK hw hS 162 kg162 rfl 1 (by decide) lf16 (fun _ h9 => h9) rfl (by decide +kernel) rfl rfl (Nat.le_of_ble_eq_true rfl) dX6_clear_8 (kW ct E y (zset r1 162 (upd (r1 162) 1 (0 : Int32))) q) ks162_1 (fun H locs hw hS => ?_)
  refine cmgen (P := fun x => kJ x ∧ zFr [162] r x) hw ⟨pr1.1.set rfl (zI.top _), pr1.2.set rfl⟩ (fun r2 er2 hw pr2 => ?_)
  have hE := zletE er2 hE
  exact zvretQ hQ hx hb hr hlocks r2 rfl ⟨pr2.1, pr2.2, (hE.symm.trans hX), trivial⟩ hw hS dX6_clear_11

noncomputable def Gk_add6 (a1 : Int32) (r : zRr) (q : zRq) : zRr :=
  zlet (α := Int32) (r 162 0) <| fun v1 => zlet (α := Int32) (v1 &&& a1) <| fun v2 => zlet (α := zRr) ((zset r 162 (upd (r 162) 0 v2))) <| fun r3 => zlet (α := Int32) (r3 162 1) <| fun v4 => zlet (α := Int32) (v4 + 1) <| fun v5 => zlet (α := zRr) ((zset r3 162 (upd (r3 162) 1 v5))) <| fun r6 => r6
set_option maxHeartbeats 4000000 in
set_option maxRecDepth 100000 in
theorem kc_add6 (l : Launch) (D : va_G) (ct : Nat → ClassId) (E : Nat → Nat) (y : Nat → Nat) (a1 : Int32) (r : zRr) (q : zRq) (hJ0 : kJ r) (hEi : kEi E) : cC l yX6_add (.code yX6_add cX6_add 2 none :: wsL_law0) ({ frames := 1, cells := 0, slots := 0, locals := 80 }) D ct E [.ref (y 162), .int a1] (kW ct E y r q) (S := zRr) (fun u => none) (fun u => kJ u ∧ zFr [162] r u ∧ u = (Gk_add6 a1 r q) ∧ True) (fun u => kW ct E y u q) := by
  refine cofQ cX6_add 2 none (by decide) rfl (Nat.le_of_ble_eq_true rfl) ?_
  intro p e s m below meth c A a9 Q ha9 hx hb hr hml hts hown hlocks hname hK hA hZ hN hQ
  have hown : s.vm.findClass RX6 = some m.cls := hown
  have hiX6 : ∀ w ∈ wsX60, w ∈ .code yX6_add cX6_add 2 none :: wsL_law0 := fun _ h => ki (zs_wsX60 _ h)
  have lf10 := hts (.fieldLink RX6 10 "BeardPass$Sightings" "possible" "I") (ki (zr7 3 rfl))
  have lf16 := hts (.fieldLink RX6 16 "BeardPass$Sightings" "many" "I") (ki (zr7 4 rfl))
  obtain ⟨X, hX⟩ : ∃ X, X = (Gk_add6 a1 r q) := ⟨_, rfl⟩
  intro H locs hw hS ls hl
  have hl : lv_has ls 2 [(0, .ref (y 162)), (1, .int a1)] := hl
  have hE := hX
  unfold Gk_add6 at hE
  refine lv_aload_n hx hb dX6_add_0 rfl (lv_at hl 0 rfl) ?_
  refine lv_dup hx hb dX6_add_1 rfl ?_
  refine va_get (D := D) (ci := 6) (v := .int (r 162 0)) hx hb hts hiX6 hown hK hw.1 162 kg162 rfl 0 (by decide) lf10 (fun _ h9 => h9) rfl dX6_add_2 (zgenE (zI.top _) (fun v1 ev1 _ => ?_))
  have hE := zletE ev1 hE
  refine lv_iload_n hx hb dX6_add_5 rfl (lv_at hl 1 rfl) ?_
  refine lv_iand hx hb dX6_add_6 (zgenE (zI.top _) (fun v2 ev2 _ => ?_))
  have hE := zletE ev2 hE
  refine zput (D := D) (ci := 6) (v := .int v2) (ty := .int) hx hb hts hiX6 tyX6 tyX6_ok nmX6 hown hK hw hS 162 kg162 rfl 0 (by decide) lf10 (fun _ h9 => h9) rfl (by decide +kernel) rfl rfl (Nat.le_of_ble_eq_true rfl) dX6_add_7 (kW ct E y (zset r 162 (upd (r 162) 0 v2)) q) ks162_0 (fun H locs hw hS => ?_)
  refine cmgen (P := fun x => kJ x ∧ zFr [162] r x) hw ⟨hJ0.set rfl (zI.top _), (zFr.refl).set rfl⟩ (fun r3 er3 hw pr3 => ?_)
  have hE := zletE er3 hE
  refine lv_aload_n hx hb dX6_add_10 rfl (lv_at hl 0 rfl) ?_
  refine lv_dup hx hb dX6_add_11 rfl ?_
  refine va_get (D := D) (ci := 6) (v := .int (r3 162 1)) hx hb hts hiX6 hown hK hw.1 162 kg162 rfl 1 (by decide) lf16 (fun _ h9 => h9) rfl dX6_add_12 (zgenE (zI.top _) (fun v4 ev4 _ => ?_))
  have hE := zletE ev4 hE
  refine lv_iconst (v := 1) hx hb dX6_add_15 (by decide) ?_
  refine lv_iadd hx hb dX6_add_16 (zgenE (zI.top _) (fun v5 ev5 _ => ?_))
  have hE := zletE ev5 hE
  refine zput (D := D) (ci := 6) (v := .int v5) (ty := .int) hx hb hts hiX6 tyX6 tyX6_ok nmX6 hown hK hw hS 162 kg162 rfl 1 (by decide) lf16 (fun _ h9 => h9) rfl (by decide +kernel) rfl rfl (Nat.le_of_ble_eq_true rfl) dX6_add_17 (kW ct E y (zset r3 162 (upd (r3 162) 1 v5)) q) ks162_1 (fun H locs hw hS => ?_)
  refine cmgen (P := fun x => kJ x ∧ zFr [162] r x) hw ⟨pr3.1.set rfl (zI.top _), pr3.2.set rfl⟩ (fun r6 er6 hw pr6 => ?_)
  have hE := zletE er6 hE
  exact zvretQ hQ hx hb hr hlocks r6 rfl ⟨pr6.1, pr6.2, (hE.symm.trans hX), trivial⟩ hw hS dX6_add_20

noncomputable def Gk_forgetPast (r : zRr) (q : zRq) : zRr :=
  zlet (α := zRr) ((zset r 195 (upd (r 195) 13 (0 : Int32)))) <| fun r1 => zlet (α := zRr) ((zset r1 195 (upd (r1 195) 14 (0 : Int32)))) <| fun r2 => r2
set_option maxHeartbeats 4000000 in
set_option maxRecDepth 100000 in
theorem kc_forgetPast (l : Launch) (D : va_G) (ct : Nat → ClassId) (E : Nat → Nat) (y : Nat → Nat) (r : zRr) (q : zRq) (hJ0 : kJ r) (hEi : kEi E) : cC l yX11_forgetPast (.code yX11_forgetPast cX11_forgetPast 1 none :: wsL_law0) ({ frames := 1, cells := 0, slots := 0, locals := 80 }) D ct E [.ref (y 195)] (kW ct E y r q) (S := zRr) (fun u => none) (fun u => kJ u ∧ zFr [195] r u ∧ u = (Gk_forgetPast r q) ∧ True) (fun u => kW ct E y u q) := by
  refine cofQ cX11_forgetPast 1 none (by decide) rfl (Nat.le_of_ble_eq_true rfl) ?_
  intro p e s m below meth c A a9 Q ha9 hx hb hr hml hts hown hlocks hname hK hA hZ hN hQ
  have hown : s.vm.findClass RX11 = some m.cls := hown
  have hiX11 : ∀ w ∈ wsX110, w ∈ .code yX11_forgetPast cX11_forgetPast 1 none :: wsL_law0 := fun _ h => ki (zs_wsX110 _ h)
  have lf88 := hts (.fieldLink RX11 88 "BeardPass" "pastNext" "I") (ki (zr3 4 rfl))
  have lf92 := hts (.fieldLink RX11 92 "BeardPass" "pastCount" "I") (ki (zr3 5 rfl))
  obtain ⟨X, hX⟩ : ∃ X, X = (Gk_forgetPast r q) := ⟨_, rfl⟩
  intro H locs hw hS ls hl
  have hl : lv_has ls 1 [(0, .ref (y 195))] := hl
  have hE := hX
  unfold Gk_forgetPast at hE
  refine lv_aload_n hx hb dX11_forgetPast_0 rfl (lv_at hl 0 rfl) ?_
  refine lv_iconst (v := 0) hx hb dX11_forgetPast_1 (by decide) ?_
  refine zput (D := D) (ci := 10) (v := .int 0) (ty := .int) hx hb hts hiX11 tyX11 tyX11_ok nmX11 hown hK hw hS 195 kg195 rfl 13 (by decide) lf88 (fun _ h9 => h9) rfl (by decide +kernel) rfl rfl (Nat.le_of_ble_eq_true rfl) dX11_forgetPast_2 (kW ct E y (zset r 195 (upd (r 195) 13 (0 : Int32))) q) ks195_13 (fun H locs hw hS => ?_)
  refine cmgen (P := fun x => kJ x ∧ zFr [195] r x) hw ⟨hJ0.set rfl ((zI.lit (a := 0) (b := 0) (c := 0) (by decide)).w (c := 0) (d := 15) (by decide)), (zFr.refl).set rfl⟩ (fun r1 er1 hw pr1 => ?_)
  have hE := zletE er1 hE
  refine lv_aload_n hx hb dX11_forgetPast_5 rfl (lv_at hl 0 rfl) ?_
  refine lv_iconst (v := 0) hx hb dX11_forgetPast_6 (by decide) ?_
  refine zput (D := D) (ci := 10) (v := .int 0) (ty := .int) hx hb hts hiX11 tyX11 tyX11_ok nmX11 hown hK hw hS 195 kg195 rfl 14 (by decide) lf92 (fun _ h9 => h9) rfl (by decide +kernel) rfl rfl (Nat.le_of_ble_eq_true rfl) dX11_forgetPast_7 (kW ct E y (zset r1 195 (upd (r1 195) 14 (0 : Int32))) q) ks195_14 (fun H locs hw hS => ?_)
  refine cmgen (P := fun x => kJ x ∧ zFr [195] r x) hw ⟨pr1.1.set rfl (zI.top _), pr1.2.set rfl⟩ (fun r2 er2 hw pr2 => ?_)
  have hE := zletE er2 hE
  exact zvretQ hQ hx hb hr hlocks r2 rfl ⟨pr2.1, pr2.2, (hE.symm.trans hX), trivial⟩ hw hS dX11_forgetPast_10

noncomputable def Bk_land_79 (ih79 : Int32 → zRr → zRq → (Int32 × zRr × zRq)) (w79_2 : Int32) (rw79 : zRr) (qw79 : zRq) : Int32 × zRr × zRq :=
  zif ((4 : Int32) ≤ w79_2) (((0 : Int32), rw79, qw79)) (zif (zn w79_2 = 0) (zlet (α := zRr) ((zset rw79 167 (upd (rw79 167) 3 (0 : Int32)))) <| fun r5 => ih79 (w79_2 + 1) r5 qw79) (zif (zn w79_2 = 1) (zlet (α := zRr) ((zset rw79 168 (upd (rw79 168) 3 (0 : Int32)))) <| fun r7 => ih79 (w79_2 + 1) r7 qw79) (zif (zn w79_2 = 2) (zlet (α := zRr) ((zset rw79 169 (upd (rw79 169) 3 (0 : Int32)))) <| fun r9 => ih79 (w79_2 + 1) r9 qw79) (zif (zn w79_2 = 3) (zlet (α := zRr) ((zset rw79 170 (upd (rw79 170) 3 (0 : Int32)))) <| fun r11 => ih79 (w79_2 + 1) r11 qw79) (default)))))
noncomputable def Gk_land_79 (n : Nat) : Int32 → zRr → zRq → (Int32 × zRr × zRq) :=
  Nat.rec (motive := fun _ => Int32 → zRr → zRq → (Int32 × zRr × zRq)) (fun _ rw79 qw79 => (default, rw79, qw79)) (fun _ ih => Bk_land_79 ih) n
noncomputable def Gk_land (r : zRr) (q : zRq) : Int32 × zRr × zRq :=
  zc_vrq (Gk_readL r q) <| fun v14 r15 q16 => zlet (α := zRr) ((zset r15 196 (upd (r15 196) 1 (0 : Int32)))) <| fun r17 => zifn (v14 = (0 : Int32)) (zlet (α := zRq) (kcpLq q16) <| fun q20 => zlet (α := zRr) (kcpL r17 (zn (r17 192 2))) <| fun r21 => zlet (α := zRr) ((Gk_begin8N r21 q20)) <| fun u22 => zlet (α := zRr) ((zset u22 138 (upd (u22 138) 3 (0 : Int32)))) <| fun r24 => zlet (α := zRr) ((Gk_clear6 r24 q20)) <| fun u25 => zlet (α := zRr) ((Gk_forgetPast u25 q20)) <| fun u27 => Gk_land_79 5 0 u27 q20) (zlet (α := Int32) (r17 196 7) <| fun v30 => (v30, r17, q16))
set_option maxHeartbeats 4000000 in
set_option maxRecDepth 100000 in
theorem kc_land (l : Launch) (D : va_G) (ct : Nat → ClassId) (E : Nat → Nat) (y : Nat → Nat) (r : zRr) (q : zRq) (hJ0 : kJ r) (hEi : kEi E) : cC l yX11_land (.code yX11_land cX11_land 3 (some .int) :: wsL_law0) ({ frames := 39, cells := 0, slots := 0, locals := 1600 }) D ct E [.ref (y 195)] (kW ct E y r q) (S := Int32 × zRr × zRq) (fun u => some (.int u.1)) (fun u => zI (-2147483648) 2147483647 u.1 ∧ kJ u.2.1 ∧ (u.2.1 196 1 = 0) ∧ u = (Gk_land r q) ∧ True) (fun u => kW ct E y u.2.1 u.2.2) := by
  refine cofQ cX11_land 3 (some .int) (by decide) rfl (Nat.le_of_ble_eq_true rfl) ?_
  intro p e s m below meth c A a9 Q ha9 hx hb hr hml hts hown hlocks hname hK hA hZ hN hQ
  have hown : s.vm.findClass RX11 = some m.cls := hown
  have hiX1 : ∀ w ∈ wsX10, w ∈ .code yX11_land cX11_land 3 (some .int) :: wsL_law0 := fun _ h => ki (zs_wsX10 _ h)
  have hiX11 : ∀ w ∈ wsX110, w ∈ .code yX11_land cX11_land 3 (some .int) :: wsL_law0 := fun _ h => ki (zs_wsX110 _ h)
  have hiX5 : ∀ w ∈ wsX50, w ∈ .code yX11_land cX11_land 3 (some .int) :: wsL_law0 := fun _ h => ki (zs_wsX50 _ h)
  have hiX9 : ∀ w ∈ wsX90, w ∈ .code yX11_land cX11_land 3 (some .int) :: wsL_law0 := fun _ h => ki (zs_wsX90 _ h)
  have lf10 := hts (.fieldLink RX11 10 "BeardPass" "tape" "LBeardPass$Tape;") (ki (zr1 17 rfl))
  have lf19 := hts (.fieldLink RX11 19 "BeardPass" "told" "LBeardPass$Land;") (ki (zr1 21 rfl))
  have lf23 := hts (.fieldLink RX11 23 "BeardPass" "toldDraft" "LBeardPass$Land;") (ki (zr1 22 rfl))
  have lf29 := hts (.fieldLink RX11 29 "BeardPass" "landReader" "LBeardPass$LandReader;") (ki (zr2 2 rfl))
  have lf36 := hts (.fieldLink RX11 36 "BeardPass" "plan" "LBeardPass$Journey;") (ki (zr2 6 rfl))
  have lf64 := hts (.fieldLink RX11 64 "BeardPass" "now" "LBeardPass$Standing;") (ki (zr2 19 rfl))
  have lf74 := hts (.fieldLink RX11 74 "BeardPass" "sightings" "LBeardPass$Sightings;") (ki (zr3 0 rfl))
  have lf84 := hts (.fieldLink RX11 84 "BeardPass" "marks" "[LBeardPass$Mark;") (ki (zr3 3 rfl))
  have lf100 := hts (.fieldLink RX11 100 "BeardPass$Tape" "length" "I") (ki (zr9 15 rfl))
  have lf107 := hts (.fieldLink RX11 107 "BeardPass$Tape" "fault" "I") (ki (zr10 8 rfl))
  have lf116 := hts (.fieldLink RX11 116 "BeardPass$Journey" "lines" "I") (ki (zr10 9 rfl))
  have lf125 := hts (.fieldLink RX11 125 "BeardPass$Mark" "laid" "Z") (ki (zr10 10 rfl))
  obtain ⟨X, hX⟩ : ∃ X, X = (Gk_land r q) := ⟨_, rfl⟩
  have cut79 : ∀ (n79 : Nat) (w79_2 : Int32) (rw79 : zRr) (qw79 : zRq) (hw79_2 : zI 0 4 w79_2) (jw79 : kJ rw79) (xt79 : rw79 196 1 = 0) (hE : X = Gk_land_79 n79 w79_2 rw79 qw79), 4 - w79_2.toInt < (n79 : Int) → zKf p l e ({ frames := 39, cells := 0, slots := 0, locals := 1600 }) s m a9 below meth c Q D A 79 3 [] (kW ct E y rw79 qw79) [(0, .ref (y 195)), (2, .int w79_2)] := by
    intro n79
    induction n79 with
    | zero => intro w79_2 rw79 qw79 hw79_2 jw79 xt79 hE hm79; exact zI.no hw79_2 (by decide) hm79
    | succ n79 ih79 =>
      intro w79_2 rw79 qw79 hw79_2 jw79 xt79 hE hm79
      have hE : X = Bk_land_79 (Gk_land_79 n79) w79_2 rw79 qw79 := hE
      unfold Bk_land_79 at hE
      intro H locs ls hw hS hl
      refine lv_iload_n hx hb dX11_land_79 rfl (lv_at hl 1 rfl) ?_
      refine lv_iconst (v := 4) hx hb dX11_land_80 (by decide) ?_
      refine lv_icmp_ge (tgt := 100) hx hb dX11_land_81 (by decide) (fun c1 => ?_) (fun c1 => ?_)
      · have hE := zifT c1 hE
        have k2 : zI 4 4 (w79_2) := zI.leD c1 (zI.lit (a := 4) (b := 4) (c := 4) (by decide)) hw79_2 (by decide)
        refine lv_iconst (v := 0) hx hb dX11_land_100 (by decide) ?_
        exact ziretQ hQ hx hb hr rfl hlocks ((0 : Int32), rw79, qw79) rfl ⟨(zI.top _), jw79, (show rw79 196 1 = 0 from xt79), (hE.symm.trans hX), trivial⟩ hw hS dX11_land_101
      · have hE := zifF c1 hE
        have k3 : zI 0 3 (w79_2) := zI.ltU (zI.nle c1) hw79_2 (zI.lit (a := 4) (b := 4) (c := 4) (by decide)) (by decide)
        refine lv_aload_n hx hb dX11_land_84 rfl (lv_at hl 0 rfl) ?_
        refine va_get (D := D) (ci := 10) (v := .ref (y 206)) hx hb hts hiX11 hown hK hw.1 195 kg195 rfl 12 (by decide) lf84 (fun _ h9 => h9) rfl dX11_land_85 ?_
        refine lv_iload_n hx hb dX11_land_88 rfl (lv_at hl 1 rfl) ?_
        rcases (show zn w79_2 = 0 ∨ zn w79_2 = 1 ∨ zn w79_2 = 2 ∨ zn w79_2 = 3 by have h9 := (k3).nn (by decide); omega) with e4 | e4 | e4 | e4
        · refine maald hx hb hK hw 206 5 kg206 rfl k3 (by decide) (y 167) (by rw [e4]) dX11_land_89 ?_
          have hE := zifT e4 hE
          refine lv_iconst (v := 0) hx hb dX11_land_90 (by decide) ?_
          refine zput (D := D) (ci := 5) (v := .int 0) (ty := .boolean) hx hb hts hiX5 tyX5 tyX5_ok nmX5 hown hK hw hS 167 kg167 rfl 3 (by decide) lf125 (fun _ h9 => h9) rfl (by decide +kernel) rfl rfl (Nat.le_of_ble_eq_true rfl) dX11_land_91 (kW ct E y (zset rw79 167 (upd (rw79 167) 3 (0 : Int32))) qw79) ks167_3 (fun H locs hw hS => ?_)
          refine cmgen (P := fun x => kJ x) hw (jw79.set rfl ((zI.lit (a := 0) (b := 0) (c := 0) (by decide)).w (c := 0) (d := 1) (by decide))) (fun r5 er5 hw pr5 => ?_)
          have hE := zletE er5 hE
          refine lv_iinc (v := w79_2 + 1) (lv' := [(2, .int (w79_2 + 1)), (0, .ref (y 195))]) hx hb dX11_land_94 hl (k := 1) rfl (rfl) (by decide) rfl (fun ls hl => ?_)
          have k6 : zI 1 4 (w79_2 + 1) := zI.add k3 (zI.lit (a := 1) (b := 1) (by decide)) (by decide)
          refine lv_goto (tgt := 79) hx hb dX11_land_97 (by decide) ?_
          exact ih79 (w79_2 + 1) r5 qw79 (k6.w (c := 0) (d := 4) (by decide)) pr5 (((congrFun (zs_row (k := 196) er5 (by decide)) 1).trans xt79)) hE (zI.up k3 (by decide) hm79) H locs ls hw hS (lv_sub hl [1, 0] rfl)
        · refine maald hx hb hK hw 206 5 kg206 rfl k3 (by decide) (y 168) (by rw [e4]) dX11_land_89 ?_
          have hE := zifF (fun e9 => absurd (e4.symm.trans e9) (by decide)) hE
          have hE := zifT e4 hE
          refine lv_iconst (v := 0) hx hb dX11_land_90 (by decide) ?_
          refine zput (D := D) (ci := 5) (v := .int 0) (ty := .boolean) hx hb hts hiX5 tyX5 tyX5_ok nmX5 hown hK hw hS 168 kg168 rfl 3 (by decide) lf125 (fun _ h9 => h9) rfl (by decide +kernel) rfl rfl (Nat.le_of_ble_eq_true rfl) dX11_land_91 (kW ct E y (zset rw79 168 (upd (rw79 168) 3 (0 : Int32))) qw79) ks168_3 (fun H locs hw hS => ?_)
          refine cmgen (P := fun x => kJ x) hw (jw79.set rfl ((zI.lit (a := 0) (b := 0) (c := 0) (by decide)).w (c := 0) (d := 1) (by decide))) (fun r7 er7 hw pr7 => ?_)
          have hE := zletE er7 hE
          refine lv_iinc (v := w79_2 + 1) (lv' := [(2, .int (w79_2 + 1)), (0, .ref (y 195))]) hx hb dX11_land_94 hl (k := 1) rfl (rfl) (by decide) rfl (fun ls hl => ?_)
          have k8 : zI 1 4 (w79_2 + 1) := zI.add k3 (zI.lit (a := 1) (b := 1) (by decide)) (by decide)
          refine lv_goto (tgt := 79) hx hb dX11_land_97 (by decide) ?_
          exact ih79 (w79_2 + 1) r7 qw79 (k8.w (c := 0) (d := 4) (by decide)) pr7 (((congrFun (zs_row (k := 196) er7 (by decide)) 1).trans xt79)) hE (zI.up k3 (by decide) hm79) H locs ls hw hS (lv_sub hl [1, 0] rfl)
        · refine maald hx hb hK hw 206 5 kg206 rfl k3 (by decide) (y 169) (by rw [e4]) dX11_land_89 ?_
          have hE := zifF (fun e9 => absurd (e4.symm.trans e9) (by decide)) hE
          have hE := zifF (fun e9 => absurd (e4.symm.trans e9) (by decide)) hE
          have hE := zifT e4 hE
          refine lv_iconst (v := 0) hx hb dX11_land_90 (by decide) ?_
          refine zput (D := D) (ci := 5) (v := .int 0) (ty := .boolean) hx hb hts hiX5 tyX5 tyX5_ok nmX5 hown hK hw hS 169 kg169 rfl 3 (by decide) lf125 (fun _ h9 => h9) rfl (by decide +kernel) rfl rfl (Nat.le_of_ble_eq_true rfl) dX11_land_91 (kW ct E y (zset rw79 169 (upd (rw79 169) 3 (0 : Int32))) qw79) ks169_3 (fun H locs hw hS => ?_)
          refine cmgen (P := fun x => kJ x) hw (jw79.set rfl ((zI.lit (a := 0) (b := 0) (c := 0) (by decide)).w (c := 0) (d := 1) (by decide))) (fun r9 er9 hw pr9 => ?_)
          have hE := zletE er9 hE
          refine lv_iinc (v := w79_2 + 1) (lv' := [(2, .int (w79_2 + 1)), (0, .ref (y 195))]) hx hb dX11_land_94 hl (k := 1) rfl (rfl) (by decide) rfl (fun ls hl => ?_)
          have k10 : zI 1 4 (w79_2 + 1) := zI.add k3 (zI.lit (a := 1) (b := 1) (by decide)) (by decide)
          refine lv_goto (tgt := 79) hx hb dX11_land_97 (by decide) ?_
          exact ih79 (w79_2 + 1) r9 qw79 (k10.w (c := 0) (d := 4) (by decide)) pr9 (((congrFun (zs_row (k := 196) er9 (by decide)) 1).trans xt79)) hE (zI.up k3 (by decide) hm79) H locs ls hw hS (lv_sub hl [1, 0] rfl)
        · refine maald hx hb hK hw 206 5 kg206 rfl k3 (by decide) (y 170) (by rw [e4]) dX11_land_89 ?_
          have hE := zifF (fun e9 => absurd (e4.symm.trans e9) (by decide)) hE
          have hE := zifF (fun e9 => absurd (e4.symm.trans e9) (by decide)) hE
          have hE := zifF (fun e9 => absurd (e4.symm.trans e9) (by decide)) hE
          have hE := zifT e4 hE
          refine lv_iconst (v := 0) hx hb dX11_land_90 (by decide) ?_
          refine zput (D := D) (ci := 5) (v := .int 0) (ty := .boolean) hx hb hts hiX5 tyX5 tyX5_ok nmX5 hown hK hw hS 170 kg170 rfl 3 (by decide) lf125 (fun _ h9 => h9) rfl (by decide +kernel) rfl rfl (Nat.le_of_ble_eq_true rfl) dX11_land_91 (kW ct E y (zset rw79 170 (upd (rw79 170) 3 (0 : Int32))) qw79) ks170_3 (fun H locs hw hS => ?_)
          refine cmgen (P := fun x => kJ x) hw (jw79.set rfl ((zI.lit (a := 0) (b := 0) (c := 0) (by decide)).w (c := 0) (d := 1) (by decide))) (fun r11 er11 hw pr11 => ?_)
          have hE := zletE er11 hE
          refine lv_iinc (v := w79_2 + 1) (lv' := [(2, .int (w79_2 + 1)), (0, .ref (y 195))]) hx hb dX11_land_94 hl (k := 1) rfl (rfl) (by decide) rfl (fun ls hl => ?_)
          have k12 : zI 1 4 (w79_2 + 1) := zI.add k3 (zI.lit (a := 1) (b := 1) (by decide)) (by decide)
          refine lv_goto (tgt := 79) hx hb dX11_land_97 (by decide) ?_
          exact ih79 (w79_2 + 1) r11 qw79 (k12.w (c := 0) (d := 4) (by decide)) pr11 (((congrFun (zs_row (k := 196) er11 (by decide)) 1).trans xt79)) hE (zI.up k3 (by decide) hm79) H locs ls hw hS (lv_sub hl [1, 0] rfl)
  intro H locs hw hS ls hl
  have hl : lv_has ls 3 [(0, .ref (y 195))] := hl
  have hE := hX
  unfold Gk_land at hE
  refine lv_aload_n hx hb dX11_land_0 rfl (lv_at hl 0 rfl) ?_
  refine va_get (D := D) (ci := 10) (v := .ref (y 198)) hx hb hts hiX11 hown hK hw.1 195 kg195 rfl 3 (by decide) lf29 (fun _ h9 => h9) rfl dX11_land_1 ?_
  refine lv_aload_n hx hb dX11_land_4 rfl (lv_at hl 0 rfl) ?_
  refine va_get (D := D) (ci := 10) (v := .ref (y 196)) hx hb hts hiX11 hown hK hw.1 195 kg195 rfl 0 (by decide) lf10 (fun _ h9 => h9) rfl dX11_land_5 ?_
  refine lv_aload_n hx hb dX11_land_8 rfl (lv_at hl 0 rfl) ?_
  refine va_get (D := D) (ci := 10) (v := .ref (y 183)) hx hb hts hiX11 hown hK hw.1 195 kg195 rfl 2 (by decide) lf23 (fun _ h9 => h9) rfl dX11_land_9 ?_
  refine kcallV (As := [.ref (y 196), .ref (y 183)]) (rest := []) ⟨hx, hb, hml, hown, hts⟩ (kc_readL l D ct E y r q hJ0 hEi) (wqX11_103_kc_readL hts ⟨Nat.le_of_ble_eq_true rfl, Nat.le_of_ble_eq_true rfl⟩) hw hS hA hK hZ hN 3 198 rfl kg198 rfl hl.1 rfl (Nat.le_of_ble_eq_true rfl) dX11_land_12 15 rfl (fun u13 H locs pu13 hw hS => ?_)
  obtain ⟨v14, r15, q16⟩ := u13
  have hv14 : zI 0 1 v14 := pu13.1
  have ju13 : kJ r15 := pu13.2.1
  have xu13 : (v14, r15, q16) = (Gk_readL r q) := pu13.2.2.1
  have hE := zc_vrqE xu13 hE
  have hw : zPD D A (kW ct E y r15 q16) H := hw
  refine zfr 15 [.int v14] rfl rfl ?_
  refine lv_istore_n (lv' := [(1, .int v14), (0, .ref (y 195))]) hx hb dX11_land_15 rfl hl (by decide) rfl (fun ls hl => ?_)
  refine lv_aload_n hx hb dX11_land_16 rfl (lv_at hl 1 rfl) ?_
  refine va_get (D := D) (ci := 10) (v := .ref (y 196)) hx hb hts hiX11 hown hK hw.1 195 kg195 rfl 0 (by decide) lf10 (fun _ h9 => h9) rfl dX11_land_17 ?_
  refine lv_iconst (v := 0) hx hb dX11_land_20 (by decide) ?_
  refine zput (D := D) (ci := 8) (v := .int 0) (ty := .int) hx hb hts hiX9 tyX9 tyX9_ok nmX9 hown hK hw hS 196 kg196 rfl 1 (by decide) lf100 (fun _ h9 => h9) rfl (by decide +kernel) rfl rfl (Nat.le_of_ble_eq_true rfl) dX11_land_21 (kW ct E y (zset r15 196 (upd (r15 196) 1 (0 : Int32))) q16) ks196_1 (fun H locs hw hS => ?_)
  refine cmgen (P := fun x => kJ x) hw (ju13.set rfl ((zI.lit (a := 0) (b := 0) (c := 0) (by decide)).w (c := 0) (d := 1000) (by decide))) (fun r17 er17 hw pr17 => ?_)
  have hE := zletE er17 hE
  refine lv_iload_n hx hb dX11_land_24 rfl (lv_at hl 0 rfl) ?_
  refine lv_if_ne (tgt := 36) hx hb dX11_land_25 (by decide) (fun c18 => ?_) (fun c18 => ?_)
  · have hE := zifnT c18 hE
    have k19 : zI 1 1 (v14) := zI.neD c18 hv14 (zI.lit (a := 0) (b := 0) (c := 0) (by decide)) (by decide)
    refine lv_aload_n hx hb dX11_land_36 rfl (lv_at hl 1 rfl) ?_
    refine va_get (D := D) (ci := 10) (v := .ref (y 171)) hx hb hts hiX11 hown hK hw.1 195 kg195 rfl 1 (by decide) lf19 (fun _ h9 => h9) rfl dX11_land_37 ?_
    refine lv_aload_n hx hb dX11_land_40 rfl (lv_at hl 1 rfl) ?_
    refine va_get (D := D) (ci := 10) (v := .ref (y 183)) hx hb hts hiX11 hown hK hw.1 195 kg195 rfl 2 (by decide) lf23 (fun _ h9 => h9) rfl dX11_land_41 ?_
    have hix := (show zI 0 1000 (r17 192 2) from pr17.i 192 2).ix (n := 1001) (by decide)
    refine kcallZ (As := [.ref (y 183)]) (rest := []) kisL (by decide) (kisLw hix.1) ⟨hx, hb, hml, hown, hts⟩ (c_X2_copy l D ct (y 171) (y 183) (y 172) (y 173) (y 174) (y 175) (y 176) (y 177) (y 178) (y 179) (y 184) (y 185) (y 186) (y 187) (y 188) (y 189) (y 190) (y 191) (y 180) (y 181) (y 182) (y 192) (y 193) (y 194) (r17 172) (r17 173) (q16 174) (r17 175) (r17 176) (r17 177) (r17 178) (q16 179) (r17 184) (r17 185) (q16 186) (r17 187) (r17 188) (r17 189) (r17 190) (q16 191) (r17 181) (r17 193) (r17 171 9) (r17 171 10) (r17 171 11) (r17 171 12) (r17 183 9) (r17 183 10) (r17 183 11) (r17 183 12) (r17 180 2) (zn (r17 192 2)) (by have h9 := hix.2; omega)) (cwV 1 hts (kgVm (zr20 7 rfl) (zr20 8 rfl) (zr20 9 rfl) (zr1 20 rfl) mL_X2_copy) rfl rfl rfl (by decide +kernel) ⟨Nat.le_of_ble_eq_true rfl, Nat.le_of_ble_eq_true rfl⟩) hw hS hA hK hN (by decide) 2 171 rfl kg171 rfl hl.1 rfl (Nat.le_of_ble_eq_true rfl) dX11_land_44 47 rfl (kcpL r17 (zn (r17 192 2))) (kcpLq q16) (fun _ => kisLB hix.1) kisLx (fun _ H locs _ hw hS => ?_)
    refine zfr 47 [] rfl rfl ?_
    refine cqgen hw (fun q20 eq20 hw => ?_)
    have hE := zletE eq20 hE
    refine cmgen (P := fun x => kJ x) hw (pr17.copyL hix.1.symm) (fun r21 er21 hw pr21 => ?_)
    have hE := zletE er21 hE
    refine lv_aload_n hx hb dX11_land_47 rfl (lv_at hl 1 rfl) ?_
    refine va_get (D := D) (ci := 10) (v := .ref (y 6)) hx hb hts hiX11 hown hK hw.1 195 kg195 rfl 8 (by decide) lf64 (fun _ h9 => h9) rfl dX11_land_48 ?_
    refine lv_aload_n hx hb dX11_land_51 rfl (lv_at hl 1 rfl) ?_
    refine va_get (D := D) (ci := 10) (v := .ref (y 171)) hx hb hts hiX11 hown hK hw.1 195 kg195 rfl 1 (by decide) lf19 (fun _ h9 => h9) rfl dX11_land_52 ?_
    refine kcallV (As := [.ref (y 171)]) (rest := []) ⟨hx, hb, hml, hown, hts⟩ (kc_begin8N l D ct E y r21 q20 pr21 hEi) (wqX11_113_kc_begin8N hts ⟨Nat.le_of_ble_eq_true rfl, Nat.le_of_ble_eq_true rfl⟩) hw hS hA hK hZ hN 7 6 rfl kg6 rfl hl.1 rfl (Nat.le_of_ble_eq_true rfl) dX11_land_55 58 rfl (fun u22 H locs pu22 hw hS => ?_)
    have ju22 : kJ u22 := pu22.1
    have fu22 : zFr [6, 7, 8, 9, 10, 11] r21 u22 := pu22.2.1
    have xu22 : u22 = (Gk_begin8N r21 q20) := pu22.2.2.1
    have hE := zletE xu22 hE
    have hw : zPD D A (kW ct E y u22 q20) H := hw
    refine zfr 58 [] rfl rfl ?_
    refine lv_aload_n hx hb dX11_land_58 rfl (lv_at hl 1 rfl) ?_
    refine va_get (D := D) (ci := 10) (v := .ref (y 138)) hx hb hts hiX11 hown hK hw.1 195 kg195 rfl 4 (by decide) lf36 (fun _ h9 => h9) rfl dX11_land_59 ?_
    refine lv_iconst (v := 0) hx hb dX11_land_62 (by decide) ?_
    refine zput (D := D) (ci := 1) (v := .int 0) (ty := .int) hx hb hts hiX1 tyX1 tyX1_ok nmX1 hown hK hw hS 138 kg138 rfl 3 (by decide) lf116 (fun _ h9 => h9) rfl (by decide +kernel) rfl rfl (Nat.le_of_ble_eq_true rfl) dX11_land_63 (kW ct E y (zset u22 138 (upd (u22 138) 3 (0 : Int32))) q20) ks138_3 (fun H locs hw hS => ?_)
    refine cmgen (P := fun x => kJ x) hw (ju22.set rfl ((zI.lit (a := 0) (b := 0) (c := 0) (by decide)).w (c := 0) (d := 40) (by decide))) (fun r24 er24 hw pr24 => ?_)
    have hE := zletE er24 hE
    refine lv_aload_n hx hb dX11_land_66 rfl (lv_at hl 1 rfl) ?_
    refine va_get (D := D) (ci := 10) (v := .ref (y 162)) hx hb hts hiX11 hown hK hw.1 195 kg195 rfl 10 (by decide) lf74 (fun _ h9 => h9) rfl dX11_land_67 ?_
    refine kcallV (As := []) (rest := []) ⟨hx, hb, hml, hown, hts⟩ (kc_clear6 l D ct E y r24 q20 pr24 hEi) (wqX11_119_kc_clear6 hts ⟨Nat.le_of_ble_eq_true rfl, Nat.le_of_ble_eq_true rfl⟩) hw hS hA hK hZ hN 6 162 rfl kg162 rfl hl.1 rfl (Nat.le_of_ble_eq_true rfl) dX11_land_70 73 rfl (fun u25 H locs pu25 hw hS => ?_)
    have ju25 : kJ u25 := pu25.1
    have fu25 : zFr [162] r24 u25 := pu25.2.1
    have xu25 : u25 = (Gk_clear6 r24 q20) := pu25.2.2.1
    have hE := zletE xu25 hE
    have hw : zPD D A (kW ct E y u25 q20) H := hw
    refine zfr 73 [] rfl rfl ?_
    refine lv_aload_n hx hb dX11_land_73 rfl (lv_at hl 1 rfl) ?_
    refine kcallV (As := []) (rest := []) ⟨hx, hb, hml, hown, hts⟩ (kc_forgetPast l D ct E y u25 q20 ju25 hEi) (wqX11_122_kc_forgetPast hts ⟨Nat.le_of_ble_eq_true rfl, Nat.le_of_ble_eq_true rfl⟩) hw hS hA hK hZ hN 10 195 rfl kg195 rfl hl.1 rfl (Nat.le_of_ble_eq_true rfl) dX11_land_74 77 rfl (fun u27 H locs pu27 hw hS => ?_)
    have ju27 : kJ u27 := pu27.1
    have fu27 : zFr [195] u25 u27 := pu27.2.1
    have xu27 : u27 = (Gk_forgetPast u25 q20) := pu27.2.2.1
    have hE := zletE xu27 hE
    have hw : zPD D A (kW ct E y u27 q20) H := hw
    refine zfr 77 [] rfl rfl ?_
    refine lv_iconst (v := 0) hx hb dX11_land_77 (by decide) ?_
    refine lv_istore_n (lv' := [(2, .int 0), (1, .int v14), (0, .ref (y 195))]) hx hb dX11_land_78 rfl hl (by decide) rfl (fun ls hl => ?_)
    exact cut79 5 0 u27 q20 ((zI.lit (a := 0) (b := 0) (c := 0) (by decide)).w (c := 0) (d := 4) (by decide)) ju27 (((congrFun (fu27 196 rfl) 1).trans ((congrFun (fu25 196 rfl) 1).trans ((congrFun (zs_row (k := 196) er24 (by decide)) 1).trans ((congrFun (fu22 196 rfl) 1).trans ((congrFun (show r21 196 = r17 196 by rw [er21]; rfl) 1).trans ((congrFun (zs_self er17) 1).trans pk_us))))))) hE (zI.m0 (zI.lit (a := 0) (b := 0) (c := 0) (by decide)) (by decide)) H locs ls hw hS (lv_sub hl [2, 0] rfl)
  · have hE := zifnF c18 hE
    have k29 : zI 0 0 (v14) := zI.eqq c18 (zI.lit (a := 0) (b := 0) (c := 0) (by decide))
    refine lv_aload_n hx hb dX11_land_28 rfl (lv_at hl 1 rfl) ?_
    refine va_get (D := D) (ci := 10) (v := .ref (y 196)) hx hb hts hiX11 hown hK hw.1 195 kg195 rfl 0 (by decide) lf10 (fun _ h9 => h9) rfl dX11_land_29 ?_
    refine va_get (D := D) (ci := 8) (v := .int (r17 196 7)) hx hb hts hiX9 hown hK hw.1 196 kg196 rfl 7 (by decide) lf107 (fun _ h9 => h9) rfl dX11_land_32 (zgenE (zI.top _) (fun v30 ev30 _ => ?_))
    have hE := zletE ev30 hE
    exact ziretQ hQ hx hb hr rfl hlocks (v30, r17, q16) rfl ⟨(zI.top _), pr17, (show r17 196 1 = 0 from ((congrFun (zs_self er17) 1).trans pk_us)), (hE.symm.trans hX), trivial⟩ hw hS dX11_land_35

noncomputable def Gk_journey (r : zRr) (q : zRq) : Int32 × zRr × zRq :=
  zc_vrq (Gk_readJ r q) <| fun v2 r3 q4 => zlet (α := zRr) ((zset r3 196 (upd (r3 196) 1 (0 : Int32)))) <| fun r5 => zifn (v2 = (0 : Int32)) (zlet (α := zRr) (kcp1 r5 138 142) <| fun r8 => ((0 : Int32), r8, q4)) (zlet (α := Int32) (r5 196 7) <| fun v10 => (v10, r5, q4))
set_option maxHeartbeats 4000000 in
set_option maxRecDepth 100000 in
theorem kc_journey (l : Launch) (D : va_G) (ct : Nat → ClassId) (E : Nat → Nat) (y : Nat → Nat) (r : zRr) (q : zRq) (hJ0 : kJ r) (hEi : kEi E) : cC l yX11_journey (.code yX11_journey cX11_journey 2 (some .int) :: wsL_law0) ({ frames := 12, cells := 0, slots := 0, locals := 520 }) D ct E [.ref (y 195)] (kW ct E y r q) (S := Int32 × zRr × zRq) (fun u => some (.int u.1)) (fun u => zI (-2147483648) 2147483647 u.1 ∧ kJ u.2.1 ∧ (u.2.1 196 1 = 0) ∧ u = (Gk_journey r q) ∧ True) (fun u => kW ct E y u.2.1 u.2.2) := by
  refine cofQ cX11_journey 2 (some .int) (by decide) rfl (Nat.le_of_ble_eq_true rfl) ?_
  intro p e s m below meth c A a9 Q ha9 hx hb hr hml hts hown hlocks hname hK hA hZ hN hQ
  have hown : s.vm.findClass RX11 = some m.cls := hown
  have hiX11 : ∀ w ∈ wsX110, w ∈ .code yX11_journey cX11_journey 2 (some .int) :: wsL_law0 := fun _ h => ki (zs_wsX110 _ h)
  have hiX9 : ∀ w ∈ wsX90, w ∈ .code yX11_journey cX11_journey 2 (some .int) :: wsL_law0 := fun _ h => ki (zs_wsX90 _ h)
  have lf10 := hts (.fieldLink RX11 10 "BeardPass" "tape" "LBeardPass$Tape;") (ki (zr1 17 rfl))
  have lf19 := hts (.fieldLink RX11 19 "BeardPass" "told" "LBeardPass$Land;") (ki (zr1 21 rfl))
  have lf36 := hts (.fieldLink RX11 36 "BeardPass" "plan" "LBeardPass$Journey;") (ki (zr2 6 rfl))
  have lf40 := hts (.fieldLink RX11 40 "BeardPass" "planDraft" "LBeardPass$Journey;") (ki (zr2 7 rfl))
  have lf100 := hts (.fieldLink RX11 100 "BeardPass$Tape" "length" "I") (ki (zr9 15 rfl))
  have lf107 := hts (.fieldLink RX11 107 "BeardPass$Tape" "fault" "I") (ki (zr10 8 rfl))
  obtain ⟨X, hX⟩ : ∃ X, X = (Gk_journey r q) := ⟨_, rfl⟩
  intro H locs hw hS ls hl
  have hl : lv_has ls 2 [(0, .ref (y 195))] := hl
  have hE := hX
  unfold Gk_journey at hE
  refine lv_aload_n hx hb dX11_journey_0 rfl (lv_at hl 0 rfl) ?_
  refine va_get (D := D) (ci := 10) (v := .ref (y 142)) hx hb hts hiX11 hown hK hw.1 195 kg195 rfl 5 (by decide) lf40 (fun _ h9 => h9) rfl dX11_journey_1 ?_
  refine lv_aload_n hx hb dX11_journey_4 rfl (lv_at hl 0 rfl) ?_
  refine va_get (D := D) (ci := 10) (v := .ref (y 196)) hx hb hts hiX11 hown hK hw.1 195 kg195 rfl 0 (by decide) lf10 (fun _ h9 => h9) rfl dX11_journey_5 ?_
  refine lv_aload_n hx hb dX11_journey_8 rfl (lv_at hl 0 rfl) ?_
  refine va_get (D := D) (ci := 10) (v := .ref (y 171)) hx hb hts hiX11 hown hK hw.1 195 kg195 rfl 1 (by decide) lf19 (fun _ h9 => h9) rfl dX11_journey_9 ?_
  refine kcallV (As := [.ref (y 196), .ref (y 171)]) (rest := []) ⟨hx, hb, hml, hown, hts⟩ (kc_readJ l D ct E y r q hJ0 hEi) (wqX11_129_kc_readJ hts ⟨Nat.le_of_ble_eq_true rfl, Nat.le_of_ble_eq_true rfl⟩) hw hS hA hK hZ hN 1 142 rfl kg142 rfl hl.1 rfl (Nat.le_of_ble_eq_true rfl) dX11_journey_12 15 rfl (fun u1 H locs pu1 hw hS => ?_)
  obtain ⟨v2, r3, q4⟩ := u1
  have hv2 : zI 0 1 v2 := pu1.1
  have ju1 : kJ r3 := pu1.2.1
  have fu1 : zFr [142, 143, 144, 145, 196] r r3 := pu1.2.2.1
  have yu1_0 : (¬ v2 = 0 → kLb r3 (r3 142 3).toInt) := pu1.2.2.2.1
  have xu1 : (v2, r3, q4) = (Gk_readJ r q) := pu1.2.2.2.2.1
  have hE := zc_vrqE xu1 hE
  have hw : zPD D A (kW ct E y r3 q4) H := hw
  refine zfr 15 [.int v2] rfl rfl ?_
  refine lv_istore_n (lv' := [(1, .int v2), (0, .ref (y 195))]) hx hb dX11_journey_15 rfl hl (by decide) rfl (fun ls hl => ?_)
  refine lv_aload_n hx hb dX11_journey_16 rfl (lv_at hl 1 rfl) ?_
  refine va_get (D := D) (ci := 10) (v := .ref (y 196)) hx hb hts hiX11 hown hK hw.1 195 kg195 rfl 0 (by decide) lf10 (fun _ h9 => h9) rfl dX11_journey_17 ?_
  refine lv_iconst (v := 0) hx hb dX11_journey_20 (by decide) ?_
  refine zput (D := D) (ci := 8) (v := .int 0) (ty := .int) hx hb hts hiX9 tyX9 tyX9_ok nmX9 hown hK hw hS 196 kg196 rfl 1 (by decide) lf100 (fun _ h9 => h9) rfl (by decide +kernel) rfl rfl (Nat.le_of_ble_eq_true rfl) dX11_journey_21 (kW ct E y (zset r3 196 (upd (r3 196) 1 (0 : Int32))) q4) ks196_1 (fun H locs hw hS => ?_)
  refine cmgen (P := fun x => kJ x) hw (ju1.set rfl ((zI.lit (a := 0) (b := 0) (c := 0) (by decide)).w (c := 0) (d := 1000) (by decide))) (fun r5 er5 hw pr5 => ?_)
  have hE := zletE er5 hE
  refine lv_iload_n hx hb dX11_journey_24 rfl (lv_at hl 0 rfl) ?_
  refine lv_if_ne (tgt := 36) hx hb dX11_journey_25 (by decide) (fun c6 => ?_) (fun c6 => ?_)
  · have hE := zifnT c6 hE
    have k7 : zI 1 1 (v2) := zI.neD c6 hv2 (zI.lit (a := 0) (b := 0) (c := 0) (by decide)) (by decide)
    refine lv_aload_n hx hb dX11_journey_36 rfl (lv_at hl 1 rfl) ?_
    refine va_get (D := D) (ci := 10) (v := .ref (y 138)) hx hb hts hiX11 hown hK hw.1 195 kg195 rfl 4 (by decide) lf36 (fun _ h9 => h9) rfl dX11_journey_37 ?_
    refine lv_aload_n hx hb dX11_journey_40 rfl (lv_at hl 1 rfl) ?_
    refine va_get (D := D) (ci := 10) (v := .ref (y 142)) hx hb hts hiX11 hown hK hw.1 195 kg195 rfl 5 (by decide) lf40 (fun _ h9 => h9) rfl dX11_journey_41 ?_
    have hix := (show zI 0 40 (r5 142 3) from pr5.i 142 3).ix (n := 41) (by decide)
    refine kcallZ (As := [.ref (y 142)]) (rest := []) (kis1 138 142) (kis1l ⟨by decide, by decide, by decide⟩ ⟨by decide, by decide, by decide⟩) (kis1w ⟨by decide, by decide, by decide⟩ ⟨by decide, by decide, by decide⟩ hix.1) ⟨hx, hb, hml, hown, hts⟩ (c_X1_copy l D ct (y 138) (y 142) (y (138 + 1)) (y (138 + 2)) (y (138 + 3)) (y (142 + 1)) (y (142 + 2)) (y (142 + 3)) (r5 (138 + 1)) (r5 (138 + 2)) (r5 (138 + 3)) (r5 (142 + 1)) (r5 (142 + 2)) (r5 (142 + 3)) (r5 138 3) (zn (r5 142 3)) (by have h9 := hix.2; omega)) (cwV 1 hts (kgVm (zr29 13 rfl) (zr29 14 rfl) (zr29 15 rfl) (zr2 5 rfl) mL_X1_copy) rfl rfl rfl (by decide +kernel) ⟨Nat.le_of_ble_eq_true rfl, Nat.le_of_ble_eq_true rfl⟩) hw hS hA hK hN (kis1n ⟨by decide, by decide, by decide⟩ ⟨by decide, by decide, by decide⟩ (by decide)) 1 138 rfl (kis1o ⟨by decide, by decide, by decide⟩) rfl hl.1 rfl (Nat.le_of_ble_eq_true rfl) dX11_journey_44 47 rfl (kcp1 r5 138 142) q4 (fun _ => kis1B ⟨by decide, by decide, by decide⟩ ⟨by decide, by decide, by decide⟩ (by decide) hix.1) kis1x (fun _ H locs _ hw hS => ?_)
    refine zfr 47 [] rfl rfl ?_
    refine cmgen (P := fun x => kJ x) hw (pr5.copy1 (by decide) (kLb.L (by rw [(zs_row (k := 142) er5 (by decide))]; exact kLb.row (yu1_0 c6) (zs_row (k := 143) er5 (by decide)) (zs_row (k := 144) er5 (by decide)) (zs_row (k := 145) er5 (by decide)))) (show zI 0 40 (r5 142 3) from pr5.i 142 3)) (fun r8 er8 hw pr8 => ?_)
    have hE := zletE er8 hE
    refine lv_iconst (v := 0) hx hb dX11_journey_47 (by decide) ?_
    exact ziretQ hQ hx hb hr rfl hlocks ((0 : Int32), r8, q4) rfl ⟨(zI.top _), pr8, (show r8 196 1 = 0 from ((congrFun (show r8 196 = r5 196 by rw [er8]; rfl) 1).trans ((congrFun (zs_self er5) 1).trans pk_us))), (hE.symm.trans hX), trivial⟩ hw hS dX11_journey_48
  · have hE := zifnF c6 hE
    have k9 : zI 0 0 (v2) := zI.eqq c6 (zI.lit (a := 0) (b := 0) (c := 0) (by decide))
    refine lv_aload_n hx hb dX11_journey_28 rfl (lv_at hl 1 rfl) ?_
    refine va_get (D := D) (ci := 10) (v := .ref (y 196)) hx hb hts hiX11 hown hK hw.1 195 kg195 rfl 0 (by decide) lf10 (fun _ h9 => h9) rfl dX11_journey_29 ?_
    refine va_get (D := D) (ci := 8) (v := .int (r5 196 7)) hx hb hts hiX9 hown hK hw.1 196 kg196 rfl 7 (by decide) lf107 (fun _ h9 => h9) rfl dX11_journey_32 (zgenE (zI.top _) (fun v10 ev10 _ => ?_))
    have hE := zletE ev10 hE
    exact ziretQ hQ hx hb hr rfl hlocks (v10, r5, q4) rfl ⟨(zI.top _), pr5, (show r5 196 1 = 0 from ((congrFun (zs_self er5) 1).trans pk_us)), (hE.symm.trans hX), trivial⟩ hw hS dX11_journey_35

set_option maxHeartbeats 4000000 in
set_option maxRecDepth 100000 in
theorem kc_suma (l : Launch) (D : va_G) (ct : Nat → ClassId) (E : Nat → Nat) (y : Nat → Nat) (r : zRr) (q : zRq) (hJ0 : kJ r) (hEi : kEi E) : cC l yX11_sum (.code yX11_sum cX11_sum 4 (some .int) :: wsL_law0) ({ frames := 1, cells := 0, slots := 0, locals := 80 }) D ct E [.ref (y 195), .ref (y 178)] (kW ct E y r q) (S := Int32) (fun u => some (.int u)) (fun u => zI (-2147483648) 2147483647 u ∧ True) (fun u => kW ct E y r q) := by
  refine cofQ cX11_sum 4 (some .int) (by decide) rfl (Nat.le_of_ble_eq_true rfl) ?_
  intro p e s m below meth c A a9 Q ha9 hx hb hr hml hts hown hlocks hname hK hA hZ hN hQ
  have hown : s.vm.findClass RX11 = some m.cls := hown
  have hiX11 : ∀ w ∈ wsX110, w ∈ .code yX11_sum cX11_sum 4 (some .int) :: wsL_law0 := fun _ h => ki (zs_wsX110 _ h)
  have hiX2 : ∀ w ∈ wsX20, w ∈ .code yX11_sum cX11_sum 4 (some .int) :: wsL_law0 := fun _ h => ki (zs_wsX20 _ h)
  have lf19 := hts (.fieldLink RX11 19 "BeardPass" "told" "LBeardPass$Land;") (ki (zr1 21 rfl))
  have lf172 := hts (.fieldLink RX11 172 "BeardPass$Land" "persons" "I") (ki (zr31 0 rfl))
  have cut4 : ∀ (n : Nat) (w4_2 : Int32) (w4_3 : Int32) (hw4_3 : zI 0 6 w4_3), 6 - w4_3.toInt < (n : Int) → zKf p l e ({ frames := 1, cells := 0, slots := 0, locals := 80 }) s m a9 below meth c Q D A 4 4 [] (kW ct E y r q) [(0, .ref (y 195)), (1, .ref (y 178)), (2, .int w4_2), (3, .int w4_3)] := by
    intro n
    induction n with
    | zero => intro w4_2 w4_3 hw4_3 hm4; exact zI.no hw4_3 (by decide) hm4
    | succ n ih4 =>
      intro w4_2 w4_3 hw4_3 hm4
      intro H locs ls hw hS hl
      refine lv_iload_n hx hb dX11_sum_4 rfl (lv_at hl 3 rfl) ?_
      refine lv_aload_n hx hb dX11_sum_5 rfl (lv_at hl 0 rfl) ?_
      refine va_get (D := D) (ci := 10) (v := .ref (y 171)) hx hb hts hiX11 hown hK hw.1 195 kg195 rfl 1 (by decide) lf19 (fun _ h9 => h9) rfl dX11_sum_6 ?_
      refine va_get (D := D) (ci := 2) (v := .int (r 171 10)) hx hb hts hiX2 hown hK hw.1 171 kg171 rfl 10 (by decide) lf172 (fun _ h9 => h9) rfl dX11_sum_9 (zgen (lo := 0) (hi := 6) ((show zI 0 6 (r 171 10) from hJ0.i 171 10)) (fun v1 hv1 => ?_))
      refine lv_icmp_ge (tgt := 33) hx hb dX11_sum_12 (by decide) (fun c2 => ?_) (fun c2 => ?_)
      · refine lv_iload_n hx hb dX11_sum_33 rfl (lv_at hl 2 rfl) ?_
        exact ziretQ hQ hx hb hr rfl hlocks w4_2 rfl ⟨(zI.top _), trivial⟩ hw hS dX11_sum_34
      · have k3 : zI 0 5 (w4_3) := zI.ltU (zI.nle c2) hw4_3 hv1 (by decide)
        have k4 : zI 1 6 (v1) := zI.ltD (zI.nle c2) hw4_3 hv1 (by decide)
        refine lv_iload_n hx hb dX11_sum_15 rfl (lv_at hl 3 rfl) ?_
        refine lv_aload_n hx hb dX11_sum_16 rfl (lv_at hl 1 rfl) ?_
        refine va_alen hx hb hK hw.1 178 0 kg178 rfl (v := 6) rfl dX11_sum_17 ?_
        refine lv_icmp_ge (tgt := 33) hx hb dX11_sum_18 (by decide) (fun c5 => ?_) (fun c5 => ?_)
        · exact zI.abs (a := 6) (b := 5) (zI.leU c5 (zI.lit (a := 6) (b := 6) (c := 6) (by decide)) k3 (by decide)) (by decide)
        · refine lv_iload_n hx hb dX11_sum_21 rfl (lv_at hl 2 rfl) ?_
          refine lv_aload_n hx hb dX11_sum_22 rfl (lv_at hl 1 rfl) ?_
          refine lv_iload_n hx hb dX11_sum_23 rfl (lv_at hl 3 rfl) ?_
          refine miald hx hb hK hw 178 kg178 k3 (by decide) dX11_sum_24 (zgen (zI.top _) (fun v6 _ => ?_))
          refine lv_iadd hx hb dX11_sum_25 (zgen (zI.top _) (fun v7 _ => ?_))
          refine lv_istore_n (lv' := [(2, .int v7), (0, .ref (y 195)), (1, .ref (y 178)), (3, .int w4_3)]) hx hb dX11_sum_26 rfl hl (by decide) rfl (fun ls hl => ?_)
          refine lv_iinc (v := w4_3 + 1) (lv' := [(3, .int (w4_3 + 1)), (2, .int v7), (0, .ref (y 195)), (1, .ref (y 178))]) hx hb dX11_sum_27 hl (k := 3) rfl (rfl) (by decide) rfl (fun ls hl => ?_)
          have k8 : zI 1 6 (w4_3 + 1) := zI.add k3 (zI.lit (a := 1) (b := 1) (by decide)) (by decide)
          refine lv_goto (tgt := 4) hx hb dX11_sum_30 (by decide) ?_
          exact ih4 v7 (w4_3 + 1) (k8.w (c := 0) (d := 6) (by decide)) (zI.up k3 (by decide) hm4) H locs ls hw hS (lv_sub hl [2, 3, 1, 0] rfl)
  intro H locs hw hS ls hl
  have hl : lv_has ls 4 [(0, .ref (y 195)), (1, .ref (y 178))] := hl
  refine lv_iconst (v := 0) hx hb dX11_sum_0 (by decide) ?_
  refine lv_istore_n (lv' := [(2, .int 0), (0, .ref (y 195)), (1, .ref (y 178))]) hx hb dX11_sum_1 rfl hl (by decide) rfl (fun ls hl => ?_)
  refine lv_iconst (v := 0) hx hb dX11_sum_2 (by decide) ?_
  refine lv_istore_n (lv' := [(3, .int 0), (2, .int 0), (0, .ref (y 195)), (1, .ref (y 178))]) hx hb dX11_sum_3 rfl hl (by decide) rfl (fun ls hl => ?_)
  exact cut4 7 0 0 ((zI.lit (a := 0) (b := 0) (c := 0) (by decide)).w (c := 0) (d := 6) (by decide)) (zI.m0 (zI.lit (a := 0) (b := 0) (c := 0) (by decide)) (by decide)) H locs ls hw hS (lv_sub hl [2, 3, 1, 0] rfl)

set_option maxHeartbeats 4000000 in
set_option maxRecDepth 100000 in
theorem kc_sumb (l : Launch) (D : va_G) (ct : Nat → ClassId) (E : Nat → Nat) (y : Nat → Nat) (r : zRr) (q : zRq) (hJ0 : kJ r) (hEi : kEi E) : cC l yX11_sum (.code yX11_sum cX11_sum 4 (some .int) :: wsL_law0) ({ frames := 1, cells := 0, slots := 0, locals := 80 }) D ct E [.ref (y 195), .ref (y 9)] (kW ct E y r q) (S := Int32) (fun u => some (.int u)) (fun u => zI (-2147483648) 2147483647 u ∧ True) (fun u => kW ct E y r q) := by
  refine cofQ cX11_sum 4 (some .int) (by decide) rfl (Nat.le_of_ble_eq_true rfl) ?_
  intro p e s m below meth c A a9 Q ha9 hx hb hr hml hts hown hlocks hname hK hA hZ hN hQ
  have hown : s.vm.findClass RX11 = some m.cls := hown
  have hiX11 : ∀ w ∈ wsX110, w ∈ .code yX11_sum cX11_sum 4 (some .int) :: wsL_law0 := fun _ h => ki (zs_wsX110 _ h)
  have hiX2 : ∀ w ∈ wsX20, w ∈ .code yX11_sum cX11_sum 4 (some .int) :: wsL_law0 := fun _ h => ki (zs_wsX20 _ h)
  have lf19 := hts (.fieldLink RX11 19 "BeardPass" "told" "LBeardPass$Land;") (ki (zr1 21 rfl))
  have lf172 := hts (.fieldLink RX11 172 "BeardPass$Land" "persons" "I") (ki (zr31 0 rfl))
  have cut4 : ∀ (n : Nat) (w4_2 : Int32) (w4_3 : Int32) (hw4_3 : zI 0 6 w4_3), 6 - w4_3.toInt < (n : Int) → zKf p l e ({ frames := 1, cells := 0, slots := 0, locals := 80 }) s m a9 below meth c Q D A 4 4 [] (kW ct E y r q) [(0, .ref (y 195)), (1, .ref (y 9)), (2, .int w4_2), (3, .int w4_3)] := by
    intro n
    induction n with
    | zero => intro w4_2 w4_3 hw4_3 hm4; exact zI.no hw4_3 (by decide) hm4
    | succ n ih4 =>
      intro w4_2 w4_3 hw4_3 hm4
      intro H locs ls hw hS hl
      refine lv_iload_n hx hb dX11_sum_4 rfl (lv_at hl 3 rfl) ?_
      refine lv_aload_n hx hb dX11_sum_5 rfl (lv_at hl 0 rfl) ?_
      refine va_get (D := D) (ci := 10) (v := .ref (y 171)) hx hb hts hiX11 hown hK hw.1 195 kg195 rfl 1 (by decide) lf19 (fun _ h9 => h9) rfl dX11_sum_6 ?_
      refine va_get (D := D) (ci := 2) (v := .int (r 171 10)) hx hb hts hiX2 hown hK hw.1 171 kg171 rfl 10 (by decide) lf172 (fun _ h9 => h9) rfl dX11_sum_9 (zgen (lo := 0) (hi := 6) ((show zI 0 6 (r 171 10) from hJ0.i 171 10)) (fun v1 hv1 => ?_))
      refine lv_icmp_ge (tgt := 33) hx hb dX11_sum_12 (by decide) (fun c2 => ?_) (fun c2 => ?_)
      · refine lv_iload_n hx hb dX11_sum_33 rfl (lv_at hl 2 rfl) ?_
        exact ziretQ hQ hx hb hr rfl hlocks w4_2 rfl ⟨(zI.top _), trivial⟩ hw hS dX11_sum_34
      · have k3 : zI 0 5 (w4_3) := zI.ltU (zI.nle c2) hw4_3 hv1 (by decide)
        have k4 : zI 1 6 (v1) := zI.ltD (zI.nle c2) hw4_3 hv1 (by decide)
        refine lv_iload_n hx hb dX11_sum_15 rfl (lv_at hl 3 rfl) ?_
        refine lv_aload_n hx hb dX11_sum_16 rfl (lv_at hl 1 rfl) ?_
        refine va_alen hx hb hK hw.1 9 0 kg9 rfl (v := 6) rfl dX11_sum_17 ?_
        refine lv_icmp_ge (tgt := 33) hx hb dX11_sum_18 (by decide) (fun c5 => ?_) (fun c5 => ?_)
        · exact zI.abs (a := 6) (b := 5) (zI.leU c5 (zI.lit (a := 6) (b := 6) (c := 6) (by decide)) k3 (by decide)) (by decide)
        · refine lv_iload_n hx hb dX11_sum_21 rfl (lv_at hl 2 rfl) ?_
          refine lv_aload_n hx hb dX11_sum_22 rfl (lv_at hl 1 rfl) ?_
          refine lv_iload_n hx hb dX11_sum_23 rfl (lv_at hl 3 rfl) ?_
          refine miald hx hb hK hw 9 kg9 k3 (by decide) dX11_sum_24 (zgen (lo := 0) (hi := 20) ((show zI 0 20 (r 9 _) from hJ0.i 9 _)) (fun v6 hv6 => ?_))
          refine lv_iadd hx hb dX11_sum_25 (zgen (zI.top _) (fun v7 _ => ?_))
          refine lv_istore_n (lv' := [(2, .int v7), (0, .ref (y 195)), (1, .ref (y 9)), (3, .int w4_3)]) hx hb dX11_sum_26 rfl hl (by decide) rfl (fun ls hl => ?_)
          refine lv_iinc (v := w4_3 + 1) (lv' := [(3, .int (w4_3 + 1)), (2, .int v7), (0, .ref (y 195)), (1, .ref (y 9))]) hx hb dX11_sum_27 hl (k := 3) rfl (rfl) (by decide) rfl (fun ls hl => ?_)
          have k8 : zI 1 6 (w4_3 + 1) := zI.add k3 (zI.lit (a := 1) (b := 1) (by decide)) (by decide)
          refine lv_goto (tgt := 4) hx hb dX11_sum_30 (by decide) ?_
          exact ih4 v7 (w4_3 + 1) (k8.w (c := 0) (d := 6) (by decide)) (zI.up k3 (by decide) hm4) H locs ls hw hS (lv_sub hl [2, 3, 1, 0] rfl)
  intro H locs hw hS ls hl
  have hl : lv_has ls 4 [(0, .ref (y 195)), (1, .ref (y 9))] := hl
  refine lv_iconst (v := 0) hx hb dX11_sum_0 (by decide) ?_
  refine lv_istore_n (lv' := [(2, .int 0), (0, .ref (y 195)), (1, .ref (y 9))]) hx hb dX11_sum_1 rfl hl (by decide) rfl (fun ls hl => ?_)
  refine lv_iconst (v := 0) hx hb dX11_sum_2 (by decide) ?_
  refine lv_istore_n (lv' := [(3, .int 0), (2, .int 0), (0, .ref (y 195)), (1, .ref (y 9))]) hx hb dX11_sum_3 rfl hl (by decide) rfl (fun ls hl => ?_)
  exact cut4 7 0 0 ((zI.lit (a := 0) (b := 0) (c := 0) (by decide)).w (c := 0) (d := 6) (by decide)) (zI.m0 (zI.lit (a := 0) (b := 0) (c := 0) (by decide)) (by decide)) H locs ls hw hS (lv_sub hl [2, 3, 1, 0] rfl)

set_option maxHeartbeats 4000000 in
set_option maxRecDepth 100000 in
theorem kc_sumc (l : Launch) (D : va_G) (ct : Nat → ClassId) (E : Nat → Nat) (y : Nat → Nat) (r : zRr) (q : zRq) (hJ0 : kJ r) (hEi : kEi E) : cC l yX11_sum (.code yX11_sum cX11_sum 4 (some .int) :: wsL_law0) ({ frames := 1, cells := 0, slots := 0, locals := 80 }) D ct E [.ref (y 195), .ref (y 10)] (kW ct E y r q) (S := Int32) (fun u => some (.int u)) (fun u => zI (-2147483648) 2147483647 u ∧ True) (fun u => kW ct E y r q) := by
  refine cofQ cX11_sum 4 (some .int) (by decide) rfl (Nat.le_of_ble_eq_true rfl) ?_
  intro p e s m below meth c A a9 Q ha9 hx hb hr hml hts hown hlocks hname hK hA hZ hN hQ
  have hown : s.vm.findClass RX11 = some m.cls := hown
  have hiX11 : ∀ w ∈ wsX110, w ∈ .code yX11_sum cX11_sum 4 (some .int) :: wsL_law0 := fun _ h => ki (zs_wsX110 _ h)
  have hiX2 : ∀ w ∈ wsX20, w ∈ .code yX11_sum cX11_sum 4 (some .int) :: wsL_law0 := fun _ h => ki (zs_wsX20 _ h)
  have lf19 := hts (.fieldLink RX11 19 "BeardPass" "told" "LBeardPass$Land;") (ki (zr1 21 rfl))
  have lf172 := hts (.fieldLink RX11 172 "BeardPass$Land" "persons" "I") (ki (zr31 0 rfl))
  have cut4 : ∀ (n : Nat) (w4_2 : Int32) (w4_3 : Int32) (hw4_3 : zI 0 6 w4_3), 6 - w4_3.toInt < (n : Int) → zKf p l e ({ frames := 1, cells := 0, slots := 0, locals := 80 }) s m a9 below meth c Q D A 4 4 [] (kW ct E y r q) [(0, .ref (y 195)), (1, .ref (y 10)), (2, .int w4_2), (3, .int w4_3)] := by
    intro n
    induction n with
    | zero => intro w4_2 w4_3 hw4_3 hm4; exact zI.no hw4_3 (by decide) hm4
    | succ n ih4 =>
      intro w4_2 w4_3 hw4_3 hm4
      intro H locs ls hw hS hl
      refine lv_iload_n hx hb dX11_sum_4 rfl (lv_at hl 3 rfl) ?_
      refine lv_aload_n hx hb dX11_sum_5 rfl (lv_at hl 0 rfl) ?_
      refine va_get (D := D) (ci := 10) (v := .ref (y 171)) hx hb hts hiX11 hown hK hw.1 195 kg195 rfl 1 (by decide) lf19 (fun _ h9 => h9) rfl dX11_sum_6 ?_
      refine va_get (D := D) (ci := 2) (v := .int (r 171 10)) hx hb hts hiX2 hown hK hw.1 171 kg171 rfl 10 (by decide) lf172 (fun _ h9 => h9) rfl dX11_sum_9 (zgen (lo := 0) (hi := 6) ((show zI 0 6 (r 171 10) from hJ0.i 171 10)) (fun v1 hv1 => ?_))
      refine lv_icmp_ge (tgt := 33) hx hb dX11_sum_12 (by decide) (fun c2 => ?_) (fun c2 => ?_)
      · refine lv_iload_n hx hb dX11_sum_33 rfl (lv_at hl 2 rfl) ?_
        exact ziretQ hQ hx hb hr rfl hlocks w4_2 rfl ⟨(zI.top _), trivial⟩ hw hS dX11_sum_34
      · have k3 : zI 0 5 (w4_3) := zI.ltU (zI.nle c2) hw4_3 hv1 (by decide)
        have k4 : zI 1 6 (v1) := zI.ltD (zI.nle c2) hw4_3 hv1 (by decide)
        refine lv_iload_n hx hb dX11_sum_15 rfl (lv_at hl 3 rfl) ?_
        refine lv_aload_n hx hb dX11_sum_16 rfl (lv_at hl 1 rfl) ?_
        refine va_alen hx hb hK hw.1 10 0 kg10 rfl (v := 6) rfl dX11_sum_17 ?_
        refine lv_icmp_ge (tgt := 33) hx hb dX11_sum_18 (by decide) (fun c5 => ?_) (fun c5 => ?_)
        · exact zI.abs (a := 6) (b := 5) (zI.leU c5 (zI.lit (a := 6) (b := 6) (c := 6) (by decide)) k3 (by decide)) (by decide)
        · refine lv_iload_n hx hb dX11_sum_21 rfl (lv_at hl 2 rfl) ?_
          refine lv_aload_n hx hb dX11_sum_22 rfl (lv_at hl 1 rfl) ?_
          refine lv_iload_n hx hb dX11_sum_23 rfl (lv_at hl 3 rfl) ?_
          refine miald hx hb hK hw 10 kg10 k3 (by decide) dX11_sum_24 (zgen (zI.top _) (fun v6 _ => ?_))
          refine lv_iadd hx hb dX11_sum_25 (zgen (zI.top _) (fun v7 _ => ?_))
          refine lv_istore_n (lv' := [(2, .int v7), (0, .ref (y 195)), (1, .ref (y 10)), (3, .int w4_3)]) hx hb dX11_sum_26 rfl hl (by decide) rfl (fun ls hl => ?_)
          refine lv_iinc (v := w4_3 + 1) (lv' := [(3, .int (w4_3 + 1)), (2, .int v7), (0, .ref (y 195)), (1, .ref (y 10))]) hx hb dX11_sum_27 hl (k := 3) rfl (rfl) (by decide) rfl (fun ls hl => ?_)
          have k8 : zI 1 6 (w4_3 + 1) := zI.add k3 (zI.lit (a := 1) (b := 1) (by decide)) (by decide)
          refine lv_goto (tgt := 4) hx hb dX11_sum_30 (by decide) ?_
          exact ih4 v7 (w4_3 + 1) (k8.w (c := 0) (d := 6) (by decide)) (zI.up k3 (by decide) hm4) H locs ls hw hS (lv_sub hl [2, 3, 1, 0] rfl)
  intro H locs hw hS ls hl
  have hl : lv_has ls 4 [(0, .ref (y 195)), (1, .ref (y 10))] := hl
  refine lv_iconst (v := 0) hx hb dX11_sum_0 (by decide) ?_
  refine lv_istore_n (lv' := [(2, .int 0), (0, .ref (y 195)), (1, .ref (y 10))]) hx hb dX11_sum_1 rfl hl (by decide) rfl (fun ls hl => ?_)
  refine lv_iconst (v := 0) hx hb dX11_sum_2 (by decide) ?_
  refine lv_istore_n (lv' := [(3, .int 0), (2, .int 0), (0, .ref (y 195)), (1, .ref (y 10))]) hx hb dX11_sum_3 rfl hl (by decide) rfl (fun ls hl => ?_)
  exact cut4 7 0 0 ((zI.lit (a := 0) (b := 0) (c := 0) (by decide)).w (c := 0) (d := 6) (by decide)) (zI.m0 (zI.lit (a := 0) (b := 0) (c := 0) (by decide)) (by decide)) H locs ls hw hS (lv_sub hl [2, 3, 1, 0] rfl)

set_option maxHeartbeats 4000000 in
set_option maxRecDepth 100000 in
theorem kc_sumd (l : Launch) (D : va_G) (ct : Nat → ClassId) (E : Nat → Nat) (y : Nat → Nat) (r : zRr) (q : zRq) (hJ0 : kJ r) (hEi : kEi E) : cC l yX11_sum (.code yX11_sum cX11_sum 4 (some .int) :: wsL_law0) ({ frames := 1, cells := 0, slots := 0, locals := 80 }) D ct E [.ref (y 195), .ref (y 16)] (kW ct E y r q) (S := Int32) (fun u => some (.int u)) (fun u => zI (-2147483648) 2147483647 u ∧ True) (fun u => kW ct E y r q) := by
  refine cofQ cX11_sum 4 (some .int) (by decide) rfl (Nat.le_of_ble_eq_true rfl) ?_
  intro p e s m below meth c A a9 Q ha9 hx hb hr hml hts hown hlocks hname hK hA hZ hN hQ
  have hown : s.vm.findClass RX11 = some m.cls := hown
  have hiX11 : ∀ w ∈ wsX110, w ∈ .code yX11_sum cX11_sum 4 (some .int) :: wsL_law0 := fun _ h => ki (zs_wsX110 _ h)
  have hiX2 : ∀ w ∈ wsX20, w ∈ .code yX11_sum cX11_sum 4 (some .int) :: wsL_law0 := fun _ h => ki (zs_wsX20 _ h)
  have lf19 := hts (.fieldLink RX11 19 "BeardPass" "told" "LBeardPass$Land;") (ki (zr1 21 rfl))
  have lf172 := hts (.fieldLink RX11 172 "BeardPass$Land" "persons" "I") (ki (zr31 0 rfl))
  have cut4 : ∀ (n : Nat) (w4_2 : Int32) (w4_3 : Int32) (hw4_3 : zI 0 6 w4_3), 6 - w4_3.toInt < (n : Int) → zKf p l e ({ frames := 1, cells := 0, slots := 0, locals := 80 }) s m a9 below meth c Q D A 4 4 [] (kW ct E y r q) [(0, .ref (y 195)), (1, .ref (y 16)), (2, .int w4_2), (3, .int w4_3)] := by
    intro n
    induction n with
    | zero => intro w4_2 w4_3 hw4_3 hm4; exact zI.no hw4_3 (by decide) hm4
    | succ n ih4 =>
      intro w4_2 w4_3 hw4_3 hm4
      intro H locs ls hw hS hl
      refine lv_iload_n hx hb dX11_sum_4 rfl (lv_at hl 3 rfl) ?_
      refine lv_aload_n hx hb dX11_sum_5 rfl (lv_at hl 0 rfl) ?_
      refine va_get (D := D) (ci := 10) (v := .ref (y 171)) hx hb hts hiX11 hown hK hw.1 195 kg195 rfl 1 (by decide) lf19 (fun _ h9 => h9) rfl dX11_sum_6 ?_
      refine va_get (D := D) (ci := 2) (v := .int (r 171 10)) hx hb hts hiX2 hown hK hw.1 171 kg171 rfl 10 (by decide) lf172 (fun _ h9 => h9) rfl dX11_sum_9 (zgen (lo := 0) (hi := 6) ((show zI 0 6 (r 171 10) from hJ0.i 171 10)) (fun v1 hv1 => ?_))
      refine lv_icmp_ge (tgt := 33) hx hb dX11_sum_12 (by decide) (fun c2 => ?_) (fun c2 => ?_)
      · refine lv_iload_n hx hb dX11_sum_33 rfl (lv_at hl 2 rfl) ?_
        exact ziretQ hQ hx hb hr rfl hlocks w4_2 rfl ⟨(zI.top _), trivial⟩ hw hS dX11_sum_34
      · have k3 : zI 0 5 (w4_3) := zI.ltU (zI.nle c2) hw4_3 hv1 (by decide)
        have k4 : zI 1 6 (v1) := zI.ltD (zI.nle c2) hw4_3 hv1 (by decide)
        refine lv_iload_n hx hb dX11_sum_15 rfl (lv_at hl 3 rfl) ?_
        refine lv_aload_n hx hb dX11_sum_16 rfl (lv_at hl 1 rfl) ?_
        refine va_alen hx hb hK hw.1 16 0 kg16 rfl (v := 6) rfl dX11_sum_17 ?_
        refine lv_icmp_ge (tgt := 33) hx hb dX11_sum_18 (by decide) (fun c5 => ?_) (fun c5 => ?_)
        · exact zI.abs (a := 6) (b := 5) (zI.leU c5 (zI.lit (a := 6) (b := 6) (c := 6) (by decide)) k3 (by decide)) (by decide)
        · refine lv_iload_n hx hb dX11_sum_21 rfl (lv_at hl 2 rfl) ?_
          refine lv_aload_n hx hb dX11_sum_22 rfl (lv_at hl 1 rfl) ?_
          refine lv_iload_n hx hb dX11_sum_23 rfl (lv_at hl 3 rfl) ?_
          refine miald hx hb hK hw 16 kg16 k3 (by decide) dX11_sum_24 (zgen (zI.top _) (fun v6 _ => ?_))
          refine lv_iadd hx hb dX11_sum_25 (zgen (zI.top _) (fun v7 _ => ?_))
          refine lv_istore_n (lv' := [(2, .int v7), (0, .ref (y 195)), (1, .ref (y 16)), (3, .int w4_3)]) hx hb dX11_sum_26 rfl hl (by decide) rfl (fun ls hl => ?_)
          refine lv_iinc (v := w4_3 + 1) (lv' := [(3, .int (w4_3 + 1)), (2, .int v7), (0, .ref (y 195)), (1, .ref (y 16))]) hx hb dX11_sum_27 hl (k := 3) rfl (rfl) (by decide) rfl (fun ls hl => ?_)
          have k8 : zI 1 6 (w4_3 + 1) := zI.add k3 (zI.lit (a := 1) (b := 1) (by decide)) (by decide)
          refine lv_goto (tgt := 4) hx hb dX11_sum_30 (by decide) ?_
          exact ih4 v7 (w4_3 + 1) (k8.w (c := 0) (d := 6) (by decide)) (zI.up k3 (by decide) hm4) H locs ls hw hS (lv_sub hl [2, 3, 1, 0] rfl)
  intro H locs hw hS ls hl
  have hl : lv_has ls 4 [(0, .ref (y 195)), (1, .ref (y 16))] := hl
  refine lv_iconst (v := 0) hx hb dX11_sum_0 (by decide) ?_
  refine lv_istore_n (lv' := [(2, .int 0), (0, .ref (y 195)), (1, .ref (y 16))]) hx hb dX11_sum_1 rfl hl (by decide) rfl (fun ls hl => ?_)
  refine lv_iconst (v := 0) hx hb dX11_sum_2 (by decide) ?_
  refine lv_istore_n (lv' := [(3, .int 0), (2, .int 0), (0, .ref (y 195)), (1, .ref (y 16))]) hx hb dX11_sum_3 rfl hl (by decide) rfl (fun ls hl => ?_)
  exact cut4 7 0 0 ((zI.lit (a := 0) (b := 0) (c := 0) (by decide)).w (c := 0) (d := 6) (by decide)) (zI.m0 (zI.lit (a := 0) (b := 0) (c := 0) (by decide)) (by decide)) H locs ls hw hS (lv_sub hl [2, 3, 1, 0] rfl)

set_option maxHeartbeats 4000000 in
set_option maxRecDepth 100000 in
theorem kc_person (l : Launch) (D : va_G) (ct : Nat → ClassId) (E : Nat → Nat) (y : Nat → Nat) (a1 : Int32) (a2 : Int32) (r : zRr) (q : zRq) (hJ0 : kJ r) (hEi : kEi E) : cC l yX11_person (.code yX11_person cX11_person 3 (some .int) :: wsL_law0) ({ frames := 2, cells := 0, slots := 0, locals := 120 }) D ct E [.ref (y 195), .int a1, .int a2] (kW ct E y r q) (S := Int32) (fun u => some (.int u)) (fun u => zI (-2147483648) 2147483647 u ∧ True) (fun u => kW ct E y r q) := by
  refine cofQ cX11_person 3 (some .int) (by decide) rfl (Nat.le_of_ble_eq_true rfl) ?_
  intro p e s m below meth c A a9 Q ha9 hx hb hr hml hts hown hlocks hname hK hA hZ hN hQ
  have hown : s.vm.findClass RX11 = some m.cls := hown
  have hiX11 : ∀ w ∈ wsX110, w ∈ .code yX11_person cX11_person 3 (some .int) :: wsL_law0 := fun _ h => ki (zs_wsX110 _ h)
  have hiX2 : ∀ w ∈ wsX20, w ∈ .code yX11_person cX11_person 3 (some .int) :: wsL_law0 := fun _ h => ki (zs_wsX20 _ h)
  have hiX8 : ∀ w ∈ wsX80, w ∈ .code yX11_person cX11_person 3 (some .int) :: wsL_law0 := fun _ h => ki (zs_wsX80 _ h)
  have lf19 := hts (.fieldLink RX11 19 "BeardPass" "told" "LBeardPass$Land;") (ki (zr1 21 rfl))
  have lf64 := hts (.fieldLink RX11 64 "BeardPass" "now" "LBeardPass$Standing;") (ki (zr2 19 rfl))
  have lf137 := hts (.fieldLink RX11 137 "BeardPass$Land" "kinds" "[I") (ki (zr30 14 rfl))
  have lf141 := hts (.fieldLink RX11 141 "BeardPass$Standing" "places" "[I") (ki (zr30 15 rfl))
  have lf144 := hts (.fieldLink RX11 144 "BeardPass$Standing" "beards" "[I") (ki (zr30 16 rfl))
  have lf147 := hts (.fieldLink RX11 147 "BeardPass$Standing" "forged" "[I") (ki (zr30 17 rfl))
  have lf150 := hts (.fieldLink RX11 150 "BeardPass$Standing" "purses" "[I") (ki (zr30 18 rfl))
  have lf153 := hts (.fieldLink RX11 153 "BeardPass$Standing" "been" "[I") (ki (zr30 19 rfl))
  intro H locs hw hS ls hl
  have hl : lv_has ls 3 [(0, .ref (y 195)), (1, .int a1), (2, .int a2)] := hl
  refine lv_aload_n hx hb dX11_person_0 rfl (lv_at hl 0 rfl) ?_
  refine lv_iload_n hx hb dX11_person_1 rfl (lv_at hl 1 rfl) ?_
  refine kcallV (As := [.int a1]) (rest := []) ⟨hx, hb, hml, hown, hts⟩ (kc_isPerson l D ct E y a1 r q hJ0 hEi) (wqX11_133_kc_isPerson hts ⟨Nat.le_of_ble_eq_true rfl, Nat.le_of_ble_eq_true rfl⟩) hw hS hA hK hZ hN 10 195 rfl kg195 rfl hl.1 rfl (Nat.le_of_ble_eq_true rfl) dX11_person_2 5 rfl (fun u1 H locs pu1 hw hS => ?_)
  have hu1 : zI 0 1 u1 := pu1.1
  have yu1_0 : (¬ u1 = 0 → zI 0 5 a1) := pu1.2.1
  have xu1 : u1 = (Gk_isPerson a1 r q) := pu1.2.2.1
  have hw : zPD D A (kW ct E y r q) H := hw
  refine zfr 5 [.int u1] rfl rfl ?_
  refine lv_if_ne (tgt := 10) hx hb dX11_person_5 (by decide) (fun c3 => ?_) (fun c3 => ?_)
  · have k4 : zI 1 1 (u1) := zI.neD c3 hu1 (zI.lit (a := 0) (b := 0) (c := 0) (by decide)) (by decide)
    refine lv_iload_n hx hb dX11_person_10 rfl (lv_at hl 2 rfl) ?_
    by_cases c5 : a2.toInt < 0 ∨ 5 < a2.toInt
    · refine lv_tableOut (tgt := 118) hx hb dX11_person_11 c5 (by decide) ?_
      refine lv_iconst (v := (-1)) hx hb dX11_person_118 (by decide) ?_
      exact ziretQ hQ hx hb hr rfl hlocks ((-1) : Int32) rfl ⟨(zI.top _), trivial⟩ hw hS dX11_person_119
    · obtain ⟨j6, hj7, hxj8⟩ := ksw (lo := 0) (hi := 5) (k := 6) (by decide) c5
      rcases (show j6 = 0 ∨ j6 = 1 ∨ j6 = 2 ∨ j6 = 3 ∨ j6 = 4 ∨ j6 = 5 by omega) with rfl | rfl | rfl | rfl | rfl | rfl
      · refine lv_tableIn (off := 37) (tgt := 48) hx hb dX11_person_11 (by rw [hxj8]; decide) (by rw [hxj8]; decide) (by rw [hxj8]; rfl) (by decide) ?_
        refine lv_aload_n hx hb dX11_person_48 rfl (lv_at hl 0 rfl) ?_
        refine va_get (D := D) (ci := 10) (v := .ref (y 171)) hx hb hts hiX11 hown hK hw.1 195 kg195 rfl 1 (by decide) lf19 (fun _ h9 => h9) rfl dX11_person_49 ?_
        refine va_get (D := D) (ci := 2) (v := .ref (y 175)) hx hb hts hiX2 hown hK hw.1 171 kg171 rfl 3 (by decide) lf137 (fun _ h9 => h9) rfl dX11_person_52 ?_
        refine lv_iload_n hx hb dX11_person_55 rfl (lv_at hl 1 rfl) ?_
        refine miald hx hb hK hw 175 kg175 (yu1_0 c3) (by decide) dX11_person_56 (zgen (zI.top _) (fun v9 _ => ?_))
        exact ziretQ hQ hx hb hr rfl hlocks v9 rfl ⟨(zI.top _), trivial⟩ hw hS dX11_person_57
      · refine lv_tableIn (off := 47) (tgt := 58) hx hb dX11_person_11 (by rw [hxj8]; decide) (by rw [hxj8]; decide) (by rw [hxj8]; rfl) (by decide) ?_
        refine lv_aload_n hx hb dX11_person_58 rfl (lv_at hl 0 rfl) ?_
        refine va_get (D := D) (ci := 10) (v := .ref (y 6)) hx hb hts hiX11 hown hK hw.1 195 kg195 rfl 8 (by decide) lf64 (fun _ h9 => h9) rfl dX11_person_59 ?_
        refine va_get (D := D) (ci := 7) (v := .ref (y 7)) hx hb hts hiX8 hown hK hw.1 6 kg6 rfl 0 (by decide) lf141 (fun _ h9 => h9) rfl dX11_person_62 ?_
        refine lv_iload_n hx hb dX11_person_65 rfl (lv_at hl 1 rfl) ?_
        refine miald hx hb hK hw 7 kg7 (yu1_0 c3) (by decide) dX11_person_66 (zgen (lo := 0) (hi := 5) ((show zI 0 5 (r 7 _) from hJ0.i 7 _)) (fun v10 hv10 => ?_))
        exact ziretQ hQ hx hb hr rfl hlocks v10 rfl ⟨(zI.top _), trivial⟩ hw hS dX11_person_67
      · refine lv_tableIn (off := 57) (tgt := 68) hx hb dX11_person_11 (by rw [hxj8]; decide) (by rw [hxj8]; decide) (by rw [hxj8]; rfl) (by decide) ?_
        refine lv_aload_n hx hb dX11_person_68 rfl (lv_at hl 0 rfl) ?_
        refine va_get (D := D) (ci := 10) (v := .ref (y 6)) hx hb hts hiX11 hown hK hw.1 195 kg195 rfl 8 (by decide) lf64 (fun _ h9 => h9) rfl dX11_person_69 ?_
        refine va_get (D := D) (ci := 7) (v := .ref (y 8)) hx hb hts hiX8 hown hK hw.1 6 kg6 rfl 1 (by decide) lf144 (fun _ h9 => h9) rfl dX11_person_72 ?_
        refine lv_iload_n hx hb dX11_person_75 rfl (lv_at hl 1 rfl) ?_
        refine miald hx hb hK hw 8 kg8 (yu1_0 c3) (by decide) dX11_person_76 (zgen (zI.top _) (fun v11 _ => ?_))
        refine lv_aload_n hx hb dX11_person_77 rfl (lv_at hl 0 rfl) ?_
        refine va_get (D := D) (ci := 10) (v := .ref (y 6)) hx hb hts hiX11 hown hK hw.1 195 kg195 rfl 8 (by decide) lf64 (fun _ h9 => h9) rfl dX11_person_78 ?_
        refine va_get (D := D) (ci := 7) (v := .ref (y 9)) hx hb hts hiX8 hown hK hw.1 6 kg6 rfl 2 (by decide) lf147 (fun _ h9 => h9) rfl dX11_person_81 ?_
        refine lv_iload_n hx hb dX11_person_84 rfl (lv_at hl 1 rfl) ?_
        refine miald hx hb hK hw 9 kg9 (yu1_0 c3) (by decide) dX11_person_85 (zgen (lo := 0) (hi := 20) ((show zI 0 20 (r 9 _) from hJ0.i 9 _)) (fun v12 hv12 => ?_))
        refine lv_iadd hx hb dX11_person_86 (zgen (zI.top _) (fun v13 _ => ?_))
        exact ziretQ hQ hx hb hr rfl hlocks v13 rfl ⟨(zI.top _), trivial⟩ hw hS dX11_person_87
      · refine lv_tableIn (off := 77) (tgt := 88) hx hb dX11_person_11 (by rw [hxj8]; decide) (by rw [hxj8]; decide) (by rw [hxj8]; rfl) (by decide) ?_
        refine lv_aload_n hx hb dX11_person_88 rfl (lv_at hl 0 rfl) ?_
        refine va_get (D := D) (ci := 10) (v := .ref (y 6)) hx hb hts hiX11 hown hK hw.1 195 kg195 rfl 8 (by decide) lf64 (fun _ h9 => h9) rfl dX11_person_89 ?_
        refine va_get (D := D) (ci := 7) (v := .ref (y 9)) hx hb hts hiX8 hown hK hw.1 6 kg6 rfl 2 (by decide) lf147 (fun _ h9 => h9) rfl dX11_person_92 ?_
        refine lv_iload_n hx hb dX11_person_95 rfl (lv_at hl 1 rfl) ?_
        refine miald hx hb hK hw 9 kg9 (yu1_0 c3) (by decide) dX11_person_96 (zgen (lo := 0) (hi := 20) ((show zI 0 20 (r 9 _) from hJ0.i 9 _)) (fun v14 hv14 => ?_))
        exact ziretQ hQ hx hb hr rfl hlocks v14 rfl ⟨(zI.top _), trivial⟩ hw hS dX11_person_97
      · refine lv_tableIn (off := 87) (tgt := 98) hx hb dX11_person_11 (by rw [hxj8]; decide) (by rw [hxj8]; decide) (by rw [hxj8]; rfl) (by decide) ?_
        refine lv_aload_n hx hb dX11_person_98 rfl (lv_at hl 0 rfl) ?_
        refine va_get (D := D) (ci := 10) (v := .ref (y 6)) hx hb hts hiX11 hown hK hw.1 195 kg195 rfl 8 (by decide) lf64 (fun _ h9 => h9) rfl dX11_person_99 ?_
        refine va_get (D := D) (ci := 7) (v := .ref (y 10)) hx hb hts hiX8 hown hK hw.1 6 kg6 rfl 3 (by decide) lf150 (fun _ h9 => h9) rfl dX11_person_102 ?_
        refine lv_iload_n hx hb dX11_person_105 rfl (lv_at hl 1 rfl) ?_
        refine miald hx hb hK hw 10 kg10 (yu1_0 c3) (by decide) dX11_person_106 (zgen (zI.top _) (fun v15 _ => ?_))
        exact ziretQ hQ hx hb hr rfl hlocks v15 rfl ⟨(zI.top _), trivial⟩ hw hS dX11_person_107
      · refine lv_tableIn (off := 97) (tgt := 108) hx hb dX11_person_11 (by rw [hxj8]; decide) (by rw [hxj8]; decide) (by rw [hxj8]; rfl) (by decide) ?_
        refine lv_aload_n hx hb dX11_person_108 rfl (lv_at hl 0 rfl) ?_
        refine va_get (D := D) (ci := 10) (v := .ref (y 6)) hx hb hts hiX11 hown hK hw.1 195 kg195 rfl 8 (by decide) lf64 (fun _ h9 => h9) rfl dX11_person_109 ?_
        refine va_get (D := D) (ci := 7) (v := .ref (y 11)) hx hb hts hiX8 hown hK hw.1 6 kg6 rfl 4 (by decide) lf153 (fun _ h9 => h9) rfl dX11_person_112 ?_
        refine lv_iload_n hx hb dX11_person_115 rfl (lv_at hl 1 rfl) ?_
        refine miald hx hb hK hw 11 kg11 (yu1_0 c3) (by decide) dX11_person_116 (zgen (zI.top _) (fun v16 _ => ?_))
        exact ziretQ hQ hx hb hr rfl hlocks v16 rfl ⟨(zI.top _), trivial⟩ hw hS dX11_person_117
  · have k17 : zI 0 0 (u1) := zI.eqq c3 (zI.lit (a := 0) (b := 0) (c := 0) (by decide))
    refine lv_iconst (v := (-1)) hx hb dX11_person_8 (by decide) ?_
    exact ziretQ hQ hx hb hr rfl hlocks ((-1) : Int32) rfl ⟨(zI.top _), trivial⟩ hw hS dX11_person_9

set_option maxHeartbeats 4000000 in
set_option maxRecDepth 100000 in
theorem kc_town (l : Launch) (D : va_G) (ct : Nat → ClassId) (E : Nat → Nat) (y : Nat → Nat) (a1 : Int32) (a2 : Int32) (r : zRr) (q : zRq) (hJ0 : kJ r) (hEi : kEi E) : cC l yX11_town (.code yX11_town cX11_town 3 (some .int) :: wsL_law0) ({ frames := 7, cells := 0, slots := 0, locals := 320 }) D ct E [.ref (y 195), .int a1, .int a2] (kW ct E y r q) (S := Int32 × zRr) (fun u => some (.int u.1)) (fun u => zI (-2147483648) 2147483647 u.1 ∧ kJ u.2 ∧ zFt r u.2 ∧ True) (fun u => kW ct E y u.2 q) := by
  refine cofQ cX11_town 3 (some .int) (by decide) rfl (Nat.le_of_ble_eq_true rfl) ?_
  intro p e s m below meth c A a9 Q ha9 hx hb hr hml hts hown hlocks hname hK hA hZ hN hQ
  have hown : s.vm.findClass RX11 = some m.cls := hown
  have hiX11 : ∀ w ∈ wsX110, w ∈ .code yX11_town cX11_town 3 (some .int) :: wsL_law0 := fun _ h => ki (zs_wsX110 _ h)
  have hiX2 : ∀ w ∈ wsX20, w ∈ .code yX11_town cX11_town 3 (some .int) :: wsL_law0 := fun _ h => ki (zs_wsX20 _ h)
  have lf19 := hts (.fieldLink RX11 19 "BeardPass" "told" "LBeardPass$Land;") (ki (zr1 21 rfl))
  have lf48 := hts (.fieldLink RX11 48 "BeardPass" "frontier" "LBeardPass$Frontier;") (ki (zr2 11 rfl))
  have lf64 := hts (.fieldLink RX11 64 "BeardPass" "now" "LBeardPass$Standing;") (ki (zr2 19 rfl))
  have lf159 := hts (.fieldLink RX11 159 "BeardPass$Land" "asks" "[I") (ki (zr31 13 rfl))
  have lf162 := hts (.fieldLink RX11 162 "BeardPass$Land" "roads" "[I") (ki (zr31 14 rfl))
  intro H locs hw hS ls hl
  have hl : lv_has ls 3 [(0, .ref (y 195)), (1, .int a1), (2, .int a2)] := hl
  refine lv_aload_n hx hb dX11_town_0 rfl (lv_at hl 0 rfl) ?_
  refine lv_iload_n hx hb dX11_town_1 rfl (lv_at hl 1 rfl) ?_
  refine kcallV (As := [.int a1]) (rest := []) ⟨hx, hb, hml, hown, hts⟩ (kc_isTown l D ct E y a1 r q hJ0 hEi) (wqX11_156_kc_isTown hts ⟨Nat.le_of_ble_eq_true rfl, Nat.le_of_ble_eq_true rfl⟩) hw hS hA hK hZ hN 10 195 rfl kg195 rfl hl.1 rfl (Nat.le_of_ble_eq_true rfl) dX11_town_2 5 rfl (fun u1 H locs pu1 hw hS => ?_)
  have hu1 : zI 0 1 u1 := pu1.1
  have yu1_0 : (¬ u1 = 0 → zI 0 5 a1) := pu1.2.1
  have xu1 : u1 = (Gk_isTown a1 r q) := pu1.2.2.1
  have hw : zPD D A (kW ct E y r q) H := hw
  refine zfr 5 [.int u1] rfl rfl ?_
  refine lv_if_ne (tgt := 10) hx hb dX11_town_5 (by decide) (fun c3 => ?_) (fun c3 => ?_)
  · have k4 : zI 1 1 (u1) := zI.neD c3 hu1 (zI.lit (a := 0) (b := 0) (c := 0) (by decide)) (by decide)
    refine lv_iload_n hx hb dX11_town_10 rfl (lv_at hl 2 rfl) ?_
    by_cases c5 : a2.toInt < 0 ∨ 2 < a2.toInt
    · refine lv_tableOut (tgt := 69) hx hb dX11_town_11 c5 (by decide) ?_
      refine lv_iconst (v := (-1)) hx hb dX11_town_69 (by decide) ?_
      exact ziretQ hQ hx hb hr rfl hlocks (((-1) : Int32), r) rfl ⟨(zI.top _), hJ0, (zFt.refl), trivial⟩ hw hS dX11_town_70
    · obtain ⟨j6, hj7, hxj8⟩ := ksw (lo := 0) (hi := 2) (k := 3) (by decide) c5
      rcases (show j6 = 0 ∨ j6 = 1 ∨ j6 = 2 by omega) with rfl | rfl | rfl
      · refine lv_tableIn (off := 25) (tgt := 36) hx hb dX11_town_11 (by rw [hxj8]; decide) (by rw [hxj8]; decide) (by rw [hxj8]; rfl) (by decide) ?_
        refine lv_aload_n hx hb dX11_town_36 rfl (lv_at hl 0 rfl) ?_
        refine va_get (D := D) (ci := 10) (v := .ref (y 171)) hx hb hts hiX11 hown hK hw.1 195 kg195 rfl 1 (by decide) lf19 (fun _ h9 => h9) rfl dX11_town_37 ?_
        refine va_get (D := D) (ci := 2) (v := .ref (y 172)) hx hb hts hiX2 hown hK hw.1 171 kg171 rfl 0 (by decide) lf159 (fun _ h9 => h9) rfl dX11_town_40 ?_
        refine lv_iload_n hx hb dX11_town_43 rfl (lv_at hl 1 rfl) ?_
        refine miald hx hb hK hw 172 kg172 (yu1_0 c3) (by decide) dX11_town_44 (zgen (zI.top _) (fun v9 _ => ?_))
        exact ziretQ hQ hx hb hr rfl hlocks (v9, r) rfl ⟨(zI.top _), hJ0, (zFt.refl), trivial⟩ hw hS dX11_town_45
      · refine lv_tableIn (off := 35) (tgt := 46) hx hb dX11_town_11 (by rw [hxj8]; decide) (by rw [hxj8]; decide) (by rw [hxj8]; rfl) (by decide) ?_
        refine lv_aload_n hx hb dX11_town_46 rfl (lv_at hl 0 rfl) ?_
        refine va_get (D := D) (ci := 10) (v := .ref (y 171)) hx hb hts hiX11 hown hK hw.1 195 kg195 rfl 1 (by decide) lf19 (fun _ h9 => h9) rfl dX11_town_47 ?_
        refine va_get (D := D) (ci := 2) (v := .ref (y 173)) hx hb hts hiX2 hown hK hw.1 171 kg171 rfl 1 (by decide) lf162 (fun _ h9 => h9) rfl dX11_town_50 ?_
        refine lv_iload_n hx hb dX11_town_53 rfl (lv_at hl 1 rfl) ?_
        refine miald hx hb hK hw 173 kg173 (yu1_0 c3) (by decide) dX11_town_54 (zgen (zI.top _) (fun v10 _ => ?_))
        exact ziretQ hQ hx hb hr rfl hlocks (v10, r) rfl ⟨(zI.top _), hJ0, (zFt.refl), trivial⟩ hw hS dX11_town_55
      · refine lv_tableIn (off := 45) (tgt := 56) hx hb dX11_town_11 (by rw [hxj8]; decide) (by rw [hxj8]; decide) (by rw [hxj8]; rfl) (by decide) ?_
        refine lv_aload_n hx hb dX11_town_56 rfl (lv_at hl 0 rfl) ?_
        refine va_get (D := D) (ci := 10) (v := .ref (y 199)) hx hb hts hiX11 hown hK hw.1 195 kg195 rfl 6 (by decide) lf48 (fun _ h9 => h9) rfl dX11_town_57 ?_
        refine lv_aload_n hx hb dX11_town_60 rfl (lv_at hl 0 rfl) ?_
        refine va_get (D := D) (ci := 10) (v := .ref (y 6)) hx hb hts hiX11 hown hK hw.1 195 kg195 rfl 8 (by decide) lf64 (fun _ h9 => h9) rfl dX11_town_61 ?_
        refine lv_iload_n hx hb dX11_town_64 rfl (lv_at hl 1 rfl) ?_
        refine kcallV (As := [.ref (y 6), .int a1]) (rest := []) ⟨hx, hb, hml, hown, hts⟩ (kc_letThrough l D ct E y a1 r q (yu1_0 c3) hJ0 hEi) (wqX11_165_kc_letThrough hts ⟨Nat.le_of_ble_eq_true rfl, Nat.le_of_ble_eq_true rfl⟩) hw hS hA hK hZ hN 0 199 rfl kg199 rfl hl.1 rfl (Nat.le_of_ble_eq_true rfl) dX11_town_65 68 rfl (fun u11 H locs pu11 hw hS => ?_)
        obtain ⟨v12, r13⟩ := u11
        have hv12 : zI (-2147483648) 2147483647 v12 := pu11.1
        have ju11 : kJ r13 := pu11.2.1
        have fu11 : zFr [182] r r13 := pu11.2.2.1
        have hw : zPD D A (kW ct E y r13 q) H := hw
        refine zfr 68 [.int v12] rfl rfl ?_
        exact ziretQ hQ hx hb hr rfl hlocks (v12, r13) rfl ⟨(zI.top _), ju11, ((zFt.refl).trF fu11 rfl), trivial⟩ hw hS dX11_town_68
  · have k14 : zI 0 0 (u1) := zI.eqq c3 (zI.lit (a := 0) (b := 0) (c := 0) (by decide))
    refine lv_iconst (v := (-1)) hx hb dX11_town_8 (by decide) ?_
    exact ziretQ hQ hx hb hr rfl hlocks (((-1) : Int32), r) rfl ⟨(zI.top _), hJ0, (zFt.refl), trivial⟩ hw hS dX11_town_9

set_option maxHeartbeats 4000000 in
set_option maxRecDepth 100000 in
theorem kc_count (l : Launch) (D : va_G) (ct : Nat → ClassId) (E : Nat → Nat) (y : Nat → Nat) (a1 : Int32) (r : zRr) (q : zRq) (hJ0 : kJ r) (hEi : kEi E) : cC l yX11_count (.code yX11_count cX11_count 2 (some .int) :: wsL_law0) ({ frames := 2, cells := 0, slots := 0, locals := 120 }) D ct E [.ref (y 195), .int a1] (kW ct E y r q) (S := Int32) (fun u => some (.int u)) (fun u => zI (-2147483648) 2147483647 u ∧ True) (fun u => kW ct E y r q) := by
  refine cofQ cX11_count 2 (some .int) (by decide) rfl (Nat.le_of_ble_eq_true rfl) ?_
  intro p e s m below meth c A a9 Q ha9 hx hb hr hml hts hown hlocks hname hK hA hZ hN hQ
  have hown : s.vm.findClass RX11 = some m.cls := hown
  have hiX1 : ∀ w ∈ wsX10, w ∈ .code yX11_count cX11_count 2 (some .int) :: wsL_law0 := fun _ h => ki (zs_wsX10 _ h)
  have hiX11 : ∀ w ∈ wsX110, w ∈ .code yX11_count cX11_count 2 (some .int) :: wsL_law0 := fun _ h => ki (zs_wsX110 _ h)
  have hiX2 : ∀ w ∈ wsX20, w ∈ .code yX11_count cX11_count 2 (some .int) :: wsL_law0 := fun _ h => ki (zs_wsX20 _ h)
  have hiX6 : ∀ w ∈ wsX60, w ∈ .code yX11_count cX11_count 2 (some .int) :: wsL_law0 := fun _ h => ki (zs_wsX60 _ h)
  have hiX8 : ∀ w ∈ wsX80, w ∈ .code yX11_count cX11_count 2 (some .int) :: wsL_law0 := fun _ h => ki (zs_wsX80 _ h)
  have hiX9 : ∀ w ∈ wsX90, w ∈ .code yX11_count cX11_count 2 (some .int) :: wsL_law0 := fun _ h => ki (zs_wsX90 _ h)
  have lf10 := hts (.fieldLink RX11 10 "BeardPass" "tape" "LBeardPass$Tape;") (ki (zr1 17 rfl))
  have lf19 := hts (.fieldLink RX11 19 "BeardPass" "told" "LBeardPass$Land;") (ki (zr1 21 rfl))
  have lf36 := hts (.fieldLink RX11 36 "BeardPass" "plan" "LBeardPass$Journey;") (ki (zr2 6 rfl))
  have lf64 := hts (.fieldLink RX11 64 "BeardPass" "now" "LBeardPass$Standing;") (ki (zr2 19 rfl))
  have lf74 := hts (.fieldLink RX11 74 "BeardPass" "sightings" "LBeardPass$Sightings;") (ki (zr3 0 rfl))
  have lf92 := hts (.fieldLink RX11 92 "BeardPass" "pastCount" "I") (ki (zr3 5 rfl))
  have lf100 := hts (.fieldLink RX11 100 "BeardPass$Tape" "length" "I") (ki (zr9 15 rfl))
  have lf116 := hts (.fieldLink RX11 116 "BeardPass$Journey" "lines" "I") (ki (zr10 9 rfl))
  have lf147 := hts (.fieldLink RX11 147 "BeardPass$Standing" "forged" "[I") (ki (zr30 17 rfl))
  have lf150 := hts (.fieldLink RX11 150 "BeardPass$Standing" "purses" "[I") (ki (zr30 18 rfl))
  have lf169 := hts (.fieldLink RX11 169 "BeardPass$Land" "towns" "I") (ki (zr31 19 rfl))
  have lf172 := hts (.fieldLink RX11 172 "BeardPass$Land" "persons" "I") (ki (zr31 0 rfl))
  have lf175 := hts (.fieldLink RX11 175 "BeardPass$Land" "grows" "I") (ki (zr58 1 rfl))
  have lf178 := hts (.fieldLink RX11 178 "BeardPass$Land" "inch" "I") (ki (zr48 4 rfl))
  have lf181 := hts (.fieldLink RX11 181 "BeardPass$Standing" "weeks" "I") (ki (zr38 22 rfl))
  have lf192 := hts (.fieldLink RX11 192 "BeardPass$Sightings" "many" "I") (ki (zr51 14 rfl))
  intro H locs hw hS ls hl
  have hl : lv_has ls 2 [(0, .ref (y 195)), (1, .int a1)] := hl
  refine lv_iload_n hx hb dX11_count_0 rfl (lv_at hl 1 rfl) ?_
  by_cases c1 : a1.toInt < 0 ∨ 11 < a1.toInt
  · refine lv_tableOut (tgt := 172) hx hb dX11_count_1 c1 (by decide) ?_
    refine lv_iconst (v := (-1)) hx hb dX11_count_172 (by decide) ?_
    exact ziretQ hQ hx hb hr rfl hlocks ((-1) : Int32) rfl ⟨(zI.top _), trivial⟩ hw hS dX11_count_173
  · obtain ⟨j2, hj3, hxj4⟩ := ksw (lo := 0) (hi := 11) (k := 12) (by decide) c1
    rcases (show j2 = 0 ∨ j2 = 1 ∨ j2 = 2 ∨ j2 = 3 ∨ j2 = 4 ∨ j2 = 5 ∨ j2 = 6 ∨ j2 = 7 ∨ j2 = 8 ∨ j2 = 9 ∨ j2 = 10 ∨ j2 = 11 by omega) with rfl | rfl | rfl | rfl | rfl | rfl | rfl | rfl | rfl | rfl | rfl | rfl
    · refine lv_tableIn (off := 63) (tgt := 64) hx hb dX11_count_1 (by rw [hxj4]; decide) (by rw [hxj4]; decide) (by rw [hxj4]; rfl) (by decide) ?_
      refine lv_aload_n hx hb dX11_count_64 rfl (lv_at hl 0 rfl) ?_
      refine va_get (D := D) (ci := 10) (v := .ref (y 171)) hx hb hts hiX11 hown hK hw.1 195 kg195 rfl 1 (by decide) lf19 (fun _ h9 => h9) rfl dX11_count_65 ?_
      refine va_get (D := D) (ci := 2) (v := .int (r 171 9)) hx hb hts hiX2 hown hK hw.1 171 kg171 rfl 9 (by decide) lf169 (fun _ h9 => h9) rfl dX11_count_68 (zgen (lo := 0) (hi := 6) ((show zI 0 6 (r 171 9) from hJ0.i 171 9)) (fun v5 hv5 => ?_))
      exact ziretQ hQ hx hb hr rfl hlocks v5 rfl ⟨(zI.top _), trivial⟩ hw hS dX11_count_71
    · refine lv_tableIn (off := 71) (tgt := 72) hx hb dX11_count_1 (by rw [hxj4]; decide) (by rw [hxj4]; decide) (by rw [hxj4]; rfl) (by decide) ?_
      refine lv_aload_n hx hb dX11_count_72 rfl (lv_at hl 0 rfl) ?_
      refine va_get (D := D) (ci := 10) (v := .ref (y 171)) hx hb hts hiX11 hown hK hw.1 195 kg195 rfl 1 (by decide) lf19 (fun _ h9 => h9) rfl dX11_count_73 ?_
      refine va_get (D := D) (ci := 2) (v := .int (r 171 10)) hx hb hts hiX2 hown hK hw.1 171 kg171 rfl 10 (by decide) lf172 (fun _ h9 => h9) rfl dX11_count_76 (zgen (lo := 0) (hi := 6) ((show zI 0 6 (r 171 10) from hJ0.i 171 10)) (fun v6 hv6 => ?_))
      exact ziretQ hQ hx hb hr rfl hlocks v6 rfl ⟨(zI.top _), trivial⟩ hw hS dX11_count_79
    · refine lv_tableIn (off := 79) (tgt := 80) hx hb dX11_count_1 (by rw [hxj4]; decide) (by rw [hxj4]; decide) (by rw [hxj4]; rfl) (by decide) ?_
      refine lv_aload_n hx hb dX11_count_80 rfl (lv_at hl 0 rfl) ?_
      refine va_get (D := D) (ci := 10) (v := .ref (y 171)) hx hb hts hiX11 hown hK hw.1 195 kg195 rfl 1 (by decide) lf19 (fun _ h9 => h9) rfl dX11_count_81 ?_
      refine va_get (D := D) (ci := 2) (v := .int (r 171 11)) hx hb hts hiX2 hown hK hw.1 171 kg171 rfl 11 (by decide) lf175 (fun _ h9 => h9) rfl dX11_count_84 (zgen (zI.top _) (fun v7 _ => ?_))
      exact ziretQ hQ hx hb hr rfl hlocks v7 rfl ⟨(zI.top _), trivial⟩ hw hS dX11_count_87
    · refine lv_tableIn (off := 87) (tgt := 88) hx hb dX11_count_1 (by rw [hxj4]; decide) (by rw [hxj4]; decide) (by rw [hxj4]; rfl) (by decide) ?_
      refine lv_aload_n hx hb dX11_count_88 rfl (lv_at hl 0 rfl) ?_
      refine va_get (D := D) (ci := 10) (v := .ref (y 171)) hx hb hts hiX11 hown hK hw.1 195 kg195 rfl 1 (by decide) lf19 (fun _ h9 => h9) rfl dX11_count_89 ?_
      refine va_get (D := D) (ci := 2) (v := .int (r 171 12)) hx hb hts hiX2 hown hK hw.1 171 kg171 rfl 12 (by decide) lf178 (fun _ h9 => h9) rfl dX11_count_92 (zgen (zI.top _) (fun v8 _ => ?_))
      exact ziretQ hQ hx hb hr rfl hlocks v8 rfl ⟨(zI.top _), trivial⟩ hw hS dX11_count_95
    · refine lv_tableIn (off := 95) (tgt := 96) hx hb dX11_count_1 (by rw [hxj4]; decide) (by rw [hxj4]; decide) (by rw [hxj4]; rfl) (by decide) ?_
      refine lv_aload_n hx hb dX11_count_96 rfl (lv_at hl 0 rfl) ?_
      refine va_get (D := D) (ci := 10) (v := .ref (y 6)) hx hb hts hiX11 hown hK hw.1 195 kg195 rfl 8 (by decide) lf64 (fun _ h9 => h9) rfl dX11_count_97 ?_
      refine va_get (D := D) (ci := 7) (v := .int (r 6 5)) hx hb hts hiX8 hown hK hw.1 6 kg6 rfl 5 (by decide) lf181 (fun _ h9 => h9) rfl dX11_count_100 (zgen (zI.top _) (fun v9 _ => ?_))
      exact ziretQ hQ hx hb hr rfl hlocks v9 rfl ⟨(zI.top _), trivial⟩ hw hS dX11_count_103
    · refine lv_tableIn (off := 103) (tgt := 104) hx hb dX11_count_1 (by rw [hxj4]; decide) (by rw [hxj4]; decide) (by rw [hxj4]; rfl) (by decide) ?_
      refine lv_aload_n hx hb dX11_count_104 rfl (lv_at hl 0 rfl) ?_
      refine va_get (D := D) (ci := 10) (v := .ref (y 6)) hx hb hts hiX11 hown hK hw.1 195 kg195 rfl 8 (by decide) lf64 (fun _ h9 => h9) rfl dX11_count_105 ?_
      refine lv_aload_n hx hb dX11_count_108 rfl (lv_at hl 0 rfl) ?_
      refine va_get (D := D) (ci := 10) (v := .ref (y 171)) hx hb hts hiX11 hown hK hw.1 195 kg195 rfl 1 (by decide) lf19 (fun _ h9 => h9) rfl dX11_count_109 ?_
      refine va_get (D := D) (ci := 2) (v := .int (r 171 10)) hx hb hts hiX2 hown hK hw.1 171 kg171 rfl 10 (by decide) lf172 (fun _ h9 => h9) rfl dX11_count_112 (zgen (lo := 0) (hi := 6) ((show zI 0 6 (r 171 10) from hJ0.i 171 10)) (fun v10 hv10 => ?_))
      refine kcallV (As := [.int v10]) (rest := []) ⟨hx, hb, hml, hown, hts⟩ (kc_peopledN l D ct E y v10 r q hv10 hJ0 hEi) (wqX11_184_kc_peopledN hts ⟨Nat.le_of_ble_eq_true rfl, Nat.le_of_ble_eq_true rfl⟩) hw hS hA hK hZ hN 7 6 rfl kg6 rfl hl.1 rfl (Nat.le_of_ble_eq_true rfl) dX11_count_115 118 rfl (fun u11 H locs pu11 hw hS => ?_)
      have hu11 : zI (-2147483648) 2147483647 u11 := pu11.1
      have hw : zPD D A (kW ct E y r q) H := hw
      refine zfr 118 [.int u11] rfl rfl ?_
      exact ziretQ hQ hx hb hr rfl hlocks u11 rfl ⟨(zI.top _), trivial⟩ hw hS dX11_count_118
    · refine lv_tableIn (off := 118) (tgt := 119) hx hb dX11_count_1 (by rw [hxj4]; decide) (by rw [hxj4]; decide) (by rw [hxj4]; rfl) (by decide) ?_
      refine lv_aload_n hx hb dX11_count_119 rfl (lv_at hl 0 rfl) ?_
      refine lv_aload_n hx hb dX11_count_120 rfl (lv_at hl 0 rfl) ?_
      refine va_get (D := D) (ci := 10) (v := .ref (y 6)) hx hb hts hiX11 hown hK hw.1 195 kg195 rfl 8 (by decide) lf64 (fun _ h9 => h9) rfl dX11_count_121 ?_
      refine va_get (D := D) (ci := 7) (v := .ref (y 9)) hx hb hts hiX8 hown hK hw.1 6 kg6 rfl 2 (by decide) lf147 (fun _ h9 => h9) rfl dX11_count_124 ?_
      refine kcallV (As := [.ref (y 9)]) (rest := []) ⟨hx, hb, hml, hown, hts⟩ (kc_sumb l D ct E y r q hJ0 hEi) (wqX11_188_kc_sumb hts ⟨Nat.le_of_ble_eq_true rfl, Nat.le_of_ble_eq_true rfl⟩) hw hS hA hK hZ hN 10 195 rfl kg195 rfl hl.1 rfl (Nat.le_of_ble_eq_true rfl) dX11_count_127 130 rfl (fun u13 H locs pu13 hw hS => ?_)
      have hu13 : zI (-2147483648) 2147483647 u13 := pu13.1
      have hw : zPD D A (kW ct E y r q) H := hw
      refine zfr 130 [.int u13] rfl rfl ?_
      exact ziretQ hQ hx hb hr rfl hlocks u13 rfl ⟨(zI.top _), trivial⟩ hw hS dX11_count_130
    · refine lv_tableIn (off := 130) (tgt := 131) hx hb dX11_count_1 (by rw [hxj4]; decide) (by rw [hxj4]; decide) (by rw [hxj4]; rfl) (by decide) ?_
      refine lv_aload_n hx hb dX11_count_131 rfl (lv_at hl 0 rfl) ?_
      refine lv_aload_n hx hb dX11_count_132 rfl (lv_at hl 0 rfl) ?_
      refine va_get (D := D) (ci := 10) (v := .ref (y 6)) hx hb hts hiX11 hown hK hw.1 195 kg195 rfl 8 (by decide) lf64 (fun _ h9 => h9) rfl dX11_count_133 ?_
      refine va_get (D := D) (ci := 7) (v := .ref (y 10)) hx hb hts hiX8 hown hK hw.1 6 kg6 rfl 3 (by decide) lf150 (fun _ h9 => h9) rfl dX11_count_136 ?_
      refine kcallV (As := [.ref (y 10)]) (rest := []) ⟨hx, hb, hml, hown, hts⟩ (kc_sumc l D ct E y r q hJ0 hEi) (wqX11_188_kc_sumc hts ⟨Nat.le_of_ble_eq_true rfl, Nat.le_of_ble_eq_true rfl⟩) hw hS hA hK hZ hN 10 195 rfl kg195 rfl hl.1 rfl (Nat.le_of_ble_eq_true rfl) dX11_count_139 142 rfl (fun u15 H locs pu15 hw hS => ?_)
      have hu15 : zI (-2147483648) 2147483647 u15 := pu15.1
      have hw : zPD D A (kW ct E y r q) H := hw
      refine zfr 142 [.int u15] rfl rfl ?_
      exact ziretQ hQ hx hb hr rfl hlocks u15 rfl ⟨(zI.top _), trivial⟩ hw hS dX11_count_142
    · refine lv_tableIn (off := 142) (tgt := 143) hx hb dX11_count_1 (by rw [hxj4]; decide) (by rw [hxj4]; decide) (by rw [hxj4]; rfl) (by decide) ?_
      refine lv_aload_n hx hb dX11_count_143 rfl (lv_at hl 0 rfl) ?_
      refine va_get (D := D) (ci := 10) (v := .ref (y 138)) hx hb hts hiX11 hown hK hw.1 195 kg195 rfl 4 (by decide) lf36 (fun _ h9 => h9) rfl dX11_count_144 ?_
      refine va_get (D := D) (ci := 1) (v := .int (r 138 3)) hx hb hts hiX1 hown hK hw.1 138 kg138 rfl 3 (by decide) lf116 (fun _ h9 => h9) rfl dX11_count_147 (zgen (lo := 0) (hi := 40) ((show zI 0 40 (r 138 3) from hJ0.i 138 3)) (fun v17 hv17 => ?_))
      exact ziretQ hQ hx hb hr rfl hlocks v17 rfl ⟨(zI.top _), trivial⟩ hw hS dX11_count_150
    · refine lv_tableIn (off := 150) (tgt := 151) hx hb dX11_count_1 (by rw [hxj4]; decide) (by rw [hxj4]; decide) (by rw [hxj4]; rfl) (by decide) ?_
      refine lv_aload_n hx hb dX11_count_151 rfl (lv_at hl 0 rfl) ?_
      refine va_get (D := D) (ci := 10) (v := .ref (y 162)) hx hb hts hiX11 hown hK hw.1 195 kg195 rfl 10 (by decide) lf74 (fun _ h9 => h9) rfl dX11_count_152 ?_
      refine va_get (D := D) (ci := 6) (v := .int (r 162 1)) hx hb hts hiX6 hown hK hw.1 162 kg162 rfl 1 (by decide) lf192 (fun _ h9 => h9) rfl dX11_count_155 (zgen (zI.top _) (fun v18 _ => ?_))
      exact ziretQ hQ hx hb hr rfl hlocks v18 rfl ⟨(zI.top _), trivial⟩ hw hS dX11_count_158
    · refine lv_tableIn (off := 158) (tgt := 159) hx hb dX11_count_1 (by rw [hxj4]; decide) (by rw [hxj4]; decide) (by rw [hxj4]; rfl) (by decide) ?_
      refine lv_aload_n hx hb dX11_count_159 rfl (lv_at hl 0 rfl) ?_
      refine va_get (D := D) (ci := 10) (v := .int (r 195 14)) hx hb hts hiX11 hown hK hw.1 195 kg195 rfl 14 (by decide) lf92 (fun _ h9 => h9) rfl dX11_count_160 (zgen (zI.top _) (fun v19 _ => ?_))
      exact ziretQ hQ hx hb hr rfl hlocks v19 rfl ⟨(zI.top _), trivial⟩ hw hS dX11_count_163
    · refine lv_tableIn (off := 163) (tgt := 164) hx hb dX11_count_1 (by rw [hxj4]; decide) (by rw [hxj4]; decide) (by rw [hxj4]; rfl) (by decide) ?_
      refine lv_aload_n hx hb dX11_count_164 rfl (lv_at hl 0 rfl) ?_
      refine va_get (D := D) (ci := 10) (v := .ref (y 196)) hx hb hts hiX11 hown hK hw.1 195 kg195 rfl 0 (by decide) lf10 (fun _ h9 => h9) rfl dX11_count_165 ?_
      refine va_get (D := D) (ci := 8) (v := .int (r 196 1)) hx hb hts hiX9 hown hK hw.1 196 kg196 rfl 1 (by decide) lf100 (fun _ h9 => h9) rfl dX11_count_168 (zgen (lo := 0) (hi := 1000) ((show zI 0 1000 (r 196 1) from hJ0.i 196 1)) (fun v20 hv20 => ?_))
      exact ziretQ hQ hx hb hr rfl hlocks v20 rfl ⟨(zI.top _), trivial⟩ hw hS dX11_count_171

noncomputable def Gk_remember (r : zRr) (q : zRq) : zRr :=
  zlet (α := Int32) (r 195 13) <| fun v1 => zlet (α := zRr) (kcp8 r (6 * (zn v1) + 18) 6) <| fun r2 => zlet (α := Int32) (r2 195 13) <| fun v3 => zlet (α := Int32) (v3 + 1) <| fun v4 => zlet (α := Int32) (v4 - v4 / 16 * 16) <| fun v5 => zlet (α := zRr) ((zset r2 195 (upd (r2 195) 13 v5))) <| fun r6 => zlet (α := Int32) (r6 195 14) <| fun v7 => zlet (α := Int32) (v7 + 1) <| fun v8 => zlet (α := Int32) (if 16 < v8 then 16 else v8) <| fun v9 => zlet (α := zRr) ((zset r6 195 (upd (r6 195) 14 v9))) <| fun r10 => r10
set_option maxHeartbeats 4000000 in
set_option maxRecDepth 100000 in
theorem kc_remember (l : Launch) (D : va_G) (ct : Nat → ClassId) (E : Nat → Nat) (y : Nat → Nat) (r : zRr) (q : zRq) (hJ0 : kJ r) (hEi : kEi E) : cC l yX11_remember (.code yX11_remember cX11_remember 1 none :: wsL_law0) ({ frames := 3, cells := 0, slots := 0, locals := 160 }) D ct E [.ref (y 195)] (kW ct E y r q) (S := zRr) (fun u => none) (fun u => kJ u ∧ (u 9 = r 9) ∧ u = (Gk_remember r q) ∧ True) (fun u => kW ct E y u q) := by
  refine cofQ cX11_remember 1 none (by decide) rfl (Nat.le_of_ble_eq_true rfl) ?_
  intro p e s m below meth c A a9 Q ha9 hx hb hr hml hts hown hlocks hname hK hA hZ hN hQ
  have hown : s.vm.findClass RX11 = some m.cls := hown
  have hiX11 : ∀ w ∈ wsX110, w ∈ .code yX11_remember cX11_remember 1 none :: wsL_law0 := fun _ h => ki (zs_wsX110 _ h)
  have lf64 := hts (.fieldLink RX11 64 "BeardPass" "now" "LBeardPass$Standing;") (ki (zr2 19 rfl))
  have lf78 := hts (.fieldLink RX11 78 "BeardPass" "past" "[LBeardPass$Standing;") (ki (zr3 1 rfl))
  have lf88 := hts (.fieldLink RX11 88 "BeardPass" "pastNext" "I") (ki (zr3 4 rfl))
  have lf92 := hts (.fieldLink RX11 92 "BeardPass" "pastCount" "I") (ki (zr3 5 rfl))
  obtain ⟨X, hX⟩ : ∃ X, X = (Gk_remember r q) := ⟨_, rfl⟩
  intro H locs hw hS ls hl
  have hl : lv_has ls 1 [(0, .ref (y 195))] := hl
  have hE := hX
  unfold Gk_remember at hE
  refine lv_aload_n hx hb dX11_remember_0 rfl (lv_at hl 0 rfl) ?_
  refine va_get (D := D) (ci := 10) (v := .ref (y 205)) hx hb hts hiX11 hown hK hw.1 195 kg195 rfl 11 (by decide) lf78 (fun _ h9 => h9) rfl dX11_remember_1 ?_
  refine lv_aload_n hx hb dX11_remember_4 rfl (lv_at hl 0 rfl) ?_
  refine va_get (D := D) (ci := 10) (v := .int (r 195 13)) hx hb hts hiX11 hown hK hw.1 195 kg195 rfl 13 (by decide) lf88 (fun _ h9 => h9) rfl dX11_remember_5 (zgenE (lo := 0) (hi := 15) ((show zI 0 15 (r 195 13) from hJ0.i 195 13)) (fun v1 ev1 hv1 => ?_))
  have hE := zletE ev1 hE
  refine maald hx hb hK hw 205 4 kg205 rfl hv1 (by decide) (y (6 * (zn v1) + 18)) rfl dX11_remember_8 ?_
  refine lv_aload_n hx hb dX11_remember_9 rfl (lv_at hl 0 rfl) ?_
  refine va_get (D := D) (ci := 10) (v := .ref (y 6)) hx hb hts hiX11 hown hK hw.1 195 kg195 rfl 8 (by decide) lf64 (fun _ h9 => h9) rfl dX11_remember_10 ?_
  refine kcallZ (As := [.ref (y 6)]) (rest := []) (kis8 (6 * (zn v1) + 18) 6) (kis8l ⟨by have h9 := (hv1).nn (by decide); omega, by omega⟩ ⟨by decide, by decide⟩) (kis8w ⟨by have h9 := (hv1).nn (by decide); omega, by omega⟩ ⟨by decide, by decide⟩) ⟨hx, hb, hml, hown, hts⟩ (c_X8_copy l D ct (y (6 * (zn v1) + 18)) (y 6) (y ((6 * (zn v1) + 18) + 1)) (y ((6 * (zn v1) + 18) + 2)) (y ((6 * (zn v1) + 18) + 3)) (y ((6 * (zn v1) + 18) + 4)) (y ((6 * (zn v1) + 18) + 5)) (y (6 + 1)) (y (6 + 2)) (y (6 + 3)) (y (6 + 4)) (y (6 + 5)) (r ((6 * (zn v1) + 18) + 1)) (r ((6 * (zn v1) + 18) + 2)) (r ((6 * (zn v1) + 18) + 3)) (r ((6 * (zn v1) + 18) + 4)) (r ((6 * (zn v1) + 18) + 5)) (r (6 + 1)) (r (6 + 2)) (r (6 + 3)) (r (6 + 4)) (r (6 + 5)) (r (6 * (zn v1) + 18) 5) (r 6 5)) (cwV 1 hts (kgVm (zr35 20 rfl) (zr35 21 rfl) (zr35 22 rfl) (zr2 18 rfl) mL_X8_copy) rfl rfl rfl (by decide +kernel) ⟨Nat.le_of_ble_eq_true rfl, Nat.le_of_ble_eq_true rfl⟩) hw hS hA hK hN (kis8n ⟨by have h9 := (hv1).nn (by decide); omega, by omega⟩ ⟨by decide, by decide⟩ (by omega)) 7 (6 * (zn v1) + 18) rfl (kis8o ⟨by have h9 := (hv1).nn (by decide); omega, by omega⟩) rfl hl.1 rfl (Nat.le_of_ble_eq_true rfl) dX11_remember_13 16 rfl (kcp8 r (6 * (zn v1) + 18) 6) q (fun _ => kis8B ⟨by have h9 := (hv1).nn (by decide); omega, by omega⟩ ⟨by decide, by decide⟩ (by omega)) kis8x (fun _ H locs _ hw hS => ?_)
  refine zfr 16 [] rfl rfl ?_
  refine cmgen (P := fun x => kJ x) hw (hJ0.copy8 ⟨by have h9 := (hv1).nn (by decide); omega, by omega⟩ ⟨by decide, by decide⟩) (fun r2 er2 hw pr2 => ?_)
  have hE := zletE er2 hE
  refine lv_aload_n hx hb dX11_remember_16 rfl (lv_at hl 0 rfl) ?_
  refine lv_aload_n hx hb dX11_remember_17 rfl (lv_at hl 0 rfl) ?_
  refine va_get (D := D) (ci := 10) (v := .int (r2 195 13)) hx hb hts hiX11 hown hK hw.1 195 kg195 rfl 13 (by decide) lf88 (fun _ h9 => h9) rfl dX11_remember_18 (zgenE (lo := 0) (hi := 15) ((show zI 0 15 (r2 195 13) from pr2.i 195 13)) (fun v3 ev3 hv3 => ?_))
  have hE := zletE ev3 hE
  refine lv_iconst (v := 1) hx hb dX11_remember_21 (by decide) ?_
  refine lv_iadd hx hb dX11_remember_22 (zgenE (lo := 1) (hi := 16) (zI.add hv3 (zI.lit (a := 1) (b := 1) (c := 1) (by decide)) (by decide)) (fun v4 ev4 hv4 => ?_))
  have hE := zletE ev4 hE
  refine lv_bipush (v := 16) hx hb dX11_remember_23 (by decide) ?_
  refine lv_irem hx hb dX11_remember_25 (by decide) (zgenE (lo := 0) (hi := 15) (zI.rem hv4 (zI.lit (a := 16) (b := 16) (c := 16) (by decide)) (by decide)) (fun v5 ev5 hv5 => ?_))
  have hE := zletE ev5 hE
  refine zput (D := D) (ci := 10) (v := .int v5) (ty := .int) hx hb hts hiX11 tyX11 tyX11_ok nmX11 hown hK hw hS 195 kg195 rfl 13 (by decide) lf88 (fun _ h9 => h9) rfl (by decide +kernel) rfl rfl (Nat.le_of_ble_eq_true rfl) dX11_remember_26 (kW ct E y (zset r2 195 (upd (r2 195) 13 v5)) q) ks195_13 (fun H locs hw hS => ?_)
  refine cmgen (P := fun x => kJ x) hw (pr2.set rfl hv5) (fun r6 er6 hw pr6 => ?_)
  have hE := zletE er6 hE
  refine lv_aload_n hx hb dX11_remember_29 rfl (lv_at hl 0 rfl) ?_
  refine lv_aload_n hx hb dX11_remember_30 rfl (lv_at hl 0 rfl) ?_
  refine va_get (D := D) (ci := 10) (v := .int (r6 195 14)) hx hb hts hiX11 hown hK hw.1 195 kg195 rfl 14 (by decide) lf92 (fun _ h9 => h9) rfl dX11_remember_31 (zgenE (zI.top _) (fun v7 ev7 _ => ?_))
  have hE := zletE ev7 hE
  refine lv_iconst (v := 1) hx hb dX11_remember_34 (by decide) ?_
  refine lv_iadd hx hb dX11_remember_35 (zgenE (zI.top _) (fun v8 ev8 _ => ?_))
  have hE := zletE ev8 hE
  refine lv_bipush (v := 16) hx hb dX11_remember_36 (by decide) ?_
  refine va_mmin hx hb (hml.trans hl.1.symm) hown (hts (.methodLink RX11 223 Lib.Math.min.name) (ki (zr35 16 rfl))) (hts (.static Lib.Math.min.name) (ki (zr35 17 rfl))) (hts (.initialized "java/lang/Math") (ki (zr35 18 rfl))) (hts (.code Lib.Math.min.name Lib.Math.min.code 2 (some .int)) (ki (zr35 19 rfl))) (Nat.le_of_ble_eq_true rfl) (Nat.le_of_ble_eq_true rfl) (Nat.le_of_ble_eq_true rfl) (Nat.le_of_ble_eq_true rfl) dX11_remember_38 (zgenE (zI.top _) (fun v9 ev9 _ => ?_))
  have hE := zletE ev9 hE
  refine zput (D := D) (ci := 10) (v := .int v9) (ty := .int) hx hb hts hiX11 tyX11 tyX11_ok nmX11 hown hK hw hS 195 kg195 rfl 14 (by decide) lf92 (fun _ h9 => h9) rfl (by decide +kernel) rfl rfl (Nat.le_of_ble_eq_true rfl) dX11_remember_41 (kW ct E y (zset r6 195 (upd (r6 195) 14 v9)) q) ks195_14 (fun H locs hw hS => ?_)
  refine cmgen (P := fun x => kJ x) hw (pr6.set rfl (zI.top _)) (fun r10 er10 hw pr10 => ?_)
  have hE := zletE er10 hE
  exact zvretQ hQ hx hb hr hlocks r10 rfl ⟨pr10, (show r10 9 = r 9 from (((zs_row (k := 9) er10 (by decide)).trans (zs_row (k := 9) er6 (by decide))).trans (by rw [er2]; exact kcp8_o (Or.inl (by omega))))), (hE.symm.trans hX), trivial⟩ hw hS dX11_remember_44

noncomputable def Gk_undo (r : zRr) (q : zRq) : Int32 × zRr :=
  zlet (α := Int32) (r 195 14) <| fun v1 => zifn (v1 = (0 : Int32)) (zlet (α := Int32) (r 195 13) <| fun v3 => zlet (α := Int32) (v3 + 16) <| fun v4 => zlet (α := Int32) (v4 - 1) <| fun v5 => zlet (α := Int32) (v5 - v5 / 16 * 16) <| fun v6 => zlet (α := zRr) ((zset r 195 (upd (r 195) 13 v6))) <| fun r7 => zlet (α := Int32) (r7 195 14) <| fun v8 => zlet (α := Int32) (v8 - 1) <| fun v9 => zlet (α := zRr) ((zset r7 195 (upd (r7 195) 14 v9))) <| fun r10 => zlet (α := Int32) (r10 195 13) <| fun v11 => zlet (α := zRr) (kcp8 r10 6 (6 * (zn v11) + 18)) <| fun r12 => ((1 : Int32), r12)) (((0 : Int32), r))
set_option maxHeartbeats 4000000 in
set_option maxRecDepth 100000 in
theorem kc_undo (l : Launch) (D : va_G) (ct : Nat → ClassId) (E : Nat → Nat) (y : Nat → Nat) (r : zRr) (q : zRq) (hJ0 : kJ r) (hEi : kEi E) : cC l yX11_undo (.code yX11_undo cX11_undo 1 (some .boolean) :: wsL_law0) ({ frames := 3, cells := 0, slots := 0, locals := 160 }) D ct E [.ref (y 195)] (kW ct E y r q) (S := Int32 × zRr) (fun u => some (.int u.1)) (fun u => zI 0 1 u.1 ∧ kJ u.2 ∧ u = (Gk_undo r q) ∧ True) (fun u => kW ct E y u.2 q) := by
  refine cofQ cX11_undo 1 (some .boolean) (by decide) rfl (Nat.le_of_ble_eq_true rfl) ?_
  intro p e s m below meth c A a9 Q ha9 hx hb hr hml hts hown hlocks hname hK hA hZ hN hQ
  have hown : s.vm.findClass RX11 = some m.cls := hown
  have hiX11 : ∀ w ∈ wsX110, w ∈ .code yX11_undo cX11_undo 1 (some .boolean) :: wsL_law0 := fun _ h => ki (zs_wsX110 _ h)
  have lf64 := hts (.fieldLink RX11 64 "BeardPass" "now" "LBeardPass$Standing;") (ki (zr2 19 rfl))
  have lf78 := hts (.fieldLink RX11 78 "BeardPass" "past" "[LBeardPass$Standing;") (ki (zr3 1 rfl))
  have lf88 := hts (.fieldLink RX11 88 "BeardPass" "pastNext" "I") (ki (zr3 4 rfl))
  have lf92 := hts (.fieldLink RX11 92 "BeardPass" "pastCount" "I") (ki (zr3 5 rfl))
  obtain ⟨X, hX⟩ : ∃ X, X = (Gk_undo r q) := ⟨_, rfl⟩
  intro H locs hw hS ls hl
  have hl : lv_has ls 1 [(0, .ref (y 195))] := hl
  have hE := hX
  unfold Gk_undo at hE
  refine lv_aload_n hx hb dX11_undo_0 rfl (lv_at hl 0 rfl) ?_
  refine va_get (D := D) (ci := 10) (v := .int (r 195 14)) hx hb hts hiX11 hown hK hw.1 195 kg195 rfl 14 (by decide) lf92 (fun _ h9 => h9) rfl dX11_undo_1 (zgenE (zI.top _) (fun v1 ev1 _ => ?_))
  have hE := zletE ev1 hE
  refine lv_if_ne (tgt := 9) hx hb dX11_undo_4 (by decide) (fun c2 => ?_) (fun c2 => ?_)
  · have hE := zifnT c2 hE
    refine lv_aload_n hx hb dX11_undo_9 rfl (lv_at hl 0 rfl) ?_
    refine lv_aload_n hx hb dX11_undo_10 rfl (lv_at hl 0 rfl) ?_
    refine va_get (D := D) (ci := 10) (v := .int (r 195 13)) hx hb hts hiX11 hown hK hw.1 195 kg195 rfl 13 (by decide) lf88 (fun _ h9 => h9) rfl dX11_undo_11 (zgenE (lo := 0) (hi := 15) ((show zI 0 15 (r 195 13) from hJ0.i 195 13)) (fun v3 ev3 hv3 => ?_))
    have hE := zletE ev3 hE
    refine lv_bipush (v := 16) hx hb dX11_undo_14 (by decide) ?_
    refine lv_iadd hx hb dX11_undo_16 (zgenE (lo := 16) (hi := 31) (zI.add hv3 (zI.lit (a := 16) (b := 16) (c := 16) (by decide)) (by decide)) (fun v4 ev4 hv4 => ?_))
    have hE := zletE ev4 hE
    refine lv_iconst (v := 1) hx hb dX11_undo_17 (by decide) ?_
    refine lv_isub hx hb dX11_undo_18 (zgenE (lo := 15) (hi := 30) (zI.sub hv4 (zI.lit (a := 1) (b := 1) (c := 1) (by decide)) (by decide)) (fun v5 ev5 hv5 => ?_))
    have hE := zletE ev5 hE
    refine lv_bipush (v := 16) hx hb dX11_undo_19 (by decide) ?_
    refine lv_irem hx hb dX11_undo_21 (by decide) (zgenE (lo := 0) (hi := 15) (zI.rem hv5 (zI.lit (a := 16) (b := 16) (c := 16) (by decide)) (by decide)) (fun v6 ev6 hv6 => ?_))
    have hE := zletE ev6 hE
    refine zput (D := D) (ci := 10) (v := .int v6) (ty := .int) hx hb hts hiX11 tyX11 tyX11_ok nmX11 hown hK hw hS 195 kg195 rfl 13 (by decide) lf88 (fun _ h9 => h9) rfl (by decide +kernel) rfl rfl (Nat.le_of_ble_eq_true rfl) dX11_undo_22 (kW ct E y (zset r 195 (upd (r 195) 13 v6)) q) ks195_13 (fun H locs hw hS => ?_)
    refine cmgen (P := fun x => kJ x) hw (hJ0.set rfl hv6) (fun r7 er7 hw pr7 => ?_)
    have hE := zletE er7 hE
    refine lv_aload_n hx hb dX11_undo_25 rfl (lv_at hl 0 rfl) ?_
    refine lv_dup hx hb dX11_undo_26 rfl ?_
    refine va_get (D := D) (ci := 10) (v := .int (r7 195 14)) hx hb hts hiX11 hown hK hw.1 195 kg195 rfl 14 (by decide) lf92 (fun _ h9 => h9) rfl dX11_undo_27 (zgenE (zI.top _) (fun v8 ev8 _ => ?_))
    have hE := zletE ev8 hE
    refine lv_iconst (v := 1) hx hb dX11_undo_30 (by decide) ?_
    refine lv_isub hx hb dX11_undo_31 (zgenE (zI.top _) (fun v9 ev9 _ => ?_))
    have hE := zletE ev9 hE
    refine zput (D := D) (ci := 10) (v := .int v9) (ty := .int) hx hb hts hiX11 tyX11 tyX11_ok nmX11 hown hK hw hS 195 kg195 rfl 14 (by decide) lf92 (fun _ h9 => h9) rfl (by decide +kernel) rfl rfl (Nat.le_of_ble_eq_true rfl) dX11_undo_32 (kW ct E y (zset r7 195 (upd (r7 195) 14 v9)) q) ks195_14 (fun H locs hw hS => ?_)
    refine cmgen (P := fun x => kJ x) hw (pr7.set rfl (zI.top _)) (fun r10 er10 hw pr10 => ?_)
    have hE := zletE er10 hE
    refine lv_aload_n hx hb dX11_undo_35 rfl (lv_at hl 0 rfl) ?_
    refine va_get (D := D) (ci := 10) (v := .ref (y 6)) hx hb hts hiX11 hown hK hw.1 195 kg195 rfl 8 (by decide) lf64 (fun _ h9 => h9) rfl dX11_undo_36 ?_
    refine lv_aload_n hx hb dX11_undo_39 rfl (lv_at hl 0 rfl) ?_
    refine va_get (D := D) (ci := 10) (v := .ref (y 205)) hx hb hts hiX11 hown hK hw.1 195 kg195 rfl 11 (by decide) lf78 (fun _ h9 => h9) rfl dX11_undo_40 ?_
    refine lv_aload_n hx hb dX11_undo_43 rfl (lv_at hl 0 rfl) ?_
    refine va_get (D := D) (ci := 10) (v := .int (r10 195 13)) hx hb hts hiX11 hown hK hw.1 195 kg195 rfl 13 (by decide) lf88 (fun _ h9 => h9) rfl dX11_undo_44 (zgenE (lo := 0) (hi := 15) ((show zI 0 15 (r10 195 13) from pr10.i 195 13)) (fun v11 ev11 hv11 => ?_))
    have hE := zletE ev11 hE
    refine maald hx hb hK hw 205 4 kg205 rfl hv11 (by decide) (y (6 * (zn v11) + 18)) rfl dX11_undo_47 ?_
    refine kcallZ (As := [.ref (y (6 * (zn v11) + 18))]) (rest := []) (kis8 6 (6 * (zn v11) + 18)) (kis8l ⟨by decide, by decide⟩ ⟨by have h9 := (hv11).nn (by decide); omega, by omega⟩) (kis8w ⟨by decide, by decide⟩ ⟨by have h9 := (hv11).nn (by decide); omega, by omega⟩) ⟨hx, hb, hml, hown, hts⟩ (c_X8_copy l D ct (y 6) (y (6 * (zn v11) + 18)) (y (6 + 1)) (y (6 + 2)) (y (6 + 3)) (y (6 + 4)) (y (6 + 5)) (y ((6 * (zn v11) + 18) + 1)) (y ((6 * (zn v11) + 18) + 2)) (y ((6 * (zn v11) + 18) + 3)) (y ((6 * (zn v11) + 18) + 4)) (y ((6 * (zn v11) + 18) + 5)) (r10 (6 + 1)) (r10 (6 + 2)) (r10 (6 + 3)) (r10 (6 + 4)) (r10 (6 + 5)) (r10 ((6 * (zn v11) + 18) + 1)) (r10 ((6 * (zn v11) + 18) + 2)) (r10 ((6 * (zn v11) + 18) + 3)) (r10 ((6 * (zn v11) + 18) + 4)) (r10 ((6 * (zn v11) + 18) + 5)) (r10 6 5) (r10 (6 * (zn v11) + 18) 5)) (cwV 1 hts (kgVm (zr35 20 rfl) (zr35 21 rfl) (zr35 22 rfl) (zr2 18 rfl) mL_X8_copy) rfl rfl rfl (by decide +kernel) ⟨Nat.le_of_ble_eq_true rfl, Nat.le_of_ble_eq_true rfl⟩) hw hS hA hK hN (kis8n ⟨by decide, by decide⟩ ⟨by have h9 := (hv11).nn (by decide); omega, by omega⟩ (by omega)) 7 6 rfl (kis8o ⟨by decide, by decide⟩) rfl hl.1 rfl (Nat.le_of_ble_eq_true rfl) dX11_undo_48 51 rfl (kcp8 r10 6 (6 * (zn v11) + 18)) q (fun _ => kis8B ⟨by decide, by decide⟩ ⟨by have h9 := (hv11).nn (by decide); omega, by omega⟩ (by omega)) kis8x (fun _ H locs _ hw hS => ?_)
    refine zfr 51 [] rfl rfl ?_
    refine cmgen (P := fun x => kJ x) hw (pr10.copy8 ⟨by decide, by decide⟩ ⟨by have h9 := (hv11).nn (by decide); omega, by omega⟩) (fun r12 er12 hw pr12 => ?_)
    have hE := zletE er12 hE
    refine lv_iconst (v := 1) hx hb dX11_undo_51 (by decide) ?_
    exact ziretQ hQ hx hb hr rfl hlocks ((1 : Int32), r12) rfl ⟨((zI.lit (a := 1) (b := 1) (c := 1) (by decide)).w (c := 0) (d := 1) (by decide)), pr12, (hE.symm.trans hX), trivial⟩ hw hS dX11_undo_52
  · have hE := zifnF c2 hE
    have k13 : zI 0 0 (v1) := zI.eqq c2 (zI.lit (a := 0) (b := 0) (c := 0) (by decide))
    refine lv_iconst (v := 0) hx hb dX11_undo_7 (by decide) ?_
    exact ziretQ hQ hx hb hr rfl hlocks ((0 : Int32), r) rfl ⟨((zI.lit (a := 0) (b := 0) (c := 0) (by decide)).w (c := 0) (d := 1) (by decide)), hJ0, (hE.symm.trans hX), trivial⟩ hw hS dX11_undo_8

noncomputable def Gk_go (a1 : Int32) (a2 : Int32) (r : zRr) (q : zRq) : Int32 × zRr :=
  zlet (α := Int32) ((Gk_isPerson a1 r q)) <| fun u1 => zif (u1 = (0 : Int32)) (((0 : Int32), r)) (zlet (α := Int32) ((Gk_isTown a2 r q)) <| fun u6 => zif (u6 = (0 : Int32)) (((0 : Int32), r)) (zc_vr (Gk_canGoN a1 a2 r q) <| fun v12 r13 => zifn (v12 = (0 : Int32)) (zlet (α := zRr) ((Gk_remember r13 q)) <| fun u16 => zlet (α := zRr) ((Gk_arriveN a1 a2 u16 q)) <| fun u18 => ((1 : Int32), u18)) (((0 : Int32), r13))))
set_option maxHeartbeats 4000000 in
set_option maxRecDepth 100000 in
theorem kc_go (l : Launch) (D : va_G) (ct : Nat → ClassId) (E : Nat → Nat) (y : Nat → Nat) (a1 : Int32) (a2 : Int32) (r : zRr) (q : zRq) (hJ0 : kJ r) (hEi : kEi E) : cC l yX11_go (.code yX11_go cX11_go 3 (some .boolean) :: wsL_law0) ({ frames := 7, cells := 0, slots := 0, locals := 320 }) D ct E [.ref (y 195), .int a1, .int a2] (kW ct E y r q) (S := Int32 × zRr) (fun u => some (.int u.1)) (fun u => zI 0 1 u.1 ∧ kJ u.2 ∧ u = (Gk_go a1 a2 r q) ∧ True) (fun u => kW ct E y u.2 q) := by
  refine cofQ cX11_go 3 (some .boolean) (by decide) rfl (Nat.le_of_ble_eq_true rfl) ?_
  intro p e s m below meth c A a9 Q ha9 hx hb hr hml hts hown hlocks hname hK hA hZ hN hQ
  have hown : s.vm.findClass RX11 = some m.cls := hown
  have hiX11 : ∀ w ∈ wsX110, w ∈ .code yX11_go cX11_go 3 (some .boolean) :: wsL_law0 := fun _ h => ki (zs_wsX110 _ h)
  have lf48 := hts (.fieldLink RX11 48 "BeardPass" "frontier" "LBeardPass$Frontier;") (ki (zr2 11 rfl))
  have lf64 := hts (.fieldLink RX11 64 "BeardPass" "now" "LBeardPass$Standing;") (ki (zr2 19 rfl))
  obtain ⟨X, hX⟩ : ∃ X, X = (Gk_go a1 a2 r q) := ⟨_, rfl⟩
  intro H locs hw hS ls hl
  have hl : lv_has ls 3 [(0, .ref (y 195)), (1, .int a1), (2, .int a2)] := hl
  have hE := hX
  unfold Gk_go at hE
  refine lv_aload_n hx hb dX11_go_0 rfl (lv_at hl 0 rfl) ?_
  refine lv_iload_n hx hb dX11_go_1 rfl (lv_at hl 1 rfl) ?_
  refine kcallV (As := [.int a1]) (rest := []) ⟨hx, hb, hml, hown, hts⟩ (kc_isPerson l D ct E y a1 r q hJ0 hEi) (wqX11_133_kc_isPerson hts ⟨Nat.le_of_ble_eq_true rfl, Nat.le_of_ble_eq_true rfl⟩) hw hS hA hK hZ hN 10 195 rfl kg195 rfl hl.1 rfl (Nat.le_of_ble_eq_true rfl) dX11_go_2 5 rfl (fun u1 H locs pu1 hw hS => ?_)
  have hu1 : zI 0 1 u1 := pu1.1
  have yu1_0 : (¬ u1 = 0 → zI 0 5 a1) := pu1.2.1
  have xu1 : u1 = (Gk_isPerson a1 r q) := pu1.2.2.1
  have hE := zletE xu1 hE
  have hw : zPD D A (kW ct E y r q) H := hw
  refine zfr 5 [.int u1] rfl rfl ?_
  refine lv_if_eq (tgt := 32) hx hb dX11_go_5 (by decide) (fun c3 => ?_) (fun c3 => ?_)
  · have hE := zifT c3 hE
    have k4 : zI 0 0 (u1) := zI.eqq c3 (zI.lit (a := 0) (b := 0) (c := 0) (by decide))
    refine lv_iconst (v := 0) hx hb dX11_go_32 (by decide) ?_
    exact ziretQ hQ hx hb hr rfl hlocks ((0 : Int32), r) rfl ⟨((zI.lit (a := 0) (b := 0) (c := 0) (by decide)).w (c := 0) (d := 1) (by decide)), hJ0, (hE.symm.trans hX), trivial⟩ hw hS dX11_go_33
  · have hE := zifF c3 hE
    have k5 : zI 1 1 (u1) := zI.neD c3 hu1 (zI.lit (a := 0) (b := 0) (c := 0) (by decide)) (by decide)
    refine lv_aload_n hx hb dX11_go_8 rfl (lv_at hl 0 rfl) ?_
    refine lv_iload_n hx hb dX11_go_9 rfl (lv_at hl 2 rfl) ?_
    refine kcallV (As := [.int a2]) (rest := []) ⟨hx, hb, hml, hown, hts⟩ (kc_isTown l D ct E y a2 r q hJ0 hEi) (wqX11_156_kc_isTown hts ⟨Nat.le_of_ble_eq_true rfl, Nat.le_of_ble_eq_true rfl⟩) hw hS hA hK hZ hN 10 195 rfl kg195 rfl hl.1 rfl (Nat.le_of_ble_eq_true rfl) dX11_go_10 13 rfl (fun u6 H locs pu6 hw hS => ?_)
    have hu6 : zI 0 1 u6 := pu6.1
    have yu6_0 : (¬ u6 = 0 → zI 0 5 a2) := pu6.2.1
    have xu6 : u6 = (Gk_isTown a2 r q) := pu6.2.2.1
    have hE := zletE xu6 hE
    have hw : zPD D A (kW ct E y r q) H := hw
    refine zfr 13 [.int u6] rfl rfl ?_
    refine lv_if_eq (tgt := 32) hx hb dX11_go_13 (by decide) (fun c8 => ?_) (fun c8 => ?_)
    · have hE := zifT c8 hE
      have k9 : zI 0 0 (u6) := zI.eqq c8 (zI.lit (a := 0) (b := 0) (c := 0) (by decide))
      refine lv_iconst (v := 0) hx hb dX11_go_32 (by decide) ?_
      exact ziretQ hQ hx hb hr rfl hlocks ((0 : Int32), r) rfl ⟨((zI.lit (a := 0) (b := 0) (c := 0) (by decide)).w (c := 0) (d := 1) (by decide)), hJ0, (hE.symm.trans hX), trivial⟩ hw hS dX11_go_33
    · have hE := zifF c8 hE
      have k10 : zI 1 1 (u6) := zI.neD c8 hu6 (zI.lit (a := 0) (b := 0) (c := 0) (by decide)) (by decide)
      refine lv_aload_n hx hb dX11_go_16 rfl (lv_at hl 0 rfl) ?_
      refine va_get (D := D) (ci := 10) (v := .ref (y 199)) hx hb hts hiX11 hown hK hw.1 195 kg195 rfl 6 (by decide) lf48 (fun _ h9 => h9) rfl dX11_go_17 ?_
      refine lv_aload_n hx hb dX11_go_20 rfl (lv_at hl 0 rfl) ?_
      refine va_get (D := D) (ci := 10) (v := .ref (y 6)) hx hb hts hiX11 hown hK hw.1 195 kg195 rfl 8 (by decide) lf64 (fun _ h9 => h9) rfl dX11_go_21 ?_
      refine lv_iload_n hx hb dX11_go_24 rfl (lv_at hl 1 rfl) ?_
      refine lv_iload_n hx hb dX11_go_25 rfl (lv_at hl 2 rfl) ?_
      refine kcallV (As := [.ref (y 6), .int a1, .int a2]) (rest := []) ⟨hx, hb, hml, hown, hts⟩ (kc_canGoN l D ct E y a1 a2 r q (yu1_0 c3) (yu6_0 c8) hJ0 hEi) (wqX11_195_kc_canGoN hts ⟨Nat.le_of_ble_eq_true rfl, Nat.le_of_ble_eq_true rfl⟩) hw hS hA hK hZ hN 0 199 rfl kg199 rfl hl.1 rfl (Nat.le_of_ble_eq_true rfl) dX11_go_26 29 rfl (fun u11 H locs pu11 hw hS => ?_)
      obtain ⟨v12, r13⟩ := u11
      have hv12 : zI 0 1 v12 := pu11.1
      have ju11 : kJ r13 := pu11.2.1
      have fu11 : zFr [182] r r13 := pu11.2.2.1
      have xu11 : (v12, r13) = (Gk_canGoN a1 a2 r q) := pu11.2.2.2.1
      have hE := zc_vrE xu11 hE
      have hw : zPD D A (kW ct E y r13 q) H := hw
      refine zfr 29 [.int v12] rfl rfl ?_
      refine lv_if_ne (tgt := 34) hx hb dX11_go_29 (by decide) (fun c14 => ?_) (fun c14 => ?_)
      · have hE := zifnT c14 hE
        have k15 : zI 1 1 (v12) := zI.neD c14 hv12 (zI.lit (a := 0) (b := 0) (c := 0) (by decide)) (by decide)
        refine lv_aload_n hx hb dX11_go_34 rfl (lv_at hl 0 rfl) ?_
        refine kcallV (As := []) (rest := []) ⟨hx, hb, hml, hown, hts⟩ (kc_remember l D ct E y r13 q ju11 hEi) (wqX11_199_kc_remember hts ⟨Nat.le_of_ble_eq_true rfl, Nat.le_of_ble_eq_true rfl⟩) hw hS hA hK hZ hN 10 195 rfl kg195 rfl hl.1 rfl (Nat.le_of_ble_eq_true rfl) dX11_go_35 38 rfl (fun u16 H locs pu16 hw hS => ?_)
        have ju16 : kJ u16 := pu16.1
        have yu16_0 : (u16 9 = r13 9) := pu16.2.1
        have xu16 : u16 = (Gk_remember r13 q) := pu16.2.2.1
        have hE := zletE xu16 hE
        have hw : zPD D A (kW ct E y u16 q) H := hw
        refine zfr 38 [] rfl rfl ?_
        refine lv_aload_n hx hb dX11_go_38 rfl (lv_at hl 0 rfl) ?_
        refine va_get (D := D) (ci := 10) (v := .ref (y 6)) hx hb hts hiX11 hown hK hw.1 195 kg195 rfl 8 (by decide) lf64 (fun _ h9 => h9) rfl dX11_go_39 ?_
        refine lv_iload_n hx hb dX11_go_42 rfl (lv_at hl 1 rfl) ?_
        refine lv_iload_n hx hb dX11_go_43 rfl (lv_at hl 2 rfl) ?_
        refine kcallV (As := [.int a1, .int a2]) (rest := []) ⟨hx, hb, hml, hown, hts⟩ (kc_arriveN l D ct E y a1 a2 u16 q (yu1_0 c3) (yu6_0 c8) ju16 hEi) (wqX11_202_kc_arriveN hts ⟨Nat.le_of_ble_eq_true rfl, Nat.le_of_ble_eq_true rfl⟩) hw hS hA hK hZ hN 7 6 rfl kg6 rfl hl.1 rfl (Nat.le_of_ble_eq_true rfl) dX11_go_44 47 rfl (fun u18 H locs pu18 hw hS => ?_)
        have ju18 : kJ u18 := pu18.1
        have fu18 : zFr [7, 11] u16 u18 := pu18.2.1
        have xu18 : u18 = (Gk_arriveN a1 a2 u16 q) := pu18.2.2.1
        have hE := zletE xu18 hE
        have hw : zPD D A (kW ct E y u18 q) H := hw
        refine zfr 47 [] rfl rfl ?_
        refine lv_iconst (v := 1) hx hb dX11_go_47 (by decide) ?_
        exact ziretQ hQ hx hb hr rfl hlocks ((1 : Int32), u18) rfl ⟨((zI.lit (a := 1) (b := 1) (c := 1) (by decide)).w (c := 0) (d := 1) (by decide)), ju18, (hE.symm.trans hX), trivial⟩ hw hS dX11_go_48
      · have hE := zifnF c14 hE
        have k20 : zI 0 0 (v12) := zI.eqq c14 (zI.lit (a := 0) (b := 0) (c := 0) (by decide))
        refine lv_iconst (v := 0) hx hb dX11_go_32 (by decide) ?_
        exact ziretQ hQ hx hb hr rfl hlocks ((0 : Int32), r13) rfl ⟨((zI.lit (a := 0) (b := 0) (c := 0) (by decide)).w (c := 0) (d := 1) (by decide)), ju11, (hE.symm.trans hX), trivial⟩ hw hS dX11_go_33

noncomputable def Gk_forge (a1 : Int32) (a2 : Int32) (r : zRr) (q : zRq) : Int32 × zRr :=
  zlet (α := Int32) ((Gk_isPerson a1 r q)) <| fun u1 => zif (u1 = (0 : Int32)) ((((-1) : Int32), r)) (zlet (α := Int32) ((Gk_canForgeN a1 a2 r q)) <| fun u6 => zifn (u6 = (0 : Int32)) (zlet (α := zRr) ((Gk_remember r q)) <| fun u10 => zlet (α := zRr) ((Gk_sellN a1 a2 u10 q)) <| fun u12 => zlet (α := Int32) (u12 10 (zn a1)) <| fun v14 => (v14, u12)) ((((-1) : Int32), r)))
set_option maxHeartbeats 4000000 in
set_option maxRecDepth 100000 in
theorem kc_forge (l : Launch) (D : va_G) (ct : Nat → ClassId) (E : Nat → Nat) (y : Nat → Nat) (a1 : Int32) (a2 : Int32) (r : zRr) (q : zRq) (hJ0 : kJ r) (hEi : kEi E) : cC l yX11_forge (.code yX11_forge cX11_forge 3 (some .int) :: wsL_law0) ({ frames := 4, cells := 0, slots := 0, locals := 200 }) D ct E [.ref (y 195), .int a1, .int a2] (kW ct E y r q) (S := Int32 × zRr) (fun u => some (.int u.1)) (fun u => zI (-2147483648) 2147483647 u.1 ∧ kJ u.2 ∧ u = (Gk_forge a1 a2 r q) ∧ True) (fun u => kW ct E y u.2 q) := by
  refine cofQ cX11_forge 3 (some .int) (by decide) rfl (Nat.le_of_ble_eq_true rfl) ?_
  intro p e s m below meth c A a9 Q ha9 hx hb hr hml hts hown hlocks hname hK hA hZ hN hQ
  have hown : s.vm.findClass RX11 = some m.cls := hown
  have hiX11 : ∀ w ∈ wsX110, w ∈ .code yX11_forge cX11_forge 3 (some .int) :: wsL_law0 := fun _ h => ki (zs_wsX110 _ h)
  have hiX8 : ∀ w ∈ wsX80, w ∈ .code yX11_forge cX11_forge 3 (some .int) :: wsL_law0 := fun _ h => ki (zs_wsX80 _ h)
  have lf48 := hts (.fieldLink RX11 48 "BeardPass" "frontier" "LBeardPass$Frontier;") (ki (zr2 11 rfl))
  have lf64 := hts (.fieldLink RX11 64 "BeardPass" "now" "LBeardPass$Standing;") (ki (zr2 19 rfl))
  have lf150 := hts (.fieldLink RX11 150 "BeardPass$Standing" "purses" "[I") (ki (zr30 18 rfl))
  obtain ⟨X, hX⟩ : ∃ X, X = (Gk_forge a1 a2 r q) := ⟨_, rfl⟩
  intro H locs hw hS ls hl
  have hl : lv_has ls 3 [(0, .ref (y 195)), (1, .int a1), (2, .int a2)] := hl
  have hE := hX
  unfold Gk_forge at hE
  refine lv_aload_n hx hb dX11_forge_0 rfl (lv_at hl 0 rfl) ?_
  refine lv_iload_n hx hb dX11_forge_1 rfl (lv_at hl 1 rfl) ?_
  refine kcallV (As := [.int a1]) (rest := []) ⟨hx, hb, hml, hown, hts⟩ (kc_isPerson l D ct E y a1 r q hJ0 hEi) (wqX11_133_kc_isPerson hts ⟨Nat.le_of_ble_eq_true rfl, Nat.le_of_ble_eq_true rfl⟩) hw hS hA hK hZ hN 10 195 rfl kg195 rfl hl.1 rfl (Nat.le_of_ble_eq_true rfl) dX11_forge_2 5 rfl (fun u1 H locs pu1 hw hS => ?_)
  have hu1 : zI 0 1 u1 := pu1.1
  have yu1_0 : (¬ u1 = 0 → zI 0 5 a1) := pu1.2.1
  have xu1 : u1 = (Gk_isPerson a1 r q) := pu1.2.2.1
  have hE := zletE xu1 hE
  have hw : zPD D A (kW ct E y r q) H := hw
  refine zfr 5 [.int u1] rfl rfl ?_
  refine lv_if_eq (tgt := 24) hx hb dX11_forge_5 (by decide) (fun c3 => ?_) (fun c3 => ?_)
  · have hE := zifT c3 hE
    have k4 : zI 0 0 (u1) := zI.eqq c3 (zI.lit (a := 0) (b := 0) (c := 0) (by decide))
    refine lv_iconst (v := (-1)) hx hb dX11_forge_24 (by decide) ?_
    exact ziretQ hQ hx hb hr rfl hlocks (((-1) : Int32), r) rfl ⟨(zI.top _), hJ0, (hE.symm.trans hX), trivial⟩ hw hS dX11_forge_25
  · have hE := zifF c3 hE
    have k5 : zI 1 1 (u1) := zI.neD c3 hu1 (zI.lit (a := 0) (b := 0) (c := 0) (by decide)) (by decide)
    refine lv_aload_n hx hb dX11_forge_8 rfl (lv_at hl 0 rfl) ?_
    refine va_get (D := D) (ci := 10) (v := .ref (y 199)) hx hb hts hiX11 hown hK hw.1 195 kg195 rfl 6 (by decide) lf48 (fun _ h9 => h9) rfl dX11_forge_9 ?_
    refine lv_aload_n hx hb dX11_forge_12 rfl (lv_at hl 0 rfl) ?_
    refine va_get (D := D) (ci := 10) (v := .ref (y 6)) hx hb hts hiX11 hown hK hw.1 195 kg195 rfl 8 (by decide) lf64 (fun _ h9 => h9) rfl dX11_forge_13 ?_
    refine lv_iload_n hx hb dX11_forge_16 rfl (lv_at hl 1 rfl) ?_
    refine lv_iload_n hx hb dX11_forge_17 rfl (lv_at hl 2 rfl) ?_
    refine kcallV (As := [.ref (y 6), .int a1, .int a2]) (rest := []) ⟨hx, hb, hml, hown, hts⟩ (kc_canForgeN l D ct E y a1 a2 r q (yu1_0 c3) hJ0 hEi) (wqX11_206_kc_canForgeN hts ⟨Nat.le_of_ble_eq_true rfl, Nat.le_of_ble_eq_true rfl⟩) hw hS hA hK hZ hN 0 199 rfl kg199 rfl hl.1 rfl (Nat.le_of_ble_eq_true rfl) dX11_forge_18 21 rfl (fun u6 H locs pu6 hw hS => ?_)
    have hu6 : zI 0 1 u6 := pu6.1
    have yu6_0 : (¬ u6 = 0 → zI 0 20 (r 9 (zn a1) + a2)) := pu6.2.1
    have xu6 : u6 = (Gk_canForgeN a1 a2 r q) := pu6.2.2.1
    have hE := zletE xu6 hE
    have hw : zPD D A (kW ct E y r q) H := hw
    refine zfr 21 [.int u6] rfl rfl ?_
    refine lv_if_ne (tgt := 26) hx hb dX11_forge_21 (by decide) (fun c8 => ?_) (fun c8 => ?_)
    · have hE := zifnT c8 hE
      have k9 : zI 1 1 (u6) := zI.neD c8 hu6 (zI.lit (a := 0) (b := 0) (c := 0) (by decide)) (by decide)
      refine lv_aload_n hx hb dX11_forge_26 rfl (lv_at hl 0 rfl) ?_
      refine kcallV (As := []) (rest := []) ⟨hx, hb, hml, hown, hts⟩ (kc_remember l D ct E y r q hJ0 hEi) (wqX11_199_kc_remember hts ⟨Nat.le_of_ble_eq_true rfl, Nat.le_of_ble_eq_true rfl⟩) hw hS hA hK hZ hN 10 195 rfl kg195 rfl hl.1 rfl (Nat.le_of_ble_eq_true rfl) dX11_forge_27 30 rfl (fun u10 H locs pu10 hw hS => ?_)
      have ju10 : kJ u10 := pu10.1
      have yu10_0 : (u10 9 = r 9) := pu10.2.1
      have xu10 : u10 = (Gk_remember r q) := pu10.2.2.1
      have hE := zletE xu10 hE
      have hw : zPD D A (kW ct E y u10 q) H := hw
      refine zfr 30 [] rfl rfl ?_
      refine lv_aload_n hx hb dX11_forge_30 rfl (lv_at hl 0 rfl) ?_
      refine va_get (D := D) (ci := 10) (v := .ref (y 199)) hx hb hts hiX11 hown hK hw.1 195 kg195 rfl 6 (by decide) lf48 (fun _ h9 => h9) rfl dX11_forge_31 ?_
      refine lv_aload_n hx hb dX11_forge_34 rfl (lv_at hl 0 rfl) ?_
      refine va_get (D := D) (ci := 10) (v := .ref (y 6)) hx hb hts hiX11 hown hK hw.1 195 kg195 rfl 8 (by decide) lf64 (fun _ h9 => h9) rfl dX11_forge_35 ?_
      refine lv_iload_n hx hb dX11_forge_38 rfl (lv_at hl 1 rfl) ?_
      refine lv_iload_n hx hb dX11_forge_39 rfl (lv_at hl 2 rfl) ?_
      refine kcallV (As := [.ref (y 6), .int a1, .int a2]) (rest := []) ⟨hx, hb, hml, hown, hts⟩ (kc_sellN l D ct E y a1 a2 u10 q (yu1_0 c3) ju10 hEi (by rw [yu10_0]; exact yu6_0 c8)) (wqX11_209_kc_sellN hts ⟨Nat.le_of_ble_eq_true rfl, Nat.le_of_ble_eq_true rfl⟩) hw hS hA hK hZ hN 0 199 rfl kg199 rfl hl.1 rfl (Nat.le_of_ble_eq_true rfl) dX11_forge_40 43 rfl (fun u12 H locs pu12 hw hS => ?_)
      have ju12 : kJ u12 := pu12.1
      have fu12 : zFr [9, 10] u10 u12 := pu12.2.1
      have xu12 : u12 = (Gk_sellN a1 a2 u10 q) := pu12.2.2.1
      have hE := zletE xu12 hE
      have hw : zPD D A (kW ct E y u12 q) H := hw
      refine zfr 43 [] rfl rfl ?_
      refine lv_aload_n hx hb dX11_forge_43 rfl (lv_at hl 0 rfl) ?_
      refine va_get (D := D) (ci := 10) (v := .ref (y 6)) hx hb hts hiX11 hown hK hw.1 195 kg195 rfl 8 (by decide) lf64 (fun _ h9 => h9) rfl dX11_forge_44 ?_
      refine va_get (D := D) (ci := 7) (v := .ref (y 10)) hx hb hts hiX8 hown hK hw.1 6 kg6 rfl 3 (by decide) lf150 (fun _ h9 => h9) rfl dX11_forge_47 ?_
      refine lv_iload_n hx hb dX11_forge_50 rfl (lv_at hl 1 rfl) ?_
      refine miald hx hb hK hw 10 kg10 (yu1_0 c3) (by decide) dX11_forge_51 (zgenE (zI.top _) (fun v14 ev14 _ => ?_))
      have hE := zletE ev14 hE
      exact ziretQ hQ hx hb hr rfl hlocks (v14, u12) rfl ⟨(zI.top _), ju12, (hE.symm.trans hX), trivial⟩ hw hS dX11_forge_52
    · have hE := zifnF c8 hE
      have k15 : zI 0 0 (u6) := zI.eqq c8 (zI.lit (a := 0) (b := 0) (c := 0) (by decide))
      refine lv_iconst (v := (-1)) hx hb dX11_forge_24 (by decide) ?_
      exact ziretQ hQ hx hb hr rfl hlocks (((-1) : Int32), r) rfl ⟨(zI.top _), hJ0, (hE.symm.trans hX), trivial⟩ hw hS dX11_forge_25

noncomputable def Gk_shave (a1 : Int32) (r : zRr) (q : zRq) : Int32 × zRr :=
  zlet (α := Int32) ((Gk_isPerson a1 r q)) <| fun u1 => zifn (u1 = (0 : Int32)) (zlet (α := zRr) ((Gk_remember r q)) <| fun u5 => zlet (α := zRr) ((Gk_loseBeardN a1 u5 q)) <| fun u7 => ((1 : Int32), u7)) (((0 : Int32), r))
set_option maxHeartbeats 4000000 in
set_option maxRecDepth 100000 in
theorem kc_shave (l : Launch) (D : va_G) (ct : Nat → ClassId) (E : Nat → Nat) (y : Nat → Nat) (a1 : Int32) (r : zRr) (q : zRq) (hJ0 : kJ r) (hEi : kEi E) : cC l yX11_shave (.code yX11_shave cX11_shave 2 (some .boolean) :: wsL_law0) ({ frames := 4, cells := 0, slots := 0, locals := 200 }) D ct E [.ref (y 195), .int a1] (kW ct E y r q) (S := Int32 × zRr) (fun u => some (.int u.1)) (fun u => zI 0 1 u.1 ∧ kJ u.2 ∧ u = (Gk_shave a1 r q) ∧ True) (fun u => kW ct E y u.2 q) := by
  refine cofQ cX11_shave 2 (some .boolean) (by decide) rfl (Nat.le_of_ble_eq_true rfl) ?_
  intro p e s m below meth c A a9 Q ha9 hx hb hr hml hts hown hlocks hname hK hA hZ hN hQ
  have hown : s.vm.findClass RX11 = some m.cls := hown
  have hiX11 : ∀ w ∈ wsX110, w ∈ .code yX11_shave cX11_shave 2 (some .boolean) :: wsL_law0 := fun _ h => ki (zs_wsX110 _ h)
  have lf64 := hts (.fieldLink RX11 64 "BeardPass" "now" "LBeardPass$Standing;") (ki (zr2 19 rfl))
  obtain ⟨X, hX⟩ : ∃ X, X = (Gk_shave a1 r q) := ⟨_, rfl⟩
  intro H locs hw hS ls hl
  have hl : lv_has ls 2 [(0, .ref (y 195)), (1, .int a1)] := hl
  have hE := hX
  unfold Gk_shave at hE
  refine lv_aload_n hx hb dX11_shave_0 rfl (lv_at hl 0 rfl) ?_
  refine lv_iload_n hx hb dX11_shave_1 rfl (lv_at hl 1 rfl) ?_
  refine kcallV (As := [.int a1]) (rest := []) ⟨hx, hb, hml, hown, hts⟩ (kc_isPerson l D ct E y a1 r q hJ0 hEi) (wqX11_133_kc_isPerson hts ⟨Nat.le_of_ble_eq_true rfl, Nat.le_of_ble_eq_true rfl⟩) hw hS hA hK hZ hN 10 195 rfl kg195 rfl hl.1 rfl (Nat.le_of_ble_eq_true rfl) dX11_shave_2 5 rfl (fun u1 H locs pu1 hw hS => ?_)
  have hu1 : zI 0 1 u1 := pu1.1
  have yu1_0 : (¬ u1 = 0 → zI 0 5 a1) := pu1.2.1
  have xu1 : u1 = (Gk_isPerson a1 r q) := pu1.2.2.1
  have hE := zletE xu1 hE
  have hw : zPD D A (kW ct E y r q) H := hw
  refine zfr 5 [.int u1] rfl rfl ?_
  refine lv_if_ne (tgt := 10) hx hb dX11_shave_5 (by decide) (fun c3 => ?_) (fun c3 => ?_)
  · have hE := zifnT c3 hE
    have k4 : zI 1 1 (u1) := zI.neD c3 hu1 (zI.lit (a := 0) (b := 0) (c := 0) (by decide)) (by decide)
    refine lv_aload_n hx hb dX11_shave_10 rfl (lv_at hl 0 rfl) ?_
    refine kcallV (As := []) (rest := []) ⟨hx, hb, hml, hown, hts⟩ (kc_remember l D ct E y r q hJ0 hEi) (wqX11_199_kc_remember hts ⟨Nat.le_of_ble_eq_true rfl, Nat.le_of_ble_eq_true rfl⟩) hw hS hA hK hZ hN 10 195 rfl kg195 rfl hl.1 rfl (Nat.le_of_ble_eq_true rfl) dX11_shave_11 14 rfl (fun u5 H locs pu5 hw hS => ?_)
    have ju5 : kJ u5 := pu5.1
    have yu5_0 : (u5 9 = r 9) := pu5.2.1
    have xu5 : u5 = (Gk_remember r q) := pu5.2.2.1
    have hE := zletE xu5 hE
    have hw : zPD D A (kW ct E y u5 q) H := hw
    refine zfr 14 [] rfl rfl ?_
    refine lv_aload_n hx hb dX11_shave_14 rfl (lv_at hl 0 rfl) ?_
    refine va_get (D := D) (ci := 10) (v := .ref (y 6)) hx hb hts hiX11 hown hK hw.1 195 kg195 rfl 8 (by decide) lf64 (fun _ h9 => h9) rfl dX11_shave_15 ?_
    refine lv_iload_n hx hb dX11_shave_18 rfl (lv_at hl 1 rfl) ?_
    refine kcallV (As := [.int a1]) (rest := []) ⟨hx, hb, hml, hown, hts⟩ (kc_loseBeardN l D ct E y a1 u5 q (yu1_0 c3) ju5 hEi) (wqX11_213_kc_loseBeardN hts ⟨Nat.le_of_ble_eq_true rfl, Nat.le_of_ble_eq_true rfl⟩) hw hS hA hK hZ hN 7 6 rfl kg6 rfl hl.1 rfl (Nat.le_of_ble_eq_true rfl) dX11_shave_19 22 rfl (fun u7 H locs pu7 hw hS => ?_)
    have ju7 : kJ u7 := pu7.1
    have fu7 : zFr [8, 9] u5 u7 := pu7.2.1
    have xu7 : u7 = (Gk_loseBeardN a1 u5 q) := pu7.2.2.1
    have hE := zletE xu7 hE
    have hw : zPD D A (kW ct E y u7 q) H := hw
    refine zfr 22 [] rfl rfl ?_
    refine lv_iconst (v := 1) hx hb dX11_shave_22 (by decide) ?_
    exact ziretQ hQ hx hb hr rfl hlocks ((1 : Int32), u7) rfl ⟨((zI.lit (a := 1) (b := 1) (c := 1) (by decide)).w (c := 0) (d := 1) (by decide)), ju7, (hE.symm.trans hX), trivial⟩ hw hS dX11_shave_23
  · have hE := zifnF c3 hE
    have k9 : zI 0 0 (u1) := zI.eqq c3 (zI.lit (a := 0) (b := 0) (c := 0) (by decide))
    refine lv_iconst (v := 0) hx hb dX11_shave_8 (by decide) ?_
    exact ziretQ hQ hx hb hr rfl hlocks ((0 : Int32), r) rfl ⟨((zI.lit (a := 0) (b := 0) (c := 0) (by decide)).w (c := 0) (d := 1) (by decide)), hJ0, (hE.symm.trans hX), trivial⟩ hw hS dX11_shave_9

noncomputable def Gk_week (r : zRr) (q : zRq) : Int32 × zRr :=
  zlet (α := zRr) ((Gk_remember r q)) <| fun u1 => zlet (α := zRr) ((Gk_passWeekN u1 q)) <| fun u3 => zlet (α := Int32) (u3 6 5) <| fun v5 => (v5, u3)
set_option maxHeartbeats 4000000 in
set_option maxRecDepth 100000 in
theorem kc_week (l : Launch) (D : va_G) (ct : Nat → ClassId) (E : Nat → Nat) (y : Nat → Nat) (r : zRr) (q : zRq) (hJ0 : kJ r) (hEi : kEi E) : cC l yX11_week (.code yX11_week cX11_week 1 (some .int) :: wsL_law0) ({ frames := 4, cells := 0, slots := 0, locals := 200 }) D ct E [.ref (y 195)] (kW ct E y r q) (S := Int32 × zRr) (fun u => some (.int u.1)) (fun u => zI (-2147483648) 2147483647 u.1 ∧ kJ u.2 ∧ u = (Gk_week r q) ∧ True) (fun u => kW ct E y u.2 q) := by
  refine cofQ cX11_week 1 (some .int) (by decide) rfl (Nat.le_of_ble_eq_true rfl) ?_
  intro p e s m below meth c A a9 Q ha9 hx hb hr hml hts hown hlocks hname hK hA hZ hN hQ
  have hown : s.vm.findClass RX11 = some m.cls := hown
  have hiX11 : ∀ w ∈ wsX110, w ∈ .code yX11_week cX11_week 1 (some .int) :: wsL_law0 := fun _ h => ki (zs_wsX110 _ h)
  have hiX8 : ∀ w ∈ wsX80, w ∈ .code yX11_week cX11_week 1 (some .int) :: wsL_law0 := fun _ h => ki (zs_wsX80 _ h)
  have lf48 := hts (.fieldLink RX11 48 "BeardPass" "frontier" "LBeardPass$Frontier;") (ki (zr2 11 rfl))
  have lf64 := hts (.fieldLink RX11 64 "BeardPass" "now" "LBeardPass$Standing;") (ki (zr2 19 rfl))
  have lf181 := hts (.fieldLink RX11 181 "BeardPass$Standing" "weeks" "I") (ki (zr38 22 rfl))
  obtain ⟨X, hX⟩ : ∃ X, X = (Gk_week r q) := ⟨_, rfl⟩
  intro H locs hw hS ls hl
  have hl : lv_has ls 1 [(0, .ref (y 195))] := hl
  have hE := hX
  unfold Gk_week at hE
  refine lv_aload_n hx hb dX11_week_0 rfl (lv_at hl 0 rfl) ?_
  refine kcallV (As := []) (rest := []) ⟨hx, hb, hml, hown, hts⟩ (kc_remember l D ct E y r q hJ0 hEi) (wqX11_199_kc_remember hts ⟨Nat.le_of_ble_eq_true rfl, Nat.le_of_ble_eq_true rfl⟩) hw hS hA hK hZ hN 10 195 rfl kg195 rfl hl.1 rfl (Nat.le_of_ble_eq_true rfl) dX11_week_1 4 rfl (fun u1 H locs pu1 hw hS => ?_)
  have ju1 : kJ u1 := pu1.1
  have yu1_0 : (u1 9 = r 9) := pu1.2.1
  have xu1 : u1 = (Gk_remember r q) := pu1.2.2.1
  have hE := zletE xu1 hE
  have hw : zPD D A (kW ct E y u1 q) H := hw
  refine zfr 4 [] rfl rfl ?_
  refine lv_aload_n hx hb dX11_week_4 rfl (lv_at hl 0 rfl) ?_
  refine va_get (D := D) (ci := 10) (v := .ref (y 199)) hx hb hts hiX11 hown hK hw.1 195 kg195 rfl 6 (by decide) lf48 (fun _ h9 => h9) rfl dX11_week_5 ?_
  refine lv_aload_n hx hb dX11_week_8 rfl (lv_at hl 0 rfl) ?_
  refine va_get (D := D) (ci := 10) (v := .ref (y 6)) hx hb hts hiX11 hown hK hw.1 195 kg195 rfl 8 (by decide) lf64 (fun _ h9 => h9) rfl dX11_week_9 ?_
  refine kcallV (As := [.ref (y 6)]) (rest := []) ⟨hx, hb, hml, hown, hts⟩ (kc_passWeekN l D ct E y u1 q ju1 hEi) (wqX11_217_kc_passWeekN hts ⟨Nat.le_of_ble_eq_true rfl, Nat.le_of_ble_eq_true rfl⟩) hw hS hA hK hZ hN 0 199 rfl kg199 rfl hl.1 rfl (Nat.le_of_ble_eq_true rfl) dX11_week_12 15 rfl (fun u3 H locs pu3 hw hS => ?_)
  have ju3 : kJ u3 := pu3.1
  have fu3 : zFr [6, 8] u1 u3 := pu3.2.1
  have xu3 : u3 = (Gk_passWeekN u1 q) := pu3.2.2.1
  have hE := zletE xu3 hE
  have hw : zPD D A (kW ct E y u3 q) H := hw
  refine zfr 15 [] rfl rfl ?_
  refine lv_aload_n hx hb dX11_week_15 rfl (lv_at hl 0 rfl) ?_
  refine va_get (D := D) (ci := 10) (v := .ref (y 6)) hx hb hts hiX11 hown hK hw.1 195 kg195 rfl 8 (by decide) lf64 (fun _ h9 => h9) rfl dX11_week_16 ?_
  refine va_get (D := D) (ci := 7) (v := .int (u3 6 5)) hx hb hts hiX8 hown hK hw.1 6 kg6 rfl 5 (by decide) lf181 (fun _ h9 => h9) rfl dX11_week_19 (zgenE (zI.top _) (fun v5 ev5 _ => ?_))
  have hE := zletE ev5 hE
  exact ziretQ hQ hx hb hr rfl hlocks (v5, u3) rfl ⟨(zI.top _), ju3, (hE.symm.trans hX), trivial⟩ hw hS dX11_week_22

noncomputable def Gk_markLay0 (r : zRr) (q : zRq) : zRr :=
  zlet (α := zRr) (kcp8 r 114 6) <| fun r1 => zlet (α := zRr) (kcp1 r1 146 138) <| fun r2 => zlet (α := zRr) (zset r2 163 (r2 162)) <| fun r3 => zlet (α := zRr) ((zset r3 167 (upd (r3 167) 3 (1 : Int32)))) <| fun r4 => r4
set_option maxHeartbeats 4000000 in
set_option maxRecDepth 100000 in
theorem kc_markLay0 (l : Launch) (D : va_G) (ct : Nat → ClassId) (E : Nat → Nat) (y : Nat → Nat) (r : zRr) (q : zRq) (hJ0 : kJ r) (hEi : kEi E) : cC l yX5_lay (.code yX5_lay cX5_lay 4 none :: wsL_law0) ({ frames := 3, cells := 0, slots := 0, locals := 160 }) D ct E [.ref (y 167), .ref (y 6), .ref (y 138), .ref (y 162)] (kW ct E y r q) (S := zRr) (fun u => none) (fun u => kJ u ∧ u = (Gk_markLay0 r q) ∧ True) (fun u => kW ct E y u q) := by
  refine cofQ cX5_lay 4 none (by decide) rfl (Nat.le_of_ble_eq_true rfl) ?_
  intro p e s m below meth c A a9 Q ha9 hx hb hr hml hts hown hlocks hname hK hA hZ hN hQ
  have hown : s.vm.findClass RX5 = some m.cls := hown
  have hiX5 : ∀ w ∈ wsX50, w ∈ .code yX5_lay cX5_lay 4 none :: wsL_law0 := fun _ h => ki (zs_wsX50 _ h)
  have lf10 := hts (.fieldLink RX5 10 "BeardPass$Mark" "standing" "LBeardPass$Standing;") (ki (zr7 9 rfl))
  have lf19 := hts (.fieldLink RX5 19 "BeardPass$Mark" "plan" "LBeardPass$Journey;") (ki (zr7 11 rfl))
  have lf26 := hts (.fieldLink RX5 26 "BeardPass$Mark" "sightings" "LBeardPass$Sightings;") (ki (zr7 13 rfl))
  have lf30 := hts (.fieldLink RX5 30 "BeardPass$Mark" "laid" "Z") (ki (zr7 14 rfl))
  obtain ⟨X, hX⟩ : ∃ X, X = (Gk_markLay0 r q) := ⟨_, rfl⟩
  intro H locs hw hS ls hl
  have hl : lv_has ls 4 [(0, .ref (y 167)), (1, .ref (y 6)), (2, .ref (y 138)), (3, .ref (y 162))] := hl
  have hE := hX
  unfold Gk_markLay0 at hE
  refine lv_aload_n hx hb dX5_lay_0 rfl (lv_at hl 0 rfl) ?_
  refine va_get (D := D) (ci := 5) (v := .ref (y 114)) hx hb hts hiX5 hown hK hw.1 167 kg167 rfl 0 (by decide) lf10 (fun _ h9 => h9) rfl dX5_lay_1 ?_
  refine lv_aload_n hx hb dX5_lay_4 rfl (lv_at hl 1 rfl) ?_
  refine kcallZ (As := [.ref (y 6)]) (rest := []) (kis8 114 6) (kis8l ⟨by decide, by decide⟩ ⟨by decide, by decide⟩) (kis8w ⟨by decide, by decide⟩ ⟨by decide, by decide⟩) ⟨hx, hb, hml, hown, hts⟩ (c_X8_copy l D ct (y 114) (y 6) (y (114 + 1)) (y (114 + 2)) (y (114 + 3)) (y (114 + 4)) (y (114 + 5)) (y (6 + 1)) (y (6 + 2)) (y (6 + 3)) (y (6 + 4)) (y (6 + 5)) (r (114 + 1)) (r (114 + 2)) (r (114 + 3)) (r (114 + 4)) (r (114 + 5)) (r (6 + 1)) (r (6 + 2)) (r (6 + 3)) (r (6 + 4)) (r (6 + 5)) (r 114 5) (r 6 5)) (cwV 1 hts (kgVm (zr57 6 rfl) (zr35 21 rfl) (zr35 22 rfl) (zr2 18 rfl) mL_X8_copy) rfl rfl rfl (by decide +kernel) ⟨Nat.le_of_ble_eq_true rfl, Nat.le_of_ble_eq_true rfl⟩) hw hS hA hK hN (kis8n ⟨by decide, by decide⟩ ⟨by decide, by decide⟩ (by decide)) 7 114 rfl (kis8o ⟨by decide, by decide⟩) rfl hl.1 rfl (Nat.le_of_ble_eq_true rfl) dX5_lay_5 8 rfl (kcp8 r 114 6) q (fun _ => kis8B ⟨by decide, by decide⟩ ⟨by decide, by decide⟩ (by decide)) kis8x (fun _ H locs _ hw hS => ?_)
  refine zfr 8 [] rfl rfl ?_
  refine cmgen (P := fun x => kJ x) hw (hJ0.copy8 ⟨by decide, by decide⟩ ⟨by decide, by decide⟩) (fun r1 er1 hw pr1 => ?_)
  have hE := zletE er1 hE
  refine lv_aload_n hx hb dX5_lay_8 rfl (lv_at hl 0 rfl) ?_
  refine va_get (D := D) (ci := 5) (v := .ref (y 146)) hx hb hts hiX5 hown hK hw.1 167 kg167 rfl 1 (by decide) lf19 (fun _ h9 => h9) rfl dX5_lay_9 ?_
  refine lv_aload_n hx hb dX5_lay_12 rfl (lv_at hl 2 rfl) ?_
  have hix := (show zI 0 40 (r1 138 3) from pr1.i 138 3).ix (n := 41) (by decide)
  refine kcallZ (As := [.ref (y 138)]) (rest := []) (kis1 146 138) (kis1l ⟨by decide, by decide, by decide⟩ ⟨by decide, by decide, by decide⟩) (kis1w ⟨by decide, by decide, by decide⟩ ⟨by decide, by decide, by decide⟩ hix.1) ⟨hx, hb, hml, hown, hts⟩ (c_X1_copy l D ct (y 146) (y 138) (y (146 + 1)) (y (146 + 2)) (y (146 + 3)) (y (138 + 1)) (y (138 + 2)) (y (138 + 3)) (r1 (146 + 1)) (r1 (146 + 2)) (r1 (146 + 3)) (r1 (138 + 1)) (r1 (138 + 2)) (r1 (138 + 3)) (r1 146 3) (zn (r1 138 3)) (by have h9 := hix.2; omega)) (cwV 1 hts (kgVm (zr57 7 rfl) (zr29 14 rfl) (zr29 15 rfl) (zr2 5 rfl) mL_X1_copy) rfl rfl rfl (by decide +kernel) ⟨Nat.le_of_ble_eq_true rfl, Nat.le_of_ble_eq_true rfl⟩) hw hS hA hK hN (kis1n ⟨by decide, by decide, by decide⟩ ⟨by decide, by decide, by decide⟩ (by decide)) 1 146 rfl (kis1o ⟨by decide, by decide, by decide⟩) rfl hl.1 rfl (Nat.le_of_ble_eq_true rfl) dX5_lay_13 16 rfl (kcp1 r1 146 138) q (fun _ => kis1B ⟨by decide, by decide, by decide⟩ ⟨by decide, by decide, by decide⟩ (by decide) hix.1) kis1x (fun _ H locs _ hw hS => ?_)
  refine zfr 16 [] rfl rfl ?_
  refine cmgen (P := fun x => kJ x) hw (pr1.copy1 (by decide) (kG.L pr1 (by decide)) (show zI 0 40 (r1 138 3) from pr1.i 138 3)) (fun r2 er2 hw pr2 => ?_)
  have hE := zletE er2 hE
  refine lv_aload_n hx hb dX5_lay_16 rfl (lv_at hl 0 rfl) ?_
  refine va_get (D := D) (ci := 5) (v := .ref (y 163)) hx hb hts hiX5 hown hK hw.1 167 kg167 rfl 2 (by decide) lf26 (fun _ h9 => h9) rfl dX5_lay_17 ?_
  refine lv_aload_n hx hb dX5_lay_20 rfl (lv_at hl 3 rfl) ?_
  refine kcallZ (As := [.ref (y 162)]) (rest := []) [163, 162] (by decide) rfl ⟨hx, hb, hml, hown, hts⟩ (c_X6_copy l D ct (y 163) (y 162) (r2 163 0) (r2 163 1) (r2 162 0) (r2 162 1)) (cwV 1 hts (kgVm (zr57 8 rfl) (zr57 9 rfl) (zr57 10 rfl) (zr2 23 rfl) mL_X6_copy) rfl rfl rfl (by decide +kernel) ⟨Nat.le_of_ble_eq_true rfl, Nat.le_of_ble_eq_true rfl⟩) hw hS hA hK hN rfl 6 163 rfl kg163 rfl hl.1 rfl (Nat.le_of_ble_eq_true rfl) dX5_lay_21 24 rfl (zset r2 163 (r2 162)) q (fun _ => rfl) kset2x (fun _ H locs _ hw hS => ?_)
  refine zfr 24 [] rfl rfl ?_
  refine cmgen (P := fun x => kJ x) hw (pr2.setr rfl (fun _ => zI.top _)) (fun r3 er3 hw pr3 => ?_)
  have hE := zletE er3 hE
  refine lv_aload_n hx hb dX5_lay_24 rfl (lv_at hl 0 rfl) ?_
  refine lv_iconst (v := 1) hx hb dX5_lay_25 (by decide) ?_
  refine zput (D := D) (ci := 5) (v := .int 1) (ty := .boolean) hx hb hts hiX5 tyX5 tyX5_ok nmX5 hown hK hw hS 167 kg167 rfl 3 (by decide) lf30 (fun _ h9 => h9) rfl (by decide +kernel) rfl rfl (Nat.le_of_ble_eq_true rfl) dX5_lay_26 (kW ct E y (zset r3 167 (upd (r3 167) 3 (1 : Int32))) q) ks167_3 (fun H locs hw hS => ?_)
  refine cmgen (P := fun x => kJ x) hw (pr3.set rfl ((zI.lit (a := 1) (b := 1) (c := 1) (by decide)).w (c := 0) (d := 1) (by decide))) (fun r4 er4 hw pr4 => ?_)
  have hE := zletE er4 hE
  exact zvretQ hQ hx hb hr hlocks r4 rfl ⟨pr4, (hE.symm.trans hX), trivial⟩ hw hS dX5_lay_29

noncomputable def Gk_markLay1 (r : zRr) (q : zRq) : zRr :=
  zlet (α := zRr) (kcp8 r 120 6) <| fun r1 => zlet (α := zRr) (kcp1 r1 150 138) <| fun r2 => zlet (α := zRr) (zset r2 164 (r2 162)) <| fun r3 => zlet (α := zRr) ((zset r3 168 (upd (r3 168) 3 (1 : Int32)))) <| fun r4 => r4
set_option maxHeartbeats 4000000 in
set_option maxRecDepth 100000 in
theorem kc_markLay1 (l : Launch) (D : va_G) (ct : Nat → ClassId) (E : Nat → Nat) (y : Nat → Nat) (r : zRr) (q : zRq) (hJ0 : kJ r) (hEi : kEi E) : cC l yX5_lay (.code yX5_lay cX5_lay 4 none :: wsL_law0) ({ frames := 3, cells := 0, slots := 0, locals := 160 }) D ct E [.ref (y 168), .ref (y 6), .ref (y 138), .ref (y 162)] (kW ct E y r q) (S := zRr) (fun u => none) (fun u => kJ u ∧ u = (Gk_markLay1 r q) ∧ True) (fun u => kW ct E y u q) := by
  refine cofQ cX5_lay 4 none (by decide) rfl (Nat.le_of_ble_eq_true rfl) ?_
  intro p e s m below meth c A a9 Q ha9 hx hb hr hml hts hown hlocks hname hK hA hZ hN hQ
  have hown : s.vm.findClass RX5 = some m.cls := hown
  have hiX5 : ∀ w ∈ wsX50, w ∈ .code yX5_lay cX5_lay 4 none :: wsL_law0 := fun _ h => ki (zs_wsX50 _ h)
  have lf10 := hts (.fieldLink RX5 10 "BeardPass$Mark" "standing" "LBeardPass$Standing;") (ki (zr7 9 rfl))
  have lf19 := hts (.fieldLink RX5 19 "BeardPass$Mark" "plan" "LBeardPass$Journey;") (ki (zr7 11 rfl))
  have lf26 := hts (.fieldLink RX5 26 "BeardPass$Mark" "sightings" "LBeardPass$Sightings;") (ki (zr7 13 rfl))
  have lf30 := hts (.fieldLink RX5 30 "BeardPass$Mark" "laid" "Z") (ki (zr7 14 rfl))
  obtain ⟨X, hX⟩ : ∃ X, X = (Gk_markLay1 r q) := ⟨_, rfl⟩
  intro H locs hw hS ls hl
  have hl : lv_has ls 4 [(0, .ref (y 168)), (1, .ref (y 6)), (2, .ref (y 138)), (3, .ref (y 162))] := hl
  have hE := hX
  unfold Gk_markLay1 at hE
  refine lv_aload_n hx hb dX5_lay_0 rfl (lv_at hl 0 rfl) ?_
  refine va_get (D := D) (ci := 5) (v := .ref (y 120)) hx hb hts hiX5 hown hK hw.1 168 kg168 rfl 0 (by decide) lf10 (fun _ h9 => h9) rfl dX5_lay_1 ?_
  refine lv_aload_n hx hb dX5_lay_4 rfl (lv_at hl 1 rfl) ?_
  refine kcallZ (As := [.ref (y 6)]) (rest := []) (kis8 120 6) (kis8l ⟨by decide, by decide⟩ ⟨by decide, by decide⟩) (kis8w ⟨by decide, by decide⟩ ⟨by decide, by decide⟩) ⟨hx, hb, hml, hown, hts⟩ (c_X8_copy l D ct (y 120) (y 6) (y (120 + 1)) (y (120 + 2)) (y (120 + 3)) (y (120 + 4)) (y (120 + 5)) (y (6 + 1)) (y (6 + 2)) (y (6 + 3)) (y (6 + 4)) (y (6 + 5)) (r (120 + 1)) (r (120 + 2)) (r (120 + 3)) (r (120 + 4)) (r (120 + 5)) (r (6 + 1)) (r (6 + 2)) (r (6 + 3)) (r (6 + 4)) (r (6 + 5)) (r 120 5) (r 6 5)) (cwV 1 hts (kgVm (zr57 6 rfl) (zr35 21 rfl) (zr35 22 rfl) (zr2 18 rfl) mL_X8_copy) rfl rfl rfl (by decide +kernel) ⟨Nat.le_of_ble_eq_true rfl, Nat.le_of_ble_eq_true rfl⟩) hw hS hA hK hN (kis8n ⟨by decide, by decide⟩ ⟨by decide, by decide⟩ (by decide)) 7 120 rfl (kis8o ⟨by decide, by decide⟩) rfl hl.1 rfl (Nat.le_of_ble_eq_true rfl) dX5_lay_5 8 rfl (kcp8 r 120 6) q (fun _ => kis8B ⟨by decide, by decide⟩ ⟨by decide, by decide⟩ (by decide)) kis8x (fun _ H locs _ hw hS => ?_)
  refine zfr 8 [] rfl rfl ?_
  refine cmgen (P := fun x => kJ x) hw (hJ0.copy8 ⟨by decide, by decide⟩ ⟨by decide, by decide⟩) (fun r1 er1 hw pr1 => ?_)
  have hE := zletE er1 hE
  refine lv_aload_n hx hb dX5_lay_8 rfl (lv_at hl 0 rfl) ?_
  refine va_get (D := D) (ci := 5) (v := .ref (y 150)) hx hb hts hiX5 hown hK hw.1 168 kg168 rfl 1 (by decide) lf19 (fun _ h9 => h9) rfl dX5_lay_9 ?_
  refine lv_aload_n hx hb dX5_lay_12 rfl (lv_at hl 2 rfl) ?_
  have hix := (show zI 0 40 (r1 138 3) from pr1.i 138 3).ix (n := 41) (by decide)
  refine kcallZ (As := [.ref (y 138)]) (rest := []) (kis1 150 138) (kis1l ⟨by decide, by decide, by decide⟩ ⟨by decide, by decide, by decide⟩) (kis1w ⟨by decide, by decide, by decide⟩ ⟨by decide, by decide, by decide⟩ hix.1) ⟨hx, hb, hml, hown, hts⟩ (c_X1_copy l D ct (y 150) (y 138) (y (150 + 1)) (y (150 + 2)) (y (150 + 3)) (y (138 + 1)) (y (138 + 2)) (y (138 + 3)) (r1 (150 + 1)) (r1 (150 + 2)) (r1 (150 + 3)) (r1 (138 + 1)) (r1 (138 + 2)) (r1 (138 + 3)) (r1 150 3) (zn (r1 138 3)) (by have h9 := hix.2; omega)) (cwV 1 hts (kgVm (zr57 7 rfl) (zr29 14 rfl) (zr29 15 rfl) (zr2 5 rfl) mL_X1_copy) rfl rfl rfl (by decide +kernel) ⟨Nat.le_of_ble_eq_true rfl, Nat.le_of_ble_eq_true rfl⟩) hw hS hA hK hN (kis1n ⟨by decide, by decide, by decide⟩ ⟨by decide, by decide, by decide⟩ (by decide)) 1 150 rfl (kis1o ⟨by decide, by decide, by decide⟩) rfl hl.1 rfl (Nat.le_of_ble_eq_true rfl) dX5_lay_13 16 rfl (kcp1 r1 150 138) q (fun _ => kis1B ⟨by decide, by decide, by decide⟩ ⟨by decide, by decide, by decide⟩ (by decide) hix.1) kis1x (fun _ H locs _ hw hS => ?_)
  refine zfr 16 [] rfl rfl ?_
  refine cmgen (P := fun x => kJ x) hw (pr1.copy1 (by decide) (kG.L pr1 (by decide)) (show zI 0 40 (r1 138 3) from pr1.i 138 3)) (fun r2 er2 hw pr2 => ?_)
  have hE := zletE er2 hE
  refine lv_aload_n hx hb dX5_lay_16 rfl (lv_at hl 0 rfl) ?_
  refine va_get (D := D) (ci := 5) (v := .ref (y 164)) hx hb hts hiX5 hown hK hw.1 168 kg168 rfl 2 (by decide) lf26 (fun _ h9 => h9) rfl dX5_lay_17 ?_
  refine lv_aload_n hx hb dX5_lay_20 rfl (lv_at hl 3 rfl) ?_
  refine kcallZ (As := [.ref (y 162)]) (rest := []) [164, 162] (by decide) rfl ⟨hx, hb, hml, hown, hts⟩ (c_X6_copy l D ct (y 164) (y 162) (r2 164 0) (r2 164 1) (r2 162 0) (r2 162 1)) (cwV 1 hts (kgVm (zr57 8 rfl) (zr57 9 rfl) (zr57 10 rfl) (zr2 23 rfl) mL_X6_copy) rfl rfl rfl (by decide +kernel) ⟨Nat.le_of_ble_eq_true rfl, Nat.le_of_ble_eq_true rfl⟩) hw hS hA hK hN rfl 6 164 rfl kg164 rfl hl.1 rfl (Nat.le_of_ble_eq_true rfl) dX5_lay_21 24 rfl (zset r2 164 (r2 162)) q (fun _ => rfl) kset2x (fun _ H locs _ hw hS => ?_)
  refine zfr 24 [] rfl rfl ?_
  refine cmgen (P := fun x => kJ x) hw (pr2.setr rfl (fun _ => zI.top _)) (fun r3 er3 hw pr3 => ?_)
  have hE := zletE er3 hE
  refine lv_aload_n hx hb dX5_lay_24 rfl (lv_at hl 0 rfl) ?_
  refine lv_iconst (v := 1) hx hb dX5_lay_25 (by decide) ?_
  refine zput (D := D) (ci := 5) (v := .int 1) (ty := .boolean) hx hb hts hiX5 tyX5 tyX5_ok nmX5 hown hK hw hS 168 kg168 rfl 3 (by decide) lf30 (fun _ h9 => h9) rfl (by decide +kernel) rfl rfl (Nat.le_of_ble_eq_true rfl) dX5_lay_26 (kW ct E y (zset r3 168 (upd (r3 168) 3 (1 : Int32))) q) ks168_3 (fun H locs hw hS => ?_)
  refine cmgen (P := fun x => kJ x) hw (pr3.set rfl ((zI.lit (a := 1) (b := 1) (c := 1) (by decide)).w (c := 0) (d := 1) (by decide))) (fun r4 er4 hw pr4 => ?_)
  have hE := zletE er4 hE
  exact zvretQ hQ hx hb hr hlocks r4 rfl ⟨pr4, (hE.symm.trans hX), trivial⟩ hw hS dX5_lay_29

noncomputable def Gk_markLay2 (r : zRr) (q : zRq) : zRr :=
  zlet (α := zRr) (kcp8 r 126 6) <| fun r1 => zlet (α := zRr) (kcp1 r1 154 138) <| fun r2 => zlet (α := zRr) (zset r2 165 (r2 162)) <| fun r3 => zlet (α := zRr) ((zset r3 169 (upd (r3 169) 3 (1 : Int32)))) <| fun r4 => r4
set_option maxHeartbeats 4000000 in
set_option maxRecDepth 100000 in
theorem kc_markLay2 (l : Launch) (D : va_G) (ct : Nat → ClassId) (E : Nat → Nat) (y : Nat → Nat) (r : zRr) (q : zRq) (hJ0 : kJ r) (hEi : kEi E) : cC l yX5_lay (.code yX5_lay cX5_lay 4 none :: wsL_law0) ({ frames := 3, cells := 0, slots := 0, locals := 160 }) D ct E [.ref (y 169), .ref (y 6), .ref (y 138), .ref (y 162)] (kW ct E y r q) (S := zRr) (fun u => none) (fun u => kJ u ∧ u = (Gk_markLay2 r q) ∧ True) (fun u => kW ct E y u q) := by
  refine cofQ cX5_lay 4 none (by decide) rfl (Nat.le_of_ble_eq_true rfl) ?_
  intro p e s m below meth c A a9 Q ha9 hx hb hr hml hts hown hlocks hname hK hA hZ hN hQ
  have hown : s.vm.findClass RX5 = some m.cls := hown
  have hiX5 : ∀ w ∈ wsX50, w ∈ .code yX5_lay cX5_lay 4 none :: wsL_law0 := fun _ h => ki (zs_wsX50 _ h)
  have lf10 := hts (.fieldLink RX5 10 "BeardPass$Mark" "standing" "LBeardPass$Standing;") (ki (zr7 9 rfl))
  have lf19 := hts (.fieldLink RX5 19 "BeardPass$Mark" "plan" "LBeardPass$Journey;") (ki (zr7 11 rfl))
  have lf26 := hts (.fieldLink RX5 26 "BeardPass$Mark" "sightings" "LBeardPass$Sightings;") (ki (zr7 13 rfl))
  have lf30 := hts (.fieldLink RX5 30 "BeardPass$Mark" "laid" "Z") (ki (zr7 14 rfl))
  obtain ⟨X, hX⟩ : ∃ X, X = (Gk_markLay2 r q) := ⟨_, rfl⟩
  intro H locs hw hS ls hl
  have hl : lv_has ls 4 [(0, .ref (y 169)), (1, .ref (y 6)), (2, .ref (y 138)), (3, .ref (y 162))] := hl
  have hE := hX
  unfold Gk_markLay2 at hE
  refine lv_aload_n hx hb dX5_lay_0 rfl (lv_at hl 0 rfl) ?_
  refine va_get (D := D) (ci := 5) (v := .ref (y 126)) hx hb hts hiX5 hown hK hw.1 169 kg169 rfl 0 (by decide) lf10 (fun _ h9 => h9) rfl dX5_lay_1 ?_
  refine lv_aload_n hx hb dX5_lay_4 rfl (lv_at hl 1 rfl) ?_
  refine kcallZ (As := [.ref (y 6)]) (rest := []) (kis8 126 6) (kis8l ⟨by decide, by decide⟩ ⟨by decide, by decide⟩) (kis8w ⟨by decide, by decide⟩ ⟨by decide, by decide⟩) ⟨hx, hb, hml, hown, hts⟩ (c_X8_copy l D ct (y 126) (y 6) (y (126 + 1)) (y (126 + 2)) (y (126 + 3)) (y (126 + 4)) (y (126 + 5)) (y (6 + 1)) (y (6 + 2)) (y (6 + 3)) (y (6 + 4)) (y (6 + 5)) (r (126 + 1)) (r (126 + 2)) (r (126 + 3)) (r (126 + 4)) (r (126 + 5)) (r (6 + 1)) (r (6 + 2)) (r (6 + 3)) (r (6 + 4)) (r (6 + 5)) (r 126 5) (r 6 5)) (cwV 1 hts (kgVm (zr57 6 rfl) (zr35 21 rfl) (zr35 22 rfl) (zr2 18 rfl) mL_X8_copy) rfl rfl rfl (by decide +kernel) ⟨Nat.le_of_ble_eq_true rfl, Nat.le_of_ble_eq_true rfl⟩) hw hS hA hK hN (kis8n ⟨by decide, by decide⟩ ⟨by decide, by decide⟩ (by decide)) 7 126 rfl (kis8o ⟨by decide, by decide⟩) rfl hl.1 rfl (Nat.le_of_ble_eq_true rfl) dX5_lay_5 8 rfl (kcp8 r 126 6) q (fun _ => kis8B ⟨by decide, by decide⟩ ⟨by decide, by decide⟩ (by decide)) kis8x (fun _ H locs _ hw hS => ?_)
  refine zfr 8 [] rfl rfl ?_
  refine cmgen (P := fun x => kJ x) hw (hJ0.copy8 ⟨by decide, by decide⟩ ⟨by decide, by decide⟩) (fun r1 er1 hw pr1 => ?_)
  have hE := zletE er1 hE
  refine lv_aload_n hx hb dX5_lay_8 rfl (lv_at hl 0 rfl) ?_
  refine va_get (D := D) (ci := 5) (v := .ref (y 154)) hx hb hts hiX5 hown hK hw.1 169 kg169 rfl 1 (by decide) lf19 (fun _ h9 => h9) rfl dX5_lay_9 ?_
  refine lv_aload_n hx hb dX5_lay_12 rfl (lv_at hl 2 rfl) ?_
  have hix := (show zI 0 40 (r1 138 3) from pr1.i 138 3).ix (n := 41) (by decide)
  refine kcallZ (As := [.ref (y 138)]) (rest := []) (kis1 154 138) (kis1l ⟨by decide, by decide, by decide⟩ ⟨by decide, by decide, by decide⟩) (kis1w ⟨by decide, by decide, by decide⟩ ⟨by decide, by decide, by decide⟩ hix.1) ⟨hx, hb, hml, hown, hts⟩ (c_X1_copy l D ct (y 154) (y 138) (y (154 + 1)) (y (154 + 2)) (y (154 + 3)) (y (138 + 1)) (y (138 + 2)) (y (138 + 3)) (r1 (154 + 1)) (r1 (154 + 2)) (r1 (154 + 3)) (r1 (138 + 1)) (r1 (138 + 2)) (r1 (138 + 3)) (r1 154 3) (zn (r1 138 3)) (by have h9 := hix.2; omega)) (cwV 1 hts (kgVm (zr57 7 rfl) (zr29 14 rfl) (zr29 15 rfl) (zr2 5 rfl) mL_X1_copy) rfl rfl rfl (by decide +kernel) ⟨Nat.le_of_ble_eq_true rfl, Nat.le_of_ble_eq_true rfl⟩) hw hS hA hK hN (kis1n ⟨by decide, by decide, by decide⟩ ⟨by decide, by decide, by decide⟩ (by decide)) 1 154 rfl (kis1o ⟨by decide, by decide, by decide⟩) rfl hl.1 rfl (Nat.le_of_ble_eq_true rfl) dX5_lay_13 16 rfl (kcp1 r1 154 138) q (fun _ => kis1B ⟨by decide, by decide, by decide⟩ ⟨by decide, by decide, by decide⟩ (by decide) hix.1) kis1x (fun _ H locs _ hw hS => ?_)
  refine zfr 16 [] rfl rfl ?_
  refine cmgen (P := fun x => kJ x) hw (pr1.copy1 (by decide) (kG.L pr1 (by decide)) (show zI 0 40 (r1 138 3) from pr1.i 138 3)) (fun r2 er2 hw pr2 => ?_)
  have hE := zletE er2 hE
  refine lv_aload_n hx hb dX5_lay_16 rfl (lv_at hl 0 rfl) ?_
  refine va_get (D := D) (ci := 5) (v := .ref (y 165)) hx hb hts hiX5 hown hK hw.1 169 kg169 rfl 2 (by decide) lf26 (fun _ h9 => h9) rfl dX5_lay_17 ?_
  refine lv_aload_n hx hb dX5_lay_20 rfl (lv_at hl 3 rfl) ?_
  refine kcallZ (As := [.ref (y 162)]) (rest := []) [165, 162] (by decide) rfl ⟨hx, hb, hml, hown, hts⟩ (c_X6_copy l D ct (y 165) (y 162) (r2 165 0) (r2 165 1) (r2 162 0) (r2 162 1)) (cwV 1 hts (kgVm (zr57 8 rfl) (zr57 9 rfl) (zr57 10 rfl) (zr2 23 rfl) mL_X6_copy) rfl rfl rfl (by decide +kernel) ⟨Nat.le_of_ble_eq_true rfl, Nat.le_of_ble_eq_true rfl⟩) hw hS hA hK hN rfl 6 165 rfl kg165 rfl hl.1 rfl (Nat.le_of_ble_eq_true rfl) dX5_lay_21 24 rfl (zset r2 165 (r2 162)) q (fun _ => rfl) kset2x (fun _ H locs _ hw hS => ?_)
  refine zfr 24 [] rfl rfl ?_
  refine cmgen (P := fun x => kJ x) hw (pr2.setr rfl (fun _ => zI.top _)) (fun r3 er3 hw pr3 => ?_)
  have hE := zletE er3 hE
  refine lv_aload_n hx hb dX5_lay_24 rfl (lv_at hl 0 rfl) ?_
  refine lv_iconst (v := 1) hx hb dX5_lay_25 (by decide) ?_
  refine zput (D := D) (ci := 5) (v := .int 1) (ty := .boolean) hx hb hts hiX5 tyX5 tyX5_ok nmX5 hown hK hw hS 169 kg169 rfl 3 (by decide) lf30 (fun _ h9 => h9) rfl (by decide +kernel) rfl rfl (Nat.le_of_ble_eq_true rfl) dX5_lay_26 (kW ct E y (zset r3 169 (upd (r3 169) 3 (1 : Int32))) q) ks169_3 (fun H locs hw hS => ?_)
  refine cmgen (P := fun x => kJ x) hw (pr3.set rfl ((zI.lit (a := 1) (b := 1) (c := 1) (by decide)).w (c := 0) (d := 1) (by decide))) (fun r4 er4 hw pr4 => ?_)
  have hE := zletE er4 hE
  exact zvretQ hQ hx hb hr hlocks r4 rfl ⟨pr4, (hE.symm.trans hX), trivial⟩ hw hS dX5_lay_29

noncomputable def Gk_markLay3 (r : zRr) (q : zRq) : zRr :=
  zlet (α := zRr) (kcp8 r 132 6) <| fun r1 => zlet (α := zRr) (kcp1 r1 158 138) <| fun r2 => zlet (α := zRr) (zset r2 166 (r2 162)) <| fun r3 => zlet (α := zRr) ((zset r3 170 (upd (r3 170) 3 (1 : Int32)))) <| fun r4 => r4
set_option maxHeartbeats 4000000 in
set_option maxRecDepth 100000 in
theorem kc_markLay3 (l : Launch) (D : va_G) (ct : Nat → ClassId) (E : Nat → Nat) (y : Nat → Nat) (r : zRr) (q : zRq) (hJ0 : kJ r) (hEi : kEi E) : cC l yX5_lay (.code yX5_lay cX5_lay 4 none :: wsL_law0) ({ frames := 3, cells := 0, slots := 0, locals := 160 }) D ct E [.ref (y 170), .ref (y 6), .ref (y 138), .ref (y 162)] (kW ct E y r q) (S := zRr) (fun u => none) (fun u => kJ u ∧ u = (Gk_markLay3 r q) ∧ True) (fun u => kW ct E y u q) := by
  refine cofQ cX5_lay 4 none (by decide) rfl (Nat.le_of_ble_eq_true rfl) ?_
  intro p e s m below meth c A a9 Q ha9 hx hb hr hml hts hown hlocks hname hK hA hZ hN hQ
  have hown : s.vm.findClass RX5 = some m.cls := hown
  have hiX5 : ∀ w ∈ wsX50, w ∈ .code yX5_lay cX5_lay 4 none :: wsL_law0 := fun _ h => ki (zs_wsX50 _ h)
  have lf10 := hts (.fieldLink RX5 10 "BeardPass$Mark" "standing" "LBeardPass$Standing;") (ki (zr7 9 rfl))
  have lf19 := hts (.fieldLink RX5 19 "BeardPass$Mark" "plan" "LBeardPass$Journey;") (ki (zr7 11 rfl))
  have lf26 := hts (.fieldLink RX5 26 "BeardPass$Mark" "sightings" "LBeardPass$Sightings;") (ki (zr7 13 rfl))
  have lf30 := hts (.fieldLink RX5 30 "BeardPass$Mark" "laid" "Z") (ki (zr7 14 rfl))
  obtain ⟨X, hX⟩ : ∃ X, X = (Gk_markLay3 r q) := ⟨_, rfl⟩
  intro H locs hw hS ls hl
  have hl : lv_has ls 4 [(0, .ref (y 170)), (1, .ref (y 6)), (2, .ref (y 138)), (3, .ref (y 162))] := hl
  have hE := hX
  unfold Gk_markLay3 at hE
  refine lv_aload_n hx hb dX5_lay_0 rfl (lv_at hl 0 rfl) ?_
  refine va_get (D := D) (ci := 5) (v := .ref (y 132)) hx hb hts hiX5 hown hK hw.1 170 kg170 rfl 0 (by decide) lf10 (fun _ h9 => h9) rfl dX5_lay_1 ?_
  refine lv_aload_n hx hb dX5_lay_4 rfl (lv_at hl 1 rfl) ?_
  refine kcallZ (As := [.ref (y 6)]) (rest := []) (kis8 132 6) (kis8l ⟨by decide, by decide⟩ ⟨by decide, by decide⟩) (kis8w ⟨by decide, by decide⟩ ⟨by decide, by decide⟩) ⟨hx, hb, hml, hown, hts⟩ (c_X8_copy l D ct (y 132) (y 6) (y (132 + 1)) (y (132 + 2)) (y (132 + 3)) (y (132 + 4)) (y (132 + 5)) (y (6 + 1)) (y (6 + 2)) (y (6 + 3)) (y (6 + 4)) (y (6 + 5)) (r (132 + 1)) (r (132 + 2)) (r (132 + 3)) (r (132 + 4)) (r (132 + 5)) (r (6 + 1)) (r (6 + 2)) (r (6 + 3)) (r (6 + 4)) (r (6 + 5)) (r 132 5) (r 6 5)) (cwV 1 hts (kgVm (zr57 6 rfl) (zr35 21 rfl) (zr35 22 rfl) (zr2 18 rfl) mL_X8_copy) rfl rfl rfl (by decide +kernel) ⟨Nat.le_of_ble_eq_true rfl, Nat.le_of_ble_eq_true rfl⟩) hw hS hA hK hN (kis8n ⟨by decide, by decide⟩ ⟨by decide, by decide⟩ (by decide)) 7 132 rfl (kis8o ⟨by decide, by decide⟩) rfl hl.1 rfl (Nat.le_of_ble_eq_true rfl) dX5_lay_5 8 rfl (kcp8 r 132 6) q (fun _ => kis8B ⟨by decide, by decide⟩ ⟨by decide, by decide⟩ (by decide)) kis8x (fun _ H locs _ hw hS => ?_)
  refine zfr 8 [] rfl rfl ?_
  refine cmgen (P := fun x => kJ x) hw (hJ0.copy8 ⟨by decide, by decide⟩ ⟨by decide, by decide⟩) (fun r1 er1 hw pr1 => ?_)
  have hE := zletE er1 hE
  refine lv_aload_n hx hb dX5_lay_8 rfl (lv_at hl 0 rfl) ?_
  refine va_get (D := D) (ci := 5) (v := .ref (y 158)) hx hb hts hiX5 hown hK hw.1 170 kg170 rfl 1 (by decide) lf19 (fun _ h9 => h9) rfl dX5_lay_9 ?_
  refine lv_aload_n hx hb dX5_lay_12 rfl (lv_at hl 2 rfl) ?_
  have hix := (show zI 0 40 (r1 138 3) from pr1.i 138 3).ix (n := 41) (by decide)
  refine kcallZ (As := [.ref (y 138)]) (rest := []) (kis1 158 138) (kis1l ⟨by decide, by decide, by decide⟩ ⟨by decide, by decide, by decide⟩) (kis1w ⟨by decide, by decide, by decide⟩ ⟨by decide, by decide, by decide⟩ hix.1) ⟨hx, hb, hml, hown, hts⟩ (c_X1_copy l D ct (y 158) (y 138) (y (158 + 1)) (y (158 + 2)) (y (158 + 3)) (y (138 + 1)) (y (138 + 2)) (y (138 + 3)) (r1 (158 + 1)) (r1 (158 + 2)) (r1 (158 + 3)) (r1 (138 + 1)) (r1 (138 + 2)) (r1 (138 + 3)) (r1 158 3) (zn (r1 138 3)) (by have h9 := hix.2; omega)) (cwV 1 hts (kgVm (zr57 7 rfl) (zr29 14 rfl) (zr29 15 rfl) (zr2 5 rfl) mL_X1_copy) rfl rfl rfl (by decide +kernel) ⟨Nat.le_of_ble_eq_true rfl, Nat.le_of_ble_eq_true rfl⟩) hw hS hA hK hN (kis1n ⟨by decide, by decide, by decide⟩ ⟨by decide, by decide, by decide⟩ (by decide)) 1 158 rfl (kis1o ⟨by decide, by decide, by decide⟩) rfl hl.1 rfl (Nat.le_of_ble_eq_true rfl) dX5_lay_13 16 rfl (kcp1 r1 158 138) q (fun _ => kis1B ⟨by decide, by decide, by decide⟩ ⟨by decide, by decide, by decide⟩ (by decide) hix.1) kis1x (fun _ H locs _ hw hS => ?_)
  refine zfr 16 [] rfl rfl ?_
  refine cmgen (P := fun x => kJ x) hw (pr1.copy1 (by decide) (kG.L pr1 (by decide)) (show zI 0 40 (r1 138 3) from pr1.i 138 3)) (fun r2 er2 hw pr2 => ?_)
  have hE := zletE er2 hE
  refine lv_aload_n hx hb dX5_lay_16 rfl (lv_at hl 0 rfl) ?_
  refine va_get (D := D) (ci := 5) (v := .ref (y 166)) hx hb hts hiX5 hown hK hw.1 170 kg170 rfl 2 (by decide) lf26 (fun _ h9 => h9) rfl dX5_lay_17 ?_
  refine lv_aload_n hx hb dX5_lay_20 rfl (lv_at hl 3 rfl) ?_
  refine kcallZ (As := [.ref (y 162)]) (rest := []) [166, 162] (by decide) rfl ⟨hx, hb, hml, hown, hts⟩ (c_X6_copy l D ct (y 166) (y 162) (r2 166 0) (r2 166 1) (r2 162 0) (r2 162 1)) (cwV 1 hts (kgVm (zr57 8 rfl) (zr57 9 rfl) (zr57 10 rfl) (zr2 23 rfl) mL_X6_copy) rfl rfl rfl (by decide +kernel) ⟨Nat.le_of_ble_eq_true rfl, Nat.le_of_ble_eq_true rfl⟩) hw hS hA hK hN rfl 6 166 rfl kg166 rfl hl.1 rfl (Nat.le_of_ble_eq_true rfl) dX5_lay_21 24 rfl (zset r2 166 (r2 162)) q (fun _ => rfl) kset2x (fun _ H locs _ hw hS => ?_)
  refine zfr 24 [] rfl rfl ?_
  refine cmgen (P := fun x => kJ x) hw (pr2.setr rfl (fun _ => zI.top _)) (fun r3 er3 hw pr3 => ?_)
  have hE := zletE er3 hE
  refine lv_aload_n hx hb dX5_lay_24 rfl (lv_at hl 0 rfl) ?_
  refine lv_iconst (v := 1) hx hb dX5_lay_25 (by decide) ?_
  refine zput (D := D) (ci := 5) (v := .int 1) (ty := .boolean) hx hb hts hiX5 tyX5 tyX5_ok nmX5 hown hK hw hS 170 kg170 rfl 3 (by decide) lf30 (fun _ h9 => h9) rfl (by decide +kernel) rfl rfl (Nat.le_of_ble_eq_true rfl) dX5_lay_26 (kW ct E y (zset r3 170 (upd (r3 170) 3 (1 : Int32))) q) ks170_3 (fun H locs hw hS => ?_)
  refine cmgen (P := fun x => kJ x) hw (pr3.set rfl ((zI.lit (a := 1) (b := 1) (c := 1) (by decide)).w (c := 0) (d := 1) (by decide))) (fun r4 er4 hw pr4 => ?_)
  have hE := zletE er4 hE
  exact zvretQ hQ hx hb hr hlocks r4 rfl ⟨pr4, (hE.symm.trans hX), trivial⟩ hw hS dX5_lay_29

noncomputable def Gk_mark (a1 : Int32) (a2 : Int32) (r : zRr) (q : zRq) : Int32 × zRr :=
  zif (a1 < (0 : Int32)) (((0 : Int32), r)) (zif (a1 < (4 : Int32)) (zif (zn a1 = 0) (zifn (a2 = (0 : Int32)) (zlet (α := Int32) (r 167 3) <| fun v9 => zifn (v9 = (0 : Int32)) (zlet (α := zRr) (kcp8 r 6 114) <| fun r12 => zlet (α := zRr) (kcp1 r12 138 146) <| fun r13 => zlet (α := zRr) (zset r13 162 (r13 163)) <| fun r14 => zlet (α := zRr) ((Gk_forgetPast r14 q)) <| fun u15 => ((1 : Int32), u15)) (((0 : Int32), r))) (zlet (α := zRr) ((Gk_markLay0 r q)) <| fun u19 => ((1 : Int32), u19))) (zif (zn a1 = 1) (zifn (a2 = (0 : Int32)) (zlet (α := Int32) (r 168 3) <| fun v23 => zifn (v23 = (0 : Int32)) (zlet (α := zRr) (kcp8 r 6 120) <| fun r26 => zlet (α := zRr) (kcp1 r26 138 150) <| fun r27 => zlet (α := zRr) (zset r27 162 (r27 164)) <| fun r28 => zlet (α := zRr) ((Gk_forgetPast r28 q)) <| fun u29 => ((1 : Int32), u29)) (((0 : Int32), r))) (zlet (α := zRr) ((Gk_markLay1 r q)) <| fun u33 => ((1 : Int32), u33))) (zif (zn a1 = 2) (zifn (a2 = (0 : Int32)) (zlet (α := Int32) (r 169 3) <| fun v37 => zifn (v37 = (0 : Int32)) (zlet (α := zRr) (kcp8 r 6 126) <| fun r40 => zlet (α := zRr) (kcp1 r40 138 154) <| fun r41 => zlet (α := zRr) (zset r41 162 (r41 165)) <| fun r42 => zlet (α := zRr) ((Gk_forgetPast r42 q)) <| fun u43 => ((1 : Int32), u43)) (((0 : Int32), r))) (zlet (α := zRr) ((Gk_markLay2 r q)) <| fun u47 => ((1 : Int32), u47))) (zif (zn a1 = 3) (zifn (a2 = (0 : Int32)) (zlet (α := Int32) (r 170 3) <| fun v51 => zifn (v51 = (0 : Int32)) (zlet (α := zRr) (kcp8 r 6 132) <| fun r54 => zlet (α := zRr) (kcp1 r54 138 158) <| fun r55 => zlet (α := zRr) (zset r55 162 (r55 166)) <| fun r56 => zlet (α := zRr) ((Gk_forgetPast r56 q)) <| fun u57 => ((1 : Int32), u57)) (((0 : Int32), r))) (zlet (α := zRr) ((Gk_markLay3 r q)) <| fun u61 => ((1 : Int32), u61))) (default))))) (((0 : Int32), r)))
set_option maxHeartbeats 4000000 in
set_option maxRecDepth 100000 in
theorem kc_mark (l : Launch) (D : va_G) (ct : Nat → ClassId) (E : Nat → Nat) (y : Nat → Nat) (a1 : Int32) (a2 : Int32) (r : zRr) (q : zRq) (g2 : zI 0 1 a2) (hJ0 : kJ r) (hEi : kEi E) : cC l yX11_mark (.code yX11_mark cX11_mark 4 (some .boolean) :: wsL_law0) ({ frames := 4, cells := 0, slots := 0, locals := 200 }) D ct E [.ref (y 195), .int a1, .int a2] (kW ct E y r q) (S := Int32 × zRr) (fun u => some (.int u.1)) (fun u => zI 0 1 u.1 ∧ kJ u.2 ∧ u = (Gk_mark a1 a2 r q) ∧ True) (fun u => kW ct E y u.2 q) := by
  refine cofQ cX11_mark 4 (some .boolean) (by decide) rfl (Nat.le_of_ble_eq_true rfl) ?_
  intro p e s m below meth c A a9 Q ha9 hx hb hr hml hts hown hlocks hname hK hA hZ hN hQ
  have hown : s.vm.findClass RX11 = some m.cls := hown
  have hiX11 : ∀ w ∈ wsX110, w ∈ .code yX11_mark cX11_mark 4 (some .boolean) :: wsL_law0 := fun _ h => ki (zs_wsX110 _ h)
  have hiX5 : ∀ w ∈ wsX50, w ∈ .code yX11_mark cX11_mark 4 (some .boolean) :: wsL_law0 := fun _ h => ki (zs_wsX50 _ h)
  have lf36 := hts (.fieldLink RX11 36 "BeardPass" "plan" "LBeardPass$Journey;") (ki (zr2 6 rfl))
  have lf64 := hts (.fieldLink RX11 64 "BeardPass" "now" "LBeardPass$Standing;") (ki (zr2 19 rfl))
  have lf74 := hts (.fieldLink RX11 74 "BeardPass" "sightings" "LBeardPass$Sightings;") (ki (zr3 0 rfl))
  have lf84 := hts (.fieldLink RX11 84 "BeardPass" "marks" "[LBeardPass$Mark;") (ki (zr3 3 rfl))
  have lf125 := hts (.fieldLink RX11 125 "BeardPass$Mark" "laid" "Z") (ki (zr10 10 rfl))
  have lf233 := hts (.fieldLink RX11 233 "BeardPass$Mark" "standing" "LBeardPass$Standing;") (ki (zr56 23 rfl))
  have lf236 := hts (.fieldLink RX11 236 "BeardPass$Mark" "plan" "LBeardPass$Journey;") (ki (zr57 0 rfl))
  have lf237 := hts (.fieldLink RX11 237 "BeardPass$Mark" "sightings" "LBeardPass$Sightings;") (ki (zr57 1 rfl))
  obtain ⟨X, hX⟩ : ∃ X, X = (Gk_mark a1 a2 r q) := ⟨_, rfl⟩
  intro H locs hw hS ls hl
  have hl : lv_has ls 4 [(0, .ref (y 195)), (1, .int a1), (2, .int a2)] := hl
  have hE := hX
  unfold Gk_mark at hE
  refine lv_iload_n hx hb dX11_mark_0 rfl (lv_at hl 1 rfl) ?_
  refine lv_if_lt (tgt := 9) hx hb dX11_mark_1 (by decide) (fun c1 => ?_) (fun c1 => ?_)
  · have hE := zifT c1 hE
    have k2 : zI (-2147483648) (-1) (a1) := zI.ltU c1 (zI.top _) (zI.lit (a := 0) (b := 0) (c := 0) (by decide)) (by decide)
    refine lv_iconst (v := 0) hx hb dX11_mark_9 (by decide) ?_
    exact ziretQ hQ hx hb hr rfl hlocks ((0 : Int32), r) rfl ⟨((zI.lit (a := 0) (b := 0) (c := 0) (by decide)).w (c := 0) (d := 1) (by decide)), hJ0, (hE.symm.trans hX), trivial⟩ hw hS dX11_mark_10
  · have hE := zifF c1 hE
    have k3 : zI 0 2147483647 (a1) := zI.leD (zI.nlt c1) (zI.lit (a := 0) (b := 0) (c := 0) (by decide)) (zI.top _) (by decide)
    refine lv_iload_n hx hb dX11_mark_4 rfl (lv_at hl 1 rfl) ?_
    refine lv_iconst (v := 4) hx hb dX11_mark_5 (by decide) ?_
    refine lv_icmp_lt (tgt := 11) hx hb dX11_mark_6 (by decide) (fun c4 => ?_) (fun c4 => ?_)
    · have hE := zifT c4 hE
      have k5 : zI 0 3 (a1) := zI.ltU c4 k3 (zI.lit (a := 4) (b := 4) (c := 4) (by decide)) (by decide)
      refine lv_aload_n hx hb dX11_mark_11 rfl (lv_at hl 0 rfl) ?_
      refine va_get (D := D) (ci := 10) (v := .ref (y 206)) hx hb hts hiX11 hown hK hw.1 195 kg195 rfl 12 (by decide) lf84 (fun _ h9 => h9) rfl dX11_mark_12 ?_
      refine lv_iload_n hx hb dX11_mark_15 rfl (lv_at hl 1 rfl) ?_
      rcases (show zn a1 = 0 ∨ zn a1 = 1 ∨ zn a1 = 2 ∨ zn a1 = 3 by have h9 := (k5).nn (by decide); omega) with e6 | e6 | e6 | e6
      · refine maald hx hb hK hw 206 5 kg206 rfl k5 (by decide) (y 167) (by rw [e6]) dX11_mark_16 ?_
        have hE := zifT e6 hE
        refine lv_astore_n (lv' := [(3, .ref (y 167)), (0, .ref (y 195)), (1, .int a1), (2, .int a2)]) hx hb dX11_mark_17 rfl hl (by decide) rfl (fun ls hl => ?_)
        refine lv_iload_n hx hb dX11_mark_18 rfl (lv_at hl 3 rfl) ?_
        refine lv_if_ne (tgt := 40) hx hb dX11_mark_19 (by decide) (fun c7 => ?_) (fun c7 => ?_)
        · have hE := zifnT c7 hE
          have k8 : zI 1 1 (a2) := zI.neD c7 g2 (zI.lit (a := 0) (b := 0) (c := 0) (by decide)) (by decide)
          refine lv_aload_n hx hb dX11_mark_40 rfl (lv_at hl 0 rfl) ?_
          refine va_get (D := D) (ci := 5) (v := .int (r 167 3)) hx hb hts hiX5 hown hK hw.1 167 kg167 rfl 3 (by decide) lf125 (fun _ h9 => h9) rfl dX11_mark_41 (zgenE (lo := 0) (hi := 1) ((show zI 0 1 (r 167 3) from hJ0.i 167 3)) (fun v9 ev9 hv9 => ?_))
          have hE := zletE ev9 hE
          refine lv_if_ne (tgt := 49) hx hb dX11_mark_44 (by decide) (fun c10 => ?_) (fun c10 => ?_)
          · have hE := zifnT c10 hE
            have k11 : zI 1 1 (v9) := zI.neD c10 hv9 (zI.lit (a := 0) (b := 0) (c := 0) (by decide)) (by decide)
            refine lv_aload_n hx hb dX11_mark_49 rfl (lv_at hl 1 rfl) ?_
            refine va_get (D := D) (ci := 10) (v := .ref (y 6)) hx hb hts hiX11 hown hK hw.1 195 kg195 rfl 8 (by decide) lf64 (fun _ h9 => h9) rfl dX11_mark_50 ?_
            refine lv_aload_n hx hb dX11_mark_53 rfl (lv_at hl 0 rfl) ?_
            refine va_get (D := D) (ci := 5) (v := .ref (y 114)) hx hb hts hiX5 hown hK hw.1 167 kg167 rfl 0 (by decide) lf233 (fun _ h9 => h9) rfl dX11_mark_54 ?_
            refine kcallZ (As := [.ref (y 114)]) (rest := []) (kis8 6 114) (kis8l ⟨by decide, by decide⟩ ⟨by decide, by decide⟩) (kis8w ⟨by decide, by decide⟩ ⟨by decide, by decide⟩) ⟨hx, hb, hml, hown, hts⟩ (c_X8_copy l D ct (y 6) (y 114) (y (6 + 1)) (y (6 + 2)) (y (6 + 3)) (y (6 + 4)) (y (6 + 5)) (y (114 + 1)) (y (114 + 2)) (y (114 + 3)) (y (114 + 4)) (y (114 + 5)) (r (6 + 1)) (r (6 + 2)) (r (6 + 3)) (r (6 + 4)) (r (6 + 5)) (r (114 + 1)) (r (114 + 2)) (r (114 + 3)) (r (114 + 4)) (r (114 + 5)) (r 6 5) (r 114 5)) (cwV 1 hts (kgVm (zr35 20 rfl) (zr35 21 rfl) (zr35 22 rfl) (zr2 18 rfl) mL_X8_copy) rfl rfl rfl (by decide +kernel) ⟨Nat.le_of_ble_eq_true rfl, Nat.le_of_ble_eq_true rfl⟩) hw hS hA hK hN (kis8n ⟨by decide, by decide⟩ ⟨by decide, by decide⟩ (by decide)) 7 6 rfl (kis8o ⟨by decide, by decide⟩) rfl hl.1 rfl (Nat.le_of_ble_eq_true rfl) dX11_mark_57 60 rfl (kcp8 r 6 114) q (fun _ => kis8B ⟨by decide, by decide⟩ ⟨by decide, by decide⟩ (by decide)) kis8x (fun _ H locs _ hw hS => ?_)
            refine zfr 60 [] rfl rfl ?_
            refine cmgen (P := fun x => kJ x) hw (hJ0.copy8 ⟨by decide, by decide⟩ ⟨by decide, by decide⟩) (fun r12 er12 hw pr12 => ?_)
            have hE := zletE er12 hE
            refine lv_aload_n hx hb dX11_mark_60 rfl (lv_at hl 1 rfl) ?_
            refine va_get (D := D) (ci := 10) (v := .ref (y 138)) hx hb hts hiX11 hown hK hw.1 195 kg195 rfl 4 (by decide) lf36 (fun _ h9 => h9) rfl dX11_mark_61 ?_
            refine lv_aload_n hx hb dX11_mark_64 rfl (lv_at hl 0 rfl) ?_
            refine va_get (D := D) (ci := 5) (v := .ref (y 146)) hx hb hts hiX5 hown hK hw.1 167 kg167 rfl 1 (by decide) lf236 (fun _ h9 => h9) rfl dX11_mark_65 ?_
            have hix := (show zI 0 40 (r12 146 3) from pr12.i 146 3).ix (n := 41) (by decide)
            refine kcallZ (As := [.ref (y 146)]) (rest := []) (kis1 138 146) (kis1l ⟨by decide, by decide, by decide⟩ ⟨by decide, by decide, by decide⟩) (kis1w ⟨by decide, by decide, by decide⟩ ⟨by decide, by decide, by decide⟩ hix.1) ⟨hx, hb, hml, hown, hts⟩ (c_X1_copy l D ct (y 138) (y 146) (y (138 + 1)) (y (138 + 2)) (y (138 + 3)) (y (146 + 1)) (y (146 + 2)) (y (146 + 3)) (r12 (138 + 1)) (r12 (138 + 2)) (r12 (138 + 3)) (r12 (146 + 1)) (r12 (146 + 2)) (r12 (146 + 3)) (r12 138 3) (zn (r12 146 3)) (by have h9 := hix.2; omega)) (cwV 1 hts (kgVm (zr29 13 rfl) (zr29 14 rfl) (zr29 15 rfl) (zr2 5 rfl) mL_X1_copy) rfl rfl rfl (by decide +kernel) ⟨Nat.le_of_ble_eq_true rfl, Nat.le_of_ble_eq_true rfl⟩) hw hS hA hK hN (kis1n ⟨by decide, by decide, by decide⟩ ⟨by decide, by decide, by decide⟩ (by decide)) 1 138 rfl (kis1o ⟨by decide, by decide, by decide⟩) rfl hl.1 rfl (Nat.le_of_ble_eq_true rfl) dX11_mark_68 71 rfl (kcp1 r12 138 146) q (fun _ => kis1B ⟨by decide, by decide, by decide⟩ ⟨by decide, by decide, by decide⟩ (by decide) hix.1) kis1x (fun _ H locs _ hw hS => ?_)
            refine zfr 71 [] rfl rfl ?_
            refine cmgen (P := fun x => kJ x) hw (pr12.copy1 (by decide) (kG.L pr12 (by decide)) (show zI 0 40 (r12 146 3) from pr12.i 146 3)) (fun r13 er13 hw pr13 => ?_)
            have hE := zletE er13 hE
            refine lv_aload_n hx hb dX11_mark_71 rfl (lv_at hl 1 rfl) ?_
            refine va_get (D := D) (ci := 10) (v := .ref (y 162)) hx hb hts hiX11 hown hK hw.1 195 kg195 rfl 10 (by decide) lf74 (fun _ h9 => h9) rfl dX11_mark_72 ?_
            refine lv_aload_n hx hb dX11_mark_75 rfl (lv_at hl 0 rfl) ?_
            refine va_get (D := D) (ci := 5) (v := .ref (y 163)) hx hb hts hiX5 hown hK hw.1 167 kg167 rfl 2 (by decide) lf237 (fun _ h9 => h9) rfl dX11_mark_76 ?_
            refine kcallZ (As := [.ref (y 163)]) (rest := []) [162, 163] (by decide) rfl ⟨hx, hb, hml, hown, hts⟩ (c_X6_copy l D ct (y 162) (y 163) (r13 162 0) (r13 162 1) (r13 163 0) (r13 163 1)) (cwV 1 hts (kgVm (zr57 12 rfl) (zr57 9 rfl) (zr57 10 rfl) (zr2 23 rfl) mL_X6_copy) rfl rfl rfl (by decide +kernel) ⟨Nat.le_of_ble_eq_true rfl, Nat.le_of_ble_eq_true rfl⟩) hw hS hA hK hN rfl 6 162 rfl kg162 rfl hl.1 rfl (Nat.le_of_ble_eq_true rfl) dX11_mark_79 82 rfl (zset r13 162 (r13 163)) q (fun _ => rfl) kset2x (fun _ H locs _ hw hS => ?_)
            refine zfr 82 [] rfl rfl ?_
            refine cmgen (P := fun x => kJ x) hw (pr13.setr rfl (fun _ => zI.top _)) (fun r14 er14 hw pr14 => ?_)
            have hE := zletE er14 hE
            refine lv_aload_n hx hb dX11_mark_82 rfl (lv_at hl 1 rfl) ?_
            refine kcallV (As := []) (rest := []) ⟨hx, hb, hml, hown, hts⟩ (kc_forgetPast l D ct E y r14 q pr14 hEi) (wqX11_122_kc_forgetPast hts ⟨Nat.le_of_ble_eq_true rfl, Nat.le_of_ble_eq_true rfl⟩) hw hS hA hK hZ hN 10 195 rfl kg195 rfl hl.1 rfl (Nat.le_of_ble_eq_true rfl) dX11_mark_83 86 rfl (fun u15 H locs pu15 hw hS => ?_)
            have ju15 : kJ u15 := pu15.1
            have fu15 : zFr [195] r14 u15 := pu15.2.1
            have xu15 : u15 = (Gk_forgetPast r14 q) := pu15.2.2.1
            have hE := zletE xu15 hE
            have hw : zPD D A (kW ct E y u15 q) H := hw
            refine zfr 86 [] rfl rfl ?_
            refine lv_iconst (v := 1) hx hb dX11_mark_86 (by decide) ?_
            exact ziretQ hQ hx hb hr rfl hlocks ((1 : Int32), u15) rfl ⟨((zI.lit (a := 1) (b := 1) (c := 1) (by decide)).w (c := 0) (d := 1) (by decide)), ju15, (hE.symm.trans hX), trivial⟩ hw hS dX11_mark_87
          · have hE := zifnF c10 hE
            have k17 : zI 0 0 (v9) := zI.eqq c10 (zI.lit (a := 0) (b := 0) (c := 0) (by decide))
            refine lv_iconst (v := 0) hx hb dX11_mark_47 (by decide) ?_
            exact ziretQ hQ hx hb hr rfl hlocks ((0 : Int32), r) rfl ⟨((zI.lit (a := 0) (b := 0) (c := 0) (by decide)).w (c := 0) (d := 1) (by decide)), hJ0, (hE.symm.trans hX), trivial⟩ hw hS dX11_mark_48
        · have hE := zifnF c7 hE
          have k18 : zI 0 0 (a2) := zI.eqq c7 (zI.lit (a := 0) (b := 0) (c := 0) (by decide))
          refine lv_aload_n hx hb dX11_mark_22 rfl (lv_at hl 0 rfl) ?_
          refine lv_aload_n hx hb dX11_mark_23 rfl (lv_at hl 1 rfl) ?_
          refine va_get (D := D) (ci := 10) (v := .ref (y 6)) hx hb hts hiX11 hown hK hw.1 195 kg195 rfl 8 (by decide) lf64 (fun _ h9 => h9) rfl dX11_mark_24 ?_
          refine lv_aload_n hx hb dX11_mark_27 rfl (lv_at hl 1 rfl) ?_
          refine va_get (D := D) (ci := 10) (v := .ref (y 138)) hx hb hts hiX11 hown hK hw.1 195 kg195 rfl 4 (by decide) lf36 (fun _ h9 => h9) rfl dX11_mark_28 ?_
          refine lv_aload_n hx hb dX11_mark_31 rfl (lv_at hl 1 rfl) ?_
          refine va_get (D := D) (ci := 10) (v := .ref (y 162)) hx hb hts hiX11 hown hK hw.1 195 kg195 rfl 10 (by decide) lf74 (fun _ h9 => h9) rfl dX11_mark_32 ?_
          refine kcallV (As := [.ref (y 6), .ref (y 138), .ref (y 162)]) (rest := []) ⟨hx, hb, hml, hown, hts⟩ (kc_markLay0 l D ct E y r q hJ0 hEi) (wqX11_229_kc_markLay0 hts ⟨Nat.le_of_ble_eq_true rfl, Nat.le_of_ble_eq_true rfl⟩) hw hS hA hK hZ hN 5 167 rfl kg167 rfl hl.1 rfl (Nat.le_of_ble_eq_true rfl) dX11_mark_35 38 rfl (fun u19 H locs pu19 hw hS => ?_)
          have ju19 : kJ u19 := pu19.1
          have xu19 : u19 = (Gk_markLay0 r q) := pu19.2.1
          have hE := zletE xu19 hE
          have hw : zPD D A (kW ct E y u19 q) H := hw
          refine zfr 38 [] rfl rfl ?_
          refine lv_iconst (v := 1) hx hb dX11_mark_38 (by decide) ?_
          exact ziretQ hQ hx hb hr rfl hlocks ((1 : Int32), u19) rfl ⟨((zI.lit (a := 1) (b := 1) (c := 1) (by decide)).w (c := 0) (d := 1) (by decide)), ju19, (hE.symm.trans hX), trivial⟩ hw hS dX11_mark_39
      · refine maald hx hb hK hw 206 5 kg206 rfl k5 (by decide) (y 168) (by rw [e6]) dX11_mark_16 ?_
        have hE := zifF (fun e9 => absurd (e6.symm.trans e9) (by decide)) hE
        have hE := zifT e6 hE
        refine lv_astore_n (lv' := [(3, .ref (y 168)), (0, .ref (y 195)), (1, .int a1), (2, .int a2)]) hx hb dX11_mark_17 rfl hl (by decide) rfl (fun ls hl => ?_)
        refine lv_iload_n hx hb dX11_mark_18 rfl (lv_at hl 3 rfl) ?_
        refine lv_if_ne (tgt := 40) hx hb dX11_mark_19 (by decide) (fun c21 => ?_) (fun c21 => ?_)
        · have hE := zifnT c21 hE
          have k22 : zI 1 1 (a2) := zI.neD c21 g2 (zI.lit (a := 0) (b := 0) (c := 0) (by decide)) (by decide)
          refine lv_aload_n hx hb dX11_mark_40 rfl (lv_at hl 0 rfl) ?_
          refine va_get (D := D) (ci := 5) (v := .int (r 168 3)) hx hb hts hiX5 hown hK hw.1 168 kg168 rfl 3 (by decide) lf125 (fun _ h9 => h9) rfl dX11_mark_41 (zgenE (lo := 0) (hi := 1) ((show zI 0 1 (r 168 3) from hJ0.i 168 3)) (fun v23 ev23 hv23 => ?_))
          have hE := zletE ev23 hE
          refine lv_if_ne (tgt := 49) hx hb dX11_mark_44 (by decide) (fun c24 => ?_) (fun c24 => ?_)
          · have hE := zifnT c24 hE
            have k25 : zI 1 1 (v23) := zI.neD c24 hv23 (zI.lit (a := 0) (b := 0) (c := 0) (by decide)) (by decide)
            refine lv_aload_n hx hb dX11_mark_49 rfl (lv_at hl 1 rfl) ?_
            refine va_get (D := D) (ci := 10) (v := .ref (y 6)) hx hb hts hiX11 hown hK hw.1 195 kg195 rfl 8 (by decide) lf64 (fun _ h9 => h9) rfl dX11_mark_50 ?_
            refine lv_aload_n hx hb dX11_mark_53 rfl (lv_at hl 0 rfl) ?_
            refine va_get (D := D) (ci := 5) (v := .ref (y 120)) hx hb hts hiX5 hown hK hw.1 168 kg168 rfl 0 (by decide) lf233 (fun _ h9 => h9) rfl dX11_mark_54 ?_
            refine kcallZ (As := [.ref (y 120)]) (rest := []) (kis8 6 120) (kis8l ⟨by decide, by decide⟩ ⟨by decide, by decide⟩) (kis8w ⟨by decide, by decide⟩ ⟨by decide, by decide⟩) ⟨hx, hb, hml, hown, hts⟩ (c_X8_copy l D ct (y 6) (y 120) (y (6 + 1)) (y (6 + 2)) (y (6 + 3)) (y (6 + 4)) (y (6 + 5)) (y (120 + 1)) (y (120 + 2)) (y (120 + 3)) (y (120 + 4)) (y (120 + 5)) (r (6 + 1)) (r (6 + 2)) (r (6 + 3)) (r (6 + 4)) (r (6 + 5)) (r (120 + 1)) (r (120 + 2)) (r (120 + 3)) (r (120 + 4)) (r (120 + 5)) (r 6 5) (r 120 5)) (cwV 1 hts (kgVm (zr35 20 rfl) (zr35 21 rfl) (zr35 22 rfl) (zr2 18 rfl) mL_X8_copy) rfl rfl rfl (by decide +kernel) ⟨Nat.le_of_ble_eq_true rfl, Nat.le_of_ble_eq_true rfl⟩) hw hS hA hK hN (kis8n ⟨by decide, by decide⟩ ⟨by decide, by decide⟩ (by decide)) 7 6 rfl (kis8o ⟨by decide, by decide⟩) rfl hl.1 rfl (Nat.le_of_ble_eq_true rfl) dX11_mark_57 60 rfl (kcp8 r 6 120) q (fun _ => kis8B ⟨by decide, by decide⟩ ⟨by decide, by decide⟩ (by decide)) kis8x (fun _ H locs _ hw hS => ?_)
            refine zfr 60 [] rfl rfl ?_
            refine cmgen (P := fun x => kJ x) hw (hJ0.copy8 ⟨by decide, by decide⟩ ⟨by decide, by decide⟩) (fun r26 er26 hw pr26 => ?_)
            have hE := zletE er26 hE
            refine lv_aload_n hx hb dX11_mark_60 rfl (lv_at hl 1 rfl) ?_
            refine va_get (D := D) (ci := 10) (v := .ref (y 138)) hx hb hts hiX11 hown hK hw.1 195 kg195 rfl 4 (by decide) lf36 (fun _ h9 => h9) rfl dX11_mark_61 ?_
            refine lv_aload_n hx hb dX11_mark_64 rfl (lv_at hl 0 rfl) ?_
            refine va_get (D := D) (ci := 5) (v := .ref (y 150)) hx hb hts hiX5 hown hK hw.1 168 kg168 rfl 1 (by decide) lf236 (fun _ h9 => h9) rfl dX11_mark_65 ?_
            have hix := (show zI 0 40 (r26 150 3) from pr26.i 150 3).ix (n := 41) (by decide)
            refine kcallZ (As := [.ref (y 150)]) (rest := []) (kis1 138 150) (kis1l ⟨by decide, by decide, by decide⟩ ⟨by decide, by decide, by decide⟩) (kis1w ⟨by decide, by decide, by decide⟩ ⟨by decide, by decide, by decide⟩ hix.1) ⟨hx, hb, hml, hown, hts⟩ (c_X1_copy l D ct (y 138) (y 150) (y (138 + 1)) (y (138 + 2)) (y (138 + 3)) (y (150 + 1)) (y (150 + 2)) (y (150 + 3)) (r26 (138 + 1)) (r26 (138 + 2)) (r26 (138 + 3)) (r26 (150 + 1)) (r26 (150 + 2)) (r26 (150 + 3)) (r26 138 3) (zn (r26 150 3)) (by have h9 := hix.2; omega)) (cwV 1 hts (kgVm (zr29 13 rfl) (zr29 14 rfl) (zr29 15 rfl) (zr2 5 rfl) mL_X1_copy) rfl rfl rfl (by decide +kernel) ⟨Nat.le_of_ble_eq_true rfl, Nat.le_of_ble_eq_true rfl⟩) hw hS hA hK hN (kis1n ⟨by decide, by decide, by decide⟩ ⟨by decide, by decide, by decide⟩ (by decide)) 1 138 rfl (kis1o ⟨by decide, by decide, by decide⟩) rfl hl.1 rfl (Nat.le_of_ble_eq_true rfl) dX11_mark_68 71 rfl (kcp1 r26 138 150) q (fun _ => kis1B ⟨by decide, by decide, by decide⟩ ⟨by decide, by decide, by decide⟩ (by decide) hix.1) kis1x (fun _ H locs _ hw hS => ?_)
            refine zfr 71 [] rfl rfl ?_
            refine cmgen (P := fun x => kJ x) hw (pr26.copy1 (by decide) (kG.L pr26 (by decide)) (show zI 0 40 (r26 150 3) from pr26.i 150 3)) (fun r27 er27 hw pr27 => ?_)
            have hE := zletE er27 hE
            refine lv_aload_n hx hb dX11_mark_71 rfl (lv_at hl 1 rfl) ?_
            refine va_get (D := D) (ci := 10) (v := .ref (y 162)) hx hb hts hiX11 hown hK hw.1 195 kg195 rfl 10 (by decide) lf74 (fun _ h9 => h9) rfl dX11_mark_72 ?_
            refine lv_aload_n hx hb dX11_mark_75 rfl (lv_at hl 0 rfl) ?_
            refine va_get (D := D) (ci := 5) (v := .ref (y 164)) hx hb hts hiX5 hown hK hw.1 168 kg168 rfl 2 (by decide) lf237 (fun _ h9 => h9) rfl dX11_mark_76 ?_
            refine kcallZ (As := [.ref (y 164)]) (rest := []) [162, 164] (by decide) rfl ⟨hx, hb, hml, hown, hts⟩ (c_X6_copy l D ct (y 162) (y 164) (r27 162 0) (r27 162 1) (r27 164 0) (r27 164 1)) (cwV 1 hts (kgVm (zr57 12 rfl) (zr57 9 rfl) (zr57 10 rfl) (zr2 23 rfl) mL_X6_copy) rfl rfl rfl (by decide +kernel) ⟨Nat.le_of_ble_eq_true rfl, Nat.le_of_ble_eq_true rfl⟩) hw hS hA hK hN rfl 6 162 rfl kg162 rfl hl.1 rfl (Nat.le_of_ble_eq_true rfl) dX11_mark_79 82 rfl (zset r27 162 (r27 164)) q (fun _ => rfl) kset2x (fun _ H locs _ hw hS => ?_)
            refine zfr 82 [] rfl rfl ?_
            refine cmgen (P := fun x => kJ x) hw (pr27.setr rfl (fun _ => zI.top _)) (fun r28 er28 hw pr28 => ?_)
            have hE := zletE er28 hE
            refine lv_aload_n hx hb dX11_mark_82 rfl (lv_at hl 1 rfl) ?_
            refine kcallV (As := []) (rest := []) ⟨hx, hb, hml, hown, hts⟩ (kc_forgetPast l D ct E y r28 q pr28 hEi) (wqX11_122_kc_forgetPast hts ⟨Nat.le_of_ble_eq_true rfl, Nat.le_of_ble_eq_true rfl⟩) hw hS hA hK hZ hN 10 195 rfl kg195 rfl hl.1 rfl (Nat.le_of_ble_eq_true rfl) dX11_mark_83 86 rfl (fun u29 H locs pu29 hw hS => ?_)
            have ju29 : kJ u29 := pu29.1
            have fu29 : zFr [195] r28 u29 := pu29.2.1
            have xu29 : u29 = (Gk_forgetPast r28 q) := pu29.2.2.1
            have hE := zletE xu29 hE
            have hw : zPD D A (kW ct E y u29 q) H := hw
            refine zfr 86 [] rfl rfl ?_
            refine lv_iconst (v := 1) hx hb dX11_mark_86 (by decide) ?_
            exact ziretQ hQ hx hb hr rfl hlocks ((1 : Int32), u29) rfl ⟨((zI.lit (a := 1) (b := 1) (c := 1) (by decide)).w (c := 0) (d := 1) (by decide)), ju29, (hE.symm.trans hX), trivial⟩ hw hS dX11_mark_87
          · have hE := zifnF c24 hE
            have k31 : zI 0 0 (v23) := zI.eqq c24 (zI.lit (a := 0) (b := 0) (c := 0) (by decide))
            refine lv_iconst (v := 0) hx hb dX11_mark_47 (by decide) ?_
            exact ziretQ hQ hx hb hr rfl hlocks ((0 : Int32), r) rfl ⟨((zI.lit (a := 0) (b := 0) (c := 0) (by decide)).w (c := 0) (d := 1) (by decide)), hJ0, (hE.symm.trans hX), trivial⟩ hw hS dX11_mark_48
        · have hE := zifnF c21 hE
          have k32 : zI 0 0 (a2) := zI.eqq c21 (zI.lit (a := 0) (b := 0) (c := 0) (by decide))
          refine lv_aload_n hx hb dX11_mark_22 rfl (lv_at hl 0 rfl) ?_
          refine lv_aload_n hx hb dX11_mark_23 rfl (lv_at hl 1 rfl) ?_
          refine va_get (D := D) (ci := 10) (v := .ref (y 6)) hx hb hts hiX11 hown hK hw.1 195 kg195 rfl 8 (by decide) lf64 (fun _ h9 => h9) rfl dX11_mark_24 ?_
          refine lv_aload_n hx hb dX11_mark_27 rfl (lv_at hl 1 rfl) ?_
          refine va_get (D := D) (ci := 10) (v := .ref (y 138)) hx hb hts hiX11 hown hK hw.1 195 kg195 rfl 4 (by decide) lf36 (fun _ h9 => h9) rfl dX11_mark_28 ?_
          refine lv_aload_n hx hb dX11_mark_31 rfl (lv_at hl 1 rfl) ?_
          refine va_get (D := D) (ci := 10) (v := .ref (y 162)) hx hb hts hiX11 hown hK hw.1 195 kg195 rfl 10 (by decide) lf74 (fun _ h9 => h9) rfl dX11_mark_32 ?_
          refine kcallV (As := [.ref (y 6), .ref (y 138), .ref (y 162)]) (rest := []) ⟨hx, hb, hml, hown, hts⟩ (kc_markLay1 l D ct E y r q hJ0 hEi) (wqX11_229_kc_markLay1 hts ⟨Nat.le_of_ble_eq_true rfl, Nat.le_of_ble_eq_true rfl⟩) hw hS hA hK hZ hN 5 168 rfl kg168 rfl hl.1 rfl (Nat.le_of_ble_eq_true rfl) dX11_mark_35 38 rfl (fun u33 H locs pu33 hw hS => ?_)
          have ju33 : kJ u33 := pu33.1
          have xu33 : u33 = (Gk_markLay1 r q) := pu33.2.1
          have hE := zletE xu33 hE
          have hw : zPD D A (kW ct E y u33 q) H := hw
          refine zfr 38 [] rfl rfl ?_
          refine lv_iconst (v := 1) hx hb dX11_mark_38 (by decide) ?_
          exact ziretQ hQ hx hb hr rfl hlocks ((1 : Int32), u33) rfl ⟨((zI.lit (a := 1) (b := 1) (c := 1) (by decide)).w (c := 0) (d := 1) (by decide)), ju33, (hE.symm.trans hX), trivial⟩ hw hS dX11_mark_39
      · refine maald hx hb hK hw 206 5 kg206 rfl k5 (by decide) (y 169) (by rw [e6]) dX11_mark_16 ?_
        have hE := zifF (fun e9 => absurd (e6.symm.trans e9) (by decide)) hE
        have hE := zifF (fun e9 => absurd (e6.symm.trans e9) (by decide)) hE
        have hE := zifT e6 hE
        refine lv_astore_n (lv' := [(3, .ref (y 169)), (0, .ref (y 195)), (1, .int a1), (2, .int a2)]) hx hb dX11_mark_17 rfl hl (by decide) rfl (fun ls hl => ?_)
        refine lv_iload_n hx hb dX11_mark_18 rfl (lv_at hl 3 rfl) ?_
        refine lv_if_ne (tgt := 40) hx hb dX11_mark_19 (by decide) (fun c35 => ?_) (fun c35 => ?_)
        · have hE := zifnT c35 hE
          have k36 : zI 1 1 (a2) := zI.neD c35 g2 (zI.lit (a := 0) (b := 0) (c := 0) (by decide)) (by decide)
          refine lv_aload_n hx hb dX11_mark_40 rfl (lv_at hl 0 rfl) ?_
          refine va_get (D := D) (ci := 5) (v := .int (r 169 3)) hx hb hts hiX5 hown hK hw.1 169 kg169 rfl 3 (by decide) lf125 (fun _ h9 => h9) rfl dX11_mark_41 (zgenE (lo := 0) (hi := 1) ((show zI 0 1 (r 169 3) from hJ0.i 169 3)) (fun v37 ev37 hv37 => ?_))
          have hE := zletE ev37 hE
          refine lv_if_ne (tgt := 49) hx hb dX11_mark_44 (by decide) (fun c38 => ?_) (fun c38 => ?_)
          · have hE := zifnT c38 hE
            have k39 : zI 1 1 (v37) := zI.neD c38 hv37 (zI.lit (a := 0) (b := 0) (c := 0) (by decide)) (by decide)
            refine lv_aload_n hx hb dX11_mark_49 rfl (lv_at hl 1 rfl) ?_
            refine va_get (D := D) (ci := 10) (v := .ref (y 6)) hx hb hts hiX11 hown hK hw.1 195 kg195 rfl 8 (by decide) lf64 (fun _ h9 => h9) rfl dX11_mark_50 ?_
            refine lv_aload_n hx hb dX11_mark_53 rfl (lv_at hl 0 rfl) ?_
            refine va_get (D := D) (ci := 5) (v := .ref (y 126)) hx hb hts hiX5 hown hK hw.1 169 kg169 rfl 0 (by decide) lf233 (fun _ h9 => h9) rfl dX11_mark_54 ?_
            refine kcallZ (As := [.ref (y 126)]) (rest := []) (kis8 6 126) (kis8l ⟨by decide, by decide⟩ ⟨by decide, by decide⟩) (kis8w ⟨by decide, by decide⟩ ⟨by decide, by decide⟩) ⟨hx, hb, hml, hown, hts⟩ (c_X8_copy l D ct (y 6) (y 126) (y (6 + 1)) (y (6 + 2)) (y (6 + 3)) (y (6 + 4)) (y (6 + 5)) (y (126 + 1)) (y (126 + 2)) (y (126 + 3)) (y (126 + 4)) (y (126 + 5)) (r (6 + 1)) (r (6 + 2)) (r (6 + 3)) (r (6 + 4)) (r (6 + 5)) (r (126 + 1)) (r (126 + 2)) (r (126 + 3)) (r (126 + 4)) (r (126 + 5)) (r 6 5) (r 126 5)) (cwV 1 hts (kgVm (zr35 20 rfl) (zr35 21 rfl) (zr35 22 rfl) (zr2 18 rfl) mL_X8_copy) rfl rfl rfl (by decide +kernel) ⟨Nat.le_of_ble_eq_true rfl, Nat.le_of_ble_eq_true rfl⟩) hw hS hA hK hN (kis8n ⟨by decide, by decide⟩ ⟨by decide, by decide⟩ (by decide)) 7 6 rfl (kis8o ⟨by decide, by decide⟩) rfl hl.1 rfl (Nat.le_of_ble_eq_true rfl) dX11_mark_57 60 rfl (kcp8 r 6 126) q (fun _ => kis8B ⟨by decide, by decide⟩ ⟨by decide, by decide⟩ (by decide)) kis8x (fun _ H locs _ hw hS => ?_)
            refine zfr 60 [] rfl rfl ?_
            refine cmgen (P := fun x => kJ x) hw (hJ0.copy8 ⟨by decide, by decide⟩ ⟨by decide, by decide⟩) (fun r40 er40 hw pr40 => ?_)
            have hE := zletE er40 hE
            refine lv_aload_n hx hb dX11_mark_60 rfl (lv_at hl 1 rfl) ?_
            refine va_get (D := D) (ci := 10) (v := .ref (y 138)) hx hb hts hiX11 hown hK hw.1 195 kg195 rfl 4 (by decide) lf36 (fun _ h9 => h9) rfl dX11_mark_61 ?_
            refine lv_aload_n hx hb dX11_mark_64 rfl (lv_at hl 0 rfl) ?_
            refine va_get (D := D) (ci := 5) (v := .ref (y 154)) hx hb hts hiX5 hown hK hw.1 169 kg169 rfl 1 (by decide) lf236 (fun _ h9 => h9) rfl dX11_mark_65 ?_
            have hix := (show zI 0 40 (r40 154 3) from pr40.i 154 3).ix (n := 41) (by decide)
            refine kcallZ (As := [.ref (y 154)]) (rest := []) (kis1 138 154) (kis1l ⟨by decide, by decide, by decide⟩ ⟨by decide, by decide, by decide⟩) (kis1w ⟨by decide, by decide, by decide⟩ ⟨by decide, by decide, by decide⟩ hix.1) ⟨hx, hb, hml, hown, hts⟩ (c_X1_copy l D ct (y 138) (y 154) (y (138 + 1)) (y (138 + 2)) (y (138 + 3)) (y (154 + 1)) (y (154 + 2)) (y (154 + 3)) (r40 (138 + 1)) (r40 (138 + 2)) (r40 (138 + 3)) (r40 (154 + 1)) (r40 (154 + 2)) (r40 (154 + 3)) (r40 138 3) (zn (r40 154 3)) (by have h9 := hix.2; omega)) (cwV 1 hts (kgVm (zr29 13 rfl) (zr29 14 rfl) (zr29 15 rfl) (zr2 5 rfl) mL_X1_copy) rfl rfl rfl (by decide +kernel) ⟨Nat.le_of_ble_eq_true rfl, Nat.le_of_ble_eq_true rfl⟩) hw hS hA hK hN (kis1n ⟨by decide, by decide, by decide⟩ ⟨by decide, by decide, by decide⟩ (by decide)) 1 138 rfl (kis1o ⟨by decide, by decide, by decide⟩) rfl hl.1 rfl (Nat.le_of_ble_eq_true rfl) dX11_mark_68 71 rfl (kcp1 r40 138 154) q (fun _ => kis1B ⟨by decide, by decide, by decide⟩ ⟨by decide, by decide, by decide⟩ (by decide) hix.1) kis1x (fun _ H locs _ hw hS => ?_)
            refine zfr 71 [] rfl rfl ?_
            refine cmgen (P := fun x => kJ x) hw (pr40.copy1 (by decide) (kG.L pr40 (by decide)) (show zI 0 40 (r40 154 3) from pr40.i 154 3)) (fun r41 er41 hw pr41 => ?_)
            have hE := zletE er41 hE
            refine lv_aload_n hx hb dX11_mark_71 rfl (lv_at hl 1 rfl) ?_
            refine va_get (D := D) (ci := 10) (v := .ref (y 162)) hx hb hts hiX11 hown hK hw.1 195 kg195 rfl 10 (by decide) lf74 (fun _ h9 => h9) rfl dX11_mark_72 ?_
            refine lv_aload_n hx hb dX11_mark_75 rfl (lv_at hl 0 rfl) ?_
            refine va_get (D := D) (ci := 5) (v := .ref (y 165)) hx hb hts hiX5 hown hK hw.1 169 kg169 rfl 2 (by decide) lf237 (fun _ h9 => h9) rfl dX11_mark_76 ?_
            refine kcallZ (As := [.ref (y 165)]) (rest := []) [162, 165] (by decide) rfl ⟨hx, hb, hml, hown, hts⟩ (c_X6_copy l D ct (y 162) (y 165) (r41 162 0) (r41 162 1) (r41 165 0) (r41 165 1)) (cwV 1 hts (kgVm (zr57 12 rfl) (zr57 9 rfl) (zr57 10 rfl) (zr2 23 rfl) mL_X6_copy) rfl rfl rfl (by decide +kernel) ⟨Nat.le_of_ble_eq_true rfl, Nat.le_of_ble_eq_true rfl⟩) hw hS hA hK hN rfl 6 162 rfl kg162 rfl hl.1 rfl (Nat.le_of_ble_eq_true rfl) dX11_mark_79 82 rfl (zset r41 162 (r41 165)) q (fun _ => rfl) kset2x (fun _ H locs _ hw hS => ?_)
            refine zfr 82 [] rfl rfl ?_
            refine cmgen (P := fun x => kJ x) hw (pr41.setr rfl (fun _ => zI.top _)) (fun r42 er42 hw pr42 => ?_)
            have hE := zletE er42 hE
            refine lv_aload_n hx hb dX11_mark_82 rfl (lv_at hl 1 rfl) ?_
            refine kcallV (As := []) (rest := []) ⟨hx, hb, hml, hown, hts⟩ (kc_forgetPast l D ct E y r42 q pr42 hEi) (wqX11_122_kc_forgetPast hts ⟨Nat.le_of_ble_eq_true rfl, Nat.le_of_ble_eq_true rfl⟩) hw hS hA hK hZ hN 10 195 rfl kg195 rfl hl.1 rfl (Nat.le_of_ble_eq_true rfl) dX11_mark_83 86 rfl (fun u43 H locs pu43 hw hS => ?_)
            have ju43 : kJ u43 := pu43.1
            have fu43 : zFr [195] r42 u43 := pu43.2.1
            have xu43 : u43 = (Gk_forgetPast r42 q) := pu43.2.2.1
            have hE := zletE xu43 hE
            have hw : zPD D A (kW ct E y u43 q) H := hw
            refine zfr 86 [] rfl rfl ?_
            refine lv_iconst (v := 1) hx hb dX11_mark_86 (by decide) ?_
            exact ziretQ hQ hx hb hr rfl hlocks ((1 : Int32), u43) rfl ⟨((zI.lit (a := 1) (b := 1) (c := 1) (by decide)).w (c := 0) (d := 1) (by decide)), ju43, (hE.symm.trans hX), trivial⟩ hw hS dX11_mark_87
          · have hE := zifnF c38 hE
            have k45 : zI 0 0 (v37) := zI.eqq c38 (zI.lit (a := 0) (b := 0) (c := 0) (by decide))
            refine lv_iconst (v := 0) hx hb dX11_mark_47 (by decide) ?_
            exact ziretQ hQ hx hb hr rfl hlocks ((0 : Int32), r) rfl ⟨((zI.lit (a := 0) (b := 0) (c := 0) (by decide)).w (c := 0) (d := 1) (by decide)), hJ0, (hE.symm.trans hX), trivial⟩ hw hS dX11_mark_48
        · have hE := zifnF c35 hE
          have k46 : zI 0 0 (a2) := zI.eqq c35 (zI.lit (a := 0) (b := 0) (c := 0) (by decide))
          refine lv_aload_n hx hb dX11_mark_22 rfl (lv_at hl 0 rfl) ?_
          refine lv_aload_n hx hb dX11_mark_23 rfl (lv_at hl 1 rfl) ?_
          refine va_get (D := D) (ci := 10) (v := .ref (y 6)) hx hb hts hiX11 hown hK hw.1 195 kg195 rfl 8 (by decide) lf64 (fun _ h9 => h9) rfl dX11_mark_24 ?_
          refine lv_aload_n hx hb dX11_mark_27 rfl (lv_at hl 1 rfl) ?_
          refine va_get (D := D) (ci := 10) (v := .ref (y 138)) hx hb hts hiX11 hown hK hw.1 195 kg195 rfl 4 (by decide) lf36 (fun _ h9 => h9) rfl dX11_mark_28 ?_
          refine lv_aload_n hx hb dX11_mark_31 rfl (lv_at hl 1 rfl) ?_
          refine va_get (D := D) (ci := 10) (v := .ref (y 162)) hx hb hts hiX11 hown hK hw.1 195 kg195 rfl 10 (by decide) lf74 (fun _ h9 => h9) rfl dX11_mark_32 ?_
          refine kcallV (As := [.ref (y 6), .ref (y 138), .ref (y 162)]) (rest := []) ⟨hx, hb, hml, hown, hts⟩ (kc_markLay2 l D ct E y r q hJ0 hEi) (wqX11_229_kc_markLay2 hts ⟨Nat.le_of_ble_eq_true rfl, Nat.le_of_ble_eq_true rfl⟩) hw hS hA hK hZ hN 5 169 rfl kg169 rfl hl.1 rfl (Nat.le_of_ble_eq_true rfl) dX11_mark_35 38 rfl (fun u47 H locs pu47 hw hS => ?_)
          have ju47 : kJ u47 := pu47.1
          have xu47 : u47 = (Gk_markLay2 r q) := pu47.2.1
          have hE := zletE xu47 hE
          have hw : zPD D A (kW ct E y u47 q) H := hw
          refine zfr 38 [] rfl rfl ?_
          refine lv_iconst (v := 1) hx hb dX11_mark_38 (by decide) ?_
          exact ziretQ hQ hx hb hr rfl hlocks ((1 : Int32), u47) rfl ⟨((zI.lit (a := 1) (b := 1) (c := 1) (by decide)).w (c := 0) (d := 1) (by decide)), ju47, (hE.symm.trans hX), trivial⟩ hw hS dX11_mark_39
      · refine maald hx hb hK hw 206 5 kg206 rfl k5 (by decide) (y 170) (by rw [e6]) dX11_mark_16 ?_
        have hE := zifF (fun e9 => absurd (e6.symm.trans e9) (by decide)) hE
        have hE := zifF (fun e9 => absurd (e6.symm.trans e9) (by decide)) hE
        have hE := zifF (fun e9 => absurd (e6.symm.trans e9) (by decide)) hE
        have hE := zifT e6 hE
        refine lv_astore_n (lv' := [(3, .ref (y 170)), (0, .ref (y 195)), (1, .int a1), (2, .int a2)]) hx hb dX11_mark_17 rfl hl (by decide) rfl (fun ls hl => ?_)
        refine lv_iload_n hx hb dX11_mark_18 rfl (lv_at hl 3 rfl) ?_
        refine lv_if_ne (tgt := 40) hx hb dX11_mark_19 (by decide) (fun c49 => ?_) (fun c49 => ?_)
        · have hE := zifnT c49 hE
          have k50 : zI 1 1 (a2) := zI.neD c49 g2 (zI.lit (a := 0) (b := 0) (c := 0) (by decide)) (by decide)
          refine lv_aload_n hx hb dX11_mark_40 rfl (lv_at hl 0 rfl) ?_
          refine va_get (D := D) (ci := 5) (v := .int (r 170 3)) hx hb hts hiX5 hown hK hw.1 170 kg170 rfl 3 (by decide) lf125 (fun _ h9 => h9) rfl dX11_mark_41 (zgenE (lo := 0) (hi := 1) ((show zI 0 1 (r 170 3) from hJ0.i 170 3)) (fun v51 ev51 hv51 => ?_))
          have hE := zletE ev51 hE
          refine lv_if_ne (tgt := 49) hx hb dX11_mark_44 (by decide) (fun c52 => ?_) (fun c52 => ?_)
          · have hE := zifnT c52 hE
            have k53 : zI 1 1 (v51) := zI.neD c52 hv51 (zI.lit (a := 0) (b := 0) (c := 0) (by decide)) (by decide)
            refine lv_aload_n hx hb dX11_mark_49 rfl (lv_at hl 1 rfl) ?_
            refine va_get (D := D) (ci := 10) (v := .ref (y 6)) hx hb hts hiX11 hown hK hw.1 195 kg195 rfl 8 (by decide) lf64 (fun _ h9 => h9) rfl dX11_mark_50 ?_
            refine lv_aload_n hx hb dX11_mark_53 rfl (lv_at hl 0 rfl) ?_
            refine va_get (D := D) (ci := 5) (v := .ref (y 132)) hx hb hts hiX5 hown hK hw.1 170 kg170 rfl 0 (by decide) lf233 (fun _ h9 => h9) rfl dX11_mark_54 ?_
            refine kcallZ (As := [.ref (y 132)]) (rest := []) (kis8 6 132) (kis8l ⟨by decide, by decide⟩ ⟨by decide, by decide⟩) (kis8w ⟨by decide, by decide⟩ ⟨by decide, by decide⟩) ⟨hx, hb, hml, hown, hts⟩ (c_X8_copy l D ct (y 6) (y 132) (y (6 + 1)) (y (6 + 2)) (y (6 + 3)) (y (6 + 4)) (y (6 + 5)) (y (132 + 1)) (y (132 + 2)) (y (132 + 3)) (y (132 + 4)) (y (132 + 5)) (r (6 + 1)) (r (6 + 2)) (r (6 + 3)) (r (6 + 4)) (r (6 + 5)) (r (132 + 1)) (r (132 + 2)) (r (132 + 3)) (r (132 + 4)) (r (132 + 5)) (r 6 5) (r 132 5)) (cwV 1 hts (kgVm (zr35 20 rfl) (zr35 21 rfl) (zr35 22 rfl) (zr2 18 rfl) mL_X8_copy) rfl rfl rfl (by decide +kernel) ⟨Nat.le_of_ble_eq_true rfl, Nat.le_of_ble_eq_true rfl⟩) hw hS hA hK hN (kis8n ⟨by decide, by decide⟩ ⟨by decide, by decide⟩ (by decide)) 7 6 rfl (kis8o ⟨by decide, by decide⟩) rfl hl.1 rfl (Nat.le_of_ble_eq_true rfl) dX11_mark_57 60 rfl (kcp8 r 6 132) q (fun _ => kis8B ⟨by decide, by decide⟩ ⟨by decide, by decide⟩ (by decide)) kis8x (fun _ H locs _ hw hS => ?_)
            refine zfr 60 [] rfl rfl ?_
            refine cmgen (P := fun x => kJ x) hw (hJ0.copy8 ⟨by decide, by decide⟩ ⟨by decide, by decide⟩) (fun r54 er54 hw pr54 => ?_)
            have hE := zletE er54 hE
            refine lv_aload_n hx hb dX11_mark_60 rfl (lv_at hl 1 rfl) ?_
            refine va_get (D := D) (ci := 10) (v := .ref (y 138)) hx hb hts hiX11 hown hK hw.1 195 kg195 rfl 4 (by decide) lf36 (fun _ h9 => h9) rfl dX11_mark_61 ?_
            refine lv_aload_n hx hb dX11_mark_64 rfl (lv_at hl 0 rfl) ?_
            refine va_get (D := D) (ci := 5) (v := .ref (y 158)) hx hb hts hiX5 hown hK hw.1 170 kg170 rfl 1 (by decide) lf236 (fun _ h9 => h9) rfl dX11_mark_65 ?_
            have hix := (show zI 0 40 (r54 158 3) from pr54.i 158 3).ix (n := 41) (by decide)
            refine kcallZ (As := [.ref (y 158)]) (rest := []) (kis1 138 158) (kis1l ⟨by decide, by decide, by decide⟩ ⟨by decide, by decide, by decide⟩) (kis1w ⟨by decide, by decide, by decide⟩ ⟨by decide, by decide, by decide⟩ hix.1) ⟨hx, hb, hml, hown, hts⟩ (c_X1_copy l D ct (y 138) (y 158) (y (138 + 1)) (y (138 + 2)) (y (138 + 3)) (y (158 + 1)) (y (158 + 2)) (y (158 + 3)) (r54 (138 + 1)) (r54 (138 + 2)) (r54 (138 + 3)) (r54 (158 + 1)) (r54 (158 + 2)) (r54 (158 + 3)) (r54 138 3) (zn (r54 158 3)) (by have h9 := hix.2; omega)) (cwV 1 hts (kgVm (zr29 13 rfl) (zr29 14 rfl) (zr29 15 rfl) (zr2 5 rfl) mL_X1_copy) rfl rfl rfl (by decide +kernel) ⟨Nat.le_of_ble_eq_true rfl, Nat.le_of_ble_eq_true rfl⟩) hw hS hA hK hN (kis1n ⟨by decide, by decide, by decide⟩ ⟨by decide, by decide, by decide⟩ (by decide)) 1 138 rfl (kis1o ⟨by decide, by decide, by decide⟩) rfl hl.1 rfl (Nat.le_of_ble_eq_true rfl) dX11_mark_68 71 rfl (kcp1 r54 138 158) q (fun _ => kis1B ⟨by decide, by decide, by decide⟩ ⟨by decide, by decide, by decide⟩ (by decide) hix.1) kis1x (fun _ H locs _ hw hS => ?_)
            refine zfr 71 [] rfl rfl ?_
            refine cmgen (P := fun x => kJ x) hw (pr54.copy1 (by decide) (kG.L pr54 (by decide)) (show zI 0 40 (r54 158 3) from pr54.i 158 3)) (fun r55 er55 hw pr55 => ?_)
            have hE := zletE er55 hE
            refine lv_aload_n hx hb dX11_mark_71 rfl (lv_at hl 1 rfl) ?_
            refine va_get (D := D) (ci := 10) (v := .ref (y 162)) hx hb hts hiX11 hown hK hw.1 195 kg195 rfl 10 (by decide) lf74 (fun _ h9 => h9) rfl dX11_mark_72 ?_
            refine lv_aload_n hx hb dX11_mark_75 rfl (lv_at hl 0 rfl) ?_
            refine va_get (D := D) (ci := 5) (v := .ref (y 166)) hx hb hts hiX5 hown hK hw.1 170 kg170 rfl 2 (by decide) lf237 (fun _ h9 => h9) rfl dX11_mark_76 ?_
            refine kcallZ (As := [.ref (y 166)]) (rest := []) [162, 166] (by decide) rfl ⟨hx, hb, hml, hown, hts⟩ (c_X6_copy l D ct (y 162) (y 166) (r55 162 0) (r55 162 1) (r55 166 0) (r55 166 1)) (cwV 1 hts (kgVm (zr57 12 rfl) (zr57 9 rfl) (zr57 10 rfl) (zr2 23 rfl) mL_X6_copy) rfl rfl rfl (by decide +kernel) ⟨Nat.le_of_ble_eq_true rfl, Nat.le_of_ble_eq_true rfl⟩) hw hS hA hK hN rfl 6 162 rfl kg162 rfl hl.1 rfl (Nat.le_of_ble_eq_true rfl) dX11_mark_79 82 rfl (zset r55 162 (r55 166)) q (fun _ => rfl) kset2x (fun _ H locs _ hw hS => ?_)
            refine zfr 82 [] rfl rfl ?_
            refine cmgen (P := fun x => kJ x) hw (pr55.setr rfl (fun _ => zI.top _)) (fun r56 er56 hw pr56 => ?_)
            have hE := zletE er56 hE
            refine lv_aload_n hx hb dX11_mark_82 rfl (lv_at hl 1 rfl) ?_
            refine kcallV (As := []) (rest := []) ⟨hx, hb, hml, hown, hts⟩ (kc_forgetPast l D ct E y r56 q pr56 hEi) (wqX11_122_kc_forgetPast hts ⟨Nat.le_of_ble_eq_true rfl, Nat.le_of_ble_eq_true rfl⟩) hw hS hA hK hZ hN 10 195 rfl kg195 rfl hl.1 rfl (Nat.le_of_ble_eq_true rfl) dX11_mark_83 86 rfl (fun u57 H locs pu57 hw hS => ?_)
            have ju57 : kJ u57 := pu57.1
            have fu57 : zFr [195] r56 u57 := pu57.2.1
            have xu57 : u57 = (Gk_forgetPast r56 q) := pu57.2.2.1
            have hE := zletE xu57 hE
            have hw : zPD D A (kW ct E y u57 q) H := hw
            refine zfr 86 [] rfl rfl ?_
            refine lv_iconst (v := 1) hx hb dX11_mark_86 (by decide) ?_
            exact ziretQ hQ hx hb hr rfl hlocks ((1 : Int32), u57) rfl ⟨((zI.lit (a := 1) (b := 1) (c := 1) (by decide)).w (c := 0) (d := 1) (by decide)), ju57, (hE.symm.trans hX), trivial⟩ hw hS dX11_mark_87
          · have hE := zifnF c52 hE
            have k59 : zI 0 0 (v51) := zI.eqq c52 (zI.lit (a := 0) (b := 0) (c := 0) (by decide))
            refine lv_iconst (v := 0) hx hb dX11_mark_47 (by decide) ?_
            exact ziretQ hQ hx hb hr rfl hlocks ((0 : Int32), r) rfl ⟨((zI.lit (a := 0) (b := 0) (c := 0) (by decide)).w (c := 0) (d := 1) (by decide)), hJ0, (hE.symm.trans hX), trivial⟩ hw hS dX11_mark_48
        · have hE := zifnF c49 hE
          have k60 : zI 0 0 (a2) := zI.eqq c49 (zI.lit (a := 0) (b := 0) (c := 0) (by decide))
          refine lv_aload_n hx hb dX11_mark_22 rfl (lv_at hl 0 rfl) ?_
          refine lv_aload_n hx hb dX11_mark_23 rfl (lv_at hl 1 rfl) ?_
          refine va_get (D := D) (ci := 10) (v := .ref (y 6)) hx hb hts hiX11 hown hK hw.1 195 kg195 rfl 8 (by decide) lf64 (fun _ h9 => h9) rfl dX11_mark_24 ?_
          refine lv_aload_n hx hb dX11_mark_27 rfl (lv_at hl 1 rfl) ?_
          refine va_get (D := D) (ci := 10) (v := .ref (y 138)) hx hb hts hiX11 hown hK hw.1 195 kg195 rfl 4 (by decide) lf36 (fun _ h9 => h9) rfl dX11_mark_28 ?_
          refine lv_aload_n hx hb dX11_mark_31 rfl (lv_at hl 1 rfl) ?_
          refine va_get (D := D) (ci := 10) (v := .ref (y 162)) hx hb hts hiX11 hown hK hw.1 195 kg195 rfl 10 (by decide) lf74 (fun _ h9 => h9) rfl dX11_mark_32 ?_
          refine kcallV (As := [.ref (y 6), .ref (y 138), .ref (y 162)]) (rest := []) ⟨hx, hb, hml, hown, hts⟩ (kc_markLay3 l D ct E y r q hJ0 hEi) (wqX11_229_kc_markLay3 hts ⟨Nat.le_of_ble_eq_true rfl, Nat.le_of_ble_eq_true rfl⟩) hw hS hA hK hZ hN 5 170 rfl kg170 rfl hl.1 rfl (Nat.le_of_ble_eq_true rfl) dX11_mark_35 38 rfl (fun u61 H locs pu61 hw hS => ?_)
          have ju61 : kJ u61 := pu61.1
          have xu61 : u61 = (Gk_markLay3 r q) := pu61.2.1
          have hE := zletE xu61 hE
          have hw : zPD D A (kW ct E y u61 q) H := hw
          refine zfr 38 [] rfl rfl ?_
          refine lv_iconst (v := 1) hx hb dX11_mark_38 (by decide) ?_
          exact ziretQ hQ hx hb hr rfl hlocks ((1 : Int32), u61) rfl ⟨((zI.lit (a := 1) (b := 1) (c := 1) (by decide)).w (c := 0) (d := 1) (by decide)), ju61, (hE.symm.trans hX), trivial⟩ hw hS dX11_mark_39
    · have hE := zifF c4 hE
      have k63 : zI 4 2147483647 (a1) := zI.leD (zI.nlt c4) (zI.lit (a := 4) (b := 4) (c := 4) (by decide)) k3 (by decide)
      refine lv_iconst (v := 0) hx hb dX11_mark_9 (by decide) ?_
      exact ziretQ hQ hx hb hr rfl hlocks ((0 : Int32), r) rfl ⟨((zI.lit (a := 0) (b := 0) (c := 0) (by decide)).w (c := 0) (d := 1) (by decide)), hJ0, (hE.symm.trans hX), trivial⟩ hw hS dX11_mark_10

set_option maxHeartbeats 4000000 in
set_option maxRecDepth 100000 in
theorem kc_goesTo (l : Launch) (D : va_G) (ct : Nat → ClassId) (E : Nat → Nat) (y : Nat → Nat) (a1 : Int32) (r : zRr) (q : zRq) (g1 : zI 0 39 a1) (hJ0 : kJ r) (hEi : kEi E) : cC l yX1_goesTo (.code yX1_goesTo cX1_goesTo 2 (some .int) :: wsL_law0) ({ frames := 1, cells := 0, slots := 0, locals := 80 }) D ct E [.ref (y 138), .int a1] (kW ct E y r q) (S := Int32) (fun u => some (.int u)) (fun u => zI (-1) 5 u ∧ (u = kgt r a1) ∧ True) (fun u => kW ct E y r q) := by
  refine cofQ cX1_goesTo 2 (some .int) (by decide) rfl (Nat.le_of_ble_eq_true rfl) ?_
  intro p e s m below meth c A a9 Q ha9 hx hb hr hml hts hown hlocks hname hK hA hZ hN hQ
  have hown : s.vm.findClass RX1 = some m.cls := hown
  have hiX1 : ∀ w ∈ wsX10, w ∈ .code yX1_goesTo cX1_goesTo 2 (some .int) :: wsL_law0 := fun _ h => ki (zs_wsX10 _ h)
  have lf9 := hts (.fieldLink RX1 9 "BeardPass$Journey" "deeds" "[I") (ki (zr5 17 rfl))
  have lf18 := hts (.fieldLink RX1 18 "BeardPass$Journey" "objects" "[I") (ki (zr5 19 rfl))
  intro H locs hw hS ls hl
  have hl : lv_has ls 2 [(0, .ref (y 138)), (1, .int a1)] := hl
  refine lv_aload_n hx hb dX1_goesTo_0 rfl (lv_at hl 0 rfl) ?_
  refine va_get (D := D) (ci := 1) (v := .ref (y 139)) hx hb hts hiX1 hown hK hw.1 138 kg138 rfl 0 (by decide) lf9 (fun _ h9 => h9) rfl dX1_goesTo_1 ?_
  refine lv_iload_n hx hb dX1_goesTo_4 rfl (lv_at hl 1 rfl) ?_
  refine miald hx hb hK hw 139 kg139 g1 (by decide) dX1_goesTo_5 ?_
  refine lv_if_ne (tgt := 18) hx hb dX1_goesTo_6 (by decide) (fun c1 => ?_) (fun c1 => ?_)
  · refine lv_iconst (v := (-1)) hx hb dX1_goesTo_18 (by decide) ?_
    exact ziretQ hQ hx hb hr rfl hlocks ((-1) : Int32) rfl ⟨((zI.lit (a := (-1)) (b := (-1)) (c := (-1)) (by decide)).w (c := (-1)) (d := 5) (by decide)), (show ((-1) : Int32) = kgt r a1 from (kgt_1 c1)), trivial⟩ hw hS dX1_goesTo_19
  · have k2 : zI 0 0 (r 139 (zn a1)) := zI.eqq c1 (zI.lit (a := 0) (b := 0) (c := 0) (by decide))
    refine lv_aload_n hx hb dX1_goesTo_9 rfl (lv_at hl 0 rfl) ?_
    refine va_get (D := D) (ci := 1) (v := .ref (y 141)) hx hb hts hiX1 hown hK hw.1 138 kg138 rfl 2 (by decide) lf18 (fun _ h9 => h9) rfl dX1_goesTo_10 ?_
    refine lv_iload_n hx hb dX1_goesTo_13 rfl (lv_at hl 1 rfl) ?_
    refine miald hx hb hK hw 141 kg141 g1 (by decide) dX1_goesTo_14 ?_
    have k3 : zI 0 5 (r 141 (zn a1)) := (hJ0.2.2.2.1 (zn a1) c1)
    refine lv_goto (tgt := 19) hx hb dX1_goesTo_15 (by decide) ?_
    exact ziretQ hQ hx hb hr rfl hlocks (r 141 (zn a1)) rfl ⟨(k3.w (c := (-1)) (d := 5) (by decide)), (show (r 141 (zn a1)) = kgt r a1 from (kgt_0 c1)), trivial⟩ hw hS dX1_goesTo_19

set_option maxHeartbeats 4000000 in
set_option maxRecDepth 100000 in
theorem kc_perform (l : Launch) (D : va_G) (ct : Nat → ClassId) (E : Nat → Nat) (y : Nat → Nat) (a1 : Int32) (r : zRr) (q : zRq) (g1 : zI 0 39 a1) (hJ0 : kJ r) (hEi : kEi E) : cC l yX1_perform (.code yX1_perform cX1_perform 6 (some .boolean) :: wsL_law0) ({ frames := 7, cells := 0, slots := 0, locals := 320 }) D ct E [.ref (y 138), .int a1, .ref (y 199), .ref (y 12)] (kW ct E y r q) (S := Int32 × zRr) (fun u => some (.int u.1)) (fun u => zI 0 1 u.1 ∧ kJ u.2 ∧ zFt r u.2 ∧ True) (fun u => kW ct E y u.2 q) := by
  refine cofQ cX1_perform 6 (some .boolean) (by decide) rfl (Nat.le_of_ble_eq_true rfl) ?_
  intro p e s m below meth c A a9 Q ha9 hx hb hr hml hts hown hlocks hname hK hA hZ hN hQ
  have hown : s.vm.findClass RX1 = some m.cls := hown
  have hiX1 : ∀ w ∈ wsX10, w ∈ .code yX1_perform cX1_perform 6 (some .boolean) :: wsL_law0 := fun _ h => ki (zs_wsX10 _ h)
  have lf9 := hts (.fieldLink RX1 9 "BeardPass$Journey" "deeds" "[I") (ki (zr5 17 rfl))
  have lf15 := hts (.fieldLink RX1 15 "BeardPass$Journey" "doers" "[I") (ki (zr5 18 rfl))
  have lf18 := hts (.fieldLink RX1 18 "BeardPass$Journey" "objects" "[I") (ki (zr5 19 rfl))
  intro H locs hw hS ls hl
  have hl : lv_has ls 6 [(0, .ref (y 138)), (1, .int a1), (2, .ref (y 199)), (3, .ref (y 12))] := hl
  refine lv_aload_n hx hb dX1_perform_0 rfl (lv_at hl 0 rfl) ?_
  refine va_get (D := D) (ci := 1) (v := .ref (y 140)) hx hb hts hiX1 hown hK hw.1 138 kg138 rfl 1 (by decide) lf15 (fun _ h9 => h9) rfl dX1_perform_1 ?_
  refine lv_iload_n hx hb dX1_perform_4 rfl (lv_at hl 1 rfl) ?_
  refine miald hx hb hK hw 140 kg140 g1 (by decide) dX1_perform_5 (zgen (lo := 0) (hi := 5) ((show zI 0 5 (r 140 _) from hJ0.i 140 _)) (fun v1 hv1 => ?_))
  refine lv_istore (lv' := [(4, .int v1), (0, .ref (y 138)), (1, .int a1), (2, .ref (y 199)), (3, .ref (y 12))]) hx hb dX1_perform_6 hl (by decide) rfl (fun ls hl => ?_)
  refine lv_aload_n hx hb dX1_perform_8 rfl (lv_at hl 1 rfl) ?_
  refine va_get (D := D) (ci := 1) (v := .ref (y 141)) hx hb hts hiX1 hown hK hw.1 138 kg138 rfl 2 (by decide) lf18 (fun _ h9 => h9) rfl dX1_perform_9 ?_
  refine lv_iload_n hx hb dX1_perform_12 rfl (lv_at hl 2 rfl) ?_
  refine miald hx hb hK hw 141 kg141 g1 (by decide) dX1_perform_13 ?_
  refine lv_istore (lv' := [(5, .int (r 141 (zn a1))), (4, .int v1), (0, .ref (y 138)), (1, .int a1), (2, .ref (y 199)), (3, .ref (y 12))]) hx hb dX1_perform_14 hl (by decide) rfl (fun ls hl => ?_)
  refine lv_aload_n hx hb dX1_perform_16 rfl (lv_at hl 2 rfl) ?_
  refine va_get (D := D) (ci := 1) (v := .ref (y 139)) hx hb hts hiX1 hown hK hw.1 138 kg138 rfl 0 (by decide) lf9 (fun _ h9 => h9) rfl dX1_perform_17 ?_
  refine lv_iload_n hx hb dX1_perform_20 rfl (lv_at hl 3 rfl) ?_
  refine miald hx hb hK hw 139 kg139 g1 (by decide) dX1_perform_21 ?_
  refine lv_iconst (v := 3) hx hb dX1_perform_22 (by decide) ?_
  refine lv_icmp_ne (tgt := 34) hx hb dX1_perform_23 (by decide) (fun c2 => ?_) (fun c2 => ?_)
  · refine lv_aload_n hx hb dX1_perform_34 rfl (lv_at hl 2 rfl) ?_
    refine va_get (D := D) (ci := 1) (v := .ref (y 139)) hx hb hts hiX1 hown hK hw.1 138 kg138 rfl 0 (by decide) lf9 (fun _ h9 => h9) rfl dX1_perform_35 ?_
    refine lv_iload_n hx hb dX1_perform_38 rfl (lv_at hl 3 rfl) ?_
    refine miald hx hb hK hw 139 kg139 g1 (by decide) dX1_perform_39 ?_
    refine lv_iconst (v := 2) hx hb dX1_perform_40 (by decide) ?_
    refine lv_icmp_ne (tgt := 53) hx hb dX1_perform_41 (by decide) (fun c3 => ?_) (fun c3 => ?_)
    · refine lv_aload_n hx hb dX1_perform_53 rfl (lv_at hl 2 rfl) ?_
      refine va_get (D := D) (ci := 1) (v := .ref (y 139)) hx hb hts hiX1 hown hK hw.1 138 kg138 rfl 0 (by decide) lf9 (fun _ h9 => h9) rfl dX1_perform_54 ?_
      refine lv_iload_n hx hb dX1_perform_57 rfl (lv_at hl 3 rfl) ?_
      refine miald hx hb hK hw 139 kg139 g1 (by decide) dX1_perform_58 ?_
      refine lv_if_ne (tgt := 87) hx hb dX1_perform_59 (by decide) (fun c4 => ?_) (fun c4 => ?_)
      · refine lv_aload_n hx hb dX1_perform_87 rfl (lv_at hl 4 rfl) ?_
        refine lv_aload_n hx hb dX1_perform_88 rfl (lv_at hl 5 rfl) ?_
        refine lv_iload hx hb dX1_perform_89 (lv_at hl 1 rfl) ?_
        refine lv_iload hx hb dX1_perform_91 (lv_at hl 0 rfl) ?_
        refine kcallV (As := [.ref (y 12), .int v1, .int (r 141 (zn a1))]) (rest := []) ⟨hx, hb, hml, hown, hts⟩ (kc_canForgeT l D ct E y v1 (r 141 (zn a1)) r q hv1 hJ0 hEi) (wqX1_114_kc_canForgeT hts ⟨Nat.le_of_ble_eq_true rfl, Nat.le_of_ble_eq_true rfl⟩) hw hS hA hK hZ hN 0 199 rfl kg199 rfl hl.1 rfl (Nat.le_of_ble_eq_true rfl) dX1_perform_93 96 rfl (fun u5 H locs pu5 hw hS => ?_)
        have hu5 : zI 0 1 u5 := pu5.1
        have yu5_0 : (¬ u5 = 0 → zI 0 20 (r 15 (zn v1) + (r 141 (zn a1)))) := pu5.2.1
        have hw : zPD D A (kW ct E y r q) H := hw
        refine zfr 96 [.int u5] rfl rfl ?_
        refine lv_if_ne (tgt := 101) hx hb dX1_perform_96 (by decide) (fun c7 => ?_) (fun c7 => ?_)
        · have k8 : zI 1 1 (u5) := zI.neD c7 hu5 (zI.lit (a := 0) (b := 0) (c := 0) (by decide)) (by decide)
          refine lv_aload_n hx hb dX1_perform_101 rfl (lv_at hl 4 rfl) ?_
          refine lv_aload_n hx hb dX1_perform_102 rfl (lv_at hl 5 rfl) ?_
          refine lv_iload hx hb dX1_perform_103 (lv_at hl 1 rfl) ?_
          refine lv_iload hx hb dX1_perform_105 (lv_at hl 0 rfl) ?_
          refine kcallV (As := [.ref (y 12), .int v1, .int (r 141 (zn a1))]) (rest := []) ⟨hx, hb, hml, hown, hts⟩ (kc_sellT l D ct E y v1 (r 141 (zn a1)) r q hv1 hJ0 hEi (yu5_0 c7)) (wqX1_117_kc_sellT hts ⟨Nat.le_of_ble_eq_true rfl, Nat.le_of_ble_eq_true rfl⟩) hw hS hA hK hZ hN 0 199 rfl kg199 rfl hl.1 rfl (Nat.le_of_ble_eq_true rfl) dX1_perform_107 110 rfl (fun u9 H locs pu9 hw hS => ?_)
          have ju9 : kJ u9 := pu9.1
          have fu9 : zFt r u9 := pu9.2.1
          have hw : zPD D A (kW ct E y u9 q) H := hw
          refine zfr 110 [] rfl rfl ?_
          refine lv_iconst (v := 1) hx hb dX1_perform_110 (by decide) ?_
          exact ziretQ hQ hx hb hr rfl hlocks ((1 : Int32), u9) rfl ⟨((zI.lit (a := 1) (b := 1) (c := 1) (by decide)).w (c := 0) (d := 1) (by decide)), ju9, ((zFt.refl).tr fu9), trivial⟩ hw hS dX1_perform_111
        · have k11 : zI 0 0 (u5) := zI.eqq c7 (zI.lit (a := 0) (b := 0) (c := 0) (by decide))
          refine lv_iconst (v := 0) hx hb dX1_perform_99 (by decide) ?_
          exact ziretQ hQ hx hb hr rfl hlocks ((0 : Int32), r) rfl ⟨((zI.lit (a := 0) (b := 0) (c := 0) (by decide)).w (c := 0) (d := 1) (by decide)), hJ0, (zFt.refl), trivial⟩ hw hS dX1_perform_100
      · have k12 : zI 0 0 (r 139 (zn a1)) := zI.eqq c4 (zI.lit (a := 0) (b := 0) (c := 0) (by decide))
        refine lv_aload_n hx hb dX1_perform_62 rfl (lv_at hl 4 rfl) ?_
        refine lv_aload_n hx hb dX1_perform_63 rfl (lv_at hl 5 rfl) ?_
        refine lv_iload hx hb dX1_perform_64 (lv_at hl 1 rfl) ?_
        refine lv_iload hx hb dX1_perform_66 (lv_at hl 0 rfl) ?_
        refine kcallV (As := [.ref (y 12), .int v1, .int (r 141 (zn a1))]) (rest := []) ⟨hx, hb, hml, hown, hts⟩ (kc_canGoT l D ct E y v1 (r 141 (zn a1)) r q hv1 (hJ0.2.2.2.1 (zn a1) c4) hJ0 hEi) (wqX1_106_kc_canGoT hts ⟨Nat.le_of_ble_eq_true rfl, Nat.le_of_ble_eq_true rfl⟩) hw hS hA hK hZ hN 0 199 rfl kg199 rfl hl.1 rfl (Nat.le_of_ble_eq_true rfl) dX1_perform_68 71 rfl (fun u13 H locs pu13 hw hS => ?_)
        obtain ⟨v14, r15⟩ := u13
        have hv14 : zI 0 1 v14 := pu13.1
        have ju13 : kJ r15 := pu13.2.1
        have fu13 : zFr [182] r r15 := pu13.2.2.1
        have hw : zPD D A (kW ct E y r15 q) H := hw
        refine zfr 71 [.int v14] rfl rfl ?_
        refine lv_if_ne (tgt := 76) hx hb dX1_perform_71 (by decide) (fun c16 => ?_) (fun c16 => ?_)
        · have k17 : zI 1 1 (v14) := zI.neD c16 hv14 (zI.lit (a := 0) (b := 0) (c := 0) (by decide)) (by decide)
          refine lv_aload_n hx hb dX1_perform_76 rfl (lv_at hl 5 rfl) ?_
          refine lv_iload hx hb dX1_perform_77 (lv_at hl 1 rfl) ?_
          refine lv_iload hx hb dX1_perform_79 (lv_at hl 0 rfl) ?_
          refine kcallV (As := [.int v1, .int (r 141 (zn a1))]) (rest := []) ⟨hx, hb, hml, hown, hts⟩ (kc_arriveT l D ct E y v1 (r 141 (zn a1)) r15 q hv1 (hJ0.2.2.2.1 (zn a1) c4) ju13 hEi) (wqX1_110_kc_arriveT hts ⟨Nat.le_of_ble_eq_true rfl, Nat.le_of_ble_eq_true rfl⟩) hw hS hA hK hZ hN 7 12 rfl kg12 rfl hl.1 rfl (Nat.le_of_ble_eq_true rfl) dX1_perform_81 84 rfl (fun u18 H locs pu18 hw hS => ?_)
          have ju18 : kJ u18 := pu18.1
          have fu18 : zFt r15 u18 := pu18.2.1
          have hw : zPD D A (kW ct E y u18 q) H := hw
          refine zfr 84 [] rfl rfl ?_
          refine lv_goto (tgt := 110) hx hb dX1_perform_84 (by decide) ?_
          refine lv_iconst (v := 1) hx hb dX1_perform_110 (by decide) ?_
          exact ziretQ hQ hx hb hr rfl hlocks ((1 : Int32), u18) rfl ⟨((zI.lit (a := 1) (b := 1) (c := 1) (by decide)).w (c := 0) (d := 1) (by decide)), ju18, (((zFt.refl).trF fu13 rfl).tr fu18), trivial⟩ hw hS dX1_perform_111
        · have k20 : zI 0 0 (v14) := zI.eqq c16 (zI.lit (a := 0) (b := 0) (c := 0) (by decide))
          refine lv_iconst (v := 0) hx hb dX1_perform_74 (by decide) ?_
          exact ziretQ hQ hx hb hr rfl hlocks ((0 : Int32), r15) rfl ⟨((zI.lit (a := 0) (b := 0) (c := 0) (by decide)).w (c := 0) (d := 1) (by decide)), ju13, ((zFt.refl).trF fu13 rfl), trivial⟩ hw hS dX1_perform_75
    · have k21 : zI 2 2 (r 139 (zn a1)) := zI.eqq c3 (zI.lit (a := 2) (b := 2) (c := 2) (by decide))
      refine lv_aload_n hx hb dX1_perform_44 rfl (lv_at hl 5 rfl) ?_
      refine lv_iload hx hb dX1_perform_45 (lv_at hl 1 rfl) ?_
      refine kcallV (As := [.int v1]) (rest := []) ⟨hx, hb, hml, hown, hts⟩ (kc_loseBeardT l D ct E y v1 r q hv1 hJ0 hEi) (wqX1_100_kc_loseBeardT hts ⟨Nat.le_of_ble_eq_true rfl, Nat.le_of_ble_eq_true rfl⟩) hw hS hA hK hZ hN 7 12 rfl kg12 rfl hl.1 rfl (Nat.le_of_ble_eq_true rfl) dX1_perform_47 50 rfl (fun u22 H locs pu22 hw hS => ?_)
      have ju22 : kJ u22 := pu22.1
      have fu22 : zFt r u22 := pu22.2.1
      have hw : zPD D A (kW ct E y u22 q) H := hw
      refine zfr 50 [] rfl rfl ?_
      refine lv_goto (tgt := 110) hx hb dX1_perform_50 (by decide) ?_
      refine lv_iconst (v := 1) hx hb dX1_perform_110 (by decide) ?_
      exact ziretQ hQ hx hb hr rfl hlocks ((1 : Int32), u22) rfl ⟨((zI.lit (a := 1) (b := 1) (c := 1) (by decide)).w (c := 0) (d := 1) (by decide)), ju22, ((zFt.refl).tr fu22), trivial⟩ hw hS dX1_perform_111
  · have k24 : zI 3 3 (r 139 (zn a1)) := zI.eqq c2 (zI.lit (a := 3) (b := 3) (c := 3) (by decide))
    refine lv_aload_n hx hb dX1_perform_26 rfl (lv_at hl 4 rfl) ?_
    refine lv_aload_n hx hb dX1_perform_27 rfl (lv_at hl 5 rfl) ?_
    refine kcallV (As := [.ref (y 12)]) (rest := []) ⟨hx, hb, hml, hown, hts⟩ (kc_passWeekT l D ct E y r q hJ0 hEi) (wqX1_94_kc_passWeekT hts ⟨Nat.le_of_ble_eq_true rfl, Nat.le_of_ble_eq_true rfl⟩) hw hS hA hK hZ hN 0 199 rfl kg199 rfl hl.1 rfl (Nat.le_of_ble_eq_true rfl) dX1_perform_28 31 rfl (fun u25 H locs pu25 hw hS => ?_)
    have ju25 : kJ u25 := pu25.1
    have fu25 : zFt r u25 := pu25.2.1
    have hw : zPD D A (kW ct E y u25 q) H := hw
    refine zfr 31 [] rfl rfl ?_
    refine lv_goto (tgt := 110) hx hb dX1_perform_31 (by decide) ?_
    refine lv_iconst (v := 1) hx hb dX1_perform_110 (by decide) ?_
    exact ziretQ hQ hx hb hr rfl hlocks ((1 : Int32), u25) rfl ⟨((zI.lit (a := 1) (b := 1) (c := 1) (by decide)).w (c := 0) (d := 1) (by decide)), ju25, ((zFt.refl).tr fu25), trivial⟩ hw hS dX1_perform_111
