set_option maxHeartbeats 4000000 in
set_option maxRecDepth 100000 in
theorem mc_within (l : Launch) (D : va_G) (ct : Nat → ClassId) (a1 : Int32) (a2 : Int32) (a3 : Int32) : zC l yX12_within (.code yX12_within cX12_within 3 (some .boolean) :: wsL_law0) ({ frames := 1, cells := 0, slots := 0, locals := 80 }) D ct [] [.int a1, .int a2, .int a3] ([]) (S := Int32) (fun u => some (.int u)) (fun u => zI 0 1 u ∧ (¬ u = 0 → a2 ≤ a1 ∧ a1 ≤ a3) ∧ u = (Gm_within a1 a2 a3) ∧ True) (fun u => []) 0 0 := by
  refine zofQ cX12_within 3 (some .boolean) (by decide) rfl (Nat.le_of_ble_eq_true rfl) ?_
  intro p e s m below meth c A a9 Q ha9 hx hb hr hml hts hown hlocks hname hK hA hZ hN hQ
  have hown : s.vm.findClass RX12 = some m.cls := hown
  obtain ⟨X, hX⟩ : ∃ X, X = (Gm_within a1 a2 a3) := ⟨_, rfl⟩
  intro H locs hw hS ls hl
  have hl : lv_has ls 3 [(0, .int a1), (1, .int a2), (2, .int a3)] := hl
  have hE := hX
  unfold Gm_within at hE
  refine lv_iload_n hx hb dX12_within_0 rfl (lv_at hl 0 rfl) ?_
  refine lv_iload_n hx hb dX12_within_1 rfl (lv_at hl 1 rfl) ?_
  refine lv_icmp_lt (tgt := 14) hx hb dX12_within_2 (by decide) (fun c1 => ?_) (fun c1 => ?_)
  · have hE := zifT c1 hE
    refine lv_iconst (v := 0) hx hb dX12_within_14 (by decide) ?_
    exact ziretQ hQ hx hb hr rfl hlocks 0 rfl ⟨((zI.lit (a := 0) (b := 0) (c := 0) (by decide)).w (c := 0) (d := 1) (by decide)), (fun h => absurd rfl h), (hE.symm.trans hX), trivial⟩ hw hS dX12_within_15
  · have hE := zifF c1 hE
    refine lv_iload_n hx hb dX12_within_5 rfl (lv_at hl 0 rfl) ?_
    refine lv_iload_n hx hb dX12_within_6 rfl (lv_at hl 2 rfl) ?_
    refine lv_icmp_gt (tgt := 14) hx hb dX12_within_7 (by decide) (fun c2 => ?_) (fun c2 => ?_)
    · have hE := zifT c2 hE
      refine lv_iconst (v := 0) hx hb dX12_within_14 (by decide) ?_
      exact ziretQ hQ hx hb hr rfl hlocks 0 rfl ⟨((zI.lit (a := 0) (b := 0) (c := 0) (by decide)).w (c := 0) (d := 1) (by decide)), (fun h => absurd rfl h), (hE.symm.trans hX), trivial⟩ hw hS dX12_within_15
    · have hE := zifF c2 hE
      refine lv_iconst (v := 1) hx hb dX12_within_10 (by decide) ?_
      refine lv_goto (tgt := 15) hx hb dX12_within_11 (by decide) ?_
      exact ziretQ hQ hx hb hr rfl hlocks 1 rfl ⟨((zI.lit (a := 1) (b := 1) (c := 1) (by decide)).w (c := 0) (d := 1) (by decide)), (fun _ => ⟨(zI.nlt c1), (zI.nlt c2)⟩), (hE.symm.trans hX), trivial⟩ hw hS dX12_within_15

set_option maxHeartbeats 4000000 in
set_option maxRecDepth 100000 in
theorem mc_bits (l : Launch) (D : va_G) (ct : Nat → ClassId) (a1 : Int32) : zC l yX12_bits (.code yX12_bits cX12_bits 3 (some .int) :: wsL_law0) ({ frames := 1, cells := 0, slots := 0, locals := 80 }) D ct [] [.int a1] ([]) (S := Int32) (fun u => some (.int u)) (fun u => zI (-2147483648) 2147483647 u ∧ True) (fun u => []) 0 0 := by
  refine zofQ cX12_bits 3 (some .int) (by decide) rfl (Nat.le_of_ble_eq_true rfl) ?_
  intro p e s m below meth c A a9 Q ha9 hx hb hr hml hts hown hlocks hname hK hA hZ hN hQ
  have hown : s.vm.findClass RX12 = some m.cls := hown
  have cut4 : ∀ (n : Nat) (w4_1 : Int32) (w4_2 : Int32) (hw4_2 : zI 0 6 w4_2), 6 - w4_2.toInt < (n : Int) → zKf p l e ({ frames := 1, cells := 0, slots := 0, locals := 80 }) s m a9 below meth c Q D A 4 3 [] ([]) [(0, .int a1), (1, .int w4_1), (2, .int w4_2)] := by
    intro n
    induction n with
    | zero => intro w4_1 w4_2 hw4_2 hm4; exact zI.no hw4_2 (by decide) hm4
    | succ n ih4 =>
      intro w4_1 w4_2 hw4_2 hm4
      intro H locs ls hw hS hl
      refine lv_iload_n hx hb dX12_bits_4 rfl (lv_at hl 2 rfl) ?_
      refine lv_bipush (v := 6) hx hb dX12_bits_5 (by decide) ?_
      refine lv_icmp_ge (tgt := 24) hx hb dX12_bits_7 (by decide) (fun c1 => ?_) (fun c1 => ?_)
      · have k2 : zI 6 6 (w4_2) := zI.leD c1 (zI.lit (a := 6) (b := 6) (c := 6) (by decide)) hw4_2 (by decide)
        refine lv_iload_n hx hb dX12_bits_24 rfl (lv_at hl 1 rfl) ?_
        exact ziretQ hQ hx hb hr rfl hlocks w4_1 rfl ⟨(zI.top _), trivial⟩ hw hS dX12_bits_25
      · have k3 : zI 0 5 (w4_2) := zI.ltU (zI.nle c1) hw4_2 (zI.lit (a := 6) (b := 6) (c := 6) (by decide)) (by decide)
        refine lv_iload_n hx hb dX12_bits_10 rfl (lv_at hl 1 rfl) ?_
        refine lv_iload_n hx hb dX12_bits_11 rfl (lv_at hl 0 rfl) ?_
        refine lv_iload_n hx hb dX12_bits_12 rfl (lv_at hl 2 rfl) ?_
        refine lv_ishr hx hb dX12_bits_13 (zgen (zI.top _) (fun v4 _ => ?_))
        refine lv_iconst (v := 1) hx hb dX12_bits_14 (by decide) ?_
        refine lv_iand hx hb dX12_bits_15 (zgen (lo := 0) (hi := 1) (zI.and (zI.lit (a := 1) (b := 1) (c := 1) (by decide)) (by decide)) (fun v5 hv5 => ?_))
        refine lv_iadd hx hb dX12_bits_16 (zgen (zI.top _) (fun v6 _ => ?_))
        refine lv_istore_n (lv' := [(1, .int v6), (0, .int a1), (2, .int w4_2)]) hx hb dX12_bits_17 rfl hl (by decide) rfl (fun ls hl => ?_)
        refine lv_iinc (v := w4_2 + 1) (lv' := [(2, .int (w4_2 + 1)), (1, .int v6), (0, .int a1)]) hx hb dX12_bits_18 hl (k := 2) rfl (rfl) (by decide) rfl (fun ls hl => ?_)
        have k7 : zI 1 6 (w4_2 + 1) := zI.add k3 (zI.lit (a := 1) (b := 1) (by decide)) (by decide)
        refine lv_goto (tgt := 4) hx hb dX12_bits_21 (by decide) ?_
        exact ih4 v6 (w4_2 + 1) (k7.w (c := 0) (d := 6) (by decide)) (zI.up k3 (by decide) hm4) H locs ls hw hS (lv_sub hl [2, 1, 0] rfl)
  intro H locs hw hS ls hl
  have hl : lv_has ls 3 [(0, .int a1)] := hl
  refine lv_iconst (v := 0) hx hb dX12_bits_0 (by decide) ?_
  refine lv_istore_n (lv' := [(1, .int 0), (0, .int a1)]) hx hb dX12_bits_1 rfl hl (by decide) rfl (fun ls hl => ?_)
  refine lv_iconst (v := 0) hx hb dX12_bits_2 (by decide) ?_
  refine lv_istore_n (lv' := [(2, .int 0), (1, .int 0), (0, .int a1)]) hx hb dX12_bits_3 rfl hl (by decide) rfl (fun ls hl => ?_)
  exact cut4 7 0 0 ((zI.lit (a := 0) (b := 0) (c := 0) (by decide)).w (c := 0) (d := 6) (by decide)) (zI.m0 (zI.lit (a := 0) (b := 0) (c := 0) (by decide)) (by decide)) H locs ls hw hS (lv_sub hl [2, 1, 0] rfl)

noncomputable def Gm_isTown (a1 : Int32) (r : zRr) (q : zRq) : Int32 :=
  zif (a1 < (0 : Int32)) ((0 : Int32)) (zlet (α := Int32) (r 1 0) <| fun v4 => zif (v4 ≤ a1) ((0 : Int32)) ((1 : Int32)))
set_option maxHeartbeats 4000000 in
set_option maxRecDepth 100000 in
theorem mc_isTown (l : Launch) (D : va_G) (ct : Nat → ClassId) (h0 : Nat) (y : Nat → Nat) (B : Int) (a1 : Int32) (r : zRr) (q : zRq) (hJ0 : mJ B r) : zC l yX12_isTown (.code yX12_isTown cX12_isTown 2 (some .boolean) :: wsL_law0) ({ frames := 1, cells := 0, slots := 0, locals := 80 }) D ct [] [.ref h0, .int a1] (mW ct h0 y r q) (S := Int32) (fun u => some (.int u)) (fun u => zI 0 1 u ∧ (¬ u = 0 → zI 0 5 a1) ∧ u = (Gm_isTown a1 r q) ∧ True) (fun u => mW ct h0 y r q) 0 0 := by
  refine zofQ cX12_isTown 2 (some .boolean) (by decide) rfl (Nat.le_of_ble_eq_true rfl) ?_
  intro p e s m below meth c A a9 Q ha9 hx hb hr hml hts hown hlocks hname hK hA hZ hN hQ
  have hown : s.vm.findClass RX12 = some m.cls := hown
  have hiX12 : ∀ w ∈ wsX120, w ∈ .code yX12_isTown cX12_isTown 2 (some .boolean) :: wsL_law0 := fun _ h => ki (zs_wsX120 _ h)
  have lf13 := hts (.fieldLink RX12 13 "BeardPassModel" "land" "[I") (ki (zr7 20 rfl))
  obtain ⟨X, hX⟩ : ∃ X, X = (Gm_isTown a1 r q) := ⟨_, rfl⟩
  intro H locs hw hS ls hl
  have hl : lv_has ls 2 [(0, .ref h0), (1, .int a1)] := hl
  have hE := hX
  unfold Gm_isTown at hE
  refine lv_iload_n hx hb dX12_isTown_0 rfl (lv_at hl 1 rfl) ?_
  refine lv_if_lt (tgt := 18) hx hb dX12_isTown_1 (by decide) (fun c1 => ?_) (fun c1 => ?_)
  · have hE := zifT c1 hE
    have k2 : zI (-2147483648) (-1) (a1) := zI.ltU c1 (zI.top _) (zI.lit (a := 0) (b := 0) (c := 0) (by decide)) (by decide)
    refine lv_iconst (v := 0) hx hb dX12_isTown_18 (by decide) ?_
    exact ziretQ hQ hx hb hr rfl hlocks 0 rfl ⟨((zI.lit (a := 0) (b := 0) (c := 0) (by decide)).w (c := 0) (d := 1) (by decide)), (fun h => absurd rfl h), (hE.symm.trans hX), trivial⟩ hw hS dX12_isTown_19
  · have hE := zifF c1 hE
    have k3 : zI 0 2147483647 (a1) := zI.leD (zI.nlt c1) (zI.lit (a := 0) (b := 0) (c := 0) (by decide)) (zI.top _) (by decide)
    refine lv_iload_n hx hb dX12_isTown_4 rfl (lv_at hl 1 rfl) ?_
    refine lv_aload_n hx hb dX12_isTown_5 rfl (lv_at hl 0 rfl) ?_
    refine mget (v := .ref (y 1)) hx hb hts hiX12 hown hK hw 10 (by decide) lf13 rfl rfl dX12_isTown_6 ?_
    refine lv_iconst (v := 0) hx hb dX12_isTown_9 (by decide) ?_
    refine ziald hx hb hK hw 2 mWg1 0 (by decide) (by decide) (by decide) dX12_isTown_10 (zgenE (lo := 0) (hi := 6) ((show zI 0 6 (r 1 0) from hJ0.i 1 0)) (fun v4 ev4 hv4 => ?_))
    have hE := zletE ev4 hE
    refine lv_icmp_ge (tgt := 18) hx hb dX12_isTown_11 (by decide) (fun c5 => ?_) (fun c5 => ?_)
    · have hE := zifT c5 hE
      refine lv_iconst (v := 0) hx hb dX12_isTown_18 (by decide) ?_
      exact ziretQ hQ hx hb hr rfl hlocks 0 rfl ⟨((zI.lit (a := 0) (b := 0) (c := 0) (by decide)).w (c := 0) (d := 1) (by decide)), (fun h => absurd rfl h), (hE.symm.trans hX), trivial⟩ hw hS dX12_isTown_19
    · have hE := zifF c5 hE
      have k6 : zI 0 5 (a1) := zI.ltU (zI.nle c5) k3 hv4 (by decide)
      have k7 : zI 1 6 (v4) := zI.ltD (zI.nle c5) k3 hv4 (by decide)
      refine lv_iconst (v := 1) hx hb dX12_isTown_14 (by decide) ?_
      refine lv_goto (tgt := 19) hx hb dX12_isTown_15 (by decide) ?_
      exact ziretQ hQ hx hb hr rfl hlocks 1 rfl ⟨((zI.lit (a := 1) (b := 1) (c := 1) (by decide)).w (c := 0) (d := 1) (by decide)), (fun _ => k6), (hE.symm.trans hX), trivial⟩ hw hS dX12_isTown_19

noncomputable def Gm_isPerson (a1 : Int32) (r : zRr) (q : zRq) : Int32 :=
  zif (a1 < (0 : Int32)) ((0 : Int32)) (zlet (α := Int32) (r 1 1) <| fun v4 => zif (v4 ≤ a1) ((0 : Int32)) ((1 : Int32)))
set_option maxHeartbeats 4000000 in
set_option maxRecDepth 100000 in
theorem mc_isPerson (l : Launch) (D : va_G) (ct : Nat → ClassId) (h0 : Nat) (y : Nat → Nat) (B : Int) (a1 : Int32) (r : zRr) (q : zRq) (hJ0 : mJ B r) : zC l yX12_isPerson (.code yX12_isPerson cX12_isPerson 2 (some .boolean) :: wsL_law0) ({ frames := 1, cells := 0, slots := 0, locals := 80 }) D ct [] [.ref h0, .int a1] (mW ct h0 y r q) (S := Int32) (fun u => some (.int u)) (fun u => zI 0 1 u ∧ (¬ u = 0 → zI 0 5 a1) ∧ u = (Gm_isPerson a1 r q) ∧ True) (fun u => mW ct h0 y r q) 0 0 := by
  refine zofQ cX12_isPerson 2 (some .boolean) (by decide) rfl (Nat.le_of_ble_eq_true rfl) ?_
  intro p e s m below meth c A a9 Q ha9 hx hb hr hml hts hown hlocks hname hK hA hZ hN hQ
  have hown : s.vm.findClass RX12 = some m.cls := hown
  have hiX12 : ∀ w ∈ wsX120, w ∈ .code yX12_isPerson cX12_isPerson 2 (some .boolean) :: wsL_law0 := fun _ h => ki (zs_wsX120 _ h)
  have lf13 := hts (.fieldLink RX12 13 "BeardPassModel" "land" "[I") (ki (zr7 20 rfl))
  obtain ⟨X, hX⟩ : ∃ X, X = (Gm_isPerson a1 r q) := ⟨_, rfl⟩
  intro H locs hw hS ls hl
  have hl : lv_has ls 2 [(0, .ref h0), (1, .int a1)] := hl
  have hE := hX
  unfold Gm_isPerson at hE
  refine lv_iload_n hx hb dX12_isPerson_0 rfl (lv_at hl 1 rfl) ?_
  refine lv_if_lt (tgt := 18) hx hb dX12_isPerson_1 (by decide) (fun c1 => ?_) (fun c1 => ?_)
  · have hE := zifT c1 hE
    have k2 : zI (-2147483648) (-1) (a1) := zI.ltU c1 (zI.top _) (zI.lit (a := 0) (b := 0) (c := 0) (by decide)) (by decide)
    refine lv_iconst (v := 0) hx hb dX12_isPerson_18 (by decide) ?_
    exact ziretQ hQ hx hb hr rfl hlocks 0 rfl ⟨((zI.lit (a := 0) (b := 0) (c := 0) (by decide)).w (c := 0) (d := 1) (by decide)), (fun h => absurd rfl h), (hE.symm.trans hX), trivial⟩ hw hS dX12_isPerson_19
  · have hE := zifF c1 hE
    have k3 : zI 0 2147483647 (a1) := zI.leD (zI.nlt c1) (zI.lit (a := 0) (b := 0) (c := 0) (by decide)) (zI.top _) (by decide)
    refine lv_iload_n hx hb dX12_isPerson_4 rfl (lv_at hl 1 rfl) ?_
    refine lv_aload_n hx hb dX12_isPerson_5 rfl (lv_at hl 0 rfl) ?_
    refine mget (v := .ref (y 1)) hx hb hts hiX12 hown hK hw 10 (by decide) lf13 rfl rfl dX12_isPerson_6 ?_
    refine lv_iconst (v := 1) hx hb dX12_isPerson_9 (by decide) ?_
    refine ziald hx hb hK hw 2 mWg1 1 (by decide) (by decide) (by decide) dX12_isPerson_10 (zgenE (lo := 0) (hi := 6) ((show zI 0 6 (r 1 1) from hJ0.i 1 1)) (fun v4 ev4 hv4 => ?_))
    have hE := zletE ev4 hE
    refine lv_icmp_ge (tgt := 18) hx hb dX12_isPerson_11 (by decide) (fun c5 => ?_) (fun c5 => ?_)
    · have hE := zifT c5 hE
      refine lv_iconst (v := 0) hx hb dX12_isPerson_18 (by decide) ?_
      exact ziretQ hQ hx hb hr rfl hlocks 0 rfl ⟨((zI.lit (a := 0) (b := 0) (c := 0) (by decide)).w (c := 0) (d := 1) (by decide)), (fun h => absurd rfl h), (hE.symm.trans hX), trivial⟩ hw hS dX12_isPerson_19
    · have hE := zifF c5 hE
      have k6 : zI 0 5 (a1) := zI.ltU (zI.nle c5) k3 hv4 (by decide)
      have k7 : zI 1 6 (v4) := zI.ltD (zI.nle c5) k3 hv4 (by decide)
      refine lv_iconst (v := 1) hx hb dX12_isPerson_14 (by decide) ?_
      refine lv_goto (tgt := 19) hx hb dX12_isPerson_15 (by decide) ?_
      exact ziretQ hQ hx hb hr rfl hlocks 1 rfl ⟨((zI.lit (a := 1) (b := 1) (c := 1) (by decide)).w (c := 0) (d := 1) (by decide)), (fun _ => k6), (hE.symm.trans hX), trivial⟩ hw hS dX12_isPerson_19

noncomputable def Bm_allOf_4 (a1 : Int32) (r : zRr) (ih4 : Int32 → Int32 → Int32) (w4_2 : Int32) (w4_3 : Int32) : Int32 :=
  zlet (α := Int32) (a1 + 6) <| fun v1 => zif (v1 ≤ w4_3) (w4_2) (zlet (α := Int32) (r 32 (zn w4_3)) <| fun v5 => zlet (α := Int32) (w4_2 + v5) <| fun v6 => ih4 v6 (w4_3 + 1))
noncomputable def Gm_allOf_4 (a1 : Int32) (r : zRr) (n : Nat) : Int32 → Int32 → Int32 :=
  Nat.rec (motive := fun _ => Int32 → Int32 → Int32) (fun _ _ => default) (fun _ ih => Bm_allOf_4 a1 r ih) n
noncomputable def Gm_allOf (a1 : Int32) (r : zRr) (q : zRq) : Int32 :=
  Gm_allOf_4 a1 r 18 0 a1
set_option maxHeartbeats 4000000 in
set_option maxRecDepth 100000 in
theorem mc_allOf (l : Launch) (D : va_G) (ct : Nat → ClassId) (h0 : Nat) (y : Nat → Nat) (B : Int) (a1 : Int32) (r : zRr) (q : zRq) (g1 : zI 13 19 a1) (hJ0 : mJ B r) : zC l yX12_allOf (.code yX12_allOf cX12_allOf 4 (some .int) :: wsL_law0) ({ frames := 1, cells := 0, slots := 0, locals := 80 }) D ct [] [.ref h0, .int a1] (mW ct h0 y r q) (S := Int32) (fun u => some (.int u)) (fun u => zI (-2147483648) 2147483647 u ∧ u = (Gm_allOf a1 r q) ∧ True) (fun u => mW ct h0 y r q) 0 0 := by
  refine zofQ cX12_allOf 4 (some .int) (by decide) rfl (Nat.le_of_ble_eq_true rfl) ?_
  intro p e s m below meth c A a9 Q ha9 hx hb hr hml hts hown hlocks hname hK hA hZ hN hQ
  have hown : s.vm.findClass RX12 = some m.cls := hown
  have hiX12 : ∀ w ∈ wsX120, w ∈ .code yX12_allOf cX12_allOf 4 (some .int) :: wsL_law0 := fun _ h => ki (zs_wsX120 _ h)
  have lf108 := hts (.fieldLink RX12 108 "BeardPassModel" "s" "[I") (ki (zr9 4 rfl))
  obtain ⟨X, hX⟩ : ∃ X, X = (Gm_allOf a1 r q) := ⟨_, rfl⟩
  have cut4 : ∀ (n4 : Nat) (w4_2 : Int32) (w4_3 : Int32) (hw4_1 : zI 13 19 a1) (hw4_3 : zI 13 30 w4_3) (hE : X = Gm_allOf_4 a1 r n4 w4_2 w4_3), 30 - w4_3.toInt < (n4 : Int) → zKf p l e ({ frames := 1, cells := 0, slots := 0, locals := 80 }) s m a9 below meth c Q D A 4 4 [] (mW ct h0 y r q) [(0, .ref h0), (1, .int a1), (2, .int w4_2), (3, .int w4_3)] := by
    intro n4
    induction n4 with
    | zero => intro w4_2 w4_3 hw4_1 hw4_3 hE hm4; exact zI.no hw4_3 (by decide) hm4
    | succ n4 ih4 =>
      intro w4_2 w4_3 hw4_1 hw4_3 hE hm4
      have hE : X = Bm_allOf_4 a1 r (Gm_allOf_4 a1 r n4) w4_2 w4_3 := hE
      unfold Bm_allOf_4 at hE
      intro H locs ls hw hS hl
      refine lv_iload_n hx hb dX12_allOf_4 rfl (lv_at hl 3 rfl) ?_
      refine lv_iload_n hx hb dX12_allOf_5 rfl (lv_at hl 1 rfl) ?_
      refine lv_bipush (v := 6) hx hb dX12_allOf_6 (by decide) ?_
      refine lv_iadd hx hb dX12_allOf_8 (zgenE (lo := 19) (hi := 25) (zI.add hw4_1 (zI.lit (a := 6) (b := 6) (c := 6) (by decide)) (by decide)) (fun v1 ev1 hv1 => ?_))
      have hE := zletE ev1 hE
      refine lv_icmp_ge (tgt := 27) hx hb dX12_allOf_9 (by decide) (fun c2 => ?_) (fun c2 => ?_)
      · have hE := zifT c2 hE
        have k3 : zI 19 30 (w4_3) := zI.leD c2 hv1 hw4_3 (by decide)
        refine lv_iload_n hx hb dX12_allOf_27 rfl (lv_at hl 2 rfl) ?_
        exact ziretQ hQ hx hb hr rfl hlocks w4_2 rfl ⟨(zI.top _), (hE.symm.trans hX), trivial⟩ hw hS dX12_allOf_28
      · have hE := zifF c2 hE
        have k4 : zI 13 24 (w4_3) := zI.ltU (zI.nle c2) hw4_3 hv1 (by decide)
        refine lv_iload_n hx hb dX12_allOf_12 rfl (lv_at hl 2 rfl) ?_
        refine lv_aload_n hx hb dX12_allOf_13 rfl (lv_at hl 0 rfl) ?_
        refine mget (v := .ref (y 32)) hx hb hts hiX12 hown hK hw 45 (by decide) lf108 rfl rfl dX12_allOf_14 ?_
        refine lv_iload_n hx hb dX12_allOf_17 rfl (lv_at hl 3 rfl) ?_
        refine miald hx hb hK hw 33 mWg32 k4 (by decide) dX12_allOf_18 (zgenE (zI.top _) (fun v5 ev5 _ => ?_))
        have hE := zletE ev5 hE
        refine lv_iadd hx hb dX12_allOf_19 (zgenE (zI.top _) (fun v6 ev6 _ => ?_))
        have hE := zletE ev6 hE
        refine lv_istore_n (lv' := [(2, .int v6), (0, .ref h0), (1, .int a1), (3, .int w4_3)]) hx hb dX12_allOf_20 rfl hl (by decide) rfl (fun ls hl => ?_)
        refine lv_iinc (v := w4_3 + 1) (lv' := [(3, .int (w4_3 + 1)), (2, .int v6), (0, .ref h0), (1, .int a1)]) hx hb dX12_allOf_21 hl (k := 3) rfl (rfl) (by decide) rfl (fun ls hl => ?_)
        have k7 : zI 14 25 (w4_3 + 1) := zI.add k4 (zI.lit (a := 1) (b := 1) (by decide)) (by decide)
        refine lv_goto (tgt := 4) hx hb dX12_allOf_24 (by decide) ?_
        exact ih4 v6 (w4_3 + 1) hw4_1 (k7.w (c := 13) (d := 30) (by decide)) hE (zI.up k4 (by decide) hm4) H locs ls hw hS (lv_sub hl [2, 3, 1, 0] rfl)
  intro H locs hw hS ls hl
  have hl : lv_has ls 4 [(0, .ref h0), (1, .int a1)] := hl
  have hE := hX
  unfold Gm_allOf at hE
  refine lv_iconst (v := 0) hx hb dX12_allOf_0 (by decide) ?_
  refine lv_istore_n (lv' := [(2, .int 0), (0, .ref h0), (1, .int a1)]) hx hb dX12_allOf_1 rfl hl (by decide) rfl (fun ls hl => ?_)
  refine lv_iload_n hx hb dX12_allOf_2 rfl (lv_at hl 2 rfl) ?_
  refine lv_istore_n (lv' := [(3, .int a1), (2, .int 0), (0, .ref h0), (1, .int a1)]) hx hb dX12_allOf_3 rfl hl (by decide) rfl (fun ls hl => ?_)
  exact cut4 18 0 a1 g1 (g1.w (c := 13) (d := 30) (by decide)) hE (zI.m0 g1 (by decide)) H locs ls hw hS (lv_sub hl [2, 3, 1, 0] rfl)

noncomputable def Bm_peopled_4 (r : zRr) (ih4 : Int32 → Int32 → Int32) (w4_1 : Int32) (w4_2 : Int32) : Int32 :=
  zlet (α := Int32) (r 1 1) <| fun v1 => zif (v1 ≤ w4_2) (w4_1) (zlet (α := Int32) (1 + w4_2) <| fun v5 => zlet (α := Int32) (r 32 (zn v5)) <| fun v6 => zlet (α := Int32) (1 <<< (v6 &&& 31)) <| fun v7 => zlet (α := Int32) (w4_1 ||| v7) <| fun v8 => ih4 v8 (w4_2 + 1))
noncomputable def Gm_peopled_4 (r : zRr) (n : Nat) : Int32 → Int32 → Int32 :=
  Nat.rec (motive := fun _ => Int32 → Int32 → Int32) (fun _ _ => default) (fun _ ih => Bm_peopled_4 r ih) n
noncomputable def Gm_peopled (r : zRr) (q : zRq) : Int32 :=
  Gm_peopled_4 r 7 0 0
set_option maxHeartbeats 4000000 in
set_option maxRecDepth 100000 in
theorem mc_peopled (l : Launch) (D : va_G) (ct : Nat → ClassId) (h0 : Nat) (y : Nat → Nat) (B : Int) (r : zRr) (q : zRq) (hJ0 : mJ B r) : zC l yX12_peopled (.code yX12_peopled cX12_peopled 3 (some .int) :: wsL_law0) ({ frames := 1, cells := 0, slots := 0, locals := 80 }) D ct [] [.ref h0] (mW ct h0 y r q) (S := Int32) (fun u => some (.int u)) (fun u => zI 0 63 u ∧ u = (Gm_peopled r q) ∧ True) (fun u => mW ct h0 y r q) 0 0 := by
  refine zofQ cX12_peopled 3 (some .int) (by decide) rfl (Nat.le_of_ble_eq_true rfl) ?_
  intro p e s m below meth c A a9 Q ha9 hx hb hr hml hts hown hlocks hname hK hA hZ hN hQ
  have hown : s.vm.findClass RX12 = some m.cls := hown
  have hiX12 : ∀ w ∈ wsX120, w ∈ .code yX12_peopled cX12_peopled 3 (some .int) :: wsL_law0 := fun _ h => ki (zs_wsX120 _ h)
  have lf13 := hts (.fieldLink RX12 13 "BeardPassModel" "land" "[I") (ki (zr7 20 rfl))
  have lf108 := hts (.fieldLink RX12 108 "BeardPassModel" "s" "[I") (ki (zr9 4 rfl))
  obtain ⟨X, hX⟩ : ∃ X, X = (Gm_peopled r q) := ⟨_, rfl⟩
  have cut4 : ∀ (n4 : Nat) (w4_1 : Int32) (w4_2 : Int32) (hw4_1 : zI 0 63 w4_1) (hw4_2 : zI 0 6 w4_2) (hE : X = Gm_peopled_4 r n4 w4_1 w4_2), 6 - w4_2.toInt < (n4 : Int) → zKf p l e ({ frames := 1, cells := 0, slots := 0, locals := 80 }) s m a9 below meth c Q D A 4 3 [] (mW ct h0 y r q) [(0, .ref h0), (1, .int w4_1), (2, .int w4_2)] := by
    intro n4
    induction n4 with
    | zero => intro w4_1 w4_2 hw4_1 hw4_2 hE hm4; exact zI.no hw4_2 (by decide) hm4
    | succ n4 ih4 =>
      intro w4_1 w4_2 hw4_1 hw4_2 hE hm4
      have hE : X = Bm_peopled_4 r (Gm_peopled_4 r n4) w4_1 w4_2 := hE
      unfold Bm_peopled_4 at hE
      intro H locs ls hw hS hl
      refine lv_iload_n hx hb dX12_peopled_4 rfl (lv_at hl 2 rfl) ?_
      refine lv_aload_n hx hb dX12_peopled_5 rfl (lv_at hl 0 rfl) ?_
      refine mget (v := .ref (y 1)) hx hb hts hiX12 hown hK hw 10 (by decide) lf13 rfl rfl dX12_peopled_6 ?_
      refine lv_iconst (v := 1) hx hb dX12_peopled_9 (by decide) ?_
      refine ziald hx hb hK hw 2 mWg1 1 (by decide) (by decide) (by decide) dX12_peopled_10 (zgenE (lo := 0) (hi := 6) ((show zI 0 6 (r 1 1) from hJ0.i 1 1)) (fun v1 ev1 hv1 => ?_))
      have hE := zletE ev1 hE
      refine lv_icmp_ge (tgt := 33) hx hb dX12_peopled_11 (by decide) (fun c2 => ?_) (fun c2 => ?_)
      · have hE := zifT c2 hE
        refine lv_iload_n hx hb dX12_peopled_33 rfl (lv_at hl 1 rfl) ?_
        exact ziretQ hQ hx hb hr rfl hlocks w4_1 rfl ⟨hw4_1, (hE.symm.trans hX), trivial⟩ hw hS dX12_peopled_34
      · have hE := zifF c2 hE
        have k3 : zI 0 5 (w4_2) := zI.ltU (zI.nle c2) hw4_2 hv1 (by decide)
        have k4 : zI 1 6 (v1) := zI.ltD (zI.nle c2) hw4_2 hv1 (by decide)
        refine lv_iload_n hx hb dX12_peopled_14 rfl (lv_at hl 1 rfl) ?_
        refine lv_iconst (v := 1) hx hb dX12_peopled_15 (by decide) ?_
        refine lv_aload_n hx hb dX12_peopled_16 rfl (lv_at hl 0 rfl) ?_
        refine mget (v := .ref (y 32)) hx hb hts hiX12 hown hK hw 45 (by decide) lf108 rfl rfl dX12_peopled_17 ?_
        refine lv_iconst (v := 1) hx hb dX12_peopled_20 (by decide) ?_
        refine lv_iload_n hx hb dX12_peopled_21 rfl (lv_at hl 2 rfl) ?_
        refine lv_iadd hx hb dX12_peopled_22 (zgenE (lo := 1) (hi := 6) (zI.add (zI.lit (a := 1) (b := 1) (c := 1) (by decide)) k3 (by decide)) (fun v5 ev5 hv5 => ?_))
        have hE := zletE ev5 hE
        refine miald hx hb hK hw 33 mWg32 hv5 (by decide) dX12_peopled_23 (zgenE (lo := 0) (hi := 5) ((ms_1 hJ0 hv5)) (fun v6 ev6 hv6 => ?_))
        have hE := zletE ev6 hE
        refine lv_ishl hx hb dX12_peopled_24 (zgenE (lo := 1) (hi := 32) (zI.shl hv6 5 (by decide)) (fun v7 ev7 hv7 => ?_))
        have hE := zletE ev7 hE
        refine lv_ior hx hb dX12_peopled_25 (zgenE (lo := 0) (hi := 63) (zI.or 6 hw4_1 hv7 (by decide)) (fun v8 ev8 hv8 => ?_))
        have hE := zletE ev8 hE
        refine lv_istore_n (lv' := [(1, .int v8), (0, .ref h0), (2, .int w4_2)]) hx hb dX12_peopled_26 rfl hl (by decide) rfl (fun ls hl => ?_)
        refine lv_iinc (v := w4_2 + 1) (lv' := [(2, .int (w4_2 + 1)), (1, .int v8), (0, .ref h0)]) hx hb dX12_peopled_27 hl (k := 2) rfl (rfl) (by decide) rfl (fun ls hl => ?_)
        have k9 : zI 1 6 (w4_2 + 1) := zI.add k3 (zI.lit (a := 1) (b := 1) (by decide)) (by decide)
        refine lv_goto (tgt := 4) hx hb dX12_peopled_30 (by decide) ?_
        exact ih4 v8 (w4_2 + 1) hv8 (k9.w (c := 0) (d := 6) (by decide)) hE (zI.up k3 (by decide) hm4) H locs ls hw hS (lv_sub hl [2, 1, 0] rfl)
  intro H locs hw hS ls hl
  have hl : lv_has ls 3 [(0, .ref h0)] := hl
  have hE := hX
  unfold Gm_peopled at hE
  refine lv_iconst (v := 0) hx hb dX12_peopled_0 (by decide) ?_
  refine lv_istore_n (lv' := [(1, .int 0), (0, .ref h0)]) hx hb dX12_peopled_1 rfl hl (by decide) rfl (fun ls hl => ?_)
  refine lv_iconst (v := 0) hx hb dX12_peopled_2 (by decide) ?_
  refine lv_istore_n (lv' := [(2, .int 0), (1, .int 0), (0, .ref h0)]) hx hb dX12_peopled_3 rfl hl (by decide) rfl (fun ls hl => ?_)
  exact cut4 7 0 0 ((zI.lit (a := 0) (b := 0) (c := 0) (by decide)).w (c := 0) (d := 63) (by decide)) ((zI.lit (a := 0) (b := 0) (c := 0) (by decide)).w (c := 0) (d := 6) (by decide)) hE (zI.m0 (zI.lit (a := 0) (b := 0) (c := 0) (by decide)) (by decide)) H locs ls hw hS (lv_sub hl [2, 1, 0] rfl)

noncomputable def Bm_mostAsked_4 (r : zRr) (ih4 : Int32 → Int32 → Int32) (w4_1 : Int32) (w4_2 : Int32) : Int32 :=
  zlet (α := Int32) (r 1 0) <| fun v1 => zif (v1 ≤ w4_2) (w4_1) (zlet (α := Int32) (r 4 (zn w4_2)) <| fun v5 => zlet (α := Int32) (if w4_1 < v5 then v5 else w4_1) <| fun v6 => ih4 v6 (w4_2 + 1))
noncomputable def Gm_mostAsked_4 (r : zRr) (n : Nat) : Int32 → Int32 → Int32 :=
  Nat.rec (motive := fun _ => Int32 → Int32 → Int32) (fun _ _ => default) (fun _ ih => Bm_mostAsked_4 r ih) n
noncomputable def Gm_mostAsked (r : zRr) (q : zRq) : Int32 :=
  Gm_mostAsked_4 r 7 0 0
set_option maxHeartbeats 4000000 in
set_option maxRecDepth 100000 in
theorem mc_mostAsked (l : Launch) (D : va_G) (ct : Nat → ClassId) (h0 : Nat) (y : Nat → Nat) (B : Int) (r : zRr) (q : zRq) (hJ0 : mJ B r) : zC l yX12_mostAsked (.code yX12_mostAsked cX12_mostAsked 3 (some .int) :: wsL_law0) ({ frames := 2, cells := 0, slots := 0, locals := 120 }) D ct [] [.ref h0] (mW ct h0 y r q) (S := Int32) (fun u => some (.int u)) (fun u => zI (-2147483648) 2147483647 u ∧ u = (Gm_mostAsked r q) ∧ True) (fun u => mW ct h0 y r q) 0 0 := by
  refine zofQ cX12_mostAsked 3 (some .int) (by decide) rfl (Nat.le_of_ble_eq_true rfl) ?_
  intro p e s m below meth c A a9 Q ha9 hx hb hr hml hts hown hlocks hname hK hA hZ hN hQ
  have hown : s.vm.findClass RX12 = some m.cls := hown
  have hiX12 : ∀ w ∈ wsX120, w ∈ .code yX12_mostAsked cX12_mostAsked 3 (some .int) :: wsL_law0 := fun _ h => ki (zs_wsX120 _ h)
  have lf13 := hts (.fieldLink RX12 13 "BeardPassModel" "land" "[I") (ki (zr7 20 rfl))
  have lf23 := hts (.fieldLink RX12 23 "BeardPassModel" "asks" "[I") (ki (zr7 23 rfl))
  obtain ⟨X, hX⟩ : ∃ X, X = (Gm_mostAsked r q) := ⟨_, rfl⟩
  have cut4 : ∀ (n4 : Nat) (w4_1 : Int32) (w4_2 : Int32) (hw4_2 : zI 0 6 w4_2) (hE : X = Gm_mostAsked_4 r n4 w4_1 w4_2), 6 - w4_2.toInt < (n4 : Int) → zKf p l e ({ frames := 2, cells := 0, slots := 0, locals := 120 }) s m a9 below meth c Q D A 4 3 [] (mW ct h0 y r q) [(0, .ref h0), (1, .int w4_1), (2, .int w4_2)] := by
    intro n4
    induction n4 with
    | zero => intro w4_1 w4_2 hw4_2 hE hm4; exact zI.no hw4_2 (by decide) hm4
    | succ n4 ih4 =>
      intro w4_1 w4_2 hw4_2 hE hm4
      have hE : X = Bm_mostAsked_4 r (Gm_mostAsked_4 r n4) w4_1 w4_2 := hE
      unfold Bm_mostAsked_4 at hE
      intro H locs ls hw hS hl
      refine lv_iload_n hx hb dX12_mostAsked_4 rfl (lv_at hl 2 rfl) ?_
      refine lv_aload_n hx hb dX12_mostAsked_5 rfl (lv_at hl 0 rfl) ?_
      refine mget (v := .ref (y 1)) hx hb hts hiX12 hown hK hw 10 (by decide) lf13 rfl rfl dX12_mostAsked_6 ?_
      refine lv_iconst (v := 0) hx hb dX12_mostAsked_9 (by decide) ?_
      refine ziald hx hb hK hw 2 mWg1 0 (by decide) (by decide) (by decide) dX12_mostAsked_10 (zgenE (lo := 0) (hi := 6) ((show zI 0 6 (r 1 0) from hJ0.i 1 0)) (fun v1 ev1 hv1 => ?_))
      have hE := zletE ev1 hE
      refine lv_icmp_ge (tgt := 31) hx hb dX12_mostAsked_11 (by decide) (fun c2 => ?_) (fun c2 => ?_)
      · have hE := zifT c2 hE
        refine lv_iload_n hx hb dX12_mostAsked_31 rfl (lv_at hl 1 rfl) ?_
        exact ziretQ hQ hx hb hr rfl hlocks w4_1 rfl ⟨(zI.top _), (hE.symm.trans hX), trivial⟩ hw hS dX12_mostAsked_32
      · have hE := zifF c2 hE
        have k3 : zI 0 5 (w4_2) := zI.ltU (zI.nle c2) hw4_2 hv1 (by decide)
        have k4 : zI 1 6 (v1) := zI.ltD (zI.nle c2) hw4_2 hv1 (by decide)
        refine lv_iload_n hx hb dX12_mostAsked_14 rfl (lv_at hl 1 rfl) ?_
        refine lv_aload_n hx hb dX12_mostAsked_15 rfl (lv_at hl 0 rfl) ?_
        refine mget (v := .ref (y 4)) hx hb hts hiX12 hown hK hw 13 (by decide) lf23 rfl rfl dX12_mostAsked_16 ?_
        refine lv_iload_n hx hb dX12_mostAsked_19 rfl (lv_at hl 2 rfl) ?_
        refine miald hx hb hK hw 5 mWg4 k3 (by decide) dX12_mostAsked_20 (zgenE (zI.top _) (fun v5 ev5 _ => ?_))
        have hE := zletE ev5 hE
        refine va_mmax hx hb (hml.trans hl.1.symm) hown (hts (.methodLink RX12 404 Lib.Math.max.name) (ki (zr41 20 rfl))) (hts (.static Lib.Math.max.name) (ki (zr40 8 rfl))) (hts (.initialized "java/lang/Math") (ki (zr35 18 rfl))) (hts (.code Lib.Math.max.name Lib.Math.max.code 2 (some .int)) (ki (zr40 9 rfl))) (Nat.le_of_ble_eq_true rfl) (Nat.le_of_ble_eq_true rfl) (Nat.le_of_ble_eq_true rfl) (Nat.le_of_ble_eq_true rfl) dX12_mostAsked_21 (zgenE (zI.top _) (fun v6 ev6 _ => ?_))
        have hE := zletE ev6 hE
        refine lv_istore_n (lv' := [(1, .int v6), (0, .ref h0), (2, .int w4_2)]) hx hb dX12_mostAsked_24 rfl hl (by decide) rfl (fun ls hl => ?_)
        refine lv_iinc (v := w4_2 + 1) (lv' := [(2, .int (w4_2 + 1)), (1, .int v6), (0, .ref h0)]) hx hb dX12_mostAsked_25 hl (k := 2) rfl (rfl) (by decide) rfl (fun ls hl => ?_)
        have k7 : zI 1 6 (w4_2 + 1) := zI.add k3 (zI.lit (a := 1) (b := 1) (by decide)) (by decide)
        refine lv_goto (tgt := 4) hx hb dX12_mostAsked_28 (by decide) ?_
        exact ih4 v6 (w4_2 + 1) (k7.w (c := 0) (d := 6) (by decide)) hE (zI.up k3 (by decide) hm4) H locs ls hw hS (lv_sub hl [2, 1, 0] rfl)
  intro H locs hw hS ls hl
  have hl : lv_has ls 3 [(0, .ref h0)] := hl
  have hE := hX
  unfold Gm_mostAsked at hE
  refine lv_iconst (v := 0) hx hb dX12_mostAsked_0 (by decide) ?_
  refine lv_istore_n (lv' := [(1, .int 0), (0, .ref h0)]) hx hb dX12_mostAsked_1 rfl hl (by decide) rfl (fun ls hl => ?_)
  refine lv_iconst (v := 0) hx hb dX12_mostAsked_2 (by decide) ?_
  refine lv_istore_n (lv' := [(2, .int 0), (1, .int 0), (0, .ref h0)]) hx hb dX12_mostAsked_3 rfl hl (by decide) rfl (fun ls hl => ?_)
  exact cut4 7 0 0 ((zI.lit (a := 0) (b := 0) (c := 0) (by decide)).w (c := 0) (d := 6) (by decide)) hE (zI.m0 (zI.lit (a := 0) (b := 0) (c := 0) (by decide)) (by decide)) H locs ls hw hS (lv_sub hl [2, 1, 0] rfl)

set_option maxHeartbeats 4000000 in
set_option maxRecDepth 100000 in
theorem mc_person (l : Launch) (D : va_G) (ct : Nat → ClassId) (h0 : Nat) (y : Nat → Nat) (B : Int) (a1 : Int32) (a2 : Int32) (r : zRr) (q : zRq) (hJ0 : mJ B r) : zC l yX12_person (.code yX12_person cX12_person 3 (some .int) :: wsL_law0) ({ frames := 2, cells := 0, slots := 0, locals := 120 }) D ct [] [.ref h0, .int a1, .int a2] (mW ct h0 y r q) (S := Int32 × zRr) (fun u => some (.int u.1)) (fun u => zI (-2147483648) 2147483647 u.1 ∧ mJ B u.2 ∧ zFr [100] r u.2 ∧ True) (fun u => mW ct h0 y u.2 q) 0 0 := by
  refine zofQ cX12_person 3 (some .int) (by decide) rfl (Nat.le_of_ble_eq_true rfl) ?_
  intro p e s m below meth c A a9 Q ha9 hx hb hr hml hts hown hlocks hname hK hA hZ hN hQ
  have hown : s.vm.findClass RX12 = some m.cls := hown
  have hiX12 : ∀ w ∈ wsX120, w ∈ .code yX12_person cX12_person 3 (some .int) :: wsL_law0 := fun _ h => ki (zs_wsX120 _ h)
  have lf29 := hts (.fieldLink RX12 29 "BeardPassModel" "kind" "[I") (ki (zr8 1 rfl))
  have lf108 := hts (.fieldLink RX12 108 "BeardPassModel" "s" "[I") (ki (zr9 4 rfl))
  have lf129 := hts (.fieldLink RX12 129 "BeardPassModel" "thrown" "I") (ki (zr10 1 rfl))
  intro H locs hw hS ls hl
  have hl : lv_has ls 3 [(0, .ref h0), (1, .int a1), (2, .int a2)] := hl
  refine lv_aload_n hx hb dX12_person_0 rfl (lv_at hl 0 rfl) ?_
  refine lv_iconst (v := 0) hx hb dX12_person_1 (by decide) ?_
  refine mput (ty := .int) (v := .int 0) hx hb hts hiX12 hown hK hw hS 0 (by decide) lf129 rfl rfl (by decide +kernel) rfl rfl dX12_person_2 (zset r 100 (fun _ => (0 : Int32))) _ mWf0 (fun H locs hw hS => ?_)
  refine mgen (P := fun x => mJ B x ∧ zFr [100] r x) hw ⟨hJ0.setc rfl (fun _ => (zI.top _)), (zFr.refl).set rfl⟩ (fun r1 er1 hw pr1 => ?_)
  refine lv_aload_n hx hb dX12_person_5 rfl (lv_at hl 0 rfl) ?_
  refine lv_iload_n hx hb dX12_person_6 rfl (lv_at hl 1 rfl) ?_
  refine mcallV (As := [.int a1]) (rest := []) ⟨hx, hb, hml, hown, hts⟩ (mc_isPerson l D ct h0 y B a1 r1 q pr1.1) (wqX12_370_mc_isPerson hts ⟨Nat.le_of_ble_eq_true rfl, Nat.le_of_ble_eq_true rfl⟩) hw hS hA hK hN rfl hl.1 rfl (Nat.le_of_ble_eq_true rfl) dX12_person_7 10 rfl (fun u2 H locs pu2 hw hS => ?_)
  have hu2 : zI 0 1 u2 := pu2.1
  have yu2_0 : ¬ u2 = 0 → zI 0 5 a1 := pu2.2.1
  have xu2 : u2 = (Gm_isPerson a1 r1 q) := pu2.2.2.1
  have hw : zPD D A (mW ct h0 y r1 q) H := hw
  refine zfr 10 [.int u2] rfl rfl ?_
  refine lv_if_eq (tgt := 22) hx hb dX12_person_10 (by decide) (fun c4 => ?_) (fun c4 => ?_)
  · have k5 : zI 0 0 (u2) := zI.eqq c4 (zI.lit (a := 0) (b := 0) (c := 0) (by decide))
    refine lv_iconst (v := (-1)) hx hb dX12_person_22 (by decide) ?_
    exact ziretQ hQ hx hb hr rfl hlocks ((-1), r1) rfl ⟨(zI.top _), pr1.1, pr1.2, trivial⟩ hw hS dX12_person_23
  · have k6 : zI 1 1 (u2) := zI.neD c4 hu2 (zI.lit (a := 0) (b := 0) (c := 0) (by decide)) (by decide)
    refine lv_iload_n hx hb dX12_person_13 rfl (lv_at hl 2 rfl) ?_
    refine lv_iconst (v := 0) hx hb dX12_person_14 (by decide) ?_
    refine lv_iconst (v := 5) hx hb dX12_person_15 (by decide) ?_
    refine scallE (As := [.int a2, .int 0, .int 5]) (rest := []) ⟨hx, hb, hml, hown, hts⟩ (mc_within l D ct a2 0 5) (va_cwS 3 hts (kgS (zr25 11 rfl) (zr25 12 rfl) (zr1 5 rfl) (zr25 13 rfl)) rfl rfl rfl (by decide +kernel) ⟨Nat.le_of_ble_eq_true rfl, Nat.le_of_ble_eq_true rfl⟩) hw hS hA hK hN mWn rfl hl.1 rfl (Nat.le_of_ble_eq_true rfl) dX12_person_16 19 rfl (fun u7 H locs pu7 hw hS => ?_)
    have hu7 : zI 0 1 u7 := pu7.1
    have yu7_0 : ¬ u7 = 0 → (0 : Int32) ≤ a2 ∧ a2 ≤ (5 : Int32) := pu7.2.1
    have xu7 : u7 = (Gm_within a2 (0 : Int32) (5 : Int32)) := pu7.2.2.1
    refine zfr 19 [.int u7] rfl rfl ?_
    refine lv_if_ne (tgt := 24) hx hb dX12_person_19 (by decide) (fun c9 => ?_) (fun c9 => ?_)
    · have k10 : zI 1 1 (u7) := zI.neD c9 hu7 (zI.lit (a := 0) (b := 0) (c := 0) (by decide)) (by decide)
      have k11 : zI 0 2147483647 (a2) := zI.leD (yu7_0 c9).1 (zI.lit (a := 0) (b := 0) (c := 0) (by decide)) (zI.top _) (by decide)
      have k12 : zI 0 5 (a2) := zI.leU (yu7_0 c9).2 k11 (zI.lit (a := 5) (b := 5) (c := 5) (by decide)) (by decide)
      refine lv_iload_n hx hb dX12_person_24 rfl (lv_at hl 2 rfl) ?_
      refine lv_iconst (v := 2) hx hb dX12_person_25 (by decide) ?_
      refine lv_icmp_ge (tgt := 51) hx hb dX12_person_26 (by decide) (fun c13 => ?_) (fun c13 => ?_)
      · have k14 : zI 2 5 (a2) := zI.leD c13 (zI.lit (a := 2) (b := 2) (c := 2) (by decide)) k12 (by decide)
        refine lv_iload_n hx hb dX12_person_51 rfl (lv_at hl 2 rfl) ?_
        refine lv_iconst (v := 4) hx hb dX12_person_52 (by decide) ?_
        refine lv_icmp_ge (tgt := 93) hx hb dX12_person_53 (by decide) (fun c15 => ?_) (fun c15 => ?_)
        · have k16 : zI 4 5 (a2) := zI.leD c15 (zI.lit (a := 4) (b := 4) (c := 4) (by decide)) k14 (by decide)
          refine lv_iload_n hx hb dX12_person_93 rfl (lv_at hl 2 rfl) ?_
          refine lv_iconst (v := 4) hx hb dX12_person_94 (by decide) ?_
          refine lv_icmp_ne (tgt := 110) hx hb dX12_person_95 (by decide) (fun c17 => ?_) (fun c17 => ?_)
          · have k18 : zI 5 5 (a2) := zI.neD c17 k16 (zI.lit (a := 4) (b := 4) (c := 4) (by decide)) (by decide)
            refine lv_aload_n hx hb dX12_person_110 rfl (lv_at hl 0 rfl) ?_
            refine mget (v := .ref (y 32)) hx hb hts hiX12 hown hK hw 45 (by decide) lf108 rfl rfl dX12_person_111 ?_
            refine lv_bipush (v := 25) hx hb dX12_person_114 (by decide) ?_
            refine lv_iload_n hx hb dX12_person_116 rfl (lv_at hl 1 rfl) ?_
            refine lv_iadd hx hb dX12_person_117 (zgen (lo := 25) (hi := 30) (zI.add (zI.lit (a := 25) (b := 25) (c := 25) (by decide)) (yu2_0 c4) (by decide)) (fun v19 hv19 => ?_))
            refine miald hx hb hK hw 33 mWg32 hv19 (by decide) dX12_person_118 (zgen (lo := 0) (hi := 63) ((ms_25 pr1.1 hv19)) (fun v20 hv20 => ?_))
            exact ziretQ hQ hx hb hr rfl hlocks (v20, r1) rfl ⟨(zI.top _), pr1.1, pr1.2, trivial⟩ hw hS dX12_person_119
          · have k21 : zI 4 4 (a2) := zI.eqq c17 (zI.lit (a := 4) (b := 4) (c := 4) (by decide))
            refine lv_aload_n hx hb dX12_person_98 rfl (lv_at hl 0 rfl) ?_
            refine mget (v := .ref (y 32)) hx hb hts hiX12 hown hK hw 45 (by decide) lf108 rfl rfl dX12_person_99 ?_
            refine lv_bipush (v := 19) hx hb dX12_person_102 (by decide) ?_
            refine lv_iload_n hx hb dX12_person_104 rfl (lv_at hl 1 rfl) ?_
            refine lv_iadd hx hb dX12_person_105 (zgen (lo := 19) (hi := 24) (zI.add (zI.lit (a := 19) (b := 19) (c := 19) (by decide)) (yu2_0 c4) (by decide)) (fun v22 hv22 => ?_))
            refine miald hx hb hK hw 33 mWg32 hv22 (by decide) dX12_person_106 (zgen (zI.top _) (fun v23 _ => ?_))
            refine lv_goto (tgt := 119) hx hb dX12_person_107 (by decide) ?_
            exact ziretQ hQ hx hb hr rfl hlocks (v23, r1) rfl ⟨(zI.top _), pr1.1, pr1.2, trivial⟩ hw hS dX12_person_119
        · have k24 : zI 2 3 (a2) := zI.ltU (zI.nle c15) k14 (zI.lit (a := 4) (b := 4) (c := 4) (by decide)) (by decide)
          refine lv_iload_n hx hb dX12_person_56 rfl (lv_at hl 2 rfl) ?_
          refine lv_iconst (v := 2) hx hb dX12_person_57 (by decide) ?_
          refine lv_icmp_ne (tgt := 83) hx hb dX12_person_58 (by decide) (fun c25 => ?_) (fun c25 => ?_)
          · have k26 : zI 3 3 (a2) := zI.neD c25 k24 (zI.lit (a := 2) (b := 2) (c := 2) (by decide)) (by decide)
            refine lv_aload_n hx hb dX12_person_83 rfl (lv_at hl 0 rfl) ?_
            refine mget (v := .ref (y 32)) hx hb hts hiX12 hown hK hw 45 (by decide) lf108 rfl rfl dX12_person_84 ?_
            refine lv_bipush (v := 13) hx hb dX12_person_87 (by decide) ?_
            refine lv_iload_n hx hb dX12_person_89 rfl (lv_at hl 1 rfl) ?_
            refine lv_iadd hx hb dX12_person_90 (zgen (lo := 13) (hi := 18) (zI.add (zI.lit (a := 13) (b := 13) (c := 13) (by decide)) (yu2_0 c4) (by decide)) (fun v27 hv27 => ?_))
            refine miald hx hb hK hw 33 mWg32 hv27 (by decide) dX12_person_91 (zgen (lo := 0) (hi := 41) ((ms_13 pr1.1 hv27)) (fun v28 hv28 => ?_))
            exact ziretQ hQ hx hb hr rfl hlocks (v28, r1) rfl ⟨(zI.top _), pr1.1, pr1.2, trivial⟩ hw hS dX12_person_92
          · have k29 : zI 2 2 (a2) := zI.eqq c25 (zI.lit (a := 2) (b := 2) (c := 2) (by decide))
            refine lv_aload_n hx hb dX12_person_61 rfl (lv_at hl 0 rfl) ?_
            refine mget (v := .ref (y 32)) hx hb hts hiX12 hown hK hw 45 (by decide) lf108 rfl rfl dX12_person_62 ?_
            refine lv_bipush (v := 7) hx hb dX12_person_65 (by decide) ?_
            refine lv_iload_n hx hb dX12_person_67 rfl (lv_at hl 1 rfl) ?_
            refine lv_iadd hx hb dX12_person_68 (zgen (lo := 7) (hi := 12) (zI.add (zI.lit (a := 7) (b := 7) (c := 7) (by decide)) (yu2_0 c4) (by decide)) (fun v30 hv30 => ?_))
            refine miald hx hb hK hw 33 mWg32 hv30 (by decide) dX12_person_69 (zgen (zI.top _) (fun v31 _ => ?_))
            refine lv_aload_n hx hb dX12_person_70 rfl (lv_at hl 0 rfl) ?_
            refine mget (v := .ref (y 32)) hx hb hts hiX12 hown hK hw 45 (by decide) lf108 rfl rfl dX12_person_71 ?_
            refine lv_bipush (v := 13) hx hb dX12_person_74 (by decide) ?_
            refine lv_iload_n hx hb dX12_person_76 rfl (lv_at hl 1 rfl) ?_
            refine lv_iadd hx hb dX12_person_77 (zgen (lo := 13) (hi := 18) (zI.add (zI.lit (a := 13) (b := 13) (c := 13) (by decide)) (yu2_0 c4) (by decide)) (fun v32 hv32 => ?_))
            refine miald hx hb hK hw 33 mWg32 hv32 (by decide) dX12_person_78 (zgen (lo := 0) (hi := 41) ((ms_13 pr1.1 hv32)) (fun v33 hv33 => ?_))
            refine lv_iadd hx hb dX12_person_79 (zgen (zI.top _) (fun v34 _ => ?_))
            refine lv_goto (tgt := 92) hx hb dX12_person_80 (by decide) ?_
            exact ziretQ hQ hx hb hr rfl hlocks (v34, r1) rfl ⟨(zI.top _), pr1.1, pr1.2, trivial⟩ hw hS dX12_person_92
      · have k35 : zI 0 1 (a2) := zI.ltU (zI.nle c13) k12 (zI.lit (a := 2) (b := 2) (c := 2) (by decide)) (by decide)
        refine lv_iload_n hx hb dX12_person_29 rfl (lv_at hl 2 rfl) ?_
        refine lv_if_ne (tgt := 42) hx hb dX12_person_30 (by decide) (fun c36 => ?_) (fun c36 => ?_)
        · have k37 : zI 1 1 (a2) := zI.neD c36 k35 (zI.lit (a := 0) (b := 0) (c := 0) (by decide)) (by decide)
          refine lv_aload_n hx hb dX12_person_42 rfl (lv_at hl 0 rfl) ?_
          refine mget (v := .ref (y 32)) hx hb hts hiX12 hown hK hw 45 (by decide) lf108 rfl rfl dX12_person_43 ?_
          refine lv_iconst (v := 1) hx hb dX12_person_46 (by decide) ?_
          refine lv_iload_n hx hb dX12_person_47 rfl (lv_at hl 1 rfl) ?_
          refine lv_iadd hx hb dX12_person_48 (zgen (lo := 1) (hi := 6) (zI.add (zI.lit (a := 1) (b := 1) (c := 1) (by decide)) (yu2_0 c4) (by decide)) (fun v38 hv38 => ?_))
          refine miald hx hb hK hw 33 mWg32 hv38 (by decide) dX12_person_49 (zgen (lo := 0) (hi := 5) ((ms_1 pr1.1 hv38)) (fun v39 hv39 => ?_))
          exact ziretQ hQ hx hb hr rfl hlocks (v39, r1) rfl ⟨(zI.top _), pr1.1, pr1.2, trivial⟩ hw hS dX12_person_50
        · have k40 : zI 0 0 (a2) := zI.eqq c36 (zI.lit (a := 0) (b := 0) (c := 0) (by decide))
          refine lv_aload_n hx hb dX12_person_33 rfl (lv_at hl 0 rfl) ?_
          refine mget (v := .ref (y 6)) hx hb hts hiX12 hown hK hw 15 (by decide) lf29 rfl rfl dX12_person_34 ?_
          refine lv_iload_n hx hb dX12_person_37 rfl (lv_at hl 1 rfl) ?_
          refine miald hx hb hK hw 7 mWg6 (yu2_0 c4) (by decide) dX12_person_38 (zgen (zI.top _) (fun v41 _ => ?_))
          refine lv_goto (tgt := 50) hx hb dX12_person_39 (by decide) ?_
          exact ziretQ hQ hx hb hr rfl hlocks (v41, r1) rfl ⟨(zI.top _), pr1.1, pr1.2, trivial⟩ hw hS dX12_person_50
    · have k42 : zI 0 0 (u7) := zI.eqq c9 (zI.lit (a := 0) (b := 0) (c := 0) (by decide))
      refine lv_iconst (v := (-1)) hx hb dX12_person_22 (by decide) ?_
      exact ziretQ hQ hx hb hr rfl hlocks ((-1), r1) rfl ⟨(zI.top _), pr1.1, pr1.2, trivial⟩ hw hS dX12_person_23
noncomputable def Gm_opens (a1 : Int32) (r : zRr) (q : zRq) : zRr :=
  zlet (α := zRr) (zset r 16 (upd (r 16) (zn a1) (0 : Int32))) <| fun r1 => zlet (α := zRr) (zset r1 18 (upd (r1 18) (zn a1) (0 : Int32))) <| fun r2 => zlet (α := zRr) (zset r2 19 (upd (r2 19) (zn a1) (0 : Int32))) <| fun r3 => zlet (α := zRr) (zset r3 20 (upd (r3 20) (zn a1) (20 : Int32))) <| fun r4 => zlet (α := zRr) (zset r4 22 (upd (r4 22) (zn a1) (0 : Int32))) <| fun r5 => r5
set_option maxHeartbeats 4000000 in
set_option maxRecDepth 100000 in
theorem mc_opens (l : Launch) (D : va_G) (ct : Nat → ClassId) (h0 : Nat) (y : Nat → Nat) (B : Int) (a1 : Int32) (r : zRr) (q : zRq) (g1 : zI 0 5 a1) (hJ0 : mJ B r) : zC l yX12_opens (.code yX12_opens cX12_opens 2 none :: wsL_law0) ({ frames := 1, cells := 0, slots := 0, locals := 80 }) D ct [] [.ref h0, .int a1] (mW ct h0 y r q) (S := zRr) (fun u => none) (fun u => mJ B u ∧ zFr [16, 18, 19, 20, 22] r u ∧ u = (Gm_opens a1 r q) ∧ True) (fun u => mW ct h0 y u q) 0 0 := by
  refine zofQ cX12_opens 2 none (by decide) rfl (Nat.le_of_ble_eq_true rfl) ?_
  intro p e s m below meth c A a9 Q ha9 hx hb hr hml hts hown hlocks hname hK hA hZ hN hQ
  have hown : s.vm.findClass RX12 = some m.cls := hown
  have hiX12 : ∀ w ∈ wsX120, w ∈ .code yX12_opens cX12_opens 2 none :: wsL_law0 := fun _ h => ki (zs_wsX120 _ h)
  have lf60 := hts (.fieldLink RX12 60 "BeardPassModel" "keptBy" "[I") (ki (zr8 12 rfl))
  have lf66 := hts (.fieldLink RX12 66 "BeardPassModel" "against" "[I") (ki (zr8 14 rfl))
  have lf69 := hts (.fieldLink RX12 69 "BeardPassModel" "sum" "[I") (ki (zr8 15 rfl))
  have lf72 := hts (.fieldLink RX12 72 "BeardPassModel" "sumBy" "[I") (ki (zr8 16 rfl))
  have lf78 := hts (.fieldLink RX12 78 "BeardPassModel" "termBy" "[I") (ki (zr8 18 rfl))
  obtain ⟨X, hX⟩ : ∃ X, X = (Gm_opens a1 r q) := ⟨_, rfl⟩
  intro H locs hw hS ls hl
  have hl : lv_has ls 2 [(0, .ref h0), (1, .int a1)] := hl
  have hE := hX
  unfold Gm_opens at hE
  refine lv_aload_n hx hb dX12_opens_0 rfl (lv_at hl 0 rfl) ?_
  refine mget (v := .ref (y 16)) hx hb hts hiX12 hown hK hw 27 (by decide) lf60 rfl rfl dX12_opens_1 ?_
  refine lv_iload_n hx hb dX12_opens_4 rfl (lv_at hl 1 rfl) ?_
  refine lv_iconst (v := 0) hx hb dX12_opens_5 (by decide) ?_
  refine miast hx hb hK hw hS 17 mWg16 g1 (by decide) dX12_opens_6 (mW ct h0 y (zset r 16 (upd (r 16) (zn a1) (0 : Int32))) q) mWs16 (fun H locs hw hS => ?_)
  refine mgen (P := fun x => mJ B x ∧ zFr [16, 18, 19, 20, 22] r x) hw ⟨hJ0.set rfl (zI.top _), (zFr.refl).set rfl⟩ (fun r1 er1 hw pr1 => ?_)
  have hE := zletE er1 hE
  refine lv_aload_n hx hb dX12_opens_7 rfl (lv_at hl 0 rfl) ?_
  refine mget (v := .ref (y 18)) hx hb hts hiX12 hown hK hw 29 (by decide) lf66 rfl rfl dX12_opens_8 ?_
  refine lv_iload_n hx hb dX12_opens_11 rfl (lv_at hl 1 rfl) ?_
  refine lv_iconst (v := 0) hx hb dX12_opens_12 (by decide) ?_
  refine miast hx hb hK hw hS 19 mWg18 g1 (by decide) dX12_opens_13 (mW ct h0 y (zset r1 18 (upd (r1 18) (zn a1) (0 : Int32))) q) mWs18 (fun H locs hw hS => ?_)
  refine mgen (P := fun x => mJ B x ∧ zFr [16, 18, 19, 20, 22] r x) hw ⟨pr1.1.set rfl (zI.top _), pr1.2.set rfl⟩ (fun r2 er2 hw pr2 => ?_)
  have hE := zletE er2 hE
  refine lv_aload_n hx hb dX12_opens_14 rfl (lv_at hl 0 rfl) ?_
  refine mget (v := .ref (y 19)) hx hb hts hiX12 hown hK hw 30 (by decide) lf69 rfl rfl dX12_opens_15 ?_
  refine lv_iload_n hx hb dX12_opens_18 rfl (lv_at hl 1 rfl) ?_
  refine lv_iconst (v := 0) hx hb dX12_opens_19 (by decide) ?_
  refine miast hx hb hK hw hS 20 mWg19 g1 (by decide) dX12_opens_20 (mW ct h0 y (zset r2 19 (upd (r2 19) (zn a1) (0 : Int32))) q) mWs19 (fun H locs hw hS => ?_)
  refine mgen (P := fun x => mJ B x ∧ zFr [16, 18, 19, 20, 22] r x) hw ⟨pr2.1.set rfl (zI.top _), pr2.2.set rfl⟩ (fun r3 er3 hw pr3 => ?_)
  have hE := zletE er3 hE
  refine lv_aload_n hx hb dX12_opens_21 rfl (lv_at hl 0 rfl) ?_
  refine mget (v := .ref (y 20)) hx hb hts hiX12 hown hK hw 31 (by decide) lf72 rfl rfl dX12_opens_22 ?_
  refine lv_iload_n hx hb dX12_opens_25 rfl (lv_at hl 1 rfl) ?_
  refine lv_bipush (v := 20) hx hb dX12_opens_26 (by decide) ?_
  refine miast hx hb hK hw hS 21 mWg20 g1 (by decide) dX12_opens_28 (mW ct h0 y (zset r3 20 (upd (r3 20) (zn a1) (20 : Int32))) q) mWs20 (fun H locs hw hS => ?_)
  refine mgen (P := fun x => mJ B x ∧ zFr [16, 18, 19, 20, 22] r x) hw ⟨pr3.1.set rfl (zI.top _), pr3.2.set rfl⟩ (fun r4 er4 hw pr4 => ?_)
  have hE := zletE er4 hE
  refine lv_aload_n hx hb dX12_opens_29 rfl (lv_at hl 0 rfl) ?_
  refine mget (v := .ref (y 22)) hx hb hts hiX12 hown hK hw 33 (by decide) lf78 rfl rfl dX12_opens_30 ?_
  refine lv_iload_n hx hb dX12_opens_33 rfl (lv_at hl 1 rfl) ?_
  refine lv_iconst (v := 0) hx hb dX12_opens_34 (by decide) ?_
  refine miast hx hb hK hw hS 23 mWg22 g1 (by decide) dX12_opens_35 (mW ct h0 y (zset r4 22 (upd (r4 22) (zn a1) (0 : Int32))) q) mWs22 (fun H locs hw hS => ?_)
  refine mgen (P := fun x => mJ B x ∧ zFr [16, 18, 19, 20, 22] r x) hw ⟨pr4.1.set rfl (zI.top _), pr4.2.set rfl⟩ (fun r5 er5 hw pr5 => ?_)
  have hE := zletE er5 hE
  exact zvretQ hQ hx hb hr hlocks r5 rfl ⟨pr5.1, pr5.2, (hE.symm.trans hX), trivial⟩ hw hS dX12_opens_36

noncomputable def Gm_sums_45 (a1 : Int32) (r : zRr) (w45_s0 : Int32) : zRr :=
  zlet (α := zRr) (zset r 19 (upd (r 19) (zn a1) w45_s0)) <| fun r1 => zlet (α := zRr) (zset r1 22 (upd (r1 22) (zn a1) (0 : Int32))) <| fun r2 => r2
noncomputable def Gm_sums (a1 : Int32) (r : zRr) (q : zRq) : zRr :=
  zlet (α := Int32) (r 20 (zn a1)) <| fun v3 => zifn (v3 = (21 : Int32)) (zlet (α := Int32) (r 19 (zn a1)) <| fun v5 => zlet (α := Int32) (r 21 (zn a1)) <| fun v6 => zlet (α := Int32) (v5 + v6) <| fun v7 => Gm_sums_45 a1 r v7) (zlet (α := Int32) (r 19 (zn a1)) <| fun v9 => zlet (α := Int32) (r 21 (zn a1)) <| fun v10 => zlet (α := Int32) (v9 - v10) <| fun v11 => Gm_sums_45 a1 r v11)
set_option maxHeartbeats 4000000 in
set_option maxRecDepth 100000 in
theorem mc_sums (l : Launch) (D : va_G) (ct : Nat → ClassId) (h0 : Nat) (y : Nat → Nat) (B : Int) (a1 : Int32) (r : zRr) (q : zRq) (g1 : zI 0 5 a1) (hJ0 : mJ B r) : zC l yX12_sums (.code yX12_sums cX12_sums 2 none :: wsL_law0) ({ frames := 1, cells := 0, slots := 0, locals := 80 }) D ct [] [.ref h0, .int a1] (mW ct h0 y r q) (S := zRr) (fun u => none) (fun u => mJ B u ∧ zFr [19, 22] r u ∧ u = (Gm_sums a1 r q) ∧ True) (fun u => mW ct h0 y u q) 0 0 := by
  refine zofQ cX12_sums 2 none (by decide) rfl (Nat.le_of_ble_eq_true rfl) ?_
  intro p e s m below meth c A a9 Q ha9 hx hb hr hml hts hown hlocks hname hK hA hZ hN hQ
  have hown : s.vm.findClass RX12 = some m.cls := hown
  have hiX12 : ∀ w ∈ wsX120, w ∈ .code yX12_sums cX12_sums 2 none :: wsL_law0 := fun _ h => ki (zs_wsX120 _ h)
  have lf69 := hts (.fieldLink RX12 69 "BeardPassModel" "sum" "[I") (ki (zr8 15 rfl))
  have lf72 := hts (.fieldLink RX12 72 "BeardPassModel" "sumBy" "[I") (ki (zr8 16 rfl))
  have lf75 := hts (.fieldLink RX12 75 "BeardPassModel" "term" "[I") (ki (zr8 17 rfl))
  have lf78 := hts (.fieldLink RX12 78 "BeardPassModel" "termBy" "[I") (ki (zr8 18 rfl))
  obtain ⟨X, hX⟩ : ∃ X, X = (Gm_sums a1 r q) := ⟨_, rfl⟩
  have cut45 : ∀ (w45_s0 : Int32) (hw45_1 : zI 0 5 a1) (hw45_s1 : zI 0 5 a1) (hE : X = Gm_sums_45 a1 r w45_s0), zKf p l e ({ frames := 1, cells := 0, slots := 0, locals := 80 }) s m a9 below meth c Q D A 45 2 [.int w45_s0, .int a1, .ref (y 19)] (mW ct h0 y r q) [(0, .ref h0), (1, .int a1)] := by
    intro w45_s0 hw45_1 hw45_s1 hE H locs ls hw hS hl
    unfold Gm_sums_45 at hE
    refine miast hx hb hK hw hS 20 mWg19 hw45_s1 (by decide) dX12_sums_45 (mW ct h0 y (zset r 19 (upd (r 19) (zn a1) w45_s0)) q) mWs19 (fun H locs hw hS => ?_)
    refine mgen (P := fun x => mJ B x ∧ zFr [19, 22] r x) hw ⟨hJ0.set rfl (zI.top _), (zFr.refl).set rfl⟩ (fun r1 er1 hw pr1 => ?_)
    have hE := zletE er1 hE
    refine lv_aload_n hx hb dX12_sums_46 rfl (lv_at hl 0 rfl) ?_
    refine mget (v := .ref (y 22)) hx hb hts hiX12 hown hK hw 33 (by decide) lf78 rfl rfl dX12_sums_47 ?_
    refine lv_iload_n hx hb dX12_sums_50 rfl (lv_at hl 1 rfl) ?_
    refine lv_iconst (v := 0) hx hb dX12_sums_51 (by decide) ?_
    refine miast hx hb hK hw hS 23 mWg22 hw45_s1 (by decide) dX12_sums_52 (mW ct h0 y (zset r1 22 (upd (r1 22) (zn a1) (0 : Int32))) q) mWs22 (fun H locs hw hS => ?_)
    refine mgen (P := fun x => mJ B x ∧ zFr [19, 22] r x) hw ⟨pr1.1.set rfl (zI.top _), pr1.2.set rfl⟩ (fun r2 er2 hw pr2 => ?_)
    have hE := zletE er2 hE
    exact zvretQ hQ hx hb hr hlocks r2 rfl ⟨pr2.1, pr2.2, (hE.symm.trans hX), trivial⟩ hw hS dX12_sums_53
  intro H locs hw hS ls hl
  have hl : lv_has ls 2 [(0, .ref h0), (1, .int a1)] := hl
  have hE := hX
  unfold Gm_sums at hE
  refine lv_aload_n hx hb dX12_sums_0 rfl (lv_at hl 0 rfl) ?_
  refine mget (v := .ref (y 19)) hx hb hts hiX12 hown hK hw 30 (by decide) lf69 rfl rfl dX12_sums_1 ?_
  refine lv_iload_n hx hb dX12_sums_4 rfl (lv_at hl 1 rfl) ?_
  refine lv_aload_n hx hb dX12_sums_5 rfl (lv_at hl 0 rfl) ?_
  refine mget (v := .ref (y 20)) hx hb hts hiX12 hown hK hw 31 (by decide) lf72 rfl rfl dX12_sums_6 ?_
  refine lv_iload_n hx hb dX12_sums_9 rfl (lv_at hl 1 rfl) ?_
  refine miald hx hb hK hw 21 mWg20 g1 (by decide) dX12_sums_10 (zgenE (zI.top _) (fun v3 ev3 _ => ?_))
  have hE := zletE ev3 hE
  refine lv_bipush (v := 21) hx hb dX12_sums_11 (by decide) ?_
  refine lv_icmp_ne (tgt := 32) hx hb dX12_sums_13 (by decide) (fun c4 => ?_) (fun c4 => ?_)
  · have hE := zifnT c4 hE
    refine lv_aload_n hx hb dX12_sums_32 rfl (lv_at hl 0 rfl) ?_
    refine mget (v := .ref (y 19)) hx hb hts hiX12 hown hK hw 30 (by decide) lf69 rfl rfl dX12_sums_33 ?_
    refine lv_iload_n hx hb dX12_sums_36 rfl (lv_at hl 1 rfl) ?_
    refine miald hx hb hK hw 20 mWg19 g1 (by decide) dX12_sums_37 (zgenE (zI.top _) (fun v5 ev5 _ => ?_))
    have hE := zletE ev5 hE
    refine lv_aload_n hx hb dX12_sums_38 rfl (lv_at hl 0 rfl) ?_
    refine mget (v := .ref (y 21)) hx hb hts hiX12 hown hK hw 32 (by decide) lf75 rfl rfl dX12_sums_39 ?_
    refine lv_iload_n hx hb dX12_sums_42 rfl (lv_at hl 1 rfl) ?_
    refine miald hx hb hK hw 22 mWg21 g1 (by decide) dX12_sums_43 (zgenE (zI.top _) (fun v6 ev6 _ => ?_))
    have hE := zletE ev6 hE
    refine lv_iadd hx hb dX12_sums_44 (zgenE (zI.top _) (fun v7 ev7 _ => ?_))
    have hE := zletE ev7 hE
    exact cut45 v7 g1 g1 hE H locs ls hw hS (lv_sub hl [0, 1] rfl)
  · have hE := zifnF c4 hE
    have k8 : zI 21 21 (v3) := zI.eqq c4 (zI.lit (a := 21) (b := 21) (c := 21) (by decide))
    refine lv_aload_n hx hb dX12_sums_16 rfl (lv_at hl 0 rfl) ?_
    refine mget (v := .ref (y 19)) hx hb hts hiX12 hown hK hw 30 (by decide) lf69 rfl rfl dX12_sums_17 ?_
    refine lv_iload_n hx hb dX12_sums_20 rfl (lv_at hl 1 rfl) ?_
    refine miald hx hb hK hw 20 mWg19 g1 (by decide) dX12_sums_21 (zgenE (zI.top _) (fun v9 ev9 _ => ?_))
    have hE := zletE ev9 hE
    refine lv_aload_n hx hb dX12_sums_22 rfl (lv_at hl 0 rfl) ?_
    refine mget (v := .ref (y 21)) hx hb hts hiX12 hown hK hw 32 (by decide) lf75 rfl rfl dX12_sums_23 ?_
    refine lv_iload_n hx hb dX12_sums_26 rfl (lv_at hl 1 rfl) ?_
    refine miald hx hb hK hw 22 mWg21 g1 (by decide) dX12_sums_27 (zgenE (zI.top _) (fun v10 ev10 _ => ?_))
    have hE := zletE ev10 hE
    refine lv_isub hx hb dX12_sums_28 (zgenE (zI.top _) (fun v11 ev11 _ => ?_))
    have hE := zletE ev11 hE
    refine lv_goto (tgt := 45) hx hb dX12_sums_29 (by decide) ?_
    exact cut45 v11 g1 g1 hE H locs ls hw hS (lv_sub hl [0, 1] rfl)

noncomputable def Gm_tests_136 (a1 : Int32) (w136_2 : Int32) (rw136 : zRr) : zRr :=
  zlet (α := zRr) (zset rw136 15 (upd (rw136 15) (zn a1) w136_2)) <| fun r1 => zlet (α := zRr) (zset r1 18 (upd (r1 18) (zn a1) (0 : Int32))) <| fun r2 => zlet (α := zRr) (zset r2 19 (upd (r2 19) (zn a1) (0 : Int32))) <| fun r3 => zlet (α := zRr) (zset r3 20 (upd (r3 20) (zn a1) (20 : Int32))) <| fun r4 => r4
noncomputable def Gm_tests_135 (a1 : Int32) (w135_s0 : Int32) (rw135 : zRr) : zRr :=
  Gm_tests_136 a1 w135_s0 rw135
noncomputable def Gm_tests_130 (a1 : Int32) (rw130 : zRr) : zRr :=
  Gm_tests_135 a1 1 rw130
noncomputable def Gm_tests_106 (a1 : Int32) (w106_2 : Int32) (rw106 : zRr) : zRr :=
  zlet (α := Int32) (rw106 16 (zn a1)) <| fun v5 => zifn (v5 = (27 : Int32)) (Gm_tests_136 a1 w106_2 rw106) (zlet (α := Int32) (rw106 15 (zn a1)) <| fun v8 => zifn (v8 = (0 : Int32)) (Gm_tests_130 a1 rw106) (zif (w106_2 = (0 : Int32)) (Gm_tests_135 a1 0 rw106) (Gm_tests_130 a1 rw106)))
noncomputable def Gm_tests_105 (a1 : Int32) (w105_s0 : Int32) (rw105 : zRr) : zRr :=
  Gm_tests_106 a1 w105_s0 rw105
noncomputable def Gm_tests_104 (a1 : Int32) (rw104 : zRr) : zRr :=
  Gm_tests_105 a1 0 rw104
noncomputable def Gm_tests_76 (a1 : Int32) (w76_2 : Int32) (rw76 : zRr) : zRr :=
  zlet (α := Int32) (rw76 16 (zn a1)) <| fun v13 => zifn (v13 = (26 : Int32)) (Gm_tests_106 a1 w76_2 rw76) (zlet (α := Int32) (rw76 15 (zn a1)) <| fun v16 => zif (v16 = (0 : Int32)) (Gm_tests_104 a1 rw76) (zif (w76_2 = (0 : Int32)) (Gm_tests_104 a1 rw76) (Gm_tests_105 a1 1 rw76)))
noncomputable def Gm_tests_75 (a1 : Int32) (w75_s0 : Int32) (rw75 : zRr) : zRr :=
  Gm_tests_76 a1 w75_s0 rw75
noncomputable def Gm_tests_44 (a1 : Int32) (w44_2 : Int32) (rw44 : zRr) : zRr :=
  zlet (α := Int32) (rw44 18 (zn a1)) <| fun v21 => zifn (v21 = (25 : Int32)) (Gm_tests_76 a1 w44_2 rw44) (zlet (α := Int32) (rw44 17 (zn a1)) <| fun v24 => zlet (α := Int32) (rw44 19 (zn a1)) <| fun v25 => zifn (v24 = v25) (Gm_tests_75 a1 0 rw44) (Gm_tests_75 a1 1 rw44))
noncomputable def Gm_tests_43 (a1 : Int32) (w43_s0 : Int32) (rw43 : zRr) : zRr :=
  Gm_tests_44 a1 w43_s0 rw43
noncomputable def Gm_tests (a1 : Int32) (r : zRr) (q : zRq) : zRr :=
  zlet (α := zRr) ((Gm_sums a1 r q)) <| fun u27 => zlet (α := Int32) (u27 19 (zn a1)) <| fun v29 => zlet (α := Int32) (u27 18 (zn a1)) <| fun v30 => zifn (v30 = (24 : Int32)) (Gm_tests_44 a1 v29 u27) (zlet (α := Int32) (u27 17 (zn a1)) <| fun v33 => zlet (α := Int32) (u27 19 (zn a1)) <| fun v34 => zif (v34 ≤ v33) (Gm_tests_43 a1 0 u27) (Gm_tests_43 a1 1 u27))
set_option maxHeartbeats 4000000 in
set_option maxRecDepth 100000 in
theorem mc_tests (l : Launch) (D : va_G) (ct : Nat → ClassId) (h0 : Nat) (y : Nat → Nat) (B : Int) (a1 : Int32) (r : zRr) (q : zRq) (g1 : zI 0 5 a1) (hJ0 : mJ B r) : zC l yX12_tests (.code yX12_tests cX12_tests 3 none :: wsL_law0) ({ frames := 2, cells := 0, slots := 0, locals := 120 }) D ct [] [.ref h0, .int a1] (mW ct h0 y r q) (S := zRr) (fun u => none) (fun u => mJ B u ∧ zFr [19, 22, 15, 18, 20] r u ∧ u = (Gm_tests a1 r q) ∧ True) (fun u => mW ct h0 y u q) 0 0 := by
  refine zofQ cX12_tests 3 none (by decide) rfl (Nat.le_of_ble_eq_true rfl) ?_
  intro p e s m below meth c A a9 Q ha9 hx hb hr hml hts hown hlocks hname hK hA hZ hN hQ
  have hown : s.vm.findClass RX12 = some m.cls := hown
  have hiX12 : ∀ w ∈ wsX120, w ∈ .code yX12_tests cX12_tests 3 none :: wsL_law0 := fun _ h => ki (zs_wsX120 _ h)
  have lf57 := hts (.fieldLink RX12 57 "BeardPassModel" "kept" "[I") (ki (zr8 11 rfl))
  have lf60 := hts (.fieldLink RX12 60 "BeardPassModel" "keptBy" "[I") (ki (zr8 12 rfl))
  have lf63 := hts (.fieldLink RX12 63 "BeardPassModel" "ahead" "[I") (ki (zr8 13 rfl))
  have lf66 := hts (.fieldLink RX12 66 "BeardPassModel" "against" "[I") (ki (zr8 14 rfl))
  have lf69 := hts (.fieldLink RX12 69 "BeardPassModel" "sum" "[I") (ki (zr8 15 rfl))
  have lf72 := hts (.fieldLink RX12 72 "BeardPassModel" "sumBy" "[I") (ki (zr8 16 rfl))
  obtain ⟨X, hX⟩ : ∃ X, X = (Gm_tests a1 r q) := ⟨_, rfl⟩
  have cut136 : ∀ (w136_2 : Int32) (rw136 : zRr) (hw136_1 : zI 0 5 a1) (jw136 : mJ B rw136) (fw136 : zFr [19, 22, 15, 18, 20] r rw136) (hE : X = Gm_tests_136 a1 w136_2 rw136), zKf p l e ({ frames := 2, cells := 0, slots := 0, locals := 120 }) s m a9 below meth c Q D A 136 3 [] (mW ct h0 y rw136 q) [(0, .ref h0), (1, .int a1), (2, .int w136_2)] := by
    intro w136_2 rw136 hw136_1 jw136 fw136 hE H locs ls hw hS hl
    unfold Gm_tests_136 at hE
    refine lv_aload_n hx hb dX12_tests_136 rfl (lv_at hl 0 rfl) ?_
    refine mget (v := .ref (y 15)) hx hb hts hiX12 hown hK hw 26 (by decide) lf57 rfl rfl dX12_tests_137 ?_
    refine lv_iload_n hx hb dX12_tests_140 rfl (lv_at hl 1 rfl) ?_
    refine lv_iload_n hx hb dX12_tests_141 rfl (lv_at hl 2 rfl) ?_
    refine miast hx hb hK hw hS 16 mWg15 hw136_1 (by decide) dX12_tests_142 (mW ct h0 y (zset rw136 15 (upd (rw136 15) (zn a1) w136_2)) q) mWs15 (fun H locs hw hS => ?_)
    refine mgen (P := fun x => mJ B x ∧ zFr [19, 22, 15, 18, 20] r x) hw ⟨jw136.set rfl (zI.top _), fw136.set rfl⟩ (fun r1 er1 hw pr1 => ?_)
    have hE := zletE er1 hE
    refine lv_aload_n hx hb dX12_tests_143 rfl (lv_at hl 0 rfl) ?_
    refine mget (v := .ref (y 18)) hx hb hts hiX12 hown hK hw 29 (by decide) lf66 rfl rfl dX12_tests_144 ?_
    refine lv_iload_n hx hb dX12_tests_147 rfl (lv_at hl 1 rfl) ?_
    refine lv_iconst (v := 0) hx hb dX12_tests_148 (by decide) ?_
    refine miast hx hb hK hw hS 19 mWg18 hw136_1 (by decide) dX12_tests_149 (mW ct h0 y (zset r1 18 (upd (r1 18) (zn a1) (0 : Int32))) q) mWs18 (fun H locs hw hS => ?_)
    refine mgen (P := fun x => mJ B x ∧ zFr [19, 22, 15, 18, 20] r x) hw ⟨pr1.1.set rfl (zI.top _), pr1.2.set rfl⟩ (fun r2 er2 hw pr2 => ?_)
    have hE := zletE er2 hE
    refine lv_aload_n hx hb dX12_tests_150 rfl (lv_at hl 0 rfl) ?_
    refine mget (v := .ref (y 19)) hx hb hts hiX12 hown hK hw 30 (by decide) lf69 rfl rfl dX12_tests_151 ?_
    refine lv_iload_n hx hb dX12_tests_154 rfl (lv_at hl 1 rfl) ?_
    refine lv_iconst (v := 0) hx hb dX12_tests_155 (by decide) ?_
    refine miast hx hb hK hw hS 20 mWg19 hw136_1 (by decide) dX12_tests_156 (mW ct h0 y (zset r2 19 (upd (r2 19) (zn a1) (0 : Int32))) q) mWs19 (fun H locs hw hS => ?_)
    refine mgen (P := fun x => mJ B x ∧ zFr [19, 22, 15, 18, 20] r x) hw ⟨pr2.1.set rfl (zI.top _), pr2.2.set rfl⟩ (fun r3 er3 hw pr3 => ?_)
    have hE := zletE er3 hE
    refine lv_aload_n hx hb dX12_tests_157 rfl (lv_at hl 0 rfl) ?_
    refine mget (v := .ref (y 20)) hx hb hts hiX12 hown hK hw 31 (by decide) lf72 rfl rfl dX12_tests_158 ?_
    refine lv_iload_n hx hb dX12_tests_161 rfl (lv_at hl 1 rfl) ?_
    refine lv_bipush (v := 20) hx hb dX12_tests_162 (by decide) ?_
    refine miast hx hb hK hw hS 21 mWg20 hw136_1 (by decide) dX12_tests_164 (mW ct h0 y (zset r3 20 (upd (r3 20) (zn a1) (20 : Int32))) q) mWs20 (fun H locs hw hS => ?_)
    refine mgen (P := fun x => mJ B x ∧ zFr [19, 22, 15, 18, 20] r x) hw ⟨pr3.1.set rfl (zI.top _), pr3.2.set rfl⟩ (fun r4 er4 hw pr4 => ?_)
    have hE := zletE er4 hE
    exact zvretQ hQ hx hb hr hlocks r4 rfl ⟨pr4.1, pr4.2, (hE.symm.trans hX), trivial⟩ hw hS dX12_tests_165
  have cut135 : ∀ (w135_s0 : Int32) (rw135 : zRr) (hw135_1 : zI 0 5 a1) (hw135_s0 : zI 0 1 w135_s0) (jw135 : mJ B rw135) (fw135 : zFr [19, 22, 15, 18, 20] r rw135) (hE : X = Gm_tests_135 a1 w135_s0 rw135), zKf p l e ({ frames := 2, cells := 0, slots := 0, locals := 120 }) s m a9 below meth c Q D A 135 3 [.int w135_s0] (mW ct h0 y rw135 q) [(0, .ref h0), (1, .int a1)] := by
    intro w135_s0 rw135 hw135_1 hw135_s0 jw135 fw135 hE H locs ls hw hS hl
    unfold Gm_tests_135 at hE
    refine lv_istore_n (lv' := [(2, .int w135_s0), (0, .ref h0), (1, .int a1)]) hx hb dX12_tests_135 rfl hl (by decide) rfl (fun ls hl => ?_)
    exact cut136 w135_s0 rw135 hw135_1 jw135 fw135 hE H locs ls hw hS (lv_sub hl [1, 2, 0] rfl)
  have cut130 : ∀ (rw130 : zRr) (hw130_1 : zI 0 5 a1) (jw130 : mJ B rw130) (fw130 : zFr [19, 22, 15, 18, 20] r rw130) (hE : X = Gm_tests_130 a1 rw130), zKf p l e ({ frames := 2, cells := 0, slots := 0, locals := 120 }) s m a9 below meth c Q D A 130 3 [] (mW ct h0 y rw130 q) [(0, .ref h0), (1, .int a1)] := by
    intro rw130 hw130_1 jw130 fw130 hE H locs ls hw hS hl
    unfold Gm_tests_130 at hE
    refine lv_iconst (v := 1) hx hb dX12_tests_130 (by decide) ?_
    refine lv_goto (tgt := 135) hx hb dX12_tests_131 (by decide) ?_
    exact cut135 1 rw130 hw130_1 ((zI.lit (a := 1) (b := 1) (c := 1) (by decide)).w (c := 0) (d := 1) (by decide)) jw130 fw130 hE H locs ls hw hS (lv_sub hl [0, 1] rfl)
  have cut106 : ∀ (w106_2 : Int32) (rw106 : zRr) (hw106_1 : zI 0 5 a1) (jw106 : mJ B rw106) (fw106 : zFr [19, 22, 15, 18, 20] r rw106) (hE : X = Gm_tests_106 a1 w106_2 rw106), zKf p l e ({ frames := 2, cells := 0, slots := 0, locals := 120 }) s m a9 below meth c Q D A 106 3 [] (mW ct h0 y rw106 q) [(0, .ref h0), (1, .int a1), (2, .int w106_2)] := by
    intro w106_2 rw106 hw106_1 jw106 fw106 hE H locs ls hw hS hl
    unfold Gm_tests_106 at hE
    refine lv_aload_n hx hb dX12_tests_106 rfl (lv_at hl 0 rfl) ?_
    refine mget (v := .ref (y 16)) hx hb hts hiX12 hown hK hw 27 (by decide) lf60 rfl rfl dX12_tests_107 ?_
    refine lv_iload_n hx hb dX12_tests_110 rfl (lv_at hl 1 rfl) ?_
    refine miald hx hb hK hw 17 mWg16 hw106_1 (by decide) dX12_tests_111 (zgenE (zI.top _) (fun v5 ev5 _ => ?_))
    have hE := zletE ev5 hE
    refine lv_bipush (v := 27) hx hb dX12_tests_112 (by decide) ?_
    refine lv_icmp_ne (tgt := 136) hx hb dX12_tests_114 (by decide) (fun c6 => ?_) (fun c6 => ?_)
    · have hE := zifnT c6 hE
      exact cut136 w106_2 rw106 hw106_1 jw106 fw106 hE H locs ls hw hS (lv_sub hl [0, 1, 2] rfl)
    · have hE := zifnF c6 hE
      have k7 : zI 27 27 (v5) := zI.eqq c6 (zI.lit (a := 27) (b := 27) (c := 27) (by decide))
      refine lv_aload_n hx hb dX12_tests_117 rfl (lv_at hl 0 rfl) ?_
      refine mget (v := .ref (y 15)) hx hb hts hiX12 hown hK hw 26 (by decide) lf57 rfl rfl dX12_tests_118 ?_
      refine lv_iload_n hx hb dX12_tests_121 rfl (lv_at hl 1 rfl) ?_
      refine miald hx hb hK hw 16 mWg15 hw106_1 (by decide) dX12_tests_122 (zgenE (zI.top _) (fun v8 ev8 _ => ?_))
      have hE := zletE ev8 hE
      refine lv_if_ne (tgt := 130) hx hb dX12_tests_123 (by decide) (fun c9 => ?_) (fun c9 => ?_)
      · have hE := zifnT c9 hE
        exact cut130 rw106 hw106_1 jw106 fw106 hE H locs ls hw hS (lv_sub hl [0, 1] rfl)
      · have hE := zifnF c9 hE
        have k10 : zI 0 0 (v8) := zI.eqq c9 (zI.lit (a := 0) (b := 0) (c := 0) (by decide))
        refine lv_iload_n hx hb dX12_tests_126 rfl (lv_at hl 2 rfl) ?_
        refine lv_if_eq (tgt := 134) hx hb dX12_tests_127 (by decide) (fun c11 => ?_) (fun c11 => ?_)
        · have hE := zifT c11 hE
          have k12 : zI 0 0 (w106_2) := zI.eqq c11 (zI.lit (a := 0) (b := 0) (c := 0) (by decide))
          refine lv_iconst (v := 0) hx hb dX12_tests_134 (by decide) ?_
          exact cut135 0 rw106 hw106_1 ((zI.lit (a := 0) (b := 0) (c := 0) (by decide)).w (c := 0) (d := 1) (by decide)) jw106 fw106 hE H locs ls hw hS (lv_sub hl [0, 1] rfl)
        · have hE := zifF c11 hE
          exact cut130 rw106 hw106_1 jw106 fw106 hE H locs ls hw hS (lv_sub hl [0, 1] rfl)
  have cut105 : ∀ (w105_s0 : Int32) (rw105 : zRr) (hw105_1 : zI 0 5 a1) (hw105_s0 : zI 0 1 w105_s0) (jw105 : mJ B rw105) (fw105 : zFr [19, 22, 15, 18, 20] r rw105) (hE : X = Gm_tests_105 a1 w105_s0 rw105), zKf p l e ({ frames := 2, cells := 0, slots := 0, locals := 120 }) s m a9 below meth c Q D A 105 3 [.int w105_s0] (mW ct h0 y rw105 q) [(0, .ref h0), (1, .int a1)] := by
    intro w105_s0 rw105 hw105_1 hw105_s0 jw105 fw105 hE H locs ls hw hS hl
    unfold Gm_tests_105 at hE
    refine lv_istore_n (lv' := [(2, .int w105_s0), (0, .ref h0), (1, .int a1)]) hx hb dX12_tests_105 rfl hl (by decide) rfl (fun ls hl => ?_)
    exact cut106 w105_s0 rw105 hw105_1 jw105 fw105 hE H locs ls hw hS (lv_sub hl [1, 2, 0] rfl)
  have cut104 : ∀ (rw104 : zRr) (hw104_1 : zI 0 5 a1) (jw104 : mJ B rw104) (fw104 : zFr [19, 22, 15, 18, 20] r rw104) (hE : X = Gm_tests_104 a1 rw104), zKf p l e ({ frames := 2, cells := 0, slots := 0, locals := 120 }) s m a9 below meth c Q D A 104 3 [] (mW ct h0 y rw104 q) [(0, .ref h0), (1, .int a1)] := by
    intro rw104 hw104_1 jw104 fw104 hE H locs ls hw hS hl
    unfold Gm_tests_104 at hE
    refine lv_iconst (v := 0) hx hb dX12_tests_104 (by decide) ?_
    exact cut105 0 rw104 hw104_1 ((zI.lit (a := 0) (b := 0) (c := 0) (by decide)).w (c := 0) (d := 1) (by decide)) jw104 fw104 hE H locs ls hw hS (lv_sub hl [0, 1] rfl)
  have cut76 : ∀ (w76_2 : Int32) (rw76 : zRr) (hw76_1 : zI 0 5 a1) (jw76 : mJ B rw76) (fw76 : zFr [19, 22, 15, 18, 20] r rw76) (hE : X = Gm_tests_76 a1 w76_2 rw76), zKf p l e ({ frames := 2, cells := 0, slots := 0, locals := 120 }) s m a9 below meth c Q D A 76 3 [] (mW ct h0 y rw76 q) [(0, .ref h0), (1, .int a1), (2, .int w76_2)] := by
    intro w76_2 rw76 hw76_1 jw76 fw76 hE H locs ls hw hS hl
    unfold Gm_tests_76 at hE
    refine lv_aload_n hx hb dX12_tests_76 rfl (lv_at hl 0 rfl) ?_
    refine mget (v := .ref (y 16)) hx hb hts hiX12 hown hK hw 27 (by decide) lf60 rfl rfl dX12_tests_77 ?_
    refine lv_iload_n hx hb dX12_tests_80 rfl (lv_at hl 1 rfl) ?_
    refine miald hx hb hK hw 17 mWg16 hw76_1 (by decide) dX12_tests_81 (zgenE (zI.top _) (fun v13 ev13 _ => ?_))
    have hE := zletE ev13 hE
    refine lv_bipush (v := 26) hx hb dX12_tests_82 (by decide) ?_
    refine lv_icmp_ne (tgt := 106) hx hb dX12_tests_84 (by decide) (fun c14 => ?_) (fun c14 => ?_)
    · have hE := zifnT c14 hE
      exact cut106 w76_2 rw76 hw76_1 jw76 fw76 hE H locs ls hw hS (lv_sub hl [0, 1, 2] rfl)
    · have hE := zifnF c14 hE
      have k15 : zI 26 26 (v13) := zI.eqq c14 (zI.lit (a := 26) (b := 26) (c := 26) (by decide))
      refine lv_aload_n hx hb dX12_tests_87 rfl (lv_at hl 0 rfl) ?_
      refine mget (v := .ref (y 15)) hx hb hts hiX12 hown hK hw 26 (by decide) lf57 rfl rfl dX12_tests_88 ?_
      refine lv_iload_n hx hb dX12_tests_91 rfl (lv_at hl 1 rfl) ?_
      refine miald hx hb hK hw 16 mWg15 hw76_1 (by decide) dX12_tests_92 (zgenE (zI.top _) (fun v16 ev16 _ => ?_))
      have hE := zletE ev16 hE
      refine lv_if_eq (tgt := 104) hx hb dX12_tests_93 (by decide) (fun c17 => ?_) (fun c17 => ?_)
      · have hE := zifT c17 hE
        have k18 : zI 0 0 (v16) := zI.eqq c17 (zI.lit (a := 0) (b := 0) (c := 0) (by decide))
        exact cut104 rw76 hw76_1 jw76 fw76 hE H locs ls hw hS (lv_sub hl [0, 1] rfl)
      · have hE := zifF c17 hE
        refine lv_iload_n hx hb dX12_tests_96 rfl (lv_at hl 2 rfl) ?_
        refine lv_if_eq (tgt := 104) hx hb dX12_tests_97 (by decide) (fun c19 => ?_) (fun c19 => ?_)
        · have hE := zifT c19 hE
          have k20 : zI 0 0 (w76_2) := zI.eqq c19 (zI.lit (a := 0) (b := 0) (c := 0) (by decide))
          exact cut104 rw76 hw76_1 jw76 fw76 hE H locs ls hw hS (lv_sub hl [0, 1] rfl)
        · have hE := zifF c19 hE
          refine lv_iconst (v := 1) hx hb dX12_tests_100 (by decide) ?_
          refine lv_goto (tgt := 105) hx hb dX12_tests_101 (by decide) ?_
          exact cut105 1 rw76 hw76_1 ((zI.lit (a := 1) (b := 1) (c := 1) (by decide)).w (c := 0) (d := 1) (by decide)) jw76 fw76 hE H locs ls hw hS (lv_sub hl [0, 1] rfl)
  have cut75 : ∀ (w75_s0 : Int32) (rw75 : zRr) (hw75_1 : zI 0 5 a1) (hw75_s0 : zI 0 1 w75_s0) (jw75 : mJ B rw75) (fw75 : zFr [19, 22, 15, 18, 20] r rw75) (hE : X = Gm_tests_75 a1 w75_s0 rw75), zKf p l e ({ frames := 2, cells := 0, slots := 0, locals := 120 }) s m a9 below meth c Q D A 75 3 [.int w75_s0] (mW ct h0 y rw75 q) [(0, .ref h0), (1, .int a1)] := by
    intro w75_s0 rw75 hw75_1 hw75_s0 jw75 fw75 hE H locs ls hw hS hl
    unfold Gm_tests_75 at hE
    refine lv_istore_n (lv' := [(2, .int w75_s0), (0, .ref h0), (1, .int a1)]) hx hb dX12_tests_75 rfl hl (by decide) rfl (fun ls hl => ?_)
    exact cut76 w75_s0 rw75 hw75_1 jw75 fw75 hE H locs ls hw hS (lv_sub hl [1, 2, 0] rfl)
  have cut44 : ∀ (w44_2 : Int32) (rw44 : zRr) (hw44_1 : zI 0 5 a1) (jw44 : mJ B rw44) (fw44 : zFr [19, 22, 15, 18, 20] r rw44) (hE : X = Gm_tests_44 a1 w44_2 rw44), zKf p l e ({ frames := 2, cells := 0, slots := 0, locals := 120 }) s m a9 below meth c Q D A 44 3 [] (mW ct h0 y rw44 q) [(0, .ref h0), (1, .int a1), (2, .int w44_2)] := by
    intro w44_2 rw44 hw44_1 jw44 fw44 hE H locs ls hw hS hl
    unfold Gm_tests_44 at hE
    refine lv_aload_n hx hb dX12_tests_44 rfl (lv_at hl 0 rfl) ?_
    refine mget (v := .ref (y 18)) hx hb hts hiX12 hown hK hw 29 (by decide) lf66 rfl rfl dX12_tests_45 ?_
    refine lv_iload_n hx hb dX12_tests_48 rfl (lv_at hl 1 rfl) ?_
    refine miald hx hb hK hw 19 mWg18 hw44_1 (by decide) dX12_tests_49 (zgenE (zI.top _) (fun v21 ev21 _ => ?_))
    have hE := zletE ev21 hE
    refine lv_bipush (v := 25) hx hb dX12_tests_50 (by decide) ?_
    refine lv_icmp_ne (tgt := 76) hx hb dX12_tests_52 (by decide) (fun c22 => ?_) (fun c22 => ?_)
    · have hE := zifnT c22 hE
      exact cut76 w44_2 rw44 hw44_1 jw44 fw44 hE H locs ls hw hS (lv_sub hl [0, 1, 2] rfl)
    · have hE := zifnF c22 hE
      have k23 : zI 25 25 (v21) := zI.eqq c22 (zI.lit (a := 25) (b := 25) (c := 25) (by decide))
      refine lv_aload_n hx hb dX12_tests_55 rfl (lv_at hl 0 rfl) ?_
      refine mget (v := .ref (y 17)) hx hb hts hiX12 hown hK hw 28 (by decide) lf63 rfl rfl dX12_tests_56 ?_
      refine lv_iload_n hx hb dX12_tests_59 rfl (lv_at hl 1 rfl) ?_
      refine miald hx hb hK hw 18 mWg17 hw44_1 (by decide) dX12_tests_60 (zgenE (zI.top _) (fun v24 ev24 _ => ?_))
      have hE := zletE ev24 hE
      refine lv_aload_n hx hb dX12_tests_61 rfl (lv_at hl 0 rfl) ?_
      refine mget (v := .ref (y 19)) hx hb hts hiX12 hown hK hw 30 (by decide) lf69 rfl rfl dX12_tests_62 ?_
      refine lv_iload_n hx hb dX12_tests_65 rfl (lv_at hl 1 rfl) ?_
      refine miald hx hb hK hw 20 mWg19 hw44_1 (by decide) dX12_tests_66 (zgenE (zI.top _) (fun v25 ev25 _ => ?_))
      have hE := zletE ev25 hE
      refine lv_icmp_ne (tgt := 74) hx hb dX12_tests_67 (by decide) (fun c26 => ?_) (fun c26 => ?_)
      · have hE := zifnT c26 hE
        refine lv_iconst (v := 0) hx hb dX12_tests_74 (by decide) ?_
        exact cut75 0 rw44 hw44_1 ((zI.lit (a := 0) (b := 0) (c := 0) (by decide)).w (c := 0) (d := 1) (by decide)) jw44 fw44 hE H locs ls hw hS (lv_sub hl [0, 1] rfl)
      · have hE := zifnF c26 hE
        refine lv_iconst (v := 1) hx hb dX12_tests_70 (by decide) ?_
        refine lv_goto (tgt := 75) hx hb dX12_tests_71 (by decide) ?_
        exact cut75 1 rw44 hw44_1 ((zI.lit (a := 1) (b := 1) (c := 1) (by decide)).w (c := 0) (d := 1) (by decide)) jw44 fw44 hE H locs ls hw hS (lv_sub hl [0, 1] rfl)
  have cut43 : ∀ (w43_s0 : Int32) (rw43 : zRr) (hw43_1 : zI 0 5 a1) (hw43_s0 : zI 0 1 w43_s0) (jw43 : mJ B rw43) (fw43 : zFr [19, 22, 15, 18, 20] r rw43) (hE : X = Gm_tests_43 a1 w43_s0 rw43), zKf p l e ({ frames := 2, cells := 0, slots := 0, locals := 120 }) s m a9 below meth c Q D A 43 3 [.int w43_s0] (mW ct h0 y rw43 q) [(0, .ref h0), (1, .int a1)] := by
    intro w43_s0 rw43 hw43_1 hw43_s0 jw43 fw43 hE H locs ls hw hS hl
    unfold Gm_tests_43 at hE
    refine lv_istore_n (lv' := [(2, .int w43_s0), (0, .ref h0), (1, .int a1)]) hx hb dX12_tests_43 rfl hl (by decide) rfl (fun ls hl => ?_)
    exact cut44 w43_s0 rw43 hw43_1 jw43 fw43 hE H locs ls hw hS (lv_sub hl [1, 2, 0] rfl)
  intro H locs hw hS ls hl
  have hl : lv_has ls 3 [(0, .ref h0), (1, .int a1)] := hl
  have hE := hX
  unfold Gm_tests at hE
  refine lv_aload_n hx hb dX12_tests_0 rfl (lv_at hl 0 rfl) ?_
  refine lv_iload_n hx hb dX12_tests_1 rfl (lv_at hl 1 rfl) ?_
  refine mcallV (As := [.int a1]) (rest := []) ⟨hx, hb, hml, hown, hts⟩ (mc_sums l D ct h0 y B a1 r q g1 hJ0) (wqX12_207_mc_sums hts ⟨Nat.le_of_ble_eq_true rfl, Nat.le_of_ble_eq_true rfl⟩) hw hS hA hK hN rfl hl.1 rfl (Nat.le_of_ble_eq_true rfl) dX12_tests_2 5 rfl (fun u27 H locs pu27 hw hS => ?_)
  have ju27 : mJ B u27 := pu27.1
  have fu27 : zFr [19, 22] r u27 := pu27.2.1
  have xu27 : u27 = (Gm_sums a1 r q) := pu27.2.2.1
  have hE := zletE xu27 hE
  have hw : zPD D A (mW ct h0 y u27 q) H := hw
  refine zfr 5 [] rfl rfl ?_
  refine lv_aload_n hx hb dX12_tests_5 rfl (lv_at hl 0 rfl) ?_
  refine mget (v := .ref (y 19)) hx hb hts hiX12 hown hK hw 30 (by decide) lf69 rfl rfl dX12_tests_6 ?_
  refine lv_iload_n hx hb dX12_tests_9 rfl (lv_at hl 1 rfl) ?_
  refine miald hx hb hK hw 20 mWg19 g1 (by decide) dX12_tests_10 (zgenE (zI.top _) (fun v29 ev29 _ => ?_))
  have hE := zletE ev29 hE
  refine lv_istore_n (lv' := [(2, .int v29), (0, .ref h0), (1, .int a1)]) hx hb dX12_tests_11 rfl hl (by decide) rfl (fun ls hl => ?_)
  refine lv_aload_n hx hb dX12_tests_12 rfl (lv_at hl 1 rfl) ?_
  refine mget (v := .ref (y 18)) hx hb hts hiX12 hown hK hw 29 (by decide) lf66 rfl rfl dX12_tests_13 ?_
  refine lv_iload_n hx hb dX12_tests_16 rfl (lv_at hl 2 rfl) ?_
  refine miald hx hb hK hw 19 mWg18 g1 (by decide) dX12_tests_17 (zgenE (zI.top _) (fun v30 ev30 _ => ?_))
  have hE := zletE ev30 hE
  refine lv_bipush (v := 24) hx hb dX12_tests_18 (by decide) ?_
  refine lv_icmp_ne (tgt := 44) hx hb dX12_tests_20 (by decide) (fun c31 => ?_) (fun c31 => ?_)
  · have hE := zifnT c31 hE
    exact cut44 v29 u27 g1 ju27 ((zFr.refl).tr fu27 rfl) hE H locs ls hw hS (lv_sub hl [1, 2, 0] rfl)
  · have hE := zifnF c31 hE
    have k32 : zI 24 24 (v30) := zI.eqq c31 (zI.lit (a := 24) (b := 24) (c := 24) (by decide))
    refine lv_aload_n hx hb dX12_tests_23 rfl (lv_at hl 1 rfl) ?_
    refine mget (v := .ref (y 17)) hx hb hts hiX12 hown hK hw 28 (by decide) lf63 rfl rfl dX12_tests_24 ?_
    refine lv_iload_n hx hb dX12_tests_27 rfl (lv_at hl 2 rfl) ?_
    refine miald hx hb hK hw 18 mWg17 g1 (by decide) dX12_tests_28 (zgenE (zI.top _) (fun v33 ev33 _ => ?_))
    have hE := zletE ev33 hE
    refine lv_aload_n hx hb dX12_tests_29 rfl (lv_at hl 1 rfl) ?_
    refine mget (v := .ref (y 19)) hx hb hts hiX12 hown hK hw 30 (by decide) lf69 rfl rfl dX12_tests_30 ?_
    refine lv_iload_n hx hb dX12_tests_33 rfl (lv_at hl 2 rfl) ?_
    refine miald hx hb hK hw 20 mWg19 g1 (by decide) dX12_tests_34 (zgenE (zI.top _) (fun v34 ev34 _ => ?_))
    have hE := zletE ev34 hE
    refine lv_icmp_ge (tgt := 42) hx hb dX12_tests_35 (by decide) (fun c35 => ?_) (fun c35 => ?_)
    · have hE := zifT c35 hE
      refine lv_iconst (v := 0) hx hb dX12_tests_42 (by decide) ?_
      exact cut43 0 u27 g1 ((zI.lit (a := 0) (b := 0) (c := 0) (by decide)).w (c := 0) (d := 1) (by decide)) ju27 ((zFr.refl).tr fu27 rfl) hE H locs ls hw hS (lv_sub hl [1, 2] rfl)
    · have hE := zifF c35 hE
      refine lv_iconst (v := 1) hx hb dX12_tests_38 (by decide) ?_
      refine lv_goto (tgt := 43) hx hb dX12_tests_39 (by decide) ?_
      exact cut43 1 u27 g1 ((zI.lit (a := 1) (b := 1) (c := 1) (by decide)).w (c := 0) (d := 1) (by decide)) ju27 ((zFr.refl).tr fu27 rfl) hE H locs ls hw hS (lv_sub hl [1, 2] rfl)

noncomputable def Gm_worked_329 (w14_3 : Int32) (ih14 : Int32 → Int32 → zRr → (Int32 × zRr)) (w329_2 : Int32) (rw329 : zRr) : Int32 × zRr :=
  ih14 w329_2 (w14_3 + 1) rw329
noncomputable def Gm_worked_328 (w14_3 : Int32) (ih14 : Int32 → Int32 → zRr → (Int32 × zRr)) (w328_2 : Int32) (w328_s0 : Int32) (w328_s1 : Int32) (rw328 : zRr) : Int32 × zRr :=
  zlet (α := zRr) (zset rw328 21 (upd (rw328 21) (zn w328_s1) w328_s0)) <| fun r2 => Gm_worked_329 w14_3 ih14 w328_2 r2
noncomputable def Gm_worked_300 (w14_3 : Int32) (ih14 : Int32 → Int32 → zRr → (Int32 × zRr)) (w300_2 : Int32) (w300_5 : Int32) (rw300 : zRr) : Int32 × zRr :=
  zlet (α := Int32) (rw300 22 (zn w300_2)) <| fun v3 => zifn (v3 = (0 : Int32)) (zlet (α := Int32) (rw300 21 (zn w300_2)) <| fun v5 => zlet (α := Int32) (v5 * w300_5) <| fun v6 => Gm_worked_328 w14_3 ih14 w300_2 v6 w300_2 rw300) (Gm_worked_328 w14_3 ih14 w300_2 w300_5 w300_2 rw300)
noncomputable def Gm_worked_292 (w268_2 : Int32) (rw268 : zRr) (ih268 : Int32 → Int32 → zRr → (Int32 × zRr)) (w292_s0 : Int32) : Int32 × zRr :=
  ih268 (w268_2 + (-1)) w292_s0 rw268
noncomputable def Bm_worked_268 (w14_3 : Int32) (ih14 : Int32 → Int32 → zRr → (Int32 × zRr)) (ih268 : Int32 → Int32 → zRr → (Int32 × zRr)) (w268_2 : Int32) (w268_5 : Int32) (rw268 : zRr) : Int32 × zRr :=
  zif (w268_2 ≤ (0 : Int32)) (Gm_worked_300 w14_3 ih14 w268_2 w268_5 rw268) (zifn ((rw268 23 (zn w268_2)) = (1 : Int32)) (Gm_worked_300 w14_3 ih14 w268_2 w268_5 rw268) (zifn (w268_5 = (0 : Int32)) (Gm_worked_292 w268_2 rw268 ih268 0) (Gm_worked_292 w268_2 rw268 ih268 1)))
noncomputable def Gm_worked_268 (w14_3 : Int32) (ih14 : Int32 → Int32 → zRr → (Int32 × zRr)) (n : Nat) : Int32 → Int32 → zRr → (Int32 × zRr) :=
  Nat.rec (motive := fun _ => Int32 → Int32 → zRr → (Int32 × zRr)) (fun _ _ rw268 => (default, rw268)) (fun _ ih => Bm_worked_268 w14_3 ih14 ih) n
noncomputable def Bm_worked_14 (q : zRq) (ih14 : Int32 → Int32 → zRr → (Int32 × zRr)) (w14_2 : Int32) (w14_3 : Int32) (rw14 : zRr) : Int32 × zRr :=
  zif ((rw14 11 0) ≤ w14_3) (zlet (α := zRr) ((Gm_tests (0 : Int32) rw14 q)) <| fun u17 => zlet (α := Int32) (u17 15 0) <| fun v19 => (v19, u17)) (zlet (α := Int32) (rw14 12 (zn w14_3)) <| fun v22 => zif (v22 = (28 : Int32)) (zifn (v22 = (30 : Int32)) (zlet (α := zRr) (zset rw14 23 (upd (rw14 23) (zn (w14_2 + 1)) (0 : Int32))) <| fun r29 => zlet (α := zRr) ((Gm_opens (w14_2 + 1) r29 q)) <| fun u30 => Gm_worked_329 w14_3 ih14 (w14_2 + 1) u30) (default)) (zifn (v22 = (30 : Int32)) (zif (v22 = (20 : Int32)) (zlet (α := zRr) ((Gm_sums w14_2 rw14 q)) <| fun u35 => zlet (α := zRr) (zset u35 20 (upd (u35 20) (zn w14_2) v22)) <| fun r37 => Gm_worked_329 w14_3 ih14 w14_2 r37) (zifn (v22 = (21 : Int32)) (zifn (v22 = (22 : Int32)) (zif (v22 = (24 : Int32)) (zlet (α := zRr) ((Gm_sums w14_2 rw14 q)) <| fun u42 => zlet (α := Int32) (u42 19 (zn w14_2)) <| fun v44 => zlet (α := zRr) (zset u42 17 (upd (u42 17) (zn w14_2) v44)) <| fun r45 => zlet (α := zRr) (zset r45 18 (upd (r45 18) (zn w14_2) v22)) <| fun r46 => zlet (α := zRr) (zset r46 19 (upd (r46 19) (zn w14_2) (0 : Int32))) <| fun r47 => zlet (α := zRr) (zset r47 20 (upd (r47 20) (zn w14_2) (20 : Int32))) <| fun r48 => Gm_worked_329 w14_3 ih14 w14_2 r48) (zifn (v22 = (25 : Int32)) (zif (v22 = (26 : Int32)) (zlet (α := zRr) ((Gm_tests w14_2 rw14 q)) <| fun u52 => zlet (α := zRr) (zset u52 16 (upd (u52 16) (zn w14_2) v22)) <| fun r54 => Gm_worked_329 w14_3 ih14 w14_2 r54) (zifn (v22 = (27 : Int32)) (zif (v22 < (100 : Int32)) (zif ((20 : Int32) ≤ v22) (zifn (v22 = (29 : Int32)) (Gm_worked_268 w14_3 ih14 6 w14_2 0 rw14) (zlet (α := zRr) ((Gm_tests w14_2 rw14 q)) <| fun u62 => zlet (α := Int32) (u62 15 (zn w14_2)) <| fun v64 => Gm_worked_268 w14_3 ih14 6 (w14_2 + (-1)) v64 u62)) (zlet (α := Int32) (rw14 24 (zn v22)) <| fun v68 => zifn (v22 = (29 : Int32)) (Gm_worked_268 w14_3 ih14 6 w14_2 v68 rw14) (default))) (zlet (α := Int32) (v22 - 100) <| fun v71 => zifn (v22 = (29 : Int32)) (Gm_worked_268 w14_3 ih14 6 w14_2 v71 rw14) (default))) (zlet (α := zRr) ((Gm_tests w14_2 rw14 q)) <| fun u74 => zlet (α := zRr) (zset u74 16 (upd (u74 16) (zn w14_2) v22)) <| fun r76 => Gm_worked_329 w14_3 ih14 w14_2 r76))) (zlet (α := zRr) ((Gm_sums w14_2 rw14 q)) <| fun u78 => zlet (α := Int32) (u78 19 (zn w14_2)) <| fun v80 => zlet (α := zRr) (zset u78 17 (upd (u78 17) (zn w14_2) v80)) <| fun r81 => zlet (α := zRr) (zset r81 18 (upd (r81 18) (zn w14_2) v22)) <| fun r82 => zlet (α := zRr) (zset r82 19 (upd (r82 19) (zn w14_2) (0 : Int32))) <| fun r83 => zlet (α := zRr) (zset r83 20 (upd (r83 20) (zn w14_2) (20 : Int32))) <| fun r84 => Gm_worked_329 w14_3 ih14 w14_2 r84))) (zlet (α := zRr) (zset rw14 22 (upd (rw14 22) (zn w14_2) v22)) <| fun r86 => Gm_worked_329 w14_3 ih14 w14_2 r86)) (zlet (α := zRr) ((Gm_sums w14_2 rw14 q)) <| fun u88 => zlet (α := zRr) (zset u88 20 (upd (u88 20) (zn w14_2) v22)) <| fun r90 => Gm_worked_329 w14_3 ih14 w14_2 r90))) (zifn (v22 = (30 : Int32)) (default) (zlet (α := zRr) (zset rw14 23 (upd (rw14 23) (zn (w14_2 + 1)) (1 : Int32))) <| fun r95 => zlet (α := zRr) ((Gm_opens (w14_2 + 1) r95 q)) <| fun u96 => Gm_worked_329 w14_3 ih14 (w14_2 + 1) u96))))
noncomputable def Gm_worked_14 (q : zRq) (n : Nat) : Int32 → Int32 → zRr → (Int32 × zRr) :=
  Nat.rec (motive := fun _ => Int32 → Int32 → zRr → (Int32 × zRr)) (fun _ _ rw14 => (default, rw14)) (fun _ ih => Bm_worked_14 q ih) n
noncomputable def Gm_worked (r : zRr) (q : zRq) : Int32 × zRr :=
  zlet (α := zRr) ((Gm_opens (0 : Int32) r q)) <| fun u98 => Gm_worked_14 q 1001 0 (u98 10 0) u98
set_option maxHeartbeats 4000000 in
set_option maxRecDepth 100000 in
theorem mc_worked (l : Launch) (D : va_G) (ct : Nat → ClassId) (h0 : Nat) (y : Nat → Nat) (B : Int) (r : zRr) (q : zRq) (hJ0 : mJ B r) : zC l yX12_worked (.code yX12_worked cX12_worked 6 (some .int) :: wsL_law0) ({ frames := 3, cells := 0, slots := 0, locals := 160 }) D ct [] [.ref h0, .int 0] (mW ct h0 y r q) (S := Int32 × zRr) (fun u => some (.int u.1)) (fun u => zI (-2147483648) 2147483647 u.1 ∧ mJ B u.2 ∧ zFr [15, 16, 17, 18, 19, 20, 21, 22, 23] r u.2 ∧ u = (Gm_worked r q) ∧ True) (fun u => mW ct h0 y u.2 q) 0 0 := by
  refine zofQ cX12_worked 6 (some .int) (by decide) rfl (Nat.le_of_ble_eq_true rfl) ?_
  intro p e s m below meth c A a9 Q ha9 hx hb hr hml hts hown hlocks hname hK hA hZ hN hQ
  have hown : s.vm.findClass RX12 = some m.cls := hown
  have hiX12 : ∀ w ∈ wsX120, w ∈ .code yX12_worked cX12_worked 6 (some .int) :: wsL_law0 := fun _ h => ki (zs_wsX120 _ h)
  have lf41 := hts (.fieldLink RX12 41 "BeardPassModel" "lineFrom" "[I") (ki (zr8 5 rfl))
  have lf44 := hts (.fieldLink RX12 44 "BeardPassModel" "lineTo" "[I") (ki (zr8 6 rfl))
  have lf47 := hts (.fieldLink RX12 47 "BeardPassModel" "codes" "[I") (ki (zr8 7 rfl))
  have lf57 := hts (.fieldLink RX12 57 "BeardPassModel" "kept" "[I") (ki (zr8 11 rfl))
  have lf60 := hts (.fieldLink RX12 60 "BeardPassModel" "keptBy" "[I") (ki (zr8 12 rfl))
  have lf63 := hts (.fieldLink RX12 63 "BeardPassModel" "ahead" "[I") (ki (zr8 13 rfl))
  have lf66 := hts (.fieldLink RX12 66 "BeardPassModel" "against" "[I") (ki (zr8 14 rfl))
  have lf69 := hts (.fieldLink RX12 69 "BeardPassModel" "sum" "[I") (ki (zr8 15 rfl))
  have lf72 := hts (.fieldLink RX12 72 "BeardPassModel" "sumBy" "[I") (ki (zr8 16 rfl))
  have lf75 := hts (.fieldLink RX12 75 "BeardPassModel" "term" "[I") (ki (zr8 17 rfl))
  have lf78 := hts (.fieldLink RX12 78 "BeardPassModel" "termBy" "[I") (ki (zr8 18 rfl))
  have lf81 := hts (.fieldLink RX12 81 "BeardPassModel" "byNot" "[I") (ki (zr8 19 rfl))
  have lf84 := hts (.fieldLink RX12 84 "BeardPassModel" "valueOf" "[I") (ki (zr8 20 rfl))
  obtain ⟨X, hX⟩ : ∃ X, X = (Gm_worked r q) := ⟨_, rfl⟩
  have cut14 : ∀ (n14 : Nat) (w14_2 : Int32) (w14_3 : Int32) (rw14 : zRr) (hw14_2 : zI 0 5 w14_2) (hw14_3 : zI 0 1000 w14_3) (jw14 : mJ B rw14) (fw14 : zFr [15, 16, 17, 18, 19, 20, 21, 22, 23] r rw14) (x14a : zn (r 10 0) ≤ zn w14_3) (x14b : mG (rw14 23) w14_2 (mgt r (zn w14_3))) (hE : X = Gm_worked_14 q n14 w14_2 w14_3 rw14), 1000 - w14_3.toInt < (n14 : Int) → zKf p l e ({ frames := 3, cells := 0, slots := 0, locals := 160 }) s m a9 below meth c Q D A 14 6 [] (mW ct h0 y rw14 q) [(0, .ref h0), (1, .int 0), (2, .int w14_2), (3, .int w14_3)] := by
    intro n14
    induction n14 with
    | zero => intro w14_2 w14_3 rw14 hw14_2 hw14_3 jw14 fw14 x14a x14b hE hm14; exact zI.no hw14_3 (by decide) hm14
    | succ n14 ih14 =>
      intro w14_2 w14_3 rw14 hw14_2 hw14_3 jw14 fw14 x14a x14b hE hm14
      have hE : X = Bm_worked_14 q (Gm_worked_14 q n14) w14_2 w14_3 rw14 := hE
      unfold Bm_worked_14 at hE
      have cut329 : ∀ (w329_2 : Int32) (rw329 : zRr) (hw329_2 : zI 0 5 w329_2) (hw329_3 : zI 0 999 w14_3) (jw329 : mJ B rw329) (fw329 : zFr [15, 16, 17, 18, 19, 20, 21, 22, 23] r rw329) (mw329_11_0 : zI 1 1000 (rw329 11 0)) (x329 : mG (rw329 23) w329_2 (mgt r (zn w14_3 + 1))) (hE : X = Gm_worked_329 w14_3 (Gm_worked_14 q n14) w329_2 rw329), zKf p l e ({ frames := 3, cells := 0, slots := 0, locals := 160 }) s m a9 below meth c Q D A 329 6 [] (mW ct h0 y rw329 q) [(0, .ref h0), (1, .int 0), (2, .int w329_2), (3, .int w14_3)] := by
        intro w329_2 rw329 hw329_2 hw329_3 jw329 fw329 mw329_11_0 x329 hE H locs ls hw hS hl
        unfold Gm_worked_329 at hE
        refine lv_iinc (v := w14_3 + 1) (lv' := [(3, .int (w14_3 + 1)), (0, .ref h0), (1, .int 0), (2, .int w329_2)]) hx hb dX12_worked_329 hl (k := 3) rfl (rfl) (by decide) rfl (fun ls hl => ?_)
        have k1 : zI 1 1000 (w14_3 + 1) := zI.add hw329_3 (zI.lit (a := 1) (b := 1) (by decide)) (by decide)
        refine lv_goto (tgt := 14) hx hb dX12_worked_332 (by decide) ?_
        exact ih14 w329_2 (w14_3 + 1) rw329 hw329_2 (k1.w (c := 0) (d := 1000) (by decide)) jw329 fw329 (by rw [zn_s hw329_3 (by decide)]; exact Nat.le_succ_of_le x14a) (by rw [zn_s hw329_3 (by decide)]; exact x329) hE (zI.up hw329_3 (by decide) hm14) H locs ls hw hS (lv_sub hl [1, 2, 3, 0] rfl)
      have cut328 : ∀ (w328_2 : Int32) (w328_s0 : Int32) (w328_s1 : Int32) (rw328 : zRr) (hw328_2 : zI 0 5 w328_2) (hw328_3 : zI 0 999 w14_3) (hw328_s1 : zI 0 5 w328_s1) (jw328 : mJ B rw328) (fw328 : zFr [15, 16, 17, 18, 19, 20, 21, 22, 23] r rw328) (mw328_11_0 : zI 1 1000 (rw328 11 0)) (x328 : mG (rw328 23) w328_2 (mgt r (zn w14_3 + 1))) (hE : X = Gm_worked_328 w14_3 (Gm_worked_14 q n14) w328_2 w328_s0 w328_s1 rw328), zKf p l e ({ frames := 3, cells := 0, slots := 0, locals := 160 }) s m a9 below meth c Q D A 328 6 [.int w328_s0, .int w328_s1, .ref (y 21)] (mW ct h0 y rw328 q) [(0, .ref h0), (1, .int 0), (2, .int w328_2), (3, .int w14_3)] := by
        intro w328_2 w328_s0 w328_s1 rw328 hw328_2 hw328_3 hw328_s1 jw328 fw328 mw328_11_0 x328 hE H locs ls hw hS hl
        unfold Gm_worked_328 at hE
        refine miast hx hb hK hw hS 22 mWg21 hw328_s1 (by decide) dX12_worked_328 (mW ct h0 y (zset rw328 21 (upd (rw328 21) (zn w328_s1) w328_s0)) q) mWs21 (fun H locs hw hS => ?_)
        refine mgen (P := fun x => mJ B x ∧ zFr [15, 16, 17, 18, 19, 20, 21, 22, 23] r x) hw ⟨jw328.set rfl (zI.top _), fw328.set rfl⟩ (fun r2 er2 hw pr2 => ?_)
        have hE := zletE er2 hE
        exact cut329 w328_2 r2 hw328_2 hw328_3 pr2.1 pr2.2 (zs_at er2 mw328_11_0 (by decide)) (x328.row (zs_row (k := 23) er2 (by decide))) hE H locs ls hw hS (lv_sub hl [0, 1, 2, 3] rfl)
      have cut300 : ∀ (w300_2 : Int32) (w300_5 : Int32) (rw300 : zRr) (hw300_2 : zI 0 5 w300_2) (hw300_3 : zI 0 999 w14_3) (jw300 : mJ B rw300) (fw300 : zFr [15, 16, 17, 18, 19, 20, 21, 22, 23] r rw300) (mw300_11_0 : zI 1 1000 (rw300 11 0)) (x300 : mG (rw300 23) w300_2 (mgt r (zn w14_3 + 1))) (hE : X = Gm_worked_300 w14_3 (Gm_worked_14 q n14) w300_2 w300_5 rw300), zKf p l e ({ frames := 3, cells := 0, slots := 0, locals := 160 }) s m a9 below meth c Q D A 300 6 [] (mW ct h0 y rw300 q) [(0, .ref h0), (1, .int 0), (2, .int w300_2), (3, .int w14_3), (5, .int w300_5)] := by
        intro w300_2 w300_5 rw300 hw300_2 hw300_3 jw300 fw300 mw300_11_0 x300 hE H locs ls hw hS hl
        unfold Gm_worked_300 at hE
        refine lv_aload_n hx hb dX12_worked_300 rfl (lv_at hl 0 rfl) ?_
        refine mget (v := .ref (y 21)) hx hb hts hiX12 hown hK hw 32 (by decide) lf75 rfl rfl dX12_worked_301 ?_
        refine lv_iload_n hx hb dX12_worked_304 rfl (lv_at hl 2 rfl) ?_
        refine lv_aload_n hx hb dX12_worked_305 rfl (lv_at hl 0 rfl) ?_
        refine mget (v := .ref (y 22)) hx hb hts hiX12 hown hK hw 33 (by decide) lf78 rfl rfl dX12_worked_306 ?_
        refine lv_iload_n hx hb dX12_worked_309 rfl (lv_at hl 2 rfl) ?_
        refine miald hx hb hK hw 23 mWg22 hw300_2 (by decide) dX12_worked_310 (zgenE (zI.top _) (fun v3 ev3 _ => ?_))
        have hE := zletE ev3 hE
        refine lv_if_ne (tgt := 319) hx hb dX12_worked_311 (by decide) (fun c4 => ?_) (fun c4 => ?_)
        · have hE := zifnT c4 hE
          refine lv_aload_n hx hb dX12_worked_319 rfl (lv_at hl 0 rfl) ?_
          refine mget (v := .ref (y 21)) hx hb hts hiX12 hown hK hw 32 (by decide) lf75 rfl rfl dX12_worked_320 ?_
          refine lv_iload_n hx hb dX12_worked_323 rfl (lv_at hl 2 rfl) ?_
          refine miald hx hb hK hw 22 mWg21 hw300_2 (by decide) dX12_worked_324 (zgenE (zI.top _) (fun v5 ev5 _ => ?_))
          have hE := zletE ev5 hE
          refine lv_iload hx hb dX12_worked_325 (lv_at hl 4 rfl) ?_
          refine lv_imul hx hb dX12_worked_327 (zgenE (zI.top _) (fun v6 ev6 _ => ?_))
          have hE := zletE ev6 hE
          exact cut328 w300_2 v6 w300_2 rw300 hw300_2 hw300_3 hw300_2 jw300 fw300 mw300_11_0 (x300) hE H locs ls hw hS (lv_sub hl [0, 1, 2, 3] rfl)
        · have hE := zifnF c4 hE
          have k7 : zI 0 0 (v3) := zI.eqq c4 (zI.lit (a := 0) (b := 0) (c := 0) (by decide))
          refine lv_iload hx hb dX12_worked_314 (lv_at hl 4 rfl) ?_
          refine lv_goto (tgt := 328) hx hb dX12_worked_316 (by decide) ?_
          exact cut328 w300_2 w300_5 w300_2 rw300 hw300_2 hw300_3 hw300_2 jw300 fw300 mw300_11_0 (x300) hE H locs ls hw hS (lv_sub hl [0, 1, 2, 3] rfl)
      have cut268 : ∀ (n268 : Nat) (w268_2 : Int32) (w268_5 : Int32) (rw268 : zRr) (hw268_2 : zI 0 5 w268_2) (hw268_3 : zI 0 999 w14_3) (jw268 : mJ B rw268) (fw268 : zFr [15, 16, 17, 18, 19, 20, 21, 22, 23] r rw268) (mw268_11_0 : zI 1 1000 (rw268 11 0)) (x268 : ∃ g, mG (rw268 23) w268_2 g ∧ g.dropWhile id = mgt r (zn w14_3 + 1)) (hE : X = Gm_worked_268 w14_3 (Gm_worked_14 q n14) n268 w268_2 w268_5 rw268), w268_2.toInt - 0 < (n268 : Int) → zKf p l e ({ frames := 3, cells := 0, slots := 0, locals := 160 }) s m a9 below meth c Q D A 268 6 [] (mW ct h0 y rw268 q) [(0, .ref h0), (1, .int 0), (2, .int w268_2), (3, .int w14_3), (5, .int w268_5)] := by
        intro n268
        induction n268 with
        | zero => intro w268_2 w268_5 rw268 hw268_2 hw268_3 jw268 fw268 mw268_11_0 x268 hE hm268; exact zI.no1 hw268_2 (by decide) hm268
        | succ n268 ih268 =>
          intro w268_2 w268_5 rw268 hw268_2 hw268_3 jw268 fw268 mw268_11_0 x268 hE hm268
          have hE : X = Bm_worked_268 w14_3 (Gm_worked_14 q n14) (Gm_worked_268 w14_3 (Gm_worked_14 q n14) n268) w268_2 w268_5 rw268 := hE
          unfold Bm_worked_268 at hE
          have cut292 : ∀ (w292_s0 : Int32) (hw292_2 : zI 1 5 w268_2) (hw292_3 : zI 0 999 w14_3) (hw292_s0 : zI 0 1 w292_s0) (mw292_11_0 : zI 1 1000 (rw268 11 0)) (x292a : ∃ g, mG (rw268 23) w268_2 g ∧ g.dropWhile id = mgt r (zn w14_3 + 1)) (x292b : (0 : Int32) < w268_2) (x292c : rw268 23 (zn w268_2) = 1) (hE : X = Gm_worked_292 w268_2 rw268 (Gm_worked_268 w14_3 (Gm_worked_14 q n14) n268) w292_s0), zKf p l e ({ frames := 3, cells := 0, slots := 0, locals := 160 }) s m a9 below meth c Q D A 292 6 [.int w292_s0] (mW ct h0 y rw268 q) [(0, .ref h0), (1, .int 0), (2, .int w268_2), (3, .int w14_3)] := by
            intro w292_s0 hw292_2 hw292_3 hw292_s0 mw292_11_0 x292a x292b x292c hE H locs ls hw hS hl
            unfold Gm_worked_292 at hE
            refine lv_istore (lv' := [(5, .int w292_s0), (0, .ref h0), (1, .int 0), (2, .int w268_2), (3, .int w14_3)]) hx hb dX12_worked_292 hl (by decide) rfl (fun ls hl => ?_)
            refine lv_iinc (v := w268_2 + (-1)) (lv' := [(2, .int (w268_2 + (-1))), (5, .int w292_s0), (0, .ref h0), (1, .int 0), (3, .int w14_3)]) hx hb dX12_worked_294 hl (k := 3) rfl (rfl) (by decide) rfl (fun ls hl => ?_)
            have k8 : zI 0 4 (w268_2 + (-1)) := zI.add hw292_2 (zI.lit (a := (-1)) (b := (-1)) (by decide)) (by decide)
            refine lv_goto (tgt := 268) hx hb dX12_worked_297 (by decide) ?_
            exact ih268 (w268_2 + (-1)) w292_s0 rw268 (k8.w (c := 0) (d := 5) (by decide)) hw292_3 jw268 fw268 mw292_11_0 (xG.back x292a x292b x292c) hE (zI.down hw292_2 (by decide) hm268) H locs ls hw hS (lv_sub hl [2, 3, 0, 4, 1] rfl)
          intro H locs ls hw hS hl
          refine lv_iload_n hx hb dX12_worked_268 rfl (lv_at hl 2 rfl) ?_
          refine lv_if_le (tgt := 300) hx hb dX12_worked_269 (by decide) (fun c9 => ?_) (fun c9 => ?_)
          · have hE := zifT c9 hE
            have k10 : zI 0 0 (w268_2) := zI.leU c9 hw268_2 (zI.lit (a := 0) (b := 0) (c := 0) (by decide)) (by decide)
            exact cut300 w268_2 w268_5 rw268 (k10.w (c := 0) (d := 5) (by decide)) hw268_3 jw268 fw268 mw268_11_0 (xG.exit0 x268 c9) hE H locs ls hw hS (lv_sub hl [0, 1, 2, 3, 4] rfl)
          · have hE := zifF c9 hE
            have k11 : zI 1 5 (w268_2) := zI.ltD (zI.nle c9) (zI.lit (a := 0) (b := 0) (c := 0) (by decide)) hw268_2 (by decide)
            refine lv_aload_n hx hb dX12_worked_272 rfl (lv_at hl 0 rfl) ?_
            refine mget (v := .ref (y 23)) hx hb hts hiX12 hown hK hw 34 (by decide) lf81 rfl rfl dX12_worked_273 ?_
            refine lv_iload_n hx hb dX12_worked_276 rfl (lv_at hl 2 rfl) ?_
            refine miald hx hb hK hw 24 mWg23 k11 (by decide) dX12_worked_277 ?_
            refine lv_iconst (v := 1) hx hb dX12_worked_278 (by decide) ?_
            refine lv_icmp_ne (tgt := 300) hx hb dX12_worked_279 (by decide) (fun c12 => ?_) (fun c12 => ?_)
            · have hE := zifnT c12 hE
              exact cut300 w268_2 w268_5 rw268 (k11.w (c := 0) (d := 5) (by decide)) hw268_3 jw268 fw268 mw268_11_0 (xG.exit1 x268 c12) hE H locs ls hw hS (lv_sub hl [0, 1, 2, 3, 4] rfl)
            · have hE := zifnF c12 hE
              have k13 : zI 1 1 (rw268 23 (zn w268_2)) := zI.eqq c12 (zI.lit (a := 1) (b := 1) (c := 1) (by decide))
              refine lv_iload hx hb dX12_worked_282 (lv_at hl 4 rfl) ?_
              refine lv_if_ne (tgt := 291) hx hb dX12_worked_284 (by decide) (fun c14 => ?_) (fun c14 => ?_)
              · have hE := zifnT c14 hE
                refine lv_iconst (v := 0) hx hb dX12_worked_291 (by decide) ?_
                exact cut292 0 k11 hw268_3 ((zI.lit (a := 0) (b := 0) (c := 0) (by decide)).w (c := 0) (d := 1) (by decide)) mw268_11_0 (x268) ((zI.nle c9)) (c12) hE H locs ls hw hS (lv_sub hl [0, 1, 2, 3] rfl)
              · have hE := zifnF c14 hE
                have k15 : zI 0 0 (w268_5) := zI.eqq c14 (zI.lit (a := 0) (b := 0) (c := 0) (by decide))
                refine lv_iconst (v := 1) hx hb dX12_worked_287 (by decide) ?_
                refine lv_goto (tgt := 292) hx hb dX12_worked_288 (by decide) ?_
                exact cut292 1 k11 hw268_3 ((zI.lit (a := 1) (b := 1) (c := 1) (by decide)).w (c := 0) (d := 1) (by decide)) mw268_11_0 (x268) ((zI.nle c9)) (c12) hE H locs ls hw hS (lv_sub hl [0, 1, 2, 3] rfl)
      intro H locs ls hw hS hl
      refine lv_iload_n hx hb dX12_worked_14 rfl (lv_at hl 3 rfl) ?_
      refine lv_aload_n hx hb dX12_worked_15 rfl (lv_at hl 0 rfl) ?_
      refine mget (v := .ref (y 11)) hx hb hts hiX12 hown hK hw 20 (by decide) lf44 rfl rfl dX12_worked_16 ?_
      refine lv_iload_n hx hb dX12_worked_19 rfl (lv_at hl 1 rfl) ?_
      refine ziald hx hb hK hw 12 mWg11 0 (by decide) (by decide) (by decide) dX12_worked_20 ?_
      refine lv_icmp_ge (tgt := 335) hx hb dX12_worked_21 (by decide) (fun c16 => ?_) (fun c16 => ?_)
      · have hE := zifT c16 hE
        refine lv_aload_n hx hb dX12_worked_335 rfl (lv_at hl 0 rfl) ?_
        refine lv_iconst (v := 0) hx hb dX12_worked_336 (by decide) ?_
        refine mcallV (As := [.int 0]) (rest := []) ⟨hx, hb, hml, hown, hts⟩ (mc_tests l D ct h0 y B 0 rw14 q ((zI.lit (a := 0) (b := 0) (c := 0) (by decide)).w (c := 0) (d := 5) (by decide)) jw14) (wqX12_213_mc_tests hts ⟨Nat.le_of_ble_eq_true rfl, Nat.le_of_ble_eq_true rfl⟩) hw hS hA hK hN rfl hl.1 rfl (Nat.le_of_ble_eq_true rfl) dX12_worked_337 340 rfl (fun u17 H locs pu17 hw hS => ?_)
        have ju17 : mJ B u17 := pu17.1
        have fu17 : zFr [19, 22, 15, 18, 20] rw14 u17 := pu17.2.1
        have xu17 : u17 = (Gm_tests (0 : Int32) rw14 q) := pu17.2.2.1
        have hE := zletE xu17 hE
        have hw : zPD D A (mW ct h0 y u17 q) H := hw
        refine zfr 340 [] rfl rfl ?_
        refine lv_aload_n hx hb dX12_worked_340 rfl (lv_at hl 0 rfl) ?_
        refine mget (v := .ref (y 15)) hx hb hts hiX12 hown hK hw 26 (by decide) lf57 rfl rfl dX12_worked_341 ?_
        refine lv_iconst (v := 0) hx hb dX12_worked_344 (by decide) ?_
        refine ziald hx hb hK hw 16 mWg15 0 (by decide) (by decide) (by decide) dX12_worked_345 (zgenE (zI.top _) (fun v19 ev19 _ => ?_))
        have hE := zletE ev19 hE
        exact ziretQ hQ hx hb hr rfl hlocks (v19, u17) rfl ⟨(zI.top _), ju17, (fw14.tr fu17 rfl), (hE.symm.trans hX), trivial⟩ hw hS dX12_worked_346
      · have hE := zifF c16 hE
        have k20 : zI 0 999 (w14_3) := zI.ltU (zI.nle c16) hw14_3 (show zI 0 1000 (rw14 11 0) from jw14.i 11 0) (by decide)
        have k21 : zI 1 1000 (rw14 11 0) := zI.ltD (zI.nle c16) hw14_3 (show zI 0 1000 (rw14 11 0) from jw14.i 11 0) (by decide)
        refine lv_aload_n hx hb dX12_worked_24 rfl (lv_at hl 0 rfl) ?_
        refine mget (v := .ref (y 12)) hx hb hts hiX12 hown hK hw 21 (by decide) lf47 rfl rfl dX12_worked_25 ?_
        refine lv_iload_n hx hb dX12_worked_28 rfl (lv_at hl 3 rfl) ?_
        refine miald hx hb hK hw 13 mWg12 k20 (by decide) dX12_worked_29 (zgenE (lo := (-2147483648)) (hi := 2147483647) ((zI.top _)) (fun v22 ev22 hv22 => ?_))
        have hE := zletE ev22 hE
        refine lv_istore (lv' := [(4, .int v22), (0, .ref h0), (1, .int 0), (2, .int w14_2), (3, .int w14_3)]) hx hb dX12_worked_30 hl (by decide) rfl (fun ls hl => ?_)
        have ec : v22 = r 12 (zn w14_3) := ev22.trans (congrFun (fw14 12 rfl) _)
        have hok : mok v22 (mgt r (zn w14_3)) := by rw [ec]; exact mgt_ok hJ0 x14a (by have h9 := zn_lt (zI.nle c16) k20 (by decide); rw [(fw14 11 rfl)] at h9; exact h9)
        have hst : mgt r (zn w14_3 + 1) = mst v22 (mgt r (zn w14_3)) := by rw [ec]; exact mgt_s x14a
        have k23 : zI 0 2147483647 v22 := ⟨hok.2.2, (zI.top _).2⟩
        refine lv_iload hx hb dX12_worked_32 (lv_at hl 0 rfl) ?_
        refine lv_bipush (v := 28) hx hb dX12_worked_34 (by decide) ?_
        refine lv_icmp_eq (tgt := 46) hx hb dX12_worked_36 (by decide) (fun c24 => ?_) (fun c24 => ?_)
        · have hE := zifT c24 hE
          have k25 : zI 28 28 (v22) := zI.eqq c24 (zI.lit (a := 28) (b := 28) (c := 28) (by decide))
          have k26 : zI 0 4 w14_2 := x14b.b4 (hok.1 (Or.inl c24))
          refine lv_iinc (v := w14_2 + 1) (lv' := [(2, .int (w14_2 + 1)), (4, .int v22), (0, .ref h0), (1, .int 0), (3, .int w14_3)]) hx hb dX12_worked_46 hl (k := 3) rfl (rfl) (by decide) rfl (fun ls hl => ?_)
          have k27 : zI 1 5 (w14_2 + 1) := zI.add k26 (zI.lit (a := 1) (b := 1) (by decide)) (by decide)
          refine lv_aload_n hx hb dX12_worked_49 rfl (lv_at hl 2 rfl) ?_
          refine mget (v := .ref (y 23)) hx hb hts hiX12 hown hK hw 34 (by decide) lf81 rfl rfl dX12_worked_50 ?_
          refine lv_iload_n hx hb dX12_worked_53 rfl (lv_at hl 0 rfl) ?_
          refine lv_iload hx hb dX12_worked_54 (lv_at hl 1 rfl) ?_
          refine lv_bipush (v := 30) hx hb dX12_worked_56 (by decide) ?_
          refine lv_icmp_ne (tgt := 65) hx hb dX12_worked_58 (by decide) (fun c28 => ?_) (fun c28 => ?_)
          · have hE := zifnT c28 hE
            refine lv_iconst (v := 0) hx hb dX12_worked_65 (by decide) ?_
            refine miast hx hb hK hw hS 24 mWg23 k27 (by decide) dX12_worked_66 (mW ct h0 y (zset rw14 23 (upd (rw14 23) (zn (w14_2 + 1)) (0 : Int32))) q) mWs23 (fun H locs hw hS => ?_)
            refine mgen (P := fun x => mJ B x ∧ zFr [15, 16, 17, 18, 19, 20, 21, 22, 23] r x) hw ⟨jw14.set rfl (zI.top _), fw14.set rfl⟩ (fun r29 er29 hw pr29 => ?_)
            have hE := zletE er29 hE
            refine lv_aload_n hx hb dX12_worked_67 rfl (lv_at hl 2 rfl) ?_
            refine lv_iload_n hx hb dX12_worked_68 rfl (lv_at hl 0 rfl) ?_
            refine mcallV (As := [.int (w14_2 + 1)]) (rest := []) ⟨hx, hb, hml, hown, hts⟩ (mc_opens l D ct h0 y B (w14_2 + 1) r29 q (k27.w (c := 0) (d := 5) (by decide)) pr29.1) (wqX12_210_mc_opens hts ⟨Nat.le_of_ble_eq_true rfl, Nat.le_of_ble_eq_true rfl⟩) hw hS hA hK hN rfl hl.1 rfl (Nat.le_of_ble_eq_true rfl) dX12_worked_69 72 rfl (fun u30 H locs pu30 hw hS => ?_)
            have ju30 : mJ B u30 := pu30.1
            have fu30 : zFr [16, 18, 19, 20, 22] r29 u30 := pu30.2.1
            have xu30 : u30 = (Gm_opens (w14_2 + 1) r29 q) := pu30.2.2.1
            have hE := zletE xu30 hE
            have hw : zPD D A (mW ct h0 y u30 q) H := hw
            refine zfr 72 [] rfl rfl ?_
            refine lv_goto (tgt := 329) hx hb dX12_worked_72 (by decide) ?_
            exact cut329 (w14_2 + 1) u30 (k27.w (c := 0) (d := 5) (by decide)) k20 ju30 (pr29.2.tr fu30 rfl) (fu30.at (zs_at er29 k21 (by decide)) rfl) (((x14b.push (v := 0) (x := false) (hok.1 (Or.inl c24)) (by decide)).to (hst.trans (mst_28 c24))).row ((fu30 23 rfl).trans (zs_self er29))) hE H locs ls hw hS (lv_sub hl [2, 3, 0, 4] rfl)
          · have hE := zifnF c28 hE
            exact absurd (congrArg Int32.toInt c28) (by have := k25.2; have := (zI.lit (a := 30) (b := 30) (c := 30) (by decide)).1; omega)
        · have hE := zifF c24 hE
          refine lv_iload hx hb dX12_worked_39 (lv_at hl 0 rfl) ?_
          refine lv_bipush (v := 30) hx hb dX12_worked_41 (by decide) ?_
          refine lv_icmp_ne (tgt := 75) hx hb dX12_worked_43 (by decide) (fun c32 => ?_) (fun c32 => ?_)
          · have hE := zifnT c32 hE
            refine lv_iload hx hb dX12_worked_75 (lv_at hl 0 rfl) ?_
            refine lv_bipush (v := 20) hx hb dX12_worked_77 (by decide) ?_
            refine lv_icmp_eq (tgt := 89) hx hb dX12_worked_79 (by decide) (fun c33 => ?_) (fun c33 => ?_)
            · have hE := zifT c33 hE
              have k34 : zI 20 20 (v22) := zI.eqq c33 (zI.lit (a := 20) (b := 20) (c := 20) (by decide))
              refine lv_aload_n hx hb dX12_worked_89 rfl (lv_at hl 1 rfl) ?_
              refine lv_iload_n hx hb dX12_worked_90 rfl (lv_at hl 3 rfl) ?_
              refine mcallV (As := [.int w14_2]) (rest := []) ⟨hx, hb, hml, hown, hts⟩ (mc_sums l D ct h0 y B w14_2 rw14 q hw14_2 jw14) (wqX12_207_mc_sums hts ⟨Nat.le_of_ble_eq_true rfl, Nat.le_of_ble_eq_true rfl⟩) hw hS hA hK hN rfl hl.1 rfl (Nat.le_of_ble_eq_true rfl) dX12_worked_91 94 rfl (fun u35 H locs pu35 hw hS => ?_)
              have ju35 : mJ B u35 := pu35.1
              have fu35 : zFr [19, 22] rw14 u35 := pu35.2.1
              have xu35 : u35 = (Gm_sums w14_2 rw14 q) := pu35.2.2.1
              have hE := zletE xu35 hE
              have hw : zPD D A (mW ct h0 y u35 q) H := hw
              refine zfr 94 [] rfl rfl ?_
              refine lv_aload_n hx hb dX12_worked_94 rfl (lv_at hl 1 rfl) ?_
              refine mget (v := .ref (y 20)) hx hb hts hiX12 hown hK hw 31 (by decide) lf72 rfl rfl dX12_worked_95 ?_
              refine lv_iload_n hx hb dX12_worked_98 rfl (lv_at hl 3 rfl) ?_
              refine lv_iload hx hb dX12_worked_99 (lv_at hl 0 rfl) ?_
              refine miast hx hb hK hw hS 21 mWg20 hw14_2 (by decide) dX12_worked_101 (mW ct h0 y (zset u35 20 (upd (u35 20) (zn w14_2) v22)) q) mWs20 (fun H locs hw hS => ?_)
              refine mgen (P := fun x => mJ B x ∧ zFr [15, 16, 17, 18, 19, 20, 21, 22, 23] r x) hw ⟨ju35.set rfl (zI.top _), (fw14.tr fu35 rfl).set rfl⟩ (fun r37 er37 hw pr37 => ?_)
              have hE := zletE er37 hE
              refine lv_goto (tgt := 329) hx hb dX12_worked_102 (by decide) ?_
              exact cut329 w14_2 r37 hw14_2 k20 pr37.1 pr37.2 (zs_at er37 (fu35.at k21 rfl) (by decide)) ((x14b.to (hst.trans (mst_k (Or.inl c33)))).row ((zs_row (k := 23) er37 (by decide)).trans (fu35 23 rfl))) hE H locs ls hw hS (lv_sub hl [1, 2, 3, 4] rfl)
            · have hE := zifF c33 hE
              refine lv_iload hx hb dX12_worked_82 (lv_at hl 0 rfl) ?_
              refine lv_bipush (v := 21) hx hb dX12_worked_84 (by decide) ?_
              refine lv_icmp_ne (tgt := 105) hx hb dX12_worked_86 (by decide) (fun c38 => ?_) (fun c38 => ?_)
              · have hE := zifnT c38 hE
                refine lv_iload hx hb dX12_worked_105 (lv_at hl 0 rfl) ?_
                refine lv_bipush (v := 22) hx hb dX12_worked_107 (by decide) ?_
                refine lv_icmp_ne (tgt := 123) hx hb dX12_worked_109 (by decide) (fun c39 => ?_) (fun c39 => ?_)
                · have hE := zifnT c39 hE
                  refine lv_iload hx hb dX12_worked_123 (lv_at hl 0 rfl) ?_
                  refine lv_bipush (v := 24) hx hb dX12_worked_125 (by decide) ?_
                  refine lv_icmp_eq (tgt := 137) hx hb dX12_worked_127 (by decide) (fun c40 => ?_) (fun c40 => ?_)
                  · have hE := zifT c40 hE
                    have k41 : zI 24 24 (v22) := zI.eqq c40 (zI.lit (a := 24) (b := 24) (c := 24) (by decide))
                    refine lv_aload_n hx hb dX12_worked_137 rfl (lv_at hl 1 rfl) ?_
                    refine lv_iload_n hx hb dX12_worked_138 rfl (lv_at hl 3 rfl) ?_
                    refine mcallV (As := [.int w14_2]) (rest := []) ⟨hx, hb, hml, hown, hts⟩ (mc_sums l D ct h0 y B w14_2 rw14 q hw14_2 jw14) (wqX12_207_mc_sums hts ⟨Nat.le_of_ble_eq_true rfl, Nat.le_of_ble_eq_true rfl⟩) hw hS hA hK hN rfl hl.1 rfl (Nat.le_of_ble_eq_true rfl) dX12_worked_139 142 rfl (fun u42 H locs pu42 hw hS => ?_)
                    have ju42 : mJ B u42 := pu42.1
                    have fu42 : zFr [19, 22] rw14 u42 := pu42.2.1
                    have xu42 : u42 = (Gm_sums w14_2 rw14 q) := pu42.2.2.1
                    have hE := zletE xu42 hE
                    have hw : zPD D A (mW ct h0 y u42 q) H := hw
                    refine zfr 142 [] rfl rfl ?_
                    refine lv_aload_n hx hb dX12_worked_142 rfl (lv_at hl 1 rfl) ?_
                    refine mget (v := .ref (y 17)) hx hb hts hiX12 hown hK hw 28 (by decide) lf63 rfl rfl dX12_worked_143 ?_
                    refine lv_iload_n hx hb dX12_worked_146 rfl (lv_at hl 3 rfl) ?_
                    refine lv_aload_n hx hb dX12_worked_147 rfl (lv_at hl 1 rfl) ?_
                    refine mget (v := .ref (y 19)) hx hb hts hiX12 hown hK hw 30 (by decide) lf69 rfl rfl dX12_worked_148 ?_
                    refine lv_iload_n hx hb dX12_worked_151 rfl (lv_at hl 3 rfl) ?_
                    refine miald hx hb hK hw 20 mWg19 hw14_2 (by decide) dX12_worked_152 (zgenE (zI.top _) (fun v44 ev44 _ => ?_))
                    have hE := zletE ev44 hE
                    refine miast hx hb hK hw hS 18 mWg17 hw14_2 (by decide) dX12_worked_153 (mW ct h0 y (zset u42 17 (upd (u42 17) (zn w14_2) v44)) q) mWs17 (fun H locs hw hS => ?_)
                    refine mgen (P := fun x => mJ B x ∧ zFr [15, 16, 17, 18, 19, 20, 21, 22, 23] r x) hw ⟨ju42.set rfl (zI.top _), (fw14.tr fu42 rfl).set rfl⟩ (fun r45 er45 hw pr45 => ?_)
                    have hE := zletE er45 hE
                    refine lv_aload_n hx hb dX12_worked_154 rfl (lv_at hl 1 rfl) ?_
                    refine mget (v := .ref (y 18)) hx hb hts hiX12 hown hK hw 29 (by decide) lf66 rfl rfl dX12_worked_155 ?_
                    refine lv_iload_n hx hb dX12_worked_158 rfl (lv_at hl 3 rfl) ?_
                    refine lv_iload hx hb dX12_worked_159 (lv_at hl 0 rfl) ?_
                    refine miast hx hb hK hw hS 19 mWg18 hw14_2 (by decide) dX12_worked_161 (mW ct h0 y (zset r45 18 (upd (r45 18) (zn w14_2) v22)) q) mWs18 (fun H locs hw hS => ?_)
                    refine mgen (P := fun x => mJ B x ∧ zFr [15, 16, 17, 18, 19, 20, 21, 22, 23] r x) hw ⟨pr45.1.set rfl (zI.top _), pr45.2.set rfl⟩ (fun r46 er46 hw pr46 => ?_)
                    have hE := zletE er46 hE
                    refine lv_aload_n hx hb dX12_worked_162 rfl (lv_at hl 1 rfl) ?_
                    refine mget (v := .ref (y 19)) hx hb hts hiX12 hown hK hw 30 (by decide) lf69 rfl rfl dX12_worked_163 ?_
                    refine lv_iload_n hx hb dX12_worked_166 rfl (lv_at hl 3 rfl) ?_
                    refine lv_iconst (v := 0) hx hb dX12_worked_167 (by decide) ?_
                    refine miast hx hb hK hw hS 20 mWg19 hw14_2 (by decide) dX12_worked_168 (mW ct h0 y (zset r46 19 (upd (r46 19) (zn w14_2) (0 : Int32))) q) mWs19 (fun H locs hw hS => ?_)
                    refine mgen (P := fun x => mJ B x ∧ zFr [15, 16, 17, 18, 19, 20, 21, 22, 23] r x) hw ⟨pr46.1.set rfl (zI.top _), pr46.2.set rfl⟩ (fun r47 er47 hw pr47 => ?_)
                    have hE := zletE er47 hE
                    refine lv_aload_n hx hb dX12_worked_169 rfl (lv_at hl 1 rfl) ?_
                    refine mget (v := .ref (y 20)) hx hb hts hiX12 hown hK hw 31 (by decide) lf72 rfl rfl dX12_worked_170 ?_
                    refine lv_iload_n hx hb dX12_worked_173 rfl (lv_at hl 3 rfl) ?_
                    refine lv_bipush (v := 20) hx hb dX12_worked_174 (by decide) ?_
                    refine miast hx hb hK hw hS 21 mWg20 hw14_2 (by decide) dX12_worked_176 (mW ct h0 y (zset r47 20 (upd (r47 20) (zn w14_2) (20 : Int32))) q) mWs20 (fun H locs hw hS => ?_)
                    refine mgen (P := fun x => mJ B x ∧ zFr [15, 16, 17, 18, 19, 20, 21, 22, 23] r x) hw ⟨pr47.1.set rfl (zI.top _), pr47.2.set rfl⟩ (fun r48 er48 hw pr48 => ?_)
                    have hE := zletE er48 hE
                    refine lv_goto (tgt := 329) hx hb dX12_worked_177 (by decide) ?_
                    exact cut329 w14_2 r48 hw14_2 k20 pr48.1 pr48.2 (zs_at er48 (zs_at er47 (zs_at er46 (zs_at er45 (fu42.at k21 rfl) (by decide)) (by decide)) (by decide)) (by decide)) ((x14b.to (hst.trans (mst_k (Or.inr (Or.inr (Or.inr (Or.inl c40))))))).row ((zs_row (k := 23) er48 (by decide)).trans ((zs_row (k := 23) er47 (by decide)).trans ((zs_row (k := 23) er46 (by decide)).trans ((zs_row (k := 23) er45 (by decide)).trans (fu42 23 rfl)))))) hE H locs ls hw hS (lv_sub hl [1, 2, 3, 4] rfl)
                  · have hE := zifF c40 hE
                    refine lv_iload hx hb dX12_worked_130 (lv_at hl 0 rfl) ?_
                    refine lv_bipush (v := 25) hx hb dX12_worked_132 (by decide) ?_
                    refine lv_icmp_ne (tgt := 180) hx hb dX12_worked_134 (by decide) (fun c49 => ?_) (fun c49 => ?_)
                    · have hE := zifnT c49 hE
                      refine lv_iload hx hb dX12_worked_180 (lv_at hl 0 rfl) ?_
                      refine lv_bipush (v := 26) hx hb dX12_worked_182 (by decide) ?_
                      refine lv_icmp_eq (tgt := 194) hx hb dX12_worked_184 (by decide) (fun c50 => ?_) (fun c50 => ?_)
                      · have hE := zifT c50 hE
                        have k51 : zI 26 26 (v22) := zI.eqq c50 (zI.lit (a := 26) (b := 26) (c := 26) (by decide))
                        refine lv_aload_n hx hb dX12_worked_194 rfl (lv_at hl 1 rfl) ?_
                        refine lv_iload_n hx hb dX12_worked_195 rfl (lv_at hl 3 rfl) ?_
                        refine mcallV (As := [.int w14_2]) (rest := []) ⟨hx, hb, hml, hown, hts⟩ (mc_tests l D ct h0 y B w14_2 rw14 q hw14_2 jw14) (wqX12_213_mc_tests hts ⟨Nat.le_of_ble_eq_true rfl, Nat.le_of_ble_eq_true rfl⟩) hw hS hA hK hN rfl hl.1 rfl (Nat.le_of_ble_eq_true rfl) dX12_worked_196 199 rfl (fun u52 H locs pu52 hw hS => ?_)
                        have ju52 : mJ B u52 := pu52.1
                        have fu52 : zFr [19, 22, 15, 18, 20] rw14 u52 := pu52.2.1
                        have xu52 : u52 = (Gm_tests w14_2 rw14 q) := pu52.2.2.1
                        have hE := zletE xu52 hE
                        have hw : zPD D A (mW ct h0 y u52 q) H := hw
                        refine zfr 199 [] rfl rfl ?_
                        refine lv_aload_n hx hb dX12_worked_199 rfl (lv_at hl 1 rfl) ?_
                        refine mget (v := .ref (y 16)) hx hb hts hiX12 hown hK hw 27 (by decide) lf60 rfl rfl dX12_worked_200 ?_
                        refine lv_iload_n hx hb dX12_worked_203 rfl (lv_at hl 3 rfl) ?_
                        refine lv_iload hx hb dX12_worked_204 (lv_at hl 0 rfl) ?_
                        refine miast hx hb hK hw hS 17 mWg16 hw14_2 (by decide) dX12_worked_206 (mW ct h0 y (zset u52 16 (upd (u52 16) (zn w14_2) v22)) q) mWs16 (fun H locs hw hS => ?_)
                        refine mgen (P := fun x => mJ B x ∧ zFr [15, 16, 17, 18, 19, 20, 21, 22, 23] r x) hw ⟨ju52.set rfl (zI.top _), (fw14.tr fu52 rfl).set rfl⟩ (fun r54 er54 hw pr54 => ?_)
                        have hE := zletE er54 hE
                        refine lv_goto (tgt := 329) hx hb dX12_worked_207 (by decide) ?_
                        exact cut329 w14_2 r54 hw14_2 k20 pr54.1 pr54.2 (zs_at er54 (fu52.at k21 rfl) (by decide)) ((x14b.to (hst.trans (mst_k (Or.inr (Or.inr (Or.inr (Or.inr (Or.inr (Or.inl c50))))))))).row ((zs_row (k := 23) er54 (by decide)).trans (fu52 23 rfl))) hE H locs ls hw hS (lv_sub hl [1, 2, 3, 4] rfl)
                      · have hE := zifF c50 hE
                        refine lv_iload hx hb dX12_worked_187 (lv_at hl 0 rfl) ?_
                        refine lv_bipush (v := 27) hx hb dX12_worked_189 (by decide) ?_
                        refine lv_icmp_ne (tgt := 210) hx hb dX12_worked_191 (by decide) (fun c55 => ?_) (fun c55 => ?_)
                        · have hE := zifnT c55 hE
                          refine lv_iload hx hb dX12_worked_210 (lv_at hl 0 rfl) ?_
                          refine lv_bipush (v := 100) hx hb dX12_worked_212 (by decide) ?_
                          refine lv_icmp_lt (tgt := 225) hx hb dX12_worked_214 (by decide) (fun c56 => ?_) (fun c56 => ?_)
                          · have hE := zifT c56 hE
                            have k57 : zI 0 99 (v22) := zI.ltU c56 k23 (zI.lit (a := 100) (b := 100) (c := 100) (by decide)) (by decide)
                            refine lv_iload hx hb dX12_worked_225 (lv_at hl 0 rfl) ?_
                            refine lv_bipush (v := 20) hx hb dX12_worked_227 (by decide) ?_
                            refine lv_icmp_ge (tgt := 242) hx hb dX12_worked_229 (by decide) (fun c58 => ?_) (fun c58 => ?_)
                            · have hE := zifT c58 hE
                              have k59 : zI 20 99 (v22) := zI.leD c58 (zI.lit (a := 20) (b := 20) (c := 20) (by decide)) k57 (by decide)
                              refine lv_iconst (v := 0) hx hb dX12_worked_242 (by decide) ?_
                              refine lv_istore (lv' := [(5, .int 0), (4, .int v22), (0, .ref h0), (1, .int 0), (2, .int w14_2), (3, .int w14_3)]) hx hb dX12_worked_243 hl (by decide) rfl (fun ls hl => ?_)
                              refine lv_iload hx hb dX12_worked_245 (lv_at hl 1 rfl) ?_
                              refine lv_bipush (v := 29) hx hb dX12_worked_247 (by decide) ?_
                              refine lv_icmp_ne (tgt := 268) hx hb dX12_worked_249 (by decide) (fun c60 => ?_) (fun c60 => ?_)
                              · have hE := zifnT c60 hE
                                exact cut268 6 w14_2 0 rw14 hw14_2 k20 jw14 fw14 k21 (⟨_, x14b.row rfl, (hst.trans (mst_v c24 c32 c33 c38 c39 c40 c49 c50 c55 c60)).symm⟩) hE (zI.m1 hw14_2 (by decide)) H locs ls hw hS (lv_sub hl [2, 3, 4, 5, 0] rfl)
                              · have hE := zifnF c60 hE
                                have k61 : zI 29 29 (v22) := zI.eqq c60 (zI.lit (a := 29) (b := 29) (c := 29) (by decide))
                                refine lv_aload_n hx hb dX12_worked_252 rfl (lv_at hl 2 rfl) ?_
                                refine lv_iload_n hx hb dX12_worked_253 rfl (lv_at hl 4 rfl) ?_
                                refine mcallV (As := [.int w14_2]) (rest := []) ⟨hx, hb, hml, hown, hts⟩ (mc_tests l D ct h0 y B w14_2 rw14 q hw14_2 jw14) (wqX12_213_mc_tests hts ⟨Nat.le_of_ble_eq_true rfl, Nat.le_of_ble_eq_true rfl⟩) hw hS hA hK hN rfl hl.1 rfl (Nat.le_of_ble_eq_true rfl) dX12_worked_254 257 rfl (fun u62 H locs pu62 hw hS => ?_)
                                have ju62 : mJ B u62 := pu62.1
                                have fu62 : zFr [19, 22, 15, 18, 20] rw14 u62 := pu62.2.1
                                have xu62 : u62 = (Gm_tests w14_2 rw14 q) := pu62.2.2.1
                                have hE := zletE xu62 hE
                                have hw : zPD D A (mW ct h0 y u62 q) H := hw
                                refine zfr 257 [] rfl rfl ?_
                                refine lv_aload_n hx hb dX12_worked_257 rfl (lv_at hl 2 rfl) ?_
                                refine mget (v := .ref (y 15)) hx hb hts hiX12 hown hK hw 26 (by decide) lf57 rfl rfl dX12_worked_258 ?_
                                refine lv_iload_n hx hb dX12_worked_261 rfl (lv_at hl 4 rfl) ?_
                                refine miald hx hb hK hw 16 mWg15 hw14_2 (by decide) dX12_worked_262 (zgenE (zI.top _) (fun v64 ev64 _ => ?_))
                                have hE := zletE ev64 hE
                                refine lv_istore (lv' := [(5, .int v64), (4, .int v22), (0, .ref h0), (1, .int 0), (2, .int w14_2), (3, .int w14_3)]) hx hb dX12_worked_263 hl (by decide) rfl (fun ls hl => ?_)
                                have k65 : zI 1 5 w14_2 := x14b.b1 (hok.2.1 c60)
                                refine lv_iinc (v := w14_2 + (-1)) (lv' := [(2, .int (w14_2 + (-1))), (5, .int v64), (4, .int v22), (0, .ref h0), (1, .int 0), (3, .int w14_3)]) hx hb dX12_worked_265 hl (k := 4) rfl (rfl) (by decide) rfl (fun ls hl => ?_)
                                have k66 : zI 0 4 (w14_2 + (-1)) := zI.add k65 (zI.lit (a := (-1)) (b := (-1)) (by decide)) (by decide)
                                exact cut268 6 (w14_2 + (-1)) v64 u62 (k66.w (c := 0) (d := 5) (by decide)) k20 ju62 (fw14.tr fu62 rfl) (fu62.at k21 rfl) (⟨_, (x14b.pop1 (hok.2.1 c60)).row (fu62 23 rfl), (hst.trans (mst_29 c60)).symm⟩) hE (zI.m1 k66 (by decide)) H locs ls hw hS (lv_sub hl [3, 4, 0, 5, 1] rfl)
                            · have hE := zifF c58 hE
                              have k67 : zI 0 19 (v22) := zI.ltU (zI.nle c58) k57 (zI.lit (a := 20) (b := 20) (c := 20) (by decide)) (by decide)
                              refine lv_aload_n hx hb dX12_worked_232 rfl (lv_at hl 1 rfl) ?_
                              refine mget (v := .ref (y 24)) hx hb hts hiX12 hown hK hw 35 (by decide) lf84 rfl rfl dX12_worked_233 ?_
                              refine lv_iload hx hb dX12_worked_236 (lv_at hl 0 rfl) ?_
                              refine miald hx hb hK hw 25 mWg24 k67 (by decide) dX12_worked_238 (zgenE (zI.top _) (fun v68 ev68 _ => ?_))
                              have hE := zletE ev68 hE
                              refine lv_goto (tgt := 243) hx hb dX12_worked_239 (by decide) ?_
                              refine lv_istore (lv' := [(5, .int v68), (4, .int v22), (0, .ref h0), (1, .int 0), (2, .int w14_2), (3, .int w14_3)]) hx hb dX12_worked_243 hl (by decide) rfl (fun ls hl => ?_)
                              refine lv_iload hx hb dX12_worked_245 (lv_at hl 1 rfl) ?_
                              refine lv_bipush (v := 29) hx hb dX12_worked_247 (by decide) ?_
                              refine lv_icmp_ne (tgt := 268) hx hb dX12_worked_249 (by decide) (fun c69 => ?_) (fun c69 => ?_)
                              · have hE := zifnT c69 hE
                                exact cut268 6 w14_2 v68 rw14 hw14_2 k20 jw14 fw14 k21 (⟨_, x14b.row rfl, (hst.trans (mst_v c24 c32 c33 c38 c39 c40 c49 c50 c55 c69)).symm⟩) hE (zI.m1 hw14_2 (by decide)) H locs ls hw hS (lv_sub hl [2, 3, 4, 5, 0] rfl)
                              · have hE := zifnF c69 hE
                                exact absurd (congrArg Int32.toInt c69) (by have := k67.2; have := (zI.lit (a := 29) (b := 29) (c := 29) (by decide)).1; omega)
                          · have hE := zifF c56 hE
                            have k70 : zI 100 2147483647 (v22) := zI.leD (zI.nlt c56) (zI.lit (a := 100) (b := 100) (c := 100) (by decide)) k23 (by decide)
                            refine lv_iload hx hb dX12_worked_217 (lv_at hl 0 rfl) ?_
                            refine lv_bipush (v := 100) hx hb dX12_worked_219 (by decide) ?_
                            refine lv_isub hx hb dX12_worked_221 (zgenE (lo := 0) (hi := 2147483547) (zI.sub k70 (zI.lit (a := 100) (b := 100) (c := 100) (by decide)) (by decide)) (fun v71 ev71 hv71 => ?_))
                            have hE := zletE ev71 hE
                            refine lv_goto (tgt := 243) hx hb dX12_worked_222 (by decide) ?_
                            refine lv_istore (lv' := [(5, .int v71), (4, .int v22), (0, .ref h0), (1, .int 0), (2, .int w14_2), (3, .int w14_3)]) hx hb dX12_worked_243 hl (by decide) rfl (fun ls hl => ?_)
                            refine lv_iload hx hb dX12_worked_245 (lv_at hl 1 rfl) ?_
                            refine lv_bipush (v := 29) hx hb dX12_worked_247 (by decide) ?_
                            refine lv_icmp_ne (tgt := 268) hx hb dX12_worked_249 (by decide) (fun c72 => ?_) (fun c72 => ?_)
                            · have hE := zifnT c72 hE
                              exact cut268 6 w14_2 v71 rw14 hw14_2 k20 jw14 fw14 k21 (⟨_, x14b.row rfl, (hst.trans (mst_v c24 c32 c33 c38 c39 c40 c49 c50 c55 c72)).symm⟩) hE (zI.m1 hw14_2 (by decide)) H locs ls hw hS (lv_sub hl [2, 3, 4, 5, 0] rfl)
                            · have hE := zifnF c72 hE
                              exact absurd (congrArg Int32.toInt c72) (by have := k70.1; have := (zI.lit (a := 29) (b := 29) (c := 29) (by decide)).2; omega)
                        · have hE := zifnF c55 hE
                          have k73 : zI 27 27 (v22) := zI.eqq c55 (zI.lit (a := 27) (b := 27) (c := 27) (by decide))
                          refine lv_aload_n hx hb dX12_worked_194 rfl (lv_at hl 1 rfl) ?_
                          refine lv_iload_n hx hb dX12_worked_195 rfl (lv_at hl 3 rfl) ?_
                          refine mcallV (As := [.int w14_2]) (rest := []) ⟨hx, hb, hml, hown, hts⟩ (mc_tests l D ct h0 y B w14_2 rw14 q hw14_2 jw14) (wqX12_213_mc_tests hts ⟨Nat.le_of_ble_eq_true rfl, Nat.le_of_ble_eq_true rfl⟩) hw hS hA hK hN rfl hl.1 rfl (Nat.le_of_ble_eq_true rfl) dX12_worked_196 199 rfl (fun u74 H locs pu74 hw hS => ?_)
                          have ju74 : mJ B u74 := pu74.1
                          have fu74 : zFr [19, 22, 15, 18, 20] rw14 u74 := pu74.2.1
                          have xu74 : u74 = (Gm_tests w14_2 rw14 q) := pu74.2.2.1
                          have hE := zletE xu74 hE
                          have hw : zPD D A (mW ct h0 y u74 q) H := hw
                          refine zfr 199 [] rfl rfl ?_
                          refine lv_aload_n hx hb dX12_worked_199 rfl (lv_at hl 1 rfl) ?_
                          refine mget (v := .ref (y 16)) hx hb hts hiX12 hown hK hw 27 (by decide) lf60 rfl rfl dX12_worked_200 ?_
                          refine lv_iload_n hx hb dX12_worked_203 rfl (lv_at hl 3 rfl) ?_
                          refine lv_iload hx hb dX12_worked_204 (lv_at hl 0 rfl) ?_
                          refine miast hx hb hK hw hS 17 mWg16 hw14_2 (by decide) dX12_worked_206 (mW ct h0 y (zset u74 16 (upd (u74 16) (zn w14_2) v22)) q) mWs16 (fun H locs hw hS => ?_)
                          refine mgen (P := fun x => mJ B x ∧ zFr [15, 16, 17, 18, 19, 20, 21, 22, 23] r x) hw ⟨ju74.set rfl (zI.top _), (fw14.tr fu74 rfl).set rfl⟩ (fun r76 er76 hw pr76 => ?_)
                          have hE := zletE er76 hE
                          refine lv_goto (tgt := 329) hx hb dX12_worked_207 (by decide) ?_
                          exact cut329 w14_2 r76 hw14_2 k20 pr76.1 pr76.2 (zs_at er76 (fu74.at k21 rfl) (by decide)) ((x14b.to (hst.trans (mst_k (Or.inr (Or.inr (Or.inr (Or.inr (Or.inr (Or.inr c55))))))))).row ((zs_row (k := 23) er76 (by decide)).trans (fu74 23 rfl))) hE H locs ls hw hS (lv_sub hl [1, 2, 3, 4] rfl)
                    · have hE := zifnF c49 hE
                      have k77 : zI 25 25 (v22) := zI.eqq c49 (zI.lit (a := 25) (b := 25) (c := 25) (by decide))
                      refine lv_aload_n hx hb dX12_worked_137 rfl (lv_at hl 1 rfl) ?_
                      refine lv_iload_n hx hb dX12_worked_138 rfl (lv_at hl 3 rfl) ?_
                      refine mcallV (As := [.int w14_2]) (rest := []) ⟨hx, hb, hml, hown, hts⟩ (mc_sums l D ct h0 y B w14_2 rw14 q hw14_2 jw14) (wqX12_207_mc_sums hts ⟨Nat.le_of_ble_eq_true rfl, Nat.le_of_ble_eq_true rfl⟩) hw hS hA hK hN rfl hl.1 rfl (Nat.le_of_ble_eq_true rfl) dX12_worked_139 142 rfl (fun u78 H locs pu78 hw hS => ?_)
                      have ju78 : mJ B u78 := pu78.1
                      have fu78 : zFr [19, 22] rw14 u78 := pu78.2.1
                      have xu78 : u78 = (Gm_sums w14_2 rw14 q) := pu78.2.2.1
                      have hE := zletE xu78 hE
                      have hw : zPD D A (mW ct h0 y u78 q) H := hw
                      refine zfr 142 [] rfl rfl ?_
                      refine lv_aload_n hx hb dX12_worked_142 rfl (lv_at hl 1 rfl) ?_
                      refine mget (v := .ref (y 17)) hx hb hts hiX12 hown hK hw 28 (by decide) lf63 rfl rfl dX12_worked_143 ?_
                      refine lv_iload_n hx hb dX12_worked_146 rfl (lv_at hl 3 rfl) ?_
                      refine lv_aload_n hx hb dX12_worked_147 rfl (lv_at hl 1 rfl) ?_
                      refine mget (v := .ref (y 19)) hx hb hts hiX12 hown hK hw 30 (by decide) lf69 rfl rfl dX12_worked_148 ?_
                      refine lv_iload_n hx hb dX12_worked_151 rfl (lv_at hl 3 rfl) ?_
                      refine miald hx hb hK hw 20 mWg19 hw14_2 (by decide) dX12_worked_152 (zgenE (zI.top _) (fun v80 ev80 _ => ?_))
                      have hE := zletE ev80 hE
                      refine miast hx hb hK hw hS 18 mWg17 hw14_2 (by decide) dX12_worked_153 (mW ct h0 y (zset u78 17 (upd (u78 17) (zn w14_2) v80)) q) mWs17 (fun H locs hw hS => ?_)
                      refine mgen (P := fun x => mJ B x ∧ zFr [15, 16, 17, 18, 19, 20, 21, 22, 23] r x) hw ⟨ju78.set rfl (zI.top _), (fw14.tr fu78 rfl).set rfl⟩ (fun r81 er81 hw pr81 => ?_)
                      have hE := zletE er81 hE
                      refine lv_aload_n hx hb dX12_worked_154 rfl (lv_at hl 1 rfl) ?_
                      refine mget (v := .ref (y 18)) hx hb hts hiX12 hown hK hw 29 (by decide) lf66 rfl rfl dX12_worked_155 ?_
                      refine lv_iload_n hx hb dX12_worked_158 rfl (lv_at hl 3 rfl) ?_
                      refine lv_iload hx hb dX12_worked_159 (lv_at hl 0 rfl) ?_
                      refine miast hx hb hK hw hS 19 mWg18 hw14_2 (by decide) dX12_worked_161 (mW ct h0 y (zset r81 18 (upd (r81 18) (zn w14_2) v22)) q) mWs18 (fun H locs hw hS => ?_)
                      refine mgen (P := fun x => mJ B x ∧ zFr [15, 16, 17, 18, 19, 20, 21, 22, 23] r x) hw ⟨pr81.1.set rfl (zI.top _), pr81.2.set rfl⟩ (fun r82 er82 hw pr82 => ?_)
                      have hE := zletE er82 hE
                      refine lv_aload_n hx hb dX12_worked_162 rfl (lv_at hl 1 rfl) ?_
                      refine mget (v := .ref (y 19)) hx hb hts hiX12 hown hK hw 30 (by decide) lf69 rfl rfl dX12_worked_163 ?_
                      refine lv_iload_n hx hb dX12_worked_166 rfl (lv_at hl 3 rfl) ?_
                      refine lv_iconst (v := 0) hx hb dX12_worked_167 (by decide) ?_
                      refine miast hx hb hK hw hS 20 mWg19 hw14_2 (by decide) dX12_worked_168 (mW ct h0 y (zset r82 19 (upd (r82 19) (zn w14_2) (0 : Int32))) q) mWs19 (fun H locs hw hS => ?_)
                      refine mgen (P := fun x => mJ B x ∧ zFr [15, 16, 17, 18, 19, 20, 21, 22, 23] r x) hw ⟨pr82.1.set rfl (zI.top _), pr82.2.set rfl⟩ (fun r83 er83 hw pr83 => ?_)
                      have hE := zletE er83 hE
                      refine lv_aload_n hx hb dX12_worked_169 rfl (lv_at hl 1 rfl) ?_
                      refine mget (v := .ref (y 20)) hx hb hts hiX12 hown hK hw 31 (by decide) lf72 rfl rfl dX12_worked_170 ?_
                      refine lv_iload_n hx hb dX12_worked_173 rfl (lv_at hl 3 rfl) ?_
                      refine lv_bipush (v := 20) hx hb dX12_worked_174 (by decide) ?_
                      refine miast hx hb hK hw hS 21 mWg20 hw14_2 (by decide) dX12_worked_176 (mW ct h0 y (zset r83 20 (upd (r83 20) (zn w14_2) (20 : Int32))) q) mWs20 (fun H locs hw hS => ?_)
                      refine mgen (P := fun x => mJ B x ∧ zFr [15, 16, 17, 18, 19, 20, 21, 22, 23] r x) hw ⟨pr83.1.set rfl (zI.top _), pr83.2.set rfl⟩ (fun r84 er84 hw pr84 => ?_)
                      have hE := zletE er84 hE
                      refine lv_goto (tgt := 329) hx hb dX12_worked_177 (by decide) ?_
                      exact cut329 w14_2 r84 hw14_2 k20 pr84.1 pr84.2 (zs_at er84 (zs_at er83 (zs_at er82 (zs_at er81 (fu78.at k21 rfl) (by decide)) (by decide)) (by decide)) (by decide)) ((x14b.to (hst.trans (mst_k (Or.inr (Or.inr (Or.inr (Or.inr (Or.inl c49)))))))).row ((zs_row (k := 23) er84 (by decide)).trans ((zs_row (k := 23) er83 (by decide)).trans ((zs_row (k := 23) er82 (by decide)).trans ((zs_row (k := 23) er81 (by decide)).trans (fu78 23 rfl)))))) hE H locs ls hw hS (lv_sub hl [1, 2, 3, 4] rfl)
                · have hE := zifnF c39 hE
                  have k85 : zI 22 22 (v22) := zI.eqq c39 (zI.lit (a := 22) (b := 22) (c := 22) (by decide))
                  refine lv_aload_n hx hb dX12_worked_112 rfl (lv_at hl 1 rfl) ?_
                  refine mget (v := .ref (y 22)) hx hb hts hiX12 hown hK hw 33 (by decide) lf78 rfl rfl dX12_worked_113 ?_
                  refine lv_iload_n hx hb dX12_worked_116 rfl (lv_at hl 3 rfl) ?_
                  refine lv_iload hx hb dX12_worked_117 (lv_at hl 0 rfl) ?_
                  refine miast hx hb hK hw hS 23 mWg22 hw14_2 (by decide) dX12_worked_119 (mW ct h0 y (zset rw14 22 (upd (rw14 22) (zn w14_2) v22)) q) mWs22 (fun H locs hw hS => ?_)
                  refine mgen (P := fun x => mJ B x ∧ zFr [15, 16, 17, 18, 19, 20, 21, 22, 23] r x) hw ⟨jw14.set rfl (zI.top _), fw14.set rfl⟩ (fun r86 er86 hw pr86 => ?_)
                  have hE := zletE er86 hE
                  refine lv_goto (tgt := 329) hx hb dX12_worked_120 (by decide) ?_
                  exact cut329 w14_2 r86 hw14_2 k20 pr86.1 pr86.2 (zs_at er86 k21 (by decide)) ((x14b.to (hst.trans (mst_k (Or.inr (Or.inr (Or.inl c39)))))).row (zs_row (k := 23) er86 (by decide))) hE H locs ls hw hS (lv_sub hl [1, 2, 3, 4] rfl)
              · have hE := zifnF c38 hE
                have k87 : zI 21 21 (v22) := zI.eqq c38 (zI.lit (a := 21) (b := 21) (c := 21) (by decide))
                refine lv_aload_n hx hb dX12_worked_89 rfl (lv_at hl 1 rfl) ?_
                refine lv_iload_n hx hb dX12_worked_90 rfl (lv_at hl 3 rfl) ?_
                refine mcallV (As := [.int w14_2]) (rest := []) ⟨hx, hb, hml, hown, hts⟩ (mc_sums l D ct h0 y B w14_2 rw14 q hw14_2 jw14) (wqX12_207_mc_sums hts ⟨Nat.le_of_ble_eq_true rfl, Nat.le_of_ble_eq_true rfl⟩) hw hS hA hK hN rfl hl.1 rfl (Nat.le_of_ble_eq_true rfl) dX12_worked_91 94 rfl (fun u88 H locs pu88 hw hS => ?_)
                have ju88 : mJ B u88 := pu88.1
                have fu88 : zFr [19, 22] rw14 u88 := pu88.2.1
                have xu88 : u88 = (Gm_sums w14_2 rw14 q) := pu88.2.2.1
                have hE := zletE xu88 hE
                have hw : zPD D A (mW ct h0 y u88 q) H := hw
                refine zfr 94 [] rfl rfl ?_
                refine lv_aload_n hx hb dX12_worked_94 rfl (lv_at hl 1 rfl) ?_
                refine mget (v := .ref (y 20)) hx hb hts hiX12 hown hK hw 31 (by decide) lf72 rfl rfl dX12_worked_95 ?_
                refine lv_iload_n hx hb dX12_worked_98 rfl (lv_at hl 3 rfl) ?_
                refine lv_iload hx hb dX12_worked_99 (lv_at hl 0 rfl) ?_
                refine miast hx hb hK hw hS 21 mWg20 hw14_2 (by decide) dX12_worked_101 (mW ct h0 y (zset u88 20 (upd (u88 20) (zn w14_2) v22)) q) mWs20 (fun H locs hw hS => ?_)
                refine mgen (P := fun x => mJ B x ∧ zFr [15, 16, 17, 18, 19, 20, 21, 22, 23] r x) hw ⟨ju88.set rfl (zI.top _), (fw14.tr fu88 rfl).set rfl⟩ (fun r90 er90 hw pr90 => ?_)
                have hE := zletE er90 hE
                refine lv_goto (tgt := 329) hx hb dX12_worked_102 (by decide) ?_
                exact cut329 w14_2 r90 hw14_2 k20 pr90.1 pr90.2 (zs_at er90 (fu88.at k21 rfl) (by decide)) ((x14b.to (hst.trans (mst_k (Or.inr (Or.inl c38))))).row ((zs_row (k := 23) er90 (by decide)).trans (fu88 23 rfl))) hE H locs ls hw hS (lv_sub hl [1, 2, 3, 4] rfl)
          · have hE := zifnF c32 hE
            have k91 : zI 30 30 (v22) := zI.eqq c32 (zI.lit (a := 30) (b := 30) (c := 30) (by decide))
            have k92 : zI 0 4 w14_2 := x14b.b4 (hok.1 (Or.inr c32))
            refine lv_iinc (v := w14_2 + 1) (lv' := [(2, .int (w14_2 + 1)), (4, .int v22), (0, .ref h0), (1, .int 0), (3, .int w14_3)]) hx hb dX12_worked_46 hl (k := 3) rfl (rfl) (by decide) rfl (fun ls hl => ?_)
            have k93 : zI 1 5 (w14_2 + 1) := zI.add k92 (zI.lit (a := 1) (b := 1) (by decide)) (by decide)
            refine lv_aload_n hx hb dX12_worked_49 rfl (lv_at hl 2 rfl) ?_
            refine mget (v := .ref (y 23)) hx hb hts hiX12 hown hK hw 34 (by decide) lf81 rfl rfl dX12_worked_50 ?_
            refine lv_iload_n hx hb dX12_worked_53 rfl (lv_at hl 0 rfl) ?_
            refine lv_iload hx hb dX12_worked_54 (lv_at hl 1 rfl) ?_
            refine lv_bipush (v := 30) hx hb dX12_worked_56 (by decide) ?_
            refine lv_icmp_ne (tgt := 65) hx hb dX12_worked_58 (by decide) (fun c94 => ?_) (fun c94 => ?_)
            · have hE := zifnT c94 hE
              exact zI.abs (a := 31) (b := 30) (zI.neD c94 k91 (zI.lit (a := 30) (b := 30) (c := 30) (by decide)) (by decide)) (by decide)
            · have hE := zifnF c94 hE
              refine lv_iconst (v := 1) hx hb dX12_worked_61 (by decide) ?_
              refine lv_goto (tgt := 66) hx hb dX12_worked_62 (by decide) ?_
              refine miast hx hb hK hw hS 24 mWg23 k93 (by decide) dX12_worked_66 (mW ct h0 y (zset rw14 23 (upd (rw14 23) (zn (w14_2 + 1)) (1 : Int32))) q) mWs23 (fun H locs hw hS => ?_)
              refine mgen (P := fun x => mJ B x ∧ zFr [15, 16, 17, 18, 19, 20, 21, 22, 23] r x) hw ⟨jw14.set rfl (zI.top _), fw14.set rfl⟩ (fun r95 er95 hw pr95 => ?_)
              have hE := zletE er95 hE
              refine lv_aload_n hx hb dX12_worked_67 rfl (lv_at hl 2 rfl) ?_
              refine lv_iload_n hx hb dX12_worked_68 rfl (lv_at hl 0 rfl) ?_
              refine mcallV (As := [.int (w14_2 + 1)]) (rest := []) ⟨hx, hb, hml, hown, hts⟩ (mc_opens l D ct h0 y B (w14_2 + 1) r95 q (k93.w (c := 0) (d := 5) (by decide)) pr95.1) (wqX12_210_mc_opens hts ⟨Nat.le_of_ble_eq_true rfl, Nat.le_of_ble_eq_true rfl⟩) hw hS hA hK hN rfl hl.1 rfl (Nat.le_of_ble_eq_true rfl) dX12_worked_69 72 rfl (fun u96 H locs pu96 hw hS => ?_)
              have ju96 : mJ B u96 := pu96.1
              have fu96 : zFr [16, 18, 19, 20, 22] r95 u96 := pu96.2.1
              have xu96 : u96 = (Gm_opens (w14_2 + 1) r95 q) := pu96.2.2.1
              have hE := zletE xu96 hE
              have hw : zPD D A (mW ct h0 y u96 q) H := hw
              refine zfr 72 [] rfl rfl ?_
              refine lv_goto (tgt := 329) hx hb dX12_worked_72 (by decide) ?_
              exact cut329 (w14_2 + 1) u96 (k93.w (c := 0) (d := 5) (by decide)) k20 ju96 (pr95.2.tr fu96 rfl) (fu96.at (zs_at er95 k21 (by decide)) rfl) (((x14b.push (v := 1) (x := true) (hok.1 (Or.inr c94)) (by decide)).to (hst.trans (mst_30 c94))).row ((fu96 23 rfl).trans (zs_self er95))) hE H locs ls hw hS (lv_sub hl [2, 3, 0, 4] rfl)
  intro H locs hw hS ls hl
  have hl : lv_has ls 6 [(0, .ref h0), (1, .int 0)] := hl
  have hE := hX
  unfold Gm_worked at hE
  refine lv_iconst (v := 0) hx hb dX12_worked_0 (by decide) ?_
  refine lv_istore_n (lv' := [(2, .int 0), (0, .ref h0), (1, .int 0)]) hx hb dX12_worked_1 rfl hl (by decide) rfl (fun ls hl => ?_)
  refine lv_aload_n hx hb dX12_worked_2 rfl (lv_at hl 1 rfl) ?_
  refine lv_iconst (v := 0) hx hb dX12_worked_3 (by decide) ?_
  refine mcallV (As := [.int 0]) (rest := []) ⟨hx, hb, hml, hown, hts⟩ (mc_opens l D ct h0 y B 0 r q ((zI.lit (a := 0) (b := 0) (c := 0) (by decide)).w (c := 0) (d := 5) (by decide)) hJ0) (wqX12_210_mc_opens hts ⟨Nat.le_of_ble_eq_true rfl, Nat.le_of_ble_eq_true rfl⟩) hw hS hA hK hN rfl hl.1 rfl (Nat.le_of_ble_eq_true rfl) dX12_worked_4 7 rfl (fun u98 H locs pu98 hw hS => ?_)
  have ju98 : mJ B u98 := pu98.1
  have fu98 : zFr [16, 18, 19, 20, 22] r u98 := pu98.2.1
  have xu98 : u98 = (Gm_opens (0 : Int32) r q) := pu98.2.2.1
  have hE := zletE xu98 hE
  have hw : zPD D A (mW ct h0 y u98 q) H := hw
  refine zfr 7 [] rfl rfl ?_
  refine lv_aload_n hx hb dX12_worked_7 rfl (lv_at hl 1 rfl) ?_
  refine mget (v := .ref (y 10)) hx hb hts hiX12 hown hK hw 19 (by decide) lf41 rfl rfl dX12_worked_8 ?_
  refine lv_iload_n hx hb dX12_worked_11 rfl (lv_at hl 2 rfl) ?_
  refine ziald hx hb hK hw 11 mWg10 0 (by decide) (by decide) (by decide) dX12_worked_12 ?_
  refine lv_istore_n (lv' := [(3, .int (u98 10 0)), (2, .int 0), (0, .ref h0), (1, .int 0)]) hx hb dX12_worked_13 rfl hl (by decide) rfl (fun ls hl => ?_)
  exact cut14 1001 0 (u98 10 0) u98 ((zI.lit (a := 0) (b := 0) (c := 0) (by decide)).w (c := 0) (d := 5) (by decide)) (show zI 0 1000 (u98 10 0) from ju98.i 10 0) ju98 ((zFr.refl).tr fu98 rfl) (by rw [(fu98 10 rfl)]; exact Nat.le_refl _) (mG.nil.to (mgt_0 (congrArg zn (congrFun (fu98 10 rfl) 0)))) hE (zI.m0 (show zI 0 1000 (u98 10 0) from ju98.i 10 0) (by decide)) H locs ls hw hS (lv_sub hl [2, 3, 1, 0] rfl)
noncomputable def Gm_readsBeard (a1 : Int32) (a2 : Int32) (a3 : Int32) (r : zRr) (q : zRq) : Int32 × zRr :=
  zlet (α := Int32) (r 11 0) <| fun v1 => zlet (α := Int32) (r 10 0) <| fun v2 => zifn (v1 = v2) (zlet (α := zRr) (zset r 24 (upd (r 24) 1 a1)) <| fun r4 => zlet (α := zRr) (zset r4 24 (upd (r4 24) 2 a2)) <| fun r5 => zlet (α := zRr) (zset r5 24 (upd (r5 24) 3 a3)) <| fun r6 => zlet (α := Int32) (r6 32 0) <| fun v7 => zlet (α := zRr) (zset r6 24 (upd (r6 24) 4 v7)) <| fun r8 => zc_vr (Gm_worked r8 q) <| fun v10 r11 => zif (v10 = (0 : Int32)) (((0 : Int32), r11)) (((1 : Int32), r11))) (zif (a1 < a3) (((0 : Int32), r)) (((1 : Int32), r)))
set_option maxHeartbeats 4000000 in
set_option maxRecDepth 100000 in
theorem mc_readsBeard (l : Launch) (D : va_G) (ct : Nat → ClassId) (h0 : Nat) (y : Nat → Nat) (B : Int) (a1 : Int32) (a2 : Int32) (a3 : Int32) (r : zRr) (q : zRq) (hJ0 : mJ B r) : zC l yX12_readsBeard (.code yX12_readsBeard cX12_readsBeard 4 (some .boolean) :: wsL_law0) ({ frames := 4, cells := 0, slots := 0, locals := 200 }) D ct [] [.ref h0, .int a1, .int a2, .int a3] (mW ct h0 y r q) (S := Int32 × zRr) (fun u => some (.int u.1)) (fun u => zI 0 1 u.1 ∧ mJ B u.2 ∧ zFr [15, 16, 17, 18, 19, 20, 21, 22, 23, 24] r u.2 ∧ u = (Gm_readsBeard a1 a2 a3 r q) ∧ True) (fun u => mW ct h0 y u.2 q) 0 0 := by
  refine zofQ cX12_readsBeard 4 (some .boolean) (by decide) rfl (Nat.le_of_ble_eq_true rfl) ?_
  intro p e s m below meth c A a9 Q ha9 hx hb hr hml hts hown hlocks hname hK hA hZ hN hQ
  have hown : s.vm.findClass RX12 = some m.cls := hown
  have hiX12 : ∀ w ∈ wsX120, w ∈ .code yX12_readsBeard cX12_readsBeard 4 (some .boolean) :: wsL_law0 := fun _ h => ki (zs_wsX120 _ h)
  have lf41 := hts (.fieldLink RX12 41 "BeardPassModel" "lineFrom" "[I") (ki (zr8 5 rfl))
  have lf44 := hts (.fieldLink RX12 44 "BeardPassModel" "lineTo" "[I") (ki (zr8 6 rfl))
  have lf84 := hts (.fieldLink RX12 84 "BeardPassModel" "valueOf" "[I") (ki (zr8 20 rfl))
  have lf108 := hts (.fieldLink RX12 108 "BeardPassModel" "s" "[I") (ki (zr9 4 rfl))
  obtain ⟨X, hX⟩ : ∃ X, X = (Gm_readsBeard a1 a2 a3 r q) := ⟨_, rfl⟩
  intro H locs hw hS ls hl
  have hl : lv_has ls 4 [(0, .ref h0), (1, .int a1), (2, .int a2), (3, .int a3)] := hl
  have hE := hX
  unfold Gm_readsBeard at hE
  refine lv_aload_n hx hb dX12_readsBeard_0 rfl (lv_at hl 0 rfl) ?_
  refine mget (v := .ref (y 11)) hx hb hts hiX12 hown hK hw 20 (by decide) lf44 rfl rfl dX12_readsBeard_1 ?_
  refine lv_iconst (v := 0) hx hb dX12_readsBeard_4 (by decide) ?_
  refine ziald hx hb hK hw 12 mWg11 0 (by decide) (by decide) (by decide) dX12_readsBeard_5 (zgenE (lo := 0) (hi := 1000) ((show zI 0 1000 (r 11 0) from hJ0.i 11 0)) (fun v1 ev1 hv1 => ?_))
  have hE := zletE ev1 hE
  refine lv_aload_n hx hb dX12_readsBeard_6 rfl (lv_at hl 0 rfl) ?_
  refine mget (v := .ref (y 10)) hx hb hts hiX12 hown hK hw 19 (by decide) lf41 rfl rfl dX12_readsBeard_7 ?_
  refine lv_iconst (v := 0) hx hb dX12_readsBeard_10 (by decide) ?_
  refine ziald hx hb hK hw 11 mWg10 0 (by decide) (by decide) (by decide) dX12_readsBeard_11 (zgenE (lo := 0) (hi := 1000) ((show zI 0 1000 (r 10 0) from hJ0.i 10 0)) (fun v2 ev2 hv2 => ?_))
  have hE := zletE ev2 hE
  refine lv_icmp_ne (tgt := 26) hx hb dX12_readsBeard_12 (by decide) (fun c3 => ?_) (fun c3 => ?_)
  · have hE := zifnT c3 hE
    refine lv_aload_n hx hb dX12_readsBeard_26 rfl (lv_at hl 0 rfl) ?_
    refine mget (v := .ref (y 24)) hx hb hts hiX12 hown hK hw 35 (by decide) lf84 rfl rfl dX12_readsBeard_27 ?_
    refine lv_iconst (v := 1) hx hb dX12_readsBeard_30 (by decide) ?_
    refine lv_iload_n hx hb dX12_readsBeard_31 rfl (lv_at hl 1 rfl) ?_
    refine ziast hx hb hK hw hS 25 mWg24 1 (by decide) (by decide) (by decide) dX12_readsBeard_32 (mW ct h0 y (zset r 24 (upd (r 24) 1 a1)) q) mWs24 (fun H locs hw hS => ?_)
    refine mgen (P := fun x => mJ B x ∧ zFr [15, 16, 17, 18, 19, 20, 21, 22, 23, 24] r x) hw ⟨hJ0.set rfl (zI.top _), (zFr.refl).set rfl⟩ (fun r4 er4 hw pr4 => ?_)
    have hE := zletE er4 hE
    refine lv_aload_n hx hb dX12_readsBeard_33 rfl (lv_at hl 0 rfl) ?_
    refine mget (v := .ref (y 24)) hx hb hts hiX12 hown hK hw 35 (by decide) lf84 rfl rfl dX12_readsBeard_34 ?_
    refine lv_iconst (v := 2) hx hb dX12_readsBeard_37 (by decide) ?_
    refine lv_iload_n hx hb dX12_readsBeard_38 rfl (lv_at hl 2 rfl) ?_
    refine ziast hx hb hK hw hS 25 mWg24 2 (by decide) (by decide) (by decide) dX12_readsBeard_39 (mW ct h0 y (zset r4 24 (upd (r4 24) 2 a2)) q) mWs24 (fun H locs hw hS => ?_)
    refine mgen (P := fun x => mJ B x ∧ zFr [15, 16, 17, 18, 19, 20, 21, 22, 23, 24] r x) hw ⟨pr4.1.set rfl (zI.top _), pr4.2.set rfl⟩ (fun r5 er5 hw pr5 => ?_)
    have hE := zletE er5 hE
    refine lv_aload_n hx hb dX12_readsBeard_40 rfl (lv_at hl 0 rfl) ?_
    refine mget (v := .ref (y 24)) hx hb hts hiX12 hown hK hw 35 (by decide) lf84 rfl rfl dX12_readsBeard_41 ?_
    refine lv_iconst (v := 3) hx hb dX12_readsBeard_44 (by decide) ?_
    refine lv_iload_n hx hb dX12_readsBeard_45 rfl (lv_at hl 3 rfl) ?_
    refine ziast hx hb hK hw hS 25 mWg24 3 (by decide) (by decide) (by decide) dX12_readsBeard_46 (mW ct h0 y (zset r5 24 (upd (r5 24) 3 a3)) q) mWs24 (fun H locs hw hS => ?_)
    refine mgen (P := fun x => mJ B x ∧ zFr [15, 16, 17, 18, 19, 20, 21, 22, 23, 24] r x) hw ⟨pr5.1.set rfl (zI.top _), pr5.2.set rfl⟩ (fun r6 er6 hw pr6 => ?_)
    have hE := zletE er6 hE
    refine lv_aload_n hx hb dX12_readsBeard_47 rfl (lv_at hl 0 rfl) ?_
    refine mget (v := .ref (y 24)) hx hb hts hiX12 hown hK hw 35 (by decide) lf84 rfl rfl dX12_readsBeard_48 ?_
    refine lv_iconst (v := 4) hx hb dX12_readsBeard_51 (by decide) ?_
    refine lv_aload_n hx hb dX12_readsBeard_52 rfl (lv_at hl 0 rfl) ?_
    refine mget (v := .ref (y 32)) hx hb hts hiX12 hown hK hw 45 (by decide) lf108 rfl rfl dX12_readsBeard_53 ?_
    refine lv_iconst (v := 0) hx hb dX12_readsBeard_56 (by decide) ?_
    refine ziald hx hb hK hw 33 mWg32 0 (by decide) (by decide) (by decide) dX12_readsBeard_57 (zgenE (zI.top _) (fun v7 ev7 _ => ?_))
    have hE := zletE ev7 hE
    refine ziast hx hb hK hw hS 25 mWg24 4 (by decide) (by decide) (by decide) dX12_readsBeard_58 (mW ct h0 y (zset r6 24 (upd (r6 24) 4 v7)) q) mWs24 (fun H locs hw hS => ?_)
    refine mgen (P := fun x => mJ B x ∧ zFr [15, 16, 17, 18, 19, 20, 21, 22, 23, 24] r x) hw ⟨pr6.1.set rfl (zI.top _), pr6.2.set rfl⟩ (fun r8 er8 hw pr8 => ?_)
    have hE := zletE er8 hE
    refine lv_aload_n hx hb dX12_readsBeard_59 rfl (lv_at hl 0 rfl) ?_
    refine lv_iconst (v := 0) hx hb dX12_readsBeard_60 (by decide) ?_
    refine mcallV (As := [.int 0]) (rest := []) ⟨hx, hb, hml, hown, hts⟩ (mc_worked l D ct h0 y B r8 q pr8.1) (wqX12_346_mc_worked hts ⟨Nat.le_of_ble_eq_true rfl, Nat.le_of_ble_eq_true rfl⟩) hw hS hA hK hN rfl hl.1 rfl (Nat.le_of_ble_eq_true rfl) dX12_readsBeard_61 64 rfl (fun u9 H locs pu9 hw hS => ?_)
    obtain ⟨v10, r11⟩ := u9
    have hv10 : zI (-2147483648) 2147483647 v10 := pu9.1
    have ju9 : mJ B r11 := pu9.2.1
    have fu9 : zFr [15, 16, 17, 18, 19, 20, 21, 22, 23] r8 r11 := pu9.2.2.1
    have xu9 : (v10, r11) = (Gm_worked r8 q) := pu9.2.2.2.1
    have hE := zc_vrE xu9 hE
    have hw : zPD D A (mW ct h0 y r11 q) H := hw
    refine zfr 64 [.int v10] rfl rfl ?_
    refine lv_if_eq (tgt := 71) hx hb dX12_readsBeard_64 (by decide) (fun c12 => ?_) (fun c12 => ?_)
    · have hE := zifT c12 hE
      have k13 : zI 0 0 (v10) := zI.eqq c12 (zI.lit (a := 0) (b := 0) (c := 0) (by decide))
      refine lv_iconst (v := 0) hx hb dX12_readsBeard_71 (by decide) ?_
      exact ziretQ hQ hx hb hr rfl hlocks (0, r11) rfl ⟨((zI.lit (a := 0) (b := 0) (c := 0) (by decide)).w (c := 0) (d := 1) (by decide)), ju9, (pr8.2.tr fu9 rfl), (hE.symm.trans hX), trivial⟩ hw hS dX12_readsBeard_72
    · have hE := zifF c12 hE
      refine lv_iconst (v := 1) hx hb dX12_readsBeard_67 (by decide) ?_
      refine lv_goto (tgt := 72) hx hb dX12_readsBeard_68 (by decide) ?_
      exact ziretQ hQ hx hb hr rfl hlocks (1, r11) rfl ⟨((zI.lit (a := 1) (b := 1) (c := 1) (by decide)).w (c := 0) (d := 1) (by decide)), ju9, (pr8.2.tr fu9 rfl), (hE.symm.trans hX), trivial⟩ hw hS dX12_readsBeard_72
  · have hE := zifnF c3 hE
    refine lv_iload_n hx hb dX12_readsBeard_15 rfl (lv_at hl 1 rfl) ?_
    refine lv_iload_n hx hb dX12_readsBeard_16 rfl (lv_at hl 3 rfl) ?_
    refine lv_icmp_lt (tgt := 24) hx hb dX12_readsBeard_17 (by decide) (fun c14 => ?_) (fun c14 => ?_)
    · have hE := zifT c14 hE
      refine lv_iconst (v := 0) hx hb dX12_readsBeard_24 (by decide) ?_
      exact ziretQ hQ hx hb hr rfl hlocks (0, r) rfl ⟨((zI.lit (a := 0) (b := 0) (c := 0) (by decide)).w (c := 0) (d := 1) (by decide)), hJ0, (zFr.refl), (hE.symm.trans hX), trivial⟩ hw hS dX12_readsBeard_25
    · have hE := zifF c14 hE
      refine lv_iconst (v := 1) hx hb dX12_readsBeard_20 (by decide) ?_
      refine lv_goto (tgt := 25) hx hb dX12_readsBeard_21 (by decide) ?_
      exact ziretQ hQ hx hb hr rfl hlocks (1, r) rfl ⟨((zI.lit (a := 1) (b := 1) (c := 1) (by decide)).w (c := 0) (d := 1) (by decide)), hJ0, (zFr.refl), (hE.symm.trans hX), trivial⟩ hw hS dX12_readsBeard_25

noncomputable def Gm_letsHim_70 (r : zRr) (q : zRq) (w70_s0 : Int32) (w70_s1 : Int32) (w70_s2 : Int32) : Int32 × zRr :=
  zc_vr (Gm_readsBeard w70_s2 w70_s1 w70_s0 r q) <| fun v2 r3 => (v2, r3)
noncomputable def Gm_letsHim (a1 : Int32) (a2 : Int32) (r : zRr) (q : zRq) : Int32 × zRr :=
  zlet (α := Int32) (r 6 (zn a2)) <| fun v4 => zifn (v4 = (2 : Int32)) (zlet (α := Int32) (r 4 (zn a1)) <| fun v6 => zlet (α := Int32) (r 152 0) <| fun v7 => zlet (α := Int32) (v6 + v7) <| fun v8 => zlet (α := Int32) (7 + a2) <| fun v9 => zlet (α := Int32) (r 32 (zn v9)) <| fun v10 => zlet (α := Int32) (13 + a2) <| fun v11 => zlet (α := Int32) (r 32 (zn v11)) <| fun v12 => zlet (α := Int32) (v10 + v12) <| fun v13 => zlet (α := Int32) (13 + a2) <| fun v14 => zlet (α := Int32) (r 32 (zn v14)) <| fun v15 => zlet (α := Int32) (r 6 (zn a2)) <| fun v16 => zifn (v16 = (3 : Int32)) (Gm_letsHim_70 r q v8 v15 v13) (zlet (α := Int32) (v8 / 2) <| fun v19 => Gm_letsHim_70 r q v19 v15 v13)) (((1 : Int32), r))
set_option maxHeartbeats 4000000 in
set_option maxRecDepth 100000 in
theorem mc_letsHim (l : Launch) (D : va_G) (ct : Nat → ClassId) (h0 : Nat) (y : Nat → Nat) (B : Int) (a1 : Int32) (a2 : Int32) (r : zRr) (q : zRq) (g1 : zI 0 5 a1) (g2 : zI 0 5 a2) (hJ0 : mJ B r) : zC l yX12_letsHim (.code yX12_letsHim cX12_letsHim 4 (some .boolean) :: wsL_law0) ({ frames := 5, cells := 0, slots := 0, locals := 240 }) D ct [] [.ref h0, .int a1, .int a2] (mW ct h0 y r q) (S := Int32 × zRr) (fun u => some (.int u.1)) (fun u => zI 0 1 u.1 ∧ mJ B u.2 ∧ zFr [15, 16, 17, 18, 19, 20, 21, 22, 23, 24] r u.2 ∧ u = (Gm_letsHim a1 a2 r q) ∧ True) (fun u => mW ct h0 y u.2 q) 0 0 := by
  refine zofQ cX12_letsHim 4 (some .boolean) (by decide) rfl (Nat.le_of_ble_eq_true rfl) ?_
  intro p e s m below meth c A a9 Q ha9 hx hb hr hml hts hown hlocks hname hK hA hZ hN hQ
  have hown : s.vm.findClass RX12 = some m.cls := hown
  have hiX12 : ∀ w ∈ wsX120, w ∈ .code yX12_letsHim cX12_letsHim 4 (some .boolean) :: wsL_law0 := fun _ h => ki (zs_wsX120 _ h)
  have lf23 := hts (.fieldLink RX12 23 "BeardPassModel" "asks" "[I") (ki (zr7 23 rfl))
  have lf29 := hts (.fieldLink RX12 29 "BeardPassModel" "kind" "[I") (ki (zr8 1 rfl))
  have lf108 := hts (.fieldLink RX12 108 "BeardPassModel" "s" "[I") (ki (zr9 4 rfl))
  have lf349 := hts (.fieldLink RX12 349 "BeardPassModel" "moreAsked" "I") (ki (zr34 6 rfl))
  obtain ⟨X, hX⟩ : ∃ X, X = (Gm_letsHim a1 a2 r q) := ⟨_, rfl⟩
  have cut70 : ∀ (w70_s0 : Int32) (w70_s1 : Int32) (w70_s2 : Int32) (hw70_s1 : zI 0 41 w70_s1) (hE : X = Gm_letsHim_70 r q w70_s0 w70_s1 w70_s2), zKf p l e ({ frames := 5, cells := 0, slots := 0, locals := 240 }) s m a9 below meth c Q D A 70 4 [.int w70_s0, .int w70_s1, .int w70_s2, .ref h0] (mW ct h0 y r q) [] := by
    intro w70_s0 w70_s1 w70_s2 hw70_s1 hE H locs ls hw hS hl
    unfold Gm_letsHim_70 at hE
    refine mcallV (As := [.int w70_s2, .int w70_s1, .int w70_s0]) (rest := []) ⟨hx, hb, hml, hown, hts⟩ (mc_readsBeard l D ct h0 y B w70_s2 w70_s1 w70_s0 r q hJ0) (wqX12_352_mc_readsBeard hts ⟨Nat.le_of_ble_eq_true rfl, Nat.le_of_ble_eq_true rfl⟩) hw hS hA hK hN rfl hl.1 rfl (Nat.le_of_ble_eq_true rfl) dX12_letsHim_70 73 rfl (fun u1 H locs pu1 hw hS => ?_)
    obtain ⟨v2, r3⟩ := u1
    have hv2 : zI 0 1 v2 := pu1.1
    have ju1 : mJ B r3 := pu1.2.1
    have fu1 : zFr [15, 16, 17, 18, 19, 20, 21, 22, 23, 24] r r3 := pu1.2.2.1
    have xu1 : (v2, r3) = (Gm_readsBeard w70_s2 w70_s1 w70_s0 r q) := pu1.2.2.2.1
    have hE := zc_vrE xu1 hE
    have hw : zPD D A (mW ct h0 y r3 q) H := hw
    refine zfr 73 [.int v2] rfl rfl ?_
    exact ziretQ hQ hx hb hr (hv2.rn) hlocks (v2, r3) rfl ⟨hv2, ju1, ((zFr.refl).tr fu1 rfl), (hE.symm.trans hX), trivial⟩ hw hS dX12_letsHim_73
  intro H locs hw hS ls hl
  have hl : lv_has ls 4 [(0, .ref h0), (1, .int a1), (2, .int a2)] := hl
  have hE := hX
  unfold Gm_letsHim at hE
  refine lv_aload_n hx hb dX12_letsHim_0 rfl (lv_at hl 0 rfl) ?_
  refine mget (v := .ref (y 6)) hx hb hts hiX12 hown hK hw 15 (by decide) lf29 rfl rfl dX12_letsHim_1 ?_
  refine lv_iload_n hx hb dX12_letsHim_4 rfl (lv_at hl 2 rfl) ?_
  refine miald hx hb hK hw 7 mWg6 g2 (by decide) dX12_letsHim_5 (zgenE (zI.top _) (fun v4 ev4 _ => ?_))
  have hE := zletE ev4 hE
  refine lv_iconst (v := 2) hx hb dX12_letsHim_6 (by decide) ?_
  refine lv_icmp_ne (tgt := 12) hx hb dX12_letsHim_7 (by decide) (fun c5 => ?_) (fun c5 => ?_)
  · have hE := zifnT c5 hE
    refine lv_aload_n hx hb dX12_letsHim_12 rfl (lv_at hl 0 rfl) ?_
    refine mget (v := .ref (y 4)) hx hb hts hiX12 hown hK hw 13 (by decide) lf23 rfl rfl dX12_letsHim_13 ?_
    refine lv_iload_n hx hb dX12_letsHim_16 rfl (lv_at hl 1 rfl) ?_
    refine miald hx hb hK hw 5 mWg4 g1 (by decide) dX12_letsHim_17 (zgenE (zI.top _) (fun v6 ev6 _ => ?_))
    have hE := zletE ev6 hE
    refine lv_aload_n hx hb dX12_letsHim_18 rfl (lv_at hl 0 rfl) ?_
    refine mget (v := .int (r 152 0)) hx hb hts hiX12 hown hK hw 52 (by decide) lf349 rfl rfl dX12_letsHim_19 (zgenE (zI.top _) (fun v7 ev7 _ => ?_))
    have hE := zletE ev7 hE
    refine lv_iadd hx hb dX12_letsHim_22 (zgenE (zI.top _) (fun v8 ev8 _ => ?_))
    have hE := zletE ev8 hE
    refine lv_istore_n (lv' := [(3, .int v8), (0, .ref h0), (1, .int a1), (2, .int a2)]) hx hb dX12_letsHim_23 rfl hl (by decide) rfl (fun ls hl => ?_)
    refine lv_aload_n hx hb dX12_letsHim_24 rfl (lv_at hl 1 rfl) ?_
    refine lv_aload_n hx hb dX12_letsHim_25 rfl (lv_at hl 1 rfl) ?_
    refine mget (v := .ref (y 32)) hx hb hts hiX12 hown hK hw 45 (by decide) lf108 rfl rfl dX12_letsHim_26 ?_
    refine lv_bipush (v := 7) hx hb dX12_letsHim_29 (by decide) ?_
    refine lv_iload_n hx hb dX12_letsHim_31 rfl (lv_at hl 3 rfl) ?_
    refine lv_iadd hx hb dX12_letsHim_32 (zgenE (lo := 7) (hi := 12) (zI.add (zI.lit (a := 7) (b := 7) (c := 7) (by decide)) g2 (by decide)) (fun v9 ev9 hv9 => ?_))
    have hE := zletE ev9 hE
    refine miald hx hb hK hw 33 mWg32 hv9 (by decide) dX12_letsHim_33 (zgenE (zI.top _) (fun v10 ev10 _ => ?_))
    have hE := zletE ev10 hE
    refine lv_aload_n hx hb dX12_letsHim_34 rfl (lv_at hl 1 rfl) ?_
    refine mget (v := .ref (y 32)) hx hb hts hiX12 hown hK hw 45 (by decide) lf108 rfl rfl dX12_letsHim_35 ?_
    refine lv_bipush (v := 13) hx hb dX12_letsHim_38 (by decide) ?_
    refine lv_iload_n hx hb dX12_letsHim_40 rfl (lv_at hl 3 rfl) ?_
    refine lv_iadd hx hb dX12_letsHim_41 (zgenE (lo := 13) (hi := 18) (zI.add (zI.lit (a := 13) (b := 13) (c := 13) (by decide)) g2 (by decide)) (fun v11 ev11 hv11 => ?_))
    have hE := zletE ev11 hE
    refine miald hx hb hK hw 33 mWg32 hv11 (by decide) dX12_letsHim_42 (zgenE (lo := 0) (hi := 41) ((ms_13 hJ0 hv11)) (fun v12 ev12 hv12 => ?_))
    have hE := zletE ev12 hE
    refine lv_iadd hx hb dX12_letsHim_43 (zgenE (zI.top _) (fun v13 ev13 _ => ?_))
    have hE := zletE ev13 hE
    refine lv_aload_n hx hb dX12_letsHim_44 rfl (lv_at hl 1 rfl) ?_
    refine mget (v := .ref (y 32)) hx hb hts hiX12 hown hK hw 45 (by decide) lf108 rfl rfl dX12_letsHim_45 ?_
    refine lv_bipush (v := 13) hx hb dX12_letsHim_48 (by decide) ?_
    refine lv_iload_n hx hb dX12_letsHim_50 rfl (lv_at hl 3 rfl) ?_
    refine lv_iadd hx hb dX12_letsHim_51 (zgenE (lo := 13) (hi := 18) (zI.add (zI.lit (a := 13) (b := 13) (c := 13) (by decide)) g2 (by decide)) (fun v14 ev14 hv14 => ?_))
    have hE := zletE ev14 hE
    refine miald hx hb hK hw 33 mWg32 hv14 (by decide) dX12_letsHim_52 (zgenE (lo := 0) (hi := 41) ((ms_13 hJ0 hv14)) (fun v15 ev15 hv15 => ?_))
    have hE := zletE ev15 hE
    refine lv_aload_n hx hb dX12_letsHim_53 rfl (lv_at hl 1 rfl) ?_
    refine mget (v := .ref (y 6)) hx hb hts hiX12 hown hK hw 15 (by decide) lf29 rfl rfl dX12_letsHim_54 ?_
    refine lv_iload_n hx hb dX12_letsHim_57 rfl (lv_at hl 3 rfl) ?_
    refine miald hx hb hK hw 7 mWg6 g2 (by decide) dX12_letsHim_58 (zgenE (zI.top _) (fun v16 ev16 _ => ?_))
    have hE := zletE ev16 hE
    refine lv_iconst (v := 3) hx hb dX12_letsHim_59 (by decide) ?_
    refine lv_icmp_ne (tgt := 69) hx hb dX12_letsHim_60 (by decide) (fun c17 => ?_) (fun c17 => ?_)
    · have hE := zifnT c17 hE
      refine lv_iload_n hx hb dX12_letsHim_69 rfl (lv_at hl 0 rfl) ?_
      exact cut70 v8 v15 v13 hv15 hE H locs ls hw hS (lv_sub hl [] rfl)
    · have hE := zifnF c17 hE
      have k18 : zI 3 3 (v16) := zI.eqq c17 (zI.lit (a := 3) (b := 3) (c := 3) (by decide))
      refine lv_iload_n hx hb dX12_letsHim_63 rfl (lv_at hl 0 rfl) ?_
      refine lv_iconst (v := 2) hx hb dX12_letsHim_64 (by decide) ?_
      refine lv_idiv hx hb dX12_letsHim_65 (by decide) (zgenE (zI.top _) (fun v19 ev19 _ => ?_))
      have hE := zletE ev19 hE
      refine lv_goto (tgt := 70) hx hb dX12_letsHim_66 (by decide) ?_
      exact cut70 v19 v15 v13 hv15 hE H locs ls hw hS (lv_sub hl [] rfl)
  · have hE := zifnF c5 hE
    have k20 : zI 2 2 (v4) := zI.eqq c5 (zI.lit (a := 2) (b := 2) (c := 2) (by decide))
    refine lv_iconst (v := 1) hx hb dX12_letsHim_10 (by decide) ?_
    exact ziretQ hQ hx hb hr rfl hlocks (1, r) rfl ⟨((zI.lit (a := 1) (b := 1) (c := 1) (by decide)).w (c := 0) (d := 1) (by decide)), hJ0, (zFr.refl), (hE.symm.trans hX), trivial⟩ hw hS dX12_letsHim_11

noncomputable def Gm_speakersAt_59 (w5_3 : Int32) (w5_4 : Int32) (ih5 : Int32 → Int32 → zRr → (Int32 × zRr)) (w59_s0 : Int32) (rw59 : zRr) : Int32 × zRr :=
  zlet (α := Int32) (w5_3 ||| w59_s0) <| fun v1 => ih5 v1 (w5_4 + 1) rw59
noncomputable def Gm_speakersAt_58 (w5_3 : Int32) (w5_4 : Int32) (ih5 : Int32 → Int32 → zRr → (Int32 × zRr)) (rw58 : zRr) : Int32 × zRr :=
  Gm_speakersAt_59 w5_3 w5_4 ih5 0 rw58
noncomputable def Bm_speakersAt_5 (a1 : Int32) (a2 : Int32) (q : zRq) (ih5 : Int32 → Int32 → zRr → (Int32 × zRr)) (w5_3 : Int32) (w5_4 : Int32) (rw5 : zRr) : Int32 × zRr :=
  zlet (α := Int32) (rw5 1 1) <| fun v3 => zif (v3 ≤ w5_4) ((w5_3, rw5)) (zlet (α := Int32) (rw5 6 (zn w5_4)) <| fun v7 => zif (v7 = (1 : Int32)) (Gm_speakersAt_58 w5_3 w5_4 ih5 rw5) (zlet (α := Int32) (1 + w5_4) <| fun v10 => zlet (α := Int32) (rw5 32 (zn v10)) <| fun v11 => zifn (v11 = a1) (Gm_speakersAt_58 w5_3 w5_4 ih5 rw5) (zc_vr (Gm_letsHim a2 w5_4 rw5 q) <| fun v15 r16 => zif (v15 = (0 : Int32)) (Gm_speakersAt_58 w5_3 w5_4 ih5 r16) (zlet (α := Int32) (1 <<< (w5_4 &&& 31)) <| fun v20 => Gm_speakersAt_59 w5_3 w5_4 ih5 v20 r16))))
noncomputable def Gm_speakersAt_5 (a1 : Int32) (a2 : Int32) (q : zRq) (n : Nat) : Int32 → Int32 → zRr → (Int32 × zRr) :=
  Nat.rec (motive := fun _ => Int32 → Int32 → zRr → (Int32 × zRr)) (fun _ _ rw5 => (default, rw5)) (fun _ ih => Bm_speakersAt_5 a1 a2 q ih) n
noncomputable def Gm_speakersAt (a1 : Int32) (a2 : Int32) (r : zRr) (q : zRq) : Int32 × zRr :=
  Gm_speakersAt_5 a1 a2 q 7 0 0 r
set_option maxHeartbeats 4000000 in
set_option maxRecDepth 100000 in
theorem mc_speakersAt (l : Launch) (D : va_G) (ct : Nat → ClassId) (h0 : Nat) (y : Nat → Nat) (B : Int) (a1 : Int32) (a2 : Int32) (r : zRr) (q : zRq) (g2 : zI 0 5 a2) (hJ0 : mJ B r) : zC l yX12_speakersAt (.code yX12_speakersAt cX12_speakersAt 5 (some .int) :: wsL_law0) ({ frames := 6, cells := 0, slots := 0, locals := 280 }) D ct [] [.ref h0, .int a1, .int a2] (mW ct h0 y r q) (S := Int32 × zRr) (fun u => some (.int u.1)) (fun u => zI 0 63 u.1 ∧ mJ B u.2 ∧ zFr [15, 16, 17, 18, 19, 20, 21, 22, 23, 24] r u.2 ∧ u = (Gm_speakersAt a1 a2 r q) ∧ True) (fun u => mW ct h0 y u.2 q) 0 0 := by
  refine zofQ cX12_speakersAt 5 (some .int) (by decide) rfl (Nat.le_of_ble_eq_true rfl) ?_
  intro p e s m below meth c A a9 Q ha9 hx hb hr hml hts hown hlocks hname hK hA hZ hN hQ
  have hown : s.vm.findClass RX12 = some m.cls := hown
  have hiX12 : ∀ w ∈ wsX120, w ∈ .code yX12_speakersAt cX12_speakersAt 5 (some .int) :: wsL_law0 := fun _ h => ki (zs_wsX120 _ h)
  have lf13 := hts (.fieldLink RX12 13 "BeardPassModel" "land" "[I") (ki (zr7 20 rfl))
  have lf29 := hts (.fieldLink RX12 29 "BeardPassModel" "kind" "[I") (ki (zr8 1 rfl))
  have lf108 := hts (.fieldLink RX12 108 "BeardPassModel" "s" "[I") (ki (zr9 4 rfl))
  obtain ⟨X, hX⟩ : ∃ X, X = (Gm_speakersAt a1 a2 r q) := ⟨_, rfl⟩
  have cut5 : ∀ (n5 : Nat) (w5_3 : Int32) (w5_4 : Int32) (rw5 : zRr) (hw5_2 : zI 0 5 a2) (hw5_3 : zI 0 63 w5_3) (hw5_4 : zI 0 6 w5_4) (jw5 : mJ B rw5) (fw5 : zFr [15, 16, 17, 18, 19, 20, 21, 22, 23, 24] r rw5) (hE : X = Gm_speakersAt_5 a1 a2 q n5 w5_3 w5_4 rw5), 6 - w5_4.toInt < (n5 : Int) → zKf p l e ({ frames := 6, cells := 0, slots := 0, locals := 280 }) s m a9 below meth c Q D A 5 5 [] (mW ct h0 y rw5 q) [(0, .ref h0), (1, .int a1), (2, .int a2), (3, .int w5_3), (4, .int w5_4)] := by
    intro n5
    induction n5 with
    | zero => intro w5_3 w5_4 rw5 hw5_2 hw5_3 hw5_4 jw5 fw5 hE hm5; exact zI.no hw5_4 (by decide) hm5
    | succ n5 ih5 =>
      intro w5_3 w5_4 rw5 hw5_2 hw5_3 hw5_4 jw5 fw5 hE hm5
      have hE : X = Bm_speakersAt_5 a1 a2 q (Gm_speakersAt_5 a1 a2 q n5) w5_3 w5_4 rw5 := hE
      unfold Bm_speakersAt_5 at hE
      have cut59 : ∀ (w59_s0 : Int32) (rw59 : zRr) (hw59_2 : zI 0 5 a2) (hw59_4 : zI 0 5 w5_4) (hw59_s0 : zI 0 39 w59_s0) (hw59_s1 : zI 0 63 w5_3) (jw59 : mJ B rw59) (fw59 : zFr [15, 16, 17, 18, 19, 20, 21, 22, 23, 24] r rw59) (hE : X = Gm_speakersAt_59 w5_3 w5_4 (Gm_speakersAt_5 a1 a2 q n5) w59_s0 rw59), zKf p l e ({ frames := 6, cells := 0, slots := 0, locals := 280 }) s m a9 below meth c Q D A 59 5 [.int w59_s0, .int w5_3] (mW ct h0 y rw59 q) [(0, .ref h0), (1, .int a1), (2, .int a2), (4, .int w5_4)] := by
        intro w59_s0 rw59 hw59_2 hw59_4 hw59_s0 hw59_s1 jw59 fw59 hE H locs ls hw hS hl
        unfold Gm_speakersAt_59 at hE
        refine lv_ior hx hb dX12_speakersAt_59 (zgenE (lo := 0) (hi := 63) (zI.or 6 hw59_s1 hw59_s0 (by decide)) (fun v1 ev1 hv1 => ?_))
        have hE := zletE ev1 hE
        refine lv_istore_n (lv' := [(3, .int v1), (0, .ref h0), (1, .int a1), (2, .int a2), (4, .int w5_4)]) hx hb dX12_speakersAt_60 rfl hl (by decide) rfl (fun ls hl => ?_)
        refine lv_iinc (v := w5_4 + 1) (lv' := [(4, .int (w5_4 + 1)), (3, .int v1), (0, .ref h0), (1, .int a1), (2, .int a2)]) hx hb dX12_speakersAt_61 hl (k := 4) rfl (rfl) (by decide) rfl (fun ls hl => ?_)
        have k2 : zI 1 6 (w5_4 + 1) := zI.add hw59_4 (zI.lit (a := 1) (b := 1) (by decide)) (by decide)
        refine lv_goto (tgt := 5) hx hb dX12_speakersAt_64 (by decide) ?_
        exact ih5 v1 (w5_4 + 1) rw59 hw59_2 hv1 (k2.w (c := 0) (d := 6) (by decide)) jw59 fw59 hE (zI.up hw59_4 (by decide) hm5) H locs ls hw hS (lv_sub hl [2, 3, 4, 1, 0] rfl)
      have cut58 : ∀ (rw58 : zRr) (hw58_2 : zI 0 5 a2) (hw58_4 : zI 0 5 w5_4) (hw58_s0 : zI 0 63 w5_3) (jw58 : mJ B rw58) (fw58 : zFr [15, 16, 17, 18, 19, 20, 21, 22, 23, 24] r rw58) (hE : X = Gm_speakersAt_58 w5_3 w5_4 (Gm_speakersAt_5 a1 a2 q n5) rw58), zKf p l e ({ frames := 6, cells := 0, slots := 0, locals := 280 }) s m a9 below meth c Q D A 58 5 [.int w5_3] (mW ct h0 y rw58 q) [(0, .ref h0), (1, .int a1), (2, .int a2), (4, .int w5_4)] := by
        intro rw58 hw58_2 hw58_4 hw58_s0 jw58 fw58 hE H locs ls hw hS hl
        unfold Gm_speakersAt_58 at hE
        refine lv_iconst (v := 0) hx hb dX12_speakersAt_58 (by decide) ?_
        exact cut59 0 rw58 hw58_2 hw58_4 ((zI.lit (a := 0) (b := 0) (c := 0) (by decide)).w (c := 0) (d := 39) (by decide)) hw58_s0 jw58 fw58 hE H locs ls hw hS (lv_sub hl [0, 1, 2, 3] rfl)
      intro H locs ls hw hS hl
      refine lv_iload hx hb dX12_speakersAt_5 (lv_at hl 4 rfl) ?_
      refine lv_aload_n hx hb dX12_speakersAt_7 rfl (lv_at hl 0 rfl) ?_
      refine mget (v := .ref (y 1)) hx hb hts hiX12 hown hK hw 10 (by decide) lf13 rfl rfl dX12_speakersAt_8 ?_
      refine lv_iconst (v := 1) hx hb dX12_speakersAt_11 (by decide) ?_
      refine ziald hx hb hK hw 2 mWg1 1 (by decide) (by decide) (by decide) dX12_speakersAt_12 (zgenE (lo := 0) (hi := 6) ((show zI 0 6 (rw5 1 1) from jw5.i 1 1)) (fun v3 ev3 hv3 => ?_))
      have hE := zletE ev3 hE
      refine lv_icmp_ge (tgt := 67) hx hb dX12_speakersAt_13 (by decide) (fun c4 => ?_) (fun c4 => ?_)
      · have hE := zifT c4 hE
        refine lv_iload_n hx hb dX12_speakersAt_67 rfl (lv_at hl 3 rfl) ?_
        exact ziretQ hQ hx hb hr rfl hlocks (w5_3, rw5) rfl ⟨hw5_3, jw5, fw5, (hE.symm.trans hX), trivial⟩ hw hS dX12_speakersAt_68
      · have hE := zifF c4 hE
        have k5 : zI 0 5 (w5_4) := zI.ltU (zI.nle c4) hw5_4 hv3 (by decide)
        have k6 : zI 1 6 (v3) := zI.ltD (zI.nle c4) hw5_4 hv3 (by decide)
        refine lv_iload_n hx hb dX12_speakersAt_16 rfl (lv_at hl 3 rfl) ?_
        refine lv_aload_n hx hb dX12_speakersAt_17 rfl (lv_at hl 0 rfl) ?_
        refine mget (v := .ref (y 6)) hx hb hts hiX12 hown hK hw 15 (by decide) lf29 rfl rfl dX12_speakersAt_18 ?_
        refine lv_iload hx hb dX12_speakersAt_21 (lv_at hl 4 rfl) ?_
        refine miald hx hb hK hw 7 mWg6 k5 (by decide) dX12_speakersAt_23 (zgenE (zI.top _) (fun v7 ev7 _ => ?_))
        have hE := zletE ev7 hE
        refine lv_iconst (v := 1) hx hb dX12_speakersAt_24 (by decide) ?_
        refine lv_icmp_eq (tgt := 58) hx hb dX12_speakersAt_25 (by decide) (fun c8 => ?_) (fun c8 => ?_)
        · have hE := zifT c8 hE
          have k9 : zI 1 1 (v7) := zI.eqq c8 (zI.lit (a := 1) (b := 1) (c := 1) (by decide))
          exact cut58 rw5 hw5_2 k5 hw5_3 jw5 fw5 hE H locs ls hw hS (lv_sub hl [0, 1, 2, 4] rfl)
        · have hE := zifF c8 hE
          refine lv_aload_n hx hb dX12_speakersAt_28 rfl (lv_at hl 0 rfl) ?_
          refine mget (v := .ref (y 32)) hx hb hts hiX12 hown hK hw 45 (by decide) lf108 rfl rfl dX12_speakersAt_29 ?_
          refine lv_iconst (v := 1) hx hb dX12_speakersAt_32 (by decide) ?_
          refine lv_iload hx hb dX12_speakersAt_33 (lv_at hl 4 rfl) ?_
          refine lv_iadd hx hb dX12_speakersAt_35 (zgenE (lo := 1) (hi := 6) (zI.add (zI.lit (a := 1) (b := 1) (c := 1) (by decide)) k5 (by decide)) (fun v10 ev10 hv10 => ?_))
          have hE := zletE ev10 hE
          refine miald hx hb hK hw 33 mWg32 hv10 (by decide) dX12_speakersAt_36 (zgenE (lo := 0) (hi := 5) ((ms_1 jw5 hv10)) (fun v11 ev11 hv11 => ?_))
          have hE := zletE ev11 hE
          refine lv_iload_n hx hb dX12_speakersAt_37 rfl (lv_at hl 1 rfl) ?_
          refine lv_icmp_ne (tgt := 58) hx hb dX12_speakersAt_38 (by decide) (fun c12 => ?_) (fun c12 => ?_)
          · have hE := zifnT c12 hE
            exact cut58 rw5 hw5_2 k5 hw5_3 jw5 fw5 hE H locs ls hw hS (lv_sub hl [0, 1, 2, 4] rfl)
          · have hE := zifnF c12 hE
            have k13 : zI 0 5 (a1) := zI.eqq (c12).symm hv11
            refine lv_aload_n hx hb dX12_speakersAt_41 rfl (lv_at hl 0 rfl) ?_
            refine lv_iload_n hx hb dX12_speakersAt_42 rfl (lv_at hl 2 rfl) ?_
            refine lv_iload hx hb dX12_speakersAt_43 (lv_at hl 4 rfl) ?_
            refine mcallV (As := [.int a2, .int w5_4]) (rest := [.int w5_3]) ⟨hx, hb, hml, hown, hts⟩ (mc_letsHim l D ct h0 y B a2 w5_4 rw5 q hw5_2 k5 jw5) (wqX12_355_mc_letsHim hts ⟨Nat.le_of_ble_eq_true rfl, Nat.le_of_ble_eq_true rfl⟩) hw hS hA hK hN rfl hl.1 rfl (Nat.le_of_ble_eq_true rfl) dX12_speakersAt_45 48 rfl (fun u14 H locs pu14 hw hS => ?_)
            obtain ⟨v15, r16⟩ := u14
            have hv15 : zI 0 1 v15 := pu14.1
            have ju14 : mJ B r16 := pu14.2.1
            have fu14 : zFr [15, 16, 17, 18, 19, 20, 21, 22, 23, 24] rw5 r16 := pu14.2.2.1
            have xu14 : (v15, r16) = (Gm_letsHim a2 w5_4 rw5 q) := pu14.2.2.2.1
            have hE := zc_vrE xu14 hE
            have hw : zPD D A (mW ct h0 y r16 q) H := hw
            refine zfr 48 [.int v15, .int w5_3] rfl rfl ?_
            refine lv_if_eq (tgt := 58) hx hb dX12_speakersAt_48 (by decide) (fun c17 => ?_) (fun c17 => ?_)
            · have hE := zifT c17 hE
              have k18 : zI 0 0 (v15) := zI.eqq c17 (zI.lit (a := 0) (b := 0) (c := 0) (by decide))
              exact cut58 r16 hw5_2 k5 hw5_3 ju14 (fw5.tr fu14 rfl) hE H locs ls hw hS (lv_sub hl [0, 1, 2, 4] rfl)
            · have hE := zifF c17 hE
              have k19 : zI 1 1 (v15) := zI.neD c17 hv15 (zI.lit (a := 0) (b := 0) (c := 0) (by decide)) (by decide)
              refine lv_iconst (v := 1) hx hb dX12_speakersAt_51 (by decide) ?_
              refine lv_iload hx hb dX12_speakersAt_52 (lv_at hl 4 rfl) ?_
              refine lv_ishl hx hb dX12_speakersAt_54 (zgenE (lo := 1) (hi := 32) (zI.shl k5 5 (by decide)) (fun v20 ev20 hv20 => ?_))
              have hE := zletE ev20 hE
              refine lv_goto (tgt := 59) hx hb dX12_speakersAt_55 (by decide) ?_
              exact cut59 v20 r16 hw5_2 k5 (hv20.w (c := 0) (d := 39) (by decide)) hw5_3 ju14 (fw5.tr fu14 rfl) hE H locs ls hw hS (lv_sub hl [0, 1, 2, 4] rfl)
  intro H locs hw hS ls hl
  have hl : lv_has ls 5 [(0, .ref h0), (1, .int a1), (2, .int a2)] := hl
  have hE := hX
  unfold Gm_speakersAt at hE
  refine lv_iconst (v := 0) hx hb dX12_speakersAt_0 (by decide) ?_
  refine lv_istore_n (lv' := [(3, .int 0), (0, .ref h0), (1, .int a1), (2, .int a2)]) hx hb dX12_speakersAt_1 rfl hl (by decide) rfl (fun ls hl => ?_)
  refine lv_iconst (v := 0) hx hb dX12_speakersAt_2 (by decide) ?_
  refine lv_istore (lv' := [(4, .int 0), (3, .int 0), (0, .ref h0), (1, .int a1), (2, .int a2)]) hx hb dX12_speakersAt_3 hl (by decide) rfl (fun ls hl => ?_)
  exact cut5 7 0 0 r g2 ((zI.lit (a := 0) (b := 0) (c := 0) (by decide)).w (c := 0) (d := 63) (by decide)) ((zI.lit (a := 0) (b := 0) (c := 0) (by decide)).w (c := 0) (d := 6) (by decide)) hJ0 (zFr.refl) hE (zI.m0 (zI.lit (a := 0) (b := 0) (c := 0) (by decide)) (by decide)) H locs ls hw hS (lv_sub hl [2, 3, 4, 1, 0] rfl)

noncomputable def Gm_lets (a1 : Int32) (a2 : Int32) (a3 : Int32) (r : zRr) (q : zRq) : Int32 × zRr :=
  zlet (α := Int32) (r 6 (zn a2)) <| fun v1 => zifn (v1 = (1 : Int32)) (zc_vr (Gm_letsHim a1 a2 r q) <| fun v4 r5 => (v4, r5)) (zc_vr (Gm_speakersAt a3 a1 r q) <| fun v8 r9 => zif (v8 = (0 : Int32)) (((0 : Int32), r9)) (((1 : Int32), r9)))
set_option maxHeartbeats 4000000 in
set_option maxRecDepth 100000 in
theorem mc_lets (l : Launch) (D : va_G) (ct : Nat → ClassId) (h0 : Nat) (y : Nat → Nat) (B : Int) (a1 : Int32) (a2 : Int32) (a3 : Int32) (r : zRr) (q : zRq) (g1 : zI 0 5 a1) (g2 : zI 0 5 a2) (hJ0 : mJ B r) : zC l yX12_lets (.code yX12_lets cX12_lets 4 (some .boolean) :: wsL_law0) ({ frames := 7, cells := 0, slots := 0, locals := 320 }) D ct [] [.ref h0, .int a1, .int a2, .int a3] (mW ct h0 y r q) (S := Int32 × zRr) (fun u => some (.int u.1)) (fun u => zI 0 1 u.1 ∧ mJ B u.2 ∧ zFr [15, 16, 17, 18, 19, 20, 21, 22, 23, 24] r u.2 ∧ u = (Gm_lets a1 a2 a3 r q) ∧ True) (fun u => mW ct h0 y u.2 q) 0 0 := by
  refine zofQ cX12_lets 4 (some .boolean) (by decide) rfl (Nat.le_of_ble_eq_true rfl) ?_
  intro p e s m below meth c A a9 Q ha9 hx hb hr hml hts hown hlocks hname hK hA hZ hN hQ
  have hown : s.vm.findClass RX12 = some m.cls := hown
  have hiX12 : ∀ w ∈ wsX120, w ∈ .code yX12_lets cX12_lets 4 (some .boolean) :: wsL_law0 := fun _ h => ki (zs_wsX120 _ h)
  have lf29 := hts (.fieldLink RX12 29 "BeardPassModel" "kind" "[I") (ki (zr8 1 rfl))
  obtain ⟨X, hX⟩ : ∃ X, X = (Gm_lets a1 a2 a3 r q) := ⟨_, rfl⟩
  intro H locs hw hS ls hl
  have hl : lv_has ls 4 [(0, .ref h0), (1, .int a1), (2, .int a2), (3, .int a3)] := hl
  have hE := hX
  unfold Gm_lets at hE
  refine lv_aload_n hx hb dX12_lets_0 rfl (lv_at hl 0 rfl) ?_
  refine mget (v := .ref (y 6)) hx hb hts hiX12 hown hK hw 15 (by decide) lf29 rfl rfl dX12_lets_1 ?_
  refine lv_iload_n hx hb dX12_lets_4 rfl (lv_at hl 2 rfl) ?_
  refine miald hx hb hK hw 7 mWg6 g2 (by decide) dX12_lets_5 (zgenE (zI.top _) (fun v1 ev1 _ => ?_))
  have hE := zletE ev1 hE
  refine lv_iconst (v := 1) hx hb dX12_lets_6 (by decide) ?_
  refine lv_icmp_ne (tgt := 27) hx hb dX12_lets_7 (by decide) (fun c2 => ?_) (fun c2 => ?_)
  · have hE := zifnT c2 hE
    refine lv_aload_n hx hb dX12_lets_27 rfl (lv_at hl 0 rfl) ?_
    refine lv_iload_n hx hb dX12_lets_28 rfl (lv_at hl 1 rfl) ?_
    refine lv_iload_n hx hb dX12_lets_29 rfl (lv_at hl 2 rfl) ?_
    refine mcallV (As := [.int a1, .int a2]) (rest := []) ⟨hx, hb, hml, hown, hts⟩ (mc_letsHim l D ct h0 y B a1 a2 r q g1 g2 hJ0) (wqX12_355_mc_letsHim hts ⟨Nat.le_of_ble_eq_true rfl, Nat.le_of_ble_eq_true rfl⟩) hw hS hA hK hN rfl hl.1 rfl (Nat.le_of_ble_eq_true rfl) dX12_lets_30 33 rfl (fun u3 H locs pu3 hw hS => ?_)
    obtain ⟨v4, r5⟩ := u3
    have hv4 : zI 0 1 v4 := pu3.1
    have ju3 : mJ B r5 := pu3.2.1
    have fu3 : zFr [15, 16, 17, 18, 19, 20, 21, 22, 23, 24] r r5 := pu3.2.2.1
    have xu3 : (v4, r5) = (Gm_letsHim a1 a2 r q) := pu3.2.2.2.1
    have hE := zc_vrE xu3 hE
    have hw : zPD D A (mW ct h0 y r5 q) H := hw
    refine zfr 33 [.int v4] rfl rfl ?_
    exact ziretQ hQ hx hb hr (hv4.rn) hlocks (v4, r5) rfl ⟨hv4, ju3, ((zFr.refl).tr fu3 rfl), (hE.symm.trans hX), trivial⟩ hw hS dX12_lets_33
  · have hE := zifnF c2 hE
    have k6 : zI 1 1 (v1) := zI.eqq c2 (zI.lit (a := 1) (b := 1) (c := 1) (by decide))
    refine lv_aload_n hx hb dX12_lets_10 rfl (lv_at hl 0 rfl) ?_
    refine lv_iload_n hx hb dX12_lets_11 rfl (lv_at hl 3 rfl) ?_
    refine lv_iload_n hx hb dX12_lets_12 rfl (lv_at hl 1 rfl) ?_
    refine mcallV (As := [.int a3, .int a1]) (rest := []) ⟨hx, hb, hml, hown, hts⟩ (mc_speakersAt l D ct h0 y B a3 a1 r q g1 hJ0) (wqX12_358_mc_speakersAt hts ⟨Nat.le_of_ble_eq_true rfl, Nat.le_of_ble_eq_true rfl⟩) hw hS hA hK hN rfl hl.1 rfl (Nat.le_of_ble_eq_true rfl) dX12_lets_13 16 rfl (fun u7 H locs pu7 hw hS => ?_)
    obtain ⟨v8, r9⟩ := u7
    have hv8 : zI 0 63 v8 := pu7.1
    have ju7 : mJ B r9 := pu7.2.1
    have fu7 : zFr [15, 16, 17, 18, 19, 20, 21, 22, 23, 24] r r9 := pu7.2.2.1
    have xu7 : (v8, r9) = (Gm_speakersAt a3 a1 r q) := pu7.2.2.2.1
    have hE := zc_vrE xu7 hE
    have hw : zPD D A (mW ct h0 y r9 q) H := hw
    refine zfr 16 [.int v8] rfl rfl ?_
    refine lv_if_eq (tgt := 23) hx hb dX12_lets_16 (by decide) (fun c10 => ?_) (fun c10 => ?_)
    · have hE := zifT c10 hE
      have k11 : zI 0 0 (v8) := zI.eqq c10 (zI.lit (a := 0) (b := 0) (c := 0) (by decide))
      refine lv_iconst (v := 0) hx hb dX12_lets_23 (by decide) ?_
      refine lv_goto (tgt := 33) hx hb dX12_lets_24 (by decide) ?_
      exact ziretQ hQ hx hb hr rfl hlocks (0, r9) rfl ⟨((zI.lit (a := 0) (b := 0) (c := 0) (by decide)).w (c := 0) (d := 1) (by decide)), ju7, ((zFr.refl).tr fu7 rfl), (hE.symm.trans hX), trivial⟩ hw hS dX12_lets_33
    · have hE := zifF c10 hE
      have k12 : zI 1 63 (v8) := zI.neD c10 hv8 (zI.lit (a := 0) (b := 0) (c := 0) (by decide)) (by decide)
      refine lv_iconst (v := 1) hx hb dX12_lets_19 (by decide) ?_
      refine lv_goto (tgt := 33) hx hb dX12_lets_20 (by decide) ?_
      exact ziretQ hQ hx hb hr rfl hlocks (1, r9) rfl ⟨((zI.lit (a := 1) (b := 1) (c := 1) (by decide)).w (c := 0) (d := 1) (by decide)), ju7, ((zFr.refl).tr fu7 rfl), (hE.symm.trans hX), trivial⟩ hw hS dX12_lets_33

noncomputable def Gm_canGo (a1 : Int32) (a2 : Int32) (r : zRr) (q : zRq) : Int32 × zRr :=
  zlet (α := Int32) (1 + a1) <| fun v1 => zlet (α := Int32) (r 32 (zn v1)) <| fun v2 => zlet (α := Int32) (r 5 (zn v2)) <| fun v3 => zlet (α := Int32) (v3 >>> (a2 &&& 31)) <| fun v4 => zlet (α := Int32) (v4 &&& 1) <| fun v5 => zifn (v5 = (1 : Int32)) (((0 : Int32), r)) (zlet (α := Int32) (1 + a1) <| fun v9 => zlet (α := Int32) (r 32 (zn v9)) <| fun v10 => zc_vr (Gm_lets a2 a1 v10 r q) <| fun v12 r13 => zif (v12 = (0 : Int32)) (((0 : Int32), r13)) (((1 : Int32), r13)))
set_option maxHeartbeats 4000000 in
set_option maxRecDepth 100000 in
theorem mc_canGo (l : Launch) (D : va_G) (ct : Nat → ClassId) (h0 : Nat) (y : Nat → Nat) (B : Int) (a1 : Int32) (a2 : Int32) (r : zRr) (q : zRq) (g1 : zI 0 5 a1) (g2 : zI 0 5 a2) (hJ0 : mJ B r) : zC l yX12_canGo (.code yX12_canGo cX12_canGo 3 (some .boolean) :: wsL_law0) ({ frames := 8, cells := 0, slots := 0, locals := 360 }) D ct [] [.ref h0, .int a1, .int a2] (mW ct h0 y r q) (S := Int32 × zRr) (fun u => some (.int u.1)) (fun u => zI 0 1 u.1 ∧ mJ B u.2 ∧ zFr [15, 16, 17, 18, 19, 20, 21, 22, 23, 24] r u.2 ∧ u = (Gm_canGo a1 a2 r q) ∧ True) (fun u => mW ct h0 y u.2 q) 0 0 := by
  refine zofQ cX12_canGo 3 (some .boolean) (by decide) rfl (Nat.le_of_ble_eq_true rfl) ?_
  intro p e s m below meth c A a9 Q ha9 hx hb hr hml hts hown hlocks hname hK hA hZ hN hQ
  have hown : s.vm.findClass RX12 = some m.cls := hown
  have hiX12 : ∀ w ∈ wsX120, w ∈ .code yX12_canGo cX12_canGo 3 (some .boolean) :: wsL_law0 := fun _ h => ki (zs_wsX120 _ h)
  have lf26 := hts (.fieldLink RX12 26 "BeardPassModel" "roads" "[I") (ki (zr8 0 rfl))
  have lf108 := hts (.fieldLink RX12 108 "BeardPassModel" "s" "[I") (ki (zr9 4 rfl))
  obtain ⟨X, hX⟩ : ∃ X, X = (Gm_canGo a1 a2 r q) := ⟨_, rfl⟩
  intro H locs hw hS ls hl
  have hl : lv_has ls 3 [(0, .ref h0), (1, .int a1), (2, .int a2)] := hl
  have hE := hX
  unfold Gm_canGo at hE
  refine lv_aload_n hx hb dX12_canGo_0 rfl (lv_at hl 0 rfl) ?_
  refine mget (v := .ref (y 5)) hx hb hts hiX12 hown hK hw 14 (by decide) lf26 rfl rfl dX12_canGo_1 ?_
  refine lv_aload_n hx hb dX12_canGo_4 rfl (lv_at hl 0 rfl) ?_
  refine mget (v := .ref (y 32)) hx hb hts hiX12 hown hK hw 45 (by decide) lf108 rfl rfl dX12_canGo_5 ?_
  refine lv_iconst (v := 1) hx hb dX12_canGo_8 (by decide) ?_
  refine lv_iload_n hx hb dX12_canGo_9 rfl (lv_at hl 1 rfl) ?_
  refine lv_iadd hx hb dX12_canGo_10 (zgenE (lo := 1) (hi := 6) (zI.add (zI.lit (a := 1) (b := 1) (c := 1) (by decide)) g1 (by decide)) (fun v1 ev1 hv1 => ?_))
  have hE := zletE ev1 hE
  refine miald hx hb hK hw 33 mWg32 hv1 (by decide) dX12_canGo_11 (zgenE (lo := 0) (hi := 5) ((ms_1 hJ0 hv1)) (fun v2 ev2 hv2 => ?_))
  have hE := zletE ev2 hE
  refine miald hx hb hK hw 6 mWg5 hv2 (by decide) dX12_canGo_12 (zgenE (zI.top _) (fun v3 ev3 _ => ?_))
  have hE := zletE ev3 hE
  refine lv_iload_n hx hb dX12_canGo_13 rfl (lv_at hl 2 rfl) ?_
  refine lv_ishr hx hb dX12_canGo_14 (zgenE (zI.top _) (fun v4 ev4 _ => ?_))
  have hE := zletE ev4 hE
  refine lv_iconst (v := 1) hx hb dX12_canGo_15 (by decide) ?_
  refine lv_iand hx hb dX12_canGo_16 (zgenE (lo := 0) (hi := 1) (zI.and (zI.lit (a := 1) (b := 1) (c := 1) (by decide)) (by decide)) (fun v5 ev5 hv5 => ?_))
  have hE := zletE ev5 hE
  refine lv_iconst (v := 1) hx hb dX12_canGo_17 (by decide) ?_
  refine lv_icmp_ne (tgt := 42) hx hb dX12_canGo_18 (by decide) (fun c6 => ?_) (fun c6 => ?_)
  · have hE := zifnT c6 hE
    have k7 : zI 0 0 (v5) := zI.neU c6 hv5 (zI.lit (a := 1) (b := 1) (c := 1) (by decide)) (by decide)
    refine lv_iconst (v := 0) hx hb dX12_canGo_42 (by decide) ?_
    exact ziretQ hQ hx hb hr rfl hlocks (0, r) rfl ⟨((zI.lit (a := 0) (b := 0) (c := 0) (by decide)).w (c := 0) (d := 1) (by decide)), hJ0, (zFr.refl), (hE.symm.trans hX), trivial⟩ hw hS dX12_canGo_43
  · have hE := zifnF c6 hE
    have k8 : zI 1 1 (v5) := zI.eqq c6 (zI.lit (a := 1) (b := 1) (c := 1) (by decide))
    refine lv_aload_n hx hb dX12_canGo_21 rfl (lv_at hl 0 rfl) ?_
    refine lv_iload_n hx hb dX12_canGo_22 rfl (lv_at hl 2 rfl) ?_
    refine lv_iload_n hx hb dX12_canGo_23 rfl (lv_at hl 1 rfl) ?_
    refine lv_aload_n hx hb dX12_canGo_24 rfl (lv_at hl 0 rfl) ?_
    refine mget (v := .ref (y 32)) hx hb hts hiX12 hown hK hw 45 (by decide) lf108 rfl rfl dX12_canGo_25 ?_
    refine lv_iconst (v := 1) hx hb dX12_canGo_28 (by decide) ?_
    refine lv_iload_n hx hb dX12_canGo_29 rfl (lv_at hl 1 rfl) ?_
    refine lv_iadd hx hb dX12_canGo_30 (zgenE (lo := 1) (hi := 6) (zI.add (zI.lit (a := 1) (b := 1) (c := 1) (by decide)) g1 (by decide)) (fun v9 ev9 hv9 => ?_))
    have hE := zletE ev9 hE
    refine miald hx hb hK hw 33 mWg32 hv9 (by decide) dX12_canGo_31 (zgenE (lo := 0) (hi := 5) ((ms_1 hJ0 hv9)) (fun v10 ev10 hv10 => ?_))
    have hE := zletE ev10 hE
    refine mcallV (As := [.int a2, .int a1, .int v10]) (rest := []) ⟨hx, hb, hml, hown, hts⟩ (mc_lets l D ct h0 y B a2 a1 v10 r q g2 g1 hJ0) (wqX12_362_mc_lets hts ⟨Nat.le_of_ble_eq_true rfl, Nat.le_of_ble_eq_true rfl⟩) hw hS hA hK hN rfl hl.1 rfl (Nat.le_of_ble_eq_true rfl) dX12_canGo_32 35 rfl (fun u11 H locs pu11 hw hS => ?_)
    obtain ⟨v12, r13⟩ := u11
    have hv12 : zI 0 1 v12 := pu11.1
    have ju11 : mJ B r13 := pu11.2.1
    have fu11 : zFr [15, 16, 17, 18, 19, 20, 21, 22, 23, 24] r r13 := pu11.2.2.1
    have xu11 : (v12, r13) = (Gm_lets a2 a1 v10 r q) := pu11.2.2.2.1
    have hE := zc_vrE xu11 hE
    have hw : zPD D A (mW ct h0 y r13 q) H := hw
    refine zfr 35 [.int v12] rfl rfl ?_
    refine lv_if_eq (tgt := 42) hx hb dX12_canGo_35 (by decide) (fun c14 => ?_) (fun c14 => ?_)
    · have hE := zifT c14 hE
      have k15 : zI 0 0 (v12) := zI.eqq c14 (zI.lit (a := 0) (b := 0) (c := 0) (by decide))
      refine lv_iconst (v := 0) hx hb dX12_canGo_42 (by decide) ?_
      exact ziretQ hQ hx hb hr rfl hlocks (0, r13) rfl ⟨((zI.lit (a := 0) (b := 0) (c := 0) (by decide)).w (c := 0) (d := 1) (by decide)), ju11, ((zFr.refl).tr fu11 rfl), (hE.symm.trans hX), trivial⟩ hw hS dX12_canGo_43
    · have hE := zifF c14 hE
      have k16 : zI 1 1 (v12) := zI.neD c14 hv12 (zI.lit (a := 0) (b := 0) (c := 0) (by decide)) (by decide)
      refine lv_iconst (v := 1) hx hb dX12_canGo_38 (by decide) ?_
      refine lv_goto (tgt := 43) hx hb dX12_canGo_39 (by decide) ?_
      exact ziretQ hQ hx hb hr rfl hlocks (1, r13) rfl ⟨((zI.lit (a := 1) (b := 1) (c := 1) (by decide)).w (c := 0) (d := 1) (by decide)), ju11, ((zFr.refl).tr fu11 rfl), (hE.symm.trans hX), trivial⟩ hw hS dX12_canGo_43

noncomputable def Gm_goes (a1 : Int32) (a2 : Int32) (r : zRr) (q : zRq) : zRr :=
  zlet (α := Int32) (1 + a1) <| fun v1 => zlet (α := zRr) (zset r 32 (upd (r 32) (zn v1) a2)) <| fun r2 => zlet (α := Int32) (25 + a1) <| fun v3 => zlet (α := Int32) (r2 32 (zn v3)) <| fun v4 => zlet (α := Int32) (1 <<< (a2 &&& 31)) <| fun v5 => zlet (α := Int32) (v4 ||| v5) <| fun v6 => zlet (α := zRr) (zset r2 32 (upd (r2 32) (zn v3) v6)) <| fun r7 => r7
set_option maxHeartbeats 4000000 in
set_option maxRecDepth 100000 in
theorem mc_goes (l : Launch) (D : va_G) (ct : Nat → ClassId) (h0 : Nat) (y : Nat → Nat) (B : Int) (a1 : Int32) (a2 : Int32) (r : zRr) (q : zRq) (g1 : zI 0 5 a1) (g2 : zI 0 5 a2) (hJ0 : mJ B r) : zC l yX12_goes (.code yX12_goes cX12_goes 3 none :: wsL_law0) ({ frames := 1, cells := 0, slots := 0, locals := 80 }) D ct [] [.ref h0, .int a1, .int a2] (mW ct h0 y r q) (S := zRr) (fun u => none) (fun u => mJ B u ∧ zFr [32] r u ∧ u = (Gm_goes a1 a2 r q) ∧ True) (fun u => mW ct h0 y u q) 0 0 := by
  refine zofQ cX12_goes 3 none (by decide) rfl (Nat.le_of_ble_eq_true rfl) ?_
  intro p e s m below meth c A a9 Q ha9 hx hb hr hml hts hown hlocks hname hK hA hZ hN hQ
  have hown : s.vm.findClass RX12 = some m.cls := hown
  have hiX12 : ∀ w ∈ wsX120, w ∈ .code yX12_goes cX12_goes 3 none :: wsL_law0 := fun _ h => ki (zs_wsX120 _ h)
  have lf108 := hts (.fieldLink RX12 108 "BeardPassModel" "s" "[I") (ki (zr9 4 rfl))
  obtain ⟨X, hX⟩ : ∃ X, X = (Gm_goes a1 a2 r q) := ⟨_, rfl⟩
  intro H locs hw hS ls hl
  have hl : lv_has ls 3 [(0, .ref h0), (1, .int a1), (2, .int a2)] := hl
  have hE := hX
  unfold Gm_goes at hE
  refine lv_aload_n hx hb dX12_goes_0 rfl (lv_at hl 0 rfl) ?_
  refine mget (v := .ref (y 32)) hx hb hts hiX12 hown hK hw 45 (by decide) lf108 rfl rfl dX12_goes_1 ?_
  refine lv_iconst (v := 1) hx hb dX12_goes_4 (by decide) ?_
  refine lv_iload_n hx hb dX12_goes_5 rfl (lv_at hl 1 rfl) ?_
  refine lv_iadd hx hb dX12_goes_6 (zgenE (lo := 1) (hi := 6) (zI.add (zI.lit (a := 1) (b := 1) (c := 1) (by decide)) g1 (by decide)) (fun v1 ev1 hv1 => ?_))
  have hE := zletE ev1 hE
  refine lv_iload_n hx hb dX12_goes_7 rfl (lv_at hl 2 rfl) ?_
  refine miast hx hb hK hw hS 33 mWg32 hv1 (by decide) dX12_goes_8 (mW ct h0 y (zset r 32 (upd (r 32) (zn v1) a2)) q) mWs32 (fun H locs hw hS => ?_)
  refine mgen (P := fun x => mJ B x ∧ zFr [32] r x) hw ⟨hJ0.set rfl (ms_1w hv1 g2), (zFr.refl).set rfl⟩ (fun r2 er2 hw pr2 => ?_)
  have hE := zletE er2 hE
  refine lv_aload_n hx hb dX12_goes_9 rfl (lv_at hl 0 rfl) ?_
  refine mget (v := .ref (y 32)) hx hb hts hiX12 hown hK hw 45 (by decide) lf108 rfl rfl dX12_goes_10 ?_
  refine lv_bipush (v := 25) hx hb dX12_goes_13 (by decide) ?_
  refine lv_iload_n hx hb dX12_goes_15 rfl (lv_at hl 1 rfl) ?_
  refine lv_iadd hx hb dX12_goes_16 (zgenE (lo := 25) (hi := 30) (zI.add (zI.lit (a := 25) (b := 25) (c := 25) (by decide)) g1 (by decide)) (fun v3 ev3 hv3 => ?_))
  have hE := zletE ev3 hE
  refine lv_dup2_11 hx hb dX12_goes_17 rfl rfl ?_
  refine miald hx hb hK hw 33 mWg32 hv3 (by decide) dX12_goes_18 (zgenE (lo := 0) (hi := 63) ((ms_25 pr2.1 hv3)) (fun v4 ev4 hv4 => ?_))
  have hE := zletE ev4 hE
  refine lv_iconst (v := 1) hx hb dX12_goes_19 (by decide) ?_
  refine lv_iload_n hx hb dX12_goes_20 rfl (lv_at hl 2 rfl) ?_
  refine lv_ishl hx hb dX12_goes_21 (zgenE (lo := 1) (hi := 32) (zI.shl g2 5 (by decide)) (fun v5 ev5 hv5 => ?_))
  have hE := zletE ev5 hE
  refine lv_ior hx hb dX12_goes_22 (zgenE (lo := 0) (hi := 63) (zI.or 6 hv4 hv5 (by decide)) (fun v6 ev6 hv6 => ?_))
  have hE := zletE ev6 hE
  refine miast hx hb hK hw hS 33 mWg32 hv3 (by decide) dX12_goes_23 (mW ct h0 y (zset r2 32 (upd (r2 32) (zn v3) v6)) q) mWs32 (fun H locs hw hS => ?_)
  refine mgen (P := fun x => mJ B x ∧ zFr [32] r x) hw ⟨pr2.1.set rfl (ms_25w hv3 hv6), pr2.2.set rfl⟩ (fun r7 er7 hw pr7 => ?_)
  have hE := zletE er7 hE
  exact zvretQ hQ hx hb hr hlocks r7 rfl ⟨pr7.1, pr7.2, (hE.symm.trans hX), trivial⟩ hw hS dX12_goes_24

noncomputable def Gm_canForge (a1 : Int32) (a2 : Int32) (r : zRr) (q : zRq) : Int32 :=
  zif ((r 6 (zn a1)) = (1 : Int32)) ((0 : Int32)) (zif ((r 32 (zn (19 + a1))) < (a2 * (r 1 3))) ((0 : Int32)) (zif ((20 : Int32) < ((r 32 (zn (13 + a1))) + a2)) ((0 : Int32)) ((1 : Int32))))
set_option maxHeartbeats 4000000 in
set_option maxRecDepth 100000 in
theorem mc_canForge (l : Launch) (D : va_G) (ct : Nat → ClassId) (h0 : Nat) (y : Nat → Nat) (B : Int) (a1 : Int32) (a2 : Int32) (r : zRr) (q : zRq) (g1 : zI 0 5 a1) (g2 : zI 0 9999 a2) (hJ0 : mJ B r) : zC l yX12_canForge (.code yX12_canForge cX12_canForge 3 (some .boolean) :: wsL_law0) ({ frames := 1, cells := 0, slots := 0, locals := 80 }) D ct [] [.ref h0, .int a1, .int a2] (mW ct h0 y r q) (S := Int32) (fun u => some (.int u)) (fun u => zI 0 1 u ∧ (¬ u = 0 → zI 0 20 (r 32 (zn (13 + a1)) + a2)) ∧ u = (Gm_canForge a1 a2 r q) ∧ True) (fun u => mW ct h0 y r q) 0 0 := by
  refine zofQ cX12_canForge 3 (some .boolean) (by decide) rfl (Nat.le_of_ble_eq_true rfl) ?_
  intro p e s m below meth c A a9 Q ha9 hx hb hr hml hts hown hlocks hname hK hA hZ hN hQ
  have hown : s.vm.findClass RX12 = some m.cls := hown
  have hiX12 : ∀ w ∈ wsX120, w ∈ .code yX12_canForge cX12_canForge 3 (some .boolean) :: wsL_law0 := fun _ h => ki (zs_wsX120 _ h)
  have lf13 := hts (.fieldLink RX12 13 "BeardPassModel" "land" "[I") (ki (zr7 20 rfl))
  have lf29 := hts (.fieldLink RX12 29 "BeardPassModel" "kind" "[I") (ki (zr8 1 rfl))
  have lf108 := hts (.fieldLink RX12 108 "BeardPassModel" "s" "[I") (ki (zr9 4 rfl))
  obtain ⟨X, hX⟩ : ∃ X, X = (Gm_canForge a1 a2 r q) := ⟨_, rfl⟩
  intro H locs hw hS ls hl
  have hl : lv_has ls 3 [(0, .ref h0), (1, .int a1), (2, .int a2)] := hl
  have hE := hX
  unfold Gm_canForge at hE
  refine lv_aload_n hx hb dX12_canForge_0 rfl (lv_at hl 0 rfl) ?_
  refine mget (v := .ref (y 6)) hx hb hts hiX12 hown hK hw 15 (by decide) lf29 rfl rfl dX12_canForge_1 ?_
  refine lv_iload_n hx hb dX12_canForge_4 rfl (lv_at hl 1 rfl) ?_
  refine miald hx hb hK hw 7 mWg6 g1 (by decide) dX12_canForge_5 ?_
  refine lv_iconst (v := 1) hx hb dX12_canForge_6 (by decide) ?_
  refine lv_icmp_eq (tgt := 50) hx hb dX12_canForge_7 (by decide) (fun c1 => ?_) (fun c1 => ?_)
  · have hE := zifT c1 hE
    have k2 : zI 1 1 (r 6 (zn a1)) := zI.eqq c1 (zI.lit (a := 1) (b := 1) (c := 1) (by decide))
    refine lv_iconst (v := 0) hx hb dX12_canForge_50 (by decide) ?_
    exact ziretQ hQ hx hb hr rfl hlocks 0 rfl ⟨((zI.lit (a := 0) (b := 0) (c := 0) (by decide)).w (c := 0) (d := 1) (by decide)), (fun h => absurd rfl h), (hE.symm.trans hX), trivial⟩ hw hS dX12_canForge_51
  · have hE := zifF c1 hE
    refine lv_aload_n hx hb dX12_canForge_10 rfl (lv_at hl 0 rfl) ?_
    refine mget (v := .ref (y 32)) hx hb hts hiX12 hown hK hw 45 (by decide) lf108 rfl rfl dX12_canForge_11 ?_
    refine lv_bipush (v := 19) hx hb dX12_canForge_14 (by decide) ?_
    refine lv_iload_n hx hb dX12_canForge_16 rfl (lv_at hl 1 rfl) ?_
    refine lv_iadd hx hb dX12_canForge_17 ?_
    have k3 : zI 19 24 (19 + a1) := zI.add (zI.lit (a := 19) (b := 19) (c := 19) (by decide)) g1 (by decide)
    refine miald hx hb hK hw 33 mWg32 k3 (by decide) dX12_canForge_18 ?_
    refine lv_iload_n hx hb dX12_canForge_19 rfl (lv_at hl 2 rfl) ?_
    refine lv_aload_n hx hb dX12_canForge_20 rfl (lv_at hl 0 rfl) ?_
    refine mget (v := .ref (y 1)) hx hb hts hiX12 hown hK hw 10 (by decide) lf13 rfl rfl dX12_canForge_21 ?_
    refine lv_iconst (v := 3) hx hb dX12_canForge_24 (by decide) ?_
    refine ziald hx hb hK hw 2 mWg1 3 (by decide) (by decide) (by decide) dX12_canForge_25 ?_
    refine lv_imul hx hb dX12_canForge_26 ?_
    refine lv_icmp_lt (tgt := 50) hx hb dX12_canForge_27 (by decide) (fun c4 => ?_) (fun c4 => ?_)
    · have hE := zifT c4 hE
      refine lv_iconst (v := 0) hx hb dX12_canForge_50 (by decide) ?_
      exact ziretQ hQ hx hb hr rfl hlocks 0 rfl ⟨((zI.lit (a := 0) (b := 0) (c := 0) (by decide)).w (c := 0) (d := 1) (by decide)), (fun h => absurd rfl h), (hE.symm.trans hX), trivial⟩ hw hS dX12_canForge_51
    · have hE := zifF c4 hE
      refine lv_aload_n hx hb dX12_canForge_30 rfl (lv_at hl 0 rfl) ?_
      refine mget (v := .ref (y 32)) hx hb hts hiX12 hown hK hw 45 (by decide) lf108 rfl rfl dX12_canForge_31 ?_
      refine lv_bipush (v := 13) hx hb dX12_canForge_34 (by decide) ?_
      refine lv_iload_n hx hb dX12_canForge_36 rfl (lv_at hl 1 rfl) ?_
      refine lv_iadd hx hb dX12_canForge_37 ?_
      have k5 : zI 13 18 (13 + a1) := zI.add (zI.lit (a := 13) (b := 13) (c := 13) (by decide)) g1 (by decide)
      refine miald hx hb hK hw 33 mWg32 k5 (by decide) dX12_canForge_38 ?_
      have k6 : zI 0 41 (r 32 (zn (13 + a1))) := (ms_13 hJ0 k5)
      refine lv_iload_n hx hb dX12_canForge_39 rfl (lv_at hl 2 rfl) ?_
      refine lv_iadd hx hb dX12_canForge_40 ?_
      have k7 : zI 0 10040 ((r 32 (zn (13 + a1))) + a2) := zI.add k6 g2 (by decide)
      refine lv_bipush (v := 20) hx hb dX12_canForge_41 (by decide) ?_
      refine lv_icmp_gt (tgt := 50) hx hb dX12_canForge_43 (by decide) (fun c8 => ?_) (fun c8 => ?_)
      · have hE := zifT c8 hE
        have k9 : zI 21 10040 ((r 32 (zn (13 + a1))) + a2) := zI.ltD c8 (zI.lit (a := 20) (b := 20) (c := 20) (by decide)) k7 (by decide)
        refine lv_iconst (v := 0) hx hb dX12_canForge_50 (by decide) ?_
        exact ziretQ hQ hx hb hr rfl hlocks 0 rfl ⟨((zI.lit (a := 0) (b := 0) (c := 0) (by decide)).w (c := 0) (d := 1) (by decide)), (fun h => absurd rfl h), (hE.symm.trans hX), trivial⟩ hw hS dX12_canForge_51
      · have hE := zifF c8 hE
        have k10 : zI 0 20 ((r 32 (zn (13 + a1))) + a2) := zI.leU (zI.nlt c8) k7 (zI.lit (a := 20) (b := 20) (c := 20) (by decide)) (by decide)
        refine lv_iconst (v := 1) hx hb dX12_canForge_46 (by decide) ?_
        refine lv_goto (tgt := 51) hx hb dX12_canForge_47 (by decide) ?_
        exact ziretQ hQ hx hb hr rfl hlocks 1 rfl ⟨((zI.lit (a := 1) (b := 1) (c := 1) (by decide)).w (c := 0) (d := 1) (by decide)), (show ¬ (1 : Int32) = 0 → zI 0 20 (r 32 (zn (13 + a1)) + a2) from (fun _ => k10)), (hE.symm.trans hX), trivial⟩ hw hS dX12_canForge_51

noncomputable def Gm_forges (a1 : Int32) (a2 : Int32) (r : zRr) (q : zRq) : zRr :=
  zlet (α := zRr) (zset r 32 (upd (r 32) (zn (19 + a1)) ((r 32 (zn (19 + a1))) - (a2 * (r 1 3))))) <| fun r2 => zlet (α := zRr) (zset r2 32 (upd (r2 32) (zn (13 + a1)) ((r2 32 (zn (13 + a1))) + a2))) <| fun r6 => r6
set_option maxHeartbeats 4000000 in
set_option maxRecDepth 100000 in
theorem mc_forges (l : Launch) (D : va_G) (ct : Nat → ClassId) (h0 : Nat) (y : Nat → Nat) (B : Int) (a1 : Int32) (a2 : Int32) (r : zRr) (q : zRq) (g1 : zI 0 5 a1) (g2 : zI 0 9999 a2) (hJ0 : mJ B r) (x1 : zI 0 20 (r 32 (zn (13 + a1)) + a2)) : zC l yX12_forges (.code yX12_forges cX12_forges 3 none :: wsL_law0) ({ frames := 1, cells := 0, slots := 0, locals := 80 }) D ct [] [.ref h0, .int a1, .int a2] (mW ct h0 y r q) (S := zRr) (fun u => none) (fun u => mJ B u ∧ zFr [32] r u ∧ u = (Gm_forges a1 a2 r q) ∧ True) (fun u => mW ct h0 y u q) 0 0 := by
  refine zofQ cX12_forges 3 none (by decide) rfl (Nat.le_of_ble_eq_true rfl) ?_
  intro p e s m below meth c A a9 Q ha9 hx hb hr hml hts hown hlocks hname hK hA hZ hN hQ
  have hown : s.vm.findClass RX12 = some m.cls := hown
  have hiX12 : ∀ w ∈ wsX120, w ∈ .code yX12_forges cX12_forges 3 none :: wsL_law0 := fun _ h => ki (zs_wsX120 _ h)
  have lf13 := hts (.fieldLink RX12 13 "BeardPassModel" "land" "[I") (ki (zr7 20 rfl))
  have lf108 := hts (.fieldLink RX12 108 "BeardPassModel" "s" "[I") (ki (zr9 4 rfl))
  obtain ⟨X, hX⟩ : ∃ X, X = (Gm_forges a1 a2 r q) := ⟨_, rfl⟩
  intro H locs hw hS ls hl
  have hl : lv_has ls 3 [(0, .ref h0), (1, .int a1), (2, .int a2)] := hl
  have hE := hX
  unfold Gm_forges at hE
  refine lv_aload_n hx hb dX12_forges_0 rfl (lv_at hl 0 rfl) ?_
  refine mget (v := .ref (y 32)) hx hb hts hiX12 hown hK hw 45 (by decide) lf108 rfl rfl dX12_forges_1 ?_
  refine lv_bipush (v := 19) hx hb dX12_forges_4 (by decide) ?_
  refine lv_iload_n hx hb dX12_forges_6 rfl (lv_at hl 1 rfl) ?_
  refine lv_iadd hx hb dX12_forges_7 ?_
  have k1 : zI 19 24 (19 + a1) := zI.add (zI.lit (a := 19) (b := 19) (c := 19) (by decide)) g1 (by decide)
  refine lv_dup2_11 hx hb dX12_forges_8 rfl rfl ?_
  refine miald hx hb hK hw 33 mWg32 k1 (by decide) dX12_forges_9 ?_
  refine lv_iload_n hx hb dX12_forges_10 rfl (lv_at hl 2 rfl) ?_
  refine lv_aload_n hx hb dX12_forges_11 rfl (lv_at hl 0 rfl) ?_
  refine mget (v := .ref (y 1)) hx hb hts hiX12 hown hK hw 10 (by decide) lf13 rfl rfl dX12_forges_12 ?_
  refine lv_iconst (v := 3) hx hb dX12_forges_15 (by decide) ?_
  refine ziald hx hb hK hw 2 mWg1 3 (by decide) (by decide) (by decide) dX12_forges_16 ?_
  refine lv_imul hx hb dX12_forges_17 ?_
  refine lv_isub hx hb dX12_forges_18 ?_
  refine miast hx hb hK hw hS 33 mWg32 k1 (by decide) dX12_forges_19 (mW ct h0 y (zset r 32 (upd (r 32) (zn (19 + a1)) ((r 32 (zn (19 + a1))) - (a2 * (r 1 3))))) q) mWs32 (fun H locs hw hS => ?_)
  refine mgen (P := fun x => mJ B x ∧ zFr [32] r x) hw ⟨hJ0.set rfl (ms_19w k1), (zFr.refl).set rfl⟩ (fun r2 er2 hw pr2 => ?_)
  have hE := zletE er2 hE
  refine lv_aload_n hx hb dX12_forges_20 rfl (lv_at hl 0 rfl) ?_
  refine mget (v := .ref (y 32)) hx hb hts hiX12 hown hK hw 45 (by decide) lf108 rfl rfl dX12_forges_21 ?_
  refine lv_bipush (v := 13) hx hb dX12_forges_24 (by decide) ?_
  refine lv_iload_n hx hb dX12_forges_26 rfl (lv_at hl 1 rfl) ?_
  refine lv_iadd hx hb dX12_forges_27 ?_
  have k3 : zI 13 18 (13 + a1) := zI.add (zI.lit (a := 13) (b := 13) (c := 13) (by decide)) g1 (by decide)
  refine lv_dup2_11 hx hb dX12_forges_28 rfl rfl ?_
  refine miald hx hb hK hw 33 mWg32 k3 (by decide) dX12_forges_29 ?_
  have k4 : zI 0 41 (r2 32 (zn (13 + a1))) := (ms_13 pr2.1 k3)
  refine lv_iload_n hx hb dX12_forges_30 rfl (lv_at hl 2 rfl) ?_
  have k5 : zI 0 20 ((r2 32 (zn (13 + a1))) + a2) := by rw [zs_self er2, pk_un (zn_ne k3 k1 (by decide))]; exact x1
  refine lv_iadd hx hb dX12_forges_31 ?_
  refine miast hx hb hK hw hS 33 mWg32 k3 (by decide) dX12_forges_32 (mW ct h0 y (zset r2 32 (upd (r2 32) (zn (13 + a1)) ((r2 32 (zn (13 + a1))) + a2))) q) mWs32 (fun H locs hw hS => ?_)
  refine mgen (P := fun x => mJ B x ∧ zFr [32] r x) hw ⟨pr2.1.set rfl (ms_13w k3 (mF_w k5 pr2.1.b (by decide))), pr2.2.set rfl⟩ (fun r6 er6 hw pr6 => ?_)
  have hE := zletE er6 hE
  exact zvretQ hQ hx hb hr hlocks r6 rfl ⟨pr6.1, pr6.2, (hE.symm.trans hX), trivial⟩ hw hS dX12_forges_33

noncomputable def Gm_shaves (a1 : Int32) (r : zRr) (q : zRq) : zRr :=
  zlet (α := Int32) (7 + a1) <| fun v1 => zlet (α := zRr) (zset r 32 (upd (r 32) (zn v1) (0 : Int32))) <| fun r2 => zlet (α := Int32) (13 + a1) <| fun v3 => zlet (α := zRr) (zset r2 32 (upd (r2 32) (zn v3) (0 : Int32))) <| fun r4 => r4
set_option maxHeartbeats 4000000 in
set_option maxRecDepth 100000 in
theorem mc_shaves (l : Launch) (D : va_G) (ct : Nat → ClassId) (h0 : Nat) (y : Nat → Nat) (B : Int) (a1 : Int32) (r : zRr) (q : zRq) (g1 : zI 0 5 a1) (hJ0 : mJ B r) : zC l yX12_shaves (.code yX12_shaves cX12_shaves 2 none :: wsL_law0) ({ frames := 1, cells := 0, slots := 0, locals := 80 }) D ct [] [.ref h0, .int a1] (mW ct h0 y r q) (S := zRr) (fun u => none) (fun u => mJ B u ∧ zFr [32] r u ∧ u = (Gm_shaves a1 r q) ∧ True) (fun u => mW ct h0 y u q) 0 0 := by
  refine zofQ cX12_shaves 2 none (by decide) rfl (Nat.le_of_ble_eq_true rfl) ?_
  intro p e s m below meth c A a9 Q ha9 hx hb hr hml hts hown hlocks hname hK hA hZ hN hQ
  have hown : s.vm.findClass RX12 = some m.cls := hown
  have hiX12 : ∀ w ∈ wsX120, w ∈ .code yX12_shaves cX12_shaves 2 none :: wsL_law0 := fun _ h => ki (zs_wsX120 _ h)
  have lf108 := hts (.fieldLink RX12 108 "BeardPassModel" "s" "[I") (ki (zr9 4 rfl))
  obtain ⟨X, hX⟩ : ∃ X, X = (Gm_shaves a1 r q) := ⟨_, rfl⟩
  intro H locs hw hS ls hl
  have hl : lv_has ls 2 [(0, .ref h0), (1, .int a1)] := hl
  have hE := hX
  unfold Gm_shaves at hE
  refine lv_aload_n hx hb dX12_shaves_0 rfl (lv_at hl 0 rfl) ?_
  refine mget (v := .ref (y 32)) hx hb hts hiX12 hown hK hw 45 (by decide) lf108 rfl rfl dX12_shaves_1 ?_
  refine lv_bipush (v := 7) hx hb dX12_shaves_4 (by decide) ?_
  refine lv_iload_n hx hb dX12_shaves_6 rfl (lv_at hl 1 rfl) ?_
  refine lv_iadd hx hb dX12_shaves_7 (zgenE (lo := 7) (hi := 12) (zI.add (zI.lit (a := 7) (b := 7) (c := 7) (by decide)) g1 (by decide)) (fun v1 ev1 hv1 => ?_))
  have hE := zletE ev1 hE
  refine lv_iconst (v := 0) hx hb dX12_shaves_8 (by decide) ?_
  refine miast hx hb hK hw hS 33 mWg32 hv1 (by decide) dX12_shaves_9 (mW ct h0 y (zset r 32 (upd (r 32) (zn v1) (0 : Int32))) q) mWs32 (fun H locs hw hS => ?_)
  refine mgen (P := fun x => mJ B x ∧ zFr [32] r x) hw ⟨hJ0.set rfl (ms_7w hv1), (zFr.refl).set rfl⟩ (fun r2 er2 hw pr2 => ?_)
  have hE := zletE er2 hE
  refine lv_aload_n hx hb dX12_shaves_10 rfl (lv_at hl 0 rfl) ?_
  refine mget (v := .ref (y 32)) hx hb hts hiX12 hown hK hw 45 (by decide) lf108 rfl rfl dX12_shaves_11 ?_
  refine lv_bipush (v := 13) hx hb dX12_shaves_14 (by decide) ?_
  refine lv_iload_n hx hb dX12_shaves_16 rfl (lv_at hl 1 rfl) ?_
  refine lv_iadd hx hb dX12_shaves_17 (zgenE (lo := 13) (hi := 18) (zI.add (zI.lit (a := 13) (b := 13) (c := 13) (by decide)) g1 (by decide)) (fun v3 ev3 hv3 => ?_))
  have hE := zletE ev3 hE
  refine lv_iconst (v := 0) hx hb dX12_shaves_18 (by decide) ?_
  refine miast hx hb hK hw hS 33 mWg32 hv3 (by decide) dX12_shaves_19 (mW ct h0 y (zset r2 32 (upd (r2 32) (zn v3) (0 : Int32))) q) mWs32 (fun H locs hw hS => ?_)
  refine mgen (P := fun x => mJ B x ∧ zFr [32] r x) hw ⟨pr2.1.set rfl (ms_13w hv3 (mF_w (zI.lit (a := 0) (b := 0) (c := 0) (by decide)) pr2.1.b (by decide))), pr2.2.set rfl⟩ (fun r4 er4 hw pr4 => ?_)
  have hE := zletE er4 hE
  exact zvretQ hQ hx hb hr hlocks r4 rfl ⟨pr4.1, pr4.2, (hE.symm.trans hX), trivial⟩ hw hS dX12_shaves_20

noncomputable def Gm_passes_52 (w2_1 : Int32) (ih2 : Int32 → zRr → zRr) (rw52 : zRr) : zRr :=
  ih2 (w2_1 + 1) rw52
noncomputable def Bm_passes_2 (ih2 : Int32 → zRr → zRr) (w2_1 : Int32) (rw2 : zRr) : zRr :=
  zlet (α := Int32) (rw2 1 1) <| fun v2 => zif (v2 ≤ w2_1) (zlet (α := Int32) (rw2 32 0) <| fun v4 => zlet (α := Int32) (v4 + 1) <| fun v5 => zlet (α := zRr) (zset rw2 32 (upd (rw2 32) 0 v5)) <| fun r6 => r6) (zlet (α := Int32) (rw2 6 (zn w2_1)) <| fun v9 => zif (v9 = (1 : Int32)) (Gm_passes_52 w2_1 ih2 rw2) (zlet (α := Int32) (7 + w2_1) <| fun v12 => zlet (α := Int32) (7 + w2_1) <| fun v13 => zlet (α := Int32) (rw2 32 (zn v13)) <| fun v14 => zlet (α := Int32) (rw2 1 2) <| fun v15 => zlet (α := Int32) (v14 + v15) <| fun v16 => zlet (α := Int32) (if v16 < 60 then v16 else 60) <| fun v17 => zlet (α := zRr) (zset rw2 32 (upd (rw2 32) (zn v12) v17)) <| fun r18 => Gm_passes_52 w2_1 ih2 r18))
noncomputable def Gm_passes_2 (n : Nat) : Int32 → zRr → zRr :=
  Nat.rec (motive := fun _ => Int32 → zRr → zRr) (fun _ rw2 => rw2) (fun _ ih => Bm_passes_2 ih) n
noncomputable def Gm_passes (r : zRr) (q : zRq) : zRr :=
  Gm_passes_2 7 0 r
set_option maxHeartbeats 4000000 in
set_option maxRecDepth 100000 in
theorem mc_passes (l : Launch) (D : va_G) (ct : Nat → ClassId) (h0 : Nat) (y : Nat → Nat) (B : Int) (r : zRr) (q : zRq) (hJ0 : mJ B r) : zC l yX12_passes (.code yX12_passes cX12_passes 2 none :: wsL_law0) ({ frames := 2, cells := 0, slots := 0, locals := 120 }) D ct [] [.ref h0] (mW ct h0 y r q) (S := zRr) (fun u => none) (fun u => mJ B u ∧ zFr [32] r u ∧ u = (Gm_passes r q) ∧ True) (fun u => mW ct h0 y u q) 0 0 := by
  refine zofQ cX12_passes 2 none (by decide) rfl (Nat.le_of_ble_eq_true rfl) ?_
  intro p e s m below meth c A a9 Q ha9 hx hb hr hml hts hown hlocks hname hK hA hZ hN hQ
  have hown : s.vm.findClass RX12 = some m.cls := hown
  have hiX12 : ∀ w ∈ wsX120, w ∈ .code yX12_passes cX12_passes 2 none :: wsL_law0 := fun _ h => ki (zs_wsX120 _ h)
  have lf13 := hts (.fieldLink RX12 13 "BeardPassModel" "land" "[I") (ki (zr7 20 rfl))
  have lf29 := hts (.fieldLink RX12 29 "BeardPassModel" "kind" "[I") (ki (zr8 1 rfl))
  have lf108 := hts (.fieldLink RX12 108 "BeardPassModel" "s" "[I") (ki (zr9 4 rfl))
  obtain ⟨X, hX⟩ : ∃ X, X = (Gm_passes r q) := ⟨_, rfl⟩
  have cut2 : ∀ (n2 : Nat) (w2_1 : Int32) (rw2 : zRr) (hw2_1 : zI 0 6 w2_1) (jw2 : mJ B rw2) (fw2 : zFr [32] r rw2) (hE : X = Gm_passes_2 n2 w2_1 rw2), 6 - w2_1.toInt < (n2 : Int) → zKf p l e ({ frames := 2, cells := 0, slots := 0, locals := 120 }) s m a9 below meth c Q D A 2 2 [] (mW ct h0 y rw2 q) [(0, .ref h0), (1, .int w2_1)] := by
    intro n2
    induction n2 with
    | zero => intro w2_1 rw2 hw2_1 jw2 fw2 hE hm2; exact zI.no hw2_1 (by decide) hm2
    | succ n2 ih2 =>
      intro w2_1 rw2 hw2_1 jw2 fw2 hE hm2
      have hE : X = Bm_passes_2 (Gm_passes_2 n2) w2_1 rw2 := hE
      unfold Bm_passes_2 at hE
      have cut52 : ∀ (rw52 : zRr) (hw52_1 : zI 0 5 w2_1) (jw52 : mJ B rw52) (fw52 : zFr [32] r rw52) (hE : X = Gm_passes_52 w2_1 (Gm_passes_2 n2) rw52), zKf p l e ({ frames := 2, cells := 0, slots := 0, locals := 120 }) s m a9 below meth c Q D A 52 2 [] (mW ct h0 y rw52 q) [(0, .ref h0), (1, .int w2_1)] := by
        intro rw52 hw52_1 jw52 fw52 hE H locs ls hw hS hl
        unfold Gm_passes_52 at hE
        refine lv_iinc (v := w2_1 + 1) (lv' := [(1, .int (w2_1 + 1)), (0, .ref h0)]) hx hb dX12_passes_52 hl (k := 1) rfl (rfl) (by decide) rfl (fun ls hl => ?_)
        have k1 : zI 1 6 (w2_1 + 1) := zI.add hw52_1 (zI.lit (a := 1) (b := 1) (by decide)) (by decide)
        refine lv_goto (tgt := 2) hx hb dX12_passes_55 (by decide) ?_
        exact ih2 (w2_1 + 1) rw52 (k1.w (c := 0) (d := 6) (by decide)) jw52 fw52 hE (zI.up hw52_1 (by decide) hm2) H locs ls hw hS (lv_sub hl [1, 0] rfl)
      intro H locs ls hw hS hl
      refine lv_iload_n hx hb dX12_passes_2 rfl (lv_at hl 1 rfl) ?_
      refine lv_aload_n hx hb dX12_passes_3 rfl (lv_at hl 0 rfl) ?_
      refine mget (v := .ref (y 1)) hx hb hts hiX12 hown hK hw 10 (by decide) lf13 rfl rfl dX12_passes_4 ?_
      refine lv_iconst (v := 1) hx hb dX12_passes_7 (by decide) ?_
      refine ziald hx hb hK hw 2 mWg1 1 (by decide) (by decide) (by decide) dX12_passes_8 (zgenE (lo := 0) (hi := 6) ((show zI 0 6 (rw2 1 1) from jw2.i 1 1)) (fun v2 ev2 hv2 => ?_))
      have hE := zletE ev2 hE
      refine lv_icmp_ge (tgt := 58) hx hb dX12_passes_9 (by decide) (fun c3 => ?_) (fun c3 => ?_)
      · have hE := zifT c3 hE
        refine lv_aload_n hx hb dX12_passes_58 rfl (lv_at hl 0 rfl) ?_
        refine mget (v := .ref (y 32)) hx hb hts hiX12 hown hK hw 45 (by decide) lf108 rfl rfl dX12_passes_59 ?_
        refine lv_iconst (v := 0) hx hb dX12_passes_62 (by decide) ?_
        refine lv_dup2_11 hx hb dX12_passes_63 rfl rfl ?_
        refine ziald hx hb hK hw 33 mWg32 0 (by decide) (by decide) (by decide) dX12_passes_64 (zgenE (zI.top _) (fun v4 ev4 _ => ?_))
        have hE := zletE ev4 hE
        refine lv_iconst (v := 1) hx hb dX12_passes_65 (by decide) ?_
        refine lv_iadd hx hb dX12_passes_66 (zgenE (zI.top _) (fun v5 ev5 _ => ?_))
        have hE := zletE ev5 hE
        refine ziast hx hb hK hw hS 33 mWg32 0 (by decide) (by decide) (by decide) dX12_passes_67 (mW ct h0 y (zset rw2 32 (upd (rw2 32) 0 v5)) q) mWs32 (fun H locs hw hS => ?_)
        refine mgen (P := fun x => mJ B x ∧ zFr [32] r x) hw ⟨jw2.set rfl (zI.top _), fw2.set rfl⟩ (fun r6 er6 hw pr6 => ?_)
        have hE := zletE er6 hE
        exact zvretQ hQ hx hb hr hlocks r6 rfl ⟨pr6.1, pr6.2, (hE.symm.trans hX), trivial⟩ hw hS dX12_passes_68
      · have hE := zifF c3 hE
        have k7 : zI 0 5 (w2_1) := zI.ltU (zI.nle c3) hw2_1 hv2 (by decide)
        have k8 : zI 1 6 (v2) := zI.ltD (zI.nle c3) hw2_1 hv2 (by decide)
        refine lv_aload_n hx hb dX12_passes_12 rfl (lv_at hl 0 rfl) ?_
        refine mget (v := .ref (y 6)) hx hb hts hiX12 hown hK hw 15 (by decide) lf29 rfl rfl dX12_passes_13 ?_
        refine lv_iload_n hx hb dX12_passes_16 rfl (lv_at hl 1 rfl) ?_
        refine miald hx hb hK hw 7 mWg6 k7 (by decide) dX12_passes_17 (zgenE (zI.top _) (fun v9 ev9 _ => ?_))
        have hE := zletE ev9 hE
        refine lv_iconst (v := 1) hx hb dX12_passes_18 (by decide) ?_
        refine lv_icmp_eq (tgt := 52) hx hb dX12_passes_19 (by decide) (fun c10 => ?_) (fun c10 => ?_)
        · have hE := zifT c10 hE
          have k11 : zI 1 1 (v9) := zI.eqq c10 (zI.lit (a := 1) (b := 1) (c := 1) (by decide))
          exact cut52 rw2 k7 jw2 fw2 hE H locs ls hw hS (lv_sub hl [0, 1] rfl)
        · have hE := zifF c10 hE
          refine lv_aload_n hx hb dX12_passes_22 rfl (lv_at hl 0 rfl) ?_
          refine mget (v := .ref (y 32)) hx hb hts hiX12 hown hK hw 45 (by decide) lf108 rfl rfl dX12_passes_23 ?_
          refine lv_bipush (v := 7) hx hb dX12_passes_26 (by decide) ?_
          refine lv_iload_n hx hb dX12_passes_28 rfl (lv_at hl 1 rfl) ?_
          refine lv_iadd hx hb dX12_passes_29 (zgenE (lo := 7) (hi := 12) (zI.add (zI.lit (a := 7) (b := 7) (c := 7) (by decide)) k7 (by decide)) (fun v12 ev12 hv12 => ?_))
          have hE := zletE ev12 hE
          refine lv_bipush (v := 60) hx hb dX12_passes_30 (by decide) ?_
          refine lv_aload_n hx hb dX12_passes_32 rfl (lv_at hl 0 rfl) ?_
          refine mget (v := .ref (y 32)) hx hb hts hiX12 hown hK hw 45 (by decide) lf108 rfl rfl dX12_passes_33 ?_
          refine lv_bipush (v := 7) hx hb dX12_passes_36 (by decide) ?_
          refine lv_iload_n hx hb dX12_passes_38 rfl (lv_at hl 1 rfl) ?_
          refine lv_iadd hx hb dX12_passes_39 (zgenE (lo := 7) (hi := 12) (zI.add (zI.lit (a := 7) (b := 7) (c := 7) (by decide)) k7 (by decide)) (fun v13 ev13 hv13 => ?_))
          have hE := zletE ev13 hE
          refine miald hx hb hK hw 33 mWg32 hv13 (by decide) dX12_passes_40 (zgenE (zI.top _) (fun v14 ev14 _ => ?_))
          have hE := zletE ev14 hE
          refine lv_aload_n hx hb dX12_passes_41 rfl (lv_at hl 0 rfl) ?_
          refine mget (v := .ref (y 1)) hx hb hts hiX12 hown hK hw 10 (by decide) lf13 rfl rfl dX12_passes_42 ?_
          refine lv_iconst (v := 2) hx hb dX12_passes_45 (by decide) ?_
          refine ziald hx hb hK hw 2 mWg1 2 (by decide) (by decide) (by decide) dX12_passes_46 (zgenE (zI.top _) (fun v15 ev15 _ => ?_))
          have hE := zletE ev15 hE
          refine lv_iadd hx hb dX12_passes_47 (zgenE (zI.top _) (fun v16 ev16 _ => ?_))
          have hE := zletE ev16 hE
          refine va_mmin hx hb (hml.trans hl.1.symm) hown (hts (.methodLink RX12 365 Lib.Math.min.name) (ki (zr39 13 rfl))) (hts (.static Lib.Math.min.name) (ki (zr35 17 rfl))) (hts (.initialized "java/lang/Math") (ki (zr35 18 rfl))) (hts (.code Lib.Math.min.name Lib.Math.min.code 2 (some .int)) (ki (zr35 19 rfl))) (Nat.le_of_ble_eq_true rfl) (Nat.le_of_ble_eq_true rfl) (Nat.le_of_ble_eq_true rfl) (Nat.le_of_ble_eq_true rfl) dX12_passes_48 (zgenE (zI.top _) (fun v17 ev17 _ => ?_))
          have hE := zletE ev17 hE
          refine miast hx hb hK hw hS 33 mWg32 hv12 (by decide) dX12_passes_51 (mW ct h0 y (zset rw2 32 (upd (rw2 32) (zn v12) v17)) q) mWs32 (fun H locs hw hS => ?_)
          refine mgen (P := fun x => mJ B x ∧ zFr [32] r x) hw ⟨jw2.set rfl (ms_7w hv12), fw2.set rfl⟩ (fun r18 er18 hw pr18 => ?_)
          have hE := zletE er18 hE
          exact cut52 r18 k7 pr18.1 pr18.2 hE H locs ls hw hS (lv_sub hl [0, 1] rfl)
  intro H locs hw hS ls hl
  have hl : lv_has ls 2 [(0, .ref h0)] := hl
  have hE := hX
  unfold Gm_passes at hE
  refine lv_iconst (v := 0) hx hb dX12_passes_0 (by decide) ?_
  refine lv_istore_n (lv' := [(1, .int 0), (0, .ref h0)]) hx hb dX12_passes_1 rfl hl (by decide) rfl (fun ls hl => ?_)
  exact cut2 7 0 r ((zI.lit (a := 0) (b := 0) (c := 0) (by decide)).w (c := 0) (d := 6) (by decide)) hJ0 (zFr.refl) hE (zI.m0 (zI.lit (a := 0) (b := 0) (c := 0) (by decide)) (by decide)) H locs ls hw hS (lv_sub hl [1, 0] rfl)

set_option maxHeartbeats 4000000 in
set_option maxRecDepth 100000 in
theorem mc_letThrough (l : Launch) (D : va_G) (ct : Nat → ClassId) (h0 : Nat) (y : Nat → Nat) (B : Int) (a1 : Int32) (r : zRr) (q : zRq) (g1 : zI 0 5 a1) (hJ0 : mJ B r) : zC l yX12_letThrough (.code yX12_letThrough cX12_letThrough 4 (some .int) :: wsL_law0) ({ frames := 8, cells := 0, slots := 0, locals := 360 }) D ct [] [.ref h0, .int a1] (mW ct h0 y r q) (S := Int32 × zRr) (fun u => some (.int u.1)) (fun u => zI 0 63 u.1 ∧ mJ B u.2 ∧ zFr [15, 16, 17, 18, 19, 20, 21, 22, 23, 24] r u.2 ∧ True) (fun u => mW ct h0 y u.2 q) 0 0 := by
  refine zofQ cX12_letThrough 4 (some .int) (by decide) rfl (Nat.le_of_ble_eq_true rfl) ?_
  intro p e s m below meth c A a9 Q ha9 hx hb hr hml hts hown hlocks hname hK hA hZ hN hQ
  have hown : s.vm.findClass RX12 = some m.cls := hown
  have hiX12 : ∀ w ∈ wsX120, w ∈ .code yX12_letThrough cX12_letThrough 4 (some .int) :: wsL_law0 := fun _ h => ki (zs_wsX120 _ h)
  have lf13 := hts (.fieldLink RX12 13 "BeardPassModel" "land" "[I") (ki (zr7 20 rfl))
  have lf108 := hts (.fieldLink RX12 108 "BeardPassModel" "s" "[I") (ki (zr9 4 rfl))
  have cut4 : ∀ (n : Nat) (w4_2 : Int32) (w4_3 : Int32) (rw4 : zRr) (hw4_1 : zI 0 5 a1) (hw4_2 : zI 0 63 w4_2) (hw4_3 : zI 0 6 w4_3) (jw4 : mJ B rw4) (fw4 : zFr [15, 16, 17, 18, 19, 20, 21, 22, 23, 24] r rw4), 6 - w4_3.toInt < (n : Int) → zKf p l e ({ frames := 8, cells := 0, slots := 0, locals := 360 }) s m a9 below meth c Q D A 4 4 [] (mW ct h0 y rw4 q) [(0, .ref h0), (1, .int a1), (2, .int w4_2), (3, .int w4_3)] := by
    intro n
    induction n with
    | zero => intro w4_2 w4_3 rw4 hw4_1 hw4_2 hw4_3 jw4 fw4 hm4; exact zI.no hw4_3 (by decide) hm4
    | succ n ih4 =>
      intro w4_2 w4_3 rw4 hw4_1 hw4_2 hw4_3 jw4 fw4 hm4
      have cut39 : ∀ (w39_s0 : Int32) (rw39 : zRr) (hw39_1 : zI 0 5 a1) (hw39_3 : zI 0 5 w4_3) (hw39_s0 : zI 0 39 w39_s0) (hw39_s1 : zI 0 63 w4_2) (jw39 : mJ B rw39) (fw39 : zFr [15, 16, 17, 18, 19, 20, 21, 22, 23, 24] r rw39), zKf p l e ({ frames := 8, cells := 0, slots := 0, locals := 360 }) s m a9 below meth c Q D A 39 4 [.int w39_s0, .int w4_2] (mW ct h0 y rw39 q) [(0, .ref h0), (1, .int a1), (3, .int w4_3)] := by
        intro w39_s0 rw39 hw39_1 hw39_3 hw39_s0 hw39_s1 jw39 fw39 H locs ls hw hS hl
        refine lv_ior hx hb dX12_letThrough_39 (zgen (lo := 0) (hi := 63) (zI.or 6 hw39_s1 hw39_s0 (by decide)) (fun v1 hv1 => ?_))
        refine lv_istore_n (lv' := [(2, .int v1), (0, .ref h0), (1, .int a1), (3, .int w4_3)]) hx hb dX12_letThrough_40 rfl hl (by decide) rfl (fun ls hl => ?_)
        refine lv_iinc (v := w4_3 + 1) (lv' := [(3, .int (w4_3 + 1)), (2, .int v1), (0, .ref h0), (1, .int a1)]) hx hb dX12_letThrough_41 hl (k := 3) rfl (rfl) (by decide) rfl (fun ls hl => ?_)
        have k2 : zI 1 6 (w4_3 + 1) := zI.add hw39_3 (zI.lit (a := 1) (b := 1) (by decide)) (by decide)
        refine lv_goto (tgt := 4) hx hb dX12_letThrough_44 (by decide) ?_
        exact ih4 v1 (w4_3 + 1) rw39 hw39_1 hv1 (k2.w (c := 0) (d := 6) (by decide)) jw39 fw39 (zI.up hw39_3 (by decide) hm4) H locs ls hw hS (lv_sub hl [2, 3, 1, 0] rfl)
      intro H locs ls hw hS hl
      refine lv_iload_n hx hb dX12_letThrough_4 rfl (lv_at hl 3 rfl) ?_
      refine lv_aload_n hx hb dX12_letThrough_5 rfl (lv_at hl 0 rfl) ?_
      refine mget (v := .ref (y 1)) hx hb hts hiX12 hown hK hw 10 (by decide) lf13 rfl rfl dX12_letThrough_6 ?_
      refine lv_iconst (v := 1) hx hb dX12_letThrough_9 (by decide) ?_
      refine ziald hx hb hK hw 2 mWg1 1 (by decide) (by decide) (by decide) dX12_letThrough_10 (zgen (lo := 0) (hi := 6) ((show zI 0 6 (rw4 1 1) from jw4.i 1 1)) (fun v3 hv3 => ?_))
      refine lv_icmp_ge (tgt := 47) hx hb dX12_letThrough_11 (by decide) (fun c4 => ?_) (fun c4 => ?_)
      · refine lv_iload_n hx hb dX12_letThrough_47 rfl (lv_at hl 2 rfl) ?_
        exact ziretQ hQ hx hb hr rfl hlocks (w4_2, rw4) rfl ⟨hw4_2, jw4, fw4, trivial⟩ hw hS dX12_letThrough_48
      · have k5 : zI 0 5 (w4_3) := zI.ltU (zI.nle c4) hw4_3 hv3 (by decide)
        have k6 : zI 1 6 (v3) := zI.ltD (zI.nle c4) hw4_3 hv3 (by decide)
        refine lv_iload_n hx hb dX12_letThrough_14 rfl (lv_at hl 2 rfl) ?_
        refine lv_aload_n hx hb dX12_letThrough_15 rfl (lv_at hl 0 rfl) ?_
        refine lv_iload_n hx hb dX12_letThrough_16 rfl (lv_at hl 1 rfl) ?_
        refine lv_iload_n hx hb dX12_letThrough_17 rfl (lv_at hl 3 rfl) ?_
        refine lv_aload_n hx hb dX12_letThrough_18 rfl (lv_at hl 0 rfl) ?_
        refine mget (v := .ref (y 32)) hx hb hts hiX12 hown hK hw 45 (by decide) lf108 rfl rfl dX12_letThrough_19 ?_
        refine lv_iconst (v := 1) hx hb dX12_letThrough_22 (by decide) ?_
        refine lv_iload_n hx hb dX12_letThrough_23 rfl (lv_at hl 3 rfl) ?_
        refine lv_iadd hx hb dX12_letThrough_24 (zgen (lo := 1) (hi := 6) (zI.add (zI.lit (a := 1) (b := 1) (c := 1) (by decide)) k5 (by decide)) (fun v7 hv7 => ?_))
        refine miald hx hb hK hw 33 mWg32 hv7 (by decide) dX12_letThrough_25 (zgen (lo := 0) (hi := 5) ((ms_1 jw4 hv7)) (fun v8 hv8 => ?_))
        refine mcallV (As := [.int a1, .int w4_3, .int v8]) (rest := [.int w4_2]) ⟨hx, hb, hml, hown, hts⟩ (mc_lets l D ct h0 y B a1 w4_3 v8 rw4 q hw4_1 k5 jw4) (wqX12_362_mc_lets hts ⟨Nat.le_of_ble_eq_true rfl, Nat.le_of_ble_eq_true rfl⟩) hw hS hA hK hN rfl hl.1 rfl (Nat.le_of_ble_eq_true rfl) dX12_letThrough_26 29 rfl (fun u9 H locs pu9 hw hS => ?_)
        obtain ⟨v10, r11⟩ := u9
        have hv10 : zI 0 1 v10 := pu9.1
        have ju9 : mJ B r11 := pu9.2.1
        have fu9 : zFr [15, 16, 17, 18, 19, 20, 21, 22, 23, 24] rw4 r11 := pu9.2.2.1
        have xu9 : (v10, r11) = (Gm_lets a1 w4_3 v8 rw4 q) := pu9.2.2.2.1
        have hw : zPD D A (mW ct h0 y r11 q) H := hw
        refine zfr 29 [.int v10, .int w4_2] rfl rfl ?_
        refine lv_if_eq (tgt := 38) hx hb dX12_letThrough_29 (by decide) (fun c12 => ?_) (fun c12 => ?_)
        · have k13 : zI 0 0 (v10) := zI.eqq c12 (zI.lit (a := 0) (b := 0) (c := 0) (by decide))
          refine lv_iconst (v := 0) hx hb dX12_letThrough_38 (by decide) ?_
          exact cut39 0 r11 hw4_1 k5 ((zI.lit (a := 0) (b := 0) (c := 0) (by decide)).w (c := 0) (d := 39) (by decide)) hw4_2 ju9 (fw4.tr fu9 rfl) H locs ls hw hS (lv_sub hl [0, 1, 3] rfl)
        · have k14 : zI 1 1 (v10) := zI.neD c12 hv10 (zI.lit (a := 0) (b := 0) (c := 0) (by decide)) (by decide)
          refine lv_iconst (v := 1) hx hb dX12_letThrough_32 (by decide) ?_
          refine lv_iload_n hx hb dX12_letThrough_33 rfl (lv_at hl 3 rfl) ?_
          refine lv_ishl hx hb dX12_letThrough_34 (zgen (lo := 1) (hi := 32) (zI.shl k5 5 (by decide)) (fun v15 hv15 => ?_))
          refine lv_goto (tgt := 39) hx hb dX12_letThrough_35 (by decide) ?_
          exact cut39 v15 r11 hw4_1 k5 (hv15.w (c := 0) (d := 39) (by decide)) hw4_2 ju9 (fw4.tr fu9 rfl) H locs ls hw hS (lv_sub hl [0, 1, 3] rfl)
  intro H locs hw hS ls hl
  have hl : lv_has ls 4 [(0, .ref h0), (1, .int a1)] := hl
  refine lv_iconst (v := 0) hx hb dX12_letThrough_0 (by decide) ?_
  refine lv_istore_n (lv' := [(2, .int 0), (0, .ref h0), (1, .int a1)]) hx hb dX12_letThrough_1 rfl hl (by decide) rfl (fun ls hl => ?_)
  refine lv_iconst (v := 0) hx hb dX12_letThrough_2 (by decide) ?_
  refine lv_istore_n (lv' := [(3, .int 0), (2, .int 0), (0, .ref h0), (1, .int a1)]) hx hb dX12_letThrough_3 rfl hl (by decide) rfl (fun ls hl => ?_)
  exact cut4 7 0 0 r g1 ((zI.lit (a := 0) (b := 0) (c := 0) (by decide)).w (c := 0) (d := 63) (by decide)) ((zI.lit (a := 0) (b := 0) (c := 0) (by decide)).w (c := 0) (d := 6) (by decide)) hJ0 (zFr.refl) (zI.m0 (zI.lit (a := 0) (b := 0) (c := 0) (by decide)) (by decide)) H locs ls hw hS (lv_sub hl [2, 3, 1, 0] rfl)

set_option maxHeartbeats 4000000 in
set_option maxRecDepth 100000 in
theorem mc_town (l : Launch) (D : va_G) (ct : Nat → ClassId) (h0 : Nat) (y : Nat → Nat) (B : Int) (a1 : Int32) (a2 : Int32) (r : zRr) (q : zRq) (hJ0 : mJ B r) : zC l yX12_town (.code yX12_town cX12_town 3 (some .int) :: wsL_law0) ({ frames := 9, cells := 0, slots := 0, locals := 400 }) D ct [] [.ref h0, .int a1, .int a2] (mW ct h0 y r q) (S := Int32 × zRr) (fun u => some (.int u.1)) (fun u => zI (-2147483648) 2147483647 u.1 ∧ mJ B u.2 ∧ zFr [15, 16, 17, 18, 19, 20, 21, 22, 23, 24, 100] r u.2 ∧ True) (fun u => mW ct h0 y u.2 q) 0 0 := by
  refine zofQ cX12_town 3 (some .int) (by decide) rfl (Nat.le_of_ble_eq_true rfl) ?_
  intro p e s m below meth c A a9 Q ha9 hx hb hr hml hts hown hlocks hname hK hA hZ hN hQ
  have hown : s.vm.findClass RX12 = some m.cls := hown
  have hiX12 : ∀ w ∈ wsX120, w ∈ .code yX12_town cX12_town 3 (some .int) :: wsL_law0 := fun _ h => ki (zs_wsX120 _ h)
  have lf23 := hts (.fieldLink RX12 23 "BeardPassModel" "asks" "[I") (ki (zr7 23 rfl))
  have lf26 := hts (.fieldLink RX12 26 "BeardPassModel" "roads" "[I") (ki (zr8 0 rfl))
  have lf129 := hts (.fieldLink RX12 129 "BeardPassModel" "thrown" "I") (ki (zr10 1 rfl))
  intro H locs hw hS ls hl
  have hl : lv_has ls 3 [(0, .ref h0), (1, .int a1), (2, .int a2)] := hl
  refine lv_aload_n hx hb dX12_town_0 rfl (lv_at hl 0 rfl) ?_
  refine lv_iconst (v := 0) hx hb dX12_town_1 (by decide) ?_
  refine mput (ty := .int) (v := .int 0) hx hb hts hiX12 hown hK hw hS 0 (by decide) lf129 rfl rfl (by decide +kernel) rfl rfl dX12_town_2 (zset r 100 (fun _ => (0 : Int32))) _ mWf0 (fun H locs hw hS => ?_)
  refine mgen (P := fun x => mJ B x ∧ zFr [15, 16, 17, 18, 19, 20, 21, 22, 23, 24, 100] r x) hw ⟨hJ0.setc rfl (fun _ => (zI.top _)), (zFr.refl).set rfl⟩ (fun r1 er1 hw pr1 => ?_)
  refine lv_aload_n hx hb dX12_town_5 rfl (lv_at hl 0 rfl) ?_
  refine lv_iload_n hx hb dX12_town_6 rfl (lv_at hl 1 rfl) ?_
  refine mcallV (As := [.int a1]) (rest := []) ⟨hx, hb, hml, hown, hts⟩ (mc_isTown l D ct h0 y B a1 r1 q pr1.1) (wqX12_373_mc_isTown hts ⟨Nat.le_of_ble_eq_true rfl, Nat.le_of_ble_eq_true rfl⟩) hw hS hA hK hN rfl hl.1 rfl (Nat.le_of_ble_eq_true rfl) dX12_town_7 10 rfl (fun u2 H locs pu2 hw hS => ?_)
  have hu2 : zI 0 1 u2 := pu2.1
  have yu2_0 : ¬ u2 = 0 → zI 0 5 a1 := pu2.2.1
  have xu2 : u2 = (Gm_isTown a1 r1 q) := pu2.2.2.1
  have hw : zPD D A (mW ct h0 y r1 q) H := hw
  refine zfr 10 [.int u2] rfl rfl ?_
  refine lv_if_eq (tgt := 22) hx hb dX12_town_10 (by decide) (fun c4 => ?_) (fun c4 => ?_)
  · have k5 : zI 0 0 (u2) := zI.eqq c4 (zI.lit (a := 0) (b := 0) (c := 0) (by decide))
    refine lv_iconst (v := (-1)) hx hb dX12_town_22 (by decide) ?_
    exact ziretQ hQ hx hb hr rfl hlocks ((-1), r1) rfl ⟨(zI.top _), pr1.1, pr1.2, trivial⟩ hw hS dX12_town_23
  · have k6 : zI 1 1 (u2) := zI.neD c4 hu2 (zI.lit (a := 0) (b := 0) (c := 0) (by decide)) (by decide)
    refine lv_iload_n hx hb dX12_town_13 rfl (lv_at hl 2 rfl) ?_
    refine lv_iconst (v := 0) hx hb dX12_town_14 (by decide) ?_
    refine lv_iconst (v := 2) hx hb dX12_town_15 (by decide) ?_
    refine scallE (As := [.int a2, .int 0, .int 2]) (rest := []) ⟨hx, hb, hml, hown, hts⟩ (mc_within l D ct a2 0 2) (va_cwS 3 hts (kgS (zr25 11 rfl) (zr25 12 rfl) (zr1 5 rfl) (zr25 13 rfl)) rfl rfl rfl (by decide +kernel) ⟨Nat.le_of_ble_eq_true rfl, Nat.le_of_ble_eq_true rfl⟩) hw hS hA hK hN mWn rfl hl.1 rfl (Nat.le_of_ble_eq_true rfl) dX12_town_16 19 rfl (fun u7 H locs pu7 hw hS => ?_)
    have hu7 : zI 0 1 u7 := pu7.1
    have yu7_0 : ¬ u7 = 0 → (0 : Int32) ≤ a2 ∧ a2 ≤ (2 : Int32) := pu7.2.1
    have xu7 : u7 = (Gm_within a2 (0 : Int32) (2 : Int32)) := pu7.2.2.1
    refine zfr 19 [.int u7] rfl rfl ?_
    refine lv_if_ne (tgt := 24) hx hb dX12_town_19 (by decide) (fun c9 => ?_) (fun c9 => ?_)
    · have k10 : zI 1 1 (u7) := zI.neD c9 hu7 (zI.lit (a := 0) (b := 0) (c := 0) (by decide)) (by decide)
      have k11 : zI 0 2147483647 (a2) := zI.leD (yu7_0 c9).1 (zI.lit (a := 0) (b := 0) (c := 0) (by decide)) (zI.top _) (by decide)
      have k12 : zI 0 2 (a2) := zI.leU (yu7_0 c9).2 k11 (zI.lit (a := 2) (b := 2) (c := 2) (by decide)) (by decide)
      refine lv_iload_n hx hb dX12_town_24 rfl (lv_at hl 2 rfl) ?_
      refine lv_if_ne (tgt := 37) hx hb dX12_town_25 (by decide) (fun c13 => ?_) (fun c13 => ?_)
      · have k14 : zI 1 2 (a2) := zI.neD c13 k12 (zI.lit (a := 0) (b := 0) (c := 0) (by decide)) (by decide)
        refine lv_iload_n hx hb dX12_town_37 rfl (lv_at hl 2 rfl) ?_
        refine lv_iconst (v := 1) hx hb dX12_town_38 (by decide) ?_
        refine lv_icmp_ne (tgt := 51) hx hb dX12_town_39 (by decide) (fun c15 => ?_) (fun c15 => ?_)
        · have k16 : zI 2 2 (a2) := zI.neD c15 k14 (zI.lit (a := 1) (b := 1) (c := 1) (by decide)) (by decide)
          refine lv_aload_n hx hb dX12_town_51 rfl (lv_at hl 0 rfl) ?_
          refine lv_iload_n hx hb dX12_town_52 rfl (lv_at hl 1 rfl) ?_
          refine mcallV (As := [.int a1]) (rest := []) ⟨hx, hb, hml, hown, hts⟩ (mc_letThrough l D ct h0 y B a1 r1 q (yu2_0 c4) pr1.1) (wqX12_376_mc_letThrough hts ⟨Nat.le_of_ble_eq_true rfl, Nat.le_of_ble_eq_true rfl⟩) hw hS hA hK hN rfl hl.1 rfl (Nat.le_of_ble_eq_true rfl) dX12_town_53 56 rfl (fun u17 H locs pu17 hw hS => ?_)
          obtain ⟨v18, r19⟩ := u17
          have hv18 : zI 0 63 v18 := pu17.1
          have ju17 : mJ B r19 := pu17.2.1
          have fu17 : zFr [15, 16, 17, 18, 19, 20, 21, 22, 23, 24] r1 r19 := pu17.2.2.1
          have hw : zPD D A (mW ct h0 y r19 q) H := hw
          refine zfr 56 [.int v18] rfl rfl ?_
          exact ziretQ hQ hx hb hr rfl hlocks (v18, r19) rfl ⟨(zI.top _), ju17, (pr1.2.tr fu17 rfl), trivial⟩ hw hS dX12_town_56
        · have k20 : zI 1 1 (a2) := zI.eqq c15 (zI.lit (a := 1) (b := 1) (c := 1) (by decide))
          refine lv_aload_n hx hb dX12_town_42 rfl (lv_at hl 0 rfl) ?_
          refine mget (v := .ref (y 5)) hx hb hts hiX12 hown hK hw 14 (by decide) lf26 rfl rfl dX12_town_43 ?_
          refine lv_iload_n hx hb dX12_town_46 rfl (lv_at hl 1 rfl) ?_
          refine miald hx hb hK hw 6 mWg5 (yu2_0 c4) (by decide) dX12_town_47 (zgen (zI.top _) (fun v21 _ => ?_))
          refine lv_goto (tgt := 56) hx hb dX12_town_48 (by decide) ?_
          exact ziretQ hQ hx hb hr rfl hlocks (v21, r1) rfl ⟨(zI.top _), pr1.1, pr1.2, trivial⟩ hw hS dX12_town_56
      · have k22 : zI 0 0 (a2) := zI.eqq c13 (zI.lit (a := 0) (b := 0) (c := 0) (by decide))
        refine lv_aload_n hx hb dX12_town_28 rfl (lv_at hl 0 rfl) ?_
        refine mget (v := .ref (y 4)) hx hb hts hiX12 hown hK hw 13 (by decide) lf23 rfl rfl dX12_town_29 ?_
        refine lv_iload_n hx hb dX12_town_32 rfl (lv_at hl 1 rfl) ?_
        refine miald hx hb hK hw 5 mWg4 (yu2_0 c4) (by decide) dX12_town_33 (zgen (zI.top _) (fun v23 _ => ?_))
        refine lv_goto (tgt := 56) hx hb dX12_town_34 (by decide) ?_
        exact ziretQ hQ hx hb hr rfl hlocks (v23, r1) rfl ⟨(zI.top _), pr1.1, pr1.2, trivial⟩ hw hS dX12_town_56
    · have k24 : zI 0 0 (u7) := zI.eqq c9 (zI.lit (a := 0) (b := 0) (c := 0) (by decide))
      refine lv_iconst (v := (-1)) hx hb dX12_town_22 (by decide) ?_
      exact ziretQ hQ hx hb hr rfl hlocks ((-1), r1) rfl ⟨(zI.top _), pr1.1, pr1.2, trivial⟩ hw hS dX12_town_23

noncomputable def Gm_keeps_49 (rw49 : zRr) : zRr :=
  zlet (α := zRr) (zset rw49 36 (zcp (rw49 32) (rw49 36) (0) (zn (31 * (rw49 151 0))) 31)) <| fun r2 => zlet (α := Int32) ((r2 151 0) + 1) <| fun v3 => zlet (α := zRr) (zset r2 151 (fun _ => v3)) <| fun r4 => r4
noncomputable def Bm_keeps_11 (ih11 : Int32 → zRr → zRr) (w11_1 : Int32) (rw11 : zRr) : zRr :=
  zif ((465 : Int32) ≤ w11_1) (zlet (α := Int32) ((rw11 151 0) - 1) <| fun v7 => zlet (α := zRr) (zset rw11 151 (fun _ => v7)) <| fun r8 => Gm_keeps_49 r8) (zlet (α := zRr) (zset rw11 36 (upd (rw11 36) (zn w11_1) (rw11 36 (zn (w11_1 + 31))))) <| fun r11 => ih11 (w11_1 + 1) r11)
noncomputable def Gm_keeps_11 (n : Nat) : Int32 → zRr → zRr :=
  Nat.rec (motive := fun _ => Int32 → zRr → zRr) (fun _ rw11 => rw11) (fun _ ih => Bm_keeps_11 ih) n
noncomputable def Gm_keeps (r : zRr) (q : zRq) : zRr :=
  zifn ((r 151 0) = (16 : Int32)) (Gm_keeps_49 r) (Gm_keeps_11 466 0 r)
set_option maxHeartbeats 4000000 in
set_option maxRecDepth 100000 in
theorem mc_keeps (l : Launch) (D : va_G) (ct : Nat → ClassId) (h0 : Nat) (y : Nat → Nat) (r : zRr) (q : zRq) (hJ0 : mJ 20 r) : zC l yX12_keeps (.code yX12_keeps cX12_keeps 2 none :: wsL_law0) ({ frames := 2, cells := 0, slots := 0, locals := 120 }) D ct [] [.ref h0] (mW ct h0 y r q) (S := zRr) (fun u => none) (fun u => mJ 20 u ∧ zFr [36, 151] r u ∧ u = (Gm_keeps r q) ∧ True) (fun u => mW ct h0 y u q) 0 0 := by
  refine zofQ cX12_keeps 2 none (by decide) rfl (Nat.le_of_ble_eq_true rfl) ?_
  intro p e s m below meth c A a9 Q ha9 hx hb hr hml hts hown hlocks hname hK hA hZ hN hQ
  have hown : s.vm.findClass RX12 = some m.cls := hown
  have hiX12 : ∀ w ∈ wsX120, w ∈ .code yX12_keeps cX12_keeps 2 none :: wsL_law0 := fun _ h => ki (zs_wsX120 _ h)
  have lf108 := hts (.fieldLink RX12 108 "BeardPassModel" "s" "[I") (ki (zr9 4 rfl))
  have lf120 := hts (.fieldLink RX12 120 "BeardPassModel" "undone" "[I") (ki (zr9 8 rfl))
  have lf336 := hts (.fieldLink RX12 336 "BeardPassModel" "done" "I") (ki (zr21 17 rfl))
  obtain ⟨X, hX⟩ : ∃ X, X = (Gm_keeps r q) := ⟨_, rfl⟩
  have cut49 : ∀ (rw49 : zRr) (jw49 : mJ 20 rw49) (fw49 : zFr [36, 151] r rw49) (mw49_151_0 : zI 0 15 (rw49 151 0)) (hE : X = Gm_keeps_49 rw49), zKf p l e ({ frames := 2, cells := 0, slots := 0, locals := 120 }) s m a9 below meth c Q D A 49 2 [] (mW ct h0 y rw49 q) [(0, .ref h0)] := by
    intro rw49 jw49 fw49 mw49_151_0 hE H locs ls hw hS hl
    unfold Gm_keeps_49 at hE
    refine lv_aload_n hx hb dX12_keeps_49 rfl (lv_at hl 0 rfl) ?_
    refine mget (v := .ref (y 32)) hx hb hts hiX12 hown hK hw 45 (by decide) lf108 rfl rfl dX12_keeps_50 ?_
    refine lv_iconst (v := 0) hx hb dX12_keeps_53 (by decide) ?_
    refine lv_aload_n hx hb dX12_keeps_54 rfl (lv_at hl 0 rfl) ?_
    refine mget (v := .ref (y 36)) hx hb hts hiX12 hown hK hw 49 (by decide) lf120 rfl rfl dX12_keeps_55 ?_
    refine lv_bipush (v := 31) hx hb dX12_keeps_58 (by decide) ?_
    refine lv_aload_n hx hb dX12_keeps_60 rfl (lv_at hl 0 rfl) ?_
    refine mget (v := .int (rw49 151 0)) hx hb hts hiX12 hown hK hw 51 (by decide) lf336 rfl rfl dX12_keeps_61 ?_
    refine lv_imul hx hb dX12_keeps_64 ?_
    have k1 : zI 0 465 (31 * (rw49 151 0)) := zI.mul (zI.lit (a := 31) (b := 31) (c := 31) (by decide)) mw49_151_0 (by decide)
    refine zfr 65 [.int (nI (zn (31 * (rw49 151 0)))), .ref (y 36), .int 0, .ref (y 32)] rfl (congrArg (fun x => ([.int x, .ref (y 36), .int 0, .ref (y 32)] : List Value)) (zI.ix (n := 466) k1 (by decide)).1) ?_
    refine mcp2 33 37 (As := [.ref (y 32), .int 0, .ref (y 36), .int (nI (zn (31 * (rw49 151 0))))]) (rest := []) ⟨hx, hb, hml, hown, hts⟩ (c_copies l D ct (y 32) (0) (y 36) (zn (31 * (rw49 151 0))) 31 496 (rw49 32) (rw49 36) (by decide) (by have h9 := (k1).nn (by decide); omega) (by decide) (by decide)) (va_cwS 4 hts (kgSm (zr36 17 rfl) (zr36 18 rfl) (zr1 5 rfl) mL_X12_copies) rfl rfl rfl (by decide +kernel) ⟨Nat.le_of_ble_eq_true rfl, Nat.le_of_ble_eq_true rfl⟩) hw hS hA hK hN mWg32 mWg36 rfl rfl (by decide) rfl hl.1 rfl (Nat.le_of_ble_eq_true rfl) dX12_keeps_65 mWs36 (fun _ H locs _ hw hS => ?_)
    have hw : zPD D A (mW ct h0 y (zset rw49 36 (zcp (rw49 32) (rw49 36) (0) (zn (31 * (rw49 151 0))) 31)) q) H := hw
    refine zfr 68 [] rfl rfl ?_
    refine mgen (P := fun x => mJ 20 x ∧ zFr [36, 151] r x) hw ⟨mcp_o jw49 (Or.inr ⟨Or.inr rfl, zn31 mw49_151_0 (by decide)⟩) rfl, fw49.set rfl⟩ (fun r2 er2 hw pr2 => ?_)
    have hE := zletE er2 hE
    refine lv_aload_n hx hb dX12_keeps_68 rfl (lv_at hl 0 rfl) ?_
    refine lv_dup hx hb dX12_keeps_69 rfl ?_
    refine mget (v := .int (r2 151 0)) hx hb hts hiX12 hown hK hw 51 (by decide) lf336 rfl rfl dX12_keeps_70 ?_
    refine lv_iconst (v := 1) hx hb dX12_keeps_73 (by decide) ?_
    refine lv_iadd hx hb dX12_keeps_74 (zgenE (lo := 1) (hi := 16) (zI.add (zs_at er2 mw49_151_0 (by decide)) (zI.lit (a := 1) (b := 1) (c := 1) (by decide)) (by decide)) (fun v3 ev3 hv3 => ?_))
    have hE := zletE ev3 hE
    refine mput (ty := .int) (v := .int v3) hx hb hts hiX12 hown hK hw hS 51 (by decide) lf336 rfl rfl (by decide +kernel) rfl rfl dX12_keeps_75 (zset r2 151 (fun _ => v3)) _ mWf51 (fun H locs hw hS => ?_)
    refine mgen (P := fun x => mJ 20 x ∧ zFr [36, 151] r x) hw ⟨pr2.1.setc rfl (fun _ => (hv3.w (c := 0) (d := 16) (by decide))), pr2.2.set rfl⟩ (fun r4 er4 hw pr4 => ?_)
    have hE := zletE er4 hE
    exact zvretQ hQ hx hb hr hlocks r4 rfl ⟨pr4.1, pr4.2, (hE.symm.trans hX), trivial⟩ hw hS dX12_keeps_78
  have cut11 : ∀ (n11 : Nat) (w11_1 : Int32) (rw11 : zRr) (hw11_1 : zI 0 465 w11_1) (jw11 : mJ 20 rw11) (fw11 : zFr [36, 151] r rw11) (mw11_151_0 : zI 16 16 (rw11 151 0)) (hE : X = Gm_keeps_11 n11 w11_1 rw11), 465 - w11_1.toInt < (n11 : Int) → zKf p l e ({ frames := 2, cells := 0, slots := 0, locals := 120 }) s m a9 below meth c Q D A 11 2 [] (mW ct h0 y rw11 q) [(0, .ref h0), (1, .int w11_1)] := by
    intro n11
    induction n11 with
    | zero => intro w11_1 rw11 hw11_1 jw11 fw11 mw11_151_0 hE hm11; exact zI.no hw11_1 (by decide) hm11
    | succ n11 ih11 =>
      intro w11_1 rw11 hw11_1 jw11 fw11 mw11_151_0 hE hm11
      have hE : X = Bm_keeps_11 (Gm_keeps_11 n11) w11_1 rw11 := hE
      unfold Bm_keeps_11 at hE
      intro H locs ls hw hS hl
      refine lv_iload_n hx hb dX12_keeps_11 rfl (lv_at hl 1 rfl) ?_
      refine lv_sipush (v := 465) hx hb dX12_keeps_12 (by decide) ?_
      refine lv_icmp_ge (tgt := 39) hx hb dX12_keeps_15 (by decide) (fun c5 => ?_) (fun c5 => ?_)
      · have hE := zifT c5 hE
        have k6 : zI 465 465 (w11_1) := zI.leD c5 (zI.lit (a := 465) (b := 465) (c := 465) (by decide)) hw11_1 (by decide)
        refine lv_aload_n hx hb dX12_keeps_39 rfl (lv_at hl 0 rfl) ?_
        refine lv_dup hx hb dX12_keeps_40 rfl ?_
        refine mget (v := .int (rw11 151 0)) hx hb hts hiX12 hown hK hw 51 (by decide) lf336 rfl rfl dX12_keeps_41 ?_
        refine lv_iconst (v := 1) hx hb dX12_keeps_44 (by decide) ?_
        refine lv_isub hx hb dX12_keeps_45 (zgenE (lo := 15) (hi := 15) (zI.sub mw11_151_0 (zI.lit (a := 1) (b := 1) (c := 1) (by decide)) (by decide)) (fun v7 ev7 hv7 => ?_))
        have hE := zletE ev7 hE
        refine mput (ty := .int) (v := .int v7) hx hb hts hiX12 hown hK hw hS 51 (by decide) lf336 rfl rfl (by decide +kernel) rfl rfl dX12_keeps_46 (zset rw11 151 (fun _ => v7)) _ mWf51 (fun H locs hw hS => ?_)
        refine mgen (P := fun x => mJ 20 x ∧ zFr [36, 151] r x) hw ⟨jw11.setc rfl (fun _ => (hv7.w (c := 0) (d := 16) (by decide))), fw11.set rfl⟩ (fun r8 er8 hw pr8 => ?_)
        have hE := zletE er8 hE
        exact cut49 r8 pr8.1 pr8.2 ((zs_in er8 hv7).w (c := 0) (d := 15) (by decide)) hE H locs ls hw hS (lv_sub hl [0] rfl)
      · have hE := zifF c5 hE
        have k9 : zI 0 464 (w11_1) := zI.ltU (zI.nle c5) hw11_1 (zI.lit (a := 465) (b := 465) (c := 465) (by decide)) (by decide)
        refine lv_aload_n hx hb dX12_keeps_18 rfl (lv_at hl 0 rfl) ?_
        refine mget (v := .ref (y 36)) hx hb hts hiX12 hown hK hw 49 (by decide) lf120 rfl rfl dX12_keeps_19 ?_
        refine lv_iload_n hx hb dX12_keeps_22 rfl (lv_at hl 1 rfl) ?_
        refine lv_aload_n hx hb dX12_keeps_23 rfl (lv_at hl 0 rfl) ?_
        refine mget (v := .ref (y 36)) hx hb hts hiX12 hown hK hw 49 (by decide) lf120 rfl rfl dX12_keeps_24 ?_
        refine lv_iload_n hx hb dX12_keeps_27 rfl (lv_at hl 1 rfl) ?_
        refine lv_bipush (v := 31) hx hb dX12_keeps_28 (by decide) ?_
        refine lv_iadd hx hb dX12_keeps_30 ?_
        have k10 : zI 31 495 (w11_1 + 31) := zI.add k9 (zI.lit (a := 31) (b := 31) (c := 31) (by decide)) (by decide)
        refine miald hx hb hK hw 37 mWg36 k10 (by decide) dX12_keeps_31 ?_
        refine miast hx hb hK hw hS 37 mWg36 k9 (by decide) dX12_keeps_32 (mW ct h0 y (zset rw11 36 (upd (rw11 36) (zn w11_1) (rw11 36 (zn (w11_1 + 31))))) q) mWs36 (fun H locs hw hS => ?_)
        refine mgen (P := fun x => mJ 20 x ∧ zFr [36, 151] r x) hw ⟨jw11.set rfl (mund k9 (jw11.i 36 _)), fw11.set rfl⟩ (fun r11 er11 hw pr11 => ?_)
        have hE := zletE er11 hE
        refine lv_iinc (v := w11_1 + 1) (lv' := [(1, .int (w11_1 + 1)), (0, .ref h0)]) hx hb dX12_keeps_33 hl (k := 1) rfl (rfl) (by decide) rfl (fun ls hl => ?_)
        have k12 : zI 1 465 (w11_1 + 1) := zI.add k9 (zI.lit (a := 1) (b := 1) (by decide)) (by decide)
        refine lv_goto (tgt := 11) hx hb dX12_keeps_36 (by decide) ?_
        exact ih11 (w11_1 + 1) r11 (k12.w (c := 0) (d := 465) (by decide)) pr11.1 pr11.2 (zs_at er11 mw11_151_0 (by decide)) hE (zI.up k9 (by decide) hm11) H locs ls hw hS (lv_sub hl [1, 0] rfl)
  intro H locs hw hS ls hl
  have hl : lv_has ls 2 [(0, .ref h0)] := hl
  have hE := hX
  unfold Gm_keeps at hE
  refine lv_aload_n hx hb dX12_keeps_0 rfl (lv_at hl 0 rfl) ?_
  refine mget (v := .int (r 151 0)) hx hb hts hiX12 hown hK hw 51 (by decide) lf336 rfl rfl dX12_keeps_1 ?_
  refine lv_bipush (v := 16) hx hb dX12_keeps_4 (by decide) ?_
  refine lv_icmp_ne (tgt := 49) hx hb dX12_keeps_6 (by decide) (fun c13 => ?_) (fun c13 => ?_)
  · have hE := zifnT c13 hE
    have k14 : zI 0 15 (r 151 0) := zI.neU c13 (show zI 0 16 (r 151 0) from hJ0.i 151 0) (zI.lit (a := 16) (b := 16) (c := 16) (by decide)) (by decide)
    exact cut49 r hJ0 (zFr.refl) k14 hE H locs ls hw hS (lv_sub hl [0] rfl)
  · have hE := zifnF c13 hE
    have k15 : zI 16 16 (r 151 0) := zI.eqq c13 (zI.lit (a := 16) (b := 16) (c := 16) (by decide))
    refine lv_iconst (v := 0) hx hb dX12_keeps_9 (by decide) ?_
    refine lv_istore_n (lv' := [(1, .int 0), (0, .ref h0)]) hx hb dX12_keeps_10 rfl hl (by decide) rfl (fun ls hl => ?_)
    exact cut11 466 0 r ((zI.lit (a := 0) (b := 0) (c := 0) (by decide)).w (c := 0) (d := 465) (by decide)) hJ0 (zFr.refl) k15 hE (zI.m0 (zI.lit (a := 0) (b := 0) (c := 0) (by decide)) (by decide)) H locs ls hw hS (lv_sub hl [1, 0] rfl)

noncomputable def Gm_go (a1 : Int32) (a2 : Int32) (r : zRr) (q : zRq) : Int32 × zRr :=
  zlet (α := zRr) (zset r 100 (fun _ => (0 : Int32))) <| fun r1 => zlet (α := Int32) ((Gm_isPerson a1 r1 q)) <| fun u2 => zif (u2 = (0 : Int32)) (((0 : Int32), r1)) (zlet (α := Int32) ((Gm_isTown a2 r1 q)) <| fun u7 => zif (u7 = (0 : Int32)) (((0 : Int32), r1)) (zc_vr (Gm_canGo a1 a2 r1 q) <| fun v13 r14 => zifn (v13 = (0 : Int32)) (zlet (α := zRr) ((Gm_keeps r14 q)) <| fun u17 => zlet (α := zRr) ((Gm_goes a1 a2 u17 q)) <| fun u19 => ((1 : Int32), u19)) (((0 : Int32), r14))))
set_option maxHeartbeats 4000000 in
set_option maxRecDepth 100000 in
theorem mc_go (l : Launch) (D : va_G) (ct : Nat → ClassId) (h0 : Nat) (y : Nat → Nat) (a1 : Int32) (a2 : Int32) (r : zRr) (q : zRq) (hJ0 : mJ 20 r) : zC l yX12_go (.code yX12_go cX12_go 3 (some .boolean) :: wsL_law0) ({ frames := 9, cells := 0, slots := 0, locals := 400 }) D ct [] [.ref h0, .int a1, .int a2] (mW ct h0 y r q) (S := Int32 × zRr) (fun u => some (.int u.1)) (fun u => zI 0 1 u.1 ∧ mJ 20 u.2 ∧ zFr [15, 16, 17, 18, 19, 20, 21, 22, 23, 24, 100, 36, 151, 32] r u.2 ∧ u = (Gm_go a1 a2 r q) ∧ True) (fun u => mW ct h0 y u.2 q) 0 0 := by
  refine zofQ cX12_go 3 (some .boolean) (by decide) rfl (Nat.le_of_ble_eq_true rfl) ?_
  intro p e s m below meth c A a9 Q ha9 hx hb hr hml hts hown hlocks hname hK hA hZ hN hQ
  have hown : s.vm.findClass RX12 = some m.cls := hown
  have hiX12 : ∀ w ∈ wsX120, w ∈ .code yX12_go cX12_go 3 (some .boolean) :: wsL_law0 := fun _ h => ki (zs_wsX120 _ h)
  have lf129 := hts (.fieldLink RX12 129 "BeardPassModel" "thrown" "I") (ki (zr10 1 rfl))
  obtain ⟨X, hX⟩ : ∃ X, X = (Gm_go a1 a2 r q) := ⟨_, rfl⟩
  intro H locs hw hS ls hl
  have hl : lv_has ls 3 [(0, .ref h0), (1, .int a1), (2, .int a2)] := hl
  have hE := hX
  unfold Gm_go at hE
  refine lv_aload_n hx hb dX12_go_0 rfl (lv_at hl 0 rfl) ?_
  refine lv_iconst (v := 0) hx hb dX12_go_1 (by decide) ?_
  refine mput (ty := .int) (v := .int 0) hx hb hts hiX12 hown hK hw hS 0 (by decide) lf129 rfl rfl (by decide +kernel) rfl rfl dX12_go_2 (zset r 100 (fun _ => (0 : Int32))) _ mWf0 (fun H locs hw hS => ?_)
  refine mgen (P := fun x => mJ 20 x ∧ zFr [15, 16, 17, 18, 19, 20, 21, 22, 23, 24, 100, 36, 151, 32] r x) hw ⟨hJ0.setc rfl (fun _ => (zI.top _)), (zFr.refl).set rfl⟩ (fun r1 er1 hw pr1 => ?_)
  have hE := zletE er1 hE
  refine lv_aload_n hx hb dX12_go_5 rfl (lv_at hl 0 rfl) ?_
  refine lv_iload_n hx hb dX12_go_6 rfl (lv_at hl 1 rfl) ?_
  refine mcallV (As := [.int a1]) (rest := []) ⟨hx, hb, hml, hown, hts⟩ (mc_isPerson l D ct h0 y 20 a1 r1 q pr1.1) (wqX12_370_mc_isPerson hts ⟨Nat.le_of_ble_eq_true rfl, Nat.le_of_ble_eq_true rfl⟩) hw hS hA hK hN rfl hl.1 rfl (Nat.le_of_ble_eq_true rfl) dX12_go_7 10 rfl (fun u2 H locs pu2 hw hS => ?_)
  have hu2 : zI 0 1 u2 := pu2.1
  have yu2_0 : ¬ u2 = 0 → zI 0 5 a1 := pu2.2.1
  have xu2 : u2 = (Gm_isPerson a1 r1 q) := pu2.2.2.1
  have hE := zletE xu2 hE
  have hw : zPD D A (mW ct h0 y r1 q) H := hw
  refine zfr 10 [.int u2] rfl rfl ?_
  refine lv_if_eq (tgt := 30) hx hb dX12_go_10 (by decide) (fun c4 => ?_) (fun c4 => ?_)
  · have hE := zifT c4 hE
    have k5 : zI 0 0 (u2) := zI.eqq c4 (zI.lit (a := 0) (b := 0) (c := 0) (by decide))
    refine lv_iconst (v := 0) hx hb dX12_go_30 (by decide) ?_
    exact ziretQ hQ hx hb hr rfl hlocks (0, r1) rfl ⟨((zI.lit (a := 0) (b := 0) (c := 0) (by decide)).w (c := 0) (d := 1) (by decide)), pr1.1, pr1.2, (hE.symm.trans hX), trivial⟩ hw hS dX12_go_31
  · have hE := zifF c4 hE
    have k6 : zI 1 1 (u2) := zI.neD c4 hu2 (zI.lit (a := 0) (b := 0) (c := 0) (by decide)) (by decide)
    refine lv_aload_n hx hb dX12_go_13 rfl (lv_at hl 0 rfl) ?_
    refine lv_iload_n hx hb dX12_go_14 rfl (lv_at hl 2 rfl) ?_
    refine mcallV (As := [.int a2]) (rest := []) ⟨hx, hb, hml, hown, hts⟩ (mc_isTown l D ct h0 y 20 a2 r1 q pr1.1) (wqX12_373_mc_isTown hts ⟨Nat.le_of_ble_eq_true rfl, Nat.le_of_ble_eq_true rfl⟩) hw hS hA hK hN rfl hl.1 rfl (Nat.le_of_ble_eq_true rfl) dX12_go_15 18 rfl (fun u7 H locs pu7 hw hS => ?_)
    have hu7 : zI 0 1 u7 := pu7.1
    have yu7_0 : ¬ u7 = 0 → zI 0 5 a2 := pu7.2.1
    have xu7 : u7 = (Gm_isTown a2 r1 q) := pu7.2.2.1
    have hE := zletE xu7 hE
    have hw : zPD D A (mW ct h0 y r1 q) H := hw
    refine zfr 18 [.int u7] rfl rfl ?_
    refine lv_if_eq (tgt := 30) hx hb dX12_go_18 (by decide) (fun c9 => ?_) (fun c9 => ?_)
    · have hE := zifT c9 hE
      have k10 : zI 0 0 (u7) := zI.eqq c9 (zI.lit (a := 0) (b := 0) (c := 0) (by decide))
      refine lv_iconst (v := 0) hx hb dX12_go_30 (by decide) ?_
      exact ziretQ hQ hx hb hr rfl hlocks (0, r1) rfl ⟨((zI.lit (a := 0) (b := 0) (c := 0) (by decide)).w (c := 0) (d := 1) (by decide)), pr1.1, pr1.2, (hE.symm.trans hX), trivial⟩ hw hS dX12_go_31
    · have hE := zifF c9 hE
      have k11 : zI 1 1 (u7) := zI.neD c9 hu7 (zI.lit (a := 0) (b := 0) (c := 0) (by decide)) (by decide)
      refine lv_aload_n hx hb dX12_go_21 rfl (lv_at hl 0 rfl) ?_
      refine lv_iload_n hx hb dX12_go_22 rfl (lv_at hl 1 rfl) ?_
      refine lv_iload_n hx hb dX12_go_23 rfl (lv_at hl 2 rfl) ?_
      refine mcallV (As := [.int a1, .int a2]) (rest := []) ⟨hx, hb, hml, hown, hts⟩ (mc_canGo l D ct h0 y 20 a1 a2 r1 q (yu2_0 c4) (yu7_0 c9) pr1.1) (wqX12_383_mc_canGo hts ⟨Nat.le_of_ble_eq_true rfl, Nat.le_of_ble_eq_true rfl⟩) hw hS hA hK hN rfl hl.1 rfl (Nat.le_of_ble_eq_true rfl) dX12_go_24 27 rfl (fun u12 H locs pu12 hw hS => ?_)
      obtain ⟨v13, r14⟩ := u12
      have hv13 : zI 0 1 v13 := pu12.1
      have ju12 : mJ 20 r14 := pu12.2.1
      have fu12 : zFr [15, 16, 17, 18, 19, 20, 21, 22, 23, 24] r1 r14 := pu12.2.2.1
      have xu12 : (v13, r14) = (Gm_canGo a1 a2 r1 q) := pu12.2.2.2.1
      have hE := zc_vrE xu12 hE
      have hw : zPD D A (mW ct h0 y r14 q) H := hw
      refine zfr 27 [.int v13] rfl rfl ?_
      refine lv_if_ne (tgt := 32) hx hb dX12_go_27 (by decide) (fun c15 => ?_) (fun c15 => ?_)
      · have hE := zifnT c15 hE
        have k16 : zI 1 1 (v13) := zI.neD c15 hv13 (zI.lit (a := 0) (b := 0) (c := 0) (by decide)) (by decide)
        refine lv_aload_n hx hb dX12_go_32 rfl (lv_at hl 0 rfl) ?_
        refine mcallV (As := []) (rest := []) ⟨hx, hb, hml, hown, hts⟩ (mc_keeps l D ct h0 y r14 q ju12) (wqX12_386_mc_keeps hts ⟨Nat.le_of_ble_eq_true rfl, Nat.le_of_ble_eq_true rfl⟩) hw hS hA hK hN rfl hl.1 rfl (Nat.le_of_ble_eq_true rfl) dX12_go_33 36 rfl (fun u17 H locs pu17 hw hS => ?_)
        have ju17 : mJ 20 u17 := pu17.1
        have fu17 : zFr [36, 151] r14 u17 := pu17.2.1
        have xu17 : u17 = (Gm_keeps r14 q) := pu17.2.2.1
        have hE := zletE xu17 hE
        have hw : zPD D A (mW ct h0 y u17 q) H := hw
        refine zfr 36 [] rfl rfl ?_
        refine lv_aload_n hx hb dX12_go_36 rfl (lv_at hl 0 rfl) ?_
        refine lv_iload_n hx hb dX12_go_37 rfl (lv_at hl 1 rfl) ?_
        refine lv_iload_n hx hb dX12_go_38 rfl (lv_at hl 2 rfl) ?_
        refine mcallV (As := [.int a1, .int a2]) (rest := []) ⟨hx, hb, hml, hown, hts⟩ (mc_goes l D ct h0 y 20 a1 a2 u17 q (yu2_0 c4) (yu7_0 c9) ju17) (wqX12_389_mc_goes hts ⟨Nat.le_of_ble_eq_true rfl, Nat.le_of_ble_eq_true rfl⟩) hw hS hA hK hN rfl hl.1 rfl (Nat.le_of_ble_eq_true rfl) dX12_go_39 42 rfl (fun u19 H locs pu19 hw hS => ?_)
        have ju19 : mJ 20 u19 := pu19.1
        have fu19 : zFr [32] u17 u19 := pu19.2.1
        have xu19 : u19 = (Gm_goes a1 a2 u17 q) := pu19.2.2.1
        have hE := zletE xu19 hE
        have hw : zPD D A (mW ct h0 y u19 q) H := hw
        refine zfr 42 [] rfl rfl ?_
        refine lv_iconst (v := 1) hx hb dX12_go_42 (by decide) ?_
        exact ziretQ hQ hx hb hr rfl hlocks (1, u19) rfl ⟨((zI.lit (a := 1) (b := 1) (c := 1) (by decide)).w (c := 0) (d := 1) (by decide)), ju19, (((pr1.2.tr fu12 rfl).tr fu17 rfl).tr fu19 rfl), (hE.symm.trans hX), trivial⟩ hw hS dX12_go_43
      · have hE := zifnF c15 hE
        have k21 : zI 0 0 (v13) := zI.eqq c15 (zI.lit (a := 0) (b := 0) (c := 0) (by decide))
        refine lv_iconst (v := 0) hx hb dX12_go_30 (by decide) ?_
        exact ziretQ hQ hx hb hr rfl hlocks (0, r14) rfl ⟨((zI.lit (a := 0) (b := 0) (c := 0) (by decide)).w (c := 0) (d := 1) (by decide)), ju12, (pr1.2.tr fu12 rfl), (hE.symm.trans hX), trivial⟩ hw hS dX12_go_31

noncomputable def Gm_forge (a1 : Int32) (a2 : Int32) (r : zRr) (q : zRq) : Int32 × zRr :=
  zlet (α := zRr) (zset r 100 (fun _ => (0 : Int32))) <| fun r1 => zlet (α := Int32) ((Gm_isPerson a1 r1 q)) <| fun u2 => zif (u2 = (0 : Int32)) ((((-1) : Int32), r1)) (zlet (α := Int32) ((Gm_within a2 (1 : Int32) (20 : Int32))) <| fun u7 => zif (u7 = (0 : Int32)) ((((-1) : Int32), r1)) (zlet (α := Int32) ((Gm_canForge a1 a2 r1 q)) <| fun u14 => zifn (u14 = (0 : Int32)) (zlet (α := zRr) ((Gm_keeps r1 q)) <| fun u18 => zlet (α := zRr) ((Gm_forges a1 a2 u18 q)) <| fun u20 => zlet (α := Int32) (19 + a1) <| fun v22 => zlet (α := Int32) (u20 32 (zn v22)) <| fun v23 => (v23, u20)) ((((-1) : Int32), r1))))
set_option maxHeartbeats 4000000 in
set_option maxRecDepth 100000 in
theorem mc_forge (l : Launch) (D : va_G) (ct : Nat → ClassId) (h0 : Nat) (y : Nat → Nat) (a1 : Int32) (a2 : Int32) (r : zRr) (q : zRq) (hJ0 : mJ 20 r) : zC l yX12_forge (.code yX12_forge cX12_forge 3 (some .int) :: wsL_law0) ({ frames := 3, cells := 0, slots := 0, locals := 160 }) D ct [] [.ref h0, .int a1, .int a2] (mW ct h0 y r q) (S := Int32 × zRr) (fun u => some (.int u.1)) (fun u => zI (-2147483648) 2147483647 u.1 ∧ mJ 20 u.2 ∧ zFr [100, 36, 151, 32] r u.2 ∧ u = (Gm_forge a1 a2 r q) ∧ True) (fun u => mW ct h0 y u.2 q) 0 0 := by
  refine zofQ cX12_forge 3 (some .int) (by decide) rfl (Nat.le_of_ble_eq_true rfl) ?_
  intro p e s m below meth c A a9 Q ha9 hx hb hr hml hts hown hlocks hname hK hA hZ hN hQ
  have hown : s.vm.findClass RX12 = some m.cls := hown
  have hiX12 : ∀ w ∈ wsX120, w ∈ .code yX12_forge cX12_forge 3 (some .int) :: wsL_law0 := fun _ h => ki (zs_wsX120 _ h)
  have lf108 := hts (.fieldLink RX12 108 "BeardPassModel" "s" "[I") (ki (zr9 4 rfl))
  have lf129 := hts (.fieldLink RX12 129 "BeardPassModel" "thrown" "I") (ki (zr10 1 rfl))
  obtain ⟨X, hX⟩ : ∃ X, X = (Gm_forge a1 a2 r q) := ⟨_, rfl⟩
  intro H locs hw hS ls hl
  have hl : lv_has ls 3 [(0, .ref h0), (1, .int a1), (2, .int a2)] := hl
  have hE := hX
  unfold Gm_forge at hE
  refine lv_aload_n hx hb dX12_forge_0 rfl (lv_at hl 0 rfl) ?_
  refine lv_iconst (v := 0) hx hb dX12_forge_1 (by decide) ?_
  refine mput (ty := .int) (v := .int 0) hx hb hts hiX12 hown hK hw hS 0 (by decide) lf129 rfl rfl (by decide +kernel) rfl rfl dX12_forge_2 (zset r 100 (fun _ => (0 : Int32))) _ mWf0 (fun H locs hw hS => ?_)
  refine mgen (P := fun x => mJ 20 x ∧ zFr [100, 36, 151, 32] r x) hw ⟨hJ0.setc rfl (fun _ => (zI.top _)), (zFr.refl).set rfl⟩ (fun r1 er1 hw pr1 => ?_)
  have hE := zletE er1 hE
  refine lv_aload_n hx hb dX12_forge_5 rfl (lv_at hl 0 rfl) ?_
  refine lv_iload_n hx hb dX12_forge_6 rfl (lv_at hl 1 rfl) ?_
  refine mcallV (As := [.int a1]) (rest := []) ⟨hx, hb, hml, hown, hts⟩ (mc_isPerson l D ct h0 y 20 a1 r1 q pr1.1) (wqX12_370_mc_isPerson hts ⟨Nat.le_of_ble_eq_true rfl, Nat.le_of_ble_eq_true rfl⟩) hw hS hA hK hN rfl hl.1 rfl (Nat.le_of_ble_eq_true rfl) dX12_forge_7 10 rfl (fun u2 H locs pu2 hw hS => ?_)
  have hu2 : zI 0 1 u2 := pu2.1
  have yu2_0 : ¬ u2 = 0 → zI 0 5 a1 := pu2.2.1
  have xu2 : u2 = (Gm_isPerson a1 r1 q) := pu2.2.2.1
  have hE := zletE xu2 hE
  have hw : zPD D A (mW ct h0 y r1 q) H := hw
  refine zfr 10 [.int u2] rfl rfl ?_
  refine lv_if_eq (tgt := 32) hx hb dX12_forge_10 (by decide) (fun c4 => ?_) (fun c4 => ?_)
  · have hE := zifT c4 hE
    have k5 : zI 0 0 (u2) := zI.eqq c4 (zI.lit (a := 0) (b := 0) (c := 0) (by decide))
    refine lv_iconst (v := (-1)) hx hb dX12_forge_32 (by decide) ?_
    exact ziretQ hQ hx hb hr rfl hlocks ((-1), r1) rfl ⟨(zI.top _), pr1.1, pr1.2, (hE.symm.trans hX), trivial⟩ hw hS dX12_forge_33
  · have hE := zifF c4 hE
    have k6 : zI 1 1 (u2) := zI.neD c4 hu2 (zI.lit (a := 0) (b := 0) (c := 0) (by decide)) (by decide)
    refine lv_iload_n hx hb dX12_forge_13 rfl (lv_at hl 2 rfl) ?_
    refine lv_iconst (v := 1) hx hb dX12_forge_14 (by decide) ?_
    refine lv_bipush (v := 20) hx hb dX12_forge_15 (by decide) ?_
    refine scallE (As := [.int a2, .int 1, .int 20]) (rest := []) ⟨hx, hb, hml, hown, hts⟩ (mc_within l D ct a2 1 20) (va_cwS 3 hts (kgS (zr25 11 rfl) (zr25 12 rfl) (zr1 5 rfl) (zr25 13 rfl)) rfl rfl rfl (by decide +kernel) ⟨Nat.le_of_ble_eq_true rfl, Nat.le_of_ble_eq_true rfl⟩) hw hS hA hK hN mWn rfl hl.1 rfl (Nat.le_of_ble_eq_true rfl) dX12_forge_17 20 rfl (fun u7 H locs pu7 hw hS => ?_)
    have hu7 : zI 0 1 u7 := pu7.1
    have yu7_0 : ¬ u7 = 0 → (1 : Int32) ≤ a2 ∧ a2 ≤ (20 : Int32) := pu7.2.1
    have xu7 : u7 = (Gm_within a2 (1 : Int32) (20 : Int32)) := pu7.2.2.1
    have hE := zletE xu7 hE
    refine zfr 20 [.int u7] rfl rfl ?_
    refine lv_if_eq (tgt := 32) hx hb dX12_forge_20 (by decide) (fun c9 => ?_) (fun c9 => ?_)
    · have hE := zifT c9 hE
      have k10 : zI 0 0 (u7) := zI.eqq c9 (zI.lit (a := 0) (b := 0) (c := 0) (by decide))
      refine lv_iconst (v := (-1)) hx hb dX12_forge_32 (by decide) ?_
      exact ziretQ hQ hx hb hr rfl hlocks ((-1), r1) rfl ⟨(zI.top _), pr1.1, pr1.2, (hE.symm.trans hX), trivial⟩ hw hS dX12_forge_33
    · have hE := zifF c9 hE
      have k11 : zI 1 1 (u7) := zI.neD c9 hu7 (zI.lit (a := 0) (b := 0) (c := 0) (by decide)) (by decide)
      have k12 : zI 1 2147483647 (a2) := zI.leD (yu7_0 c9).1 (zI.lit (a := 1) (b := 1) (c := 1) (by decide)) (zI.top _) (by decide)
      have k13 : zI 1 20 (a2) := zI.leU (yu7_0 c9).2 k12 (zI.lit (a := 20) (b := 20) (c := 20) (by decide)) (by decide)
      refine lv_aload_n hx hb dX12_forge_23 rfl (lv_at hl 0 rfl) ?_
      refine lv_iload_n hx hb dX12_forge_24 rfl (lv_at hl 1 rfl) ?_
      refine lv_iload_n hx hb dX12_forge_25 rfl (lv_at hl 2 rfl) ?_
      refine mcallV (As := [.int a1, .int a2]) (rest := []) ⟨hx, hb, hml, hown, hts⟩ (mc_canForge l D ct h0 y 20 a1 a2 r1 q (yu2_0 c4) (k13.w (c := 0) (d := 9999) (by decide)) pr1.1) (wqX12_392_mc_canForge hts ⟨Nat.le_of_ble_eq_true rfl, Nat.le_of_ble_eq_true rfl⟩) hw hS hA hK hN rfl hl.1 rfl (Nat.le_of_ble_eq_true rfl) dX12_forge_26 29 rfl (fun u14 H locs pu14 hw hS => ?_)
      have hu14 : zI 0 1 u14 := pu14.1
      have yu14_0 : ¬ u14 = 0 → zI 0 20 (r1 32 (zn (13 + a1)) + a2) := pu14.2.1
      have xu14 : u14 = (Gm_canForge a1 a2 r1 q) := pu14.2.2.1
      have hE := zletE xu14 hE
      have hw : zPD D A (mW ct h0 y r1 q) H := hw
      refine zfr 29 [.int u14] rfl rfl ?_
      refine lv_if_ne (tgt := 34) hx hb dX12_forge_29 (by decide) (fun c16 => ?_) (fun c16 => ?_)
      · have hE := zifnT c16 hE
        have k17 : zI 1 1 (u14) := zI.neD c16 hu14 (zI.lit (a := 0) (b := 0) (c := 0) (by decide)) (by decide)
        refine lv_aload_n hx hb dX12_forge_34 rfl (lv_at hl 0 rfl) ?_
        refine mcallV (As := []) (rest := []) ⟨hx, hb, hml, hown, hts⟩ (mc_keeps l D ct h0 y r1 q pr1.1) (wqX12_386_mc_keeps hts ⟨Nat.le_of_ble_eq_true rfl, Nat.le_of_ble_eq_true rfl⟩) hw hS hA hK hN rfl hl.1 rfl (Nat.le_of_ble_eq_true rfl) dX12_forge_35 38 rfl (fun u18 H locs pu18 hw hS => ?_)
        have ju18 : mJ 20 u18 := pu18.1
        have fu18 : zFr [36, 151] r1 u18 := pu18.2.1
        have xu18 : u18 = (Gm_keeps r1 q) := pu18.2.2.1
        have hE := zletE xu18 hE
        have hw : zPD D A (mW ct h0 y u18 q) H := hw
        refine zfr 38 [] rfl rfl ?_
        refine lv_aload_n hx hb dX12_forge_38 rfl (lv_at hl 0 rfl) ?_
        refine lv_iload_n hx hb dX12_forge_39 rfl (lv_at hl 1 rfl) ?_
        refine lv_iload_n hx hb dX12_forge_40 rfl (lv_at hl 2 rfl) ?_
        refine mcallV (As := [.int a1, .int a2]) (rest := []) ⟨hx, hb, hml, hown, hts⟩ (mc_forges l D ct h0 y 20 a1 a2 u18 q (yu2_0 c4) (k13.w (c := 0) (d := 9999) (by decide)) ju18 (by rw [(fu18 32 rfl)]; exact yu14_0 c16)) (wqX12_395_mc_forges hts ⟨Nat.le_of_ble_eq_true rfl, Nat.le_of_ble_eq_true rfl⟩) hw hS hA hK hN rfl hl.1 rfl (Nat.le_of_ble_eq_true rfl) dX12_forge_41 44 rfl (fun u20 H locs pu20 hw hS => ?_)
        have ju20 : mJ 20 u20 := pu20.1
        have fu20 : zFr [32] u18 u20 := pu20.2.1
        have xu20 : u20 = (Gm_forges a1 a2 u18 q) := pu20.2.2.1
        have hE := zletE xu20 hE
        have hw : zPD D A (mW ct h0 y u20 q) H := hw
        refine zfr 44 [] rfl rfl ?_
        refine lv_aload_n hx hb dX12_forge_44 rfl (lv_at hl 0 rfl) ?_
        refine mget (v := .ref (y 32)) hx hb hts hiX12 hown hK hw 45 (by decide) lf108 rfl rfl dX12_forge_45 ?_
        refine lv_bipush (v := 19) hx hb dX12_forge_48 (by decide) ?_
        refine lv_iload_n hx hb dX12_forge_50 rfl (lv_at hl 1 rfl) ?_
        refine lv_iadd hx hb dX12_forge_51 (zgenE (lo := 19) (hi := 24) (zI.add (zI.lit (a := 19) (b := 19) (c := 19) (by decide)) (yu2_0 c4) (by decide)) (fun v22 ev22 hv22 => ?_))
        have hE := zletE ev22 hE
        refine miald hx hb hK hw 33 mWg32 hv22 (by decide) dX12_forge_52 (zgenE (zI.top _) (fun v23 ev23 _ => ?_))
        have hE := zletE ev23 hE
        exact ziretQ hQ hx hb hr rfl hlocks (v23, u20) rfl ⟨(zI.top _), ju20, ((pr1.2.tr fu18 rfl).tr fu20 rfl), (hE.symm.trans hX), trivial⟩ hw hS dX12_forge_53
      · have hE := zifnF c16 hE
        have k24 : zI 0 0 (u14) := zI.eqq c16 (zI.lit (a := 0) (b := 0) (c := 0) (by decide))
        refine lv_iconst (v := (-1)) hx hb dX12_forge_32 (by decide) ?_
        exact ziretQ hQ hx hb hr rfl hlocks ((-1), r1) rfl ⟨(zI.top _), pr1.1, pr1.2, (hE.symm.trans hX), trivial⟩ hw hS dX12_forge_33

noncomputable def Gm_shave (a1 : Int32) (r : zRr) (q : zRq) : Int32 × zRr :=
  zlet (α := zRr) (zset r 100 (fun _ => (0 : Int32))) <| fun r1 => zlet (α := Int32) ((Gm_isPerson a1 r1 q)) <| fun u2 => zifn (u2 = (0 : Int32)) (zlet (α := zRr) ((Gm_keeps r1 q)) <| fun u6 => zlet (α := zRr) ((Gm_shaves a1 u6 q)) <| fun u8 => ((1 : Int32), u8)) (((0 : Int32), r1))
set_option maxHeartbeats 4000000 in
set_option maxRecDepth 100000 in
theorem mc_shave (l : Launch) (D : va_G) (ct : Nat → ClassId) (h0 : Nat) (y : Nat → Nat) (a1 : Int32) (r : zRr) (q : zRq) (hJ0 : mJ 20 r) : zC l yX12_shave (.code yX12_shave cX12_shave 2 (some .boolean) :: wsL_law0) ({ frames := 3, cells := 0, slots := 0, locals := 160 }) D ct [] [.ref h0, .int a1] (mW ct h0 y r q) (S := Int32 × zRr) (fun u => some (.int u.1)) (fun u => zI 0 1 u.1 ∧ mJ 20 u.2 ∧ zFr [100, 36, 151, 32] r u.2 ∧ u = (Gm_shave a1 r q) ∧ True) (fun u => mW ct h0 y u.2 q) 0 0 := by
  refine zofQ cX12_shave 2 (some .boolean) (by decide) rfl (Nat.le_of_ble_eq_true rfl) ?_
  intro p e s m below meth c A a9 Q ha9 hx hb hr hml hts hown hlocks hname hK hA hZ hN hQ
  have hown : s.vm.findClass RX12 = some m.cls := hown
  have hiX12 : ∀ w ∈ wsX120, w ∈ .code yX12_shave cX12_shave 2 (some .boolean) :: wsL_law0 := fun _ h => ki (zs_wsX120 _ h)
  have lf129 := hts (.fieldLink RX12 129 "BeardPassModel" "thrown" "I") (ki (zr10 1 rfl))
  obtain ⟨X, hX⟩ : ∃ X, X = (Gm_shave a1 r q) := ⟨_, rfl⟩
  intro H locs hw hS ls hl
  have hl : lv_has ls 2 [(0, .ref h0), (1, .int a1)] := hl
  have hE := hX
  unfold Gm_shave at hE
  refine lv_aload_n hx hb dX12_shave_0 rfl (lv_at hl 0 rfl) ?_
  refine lv_iconst (v := 0) hx hb dX12_shave_1 (by decide) ?_
  refine mput (ty := .int) (v := .int 0) hx hb hts hiX12 hown hK hw hS 0 (by decide) lf129 rfl rfl (by decide +kernel) rfl rfl dX12_shave_2 (zset r 100 (fun _ => (0 : Int32))) _ mWf0 (fun H locs hw hS => ?_)
  refine mgen (P := fun x => mJ 20 x ∧ zFr [100, 36, 151, 32] r x) hw ⟨hJ0.setc rfl (fun _ => (zI.top _)), (zFr.refl).set rfl⟩ (fun r1 er1 hw pr1 => ?_)
  have hE := zletE er1 hE
  refine lv_aload_n hx hb dX12_shave_5 rfl (lv_at hl 0 rfl) ?_
  refine lv_iload_n hx hb dX12_shave_6 rfl (lv_at hl 1 rfl) ?_
  refine mcallV (As := [.int a1]) (rest := []) ⟨hx, hb, hml, hown, hts⟩ (mc_isPerson l D ct h0 y 20 a1 r1 q pr1.1) (wqX12_370_mc_isPerson hts ⟨Nat.le_of_ble_eq_true rfl, Nat.le_of_ble_eq_true rfl⟩) hw hS hA hK hN rfl hl.1 rfl (Nat.le_of_ble_eq_true rfl) dX12_shave_7 10 rfl (fun u2 H locs pu2 hw hS => ?_)
  have hu2 : zI 0 1 u2 := pu2.1
  have yu2_0 : ¬ u2 = 0 → zI 0 5 a1 := pu2.2.1
  have xu2 : u2 = (Gm_isPerson a1 r1 q) := pu2.2.2.1
  have hE := zletE xu2 hE
  have hw : zPD D A (mW ct h0 y r1 q) H := hw
  refine zfr 10 [.int u2] rfl rfl ?_
  refine lv_if_ne (tgt := 15) hx hb dX12_shave_10 (by decide) (fun c4 => ?_) (fun c4 => ?_)
  · have hE := zifnT c4 hE
    have k5 : zI 1 1 (u2) := zI.neD c4 hu2 (zI.lit (a := 0) (b := 0) (c := 0) (by decide)) (by decide)
    refine lv_aload_n hx hb dX12_shave_15 rfl (lv_at hl 0 rfl) ?_
    refine mcallV (As := []) (rest := []) ⟨hx, hb, hml, hown, hts⟩ (mc_keeps l D ct h0 y r1 q pr1.1) (wqX12_386_mc_keeps hts ⟨Nat.le_of_ble_eq_true rfl, Nat.le_of_ble_eq_true rfl⟩) hw hS hA hK hN rfl hl.1 rfl (Nat.le_of_ble_eq_true rfl) dX12_shave_16 19 rfl (fun u6 H locs pu6 hw hS => ?_)
    have ju6 : mJ 20 u6 := pu6.1
    have fu6 : zFr [36, 151] r1 u6 := pu6.2.1
    have xu6 : u6 = (Gm_keeps r1 q) := pu6.2.2.1
    have hE := zletE xu6 hE
    have hw : zPD D A (mW ct h0 y u6 q) H := hw
    refine zfr 19 [] rfl rfl ?_
    refine lv_aload_n hx hb dX12_shave_19 rfl (lv_at hl 0 rfl) ?_
    refine lv_iload_n hx hb dX12_shave_20 rfl (lv_at hl 1 rfl) ?_
    refine mcallV (As := [.int a1]) (rest := []) ⟨hx, hb, hml, hown, hts⟩ (mc_shaves l D ct h0 y 20 a1 u6 q (yu2_0 c4) ju6) (wqX12_398_mc_shaves hts ⟨Nat.le_of_ble_eq_true rfl, Nat.le_of_ble_eq_true rfl⟩) hw hS hA hK hN rfl hl.1 rfl (Nat.le_of_ble_eq_true rfl) dX12_shave_21 24 rfl (fun u8 H locs pu8 hw hS => ?_)
    have ju8 : mJ 20 u8 := pu8.1
    have fu8 : zFr [32] u6 u8 := pu8.2.1
    have xu8 : u8 = (Gm_shaves a1 u6 q) := pu8.2.2.1
    have hE := zletE xu8 hE
    have hw : zPD D A (mW ct h0 y u8 q) H := hw
    refine zfr 24 [] rfl rfl ?_
    refine lv_iconst (v := 1) hx hb dX12_shave_24 (by decide) ?_
    exact ziretQ hQ hx hb hr rfl hlocks (1, u8) rfl ⟨((zI.lit (a := 1) (b := 1) (c := 1) (by decide)).w (c := 0) (d := 1) (by decide)), ju8, ((pr1.2.tr fu6 rfl).tr fu8 rfl), (hE.symm.trans hX), trivial⟩ hw hS dX12_shave_25
  · have hE := zifnF c4 hE
    have k10 : zI 0 0 (u2) := zI.eqq c4 (zI.lit (a := 0) (b := 0) (c := 0) (by decide))
    refine lv_iconst (v := 0) hx hb dX12_shave_13 (by decide) ?_
    exact ziretQ hQ hx hb hr rfl hlocks (0, r1) rfl ⟨((zI.lit (a := 0) (b := 0) (c := 0) (by decide)).w (c := 0) (d := 1) (by decide)), pr1.1, pr1.2, (hE.symm.trans hX), trivial⟩ hw hS dX12_shave_14

noncomputable def Gm_week (r : zRr) (q : zRq) : Int32 × zRr :=
  zlet (α := zRr) (zset r 100 (fun _ => (0 : Int32))) <| fun r1 => zlet (α := zRr) ((Gm_keeps r1 q)) <| fun u2 => zlet (α := zRr) ((Gm_passes u2 q)) <| fun u4 => zlet (α := Int32) (u4 32 0) <| fun v6 => (v6, u4)
set_option maxHeartbeats 4000000 in
set_option maxRecDepth 100000 in
theorem mc_week (l : Launch) (D : va_G) (ct : Nat → ClassId) (h0 : Nat) (y : Nat → Nat) (r : zRr) (q : zRq) (hJ0 : mJ 20 r) : zC l yX12_week (.code yX12_week cX12_week 1 (some .int) :: wsL_law0) ({ frames := 3, cells := 0, slots := 0, locals := 160 }) D ct [] [.ref h0] (mW ct h0 y r q) (S := Int32 × zRr) (fun u => some (.int u.1)) (fun u => zI (-2147483648) 2147483647 u.1 ∧ mJ 20 u.2 ∧ zFr [100, 36, 151, 32] r u.2 ∧ u = (Gm_week r q) ∧ True) (fun u => mW ct h0 y u.2 q) 0 0 := by
  refine zofQ cX12_week 1 (some .int) (by decide) rfl (Nat.le_of_ble_eq_true rfl) ?_
  intro p e s m below meth c A a9 Q ha9 hx hb hr hml hts hown hlocks hname hK hA hZ hN hQ
  have hown : s.vm.findClass RX12 = some m.cls := hown
  have hiX12 : ∀ w ∈ wsX120, w ∈ .code yX12_week cX12_week 1 (some .int) :: wsL_law0 := fun _ h => ki (zs_wsX120 _ h)
  have lf108 := hts (.fieldLink RX12 108 "BeardPassModel" "s" "[I") (ki (zr9 4 rfl))
  have lf129 := hts (.fieldLink RX12 129 "BeardPassModel" "thrown" "I") (ki (zr10 1 rfl))
  obtain ⟨X, hX⟩ : ∃ X, X = (Gm_week r q) := ⟨_, rfl⟩
  intro H locs hw hS ls hl
  have hl : lv_has ls 1 [(0, .ref h0)] := hl
  have hE := hX
  unfold Gm_week at hE
  refine lv_aload_n hx hb dX12_week_0 rfl (lv_at hl 0 rfl) ?_
  refine lv_iconst (v := 0) hx hb dX12_week_1 (by decide) ?_
  refine mput (ty := .int) (v := .int 0) hx hb hts hiX12 hown hK hw hS 0 (by decide) lf129 rfl rfl (by decide +kernel) rfl rfl dX12_week_2 (zset r 100 (fun _ => (0 : Int32))) _ mWf0 (fun H locs hw hS => ?_)
  refine mgen (P := fun x => mJ 20 x ∧ zFr [100, 36, 151, 32] r x) hw ⟨hJ0.setc rfl (fun _ => (zI.top _)), (zFr.refl).set rfl⟩ (fun r1 er1 hw pr1 => ?_)
  have hE := zletE er1 hE
  refine lv_aload_n hx hb dX12_week_5 rfl (lv_at hl 0 rfl) ?_
  refine mcallV (As := []) (rest := []) ⟨hx, hb, hml, hown, hts⟩ (mc_keeps l D ct h0 y r1 q pr1.1) (wqX12_386_mc_keeps hts ⟨Nat.le_of_ble_eq_true rfl, Nat.le_of_ble_eq_true rfl⟩) hw hS hA hK hN rfl hl.1 rfl (Nat.le_of_ble_eq_true rfl) dX12_week_6 9 rfl (fun u2 H locs pu2 hw hS => ?_)
  have ju2 : mJ 20 u2 := pu2.1
  have fu2 : zFr [36, 151] r1 u2 := pu2.2.1
  have xu2 : u2 = (Gm_keeps r1 q) := pu2.2.2.1
  have hE := zletE xu2 hE
  have hw : zPD D A (mW ct h0 y u2 q) H := hw
  refine zfr 9 [] rfl rfl ?_
  refine lv_aload_n hx hb dX12_week_9 rfl (lv_at hl 0 rfl) ?_
  refine mcallV (As := []) (rest := []) ⟨hx, hb, hml, hown, hts⟩ (mc_passes l D ct h0 y 20 u2 q ju2) (wqX12_401_mc_passes hts ⟨Nat.le_of_ble_eq_true rfl, Nat.le_of_ble_eq_true rfl⟩) hw hS hA hK hN rfl hl.1 rfl (Nat.le_of_ble_eq_true rfl) dX12_week_10 13 rfl (fun u4 H locs pu4 hw hS => ?_)
  have ju4 : mJ 20 u4 := pu4.1
  have fu4 : zFr [32] u2 u4 := pu4.2.1
  have xu4 : u4 = (Gm_passes u2 q) := pu4.2.2.1
  have hE := zletE xu4 hE
  have hw : zPD D A (mW ct h0 y u4 q) H := hw
  refine zfr 13 [] rfl rfl ?_
  refine lv_aload_n hx hb dX12_week_13 rfl (lv_at hl 0 rfl) ?_
  refine mget (v := .ref (y 32)) hx hb hts hiX12 hown hK hw 45 (by decide) lf108 rfl rfl dX12_week_14 ?_
  refine lv_iconst (v := 0) hx hb dX12_week_17 (by decide) ?_
  refine ziald hx hb hK hw 33 mWg32 0 (by decide) (by decide) (by decide) dX12_week_18 (zgenE (zI.top _) (fun v6 ev6 _ => ?_))
  have hE := zletE ev6 hE
  exact ziretQ hQ hx hb hr rfl hlocks (v6, u4) rfl ⟨(zI.top _), ju4, ((pr1.2.tr fu2 rfl).tr fu4 rfl), (hE.symm.trans hX), trivial⟩ hw hS dX12_week_19

noncomputable def Gm_undo (r : zRr) (q : zRq) : Int32 × zRr :=
  zlet (α := zRr) (zset r 100 (fun _ => (0 : Int32))) <| fun r1 => zifn ((r1 151 0) = (0 : Int32)) (zlet (α := Int32) ((r1 151 0) - 1) <| fun v4 => zlet (α := zRr) (zset r1 151 (fun _ => v4)) <| fun r5 => zlet (α := zRr) (zset r5 32 (zcp (r5 36) (r5 32) (zn (31 * (r5 151 0))) (0) 31)) <| fun r7 => ((1 : Int32), r7)) (((0 : Int32), r1))
set_option maxHeartbeats 4000000 in
set_option maxRecDepth 100000 in
theorem mc_undo (l : Launch) (D : va_G) (ct : Nat → ClassId) (h0 : Nat) (y : Nat → Nat) (r : zRr) (q : zRq) (hJ0 : mJ 20 r) : zC l yX12_undo (.code yX12_undo cX12_undo 1 (some .boolean) :: wsL_law0) ({ frames := 2, cells := 0, slots := 0, locals := 120 }) D ct [] [.ref h0] (mW ct h0 y r q) (S := Int32 × zRr) (fun u => some (.int u.1)) (fun u => zI 0 1 u.1 ∧ mJ 20 u.2 ∧ zFr [100, 151, 32] r u.2 ∧ u = (Gm_undo r q) ∧ True) (fun u => mW ct h0 y u.2 q) 0 0 := by
  refine zofQ cX12_undo 1 (some .boolean) (by decide) rfl (Nat.le_of_ble_eq_true rfl) ?_
  intro p e s m below meth c A a9 Q ha9 hx hb hr hml hts hown hlocks hname hK hA hZ hN hQ
  have hown : s.vm.findClass RX12 = some m.cls := hown
  have hiX12 : ∀ w ∈ wsX120, w ∈ .code yX12_undo cX12_undo 1 (some .boolean) :: wsL_law0 := fun _ h => ki (zs_wsX120 _ h)
  have lf108 := hts (.fieldLink RX12 108 "BeardPassModel" "s" "[I") (ki (zr9 4 rfl))
  have lf120 := hts (.fieldLink RX12 120 "BeardPassModel" "undone" "[I") (ki (zr9 8 rfl))
  have lf129 := hts (.fieldLink RX12 129 "BeardPassModel" "thrown" "I") (ki (zr10 1 rfl))
  have lf336 := hts (.fieldLink RX12 336 "BeardPassModel" "done" "I") (ki (zr21 17 rfl))
  obtain ⟨X, hX⟩ : ∃ X, X = (Gm_undo r q) := ⟨_, rfl⟩
  intro H locs hw hS ls hl
  have hl : lv_has ls 1 [(0, .ref h0)] := hl
  have hE := hX
  unfold Gm_undo at hE
  refine lv_aload_n hx hb dX12_undo_0 rfl (lv_at hl 0 rfl) ?_
  refine lv_iconst (v := 0) hx hb dX12_undo_1 (by decide) ?_
  refine mput (ty := .int) (v := .int 0) hx hb hts hiX12 hown hK hw hS 0 (by decide) lf129 rfl rfl (by decide +kernel) rfl rfl dX12_undo_2 (zset r 100 (fun _ => (0 : Int32))) _ mWf0 (fun H locs hw hS => ?_)
  refine mgen (P := fun x => mJ 20 x ∧ zFr [100, 151, 32] r x) hw ⟨hJ0.setc rfl (fun _ => (zI.top _)), (zFr.refl).set rfl⟩ (fun r1 er1 hw pr1 => ?_)
  have hE := zletE er1 hE
  refine lv_aload_n hx hb dX12_undo_5 rfl (lv_at hl 0 rfl) ?_
  refine mget (v := .int (r1 151 0)) hx hb hts hiX12 hown hK hw 51 (by decide) lf336 rfl rfl dX12_undo_6 ?_
  refine lv_if_ne (tgt := 14) hx hb dX12_undo_9 (by decide) (fun c2 => ?_) (fun c2 => ?_)
  · have hE := zifnT c2 hE
    have k3 : zI 1 16 (r1 151 0) := zI.neD c2 (show zI 0 16 (r1 151 0) from pr1.1.i 151 0) (zI.lit (a := 0) (b := 0) (c := 0) (by decide)) (by decide)
    refine lv_aload_n hx hb dX12_undo_14 rfl (lv_at hl 0 rfl) ?_
    refine lv_dup hx hb dX12_undo_15 rfl ?_
    refine mget (v := .int (r1 151 0)) hx hb hts hiX12 hown hK hw 51 (by decide) lf336 rfl rfl dX12_undo_16 ?_
    refine lv_iconst (v := 1) hx hb dX12_undo_19 (by decide) ?_
    refine lv_isub hx hb dX12_undo_20 (zgenE (lo := 0) (hi := 15) (zI.sub k3 (zI.lit (a := 1) (b := 1) (c := 1) (by decide)) (by decide)) (fun v4 ev4 hv4 => ?_))
    have hE := zletE ev4 hE
    refine mput (ty := .int) (v := .int v4) hx hb hts hiX12 hown hK hw hS 51 (by decide) lf336 rfl rfl (by decide +kernel) rfl rfl dX12_undo_21 (zset r1 151 (fun _ => v4)) _ mWf51 (fun H locs hw hS => ?_)
    refine mgen (P := fun x => mJ 20 x ∧ zFr [100, 151, 32] r x) hw ⟨pr1.1.setc rfl (fun _ => (hv4.w (c := 0) (d := 16) (by decide))), pr1.2.set rfl⟩ (fun r5 er5 hw pr5 => ?_)
    have hE := zletE er5 hE
    refine lv_aload_n hx hb dX12_undo_24 rfl (lv_at hl 0 rfl) ?_
    refine mget (v := .ref (y 36)) hx hb hts hiX12 hown hK hw 49 (by decide) lf120 rfl rfl dX12_undo_25 ?_
    refine lv_bipush (v := 31) hx hb dX12_undo_28 (by decide) ?_
    refine lv_aload_n hx hb dX12_undo_30 rfl (lv_at hl 0 rfl) ?_
    refine mget (v := .int (r5 151 0)) hx hb hts hiX12 hown hK hw 51 (by decide) lf336 rfl rfl dX12_undo_31 ?_
    refine lv_imul hx hb dX12_undo_34 ?_
    have k6 : zI 0 465 (31 * (r5 151 0)) := zI.mul (zI.lit (a := 31) (b := 31) (c := 31) (by decide)) (zs_in er5 hv4) (by decide)
    refine lv_aload_n hx hb dX12_undo_35 rfl (lv_at hl 0 rfl) ?_
    refine mget (v := .ref (y 32)) hx hb hts hiX12 hown hK hw 45 (by decide) lf108 rfl rfl dX12_undo_36 ?_
    refine lv_iconst (v := 0) hx hb dX12_undo_39 (by decide) ?_
    refine zfr 40 [.int 0, .ref (y 32), .int (nI (zn (31 * (r5 151 0)))), .ref (y 36)] rfl (congrArg (fun x => ([.int 0, .ref (y 32), .int x, .ref (y 36)] : List Value)) (zI.ix (n := 466) k6 (by decide)).1) ?_
    refine mcp2 37 33 (As := [.ref (y 36), .int (nI (zn (31 * (r5 151 0)))), .ref (y 32), .int 0]) (rest := []) ⟨hx, hb, hml, hown, hts⟩ (c_copies l D ct (y 36) (zn (31 * (r5 151 0))) (y 32) (0) 496 31 (r5 36) (r5 32) (by have h9 := (k6).nn (by decide); omega) (by decide) (by decide) (by decide)) (va_cwS 4 hts (kgSm (zr36 17 rfl) (zr36 18 rfl) (zr1 5 rfl) mL_X12_copies) rfl rfl rfl (by decide +kernel) ⟨Nat.le_of_ble_eq_true rfl, Nat.le_of_ble_eq_true rfl⟩) hw hS hA hK hN mWg36 mWg32 rfl rfl (by decide) rfl hl.1 rfl (Nat.le_of_ble_eq_true rfl) dX12_undo_40 mWs32 (fun _ H locs _ hw hS => ?_)
    have hw : zPD D A (mW ct h0 y (zset r5 32 (zcp (r5 36) (r5 32) (zn (31 * (r5 151 0))) (0) 31)) q) H := hw
    refine zfr 43 [] rfl rfl ?_
    refine mgen (P := fun x => mJ 20 x ∧ zFr [100, 151, 32] r x) hw ⟨mcp_s pr5.1 (Or.inr ⟨Or.inr rfl, zn31 (zs_in er5 hv4) (by decide)⟩), pr5.2.set rfl⟩ (fun r7 er7 hw pr7 => ?_)
    have hE := zletE er7 hE
    refine lv_iconst (v := 1) hx hb dX12_undo_43 (by decide) ?_
    exact ziretQ hQ hx hb hr rfl hlocks (1, r7) rfl ⟨((zI.lit (a := 1) (b := 1) (c := 1) (by decide)).w (c := 0) (d := 1) (by decide)), pr7.1, pr7.2, (hE.symm.trans hX), trivial⟩ hw hS dX12_undo_44
  · have hE := zifnF c2 hE
    have k8 : zI 0 0 (r1 151 0) := zI.eqq c2 (zI.lit (a := 0) (b := 0) (c := 0) (by decide))
    refine lv_iconst (v := 0) hx hb dX12_undo_12 (by decide) ?_
    exact ziretQ hQ hx hb hr rfl hlocks (0, r1) rfl ⟨((zI.lit (a := 0) (b := 0) (c := 0) (by decide)).w (c := 0) (d := 1) (by decide)), pr1.1, pr1.2, (hE.symm.trans hX), trivial⟩ hw hS dX12_undo_13
