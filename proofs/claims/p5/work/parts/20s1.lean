set_option maxHeartbeats 4000000 in
set_option maxRecDepth 100000 in
theorem mc_within (l : Launch) (D : va_G) (ct : Nat → ClassId) (a1 : Int32) (a2 : Int32) (a3 : Int32) : zC l yX12_within (.code yX12_within cX12_within 3 (some .boolean) :: wsL_law0) ({ frames := 1, cells := 0, slots := 0, locals := 80 }) D ct [] [.int a1, .int a2, .int a3] ([]) (S := Int32) (fun u => some (.int u)) (fun u => zI 0 1 u ∧ (¬ u = 0 → a2 ≤ a1 ∧ a1 ≤ a3) ∧ u = (Gm_within a1 a2 a3) ∧ True) (fun u => []) 0 0 := by
  refine zofQ cX12_within 3 (some .boolean) (by decide) rfl (Nat.le_of_ble_eq_true rfl) ?_
  intro p e s m below meth c A a9 Q ha9 hx hb hr hml hts hown hlocks hname hK hA hZ hN hQ
  have hown : s.vm.findClass RX12 = some m.cls := hown
  obtain ⟨X, hX⟩ : ∃ X, X = (Gm_within a1 a2 a3) := ⟨_, rfl⟩
  intro H locs hw hS ls hl
  have hl : lv_has ls 3 [(0, .int a1), (1, .int a2), (2, .int a3)] := hl
  have hE := hX
  unfold Gm_within at hE
  refine lv_iload_n hx hb dX12_within_0 rfl (lv_at hl 0 rfl) ?_
  refine lv_iload_n hx hb dX12_within_1 rfl (lv_at hl 1 rfl) ?_
  refine lv_icmp_lt (tgt := 14) hx hb dX12_within_2 (by decide) (fun c1 => ?_) (fun c1 => ?_)
  · have hE := zifT c1 hE
    refine lv_iconst (v := 0) hx hb dX12_within_14 (by decide) ?_
    exact ziretQ hQ hx hb hr rfl hlocks 0 rfl ⟨((zI.lit (a := 0) (b := 0) (c := 0) (by decide)).w (c := 0) (d := 1) (by decide)), (fun h => absurd rfl h), (hE.symm.trans hX), trivial⟩ hw hS dX12_within_15
  · have hE := zifF c1 hE
    refine lv_iload_n hx hb dX12_within_5 rfl (lv_at hl 0 rfl) ?_
    refine lv_iload_n hx hb dX12_within_6 rfl (lv_at hl 2 rfl) ?_
    refine lv_icmp_gt (tgt := 14) hx hb dX12_within_7 (by decide) (fun c2 => ?_) (fun c2 => ?_)
    · have hE := zifT c2 hE
      refine lv_iconst (v := 0) hx hb dX12_within_14 (by decide) ?_
      exact ziretQ hQ hx hb hr rfl hlocks 0 rfl ⟨((zI.lit (a := 0) (b := 0) (c := 0) (by decide)).w (c := 0) (d := 1) (by decide)), (fun h => absurd rfl h), (hE.symm.trans hX), trivial⟩ hw hS dX12_within_15
    · have hE := zifF c2 hE
      refine lv_iconst (v := 1) hx hb dX12_within_10 (by decide) ?_
      refine lv_goto (tgt := 15) hx hb dX12_within_11 (by decide) ?_
      exact ziretQ hQ hx hb hr rfl hlocks 1 rfl ⟨((zI.lit (a := 1) (b := 1) (c := 1) (by decide)).w (c := 0) (d := 1) (by decide)), (fun _ => ⟨(zI.nlt c1), (zI.nlt c2)⟩), (hE.symm.trans hX), trivial⟩ hw hS dX12_within_15

set_option maxHeartbeats 4000000 in
set_option maxRecDepth 100000 in
theorem mc_bits (l : Launch) (D : va_G) (ct : Nat → ClassId) (a1 : Int32) : zC l yX12_bits (.code yX12_bits cX12_bits 3 (some .int) :: wsL_law0) ({ frames := 1, cells := 0, slots := 0, locals := 80 }) D ct [] [.int a1] ([]) (S := Int32) (fun u => some (.int u)) (fun u => zI (-2147483648) 2147483647 u ∧ True) (fun u => []) 0 0 := by
  refine zofQ cX12_bits 3 (some .int) (by decide) rfl (Nat.le_of_ble_eq_true rfl) ?_
  intro p e s m below meth c A a9 Q ha9 hx hb hr hml hts hown hlocks hname hK hA hZ hN hQ
  have hown : s.vm.findClass RX12 = some m.cls := hown
  have cut4 : ∀ (n : Nat) (w4_1 : Int32) (w4_2 : Int32) (hw4_2 : zI 0 6 w4_2), 6 - w4_2.toInt < (n : Int) → zKf p l e ({ frames := 1, cells := 0, slots := 0, locals := 80 }) s m a9 below meth c Q D A 4 3 [] ([]) [(0, .int a1), (1, .int w4_1), (2, .int w4_2)] := by
    intro n
    induction n with
    | zero => intro w4_1 w4_2 hw4_2 hm4; exact zI.no hw4_2 (by decide) hm4
    | succ n ih4 =>
      intro w4_1 w4_2 hw4_2 hm4
      intro H locs ls hw hS hl
      refine lv_iload_n hx hb dX12_bits_4 rfl (lv_at hl 2 rfl) ?_
      refine lv_bipush (v := 6) hx hb dX12_bits_5 (by decide) ?_
      refine lv_icmp_ge (tgt := 24) hx hb dX12_bits_7 (by decide) (fun c1 => ?_) (fun c1 => ?_)
      · have k2 : zI 6 6 (w4_2) := zI.leD c1 (zI.lit (a := 6) (b := 6) (c := 6) (by decide)) hw4_2 (by decide)
        refine lv_iload_n hx hb dX12_bits_24 rfl (lv_at hl 1 rfl) ?_
        exact ziretQ hQ hx hb hr rfl hlocks w4_1 rfl ⟨(zI.top _), trivial⟩ hw hS dX12_bits_25
      · have k3 : zI 0 5 (w4_2) := zI.ltU (zI.nle c1) hw4_2 (zI.lit (a := 6) (b := 6) (c := 6) (by decide)) (by decide)
        refine lv_iload_n hx hb dX12_bits_10 rfl (lv_at hl 1 rfl) ?_
        refine lv_iload_n hx hb dX12_bits_11 rfl (lv_at hl 0 rfl) ?_
        refine lv_iload_n hx hb dX12_bits_12 rfl (lv_at hl 2 rfl) ?_
        refine lv_ishr hx hb dX12_bits_13 (zgen (zI.top _) (fun v4 _ => ?_))
        refine lv_iconst (v := 1) hx hb dX12_bits_14 (by decide) ?_
        refine lv_iand hx hb dX12_bits_15 (zgen (lo := 0) (hi := 1) (zI.and (zI.lit (a := 1) (b := 1) (c := 1) (by decide)) (by decide)) (fun v5 hv5 => ?_))
        refine lv_iadd hx hb dX12_bits_16 (zgen (zI.top _) (fun v6 _ => ?_))
        refine lv_istore_n (lv' := [(1, .int v6), (0, .int a1), (2, .int w4_2)]) hx hb dX12_bits_17 rfl hl (by decide) rfl (fun ls hl => ?_)
        refine lv_iinc (v := w4_2 + 1) (lv' := [(2, .int (w4_2 + 1)), (1, .int v6), (0, .int a1)]) hx hb dX12_bits_18 hl (k := 2) rfl (rfl) (by decide) rfl (fun ls hl => ?_)
        have k7 : zI 1 6 (w4_2 + 1) := zI.add k3 (zI.lit (a := 1) (b := 1) (by decide)) (by decide)
        refine lv_goto (tgt := 4) hx hb dX12_bits_21 (by decide) ?_
        exact ih4 v6 (w4_2 + 1) (k7.w (c := 0) (d := 6) (by decide)) (zI.up k3 (by decide) hm4) H locs ls hw hS (lv_sub hl [2, 1, 0] rfl)
  intro H locs hw hS ls hl
  have hl : lv_has ls 3 [(0, .int a1)] := hl
  refine lv_iconst (v := 0) hx hb dX12_bits_0 (by decide) ?_
  refine lv_istore_n (lv' := [(1, .int 0), (0, .int a1)]) hx hb dX12_bits_1 rfl hl (by decide) rfl (fun ls hl => ?_)
  refine lv_iconst (v := 0) hx hb dX12_bits_2 (by decide) ?_
  refine lv_istore_n (lv' := [(2, .int 0), (1, .int 0), (0, .int a1)]) hx hb dX12_bits_3 rfl hl (by decide) rfl (fun ls hl => ?_)
  exact cut4 7 0 0 ((zI.lit (a := 0) (b := 0) (c := 0) (by decide)).w (c := 0) (d := 6) (by decide)) (zI.m0 (zI.lit (a := 0) (b := 0) (c := 0) (by decide)) (by decide)) H locs ls hw hS (lv_sub hl [2, 1, 0] rfl)

noncomputable def Gm_isTown (a1 : Int32) (r : zRr) (q : zRq) : Int32 :=
  zif (a1 < (0 : Int32)) ((0 : Int32)) (zlet (α := Int32) (r 1 0) <| fun v4 => zif (v4 ≤ a1) ((0 : Int32)) ((1 : Int32)))
set_option maxHeartbeats 4000000 in
set_option maxRecDepth 100000 in
theorem mc_isTown (l : Launch) (D : va_G) (ct : Nat → ClassId) (h0 : Nat) (y : Nat → Nat) (B : Int) (a1 : Int32) (r : zRr) (q : zRq) (hJ0 : mJ B r) : zC l yX12_isTown (.code yX12_isTown cX12_isTown 2 (some .boolean) :: wsL_law0) ({ frames := 1, cells := 0, slots := 0, locals := 80 }) D ct [] [.ref h0, .int a1] (mW ct h0 y r q) (S := Int32) (fun u => some (.int u)) (fun u => zI 0 1 u ∧ (¬ u = 0 → zI 0 5 a1) ∧ u = (Gm_isTown a1 r q) ∧ True) (fun u => mW ct h0 y r q) 0 0 := by
  refine zofQ cX12_isTown 2 (some .boolean) (by decide) rfl (Nat.le_of_ble_eq_true rfl) ?_
  intro p e s m below meth c A a9 Q ha9 hx hb hr hml hts hown hlocks hname hK hA hZ hN hQ
  have hown : s.vm.findClass RX12 = some m.cls := hown
  have hiX12 : ∀ w ∈ wsX120, w ∈ .code yX12_isTown cX12_isTown 2 (some .boolean) :: wsL_law0 := fun _ h => ki (zs_wsX120 _ h)
  have lf13 := hts (.fieldLink RX12 13 "BeardPassModel" "land" "[I") (ki (zr7 20 rfl))
  obtain ⟨X, hX⟩ : ∃ X, X = (Gm_isTown a1 r q) := ⟨_, rfl⟩
  intro H locs hw hS ls hl
  have hl : lv_has ls 2 [(0, .ref h0), (1, .int a1)] := hl
  have hE := hX
  unfold Gm_isTown at hE
  refine lv_iload_n hx hb dX12_isTown_0 rfl (lv_at hl 1 rfl) ?_
  refine lv_if_lt (tgt := 18) hx hb dX12_isTown_1 (by decide) (fun c1 => ?_) (fun c1 => ?_)
  · have hE := zifT c1 hE
    have k2 : zI (-2147483648) (-1) (a1) := zI.ltU c1 (zI.top _) (zI.lit (a := 0) (b := 0) (c := 0) (by decide)) (by decide)
    refine lv_iconst (v := 0) hx hb dX12_isTown_18 (by decide) ?_
    exact ziretQ hQ hx hb hr rfl hlocks 0 rfl ⟨((zI.lit (a := 0) (b := 0) (c := 0) (by decide)).w (c := 0) (d := 1) (by decide)), (fun h => absurd rfl h), (hE.symm.trans hX), trivial⟩ hw hS dX12_isTown_19
  · have hE := zifF c1 hE
    have k3 : zI 0 2147483647 (a1) := zI.leD (zI.nlt c1) (zI.lit (a := 0) (b := 0) (c := 0) (by decide)) (zI.top _) (by decide)
    refine lv_iload_n hx hb dX12_isTown_4 rfl (lv_at hl 1 rfl) ?_
    refine lv_aload_n hx hb dX12_isTown_5 rfl (lv_at hl 0 rfl) ?_
    refine mget (v := .ref (y 1)) hx hb hts hiX12 hown hK hw 10 (by decide) lf13 rfl rfl dX12_isTown_6 ?_
    refine lv_iconst (v := 0) hx hb dX12_isTown_9 (by decide) ?_
    refine ziald hx hb hK hw 2 mWg1 0 (by decide) (by decide) (by decide) dX12_isTown_10 (zgenE (lo := 0) (hi := 6) ((show zI 0 6 (r 1 0) from hJ0.i 1 0)) (fun v4 ev4 hv4 => ?_))
    have hE := zletE ev4 hE
    refine lv_icmp_ge (tgt := 18) hx hb dX12_isTown_11 (by decide) (fun c5 => ?_) (fun c5 => ?_)
    · have hE := zifT c5 hE
      refine lv_iconst (v := 0) hx hb dX12_isTown_18 (by decide) ?_
      exact ziretQ hQ hx hb hr rfl hlocks 0 rfl ⟨((zI.lit (a := 0) (b := 0) (c := 0) (by decide)).w (c := 0) (d := 1) (by decide)), (fun h => absurd rfl h), (hE.symm.trans hX), trivial⟩ hw hS dX12_isTown_19
    · have hE := zifF c5 hE
      have k6 : zI 0 5 (a1) := zI.ltU (zI.nle c5) k3 hv4 (by decide)
      have k7 : zI 1 6 (v4) := zI.ltD (zI.nle c5) k3 hv4 (by decide)
      refine lv_iconst (v := 1) hx hb dX12_isTown_14 (by decide) ?_
      refine lv_goto (tgt := 19) hx hb dX12_isTown_15 (by decide) ?_
      exact ziretQ hQ hx hb hr rfl hlocks 1 rfl ⟨((zI.lit (a := 1) (b := 1) (c := 1) (by decide)).w (c := 0) (d := 1) (by decide)), (fun _ => k6), (hE.symm.trans hX), trivial⟩ hw hS dX12_isTown_19

noncomputable def Gm_isPerson (a1 : Int32) (r : zRr) (q : zRq) : Int32 :=
  zif (a1 < (0 : Int32)) ((0 : Int32)) (zlet (α := Int32) (r 1 1) <| fun v4 => zif (v4 ≤ a1) ((0 : Int32)) ((1 : Int32)))
set_option maxHeartbeats 4000000 in
set_option maxRecDepth 100000 in
theorem mc_isPerson (l : Launch) (D : va_G) (ct : Nat → ClassId) (h0 : Nat) (y : Nat → Nat) (B : Int) (a1 : Int32) (r : zRr) (q : zRq) (hJ0 : mJ B r) : zC l yX12_isPerson (.code yX12_isPerson cX12_isPerson 2 (some .boolean) :: wsL_law0) ({ frames := 1, cells := 0, slots := 0, locals := 80 }) D ct [] [.ref h0, .int a1] (mW ct h0 y r q) (S := Int32) (fun u => some (.int u)) (fun u => zI 0 1 u ∧ (¬ u = 0 → zI 0 5 a1) ∧ u = (Gm_isPerson a1 r q) ∧ True) (fun u => mW ct h0 y r q) 0 0 := by
  refine zofQ cX12_isPerson 2 (some .boolean) (by decide) rfl (Nat.le_of_ble_eq_true rfl) ?_
  intro p e s m below meth c A a9 Q ha9 hx hb hr hml hts hown hlocks hname hK hA hZ hN hQ
  have hown : s.vm.findClass RX12 = some m.cls := hown
  have hiX12 : ∀ w ∈ wsX120, w ∈ .code yX12_isPerson cX12_isPerson 2 (some .boolean) :: wsL_law0 := fun _ h => ki (zs_wsX120 _ h)
  have lf13 := hts (.fieldLink RX12 13 "BeardPassModel" "land" "[I") (ki (zr7 20 rfl))
  obtain ⟨X, hX⟩ : ∃ X, X = (Gm_isPerson a1 r q) := ⟨_, rfl⟩
  intro H locs hw hS ls hl
  have hl : lv_has ls 2 [(0, .ref h0), (1, .int a1)] := hl
  have hE := hX
  unfold Gm_isPerson at hE
  refine lv_iload_n hx hb dX12_isPerson_0 rfl (lv_at hl 1 rfl) ?_
  refine lv_if_lt (tgt := 18) hx hb dX12_isPerson_1 (by decide) (fun c1 => ?_) (fun c1 => ?_)
  · have hE := zifT c1 hE
    have k2 : zI (-2147483648) (-1) (a1) := zI.ltU c1 (zI.top _) (zI.lit (a := 0) (b := 0) (c := 0) (by decide)) (by decide)
    refine lv_iconst (v := 0) hx hb dX12_isPerson_18 (by decide) ?_
    exact ziretQ hQ hx hb hr rfl hlocks 0 rfl ⟨((zI.lit (a := 0) (b := 0) (c := 0) (by decide)).w (c := 0) (d := 1) (by decide)), (fun h => absurd rfl h), (hE.symm.trans hX), trivial⟩ hw hS dX12_isPerson_19
  · have hE := zifF c1 hE
    have k3 : zI 0 2147483647 (a1) := zI.leD (zI.nlt c1) (zI.lit (a := 0) (b := 0) (c := 0) (by decide)) (zI.top _) (by decide)
    refine lv_iload_n hx hb dX12_isPerson_4 rfl (lv_at hl 1 rfl) ?_
    refine lv_aload_n hx hb dX12_isPerson_5 rfl (lv_at hl 0 rfl) ?_
    refine mget (v := .ref (y 1)) hx hb hts hiX12 hown hK hw 10 (by decide) lf13 rfl rfl dX12_isPerson_6 ?_
    refine lv_iconst (v := 1) hx hb dX12_isPerson_9 (by decide) ?_
    refine ziald hx hb hK hw 2 mWg1 1 (by decide) (by decide) (by decide) dX12_isPerson_10 (zgenE (lo := 0) (hi := 6) ((show zI 0 6 (r 1 1) from hJ0.i 1 1)) (fun v4 ev4 hv4 => ?_))
    have hE := zletE ev4 hE
    refine lv_icmp_ge (tgt := 18) hx hb dX12_isPerson_11 (by decide) (fun c5 => ?_) (fun c5 => ?_)
    · have hE := zifT c5 hE
      refine lv_iconst (v := 0) hx hb dX12_isPerson_18 (by decide) ?_
      exact ziretQ hQ hx hb hr rfl hlocks 0 rfl ⟨((zI.lit (a := 0) (b := 0) (c := 0) (by decide)).w (c := 0) (d := 1) (by decide)), (fun h => absurd rfl h), (hE.symm.trans hX), trivial⟩ hw hS dX12_isPerson_19
    · have hE := zifF c5 hE
      have k6 : zI 0 5 (a1) := zI.ltU (zI.nle c5) k3 hv4 (by decide)
      have k7 : zI 1 6 (v4) := zI.ltD (zI.nle c5) k3 hv4 (by decide)
      refine lv_iconst (v := 1) hx hb dX12_isPerson_14 (by decide) ?_
      refine lv_goto (tgt := 19) hx hb dX12_isPerson_15 (by decide) ?_
      exact ziretQ hQ hx hb hr rfl hlocks 1 rfl ⟨((zI.lit (a := 1) (b := 1) (c := 1) (by decide)).w (c := 0) (d := 1) (by decide)), (fun _ => k6), (hE.symm.trans hX), trivial⟩ hw hS dX12_isPerson_19

noncomputable def Bm_allOf_4 (a1 : Int32) (r : zRr) (ih4 : Int32 → Int32 → Int32) (w4_2 : Int32) (w4_3 : Int32) : Int32 :=
  zlet (α := Int32) (a1 + 6) <| fun v1 => zif (v1 ≤ w4_3) (w4_2) (zlet (α := Int32) (r 32 (zn w4_3)) <| fun v5 => zlet (α := Int32) (w4_2 + v5) <| fun v6 => ih4 v6 (w4_3 + 1))
noncomputable def Gm_allOf_4 (a1 : Int32) (r : zRr) (n : Nat) : Int32 → Int32 → Int32 :=
  Nat.rec (motive := fun _ => Int32 → Int32 → Int32) (fun _ _ => default) (fun _ ih => Bm_allOf_4 a1 r ih) n
noncomputable def Gm_allOf (a1 : Int32) (r : zRr) (q : zRq) : Int32 :=
  Gm_allOf_4 a1 r 18 0 a1
set_option maxHeartbeats 4000000 in
set_option maxRecDepth 100000 in
theorem mc_allOf (l : Launch) (D : va_G) (ct : Nat → ClassId) (h0 : Nat) (y : Nat → Nat) (B : Int) (a1 : Int32) (r : zRr) (q : zRq) (g1 : zI 13 19 a1) (hJ0 : mJ B r) : zC l yX12_allOf (.code yX12_allOf cX12_allOf 4 (some .int) :: wsL_law0) ({ frames := 1, cells := 0, slots := 0, locals := 80 }) D ct [] [.ref h0, .int a1] (mW ct h0 y r q) (S := Int32) (fun u => some (.int u)) (fun u => zI (-2147483648) 2147483647 u ∧ u = (Gm_allOf a1 r q) ∧ True) (fun u => mW ct h0 y r q) 0 0 := by
  refine zofQ cX12_allOf 4 (some .int) (by decide) rfl (Nat.le_of_ble_eq_true rfl) ?_
  intro p e s m below meth c A a9 Q ha9 hx hb hr hml hts hown hlocks hname hK hA hZ hN hQ
  have hown : s.vm.findClass RX12 = some m.cls := hown
  have hiX12 : ∀ w ∈ wsX120, w ∈ .code yX12_allOf cX12_allOf 4 (some .int) :: wsL_law0 := fun _ h => ki (zs_wsX120 _ h)
  have lf108 := hts (.fieldLink RX12 108 "BeardPassModel" "s" "[I") (ki (zr9 4 rfl))
  obtain ⟨X, hX⟩ : ∃ X, X = (Gm_allOf a1 r q) := ⟨_, rfl⟩
  have cut4 : ∀ (n4 : Nat) (w4_2 : Int32) (w4_3 : Int32) (hw4_1 : zI 13 19 a1) (hw4_3 : zI 13 30 w4_3) (hE : X = Gm_allOf_4 a1 r n4 w4_2 w4_3), 30 - w4_3.toInt < (n4 : Int) → zKf p l e ({ frames := 1, cells := 0, slots := 0, locals := 80 }) s m a9 below meth c Q D A 4 4 [] (mW ct h0 y r q) [(0, .ref h0), (1, .int a1), (2, .int w4_2), (3, .int w4_3)] := by
    intro n4
    induction n4 with
    | zero => intro w4_2 w4_3 hw4_1 hw4_3 hE hm4; exact zI.no hw4_3 (by decide) hm4
    | succ n4 ih4 =>
      intro w4_2 w4_3 hw4_1 hw4_3 hE hm4
      have hE : X = Bm_allOf_4 a1 r (Gm_allOf_4 a1 r n4) w4_2 w4_3 := hE
      unfold Bm_allOf_4 at hE
      intro H locs ls hw hS hl
      refine lv_iload_n hx hb dX12_allOf_4 rfl (lv_at hl 3 rfl) ?_
      refine lv_iload_n hx hb dX12_allOf_5 rfl (lv_at hl 1 rfl) ?_
      refine lv_bipush (v := 6) hx hb dX12_allOf_6 (by decide) ?_
      refine lv_iadd hx hb dX12_allOf_8 (zgenE (lo := 19) (hi := 25) (zI.add hw4_1 (zI.lit (a := 6) (b := 6) (c := 6) (by decide)) (by decide)) (fun v1 ev1 hv1 => ?_))
      have hE := zletE ev1 hE
      refine lv_icmp_ge (tgt := 27) hx hb dX12_allOf_9 (by decide) (fun c2 => ?_) (fun c2 => ?_)
      · have hE := zifT c2 hE
        have k3 : zI 19 30 (w4_3) := zI.leD c2 hv1 hw4_3 (by decide)
        refine lv_iload_n hx hb dX12_allOf_27 rfl (lv_at hl 2 rfl) ?_
        exact ziretQ hQ hx hb hr rfl hlocks w4_2 rfl ⟨(zI.top _), (hE.symm.trans hX), trivial⟩ hw hS dX12_allOf_28
      · have hE := zifF c2 hE
        have k4 : zI 13 24 (w4_3) := zI.ltU (zI.nle c2) hw4_3 hv1 (by decide)
        refine lv_iload_n hx hb dX12_allOf_12 rfl (lv_at hl 2 rfl) ?_
        refine lv_aload_n hx hb dX12_allOf_13 rfl (lv_at hl 0 rfl) ?_
        refine mget (v := .ref (y 32)) hx hb hts hiX12 hown hK hw 45 (by decide) lf108 rfl rfl dX12_allOf_14 ?_
        refine lv_iload_n hx hb dX12_allOf_17 rfl (lv_at hl 3 rfl) ?_
        refine miald hx hb hK hw 33 mWg32 k4 (by decide) dX12_allOf_18 (zgenE (zI.top _) (fun v5 ev5 _ => ?_))
        have hE := zletE ev5 hE
        refine lv_iadd hx hb dX12_allOf_19 (zgenE (zI.top _) (fun v6 ev6 _ => ?_))
        have hE := zletE ev6 hE
        refine lv_istore_n (lv' := [(2, .int v6), (0, .ref h0), (1, .int a1), (3, .int w4_3)]) hx hb dX12_allOf_20 rfl hl (by decide) rfl (fun ls hl => ?_)
        refine lv_iinc (v := w4_3 + 1) (lv' := [(3, .int (w4_3 + 1)), (2, .int v6), (0, .ref h0), (1, .int a1)]) hx hb dX12_allOf_21 hl (k := 3) rfl (rfl) (by decide) rfl (fun ls hl => ?_)
        have k7 : zI 14 25 (w4_3 + 1) := zI.add k4 (zI.lit (a := 1) (b := 1) (by decide)) (by decide)
        refine lv_goto (tgt := 4) hx hb dX12_allOf_24 (by decide) ?_
        exact ih4 v6 (w4_3 + 1) hw4_1 (k7.w (c := 13) (d := 30) (by decide)) hE (zI.up k4 (by decide) hm4) H locs ls hw hS (lv_sub hl [2, 3, 1, 0] rfl)
  intro H locs hw hS ls hl
  have hl : lv_has ls 4 [(0, .ref h0), (1, .int a1)] := hl
  have hE := hX
  unfold Gm_allOf at hE
  refine lv_iconst (v := 0) hx hb dX12_allOf_0 (by decide) ?_
  refine lv_istore_n (lv' := [(2, .int 0), (0, .ref h0), (1, .int a1)]) hx hb dX12_allOf_1 rfl hl (by decide) rfl (fun ls hl => ?_)
  refine lv_iload_n hx hb dX12_allOf_2 rfl (lv_at hl 2 rfl) ?_
  refine lv_istore_n (lv' := [(3, .int a1), (2, .int 0), (0, .ref h0), (1, .int a1)]) hx hb dX12_allOf_3 rfl hl (by decide) rfl (fun ls hl => ?_)
  exact cut4 18 0 a1 g1 (g1.w (c := 13) (d := 30) (by decide)) hE (zI.m0 g1 (by decide)) H locs ls hw hS (lv_sub hl [2, 3, 1, 0] rfl)

noncomputable def Bm_peopled_4 (r : zRr) (ih4 : Int32 → Int32 → Int32) (w4_1 : Int32) (w4_2 : Int32) : Int32 :=
  zlet (α := Int32) (r 1 1) <| fun v1 => zif (v1 ≤ w4_2) (w4_1) (zlet (α := Int32) (1 + w4_2) <| fun v5 => zlet (α := Int32) (r 32 (zn v5)) <| fun v6 => zlet (α := Int32) (1 <<< (v6 &&& 31)) <| fun v7 => zlet (α := Int32) (w4_1 ||| v7) <| fun v8 => ih4 v8 (w4_2 + 1))
noncomputable def Gm_peopled_4 (r : zRr) (n : Nat) : Int32 → Int32 → Int32 :=
  Nat.rec (motive := fun _ => Int32 → Int32 → Int32) (fun _ _ => default) (fun _ ih => Bm_peopled_4 r ih) n
noncomputable def Gm_peopled (r : zRr) (q : zRq) : Int32 :=
  Gm_peopled_4 r 7 0 0
set_option maxHeartbeats 4000000 in
set_option maxRecDepth 100000 in
theorem mc_peopled (l : Launch) (D : va_G) (ct : Nat → ClassId) (h0 : Nat) (y : Nat → Nat) (B : Int) (r : zRr) (q : zRq) (hJ0 : mJ B r) : zC l yX12_peopled (.code yX12_peopled cX12_peopled 3 (some .int) :: wsL_law0) ({ frames := 1, cells := 0, slots := 0, locals := 80 }) D ct [] [.ref h0] (mW ct h0 y r q) (S := Int32) (fun u => some (.int u)) (fun u => zI 0 63 u ∧ u = (Gm_peopled r q) ∧ True) (fun u => mW ct h0 y r q) 0 0 := by
  refine zofQ cX12_peopled 3 (some .int) (by decide) rfl (Nat.le_of_ble_eq_true rfl) ?_
  intro p e s m below meth c A a9 Q ha9 hx hb hr hml hts hown hlocks hname hK hA hZ hN hQ
  have hown : s.vm.findClass RX12 = some m.cls := hown
  have hiX12 : ∀ w ∈ wsX120, w ∈ .code yX12_peopled cX12_peopled 3 (some .int) :: wsL_law0 := fun _ h => ki (zs_wsX120 _ h)
  have lf13 := hts (.fieldLink RX12 13 "BeardPassModel" "land" "[I") (ki (zr7 20 rfl))
  have lf108 := hts (.fieldLink RX12 108 "BeardPassModel" "s" "[I") (ki (zr9 4 rfl))
  obtain ⟨X, hX⟩ : ∃ X, X = (Gm_peopled r q) := ⟨_, rfl⟩
  have cut4 : ∀ (n4 : Nat) (w4_1 : Int32) (w4_2 : Int32) (hw4_1 : zI 0 63 w4_1) (hw4_2 : zI 0 6 w4_2) (hE : X = Gm_peopled_4 r n4 w4_1 w4_2), 6 - w4_2.toInt < (n4 : Int) → zKf p l e ({ frames := 1, cells := 0, slots := 0, locals := 80 }) s m a9 below meth c Q D A 4 3 [] (mW ct h0 y r q) [(0, .ref h0), (1, .int w4_1), (2, .int w4_2)] := by
    intro n4
    induction n4 with
    | zero => intro w4_1 w4_2 hw4_1 hw4_2 hE hm4; exact zI.no hw4_2 (by decide) hm4
    | succ n4 ih4 =>
      intro w4_1 w4_2 hw4_1 hw4_2 hE hm4
      have hE : X = Bm_peopled_4 r (Gm_peopled_4 r n4) w4_1 w4_2 := hE
      unfold Bm_peopled_4 at hE
      intro H locs ls hw hS hl
      refine lv_iload_n hx hb dX12_peopled_4 rfl (lv_at hl 2 rfl) ?_
      refine lv_aload_n hx hb dX12_peopled_5 rfl (lv_at hl 0 rfl) ?_
      refine mget (v := .ref (y 1)) hx hb hts hiX12 hown hK hw 10 (by decide) lf13 rfl rfl dX12_peopled_6 ?_
      refine lv_iconst (v := 1) hx hb dX12_peopled_9 (by decide) ?_
      refine ziald hx hb hK hw 2 mWg1 1 (by decide) (by decide) (by decide) dX12_peopled_10 (zgenE (lo := 0) (hi := 6) ((show zI 0 6 (r 1 1) from hJ0.i 1 1)) (fun v1 ev1 hv1 => ?_))
      have hE := zletE ev1 hE
      refine lv_icmp_ge (tgt := 33) hx hb dX12_peopled_11 (by decide) (fun c2 => ?_) (fun c2 => ?_)
      · have hE := zifT c2 hE
        refine lv_iload_n hx hb dX12_peopled_33 rfl (lv_at hl 1 rfl) ?_
        exact ziretQ hQ hx hb hr rfl hlocks w4_1 rfl ⟨hw4_1, (hE.symm.trans hX), trivial⟩ hw hS dX12_peopled_34
      · have hE := zifF c2 hE
        have k3 : zI 0 5 (w4_2) := zI.ltU (zI.nle c2) hw4_2 hv1 (by decide)
        have k4 : zI 1 6 (v1) := zI.ltD (zI.nle c2) hw4_2 hv1 (by decide)
        refine lv_iload_n hx hb dX12_peopled_14 rfl (lv_at hl 1 rfl) ?_
        refine lv_iconst (v := 1) hx hb dX12_peopled_15 (by decide) ?_
        refine lv_aload_n hx hb dX12_peopled_16 rfl (lv_at hl 0 rfl) ?_
        refine mget (v := .ref (y 32)) hx hb hts hiX12 hown hK hw 45 (by decide) lf108 rfl rfl dX12_peopled_17 ?_
        refine lv_iconst (v := 1) hx hb dX12_peopled_20 (by decide) ?_
        refine lv_iload_n hx hb dX12_peopled_21 rfl (lv_at hl 2 rfl) ?_
        refine lv_iadd hx hb dX12_peopled_22 (zgenE (lo := 1) (hi := 6) (zI.add (zI.lit (a := 1) (b := 1) (c := 1) (by decide)) k3 (by decide)) (fun v5 ev5 hv5 => ?_))
        have hE := zletE ev5 hE
        refine miald hx hb hK hw 33 mWg32 hv5 (by decide) dX12_peopled_23 (zgenE (lo := 0) (hi := 5) ((ms_1 hJ0 hv5)) (fun v6 ev6 hv6 => ?_))
        have hE := zletE ev6 hE
        refine lv_ishl hx hb dX12_peopled_24 (zgenE (lo := 1) (hi := 32) (zI.shl hv6 5 (by decide)) (fun v7 ev7 hv7 => ?_))
        have hE := zletE ev7 hE
        refine lv_ior hx hb dX12_peopled_25 (zgenE (lo := 0) (hi := 63) (zI.or 6 hw4_1 hv7 (by decide)) (fun v8 ev8 hv8 => ?_))
        have hE := zletE ev8 hE
        refine lv_istore_n (lv' := [(1, .int v8), (0, .ref h0), (2, .int w4_2)]) hx hb dX12_peopled_26 rfl hl (by decide) rfl (fun ls hl => ?_)
        refine lv_iinc (v := w4_2 + 1) (lv' := [(2, .int (w4_2 + 1)), (1, .int v8), (0, .ref h0)]) hx hb dX12_peopled_27 hl (k := 2) rfl (rfl) (by decide) rfl (fun ls hl => ?_)
        have k9 : zI 1 6 (w4_2 + 1) := zI.add k3 (zI.lit (a := 1) (b := 1) (by decide)) (by decide)
        refine lv_goto (tgt := 4) hx hb dX12_peopled_30 (by decide) ?_
        exact ih4 v8 (w4_2 + 1) hv8 (k9.w (c := 0) (d := 6) (by decide)) hE (zI.up k3 (by decide) hm4) H locs ls hw hS (lv_sub hl [2, 1, 0] rfl)
  intro H locs hw hS ls hl
  have hl : lv_has ls 3 [(0, .ref h0)] := hl
  have hE := hX
  unfold Gm_peopled at hE
  refine lv_iconst (v := 0) hx hb dX12_peopled_0 (by decide) ?_
  refine lv_istore_n (lv' := [(1, .int 0), (0, .ref h0)]) hx hb dX12_peopled_1 rfl hl (by decide) rfl (fun ls hl => ?_)
  refine lv_iconst (v := 0) hx hb dX12_peopled_2 (by decide) ?_
  refine lv_istore_n (lv' := [(2, .int 0), (1, .int 0), (0, .ref h0)]) hx hb dX12_peopled_3 rfl hl (by decide) rfl (fun ls hl => ?_)
  exact cut4 7 0 0 ((zI.lit (a := 0) (b := 0) (c := 0) (by decide)).w (c := 0) (d := 63) (by decide)) ((zI.lit (a := 0) (b := 0) (c := 0) (by decide)).w (c := 0) (d := 6) (by decide)) hE (zI.m0 (zI.lit (a := 0) (b := 0) (c := 0) (by decide)) (by decide)) H locs ls hw hS (lv_sub hl [2, 1, 0] rfl)

noncomputable def Bm_mostAsked_4 (r : zRr) (ih4 : Int32 → Int32 → Int32) (w4_1 : Int32) (w4_2 : Int32) : Int32 :=
  zlet (α := Int32) (r 1 0) <| fun v1 => zif (v1 ≤ w4_2) (w4_1) (zlet (α := Int32) (r 4 (zn w4_2)) <| fun v5 => zlet (α := Int32) (if w4_1 < v5 then v5 else w4_1) <| fun v6 => ih4 v6 (w4_2 + 1))
noncomputable def Gm_mostAsked_4 (r : zRr) (n : Nat) : Int32 → Int32 → Int32 :=
  Nat.rec (motive := fun _ => Int32 → Int32 → Int32) (fun _ _ => default) (fun _ ih => Bm_mostAsked_4 r ih) n
noncomputable def Gm_mostAsked (r : zRr) (q : zRq) : Int32 :=
  Gm_mostAsked_4 r 7 0 0
set_option maxHeartbeats 4000000 in
set_option maxRecDepth 100000 in
theorem mc_mostAsked (l : Launch) (D : va_G) (ct : Nat → ClassId) (h0 : Nat) (y : Nat → Nat) (B : Int) (r : zRr) (q : zRq) (hJ0 : mJ B r) : zC l yX12_mostAsked (.code yX12_mostAsked cX12_mostAsked 3 (some .int) :: wsL_law0) ({ frames := 2, cells := 0, slots := 0, locals := 120 }) D ct [] [.ref h0] (mW ct h0 y r q) (S := Int32) (fun u => some (.int u)) (fun u => zI (-2147483648) 2147483647 u ∧ u = (Gm_mostAsked r q) ∧ True) (fun u => mW ct h0 y r q) 0 0 := by
  refine zofQ cX12_mostAsked 3 (some .int) (by decide) rfl (Nat.le_of_ble_eq_true rfl) ?_
  intro p e s m below meth c A a9 Q ha9 hx hb hr hml hts hown hlocks hname hK hA hZ hN hQ
  have hown : s.vm.findClass RX12 = some m.cls := hown
  have hiX12 : ∀ w ∈ wsX120, w ∈ .code yX12_mostAsked cX12_mostAsked 3 (some .int) :: wsL_law0 := fun _ h => ki (zs_wsX120 _ h)
  have lf13 := hts (.fieldLink RX12 13 "BeardPassModel" "land" "[I") (ki (zr7 20 rfl))
  have lf23 := hts (.fieldLink RX12 23 "BeardPassModel" "asks" "[I") (ki (zr7 23 rfl))
  obtain ⟨X, hX⟩ : ∃ X, X = (Gm_mostAsked r q) := ⟨_, rfl⟩
  have cut4 : ∀ (n4 : Nat) (w4_1 : Int32) (w4_2 : Int32) (hw4_2 : zI 0 6 w4_2) (hE : X = Gm_mostAsked_4 r n4 w4_1 w4_2), 6 - w4_2.toInt < (n4 : Int) → zKf p l e ({ frames := 2, cells := 0, slots := 0, locals := 120 }) s m a9 below meth c Q D A 4 3 [] (mW ct h0 y r q) [(0, .ref h0), (1, .int w4_1), (2, .int w4_2)] := by
    intro n4
    induction n4 with
    | zero => intro w4_1 w4_2 hw4_2 hE hm4; exact zI.no hw4_2 (by decide) hm4
    | succ n4 ih4 =>
      intro w4_1 w4_2 hw4_2 hE hm4
      have hE : X = Bm_mostAsked_4 r (Gm_mostAsked_4 r n4) w4_1 w4_2 := hE
      unfold Bm_mostAsked_4 at hE
      intro H locs ls hw hS hl
      refine lv_iload_n hx hb dX12_mostAsked_4 rfl (lv_at hl 2 rfl) ?_
      refine lv_aload_n hx hb dX12_mostAsked_5 rfl (lv_at hl 0 rfl) ?_
      refine mget (v := .ref (y 1)) hx hb hts hiX12 hown hK hw 10 (by decide) lf13 rfl rfl dX12_mostAsked_6 ?_
      refine lv_iconst (v := 0) hx hb dX12_mostAsked_9 (by decide) ?_
      refine ziald hx hb hK hw 2 mWg1 0 (by decide) (by decide) (by decide) dX12_mostAsked_10 (zgenE (lo := 0) (hi := 6) ((show zI 0 6 (r 1 0) from hJ0.i 1 0)) (fun v1 ev1 hv1 => ?_))
      have hE := zletE ev1 hE
      refine lv_icmp_ge (tgt := 31) hx hb dX12_mostAsked_11 (by decide) (fun c2 => ?_) (fun c2 => ?_)
      · have hE := zifT c2 hE
        refine lv_iload_n hx hb dX12_mostAsked_31 rfl (lv_at hl 1 rfl) ?_
        exact ziretQ hQ hx hb hr rfl hlocks w4_1 rfl ⟨(zI.top _), (hE.symm.trans hX), trivial⟩ hw hS dX12_mostAsked_32
      · have hE := zifF c2 hE
        have k3 : zI 0 5 (w4_2) := zI.ltU (zI.nle c2) hw4_2 hv1 (by decide)
        have k4 : zI 1 6 (v1) := zI.ltD (zI.nle c2) hw4_2 hv1 (by decide)
        refine lv_iload_n hx hb dX12_mostAsked_14 rfl (lv_at hl 1 rfl) ?_
        refine lv_aload_n hx hb dX12_mostAsked_15 rfl (lv_at hl 0 rfl) ?_
        refine mget (v := .ref (y 4)) hx hb hts hiX12 hown hK hw 13 (by decide) lf23 rfl rfl dX12_mostAsked_16 ?_
        refine lv_iload_n hx hb dX12_mostAsked_19 rfl (lv_at hl 2 rfl) ?_
        refine miald hx hb hK hw 5 mWg4 k3 (by decide) dX12_mostAsked_20 (zgenE (zI.top _) (fun v5 ev5 _ => ?_))
        have hE := zletE ev5 hE
        refine va_mmax hx hb (hml.trans hl.1.symm) hown (hts (.methodLink RX12 404 Lib.Math.max.name) (ki (zr41 20 rfl))) (hts (.static Lib.Math.max.name) (ki (zr40 8 rfl))) (hts (.initialized "java/lang/Math") (ki (zr35 18 rfl))) (hts (.code Lib.Math.max.name Lib.Math.max.code 2 (some .int)) (ki (zr40 9 rfl))) (Nat.le_of_ble_eq_true rfl) (Nat.le_of_ble_eq_true rfl) (Nat.le_of_ble_eq_true rfl) (Nat.le_of_ble_eq_true rfl) dX12_mostAsked_21 (zgenE (zI.top _) (fun v6 ev6 _ => ?_))
        have hE := zletE ev6 hE
        refine lv_istore_n (lv' := [(1, .int v6), (0, .ref h0), (2, .int w4_2)]) hx hb dX12_mostAsked_24 rfl hl (by decide) rfl (fun ls hl => ?_)
        refine lv_iinc (v := w4_2 + 1) (lv' := [(2, .int (w4_2 + 1)), (1, .int v6), (0, .ref h0)]) hx hb dX12_mostAsked_25 hl (k := 2) rfl (rfl) (by decide) rfl (fun ls hl => ?_)
        have k7 : zI 1 6 (w4_2 + 1) := zI.add k3 (zI.lit (a := 1) (b := 1) (by decide)) (by decide)
        refine lv_goto (tgt := 4) hx hb dX12_mostAsked_28 (by decide) ?_
        exact ih4 v6 (w4_2 + 1) (k7.w (c := 0) (d := 6) (by decide)) hE (zI.up k3 (by decide) hm4) H locs ls hw hS (lv_sub hl [2, 1, 0] rfl)
  intro H locs hw hS ls hl
  have hl : lv_has ls 3 [(0, .ref h0)] := hl
  have hE := hX
  unfold Gm_mostAsked at hE
  refine lv_iconst (v := 0) hx hb dX12_mostAsked_0 (by decide) ?_
  refine lv_istore_n (lv' := [(1, .int 0), (0, .ref h0)]) hx hb dX12_mostAsked_1 rfl hl (by decide) rfl (fun ls hl => ?_)
  refine lv_iconst (v := 0) hx hb dX12_mostAsked_2 (by decide) ?_
  refine lv_istore_n (lv' := [(2, .int 0), (1, .int 0), (0, .ref h0)]) hx hb dX12_mostAsked_3 rfl hl (by decide) rfl (fun ls hl => ?_)
  exact cut4 7 0 0 ((zI.lit (a := 0) (b := 0) (c := 0) (by decide)).w (c := 0) (d := 6) (by decide)) hE (zI.m0 (zI.lit (a := 0) (b := 0) (c := 0) (by decide)) (by decide)) H locs ls hw hS (lv_sub hl [2, 1, 0] rfl)

noncomputable def Gm_person (a1 : Int32) (a2 : Int32) (r : zRr) (q : zRq) : Int32 × zRr :=
  zlet (α := zRr) (zset r 100 (fun _ => (0 : Int32))) <| fun r1 => zlet (α := Int32) ((Gm_isPerson a1 r1 q)) <| fun u2 => zif (u2 = (0 : Int32)) ((((-1) : Int32), r1)) (zlet (α := Int32) ((Gm_within a2 (0 : Int32) (5 : Int32))) <| fun u7 => zifn (u7 = (0 : Int32)) (zif ((2 : Int32) ≤ a2) (zif ((4 : Int32) ≤ a2) (zifn (a2 = (4 : Int32)) (zlet (α := Int32) (25 + a1) <| fun v19 => zlet (α := Int32) (r1 32 (zn v19)) <| fun v20 => (v20, r1)) (zlet (α := Int32) (19 + a1) <| fun v22 => zlet (α := Int32) (r1 32 (zn v22)) <| fun v23 => (v23, r1))) (zifn (a2 = (2 : Int32)) (zlet (α := Int32) (13 + a1) <| fun v27 => zlet (α := Int32) (r1 32 (zn v27)) <| fun v28 => (v28, r1)) (zlet (α := Int32) (7 + a1) <| fun v30 => zlet (α := Int32) (r1 32 (zn v30)) <| fun v31 => zlet (α := Int32) (13 + a1) <| fun v32 => zlet (α := Int32) (r1 32 (zn v32)) <| fun v33 => zlet (α := Int32) (v31 + v33) <| fun v34 => (v34, r1)))) (zifn (a2 = (0 : Int32)) (zlet (α := Int32) (1 + a1) <| fun v38 => zlet (α := Int32) (r1 32 (zn v38)) <| fun v39 => (v39, r1)) (zlet (α := Int32) (r1 6 (zn a1)) <| fun v41 => (v41, r1)))) ((((-1) : Int32), r1)))
set_option maxHeartbeats 4000000 in
set_option maxRecDepth 100000 in
theorem mc_person (l : Launch) (D : va_G) (ct : Nat → ClassId) (h0 : Nat) (y : Nat → Nat) (B : Int) (a1 : Int32) (a2 : Int32) (r : zRr) (q : zRq) (hJ0 : mJ B r) : zC l yX12_person (.code yX12_person cX12_person 3 (some .int) :: wsL_law0) ({ frames := 2, cells := 0, slots := 0, locals := 120 }) D ct [] [.ref h0, .int a1, .int a2] (mW ct h0 y r q) (S := Int32 × zRr) (fun u => some (.int u.1)) (fun u => zI (-2147483648) 2147483647 u.1 ∧ mJ B u.2 ∧ zFr [100] r u.2 ∧ u = (Gm_person a1 a2 r q) ∧ True) (fun u => mW ct h0 y u.2 q) 0 0 := by
  refine zofQ cX12_person 3 (some .int) (by decide) rfl (Nat.le_of_ble_eq_true rfl) ?_
  intro p e s m below meth c A a9 Q ha9 hx hb hr hml hts hown hlocks hname hK hA hZ hN hQ
  have hown : s.vm.findClass RX12 = some m.cls := hown
  have hiX12 : ∀ w ∈ wsX120, w ∈ .code yX12_person cX12_person 3 (some .int) :: wsL_law0 := fun _ h => ki (zs_wsX120 _ h)
  have lf29 := hts (.fieldLink RX12 29 "BeardPassModel" "kind" "[I") (ki (zr8 1 rfl))
  have lf108 := hts (.fieldLink RX12 108 "BeardPassModel" "s" "[I") (ki (zr9 4 rfl))
  have lf129 := hts (.fieldLink RX12 129 "BeardPassModel" "thrown" "I") (ki (zr10 1 rfl))
  obtain ⟨X, hX⟩ : ∃ X, X = (Gm_person a1 a2 r q) := ⟨_, rfl⟩
  intro H locs hw hS ls hl
  have hl : lv_has ls 3 [(0, .ref h0), (1, .int a1), (2, .int a2)] := hl
  have hE := hX
  unfold Gm_person at hE
  refine lv_aload_n hx hb dX12_person_0 rfl (lv_at hl 0 rfl) ?_
  refine lv_iconst (v := 0) hx hb dX12_person_1 (by decide) ?_
  refine mput (ty := .int) (v := .int 0) hx hb hts hiX12 hown hK hw hS 0 (by decide) lf129 rfl rfl (by decide +kernel) rfl rfl dX12_person_2 (zset r 100 (fun _ => (0 : Int32))) _ mWf0 (fun H locs hw hS => ?_)
  refine mgen (P := fun x => mJ B x ∧ zFr [100] r x) hw ⟨hJ0.setc rfl (fun _ => (zI.top _)), (zFr.refl).set rfl⟩ (fun r1 er1 hw pr1 => ?_)
  have hE := zletE er1 hE
  refine lv_aload_n hx hb dX12_person_5 rfl (lv_at hl 0 rfl) ?_
  refine lv_iload_n hx hb dX12_person_6 rfl (lv_at hl 1 rfl) ?_
  refine zcallW (va_runV (As := [.int a1]) (rest := []) ⟨hx, hb, hml, hown, hts⟩ (mc_isPerson l D ct h0 y B a1 r1 q pr1.1 H.size) (cwV 1 hts (kgV (zr31 5 rfl) (zr31 6 rfl) (zr31 7 rfl) (zr1 5 rfl) (zr31 8 rfl)) rfl rfl rfl (by decide +kernel) ⟨Nat.le_of_ble_eq_true rfl, Nat.le_of_ble_eq_true rfl⟩) (zpreV hK hw hS hA zZ.nil hN (List.range (mW ct h0 y r1 q).length) mWn (zrange _) 11 0 rfl mWo) rfl rfl hl.1 rfl (lv_room (Nat.le_of_ble_eq_true rfl)) dX12_person_7 ⟨Nat.le_of_ble_eq_true rfl, Nat.le_of_ble_eq_true rfl⟩) hw hS hA 10 rfl (fun u2 H locs pu2 hw hS => ?_)
  have hu2 : zI 0 1 u2 := pu2.1
  have yu2_0 : ¬ u2 = 0 → zI 0 5 a1 := pu2.2.1
  have xu2 : u2 = (Gm_isPerson a1 r1 q) := pu2.2.2.1
  have hE := zletE xu2 hE
  have hw : zPD D A (mW ct h0 y r1 q) H := hw
  refine zfr 10 [.int u2] rfl rfl ?_
  refine lv_if_eq (tgt := 22) hx hb dX12_person_10 (by decide) (fun c4 => ?_) (fun c4 => ?_)
  · have hE := zifT c4 hE
    have k5 : zI 0 0 (u2) := zI.eqq c4 (zI.lit (a := 0) (b := 0) (c := 0) (by decide))
    refine lv_iconst (v := (-1)) hx hb dX12_person_22 (by decide) ?_
    exact ziretQ hQ hx hb hr rfl hlocks ((-1), r1) rfl ⟨(zI.top _), pr1.1, pr1.2, (hE.symm.trans hX), trivial⟩ hw hS dX12_person_23
  · have hE := zifF c4 hE
    have k6 : zI 1 1 (u2) := zI.neD c4 hu2 (zI.lit (a := 0) (b := 0) (c := 0) (by decide)) (by decide)
    refine lv_iload_n hx hb dX12_person_13 rfl (lv_at hl 2 rfl) ?_
    refine lv_iconst (v := 0) hx hb dX12_person_14 (by decide) ?_
    refine lv_iconst (v := 5) hx hb dX12_person_15 (by decide) ?_
    refine zcallE (va_runS (As := [.int a2, .int 0, .int 5]) (rest := []) ⟨hx, hb, hml, hown, hts⟩ (mc_within l D ct a2 0 5 H.size) (va_cwS 3 hts (kgS (zr25 11 rfl) (zr25 12 rfl) (zr1 5 rfl) (zr25 13 rfl)) rfl rfl rfl (by decide +kernel) ⟨Nat.le_of_ble_eq_true rfl, Nat.le_of_ble_eq_true rfl⟩) (zpreS hK hw hS hA zZ.nil hN [] rfl rfl) rfl rfl hl.1 rfl (lv_room (Nat.le_of_ble_eq_true rfl)) dX12_person_16 ⟨Nat.le_of_ble_eq_true rfl, Nat.le_of_ble_eq_true rfl⟩) hw hS hA mWn 19 rfl (fun u7 H locs pu7 hw hS => ?_)
    have hu7 : zI 0 1 u7 := pu7.1
    have yu7_0 : ¬ u7 = 0 → (0 : Int32) ≤ a2 ∧ a2 ≤ (5 : Int32) := pu7.2.1
    have xu7 : u7 = (Gm_within a2 (0 : Int32) (5 : Int32)) := pu7.2.2.1
    have hE := zletE xu7 hE
    refine zfr 19 [.int u7] rfl rfl ?_
    refine lv_if_ne (tgt := 24) hx hb dX12_person_19 (by decide) (fun c9 => ?_) (fun c9 => ?_)
    · have hE := zifnT c9 hE
      have k10 : zI 1 1 (u7) := zI.neD c9 hu7 (zI.lit (a := 0) (b := 0) (c := 0) (by decide)) (by decide)
      have k11 : zI 0 2147483647 (a2) := zI.leD (yu7_0 c9).1 (zI.lit (a := 0) (b := 0) (c := 0) (by decide)) (zI.top _) (by decide)
      have k12 : zI 0 5 (a2) := zI.leU (yu7_0 c9).2 k11 (zI.lit (a := 5) (b := 5) (c := 5) (by decide)) (by decide)
      refine lv_iload_n hx hb dX12_person_24 rfl (lv_at hl 2 rfl) ?_
      refine lv_iconst (v := 2) hx hb dX12_person_25 (by decide) ?_
      refine lv_icmp_ge (tgt := 51) hx hb dX12_person_26 (by decide) (fun c13 => ?_) (fun c13 => ?_)
      · have hE := zifT c13 hE
        have k14 : zI 2 5 (a2) := zI.leD c13 (zI.lit (a := 2) (b := 2) (c := 2) (by decide)) k12 (by decide)
        refine lv_iload_n hx hb dX12_person_51 rfl (lv_at hl 2 rfl) ?_
        refine lv_iconst (v := 4) hx hb dX12_person_52 (by decide) ?_
        refine lv_icmp_ge (tgt := 93) hx hb dX12_person_53 (by decide) (fun c15 => ?_) (fun c15 => ?_)
        · have hE := zifT c15 hE
          have k16 : zI 4 5 (a2) := zI.leD c15 (zI.lit (a := 4) (b := 4) (c := 4) (by decide)) k14 (by decide)
          refine lv_iload_n hx hb dX12_person_93 rfl (lv_at hl 2 rfl) ?_
          refine lv_iconst (v := 4) hx hb dX12_person_94 (by decide) ?_
          refine lv_icmp_ne (tgt := 110) hx hb dX12_person_95 (by decide) (fun c17 => ?_) (fun c17 => ?_)
          · have hE := zifnT c17 hE
            have k18 : zI 5 5 (a2) := zI.neD c17 k16 (zI.lit (a := 4) (b := 4) (c := 4) (by decide)) (by decide)
            refine lv_aload_n hx hb dX12_person_110 rfl (lv_at hl 0 rfl) ?_
            refine mget (v := .ref (y 32)) hx hb hts hiX12 hown hK hw 45 (by decide) lf108 rfl rfl dX12_person_111 ?_
            refine lv_bipush (v := 25) hx hb dX12_person_114 (by decide) ?_
            refine lv_iload_n hx hb dX12_person_116 rfl (lv_at hl 1 rfl) ?_
            refine lv_iadd hx hb dX12_person_117 (zgenE (lo := 25) (hi := 30) (zI.add (zI.lit (a := 25) (b := 25) (c := 25) (by decide)) (yu2_0 c4) (by decide)) (fun v19 ev19 hv19 => ?_))
            have hE := zletE ev19 hE
            refine miald hx hb hK hw 33 mWg32 hv19 (by decide) dX12_person_118 (zgenE (lo := 0) (hi := 63) ((ms_25 pr1.1 hv19)) (fun v20 ev20 hv20 => ?_))
            have hE := zletE ev20 hE
            exact ziretQ hQ hx hb hr rfl hlocks (v20, r1) rfl ⟨(zI.top _), pr1.1, pr1.2, (hE.symm.trans hX), trivial⟩ hw hS dX12_person_119
          · have hE := zifnF c17 hE
            have k21 : zI 4 4 (a2) := zI.eqq c17 (zI.lit (a := 4) (b := 4) (c := 4) (by decide))
            refine lv_aload_n hx hb dX12_person_98 rfl (lv_at hl 0 rfl) ?_
            refine mget (v := .ref (y 32)) hx hb hts hiX12 hown hK hw 45 (by decide) lf108 rfl rfl dX12_person_99 ?_
            refine lv_bipush (v := 19) hx hb dX12_person_102 (by decide) ?_
            refine lv_iload_n hx hb dX12_person_104 rfl (lv_at hl 1 rfl) ?_
            refine lv_iadd hx hb dX12_person_105 (zgenE (lo := 19) (hi := 24) (zI.add (zI.lit (a := 19) (b := 19) (c := 19) (by decide)) (yu2_0 c4) (by decide)) (fun v22 ev22 hv22 => ?_))
            have hE := zletE ev22 hE
            refine miald hx hb hK hw 33 mWg32 hv22 (by decide) dX12_person_106 (zgenE (zI.top _) (fun v23 ev23 _ => ?_))
            have hE := zletE ev23 hE
            refine lv_goto (tgt := 119) hx hb dX12_person_107 (by decide) ?_
            exact ziretQ hQ hx hb hr rfl hlocks (v23, r1) rfl ⟨(zI.top _), pr1.1, pr1.2, (hE.symm.trans hX), trivial⟩ hw hS dX12_person_119
        · have hE := zifF c15 hE
          have k24 : zI 2 3 (a2) := zI.ltU (zI.nle c15) k14 (zI.lit (a := 4) (b := 4) (c := 4) (by decide)) (by decide)
          refine lv_iload_n hx hb dX12_person_56 rfl (lv_at hl 2 rfl) ?_
          refine lv_iconst (v := 2) hx hb dX12_person_57 (by decide) ?_
          refine lv_icmp_ne (tgt := 83) hx hb dX12_person_58 (by decide) (fun c25 => ?_) (fun c25 => ?_)
          · have hE := zifnT c25 hE
            have k26 : zI 3 3 (a2) := zI.neD c25 k24 (zI.lit (a := 2) (b := 2) (c := 2) (by decide)) (by decide)
            refine lv_aload_n hx hb dX12_person_83 rfl (lv_at hl 0 rfl) ?_
            refine mget (v := .ref (y 32)) hx hb hts hiX12 hown hK hw 45 (by decide) lf108 rfl rfl dX12_person_84 ?_
            refine lv_bipush (v := 13) hx hb dX12_person_87 (by decide) ?_
            refine lv_iload_n hx hb dX12_person_89 rfl (lv_at hl 1 rfl) ?_
            refine lv_iadd hx hb dX12_person_90 (zgenE (lo := 13) (hi := 18) (zI.add (zI.lit (a := 13) (b := 13) (c := 13) (by decide)) (yu2_0 c4) (by decide)) (fun v27 ev27 hv27 => ?_))
            have hE := zletE ev27 hE
            refine miald hx hb hK hw 33 mWg32 hv27 (by decide) dX12_person_91 (zgenE (lo := 0) (hi := 41) ((ms_13 pr1.1 hv27)) (fun v28 ev28 hv28 => ?_))
            have hE := zletE ev28 hE
            exact ziretQ hQ hx hb hr rfl hlocks (v28, r1) rfl ⟨(zI.top _), pr1.1, pr1.2, (hE.symm.trans hX), trivial⟩ hw hS dX12_person_92
          · have hE := zifnF c25 hE
            have k29 : zI 2 2 (a2) := zI.eqq c25 (zI.lit (a := 2) (b := 2) (c := 2) (by decide))
            refine lv_aload_n hx hb dX12_person_61 rfl (lv_at hl 0 rfl) ?_
            refine mget (v := .ref (y 32)) hx hb hts hiX12 hown hK hw 45 (by decide) lf108 rfl rfl dX12_person_62 ?_
            refine lv_bipush (v := 7) hx hb dX12_person_65 (by decide) ?_
            refine lv_iload_n hx hb dX12_person_67 rfl (lv_at hl 1 rfl) ?_
            refine lv_iadd hx hb dX12_person_68 (zgenE (lo := 7) (hi := 12) (zI.add (zI.lit (a := 7) (b := 7) (c := 7) (by decide)) (yu2_0 c4) (by decide)) (fun v30 ev30 hv30 => ?_))
            have hE := zletE ev30 hE
            refine miald hx hb hK hw 33 mWg32 hv30 (by decide) dX12_person_69 (zgenE (zI.top _) (fun v31 ev31 _ => ?_))
            have hE := zletE ev31 hE
            refine lv_aload_n hx hb dX12_person_70 rfl (lv_at hl 0 rfl) ?_
            refine mget (v := .ref (y 32)) hx hb hts hiX12 hown hK hw 45 (by decide) lf108 rfl rfl dX12_person_71 ?_
            refine lv_bipush (v := 13) hx hb dX12_person_74 (by decide) ?_
            refine lv_iload_n hx hb dX12_person_76 rfl (lv_at hl 1 rfl) ?_
            refine lv_iadd hx hb dX12_person_77 (zgenE (lo := 13) (hi := 18) (zI.add (zI.lit (a := 13) (b := 13) (c := 13) (by decide)) (yu2_0 c4) (by decide)) (fun v32 ev32 hv32 => ?_))
            have hE := zletE ev32 hE
            refine miald hx hb hK hw 33 mWg32 hv32 (by decide) dX12_person_78 (zgenE (lo := 0) (hi := 41) ((ms_13 pr1.1 hv32)) (fun v33 ev33 hv33 => ?_))
            have hE := zletE ev33 hE
            refine lv_iadd hx hb dX12_person_79 (zgenE (zI.top _) (fun v34 ev34 _ => ?_))
            have hE := zletE ev34 hE
            refine lv_goto (tgt := 92) hx hb dX12_person_80 (by decide) ?_
            exact ziretQ hQ hx hb hr rfl hlocks (v34, r1) rfl ⟨(zI.top _), pr1.1, pr1.2, (hE.symm.trans hX), trivial⟩ hw hS dX12_person_92
      · have hE := zifF c13 hE
        have k35 : zI 0 1 (a2) := zI.ltU (zI.nle c13) k12 (zI.lit (a := 2) (b := 2) (c := 2) (by decide)) (by decide)
        refine lv_iload_n hx hb dX12_person_29 rfl (lv_at hl 2 rfl) ?_
        refine lv_if_ne (tgt := 42) hx hb dX12_person_30 (by decide) (fun c36 => ?_) (fun c36 => ?_)
        · have hE := zifnT c36 hE
          have k37 : zI 1 1 (a2) := zI.neD c36 k35 (zI.lit (a := 0) (b := 0) (c := 0) (by decide)) (by decide)
          refine lv_aload_n hx hb dX12_person_42 rfl (lv_at hl 0 rfl) ?_
          refine mget (v := .ref (y 32)) hx hb hts hiX12 hown hK hw 45 (by decide) lf108 rfl rfl dX12_person_43 ?_
          refine lv_iconst (v := 1) hx hb dX12_person_46 (by decide) ?_
          refine lv_iload_n hx hb dX12_person_47 rfl (lv_at hl 1 rfl) ?_
          refine lv_iadd hx hb dX12_person_48 (zgenE (lo := 1) (hi := 6) (zI.add (zI.lit (a := 1) (b := 1) (c := 1) (by decide)) (yu2_0 c4) (by decide)) (fun v38 ev38 hv38 => ?_))
          have hE := zletE ev38 hE
          refine miald hx hb hK hw 33 mWg32 hv38 (by decide) dX12_person_49 (zgenE (lo := 0) (hi := 5) ((ms_1 pr1.1 hv38)) (fun v39 ev39 hv39 => ?_))
          have hE := zletE ev39 hE
          exact ziretQ hQ hx hb hr rfl hlocks (v39, r1) rfl ⟨(zI.top _), pr1.1, pr1.2, (hE.symm.trans hX), trivial⟩ hw hS dX12_person_50
        · have hE := zifnF c36 hE
          have k40 : zI 0 0 (a2) := zI.eqq c36 (zI.lit (a := 0) (b := 0) (c := 0) (by decide))
          refine lv_aload_n hx hb dX12_person_33 rfl (lv_at hl 0 rfl) ?_
          refine mget (v := .ref (y 6)) hx hb hts hiX12 hown hK hw 15 (by decide) lf29 rfl rfl dX12_person_34 ?_
          refine lv_iload_n hx hb dX12_person_37 rfl (lv_at hl 1 rfl) ?_
          refine miald hx hb hK hw 7 mWg6 (yu2_0 c4) (by decide) dX12_person_38 (zgenE (zI.top _) (fun v41 ev41 _ => ?_))
          have hE := zletE ev41 hE
          refine lv_goto (tgt := 50) hx hb dX12_person_39 (by decide) ?_
          exact ziretQ hQ hx hb hr rfl hlocks (v41, r1) rfl ⟨(zI.top _), pr1.1, pr1.2, (hE.symm.trans hX), trivial⟩ hw hS dX12_person_50
    · have hE := zifnF c9 hE
      have k42 : zI 0 0 (u7) := zI.eqq c9 (zI.lit (a := 0) (b := 0) (c := 0) (by decide))
      refine lv_iconst (v := (-1)) hx hb dX12_person_22 (by decide) ?_
      exact ziretQ hQ hx hb hr rfl hlocks ((-1), r1) rfl ⟨(zI.top _), pr1.1, pr1.2, (hE.symm.trans hX), trivial⟩ hw hS dX12_person_23
