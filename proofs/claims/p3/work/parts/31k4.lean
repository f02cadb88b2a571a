noncomputable def Gk_valueOf (a0 : Int32) (a1 : Int32) (a2 : Int32) (a3 : Int32) (a4 : Int32) : Int32 :=
  zif (a0.toInt < (-4) ∨ (-1) < a0.toInt) (a0) (zif (a0 = ((-4) : Int32)) (a4) (zif (a0 = ((-3) : Int32)) (a3) (zif (a0 = ((-2) : Int32)) (a2) (zif (a0 = ((-1) : Int32)) (a1) (default)))))
set_option maxHeartbeats 4000000 in
set_option maxRecDepth 100000 in
theorem kc_valueOf (l : Launch) (D : va_G) (ct : Nat → ClassId) (a0 : Int32) (a1 : Int32) (a2 : Int32) (a3 : Int32) (a4 : Int32) : zC l yX4_valueOf (.code yX4_valueOf cX4_valueOf 5 (some .int) :: wsL_law0) ({ frames := 1, cells := 0, slots := 0, locals := 80 }) D ct [] [.int a0, .int a1, .int a2, .int a3, .int a4] ([]) (S := Int32) (fun u => some (.int u)) (fun u => zI (-2147483648) 2147483647 u ∧ u = (Gk_valueOf a0 a1 a2 a3 a4) ∧ True) (fun u => []) 0 0 := by
  refine zofQ cX4_valueOf 5 (some .int) (by decide) rfl (Nat.le_of_ble_eq_true rfl) ?_
  intro p e s m below meth c A a9 Q ha9 hx hb hr hml hts hown hlocks hname hK hA hZ hN hQ
  have hown : s.vm.findClass RX4 = some m.cls := hown
  obtain ⟨X, hX⟩ : ∃ X, X = (Gk_valueOf a0 a1 a2 a3 a4) := ⟨_, rfl⟩
  intro H locs hw hS ls hl
  have hl : lv_has ls 5 [(0, .int a0), (1, .int a1), (2, .int a2), (3, .int a3), (4, .int a4)] := hl
  have hE := hX
  unfold Gk_valueOf at hE
  refine lv_iload_n hx hb dX4_valueOf_0 rfl (lv_at hl 0 rfl) ?_
  by_cases c1 : a0.toInt < (-4) ∨ (-1) < a0.toInt
  · refine lv_tableOut (tgt := 41) hx hb dX4_valueOf_1 c1 (by decide) ?_
    have hE := zifT c1 hE
    refine lv_iload_n hx hb dX4_valueOf_41 rfl (lv_at hl 0 rfl) ?_
    exact ziretQ hQ hx hb hr rfl hlocks a0 rfl ⟨(zI.top _), (hE.symm.trans hX), trivial⟩ hw hS dX4_valueOf_42
  · have hE := zifF c1 hE
    obtain ⟨j2, hj3, hxj4⟩ := ksw (lo := (-4)) (hi := (-1)) (k := 4) (by decide) c1
    rcases (show j2 = 0 ∨ j2 = 1 ∨ j2 = 2 ∨ j2 = 3 by omega) with rfl | rfl | rfl | rfl
    · refine lv_tableIn (off := 37) (tgt := 38) hx hb dX4_valueOf_1 (by rw [hxj4]; decide) (by rw [hxj4]; decide) (by rw [hxj4]; rfl) (by decide) ?_
      have hv5 : a0 = ((-4) : Int32) := Int32.toInt_inj.mp (hxj4.trans (by decide))
      have hE := zifT hv5 hE
      refine lv_iload hx hb dX4_valueOf_38 (lv_at hl 4 rfl) ?_
      exact ziretQ hQ hx hb hr rfl hlocks a4 rfl ⟨(zI.top _), (hE.symm.trans hX), trivial⟩ hw hS dX4_valueOf_40
    · refine lv_tableIn (off := 35) (tgt := 36) hx hb dX4_valueOf_1 (by rw [hxj4]; decide) (by rw [hxj4]; decide) (by rw [hxj4]; rfl) (by decide) ?_
      have hv6 : a0 = ((-3) : Int32) := Int32.toInt_inj.mp (hxj4.trans (by decide))
      have hE := zifF (fun e9 => absurd (hv6.symm.trans e9) (by decide)) hE
      have hE := zifT hv6 hE
      refine lv_iload_n hx hb dX4_valueOf_36 rfl (lv_at hl 3 rfl) ?_
      exact ziretQ hQ hx hb hr rfl hlocks a3 rfl ⟨(zI.top _), (hE.symm.trans hX), trivial⟩ hw hS dX4_valueOf_37
    · refine lv_tableIn (off := 33) (tgt := 34) hx hb dX4_valueOf_1 (by rw [hxj4]; decide) (by rw [hxj4]; decide) (by rw [hxj4]; rfl) (by decide) ?_
      have hv7 : a0 = ((-2) : Int32) := Int32.toInt_inj.mp (hxj4.trans (by decide))
      have hE := zifF (fun e9 => absurd (hv7.symm.trans e9) (by decide)) hE
      have hE := zifF (fun e9 => absurd (hv7.symm.trans e9) (by decide)) hE
      have hE := zifT hv7 hE
      refine lv_iload_n hx hb dX4_valueOf_34 rfl (lv_at hl 2 rfl) ?_
      exact ziretQ hQ hx hb hr rfl hlocks a2 rfl ⟨(zI.top _), (hE.symm.trans hX), trivial⟩ hw hS dX4_valueOf_35
    · refine lv_tableIn (off := 31) (tgt := 32) hx hb dX4_valueOf_1 (by rw [hxj4]; decide) (by rw [hxj4]; decide) (by rw [hxj4]; rfl) (by decide) ?_
      have hv8 : a0 = ((-1) : Int32) := Int32.toInt_inj.mp (hxj4.trans (by decide))
      have hE := zifF (fun e9 => absurd (hv8.symm.trans e9) (by decide)) hE
      have hE := zifF (fun e9 => absurd (hv8.symm.trans e9) (by decide)) hE
      have hE := zifF (fun e9 => absurd (hv8.symm.trans e9) (by decide)) hE
      have hE := zifT hv8 hE
      refine lv_iload_n hx hb dX4_valueOf_32 rfl (lv_at hl 1 rfl) ?_
      exact ziretQ hQ hx hb hr rfl hlocks a1 rfl ⟨(zI.top _), (hE.symm.trans hX), trivial⟩ hw hS dX4_valueOf_33

noncomputable def Gk_join (a0 : Int32) (a1 : Int32) (a2 : Int32) : Int32 :=
  zif (a0.toInt < (-11) ∨ (-6) < a0.toInt) (zlet (α := Int32) (a1 * a2) <| fun v2 => v2) (zif (a0 = ((-11) : Int32)) (zlet (α := Int32) (a1 - a2) <| fun v7 => v7) (zif (a0 = ((-10) : Int32)) (zlet (α := Int32) (a1 + a2) <| fun v9 => v9) (zif (a0 = ((-9) : Int32)) (zifn (a1 = a2) ((0 : Int32)) ((1 : Int32))) (zif (a0 = ((-8) : Int32)) (zif (a2 ≤ a1) ((0 : Int32)) ((1 : Int32))) (zif (a0 = ((-7) : Int32)) (zifn (a1 = (0 : Int32)) ((1 : Int32)) (zif (a2 = (0 : Int32)) ((0 : Int32)) ((1 : Int32)))) (zif (a0 = ((-6) : Int32)) (zif (a1 = (0 : Int32)) ((0 : Int32)) (zif (a2 = (0 : Int32)) ((0 : Int32)) ((1 : Int32)))) (default)))))))
set_option maxHeartbeats 4000000 in
set_option maxRecDepth 100000 in
theorem kc_join (l : Launch) (D : va_G) (ct : Nat → ClassId) (a0 : Int32) (a1 : Int32) (a2 : Int32) : zC l yX4_join (.code yX4_join cX4_join 3 (some .int) :: wsL_law0) ({ frames := 1, cells := 0, slots := 0, locals := 80 }) D ct [] [.int a0, .int a1, .int a2] ([]) (S := Int32) (fun u => some (.int u)) (fun u => zI (-2147483648) 2147483647 u ∧ u = (Gk_join a0 a1 a2) ∧ True) (fun u => []) 0 0 := by
  refine zofQ cX4_join 3 (some .int) (by decide) rfl (Nat.le_of_ble_eq_true rfl) ?_
  intro p e s m below meth c A a9 Q ha9 hx hb hr hml hts hown hlocks hname hK hA hZ hN hQ
  have hown : s.vm.findClass RX4 = some m.cls := hown
  obtain ⟨X, hX⟩ : ∃ X, X = (Gk_join a0 a1 a2) := ⟨_, rfl⟩
  intro H locs hw hS ls hl
  have hl : lv_has ls 3 [(0, .int a0), (1, .int a1), (2, .int a2)] := hl
  have hE := hX
  unfold Gk_join at hE
  refine lv_iload_n hx hb dX4_join_0 rfl (lv_at hl 0 rfl) ?_
  by_cases c1 : a0.toInt < (-11) ∨ (-6) < a0.toInt
  · refine lv_tableOut (tgt := 98) hx hb dX4_join_1 c1 (by decide) ?_
    have hE := zifT c1 hE
    refine lv_iload_n hx hb dX4_join_98 rfl (lv_at hl 1 rfl) ?_
    refine lv_iload_n hx hb dX4_join_99 rfl (lv_at hl 2 rfl) ?_
    refine lv_imul hx hb dX4_join_100 (zgenE (zI.top _) (fun v2 ev2 _ => ?_))
    have hE := zletE ev2 hE
    exact ziretQ hQ hx hb hr rfl hlocks v2 rfl ⟨(zI.top _), (hE.symm.trans hX), trivial⟩ hw hS dX4_join_101
  · have hE := zifF c1 hE
    obtain ⟨j3, hj4, hxj5⟩ := ksw (lo := (-11)) (hi := (-6)) (k := 6) (by decide) c1
    rcases (show j3 = 0 ∨ j3 = 1 ∨ j3 = 2 ∨ j3 = 3 ∨ j3 = 4 ∨ j3 = 5 by omega) with rfl | rfl | rfl | rfl | rfl | rfl
    · refine lv_tableIn (off := 93) (tgt := 94) hx hb dX4_join_1 (by rw [hxj5]; decide) (by rw [hxj5]; decide) (by rw [hxj5]; rfl) (by decide) ?_
      have hv6 : a0 = ((-11) : Int32) := Int32.toInt_inj.mp (hxj5.trans (by decide))
      have hE := zifT hv6 hE
      refine lv_iload_n hx hb dX4_join_94 rfl (lv_at hl 1 rfl) ?_
      refine lv_iload_n hx hb dX4_join_95 rfl (lv_at hl 2 rfl) ?_
      refine lv_isub hx hb dX4_join_96 (zgenE (zI.top _) (fun v7 ev7 _ => ?_))
      have hE := zletE ev7 hE
      exact ziretQ hQ hx hb hr rfl hlocks v7 rfl ⟨(zI.top _), (hE.symm.trans hX), trivial⟩ hw hS dX4_join_97
    · refine lv_tableIn (off := 89) (tgt := 90) hx hb dX4_join_1 (by rw [hxj5]; decide) (by rw [hxj5]; decide) (by rw [hxj5]; rfl) (by decide) ?_
      have hv8 : a0 = ((-10) : Int32) := Int32.toInt_inj.mp (hxj5.trans (by decide))
      have hE := zifF (fun e9 => absurd (hv8.symm.trans e9) (by decide)) hE
      have hE := zifT hv8 hE
      refine lv_iload_n hx hb dX4_join_90 rfl (lv_at hl 1 rfl) ?_
      refine lv_iload_n hx hb dX4_join_91 rfl (lv_at hl 2 rfl) ?_
      refine lv_iadd hx hb dX4_join_92 (zgenE (zI.top _) (fun v9 ev9 _ => ?_))
      have hE := zletE ev9 hE
      exact ziretQ hQ hx hb hr rfl hlocks v9 rfl ⟨(zI.top _), (hE.symm.trans hX), trivial⟩ hw hS dX4_join_93
    · refine lv_tableIn (off := 78) (tgt := 79) hx hb dX4_join_1 (by rw [hxj5]; decide) (by rw [hxj5]; decide) (by rw [hxj5]; rfl) (by decide) ?_
      have hv10 : a0 = ((-9) : Int32) := Int32.toInt_inj.mp (hxj5.trans (by decide))
      have hE := zifF (fun e9 => absurd (hv10.symm.trans e9) (by decide)) hE
      have hE := zifF (fun e9 => absurd (hv10.symm.trans e9) (by decide)) hE
      have hE := zifT hv10 hE
      refine lv_iload_n hx hb dX4_join_79 rfl (lv_at hl 1 rfl) ?_
      refine lv_iload_n hx hb dX4_join_80 rfl (lv_at hl 2 rfl) ?_
      refine lv_icmp_ne (tgt := 88) hx hb dX4_join_81 (by decide) (fun c11 => ?_) (fun c11 => ?_)
      · have hE := zifnT c11 hE
        refine lv_iconst (v := 0) hx hb dX4_join_88 (by decide) ?_
        exact ziretQ hQ hx hb hr rfl hlocks (0 : Int32) rfl ⟨(zI.top _), (hE.symm.trans hX), trivial⟩ hw hS dX4_join_89
      · have hE := zifnF c11 hE
        refine lv_iconst (v := 1) hx hb dX4_join_84 (by decide) ?_
        refine lv_goto (tgt := 89) hx hb dX4_join_85 (by decide) ?_
        exact ziretQ hQ hx hb hr rfl hlocks (1 : Int32) rfl ⟨(zI.top _), (hE.symm.trans hX), trivial⟩ hw hS dX4_join_89
    · refine lv_tableIn (off := 67) (tgt := 68) hx hb dX4_join_1 (by rw [hxj5]; decide) (by rw [hxj5]; decide) (by rw [hxj5]; rfl) (by decide) ?_
      have hv12 : a0 = ((-8) : Int32) := Int32.toInt_inj.mp (hxj5.trans (by decide))
      have hE := zifF (fun e9 => absurd (hv12.symm.trans e9) (by decide)) hE
      have hE := zifF (fun e9 => absurd (hv12.symm.trans e9) (by decide)) hE
      have hE := zifF (fun e9 => absurd (hv12.symm.trans e9) (by decide)) hE
      have hE := zifT hv12 hE
      refine lv_iload_n hx hb dX4_join_68 rfl (lv_at hl 1 rfl) ?_
      refine lv_iload_n hx hb dX4_join_69 rfl (lv_at hl 2 rfl) ?_
      refine lv_icmp_ge (tgt := 77) hx hb dX4_join_70 (by decide) (fun c13 => ?_) (fun c13 => ?_)
      · have hE := zifT c13 hE
        refine lv_iconst (v := 0) hx hb dX4_join_77 (by decide) ?_
        exact ziretQ hQ hx hb hr rfl hlocks (0 : Int32) rfl ⟨(zI.top _), (hE.symm.trans hX), trivial⟩ hw hS dX4_join_78
      · have hE := zifF c13 hE
        refine lv_iconst (v := 1) hx hb dX4_join_73 (by decide) ?_
        refine lv_goto (tgt := 78) hx hb dX4_join_74 (by decide) ?_
        exact ziretQ hQ hx hb hr rfl hlocks (1 : Int32) rfl ⟨(zI.top _), (hE.symm.trans hX), trivial⟩ hw hS dX4_join_78
    · refine lv_tableIn (off := 53) (tgt := 54) hx hb dX4_join_1 (by rw [hxj5]; decide) (by rw [hxj5]; decide) (by rw [hxj5]; rfl) (by decide) ?_
      have hv14 : a0 = ((-7) : Int32) := Int32.toInt_inj.mp (hxj5.trans (by decide))
      have hE := zifF (fun e9 => absurd (hv14.symm.trans e9) (by decide)) hE
      have hE := zifF (fun e9 => absurd (hv14.symm.trans e9) (by decide)) hE
      have hE := zifF (fun e9 => absurd (hv14.symm.trans e9) (by decide)) hE
      have hE := zifF (fun e9 => absurd (hv14.symm.trans e9) (by decide)) hE
      have hE := zifT hv14 hE
      refine lv_iload_n hx hb dX4_join_54 rfl (lv_at hl 1 rfl) ?_
      refine lv_if_ne (tgt := 62) hx hb dX4_join_55 (by decide) (fun c15 => ?_) (fun c15 => ?_)
      · have hE := zifnT c15 hE
        refine lv_iconst (v := 1) hx hb dX4_join_62 (by decide) ?_
        refine lv_goto (tgt := 67) hx hb dX4_join_63 (by decide) ?_
        exact ziretQ hQ hx hb hr rfl hlocks (1 : Int32) rfl ⟨(zI.top _), (hE.symm.trans hX), trivial⟩ hw hS dX4_join_67
      · have hE := zifnF c15 hE
        have k16 : zI 0 0 (a1) := zI.eqq c15 (zI.lit (a := 0) (b := 0) (c := 0) (by decide))
        refine lv_iload_n hx hb dX4_join_58 rfl (lv_at hl 2 rfl) ?_
        refine lv_if_eq (tgt := 66) hx hb dX4_join_59 (by decide) (fun c17 => ?_) (fun c17 => ?_)
        · have hE := zifT c17 hE
          have k18 : zI 0 0 (a2) := zI.eqq c17 (zI.lit (a := 0) (b := 0) (c := 0) (by decide))
          refine lv_iconst (v := 0) hx hb dX4_join_66 (by decide) ?_
          exact ziretQ hQ hx hb hr rfl hlocks (0 : Int32) rfl ⟨(zI.top _), (hE.symm.trans hX), trivial⟩ hw hS dX4_join_67
        · have hE := zifF c17 hE
          refine lv_iconst (v := 1) hx hb dX4_join_62 (by decide) ?_
          refine lv_goto (tgt := 67) hx hb dX4_join_63 (by decide) ?_
          exact ziretQ hQ hx hb hr rfl hlocks (1 : Int32) rfl ⟨(zI.top _), (hE.symm.trans hX), trivial⟩ hw hS dX4_join_67
    · refine lv_tableIn (off := 39) (tgt := 40) hx hb dX4_join_1 (by rw [hxj5]; decide) (by rw [hxj5]; decide) (by rw [hxj5]; rfl) (by decide) ?_
      have hv19 : a0 = ((-6) : Int32) := Int32.toInt_inj.mp (hxj5.trans (by decide))
      have hE := zifF (fun e9 => absurd (hv19.symm.trans e9) (by decide)) hE
      have hE := zifF (fun e9 => absurd (hv19.symm.trans e9) (by decide)) hE
      have hE := zifF (fun e9 => absurd (hv19.symm.trans e9) (by decide)) hE
      have hE := zifF (fun e9 => absurd (hv19.symm.trans e9) (by decide)) hE
      have hE := zifF (fun e9 => absurd (hv19.symm.trans e9) (by decide)) hE
      have hE := zifT hv19 hE
      refine lv_iload_n hx hb dX4_join_40 rfl (lv_at hl 1 rfl) ?_
      refine lv_if_eq (tgt := 52) hx hb dX4_join_41 (by decide) (fun c20 => ?_) (fun c20 => ?_)
      · have hE := zifT c20 hE
        have k21 : zI 0 0 (a1) := zI.eqq c20 (zI.lit (a := 0) (b := 0) (c := 0) (by decide))
        refine lv_iconst (v := 0) hx hb dX4_join_52 (by decide) ?_
        exact ziretQ hQ hx hb hr rfl hlocks (0 : Int32) rfl ⟨(zI.top _), (hE.symm.trans hX), trivial⟩ hw hS dX4_join_53
      · have hE := zifF c20 hE
        refine lv_iload_n hx hb dX4_join_44 rfl (lv_at hl 2 rfl) ?_
        refine lv_if_eq (tgt := 52) hx hb dX4_join_45 (by decide) (fun c22 => ?_) (fun c22 => ?_)
        · have hE := zifT c22 hE
          have k23 : zI 0 0 (a2) := zI.eqq c22 (zI.lit (a := 0) (b := 0) (c := 0) (by decide))
          refine lv_iconst (v := 0) hx hb dX4_join_52 (by decide) ?_
          exact ziretQ hQ hx hb hr rfl hlocks (0 : Int32) rfl ⟨(zI.top _), (hE.symm.trans hX), trivial⟩ hw hS dX4_join_53
        · have hE := zifF c22 hE
          refine lv_iconst (v := 1) hx hb dX4_join_48 (by decide) ?_
          refine lv_goto (tgt := 53) hx hb dX4_join_49 (by decide) ?_
          exact ziretQ hQ hx hb hr rfl hlocks (1 : Int32) rfl ⟨(zI.top _), (hE.symm.trans hX), trivial⟩ hw hS dX4_join_53

noncomputable def Gk_passes_150 (w6_6 : Int32) (ih6 : Int32 → Int32 → zRr → (Int32 × zRr)) (w150_5 : Int32) (rw150 : zRr) : Int32 × zRr :=
  ih6 w150_5 (w6_6 + 1) rw150
noncomputable def Gk_passes_104 (w6_5 : Int32) (w6_6 : Int32) (rw6 : zRr) (ih6 : Int32 → Int32 → zRr → (Int32 × zRr)) (w104_7 : Int32) : Int32 × zRr :=
  zif (((-5) : Int32) ≤ w104_7) (Gk_passes_150 w6_6 ih6 w6_5 rw6) (zif (w6_5 ≤ (1 : Int32)) (Gk_passes_150 w6_6 ih6 w6_5 rw6) (zlet (α := Int32) ((w6_5 + (-1)) - 1) <| fun v9 => zlet (α := Int32) ((w6_5 + (-1)) - 1) <| fun v10 => zlet (α := Int32) (rw6 182 (zn v10)) <| fun v11 => zlet (α := Int32) (rw6 182 (zn (w6_5 + (-1)))) <| fun v12 => zlet (α := Int32) ((Gk_join w104_7 v11 v12)) <| fun u13 => zlet (α := zRr) (zset rw6 182 (upd (rw6 182) (zn v9) u13)) <| fun r15 => Gk_passes_150 w6_6 ih6 (w6_5 + (-1)) r15))
noncomputable def Gk_passes_100 (w6_5 : Int32) (w6_6 : Int32) (rw6 : zRr) (ih6 : Int32 → Int32 → zRr → (Int32 × zRr)) (w100_s0 : Int32) (w100_s1 : Int32) : Int32 × zRr :=
  zlet (α := zRr) (zset rw6 182 (upd (rw6 182) (zn w100_s1) w100_s0)) <| fun r16 => Gk_passes_150 w6_6 ih6 w6_5 r16
noncomputable def Bk_passes_6 (a1 : Int32) (a2 : Int32) (a3 : Int32) (a4 : Int32) (ih6 : Int32 → Int32 → zRr → (Int32 × zRr)) (w6_5 : Int32) (w6_6 : Int32) (rw6 : zRr) : Int32 × zRr :=
  zlet (α := Int32) (rw6 180 2) <| fun v17 => zif (v17 ≤ w6_6) (zif (w6_5 ≤ (0 : Int32)) (((0 : Int32), rw6)) (zlet (α := Int32) (w6_5 - 1) <| fun v22 => zlet (α := Int32) (rw6 182 (zn v22)) <| fun v23 => zif (v23 = (0 : Int32)) (((0 : Int32), rw6)) (((1 : Int32), rw6)))) (zlet (α := Int32) (rw6 181 (zn w6_6)) <| fun v28 => zif (v28 ≤ ((-5) : Int32)) (zifn (v28 = ((-5) : Int32)) (Gk_passes_104 w6_5 w6_6 rw6 ih6 v28) (zif (w6_5 ≤ (0 : Int32)) (Gk_passes_104 w6_5 w6_6 rw6 ih6 v28) (zlet (α := Int32) (w6_5 - 1) <| fun v37 => zlet (α := Int32) (w6_5 - 1) <| fun v38 => zlet (α := Int32) (rw6 182 (zn v38)) <| fun v39 => zifn (v39 = (0 : Int32)) (Gk_passes_100 w6_5 w6_6 rw6 ih6 0 v37) (Gk_passes_100 w6_5 w6_6 rw6 ih6 1 v37)))) (zif (w6_5 < (32 : Int32)) (zlet (α := Int32) ((Gk_valueOf v28 a1 a2 a3 a4)) <| fun u45 => zlet (α := zRr) (zset rw6 182 (upd (rw6 182) (zn w6_5) u45)) <| fun r47 => Gk_passes_150 w6_6 ih6 (w6_5 + 1) r47) (((0 : Int32), rw6))))
noncomputable def Gk_passes_6 (a1 : Int32) (a2 : Int32) (a3 : Int32) (a4 : Int32) (n : Nat) : Int32 → Int32 → zRr → (Int32 × zRr) :=
  Nat.rec (motive := fun _ => Int32 → Int32 → zRr → (Int32 × zRr)) (fun _ _ rw6 => (default, rw6)) (fun _ ih => Bk_passes_6 a1 a2 a3 a4 ih) n
noncomputable def Gk_passes (a1 : Int32) (a2 : Int32) (a3 : Int32) (a4 : Int32) (r : zRr) (q : zRq) : Int32 × zRr :=
  Gk_passes_6 a1 a2 a3 a4 1001 0 0 r
set_option maxHeartbeats 4000000 in
set_option maxRecDepth 100000 in
theorem kc_passes (l : Launch) (D : va_G) (ct : Nat → ClassId) (E : Nat → Nat) (y : Nat → Nat) (a1 : Int32) (a2 : Int32) (a3 : Int32) (a4 : Int32) (r : zRr) (q : zRq) (hJ0 : kJ r) (hEi : kEi E) : cC l yX4_passes (.code yX4_passes cX4_passes 8 (some .boolean) :: wsL_law0) ({ frames := 2, cells := 0, slots := 0, locals := 120 }) D ct E [.ref (y 180), .int a1, .int a2, .int a3, .int a4] (kW ct E y r q) (S := Int32 × zRr) (fun u => some (.int u.1)) (fun u => zI 0 1 u.1 ∧ kJ u.2 ∧ zFr [182] r u.2 ∧ u = (Gk_passes a1 a2 a3 a4 r q) ∧ True) (fun u => kW ct E y u.2 q) := by
  refine cofQ cX4_passes 8 (some .boolean) (by decide) rfl (Nat.le_of_ble_eq_true rfl) ?_
  intro p e s m below meth c A a9 Q ha9 hx hb hr hml hts hown hlocks hname hK hA hZ hN hQ
  have hown : s.vm.findClass RX4 = some m.cls := hown
  have hiX4 : ∀ w ∈ wsX40, w ∈ .code yX4_passes cX4_passes 8 (some .boolean) :: wsL_law0 := fun _ h => ki (zs_wsX40 _ h)
  have lf9 := hts (.fieldLink RX4 9 "BeardPass$Law" "code" "[I") (ki (zr4 21 rfl))
  have lf15 := hts (.fieldLink RX4 15 "BeardPass$Law" "stack" "[I") (ki (zr4 22 rfl))
  have lf18 := hts (.fieldLink RX4 18 "BeardPass$Law" "size" "I") (ki (zr4 23 rfl))
  obtain ⟨X, hX⟩ : ∃ X, X = (Gk_passes a1 a2 a3 a4 r q) := ⟨_, rfl⟩
  have cut6 : ∀ (n6 : Nat) (w6_5 : Int32) (w6_6 : Int32) (rw6 : zRr) (hw6_5 : zI 0 32 w6_5) (hw6_6 : zI 0 1000 w6_6) (jw6 : kJ rw6) (fw6 : zFr [182] r rw6) (hE : X = Gk_passes_6 a1 a2 a3 a4 n6 w6_5 w6_6 rw6), 1000 - w6_6.toInt < (n6 : Int) → zKf p l e ({ frames := 2, cells := 0, slots := 0, locals := 120 }) s m a9 below meth c Q D A 6 8 [] (kW ct E y rw6 q) [(0, .ref (y 180)), (1, .int a1), (2, .int a2), (3, .int a3), (4, .int a4), (5, .int w6_5), (6, .int w6_6)] := by
    intro n6
    induction n6 with
    | zero => intro w6_5 w6_6 rw6 hw6_5 hw6_6 jw6 fw6 hE hm6; exact zI.no hw6_6 (by decide) hm6
    | succ n6 ih6 =>
      intro w6_5 w6_6 rw6 hw6_5 hw6_6 jw6 fw6 hE hm6
      have hE : X = Bk_passes_6 a1 a2 a3 a4 (Gk_passes_6 a1 a2 a3 a4 n6) w6_5 w6_6 rw6 := hE
      unfold Bk_passes_6 at hE
      have cut150 : ∀ (w150_5 : Int32) (rw150 : zRr) (hw150_5 : zI 0 32 w150_5) (hw150_6 : zI 0 999 w6_6) (jw150 : kJ rw150) (fw150 : zFr [182] r rw150) (hE : X = Gk_passes_150 w6_6 (Gk_passes_6 a1 a2 a3 a4 n6) w150_5 rw150), zKf p l e ({ frames := 2, cells := 0, slots := 0, locals := 120 }) s m a9 below meth c Q D A 150 8 [] (kW ct E y rw150 q) [(0, .ref (y 180)), (1, .int a1), (2, .int a2), (3, .int a3), (4, .int a4), (5, .int w150_5), (6, .int w6_6)] := by
        intro w150_5 rw150 hw150_5 hw150_6 jw150 fw150 hE H locs ls hw hS hl
        unfold Gk_passes_150 at hE
        refine lv_iinc (v := w6_6 + 1) (lv' := [(6, .int (w6_6 + 1)), (0, .ref (y 180)), (1, .int a1), (2, .int a2), (3, .int a3), (4, .int a4), (5, .int w150_5)]) hx hb dX4_passes_150 hl (k := 6) rfl (rfl) (by decide) rfl (fun ls hl => ?_)
        have k1 : zI 1 1000 (w6_6 + 1) := zI.add hw150_6 (zI.lit (a := 1) (b := 1) (by decide)) (by decide)
        refine lv_goto (tgt := 6) hx hb dX4_passes_153 (by decide) ?_
        exact ih6 w150_5 (w6_6 + 1) rw150 hw150_5 (k1.w (c := 0) (d := 1000) (by decide)) jw150 fw150 hE (zI.up hw150_6 (by decide) hm6) H locs ls hw hS (lv_sub hl [1, 2, 3, 4, 5, 6, 0] rfl)
      have cut104 : ∀ (w104_7 : Int32) (hw104_5 : zI 0 32 w6_5) (hw104_6 : zI 0 999 w6_6) (hw104_7 : zI (-2147483648) (-2) w104_7) (hE : X = Gk_passes_104 w6_5 w6_6 rw6 (Gk_passes_6 a1 a2 a3 a4 n6) w104_7), zKf p l e ({ frames := 2, cells := 0, slots := 0, locals := 120 }) s m a9 below meth c Q D A 104 8 [] (kW ct E y rw6 q) [(0, .ref (y 180)), (1, .int a1), (2, .int a2), (3, .int a3), (4, .int a4), (5, .int w6_5), (6, .int w6_6), (7, .int w104_7)] := by
        intro w104_7 hw104_5 hw104_6 hw104_7 hE H locs ls hw hS hl
        unfold Gk_passes_104 at hE
        refine lv_iload hx hb dX4_passes_104 (lv_at hl 7 rfl) ?_
        refine lv_bipush (v := (-5)) hx hb dX4_passes_106 (by decide) ?_
        refine lv_icmp_ge (tgt := 150) hx hb dX4_passes_108 (by decide) (fun c2 => ?_) (fun c2 => ?_)
        · have hE := zifT c2 hE
          have k3 : zI (-5) (-2) (w104_7) := zI.leD c2 (zI.lit (a := (-5)) (b := (-5)) (c := (-5)) (by decide)) hw104_7 (by decide)
          exact cut150 w6_5 rw6 hw104_5 hw104_6 jw6 fw6 hE H locs ls hw hS (lv_sub hl [0, 1, 2, 3, 4, 5, 6] rfl)
        · have hE := zifF c2 hE
          have k4 : zI (-2147483648) (-6) (w104_7) := zI.ltU (zI.nle c2) hw104_7 (zI.lit (a := (-5)) (b := (-5)) (c := (-5)) (by decide)) (by decide)
          refine lv_iload hx hb dX4_passes_111 (lv_at hl 5 rfl) ?_
          refine lv_iconst (v := 1) hx hb dX4_passes_113 (by decide) ?_
          refine lv_icmp_le (tgt := 150) hx hb dX4_passes_114 (by decide) (fun c5 => ?_) (fun c5 => ?_)
          · have hE := zifT c5 hE
            have k6 : zI 0 1 (w6_5) := zI.leU c5 hw104_5 (zI.lit (a := 1) (b := 1) (c := 1) (by decide)) (by decide)
            exact cut150 w6_5 rw6 (k6.w (c := 0) (d := 32) (by decide)) hw104_6 jw6 fw6 hE H locs ls hw hS (lv_sub hl [0, 1, 2, 3, 4, 5, 6] rfl)
          · have hE := zifF c5 hE
            have k7 : zI 2 32 (w6_5) := zI.ltD (zI.nle c5) (zI.lit (a := 1) (b := 1) (c := 1) (by decide)) hw104_5 (by decide)
            refine lv_iinc (v := w6_5 + (-1)) (lv' := [(5, .int (w6_5 + (-1))), (0, .ref (y 180)), (1, .int a1), (2, .int a2), (3, .int a3), (4, .int a4), (6, .int w6_6), (7, .int w104_7)]) hx hb dX4_passes_117 hl (k := 5) rfl (rfl) (by decide) rfl (fun ls hl => ?_)
            have k8 : zI 1 31 (w6_5 + (-1)) := zI.add k7 (zI.lit (a := (-1)) (b := (-1)) (by decide)) (by decide)
            refine lv_aload_n hx hb dX4_passes_120 rfl (lv_at hl 1 rfl) ?_
            refine va_get (D := D) (ci := 4) (v := .ref (y 182)) hx hb hts hiX4 hown hK hw.1 180 kg180 rfl 1 (by decide) lf15 (fun _ h9 => h9) rfl dX4_passes_121 ?_
            refine lv_iload hx hb dX4_passes_124 (lv_at hl 0 rfl) ?_
            refine lv_iconst (v := 1) hx hb dX4_passes_126 (by decide) ?_
            refine lv_isub hx hb dX4_passes_127 (zgenE (lo := 0) (hi := 30) (zI.sub k8 (zI.lit (a := 1) (b := 1) (c := 1) (by decide)) (by decide)) (fun v9 ev9 hv9 => ?_))
            have hE := zletE ev9 hE
            refine lv_iload hx hb dX4_passes_128 (lv_at hl 7 rfl) ?_
            refine lv_aload_n hx hb dX4_passes_130 rfl (lv_at hl 1 rfl) ?_
            refine va_get (D := D) (ci := 4) (v := .ref (y 182)) hx hb hts hiX4 hown hK hw.1 180 kg180 rfl 1 (by decide) lf15 (fun _ h9 => h9) rfl dX4_passes_131 ?_
            refine lv_iload hx hb dX4_passes_134 (lv_at hl 0 rfl) ?_
            refine lv_iconst (v := 1) hx hb dX4_passes_136 (by decide) ?_
            refine lv_isub hx hb dX4_passes_137 (zgenE (lo := 0) (hi := 30) (zI.sub k8 (zI.lit (a := 1) (b := 1) (c := 1) (by decide)) (by decide)) (fun v10 ev10 hv10 => ?_))
            have hE := zletE ev10 hE
            refine miald hx hb hK hw 182 kg182 hv10 (by decide) dX4_passes_138 (zgenE (zI.top _) (fun v11 ev11 _ => ?_))
            have hE := zletE ev11 hE
            refine lv_aload_n hx hb dX4_passes_139 rfl (lv_at hl 1 rfl) ?_
            refine va_get (D := D) (ci := 4) (v := .ref (y 182)) hx hb hts hiX4 hown hK hw.1 180 kg180 rfl 1 (by decide) lf15 (fun _ h9 => h9) rfl dX4_passes_140 ?_
            refine lv_iload hx hb dX4_passes_143 (lv_at hl 0 rfl) ?_
            refine miald hx hb hK hw 182 kg182 k8 (by decide) dX4_passes_145 (zgenE (zI.top _) (fun v12 ev12 _ => ?_))
            have hE := zletE ev12 hE
            refine scallE (As := [.int w104_7, .int v11, .int v12]) (rest := [.int v9, .ref (y 182)]) ⟨hx, hb, hml, hown, hts⟩ (kc_join l D ct w104_7 v11 v12) (va_cwS 3 hts (kgS (zr33 3 rfl) (zr33 4 rfl) (zr4 12 rfl) (zr33 5 rfl)) rfl rfl rfl (by decide +kernel) ⟨Nat.le_of_ble_eq_true rfl, Nat.le_of_ble_eq_true rfl⟩) hw hS hA hK hN kWn rfl hl.1 rfl (Nat.le_of_ble_eq_true rfl) dX4_passes_146 149 rfl (fun u13 H locs pu13 hw hS => ?_)
            have hu13 : zI (-2147483648) 2147483647 u13 := pu13.1
            have xu13 : u13 = (Gk_join w104_7 v11 v12) := pu13.2.1
            have hE := zletE xu13 hE
            refine zfr 149 [.int u13, .int v9, .ref (y 182)] rfl rfl ?_
            refine miast hx hb hK hw hS 182 kg182 hv9 (by decide) dX4_passes_149 (kW ct E y (zset rw6 182 (upd (rw6 182) (zn v9) u13)) q) ks182 (fun H locs hw hS => ?_)
            refine cmgen (P := fun x => kJ x ∧ zFr [182] r x) hw ⟨jw6.set rfl (zI.top _), fw6.set rfl⟩ (fun r15 er15 hw pr15 => ?_)
            have hE := zletE er15 hE
            exact cut150 (w6_5 + (-1)) r15 (k8.w (c := 0) (d := 32) (by decide)) hw104_6 pr15.1 pr15.2 hE H locs ls hw hS (lv_sub hl [1, 2, 3, 4, 5, 0, 6] rfl)
      have cut100 : ∀ (w100_s0 : Int32) (w100_s1 : Int32) (hw100_5 : zI 1 32 w6_5) (hw100_6 : zI 0 999 w6_6) (hw100_s0 : zI 0 1 w100_s0) (hw100_s1 : zI 0 31 w100_s1) (hE : X = Gk_passes_100 w6_5 w6_6 rw6 (Gk_passes_6 a1 a2 a3 a4 n6) w100_s0 w100_s1), zKf p l e ({ frames := 2, cells := 0, slots := 0, locals := 120 }) s m a9 below meth c Q D A 100 8 [.int w100_s0, .int w100_s1, .ref (y 182)] (kW ct E y rw6 q) [(0, .ref (y 180)), (1, .int a1), (2, .int a2), (3, .int a3), (4, .int a4), (5, .int w6_5), (6, .int w6_6)] := by
        intro w100_s0 w100_s1 hw100_5 hw100_6 hw100_s0 hw100_s1 hE H locs ls hw hS hl
        unfold Gk_passes_100 at hE
        refine miast hx hb hK hw hS 182 kg182 hw100_s1 (by decide) dX4_passes_100 (kW ct E y (zset rw6 182 (upd (rw6 182) (zn w100_s1) w100_s0)) q) ks182 (fun H locs hw hS => ?_)
        refine cmgen (P := fun x => kJ x ∧ zFr [182] r x) hw ⟨jw6.set rfl (zI.top _), fw6.set rfl⟩ (fun r16 er16 hw pr16 => ?_)
        have hE := zletE er16 hE
        refine lv_goto (tgt := 150) hx hb dX4_passes_101 (by decide) ?_
        exact cut150 w6_5 r16 (hw100_5.w (c := 0) (d := 32) (by decide)) hw100_6 pr16.1 pr16.2 hE H locs ls hw hS (lv_sub hl [0, 1, 2, 3, 4, 5, 6] rfl)
      intro H locs ls hw hS hl
      refine lv_iload hx hb dX4_passes_6 (lv_at hl 6 rfl) ?_
      refine lv_aload_n hx hb dX4_passes_8 rfl (lv_at hl 0 rfl) ?_
      refine va_get (D := D) (ci := 4) (v := .int (rw6 180 2)) hx hb hts hiX4 hown hK hw.1 180 kg180 rfl 2 (by decide) lf18 (fun _ h9 => h9) rfl dX4_passes_9 (zgenE (lo := 0) (hi := 1000) ((show zI 0 1000 (rw6 180 2) from jw6.i 180 2)) (fun v17 ev17 hv17 => ?_))
      have hE := zletE ev17 hE
      refine lv_icmp_ge (tgt := 156) hx hb dX4_passes_12 (by decide) (fun c18 => ?_) (fun c18 => ?_)
      · have hE := zifT c18 hE
        refine lv_iload hx hb dX4_passes_156 (lv_at hl 5 rfl) ?_
        refine lv_if_le (tgt := 177) hx hb dX4_passes_158 (by decide) (fun c19 => ?_) (fun c19 => ?_)
        · have hE := zifT c19 hE
          have k20 : zI 0 0 (w6_5) := zI.leU c19 hw6_5 (zI.lit (a := 0) (b := 0) (c := 0) (by decide)) (by decide)
          refine lv_iconst (v := 0) hx hb dX4_passes_177 (by decide) ?_
          exact ziretQ hQ hx hb hr rfl hlocks ((0 : Int32), rw6) rfl ⟨((zI.lit (a := 0) (b := 0) (c := 0) (by decide)).w (c := 0) (d := 1) (by decide)), jw6, fw6, (hE.symm.trans hX), trivial⟩ hw hS dX4_passes_178
        · have hE := zifF c19 hE
          have k21 : zI 1 32 (w6_5) := zI.ltD (zI.nle c19) (zI.lit (a := 0) (b := 0) (c := 0) (by decide)) hw6_5 (by decide)
          refine lv_aload_n hx hb dX4_passes_161 rfl (lv_at hl 0 rfl) ?_
          refine va_get (D := D) (ci := 4) (v := .ref (y 182)) hx hb hts hiX4 hown hK hw.1 180 kg180 rfl 1 (by decide) lf15 (fun _ h9 => h9) rfl dX4_passes_162 ?_
          refine lv_iload hx hb dX4_passes_165 (lv_at hl 5 rfl) ?_
          refine lv_iconst (v := 1) hx hb dX4_passes_167 (by decide) ?_
          refine lv_isub hx hb dX4_passes_168 (zgenE (lo := 0) (hi := 31) (zI.sub k21 (zI.lit (a := 1) (b := 1) (c := 1) (by decide)) (by decide)) (fun v22 ev22 hv22 => ?_))
          have hE := zletE ev22 hE
          refine miald hx hb hK hw 182 kg182 hv22 (by decide) dX4_passes_169 (zgenE (zI.top _) (fun v23 ev23 _ => ?_))
          have hE := zletE ev23 hE
          refine lv_if_eq (tgt := 177) hx hb dX4_passes_170 (by decide) (fun c24 => ?_) (fun c24 => ?_)
          · have hE := zifT c24 hE
            have k25 : zI 0 0 (v23) := zI.eqq c24 (zI.lit (a := 0) (b := 0) (c := 0) (by decide))
            refine lv_iconst (v := 0) hx hb dX4_passes_177 (by decide) ?_
            exact ziretQ hQ hx hb hr rfl hlocks ((0 : Int32), rw6) rfl ⟨((zI.lit (a := 0) (b := 0) (c := 0) (by decide)).w (c := 0) (d := 1) (by decide)), jw6, fw6, (hE.symm.trans hX), trivial⟩ hw hS dX4_passes_178
          · have hE := zifF c24 hE
            refine lv_iconst (v := 1) hx hb dX4_passes_173 (by decide) ?_
            refine lv_goto (tgt := 178) hx hb dX4_passes_174 (by decide) ?_
            exact ziretQ hQ hx hb hr rfl hlocks ((1 : Int32), rw6) rfl ⟨((zI.lit (a := 1) (b := 1) (c := 1) (by decide)).w (c := 0) (d := 1) (by decide)), jw6, fw6, (hE.symm.trans hX), trivial⟩ hw hS dX4_passes_178
      · have hE := zifF c18 hE
        have k26 : zI 0 999 (w6_6) := zI.ltU (zI.nle c18) hw6_6 hv17 (by decide)
        have k27 : zI 1 1000 (v17) := zI.ltD (zI.nle c18) hw6_6 hv17 (by decide)
        refine lv_aload_n hx hb dX4_passes_15 rfl (lv_at hl 0 rfl) ?_
        refine va_get (D := D) (ci := 4) (v := .ref (y 181)) hx hb hts hiX4 hown hK hw.1 180 kg180 rfl 0 (by decide) lf9 (fun _ h9 => h9) rfl dX4_passes_16 ?_
        refine lv_iload hx hb dX4_passes_19 (lv_at hl 6 rfl) ?_
        refine miald hx hb hK hw 181 kg181 k26 (by decide) dX4_passes_21 (zgenE (zI.top _) (fun v28 ev28 _ => ?_))
        have hE := zletE ev28 hE
        refine lv_istore (lv' := [(7, .int v28), (0, .ref (y 180)), (1, .int a1), (2, .int a2), (3, .int a3), (4, .int a4), (5, .int w6_5), (6, .int w6_6)]) hx hb dX4_passes_22 hl (by decide) rfl (fun ls hl => ?_)
        refine lv_iload hx hb dX4_passes_24 (lv_at hl 0 rfl) ?_
        refine lv_bipush (v := (-5)) hx hb dX4_passes_26 (by decide) ?_
        refine lv_icmp_le (tgt := 63) hx hb dX4_passes_28 (by decide) (fun c29 => ?_) (fun c29 => ?_)
        · have hE := zifT c29 hE
          have k30 : zI (-2147483648) (-5) (v28) := zI.leU c29 (zI.top _) (zI.lit (a := (-5)) (b := (-5)) (c := (-5)) (by decide)) (by decide)
          refine lv_iload hx hb dX4_passes_63 (lv_at hl 0 rfl) ?_
          refine lv_bipush (v := (-5)) hx hb dX4_passes_65 (by decide) ?_
          refine lv_icmp_ne (tgt := 104) hx hb dX4_passes_67 (by decide) (fun c31 => ?_) (fun c31 => ?_)
          · have hE := zifnT c31 hE
            have k32 : zI (-2147483648) (-6) (v28) := zI.neU c31 k30 (zI.lit (a := (-5)) (b := (-5)) (c := (-5)) (by decide)) (by decide)
            exact cut104 v28 hw6_5 k26 (k32.w (c := (-2147483648)) (d := (-2)) (by decide)) hE H locs ls hw hS (lv_sub hl [1, 2, 3, 4, 5, 6, 7, 0] rfl)
          · have hE := zifnF c31 hE
            have k33 : zI (-5) (-5) (v28) := zI.eqq c31 (zI.lit (a := (-5)) (b := (-5)) (c := (-5)) (by decide))
            refine lv_iload hx hb dX4_passes_70 (lv_at hl 6 rfl) ?_
            refine lv_if_le (tgt := 104) hx hb dX4_passes_72 (by decide) (fun c34 => ?_) (fun c34 => ?_)
            · have hE := zifT c34 hE
              have k35 : zI 0 0 (w6_5) := zI.leU c34 hw6_5 (zI.lit (a := 0) (b := 0) (c := 0) (by decide)) (by decide)
              exact cut104 v28 (k35.w (c := 0) (d := 32) (by decide)) k26 (k33.w (c := (-2147483648)) (d := (-2)) (by decide)) hE H locs ls hw hS (lv_sub hl [1, 2, 3, 4, 5, 6, 7, 0] rfl)
            · have hE := zifF c34 hE
              have k36 : zI 1 32 (w6_5) := zI.ltD (zI.nle c34) (zI.lit (a := 0) (b := 0) (c := 0) (by decide)) hw6_5 (by decide)
              refine lv_aload_n hx hb dX4_passes_75 rfl (lv_at hl 1 rfl) ?_
              refine va_get (D := D) (ci := 4) (v := .ref (y 182)) hx hb hts hiX4 hown hK hw.1 180 kg180 rfl 1 (by decide) lf15 (fun _ h9 => h9) rfl dX4_passes_76 ?_
              refine lv_iload hx hb dX4_passes_79 (lv_at hl 6 rfl) ?_
              refine lv_iconst (v := 1) hx hb dX4_passes_81 (by decide) ?_
              refine lv_isub hx hb dX4_passes_82 (zgenE (lo := 0) (hi := 31) (zI.sub k36 (zI.lit (a := 1) (b := 1) (c := 1) (by decide)) (by decide)) (fun v37 ev37 hv37 => ?_))
              have hE := zletE ev37 hE
              refine lv_aload_n hx hb dX4_passes_83 rfl (lv_at hl 1 rfl) ?_
              refine va_get (D := D) (ci := 4) (v := .ref (y 182)) hx hb hts hiX4 hown hK hw.1 180 kg180 rfl 1 (by decide) lf15 (fun _ h9 => h9) rfl dX4_passes_84 ?_
              refine lv_iload hx hb dX4_passes_87 (lv_at hl 6 rfl) ?_
              refine lv_iconst (v := 1) hx hb dX4_passes_89 (by decide) ?_
              refine lv_isub hx hb dX4_passes_90 (zgenE (lo := 0) (hi := 31) (zI.sub k36 (zI.lit (a := 1) (b := 1) (c := 1) (by decide)) (by decide)) (fun v38 ev38 hv38 => ?_))
              have hE := zletE ev38 hE
              refine miald hx hb hK hw 182 kg182 hv38 (by decide) dX4_passes_91 (zgenE (zI.top _) (fun v39 ev39 _ => ?_))
              have hE := zletE ev39 hE
              refine lv_if_ne (tgt := 99) hx hb dX4_passes_92 (by decide) (fun c40 => ?_) (fun c40 => ?_)
              · have hE := zifnT c40 hE
                refine lv_iconst (v := 0) hx hb dX4_passes_99 (by decide) ?_
                exact cut100 0 v37 k36 k26 ((zI.lit (a := 0) (b := 0) (c := 0) (by decide)).w (c := 0) (d := 1) (by decide)) hv37 hE H locs ls hw hS (lv_sub hl [1, 2, 3, 4, 5, 6, 7] rfl)
              · have hE := zifnF c40 hE
                have k41 : zI 0 0 (v39) := zI.eqq c40 (zI.lit (a := 0) (b := 0) (c := 0) (by decide))
                refine lv_iconst (v := 1) hx hb dX4_passes_95 (by decide) ?_
                refine lv_goto (tgt := 100) hx hb dX4_passes_96 (by decide) ?_
                exact cut100 1 v37 k36 k26 ((zI.lit (a := 1) (b := 1) (c := 1) (by decide)).w (c := 0) (d := 1) (by decide)) hv37 hE H locs ls hw hS (lv_sub hl [1, 2, 3, 4, 5, 6, 7] rfl)
        · have hE := zifF c29 hE
          have k42 : zI (-4) 2147483647 (v28) := zI.ltD (zI.nle c29) (zI.lit (a := (-5)) (b := (-5)) (c := (-5)) (by decide)) (zI.top _) (by decide)
          refine lv_iload hx hb dX4_passes_31 (lv_at hl 6 rfl) ?_
          refine lv_bipush (v := 32) hx hb dX4_passes_33 (by decide) ?_
          refine lv_icmp_lt (tgt := 40) hx hb dX4_passes_35 (by decide) (fun c43 => ?_) (fun c43 => ?_)
          · have hE := zifT c43 hE
            have k44 : zI 0 31 (w6_5) := zI.ltU c43 hw6_5 (zI.lit (a := 32) (b := 32) (c := 32) (by decide)) (by decide)
            refine lv_aload_n hx hb dX4_passes_40 rfl (lv_at hl 1 rfl) ?_
            refine va_get (D := D) (ci := 4) (v := .ref (y 182)) hx hb hts hiX4 hown hK hw.1 180 kg180 rfl 1 (by decide) lf15 (fun _ h9 => h9) rfl dX4_passes_41 ?_
            refine lv_iload hx hb dX4_passes_44 (lv_at hl 6 rfl) ?_
            refine lv_iload hx hb dX4_passes_46 (lv_at hl 0 rfl) ?_
            refine lv_iload_n hx hb dX4_passes_48 rfl (lv_at hl 2 rfl) ?_
            refine lv_iload_n hx hb dX4_passes_49 rfl (lv_at hl 3 rfl) ?_
            refine lv_iload_n hx hb dX4_passes_50 rfl (lv_at hl 4 rfl) ?_
            refine lv_iload hx hb dX4_passes_51 (lv_at hl 5 rfl) ?_
            refine scallE (As := [.int v28, .int a1, .int a2, .int a3, .int a4]) (rest := [.int w6_5, .ref (y 182)]) ⟨hx, hb, hml, hown, hts⟩ (kc_valueOf l D ct v28 a1 a2 a3 a4) (va_cwS 5 hts (kgS (zr33 0 rfl) (zr33 1 rfl) (zr4 12 rfl) (zr33 2 rfl)) rfl rfl rfl (by decide +kernel) ⟨Nat.le_of_ble_eq_true rfl, Nat.le_of_ble_eq_true rfl⟩) hw hS hA hK hN kWn rfl hl.1 rfl (Nat.le_of_ble_eq_true rfl) dX4_passes_53 56 rfl (fun u45 H locs pu45 hw hS => ?_)
            have hu45 : zI (-2147483648) 2147483647 u45 := pu45.1
            have xu45 : u45 = (Gk_valueOf v28 a1 a2 a3 a4) := pu45.2.1
            have hE := zletE xu45 hE
            refine zfr 56 [.int u45, .int w6_5, .ref (y 182)] rfl rfl ?_
            refine miast hx hb hK hw hS 182 kg182 k44 (by decide) dX4_passes_56 (kW ct E y (zset rw6 182 (upd (rw6 182) (zn w6_5) u45)) q) ks182 (fun H locs hw hS => ?_)
            refine cmgen (P := fun x => kJ x ∧ zFr [182] r x) hw ⟨jw6.set rfl (zI.top _), fw6.set rfl⟩ (fun r47 er47 hw pr47 => ?_)
            have hE := zletE er47 hE
            refine lv_iinc (v := w6_5 + 1) (lv' := [(5, .int (w6_5 + 1)), (7, .int v28), (0, .ref (y 180)), (1, .int a1), (2, .int a2), (3, .int a3), (4, .int a4), (6, .int w6_6)]) hx hb dX4_passes_57 hl (k := 6) rfl (rfl) (by decide) rfl (fun ls hl => ?_)
            have k48 : zI 1 32 (w6_5 + 1) := zI.add k44 (zI.lit (a := 1) (b := 1) (by decide)) (by decide)
            refine lv_goto (tgt := 150) hx hb dX4_passes_60 (by decide) ?_
            exact cut150 (w6_5 + 1) r47 (k48.w (c := 0) (d := 32) (by decide)) k26 pr47.1 pr47.2 hE H locs ls hw hS (lv_sub hl [2, 3, 4, 5, 6, 0, 7] rfl)
          · have hE := zifF c43 hE
            have k49 : zI 32 32 (w6_5) := zI.leD (zI.nlt c43) (zI.lit (a := 32) (b := 32) (c := 32) (by decide)) hw6_5 (by decide)
            refine lv_iconst (v := 0) hx hb dX4_passes_38 (by decide) ?_
            exact ziretQ hQ hx hb hr rfl hlocks ((0 : Int32), rw6) rfl ⟨((zI.lit (a := 0) (b := 0) (c := 0) (by decide)).w (c := 0) (d := 1) (by decide)), jw6, fw6, (hE.symm.trans hX), trivial⟩ hw hS dX4_passes_39
  intro H locs hw hS ls hl
  have hl : lv_has ls 8 [(0, .ref (y 180)), (1, .int a1), (2, .int a2), (3, .int a3), (4, .int a4)] := hl
  have hE := hX
  unfold Gk_passes at hE
  refine lv_iconst (v := 0) hx hb dX4_passes_0 (by decide) ?_
  refine lv_istore (lv' := [(5, .int 0), (0, .ref (y 180)), (1, .int a1), (2, .int a2), (3, .int a3), (4, .int a4)]) hx hb dX4_passes_1 hl (by decide) rfl (fun ls hl => ?_)
  refine lv_iconst (v := 0) hx hb dX4_passes_3 (by decide) ?_
  refine lv_istore (lv' := [(6, .int 0), (5, .int 0), (0, .ref (y 180)), (1, .int a1), (2, .int a2), (3, .int a3), (4, .int a4)]) hx hb dX4_passes_4 hl (by decide) rfl (fun ls hl => ?_)
  exact cut6 1001 0 0 r ((zI.lit (a := 0) (b := 0) (c := 0) (by decide)).w (c := 0) (d := 32) (by decide)) ((zI.lit (a := 0) (b := 0) (c := 0) (by decide)).w (c := 0) (d := 1000) (by decide)) hJ0 (zFr.refl) hE (zI.m0 (zI.lit (a := 0) (b := 0) (c := 0) (by decide)) (by decide)) H locs ls hw hS (lv_sub hl [2, 3, 4, 5, 6, 1, 0] rfl)

noncomputable def Gk_unreadLet_39 (w5_4 : Int32) (ih5 : Int32 → Int32 → zRr → (Int32 × zRr)) (w39_3 : Int32) (rw39 : zRr) : Int32 × zRr :=
  ih5 w39_3 (w5_4 + 1) rw39
noncomputable def Bk_unreadLet_5 (a1 : Int32) (a2 : Int32) (q : zRq) (ih5 : Int32 → Int32 → zRr → (Int32 × zRr)) (w5_3 : Int32) (w5_4 : Int32) (rw5 : zRr) : Int32 × zRr :=
  zif ((30 : Int32) < w5_4) ((w5_3, rw5)) (zlet (α := Int32) (rw5 172 (zn a1)) <| fun v5 => zc_vr (Gk_passes w5_4 (0 : Int32) v5 a2 rw5 q) <| fun v7 r8 => zif (v7 = (0 : Int32)) (Gk_unreadLet_39 w5_4 ih5 w5_3 r8) (zlet (α := Int32) (1 <<< (w5_4 &&& 31)) <| fun v12 => zlet (α := Int32) (w5_3 ||| v12) <| fun v13 => Gk_unreadLet_39 w5_4 ih5 v13 r8))
noncomputable def Gk_unreadLet_5 (a1 : Int32) (a2 : Int32) (q : zRq) (n : Nat) : Int32 → Int32 → zRr → (Int32 × zRr) :=
  Nat.rec (motive := fun _ => Int32 → Int32 → zRr → (Int32 × zRr)) (fun _ _ rw5 => (default, rw5)) (fun _ ih => Bk_unreadLet_5 a1 a2 q ih) n
noncomputable def Gk_unreadLet (a1 : Int32) (a2 : Int32) (r : zRr) (q : zRq) : Int32 × zRr :=
  Gk_unreadLet_5 a1 a2 q 32 0 0 r
set_option maxHeartbeats 4000000 in
set_option maxRecDepth 100000 in
theorem kc_unreadLet (l : Launch) (D : va_G) (ct : Nat → ClassId) (E : Nat → Nat) (y : Nat → Nat) (a1 : Int32) (a2 : Int32) (r : zRr) (q : zRq) (g1 : zI 0 5 a1) (hJ0 : kJ r) (hEi : kEi E) : cC l yX2_unreadLet (.code yX2_unreadLet cX2_unreadLet 5 (some .int) :: wsL_law0) ({ frames := 3, cells := 0, slots := 0, locals := 160 }) D ct E [.ref (y 171), .int a1, .int a2] (kW ct E y r q) (S := Int32 × zRr) (fun u => some (.int u.1)) (fun u => zI (-2147483648) 2147483647 u.1 ∧ kJ u.2 ∧ zFr [182] r u.2 ∧ u = (Gk_unreadLet a1 a2 r q) ∧ True) (fun u => kW ct E y u.2 q) := by
  refine cofQ cX2_unreadLet 5 (some .int) (by decide) rfl (Nat.le_of_ble_eq_true rfl) ?_
  intro p e s m below meth c A a9 Q ha9 hx hb hr hml hts hown hlocks hname hK hA hZ hN hQ
  have hown : s.vm.findClass RX2 = some m.cls := hown
  have hiX2 : ∀ w ∈ wsX20, w ∈ .code yX2_unreadLet cX2_unreadLet 5 (some .int) :: wsL_law0 := fun _ h => ki (zs_wsX20 _ h)
  have lf9 := hts (.fieldLink RX2 9 "BeardPass$Land" "asks" "[I") (ki (zr4 2 rfl))
  have lf40 := hts (.fieldLink RX2 40 "BeardPass$Land" "law" "LBeardPass$Law;") (ki (zr4 13 rfl))
  obtain ⟨X, hX⟩ : ∃ X, X = (Gk_unreadLet a1 a2 r q) := ⟨_, rfl⟩
  have cut5 : ∀ (n5 : Nat) (w5_3 : Int32) (w5_4 : Int32) (rw5 : zRr) (hw5_1 : zI 0 5 a1) (hw5_3 : zI 0 2147483647 w5_3) (hw5_4 : zI 0 31 w5_4) (jw5 : kJ rw5) (fw5 : zFr [182] r rw5) (hE : X = Gk_unreadLet_5 a1 a2 q n5 w5_3 w5_4 rw5), 31 - w5_4.toInt < (n5 : Int) → zKf p l e ({ frames := 3, cells := 0, slots := 0, locals := 160 }) s m a9 below meth c Q D A 5 5 [] (kW ct E y rw5 q) [(0, .ref (y 171)), (1, .int a1), (2, .int a2), (3, .int w5_3), (4, .int w5_4)] := by
    intro n5
    induction n5 with
    | zero => intro w5_3 w5_4 rw5 hw5_1 hw5_3 hw5_4 jw5 fw5 hE hm5; exact zI.no hw5_4 (by decide) hm5
    | succ n5 ih5 =>
      intro w5_3 w5_4 rw5 hw5_1 hw5_3 hw5_4 jw5 fw5 hE hm5
      have hE : X = Bk_unreadLet_5 a1 a2 q (Gk_unreadLet_5 a1 a2 q n5) w5_3 w5_4 rw5 := hE
      unfold Bk_unreadLet_5 at hE
      have cut39 : ∀ (w39_3 : Int32) (rw39 : zRr) (hw39_1 : zI 0 5 a1) (hw39_3 : zI 0 2147483647 w39_3) (hw39_4 : zI 0 30 w5_4) (jw39 : kJ rw39) (fw39 : zFr [182] r rw39) (hE : X = Gk_unreadLet_39 w5_4 (Gk_unreadLet_5 a1 a2 q n5) w39_3 rw39), zKf p l e ({ frames := 3, cells := 0, slots := 0, locals := 160 }) s m a9 below meth c Q D A 39 5 [] (kW ct E y rw39 q) [(0, .ref (y 171)), (1, .int a1), (2, .int a2), (3, .int w39_3), (4, .int w5_4)] := by
        intro w39_3 rw39 hw39_1 hw39_3 hw39_4 jw39 fw39 hE H locs ls hw hS hl
        unfold Gk_unreadLet_39 at hE
        refine lv_iinc (v := w5_4 + 1) (lv' := [(4, .int (w5_4 + 1)), (0, .ref (y 171)), (1, .int a1), (2, .int a2), (3, .int w39_3)]) hx hb dX2_unreadLet_39 hl (k := 4) rfl (rfl) (by decide) rfl (fun ls hl => ?_)
        have k1 : zI 1 31 (w5_4 + 1) := zI.add hw39_4 (zI.lit (a := 1) (b := 1) (by decide)) (by decide)
        refine lv_goto (tgt := 5) hx hb dX2_unreadLet_42 (by decide) ?_
        exact ih5 w39_3 (w5_4 + 1) rw39 hw39_1 hw39_3 (k1.w (c := 0) (d := 31) (by decide)) jw39 fw39 hE (zI.up hw39_4 (by decide) hm5) H locs ls hw hS (lv_sub hl [1, 2, 3, 4, 0] rfl)
      intro H locs ls hw hS hl
      refine lv_iload hx hb dX2_unreadLet_5 (lv_at hl 4 rfl) ?_
      refine lv_bipush (v := 30) hx hb dX2_unreadLet_7 (by decide) ?_
      refine lv_icmp_gt (tgt := 45) hx hb dX2_unreadLet_9 (by decide) (fun c2 => ?_) (fun c2 => ?_)
      · have hE := zifT c2 hE
        have k3 : zI 31 31 (w5_4) := zI.ltD c2 (zI.lit (a := 30) (b := 30) (c := 30) (by decide)) hw5_4 (by decide)
        refine lv_iload_n hx hb dX2_unreadLet_45 rfl (lv_at hl 3 rfl) ?_
        exact ziretQ hQ hx hb hr rfl hlocks (w5_3, rw5) rfl ⟨(zI.top _), jw5, fw5, (hE.symm.trans hX), trivial⟩ hw hS dX2_unreadLet_46
      · have hE := zifF c2 hE
        have k4 : zI 0 30 (w5_4) := zI.leU (zI.nlt c2) hw5_4 (zI.lit (a := 30) (b := 30) (c := 30) (by decide)) (by decide)
        refine lv_aload_n hx hb dX2_unreadLet_12 rfl (lv_at hl 0 rfl) ?_
        refine va_get (D := D) (ci := 2) (v := .ref (y 180)) hx hb hts hiX2 hown hK hw.1 171 kg171 rfl 8 (by decide) lf40 (fun _ h9 => h9) rfl dX2_unreadLet_13 ?_
        refine lv_iload hx hb dX2_unreadLet_16 (lv_at hl 4 rfl) ?_
        refine lv_iconst (v := 0) hx hb dX2_unreadLet_18 (by decide) ?_
        refine lv_aload_n hx hb dX2_unreadLet_19 rfl (lv_at hl 0 rfl) ?_
        refine va_get (D := D) (ci := 2) (v := .ref (y 172)) hx hb hts hiX2 hown hK hw.1 171 kg171 rfl 0 (by decide) lf9 (fun _ h9 => h9) rfl dX2_unreadLet_20 ?_
        refine lv_iload_n hx hb dX2_unreadLet_23 rfl (lv_at hl 1 rfl) ?_
        refine miald hx hb hK hw 172 kg172 hw5_1 (by decide) dX2_unreadLet_24 (zgenE (zI.top _) (fun v5 ev5 _ => ?_))
        have hE := zletE ev5 hE
        refine lv_iload_n hx hb dX2_unreadLet_25 rfl (lv_at hl 2 rfl) ?_
        refine kcallV (As := [.int w5_4, .int 0, .int v5, .int a2]) (rest := []) ⟨hx, hb, hml, hown, hts⟩ (kc_passes l D ct E y w5_4 (0 : Int32) v5 a2 rw5 q jw5 hEi) (wqX2_82_kc_passes hts ⟨Nat.le_of_ble_eq_true rfl, Nat.le_of_ble_eq_true rfl⟩) hw hS hA hK hZ hN 4 180 rfl kg180 rfl hl.1 rfl (Nat.le_of_ble_eq_true rfl) dX2_unreadLet_26 29 rfl (fun u6 H locs pu6 hw hS => ?_)
        obtain ⟨v7, r8⟩ := u6
        have hv7 : zI 0 1 v7 := pu6.1
        have ju6 : kJ r8 := pu6.2.1
        have fu6 : zFr [182] rw5 r8 := pu6.2.2.1
        have xu6 : (v7, r8) = (Gk_passes w5_4 (0 : Int32) v5 a2 rw5 q) := pu6.2.2.2.1
        have hE := zc_vrE xu6 hE
        have hw : zPD D A (kW ct E y r8 q) H := hw
        refine zfr 29 [.int v7] rfl rfl ?_
        refine lv_if_eq (tgt := 39) hx hb dX2_unreadLet_29 (by decide) (fun c9 => ?_) (fun c9 => ?_)
        · have hE := zifT c9 hE
          have k10 : zI 0 0 (v7) := zI.eqq c9 (zI.lit (a := 0) (b := 0) (c := 0) (by decide))
          exact cut39 w5_3 r8 hw5_1 hw5_3 k4 ju6 (fw5.tr fu6 rfl) hE H locs ls hw hS (lv_sub hl [0, 1, 2, 3, 4] rfl)
        · have hE := zifF c9 hE
          have k11 : zI 1 1 (v7) := zI.neD c9 hv7 (zI.lit (a := 0) (b := 0) (c := 0) (by decide)) (by decide)
          refine lv_iload_n hx hb dX2_unreadLet_32 rfl (lv_at hl 3 rfl) ?_
          refine lv_iconst (v := 1) hx hb dX2_unreadLet_33 (by decide) ?_
          refine lv_iload hx hb dX2_unreadLet_34 (lv_at hl 4 rfl) ?_
          refine lv_ishl hx hb dX2_unreadLet_36 (zgenE (lo := 1) (hi := 1073741824) (zI.shl k4 30 (by decide)) (fun v12 ev12 hv12 => ?_))
          have hE := zletE ev12 hE
          refine lv_ior hx hb dX2_unreadLet_37 (zgenE (lo := 0) (hi := 2147483647) (zI.or 31 hw5_3 hv12 (by decide)) (fun v13 ev13 hv13 => ?_))
          have hE := zletE ev13 hE
          refine lv_istore_n (lv' := [(3, .int v13), (0, .ref (y 171)), (1, .int a1), (2, .int a2), (4, .int w5_4)]) hx hb dX2_unreadLet_38 rfl hl (by decide) rfl (fun ls hl => ?_)
          exact cut39 v13 r8 hw5_1 hv13 k4 ju6 (fw5.tr fu6 rfl) hE H locs ls hw hS (lv_sub hl [1, 2, 3, 0, 4] rfl)
  intro H locs hw hS ls hl
  have hl : lv_has ls 5 [(0, .ref (y 171)), (1, .int a1), (2, .int a2)] := hl
  have hE := hX
  unfold Gk_unreadLet at hE
  refine lv_iconst (v := 0) hx hb dX2_unreadLet_0 (by decide) ?_
  refine lv_istore_n (lv' := [(3, .int 0), (0, .ref (y 171)), (1, .int a1), (2, .int a2)]) hx hb dX2_unreadLet_1 rfl hl (by decide) rfl (fun ls hl => ?_)
  refine lv_iconst (v := 0) hx hb dX2_unreadLet_2 (by decide) ?_
  refine lv_istore (lv' := [(4, .int 0), (3, .int 0), (0, .ref (y 171)), (1, .int a1), (2, .int a2)]) hx hb dX2_unreadLet_3 hl (by decide) rfl (fun ls hl => ?_)
  exact cut5 32 0 0 r g1 ((zI.lit (a := 0) (b := 0) (c := 0) (by decide)).w (c := 0) (d := 2147483647) (by decide)) ((zI.lit (a := 0) (b := 0) (c := 0) (by decide)).w (c := 0) (d := 31) (by decide)) hJ0 (zFr.refl) hE (zI.m0 (zI.lit (a := 0) (b := 0) (c := 0) (by decide)) (by decide)) H locs ls hw hS (lv_sub hl [2, 3, 4, 1, 0] rfl)

set_option maxHeartbeats 4000000 in
set_option maxRecDepth 100000 in
theorem kc_allTowns (l : Launch) (D : va_G) (ct : Nat → ClassId) (E : Nat → Nat) (y : Nat → Nat) (r : zRr) (q : zRq) (hJ0 : kJ r) (hEi : kEi E) : cC l yX2_allTowns (.code yX2_allTowns cX2_allTowns 1 (some .int) :: wsL_law0) ({ frames := 1, cells := 0, slots := 0, locals := 80 }) D ct E [.ref (y 171)] (kW ct E y r q) (S := Int32) (fun u => some (.int u)) (fun u => zI 0 63 u ∧ True) (fun u => kW ct E y r q) := by
  refine cofQ cX2_allTowns 1 (some .int) (by decide) rfl (Nat.le_of_ble_eq_true rfl) ?_
  intro p e s m below meth c A a9 Q ha9 hx hb hr hml hts hown hlocks hname hK hA hZ hN hQ
  have hown : s.vm.findClass RX2 = some m.cls := hown
  have hiX2 : ∀ w ∈ wsX20, w ∈ .code yX2_allTowns cX2_allTowns 1 (some .int) :: wsL_law0 := fun _ h => ki (zs_wsX20 _ h)
  have lf44 := hts (.fieldLink RX2 44 "BeardPass$Land" "towns" "I") (ki (zr4 14 rfl))
  intro H locs hw hS ls hl
  have hl : lv_has ls 1 [(0, .ref (y 171))] := hl
  refine lv_iconst (v := 1) hx hb dX2_allTowns_0 (by decide) ?_
  refine lv_aload_n hx hb dX2_allTowns_1 rfl (lv_at hl 0 rfl) ?_
  refine va_get (D := D) (ci := 2) (v := .int (r 171 9)) hx hb hts hiX2 hown hK hw.1 171 kg171 rfl 9 (by decide) lf44 (fun _ h9 => h9) rfl dX2_allTowns_2 (zgen (lo := 0) (hi := 6) ((show zI 0 6 (r 171 9) from hJ0.i 171 9)) (fun v1 hv1 => ?_))
  refine lv_ishl hx hb dX2_allTowns_5 (zgen (lo := 1) (hi := 64) (zI.shl hv1 6 (by decide)) (fun v2 hv2 => ?_))
  refine lv_iconst (v := 1) hx hb dX2_allTowns_6 (by decide) ?_
  refine lv_isub hx hb dX2_allTowns_7 (zgen (lo := 0) (hi := 63) (zI.sub hv2 (zI.lit (a := 1) (b := 1) (c := 1) (by decide)) (by decide)) (fun v3 hv3 => ?_))
  exact ziretQ hQ hx hb hr rfl hlocks v3 rfl ⟨hv3, trivial⟩ hw hS dX2_allTowns_8

set_option maxHeartbeats 4000000 in
set_option maxRecDepth 100000 in
theorem kc_mostAsked (l : Launch) (D : va_G) (ct : Nat → ClassId) (E : Nat → Nat) (y : Nat → Nat) (r : zRr) (q : zRq) (hJ0 : kJ r) (hEi : kEi E) : cC l yX2_mostAsked (.code yX2_mostAsked cX2_mostAsked 3 (some .int) :: wsL_law0) ({ frames := 2, cells := 0, slots := 0, locals := 120 }) D ct E [.ref (y 171)] (kW ct E y r q) (S := Int32) (fun u => some (.int u)) (fun u => zI (-2147483648) 2147483647 u ∧ True) (fun u => kW ct E y r q) := by
  refine cofQ cX2_mostAsked 3 (some .int) (by decide) rfl (Nat.le_of_ble_eq_true rfl) ?_
  intro p e s m below meth c A a9 Q ha9 hx hb hr hml hts hown hlocks hname hK hA hZ hN hQ
  have hown : s.vm.findClass RX2 = some m.cls := hown
  have hiX2 : ∀ w ∈ wsX20, w ∈ .code yX2_mostAsked cX2_mostAsked 3 (some .int) :: wsL_law0 := fun _ h => ki (zs_wsX20 _ h)
  have lf9 := hts (.fieldLink RX2 9 "BeardPass$Land" "asks" "[I") (ki (zr4 2 rfl))
  have lf44 := hts (.fieldLink RX2 44 "BeardPass$Land" "towns" "I") (ki (zr4 14 rfl))
  have cut4 : ∀ (n : Nat) (w4_1 : Int32) (w4_2 : Int32) (hw4_2 : zI 0 6 w4_2), 6 - w4_2.toInt < (n : Int) → zKf p l e ({ frames := 2, cells := 0, slots := 0, locals := 120 }) s m a9 below meth c Q D A 4 3 [] (kW ct E y r q) [(0, .ref (y 171)), (1, .int w4_1), (2, .int w4_2)] := by
    intro n
    induction n with
    | zero => intro w4_1 w4_2 hw4_2 hm4; exact zI.no hw4_2 (by decide) hm4
    | succ n ih4 =>
      intro w4_1 w4_2 hw4_2 hm4
      intro H locs ls hw hS hl
      refine lv_iload_n hx hb dX2_mostAsked_4 rfl (lv_at hl 2 rfl) ?_
      refine lv_aload_n hx hb dX2_mostAsked_5 rfl (lv_at hl 0 rfl) ?_
      refine va_get (D := D) (ci := 2) (v := .int (r 171 9)) hx hb hts hiX2 hown hK hw.1 171 kg171 rfl 9 (by decide) lf44 (fun _ h9 => h9) rfl dX2_mostAsked_6 (zgen (lo := 0) (hi := 6) ((show zI 0 6 (r 171 9) from hJ0.i 171 9)) (fun v1 hv1 => ?_))
      refine lv_icmp_ge (tgt := 29) hx hb dX2_mostAsked_9 (by decide) (fun c2 => ?_) (fun c2 => ?_)
      · refine lv_iload_n hx hb dX2_mostAsked_29 rfl (lv_at hl 1 rfl) ?_
        exact ziretQ hQ hx hb hr rfl hlocks w4_1 rfl ⟨(zI.top _), trivial⟩ hw hS dX2_mostAsked_30
      · have k3 : zI 0 5 (w4_2) := zI.ltU (zI.nle c2) hw4_2 hv1 (by decide)
        have k4 : zI 1 6 (v1) := zI.ltD (zI.nle c2) hw4_2 hv1 (by decide)
        refine lv_iload_n hx hb dX2_mostAsked_12 rfl (lv_at hl 1 rfl) ?_
        refine lv_aload_n hx hb dX2_mostAsked_13 rfl (lv_at hl 0 rfl) ?_
        refine va_get (D := D) (ci := 2) (v := .ref (y 172)) hx hb hts hiX2 hown hK hw.1 171 kg171 rfl 0 (by decide) lf9 (fun _ h9 => h9) rfl dX2_mostAsked_14 ?_
        refine lv_iload_n hx hb dX2_mostAsked_17 rfl (lv_at hl 2 rfl) ?_
        refine miald hx hb hK hw 172 kg172 k3 (by decide) dX2_mostAsked_18 (zgen (zI.top _) (fun v5 _ => ?_))
        refine va_mmax hx hb (hml.trans hl.1.symm) hown (hts (.methodLink RX2 76 Lib.Math.max.name) (ki (zr40 7 rfl))) (hts (.static Lib.Math.max.name) (ki (zr40 8 rfl))) (hts (.initialized "java/lang/Math") (ki (zr35 18 rfl))) (hts (.code Lib.Math.max.name Lib.Math.max.code 2 (some .int)) (ki (zr40 9 rfl))) (Nat.le_of_ble_eq_true rfl) (Nat.le_of_ble_eq_true rfl) (Nat.le_of_ble_eq_true rfl) (Nat.le_of_ble_eq_true rfl) dX2_mostAsked_19 (zgen (zI.top _) (fun v6 _ => ?_))
        refine lv_istore_n (lv' := [(1, .int v6), (0, .ref (y 171)), (2, .int w4_2)]) hx hb dX2_mostAsked_22 rfl hl (by decide) rfl (fun ls hl => ?_)
        refine lv_iinc (v := w4_2 + 1) (lv' := [(2, .int (w4_2 + 1)), (1, .int v6), (0, .ref (y 171))]) hx hb dX2_mostAsked_23 hl (k := 2) rfl (rfl) (by decide) rfl (fun ls hl => ?_)
        have k7 : zI 1 6 (w4_2 + 1) := zI.add k3 (zI.lit (a := 1) (b := 1) (by decide)) (by decide)
        refine lv_goto (tgt := 4) hx hb dX2_mostAsked_26 (by decide) ?_
        exact ih4 v6 (w4_2 + 1) (k7.w (c := 0) (d := 6) (by decide)) (zI.up k3 (by decide) hm4) H locs ls hw hS (lv_sub hl [2, 1, 0] rfl)
  intro H locs hw hS ls hl
  have hl : lv_has ls 3 [(0, .ref (y 171))] := hl
  refine lv_iconst (v := 0) hx hb dX2_mostAsked_0 (by decide) ?_
  refine lv_istore_n (lv' := [(1, .int 0), (0, .ref (y 171))]) hx hb dX2_mostAsked_1 rfl hl (by decide) rfl (fun ls hl => ?_)
  refine lv_iconst (v := 0) hx hb dX2_mostAsked_2 (by decide) ?_
  refine lv_istore_n (lv' := [(2, .int 0), (1, .int 0), (0, .ref (y 171))]) hx hb dX2_mostAsked_3 rfl hl (by decide) rfl (fun ls hl => ?_)
  exact cut4 7 0 0 ((zI.lit (a := 0) (b := 0) (c := 0) (by decide)).w (c := 0) (d := 6) (by decide)) (zI.m0 (zI.lit (a := 0) (b := 0) (c := 0) (by decide)) (by decide)) H locs ls hw hS (lv_sub hl [2, 1, 0] rfl)

noncomputable def Bk_begin8N_7 (ih7 : Int32 → zRr → zRr) (w7_2 : Int32) (rw7 : zRr) : zRr :=
  zif ((rw7 171 10) ≤ w7_2) (rw7) (zlet (α := Int32) (rw7 176 (zn w7_2)) <| fun v4 => zlet (α := zRr) (zset rw7 7 (upd (rw7 7) (zn w7_2) v4)) <| fun r5 => zlet (α := Int32) (r5 177 (zn w7_2)) <| fun v6 => zlet (α := zRr) (zset r5 8 (upd (r5 8) (zn w7_2) v6)) <| fun r7 => zlet (α := zRr) (zset r7 9 (upd (r7 9) (zn w7_2) (0 : Int32))) <| fun r8 => zlet (α := Int32) (r8 178 (zn w7_2)) <| fun v9 => zlet (α := zRr) (zset r8 10 (upd (r8 10) (zn w7_2) v9)) <| fun r10 => zlet (α := Int32) (r10 176 (zn w7_2)) <| fun v11 => zlet (α := Int32) (1 <<< (v11 &&& 31)) <| fun v12 => zlet (α := zRr) (zset r10 11 (upd (r10 11) (zn w7_2) v12)) <| fun r13 => ih7 (w7_2 + 1) r13)
noncomputable def Gk_begin8N_7 (n : Nat) : Int32 → zRr → zRr :=
  Nat.rec (motive := fun _ => Int32 → zRr → zRr) (fun _ rw7 => rw7) (fun _ ih => Bk_begin8N_7 ih) n
noncomputable def Gk_begin8N (r : zRr) (q : zRq) : zRr :=
  zlet (α := zRr) ((zset r 6 (upd (r 6) 5 (0 : Int32)))) <| fun r15 => Gk_begin8N_7 7 0 r15
set_option maxHeartbeats 4000000 in
set_option maxRecDepth 100000 in
theorem kc_begin8N (l : Launch) (D : va_G) (ct : Nat → ClassId) (E : Nat → Nat) (y : Nat → Nat) (r : zRr) (q : zRq) (hJ0 : kJ r) (hEi : kEi E) : cC l yX8_begin (.code yX8_begin cX8_begin 3 none :: wsL_law0) ({ frames := 1, cells := 0, slots := 0, locals := 80 }) D ct E [.ref (y 6), .ref (y 171)] (kW ct E y r q) (S := zRr) (fun u => none) (fun u => kJ u ∧ zFr [6, 7, 8, 9, 10, 11] r u ∧ u = (Gk_begin8N r q) ∧ True) (fun u => kW ct E y u q) := by
  refine cofQ cX8_begin 3 none (by decide) rfl (Nat.le_of_ble_eq_true rfl) ?_
  intro p e s m below meth c A a9 Q ha9 hx hb hr hml hts hown hlocks hname hK hA hZ hN hQ
  have hown : s.vm.findClass RX8 = some m.cls := hown
  have hiX2 : ∀ w ∈ wsX20, w ∈ .code yX8_begin cX8_begin 3 none :: wsL_law0 := fun _ h => ki (zs_wsX20 _ h)
  have hiX8 : ∀ w ∈ wsX80, w ∈ .code yX8_begin cX8_begin 3 none :: wsL_law0 := fun _ h => ki (zs_wsX80 _ h)
  have lf9 := hts (.fieldLink RX8 9 "BeardPass$Standing" "places" "[I") (ki (zr6 17 rfl))
  have lf15 := hts (.fieldLink RX8 15 "BeardPass$Standing" "beards" "[I") (ki (zr6 18 rfl))
  have lf18 := hts (.fieldLink RX8 18 "BeardPass$Standing" "forged" "[I") (ki (zr6 19 rfl))
  have lf21 := hts (.fieldLink RX8 21 "BeardPass$Standing" "purses" "[I") (ki (zr6 20 rfl))
  have lf24 := hts (.fieldLink RX8 24 "BeardPass$Standing" "been" "[I") (ki (zr6 21 rfl))
  have lf27 := hts (.fieldLink RX8 27 "BeardPass$Standing" "weeks" "I") (ki (zr6 22 rfl))
  have lf31 := hts (.fieldLink RX8 31 "BeardPass$Land" "persons" "I") (ki (zr21 0 rfl))
  have lf36 := hts (.fieldLink RX8 36 "BeardPass$Land" "homes" "[I") (ki (zr21 1 rfl))
  have lf39 := hts (.fieldLink RX8 39 "BeardPass$Land" "beards" "[I") (ki (zr21 2 rfl))
  have lf40 := hts (.fieldLink RX8 40 "BeardPass$Land" "purses" "[I") (ki (zr21 3 rfl))
  obtain ⟨X, hX⟩ : ∃ X, X = (Gk_begin8N r q) := ⟨_, rfl⟩
  have cut7 : ∀ (n7 : Nat) (w7_2 : Int32) (rw7 : zRr) (hw7_2 : zI 0 6 w7_2) (jw7 : kJ rw7) (fw7 : zFr [6, 7, 8, 9, 10, 11] r rw7) (hE : X = Gk_begin8N_7 n7 w7_2 rw7), 6 - w7_2.toInt < (n7 : Int) → zKf p l e ({ frames := 1, cells := 0, slots := 0, locals := 80 }) s m a9 below meth c Q D A 7 3 [] (kW ct E y rw7 q) [(0, .ref (y 6)), (1, .ref (y 171)), (2, .int w7_2)] := by
    intro n7
    induction n7 with
    | zero => intro w7_2 rw7 hw7_2 jw7 fw7 hE hm7; exact zI.no hw7_2 (by decide) hm7
    | succ n7 ih7 =>
      intro w7_2 rw7 hw7_2 jw7 fw7 hE hm7
      have hE : X = Bk_begin8N_7 (Gk_begin8N_7 n7) w7_2 rw7 := hE
      unfold Bk_begin8N_7 at hE
      intro H locs ls hw hS hl
      refine lv_iload_n hx hb dX8_begin_7 rfl (lv_at hl 2 rfl) ?_
      refine lv_aload_n hx hb dX8_begin_8 rfl (lv_at hl 1 rfl) ?_
      refine va_get (D := D) (ci := 2) (v := .int (rw7 171 10)) hx hb hts hiX2 hown hK hw.1 171 kg171 rfl 10 (by decide) lf31 (fun _ h9 => h9) rfl dX8_begin_9 ?_
      refine lv_icmp_ge (tgt := 78) hx hb dX8_begin_12 (by decide) (fun c1 => ?_) (fun c1 => ?_)
      · have hE := zifT c1 hE
        exact zvretQ hQ hx hb hr hlocks rw7 rfl ⟨jw7, fw7, (hE.symm.trans hX), trivial⟩ hw hS dX8_begin_78
      · have hE := zifF c1 hE
        have k2 : zI 0 5 (w7_2) := zI.ltU (zI.nle c1) hw7_2 (show zI 0 6 (rw7 171 10) from jw7.i 171 10) (by decide)
        have k3 : zI 1 6 (rw7 171 10) := zI.ltD (zI.nle c1) hw7_2 (show zI 0 6 (rw7 171 10) from jw7.i 171 10) (by decide)
        refine lv_aload_n hx hb dX8_begin_15 rfl (lv_at hl 0 rfl) ?_
        refine va_get (D := D) (ci := 7) (v := .ref (y 7)) hx hb hts hiX8 hown hK hw.1 6 kg6 rfl 0 (by decide) lf9 (fun _ h9 => h9) rfl dX8_begin_16 ?_
        refine lv_iload_n hx hb dX8_begin_19 rfl (lv_at hl 2 rfl) ?_
        refine lv_aload_n hx hb dX8_begin_20 rfl (lv_at hl 1 rfl) ?_
        refine va_get (D := D) (ci := 2) (v := .ref (y 176)) hx hb hts hiX2 hown hK hw.1 171 kg171 rfl 4 (by decide) lf36 (fun _ h9 => h9) rfl dX8_begin_21 ?_
        refine lv_iload_n hx hb dX8_begin_24 rfl (lv_at hl 2 rfl) ?_
        refine miald hx hb hK hw 176 kg176 k2 (by decide) dX8_begin_25 (zgenE (lo := 0) (hi := 5) ((kJ.hm jw7 k2 (zI.nle c1) (by decide))) (fun v4 ev4 hv4 => ?_))
        have hE := zletE ev4 hE
        refine miast hx hb hK hw hS 7 kg7 k2 (by decide) dX8_begin_26 (kW ct E y (zset rw7 7 (upd (rw7 7) (zn w7_2) v4)) q) ks7 (fun H locs hw hS => ?_)
        refine cmgen (P := fun x => kJ x ∧ zFr [6, 7, 8, 9, 10, 11] r x) hw ⟨jw7.set rfl hv4, fw7.set rfl⟩ (fun r5 er5 hw pr5 => ?_)
        have hE := zletE er5 hE
        refine lv_aload_n hx hb dX8_begin_27 rfl (lv_at hl 0 rfl) ?_
        refine va_get (D := D) (ci := 7) (v := .ref (y 8)) hx hb hts hiX8 hown hK hw.1 6 kg6 rfl 1 (by decide) lf15 (fun _ h9 => h9) rfl dX8_begin_28 ?_
        refine lv_iload_n hx hb dX8_begin_31 rfl (lv_at hl 2 rfl) ?_
        refine lv_aload_n hx hb dX8_begin_32 rfl (lv_at hl 1 rfl) ?_
        refine va_get (D := D) (ci := 2) (v := .ref (y 177)) hx hb hts hiX2 hown hK hw.1 171 kg171 rfl 5 (by decide) lf39 (fun _ h9 => h9) rfl dX8_begin_33 ?_
        refine lv_iload_n hx hb dX8_begin_36 rfl (lv_at hl 2 rfl) ?_
        refine miald hx hb hK hw 177 kg177 k2 (by decide) dX8_begin_37 (zgenE (zI.top _) (fun v6 ev6 _ => ?_))
        have hE := zletE ev6 hE
        refine miast hx hb hK hw hS 8 kg8 k2 (by decide) dX8_begin_38 (kW ct E y (zset r5 8 (upd (r5 8) (zn w7_2) v6)) q) ks8 (fun H locs hw hS => ?_)
        refine cmgen (P := fun x => kJ x ∧ zFr [6, 7, 8, 9, 10, 11] r x) hw ⟨pr5.1.set rfl (zI.top _), pr5.2.set rfl⟩ (fun r7 er7 hw pr7 => ?_)
        have hE := zletE er7 hE
        refine lv_aload_n hx hb dX8_begin_39 rfl (lv_at hl 0 rfl) ?_
        refine va_get (D := D) (ci := 7) (v := .ref (y 9)) hx hb hts hiX8 hown hK hw.1 6 kg6 rfl 2 (by decide) lf18 (fun _ h9 => h9) rfl dX8_begin_40 ?_
        refine lv_iload_n hx hb dX8_begin_43 rfl (lv_at hl 2 rfl) ?_
        refine lv_iconst (v := 0) hx hb dX8_begin_44 (by decide) ?_
        refine miast hx hb hK hw hS 9 kg9 k2 (by decide) dX8_begin_45 (kW ct E y (zset r7 9 (upd (r7 9) (zn w7_2) (0 : Int32))) q) ks9 (fun H locs hw hS => ?_)
        refine cmgen (P := fun x => kJ x ∧ zFr [6, 7, 8, 9, 10, 11] r x) hw ⟨pr7.1.set rfl ((zI.lit (a := 0) (b := 0) (c := 0) (by decide)).w (c := 0) (d := 20) (by decide)), pr7.2.set rfl⟩ (fun r8 er8 hw pr8 => ?_)
        have hE := zletE er8 hE
        refine lv_aload_n hx hb dX8_begin_46 rfl (lv_at hl 0 rfl) ?_
        refine va_get (D := D) (ci := 7) (v := .ref (y 10)) hx hb hts hiX8 hown hK hw.1 6 kg6 rfl 3 (by decide) lf21 (fun _ h9 => h9) rfl dX8_begin_47 ?_
        refine lv_iload_n hx hb dX8_begin_50 rfl (lv_at hl 2 rfl) ?_
        refine lv_aload_n hx hb dX8_begin_51 rfl (lv_at hl 1 rfl) ?_
        refine va_get (D := D) (ci := 2) (v := .ref (y 178)) hx hb hts hiX2 hown hK hw.1 171 kg171 rfl 6 (by decide) lf40 (fun _ h9 => h9) rfl dX8_begin_52 ?_
        refine lv_iload_n hx hb dX8_begin_55 rfl (lv_at hl 2 rfl) ?_
        refine miald hx hb hK hw 178 kg178 k2 (by decide) dX8_begin_56 (zgenE (zI.top _) (fun v9 ev9 _ => ?_))
        have hE := zletE ev9 hE
        refine miast hx hb hK hw hS 10 kg10 k2 (by decide) dX8_begin_57 (kW ct E y (zset r8 10 (upd (r8 10) (zn w7_2) v9)) q) ks10 (fun H locs hw hS => ?_)
        refine cmgen (P := fun x => kJ x ∧ zFr [6, 7, 8, 9, 10, 11] r x) hw ⟨pr8.1.set rfl (zI.top _), pr8.2.set rfl⟩ (fun r10 er10 hw pr10 => ?_)
        have hE := zletE er10 hE
        refine lv_aload_n hx hb dX8_begin_58 rfl (lv_at hl 0 rfl) ?_
        refine va_get (D := D) (ci := 7) (v := .ref (y 11)) hx hb hts hiX8 hown hK hw.1 6 kg6 rfl 4 (by decide) lf24 (fun _ h9 => h9) rfl dX8_begin_59 ?_
        refine lv_iload_n hx hb dX8_begin_62 rfl (lv_at hl 2 rfl) ?_
        refine lv_iconst (v := 1) hx hb dX8_begin_63 (by decide) ?_
        refine lv_aload_n hx hb dX8_begin_64 rfl (lv_at hl 1 rfl) ?_
        refine va_get (D := D) (ci := 2) (v := .ref (y 176)) hx hb hts hiX2 hown hK hw.1 171 kg171 rfl 4 (by decide) lf36 (fun _ h9 => h9) rfl dX8_begin_65 ?_
        refine lv_iload_n hx hb dX8_begin_68 rfl (lv_at hl 2 rfl) ?_
        refine miald hx hb hK hw 176 kg176 k2 (by decide) dX8_begin_69 (zgenE (lo := (-1)) (hi := 5) ((show zI (-1) 5 (r10 176 _) from pr10.1.i 176 _)) (fun v11 ev11 hv11 => ?_))
        have hE := zletE ev11 hE
        refine lv_ishl hx hb dX8_begin_70 (zgenE (zI.top _) (fun v12 ev12 _ => ?_))
        have hE := zletE ev12 hE
        refine miast hx hb hK hw hS 11 kg11 k2 (by decide) dX8_begin_71 (kW ct E y (zset r10 11 (upd (r10 11) (zn w7_2) v12)) q) ks11 (fun H locs hw hS => ?_)
        refine cmgen (P := fun x => kJ x ∧ zFr [6, 7, 8, 9, 10, 11] r x) hw ⟨pr10.1.set rfl (zI.top _), pr10.2.set rfl⟩ (fun r13 er13 hw pr13 => ?_)
        have hE := zletE er13 hE
        refine lv_iinc (v := w7_2 + 1) (lv' := [(2, .int (w7_2 + 1)), (0, .ref (y 6)), (1, .ref (y 171))]) hx hb dX8_begin_72 hl (k := 2) rfl (rfl) (by decide) rfl (fun ls hl => ?_)
        have k14 : zI 1 6 (w7_2 + 1) := zI.add k2 (zI.lit (a := 1) (b := 1) (by decide)) (by decide)
        refine lv_goto (tgt := 7) hx hb dX8_begin_75 (by decide) ?_
        exact ih7 (w7_2 + 1) r13 (k14.w (c := 0) (d := 6) (by decide)) pr13.1 pr13.2 hE (zI.up k2 (by decide) hm7) H locs ls hw hS (lv_sub hl [1, 2, 0] rfl)
  intro H locs hw hS ls hl
  have hl : lv_has ls 3 [(0, .ref (y 6)), (1, .ref (y 171))] := hl
  have hE := hX
  unfold Gk_begin8N at hE
  refine lv_aload_n hx hb dX8_begin_0 rfl (lv_at hl 0 rfl) ?_
  refine lv_iconst (v := 0) hx hb dX8_begin_1 (by decide) ?_
  refine zput (D := D) (ci := 7) (v := .int 0) (ty := .int) hx hb hts hiX8 tyX8 tyX8_ok nmX8 hown hK hw hS 6 kg6 rfl 5 (by decide) lf27 (fun _ h9 => h9) rfl (by decide +kernel) rfl rfl (Nat.le_of_ble_eq_true rfl) dX8_begin_2 (kW ct E y (zset r 6 (upd (r 6) 5 (0 : Int32))) q) ks6_5 (fun H locs hw hS => ?_)
  refine cmgen (P := fun x => kJ x ∧ zFr [6, 7, 8, 9, 10, 11] r x) hw ⟨hJ0.set rfl (zI.top _), (zFr.refl).set rfl⟩ (fun r15 er15 hw pr15 => ?_)
  have hE := zletE er15 hE
  refine lv_iconst (v := 0) hx hb dX8_begin_5 (by decide) ?_
  refine lv_istore_n (lv' := [(2, .int 0), (0, .ref (y 6)), (1, .ref (y 171))]) hx hb dX8_begin_6 rfl hl (by decide) rfl (fun ls hl => ?_)
  exact cut7 7 0 r15 ((zI.lit (a := 0) (b := 0) (c := 0) (by decide)).w (c := 0) (d := 6) (by decide)) pr15.1 pr15.2 hE (zI.m0 (zI.lit (a := 0) (b := 0) (c := 0) (by decide)) (by decide)) H locs ls hw hS (lv_sub hl [1, 2, 0] rfl)

noncomputable def Gk_arriveN (a1 : Int32) (a2 : Int32) (r : zRr) (q : zRq) : zRr :=
  zlet (α := zRr) (zset r 7 (upd (r 7) (zn a1) a2)) <| fun r1 => zlet (α := Int32) (r1 11 (zn a1)) <| fun v2 => zlet (α := Int32) (1 <<< (a2 &&& 31)) <| fun v3 => zlet (α := Int32) (v2 ||| v3) <| fun v4 => zlet (α := zRr) (zset r1 11 (upd (r1 11) (zn a1) v4)) <| fun r5 => r5
set_option maxHeartbeats 4000000 in
set_option maxRecDepth 100000 in
theorem kc_arriveN (l : Launch) (D : va_G) (ct : Nat → ClassId) (E : Nat → Nat) (y : Nat → Nat) (a1 : Int32) (a2 : Int32) (r : zRr) (q : zRq) (g1 : zI 0 5 a1) (g2 : zI 0 5 a2) (hJ0 : kJ r) (hEi : kEi E) : cC l yX8_arrive (.code yX8_arrive cX8_arrive 3 none :: wsL_law0) ({ frames := 1, cells := 0, slots := 0, locals := 80 }) D ct E [.ref (y 6), .int a1, .int a2] (kW ct E y r q) (S := zRr) (fun u => none) (fun u => kJ u ∧ zFr [7, 11] r u ∧ u = (Gk_arriveN a1 a2 r q) ∧ True) (fun u => kW ct E y u q) := by
  refine cofQ cX8_arrive 3 none (by decide) rfl (Nat.le_of_ble_eq_true rfl) ?_
  intro p e s m below meth c A a9 Q ha9 hx hb hr hml hts hown hlocks hname hK hA hZ hN hQ
  have hown : s.vm.findClass RX8 = some m.cls := hown
  have hiX8 : ∀ w ∈ wsX80, w ∈ .code yX8_arrive cX8_arrive 3 none :: wsL_law0 := fun _ h => ki (zs_wsX80 _ h)
  have lf9 := hts (.fieldLink RX8 9 "BeardPass$Standing" "places" "[I") (ki (zr6 17 rfl))
  have lf24 := hts (.fieldLink RX8 24 "BeardPass$Standing" "been" "[I") (ki (zr6 21 rfl))
  obtain ⟨X, hX⟩ : ∃ X, X = (Gk_arriveN a1 a2 r q) := ⟨_, rfl⟩
  intro H locs hw hS ls hl
  have hl : lv_has ls 3 [(0, .ref (y 6)), (1, .int a1), (2, .int a2)] := hl
  have hE := hX
  unfold Gk_arriveN at hE
  refine lv_aload_n hx hb dX8_arrive_0 rfl (lv_at hl 0 rfl) ?_
  refine va_get (D := D) (ci := 7) (v := .ref (y 7)) hx hb hts hiX8 hown hK hw.1 6 kg6 rfl 0 (by decide) lf9 (fun _ h9 => h9) rfl dX8_arrive_1 ?_
  refine lv_iload_n hx hb dX8_arrive_4 rfl (lv_at hl 1 rfl) ?_
  refine lv_iload_n hx hb dX8_arrive_5 rfl (lv_at hl 2 rfl) ?_
  refine miast hx hb hK hw hS 7 kg7 g1 (by decide) dX8_arrive_6 (kW ct E y (zset r 7 (upd (r 7) (zn a1) a2)) q) ks7 (fun H locs hw hS => ?_)
  refine cmgen (P := fun x => kJ x ∧ zFr [7, 11] r x) hw ⟨hJ0.set rfl g2, (zFr.refl).set rfl⟩ (fun r1 er1 hw pr1 => ?_)
  have hE := zletE er1 hE
  refine lv_aload_n hx hb dX8_arrive_7 rfl (lv_at hl 0 rfl) ?_
  refine va_get (D := D) (ci := 7) (v := .ref (y 11)) hx hb hts hiX8 hown hK hw.1 6 kg6 rfl 4 (by decide) lf24 (fun _ h9 => h9) rfl dX8_arrive_8 ?_
  refine lv_iload_n hx hb dX8_arrive_11 rfl (lv_at hl 1 rfl) ?_
  refine lv_dup2_11 hx hb dX8_arrive_12 rfl rfl ?_
  refine miald hx hb hK hw 11 kg11 g1 (by decide) dX8_arrive_13 (zgenE (zI.top _) (fun v2 ev2 _ => ?_))
  have hE := zletE ev2 hE
  refine lv_iconst (v := 1) hx hb dX8_arrive_14 (by decide) ?_
  refine lv_iload_n hx hb dX8_arrive_15 rfl (lv_at hl 2 rfl) ?_
  refine lv_ishl hx hb dX8_arrive_16 (zgenE (lo := 1) (hi := 32) (zI.shl g2 5 (by decide)) (fun v3 ev3 hv3 => ?_))
  have hE := zletE ev3 hE
  refine lv_ior hx hb dX8_arrive_17 (zgenE (zI.top _) (fun v4 ev4 _ => ?_))
  have hE := zletE ev4 hE
  refine miast hx hb hK hw hS 11 kg11 g1 (by decide) dX8_arrive_18 (kW ct E y (zset r1 11 (upd (r1 11) (zn a1) v4)) q) ks11 (fun H locs hw hS => ?_)
  refine cmgen (P := fun x => kJ x ∧ zFr [7, 11] r x) hw ⟨pr1.1.set rfl (zI.top _), pr1.2.set rfl⟩ (fun r5 er5 hw pr5 => ?_)
  have hE := zletE er5 hE
  exact zvretQ hQ hx hb hr hlocks r5 rfl ⟨pr5.1, pr5.2, (hE.symm.trans hX), trivial⟩ hw hS dX8_arrive_19

noncomputable def Gk_loseBeardN (a1 : Int32) (r : zRr) (q : zRq) : zRr :=
  zlet (α := zRr) (zset r 8 (upd (r 8) (zn a1) (0 : Int32))) <| fun r1 => zlet (α := zRr) (zset r1 9 (upd (r1 9) (zn a1) (0 : Int32))) <| fun r2 => r2
set_option maxHeartbeats 4000000 in
set_option maxRecDepth 100000 in
theorem kc_loseBeardN (l : Launch) (D : va_G) (ct : Nat → ClassId) (E : Nat → Nat) (y : Nat → Nat) (a1 : Int32) (r : zRr) (q : zRq) (g1 : zI 0 5 a1) (hJ0 : kJ r) (hEi : kEi E) : cC l yX8_loseBeard (.code yX8_loseBeard cX8_loseBeard 2 none :: wsL_law0) ({ frames := 1, cells := 0, slots := 0, locals := 80 }) D ct E [.ref (y 6), .int a1] (kW ct E y r q) (S := zRr) (fun u => none) (fun u => kJ u ∧ zFr [8, 9] r u ∧ u = (Gk_loseBeardN a1 r q) ∧ True) (fun u => kW ct E y u q) := by
  refine cofQ cX8_loseBeard 2 none (by decide) rfl (Nat.le_of_ble_eq_true rfl) ?_
  intro p e s m below meth c A a9 Q ha9 hx hb hr hml hts hown hlocks hname hK hA hZ hN hQ
  have hown : s.vm.findClass RX8 = some m.cls := hown
  have hiX8 : ∀ w ∈ wsX80, w ∈ .code yX8_loseBeard cX8_loseBeard 2 none :: wsL_law0 := fun _ h => ki (zs_wsX80 _ h)
  have lf15 := hts (.fieldLink RX8 15 "BeardPass$Standing" "beards" "[I") (ki (zr6 18 rfl))
  have lf18 := hts (.fieldLink RX8 18 "BeardPass$Standing" "forged" "[I") (ki (zr6 19 rfl))
  obtain ⟨X, hX⟩ : ∃ X, X = (Gk_loseBeardN a1 r q) := ⟨_, rfl⟩
  intro H locs hw hS ls hl
  have hl : lv_has ls 2 [(0, .ref (y 6)), (1, .int a1)] := hl
  have hE := hX
  unfold Gk_loseBeardN at hE
  refine lv_aload_n hx hb dX8_loseBeard_0 rfl (lv_at hl 0 rfl) ?_
  refine va_get (D := D) (ci := 7) (v := .ref (y 8)) hx hb hts hiX8 hown hK hw.1 6 kg6 rfl 1 (by decide) lf15 (fun _ h9 => h9) rfl dX8_loseBeard_1 ?_
  refine lv_iload_n hx hb dX8_loseBeard_4 rfl (lv_at hl 1 rfl) ?_
  refine lv_iconst (v := 0) hx hb dX8_loseBeard_5 (by decide) ?_
  refine miast hx hb hK hw hS 8 kg8 g1 (by decide) dX8_loseBeard_6 (kW ct E y (zset r 8 (upd (r 8) (zn a1) (0 : Int32))) q) ks8 (fun H locs hw hS => ?_)
  refine cmgen (P := fun x => kJ x ∧ zFr [8, 9] r x) hw ⟨hJ0.set rfl (zI.top _), (zFr.refl).set rfl⟩ (fun r1 er1 hw pr1 => ?_)
  have hE := zletE er1 hE
  refine lv_aload_n hx hb dX8_loseBeard_7 rfl (lv_at hl 0 rfl) ?_
  refine va_get (D := D) (ci := 7) (v := .ref (y 9)) hx hb hts hiX8 hown hK hw.1 6 kg6 rfl 2 (by decide) lf18 (fun _ h9 => h9) rfl dX8_loseBeard_8 ?_
  refine lv_iload_n hx hb dX8_loseBeard_11 rfl (lv_at hl 1 rfl) ?_
  refine lv_iconst (v := 0) hx hb dX8_loseBeard_12 (by decide) ?_
  refine miast hx hb hK hw hS 9 kg9 g1 (by decide) dX8_loseBeard_13 (kW ct E y (zset r1 9 (upd (r1 9) (zn a1) (0 : Int32))) q) ks9 (fun H locs hw hS => ?_)
  refine cmgen (P := fun x => kJ x ∧ zFr [8, 9] r x) hw ⟨pr1.1.set rfl ((zI.lit (a := 0) (b := 0) (c := 0) (by decide)).w (c := 0) (d := 20) (by decide)), pr1.2.set rfl⟩ (fun r2 er2 hw pr2 => ?_)
  have hE := zletE er2 hE
  exact zvretQ hQ hx hb hr hlocks r2 rfl ⟨pr2.1, pr2.2, (hE.symm.trans hX), trivial⟩ hw hS dX8_loseBeard_14

set_option maxHeartbeats 4000000 in
set_option maxRecDepth 100000 in
theorem kc_peopledN (l : Launch) (D : va_G) (ct : Nat → ClassId) (E : Nat → Nat) (y : Nat → Nat) (a1 : Int32) (r : zRr) (q : zRq) (g1 : zI 0 6 a1) (hJ0 : kJ r) (hEi : kEi E) : cC l yX8_peopled (.code yX8_peopled cX8_peopled 4 (some .int) :: wsL_law0) ({ frames := 1, cells := 0, slots := 0, locals := 80 }) D ct E [.ref (y 6), .int a1] (kW ct E y r q) (S := Int32) (fun u => some (.int u)) (fun u => zI (-2147483648) 2147483647 u ∧ True) (fun u => kW ct E y r q) := by
  refine cofQ cX8_peopled 4 (some .int) (by decide) rfl (Nat.le_of_ble_eq_true rfl) ?_
  intro p e s m below meth c A a9 Q ha9 hx hb hr hml hts hown hlocks hname hK hA hZ hN hQ
  have hown : s.vm.findClass RX8 = some m.cls := hown
  have hiX8 : ∀ w ∈ wsX80, w ∈ .code yX8_peopled cX8_peopled 4 (some .int) :: wsL_law0 := fun _ h => ki (zs_wsX80 _ h)
  have lf9 := hts (.fieldLink RX8 9 "BeardPass$Standing" "places" "[I") (ki (zr6 17 rfl))
  have cut4 : ∀ (n : Nat) (w4_2 : Int32) (w4_3 : Int32) (hw4_1 : zI 0 6 a1) (hw4_2 : zI 0 63 w4_2) (hw4_3 : zI 0 6 w4_3), 6 - w4_3.toInt < (n : Int) → zKf p l e ({ frames := 1, cells := 0, slots := 0, locals := 80 }) s m a9 below meth c Q D A 4 4 [] (kW ct E y r q) [(0, .ref (y 6)), (1, .int a1), (2, .int w4_2), (3, .int w4_3)] := by
    intro n
    induction n with
    | zero => intro w4_2 w4_3 hw4_1 hw4_2 hw4_3 hm4; exact zI.no hw4_3 (by decide) hm4
    | succ n ih4 =>
      intro w4_2 w4_3 hw4_1 hw4_2 hw4_3 hm4
      intro H locs ls hw hS hl
      refine lv_iload_n hx hb dX8_peopled_4 rfl (lv_at hl 3 rfl) ?_
      refine lv_iload_n hx hb dX8_peopled_5 rfl (lv_at hl 1 rfl) ?_
      refine lv_icmp_ge (tgt := 26) hx hb dX8_peopled_6 (by decide) (fun c1 => ?_) (fun c1 => ?_)
      · refine lv_iload_n hx hb dX8_peopled_26 rfl (lv_at hl 2 rfl) ?_
        exact ziretQ hQ hx hb hr rfl hlocks w4_2 rfl ⟨(zI.top _), trivial⟩ hw hS dX8_peopled_27
      · have k2 : zI 0 5 (w4_3) := zI.ltU (zI.nle c1) hw4_3 hw4_1 (by decide)
        have k3 : zI 1 6 (a1) := zI.ltD (zI.nle c1) hw4_3 hw4_1 (by decide)
        refine lv_iload_n hx hb dX8_peopled_9 rfl (lv_at hl 2 rfl) ?_
        refine lv_iconst (v := 1) hx hb dX8_peopled_10 (by decide) ?_
        refine lv_aload_n hx hb dX8_peopled_11 rfl (lv_at hl 0 rfl) ?_
        refine va_get (D := D) (ci := 7) (v := .ref (y 7)) hx hb hts hiX8 hown hK hw.1 6 kg6 rfl 0 (by decide) lf9 (fun _ h9 => h9) rfl dX8_peopled_12 ?_
        refine lv_iload_n hx hb dX8_peopled_15 rfl (lv_at hl 3 rfl) ?_
        refine miald hx hb hK hw 7 kg7 k2 (by decide) dX8_peopled_16 (zgen (lo := 0) (hi := 5) ((show zI 0 5 (r 7 _) from hJ0.i 7 _)) (fun v4 hv4 => ?_))
        refine lv_ishl hx hb dX8_peopled_17 (zgen (lo := 1) (hi := 32) (zI.shl hv4 5 (by decide)) (fun v5 hv5 => ?_))
        refine lv_ior hx hb dX8_peopled_18 (zgen (lo := 0) (hi := 63) (zI.or 6 hw4_2 hv5 (by decide)) (fun v6 hv6 => ?_))
        refine lv_istore_n (lv' := [(2, .int v6), (0, .ref (y 6)), (1, .int a1), (3, .int w4_3)]) hx hb dX8_peopled_19 rfl hl (by decide) rfl (fun ls hl => ?_)
        refine lv_iinc (v := w4_3 + 1) (lv' := [(3, .int (w4_3 + 1)), (2, .int v6), (0, .ref (y 6)), (1, .int a1)]) hx hb dX8_peopled_20 hl (k := 3) rfl (rfl) (by decide) rfl (fun ls hl => ?_)
        have k7 : zI 1 6 (w4_3 + 1) := zI.add k2 (zI.lit (a := 1) (b := 1) (by decide)) (by decide)
        refine lv_goto (tgt := 4) hx hb dX8_peopled_23 (by decide) ?_
        exact ih4 v6 (w4_3 + 1) (k3.w (c := 0) (d := 6) (by decide)) hv6 (k7.w (c := 0) (d := 6) (by decide)) (zI.up k2 (by decide) hm4) H locs ls hw hS (lv_sub hl [2, 3, 1, 0] rfl)
  intro H locs hw hS ls hl
  have hl : lv_has ls 4 [(0, .ref (y 6)), (1, .int a1)] := hl
  refine lv_iconst (v := 0) hx hb dX8_peopled_0 (by decide) ?_
  refine lv_istore_n (lv' := [(2, .int 0), (0, .ref (y 6)), (1, .int a1)]) hx hb dX8_peopled_1 rfl hl (by decide) rfl (fun ls hl => ?_)
  refine lv_iconst (v := 0) hx hb dX8_peopled_2 (by decide) ?_
  refine lv_istore_n (lv' := [(3, .int 0), (2, .int 0), (0, .ref (y 6)), (1, .int a1)]) hx hb dX8_peopled_3 rfl hl (by decide) rfl (fun ls hl => ?_)
  exact cut4 7 0 0 g1 ((zI.lit (a := 0) (b := 0) (c := 0) (by decide)).w (c := 0) (d := 63) (by decide)) ((zI.lit (a := 0) (b := 0) (c := 0) (by decide)).w (c := 0) (d := 6) (by decide)) (zI.m0 (zI.lit (a := 0) (b := 0) (c := 0) (by decide)) (by decide)) H locs ls hw hS (lv_sub hl [2, 3, 1, 0] rfl)

set_option maxHeartbeats 4000000 in
set_option maxRecDepth 100000 in
theorem kc_begin8T (l : Launch) (D : va_G) (ct : Nat → ClassId) (E : Nat → Nat) (y : Nat → Nat) (r : zRr) (q : zRq) (hJ0 : kJ r) (hEi : kEi E) : cC l yX8_begin (.code yX8_begin cX8_begin 3 none :: wsL_law0) ({ frames := 1, cells := 0, slots := 0, locals := 80 }) D ct E [.ref (y 12), .ref (y 171)] (kW ct E y r q) (S := zRr) (fun u => none) (fun u => kJ u ∧ zFt r u ∧ True) (fun u => kW ct E y u q) := by
  refine cofQ cX8_begin 3 none (by decide) rfl (Nat.le_of_ble_eq_true rfl) ?_
  intro p e s m below meth c A a9 Q ha9 hx hb hr hml hts hown hlocks hname hK hA hZ hN hQ
  have hown : s.vm.findClass RX8 = some m.cls := hown
  have hiX2 : ∀ w ∈ wsX20, w ∈ .code yX8_begin cX8_begin 3 none :: wsL_law0 := fun _ h => ki (zs_wsX20 _ h)
  have hiX8 : ∀ w ∈ wsX80, w ∈ .code yX8_begin cX8_begin 3 none :: wsL_law0 := fun _ h => ki (zs_wsX80 _ h)
  have lf9 := hts (.fieldLink RX8 9 "BeardPass$Standing" "places" "[I") (ki (zr6 17 rfl))
  have lf15 := hts (.fieldLink RX8 15 "BeardPass$Standing" "beards" "[I") (ki (zr6 18 rfl))
  have lf18 := hts (.fieldLink RX8 18 "BeardPass$Standing" "forged" "[I") (ki (zr6 19 rfl))
  have lf21 := hts (.fieldLink RX8 21 "BeardPass$Standing" "purses" "[I") (ki (zr6 20 rfl))
  have lf24 := hts (.fieldLink RX8 24 "BeardPass$Standing" "been" "[I") (ki (zr6 21 rfl))
  have lf27 := hts (.fieldLink RX8 27 "BeardPass$Standing" "weeks" "I") (ki (zr6 22 rfl))
  have lf31 := hts (.fieldLink RX8 31 "BeardPass$Land" "persons" "I") (ki (zr21 0 rfl))
  have lf36 := hts (.fieldLink RX8 36 "BeardPass$Land" "homes" "[I") (ki (zr21 1 rfl))
  have lf39 := hts (.fieldLink RX8 39 "BeardPass$Land" "beards" "[I") (ki (zr21 2 rfl))
  have lf40 := hts (.fieldLink RX8 40 "BeardPass$Land" "purses" "[I") (ki (zr21 3 rfl))
  have cut7 : ∀ (n : Nat) (w7_2 : Int32) (rw7 : zRr) (hw7_2 : zI 0 6 w7_2) (jw7 : kJ rw7) (fw7 : zFt r rw7), 6 - w7_2.toInt < (n : Int) → zKf p l e ({ frames := 1, cells := 0, slots := 0, locals := 80 }) s m a9 below meth c Q D A 7 3 [] (kW ct E y rw7 q) [(0, .ref (y 12)), (1, .ref (y 171)), (2, .int w7_2)] := by
    intro n
    induction n with
    | zero => intro w7_2 rw7 hw7_2 jw7 fw7 hm7; exact zI.no hw7_2 (by decide) hm7
    | succ n ih7 =>
      intro w7_2 rw7 hw7_2 jw7 fw7 hm7
      intro H locs ls hw hS hl
      refine lv_iload_n hx hb dX8_begin_7 rfl (lv_at hl 2 rfl) ?_
      refine lv_aload_n hx hb dX8_begin_8 rfl (lv_at hl 1 rfl) ?_
      refine va_get (D := D) (ci := 2) (v := .int (rw7 171 10)) hx hb hts hiX2 hown hK hw.1 171 kg171 rfl 10 (by decide) lf31 (fun _ h9 => h9) rfl dX8_begin_9 ?_
      refine lv_icmp_ge (tgt := 78) hx hb dX8_begin_12 (by decide) (fun c1 => ?_) (fun c1 => ?_)
      · exact zvretQ hQ hx hb hr hlocks rw7 rfl ⟨jw7, fw7, trivial⟩ hw hS dX8_begin_78
      · have k2 : zI 0 5 (w7_2) := zI.ltU (zI.nle c1) hw7_2 (show zI 0 6 (rw7 171 10) from jw7.i 171 10) (by decide)
        have k3 : zI 1 6 (rw7 171 10) := zI.ltD (zI.nle c1) hw7_2 (show zI 0 6 (rw7 171 10) from jw7.i 171 10) (by decide)
        refine lv_aload_n hx hb dX8_begin_15 rfl (lv_at hl 0 rfl) ?_
        refine va_get (D := D) (ci := 7) (v := .ref (y 13)) hx hb hts hiX8 hown hK hw.1 12 kg12 rfl 0 (by decide) lf9 (fun _ h9 => h9) rfl dX8_begin_16 ?_
        refine lv_iload_n hx hb dX8_begin_19 rfl (lv_at hl 2 rfl) ?_
        refine lv_aload_n hx hb dX8_begin_20 rfl (lv_at hl 1 rfl) ?_
        refine va_get (D := D) (ci := 2) (v := .ref (y 176)) hx hb hts hiX2 hown hK hw.1 171 kg171 rfl 4 (by decide) lf36 (fun _ h9 => h9) rfl dX8_begin_21 ?_
        refine lv_iload_n hx hb dX8_begin_24 rfl (lv_at hl 2 rfl) ?_
        refine miald hx hb hK hw 176 kg176 k2 (by decide) dX8_begin_25 (zgen (lo := 0) (hi := 5) ((kJ.hm jw7 k2 (zI.nle c1) (by decide))) (fun v4 hv4 => ?_))
        refine miast hx hb hK hw hS 13 kg13 k2 (by decide) dX8_begin_26 (kW ct E y (zset rw7 13 (upd (rw7 13) (zn w7_2) v4)) q) ks13 (fun H locs hw hS => ?_)
        refine cmgen (P := fun x => kJ x ∧ zFt r x) hw ⟨jw7.set rfl hv4, fw7.set rfl⟩ (fun r5 er5 hw pr5 => ?_)
        refine lv_aload_n hx hb dX8_begin_27 rfl (lv_at hl 0 rfl) ?_
        refine va_get (D := D) (ci := 7) (v := .ref (y 14)) hx hb hts hiX8 hown hK hw.1 12 kg12 rfl 1 (by decide) lf15 (fun _ h9 => h9) rfl dX8_begin_28 ?_
        refine lv_iload_n hx hb dX8_begin_31 rfl (lv_at hl 2 rfl) ?_
        refine lv_aload_n hx hb dX8_begin_32 rfl (lv_at hl 1 rfl) ?_
        refine va_get (D := D) (ci := 2) (v := .ref (y 177)) hx hb hts hiX2 hown hK hw.1 171 kg171 rfl 5 (by decide) lf39 (fun _ h9 => h9) rfl dX8_begin_33 ?_
        refine lv_iload_n hx hb dX8_begin_36 rfl (lv_at hl 2 rfl) ?_
        refine miald hx hb hK hw 177 kg177 k2 (by decide) dX8_begin_37 (zgen (zI.top _) (fun v6 _ => ?_))
        refine miast hx hb hK hw hS 14 kg14 k2 (by decide) dX8_begin_38 (kW ct E y (zset r5 14 (upd (r5 14) (zn w7_2) v6)) q) ks14 (fun H locs hw hS => ?_)
        refine cmgen (P := fun x => kJ x ∧ zFt r x) hw ⟨pr5.1.set rfl (zI.top _), pr5.2.set rfl⟩ (fun r7 er7 hw pr7 => ?_)
        refine lv_aload_n hx hb dX8_begin_39 rfl (lv_at hl 0 rfl) ?_
        refine va_get (D := D) (ci := 7) (v := .ref (y 15)) hx hb hts hiX8 hown hK hw.1 12 kg12 rfl 2 (by decide) lf18 (fun _ h9 => h9) rfl dX8_begin_40 ?_
        refine lv_iload_n hx hb dX8_begin_43 rfl (lv_at hl 2 rfl) ?_
        refine lv_iconst (v := 0) hx hb dX8_begin_44 (by decide) ?_
        refine miast hx hb hK hw hS 15 kg15 k2 (by decide) dX8_begin_45 (kW ct E y (zset r7 15 (upd (r7 15) (zn w7_2) (0 : Int32))) q) ks15 (fun H locs hw hS => ?_)
        refine cmgen (P := fun x => kJ x ∧ zFt r x) hw ⟨pr7.1.set rfl ((zI.lit (a := 0) (b := 0) (c := 0) (by decide)).w (c := 0) (d := 20) (by decide)), pr7.2.set rfl⟩ (fun r8 er8 hw pr8 => ?_)
        refine lv_aload_n hx hb dX8_begin_46 rfl (lv_at hl 0 rfl) ?_
        refine va_get (D := D) (ci := 7) (v := .ref (y 16)) hx hb hts hiX8 hown hK hw.1 12 kg12 rfl 3 (by decide) lf21 (fun _ h9 => h9) rfl dX8_begin_47 ?_
        refine lv_iload_n hx hb dX8_begin_50 rfl (lv_at hl 2 rfl) ?_
        refine lv_aload_n hx hb dX8_begin_51 rfl (lv_at hl 1 rfl) ?_
        refine va_get (D := D) (ci := 2) (v := .ref (y 178)) hx hb hts hiX2 hown hK hw.1 171 kg171 rfl 6 (by decide) lf40 (fun _ h9 => h9) rfl dX8_begin_52 ?_
        refine lv_iload_n hx hb dX8_begin_55 rfl (lv_at hl 2 rfl) ?_
        refine miald hx hb hK hw 178 kg178 k2 (by decide) dX8_begin_56 (zgen (zI.top _) (fun v9 _ => ?_))
        refine miast hx hb hK hw hS 16 kg16 k2 (by decide) dX8_begin_57 (kW ct E y (zset r8 16 (upd (r8 16) (zn w7_2) v9)) q) ks16 (fun H locs hw hS => ?_)
        refine cmgen (P := fun x => kJ x ∧ zFt r x) hw ⟨pr8.1.set rfl (zI.top _), pr8.2.set rfl⟩ (fun r10 er10 hw pr10 => ?_)
        refine lv_aload_n hx hb dX8_begin_58 rfl (lv_at hl 0 rfl) ?_
        refine va_get (D := D) (ci := 7) (v := .ref (y 17)) hx hb hts hiX8 hown hK hw.1 12 kg12 rfl 4 (by decide) lf24 (fun _ h9 => h9) rfl dX8_begin_59 ?_
        refine lv_iload_n hx hb dX8_begin_62 rfl (lv_at hl 2 rfl) ?_
        refine lv_iconst (v := 1) hx hb dX8_begin_63 (by decide) ?_
        refine lv_aload_n hx hb dX8_begin_64 rfl (lv_at hl 1 rfl) ?_
        refine va_get (D := D) (ci := 2) (v := .ref (y 176)) hx hb hts hiX2 hown hK hw.1 171 kg171 rfl 4 (by decide) lf36 (fun _ h9 => h9) rfl dX8_begin_65 ?_
        refine lv_iload_n hx hb dX8_begin_68 rfl (lv_at hl 2 rfl) ?_
        refine miald hx hb hK hw 176 kg176 k2 (by decide) dX8_begin_69 (zgen (lo := (-1)) (hi := 5) ((show zI (-1) 5 (r10 176 _) from pr10.1.i 176 _)) (fun v11 hv11 => ?_))
        refine lv_ishl hx hb dX8_begin_70 (zgen (zI.top _) (fun v12 _ => ?_))
        refine miast hx hb hK hw hS 17 kg17 k2 (by decide) dX8_begin_71 (kW ct E y (zset r10 17 (upd (r10 17) (zn w7_2) v12)) q) ks17 (fun H locs hw hS => ?_)
        refine cmgen (P := fun x => kJ x ∧ zFt r x) hw ⟨pr10.1.set rfl (zI.top _), pr10.2.set rfl⟩ (fun r13 er13 hw pr13 => ?_)
        refine lv_iinc (v := w7_2 + 1) (lv' := [(2, .int (w7_2 + 1)), (0, .ref (y 12)), (1, .ref (y 171))]) hx hb dX8_begin_72 hl (k := 2) rfl (rfl) (by decide) rfl (fun ls hl => ?_)
        have k14 : zI 1 6 (w7_2 + 1) := zI.add k2 (zI.lit (a := 1) (b := 1) (by decide)) (by decide)
        refine lv_goto (tgt := 7) hx hb dX8_begin_75 (by decide) ?_
        exact ih7 (w7_2 + 1) r13 (k14.w (c := 0) (d := 6) (by decide)) pr13.1 pr13.2 (zI.up k2 (by decide) hm7) H locs ls hw hS (lv_sub hl [1, 2, 0] rfl)
  intro H locs hw hS ls hl
  have hl : lv_has ls 3 [(0, .ref (y 12)), (1, .ref (y 171))] := hl
  refine lv_aload_n hx hb dX8_begin_0 rfl (lv_at hl 0 rfl) ?_
  refine lv_iconst (v := 0) hx hb dX8_begin_1 (by decide) ?_
  refine zput (D := D) (ci := 7) (v := .int 0) (ty := .int) hx hb hts hiX8 tyX8 tyX8_ok nmX8 hown hK hw hS 12 kg12 rfl 5 (by decide) lf27 (fun _ h9 => h9) rfl (by decide +kernel) rfl rfl (Nat.le_of_ble_eq_true rfl) dX8_begin_2 (kW ct E y (zset r 12 (upd (r 12) 5 (0 : Int32))) q) ks12_5 (fun H locs hw hS => ?_)
  refine cmgen (P := fun x => kJ x ∧ zFt r x) hw ⟨hJ0.set rfl (zI.top _), (zFt.refl).set rfl⟩ (fun r15 er15 hw pr15 => ?_)
  refine lv_iconst (v := 0) hx hb dX8_begin_5 (by decide) ?_
  refine lv_istore_n (lv' := [(2, .int 0), (0, .ref (y 12)), (1, .ref (y 171))]) hx hb dX8_begin_6 rfl hl (by decide) rfl (fun ls hl => ?_)
  exact cut7 7 0 r15 ((zI.lit (a := 0) (b := 0) (c := 0) (by decide)).w (c := 0) (d := 6) (by decide)) pr15.1 pr15.2 (zI.m0 (zI.lit (a := 0) (b := 0) (c := 0) (by decide)) (by decide)) H locs ls hw hS (lv_sub hl [1, 2, 0] rfl)

set_option maxHeartbeats 4000000 in
set_option maxRecDepth 100000 in
theorem kc_arriveT (l : Launch) (D : va_G) (ct : Nat → ClassId) (E : Nat → Nat) (y : Nat → Nat) (a1 : Int32) (a2 : Int32) (r : zRr) (q : zRq) (g1 : zI 0 5 a1) (g2 : zI 0 5 a2) (hJ0 : kJ r) (hEi : kEi E) : cC l yX8_arrive (.code yX8_arrive cX8_arrive 3 none :: wsL_law0) ({ frames := 1, cells := 0, slots := 0, locals := 80 }) D ct E [.ref (y 12), .int a1, .int a2] (kW ct E y r q) (S := zRr) (fun u => none) (fun u => kJ u ∧ zFt r u ∧ True) (fun u => kW ct E y u q) := by
  refine cofQ cX8_arrive 3 none (by decide) rfl (Nat.le_of_ble_eq_true rfl) ?_
  intro p e s m below meth c A a9 Q ha9 hx hb hr hml hts hown hlocks hname hK hA hZ hN hQ
  have hown : s.vm.findClass RX8 = some m.cls := hown
  have hiX8 : ∀ w ∈ wsX80, w ∈ .code yX8_arrive cX8_arrive 3 none :: wsL_law0 := fun _ h => ki (zs_wsX80 _ h)
  have lf9 := hts (.fieldLink RX8 9 "BeardPass$Standing" "places" "[I") (ki (zr6 17 rfl))
  have lf24 := hts (.fieldLink RX8 24 "BeardPass$Standing" "been" "[I") (ki (zr6 21 rfl))
  intro H locs hw hS ls hl
  have hl : lv_has ls 3 [(0, .ref (y 12)), (1, .int a1), (2, .int a2)] := hl
  refine lv_aload_n hx hb dX8_arrive_0 rfl (lv_at hl 0 rfl) ?_
  refine va_get (D := D) (ci := 7) (v := .ref (y 13)) hx hb hts hiX8 hown hK hw.1 12 kg12 rfl 0 (by decide) lf9 (fun _ h9 => h9) rfl dX8_arrive_1 ?_
  refine lv_iload_n hx hb dX8_arrive_4 rfl (lv_at hl 1 rfl) ?_
  refine lv_iload_n hx hb dX8_arrive_5 rfl (lv_at hl 2 rfl) ?_
  refine miast hx hb hK hw hS 13 kg13 g1 (by decide) dX8_arrive_6 (kW ct E y (zset r 13 (upd (r 13) (zn a1) a2)) q) ks13 (fun H locs hw hS => ?_)
  refine cmgen (P := fun x => kJ x ∧ zFt r x) hw ⟨hJ0.set rfl g2, (zFt.refl).set rfl⟩ (fun r1 er1 hw pr1 => ?_)
  refine lv_aload_n hx hb dX8_arrive_7 rfl (lv_at hl 0 rfl) ?_
  refine va_get (D := D) (ci := 7) (v := .ref (y 17)) hx hb hts hiX8 hown hK hw.1 12 kg12 rfl 4 (by decide) lf24 (fun _ h9 => h9) rfl dX8_arrive_8 ?_
  refine lv_iload_n hx hb dX8_arrive_11 rfl (lv_at hl 1 rfl) ?_
  refine lv_dup2_11 hx hb dX8_arrive_12 rfl rfl ?_
  refine miald hx hb hK hw 17 kg17 g1 (by decide) dX8_arrive_13 (zgen (zI.top _) (fun v2 _ => ?_))
  refine lv_iconst (v := 1) hx hb dX8_arrive_14 (by decide) ?_
  refine lv_iload_n hx hb dX8_arrive_15 rfl (lv_at hl 2 rfl) ?_
  refine lv_ishl hx hb dX8_arrive_16 (zgen (lo := 1) (hi := 32) (zI.shl g2 5 (by decide)) (fun v3 hv3 => ?_))
  refine lv_ior hx hb dX8_arrive_17 (zgen (zI.top _) (fun v4 _ => ?_))
  refine miast hx hb hK hw hS 17 kg17 g1 (by decide) dX8_arrive_18 (kW ct E y (zset r1 17 (upd (r1 17) (zn a1) v4)) q) ks17 (fun H locs hw hS => ?_)
  refine cmgen (P := fun x => kJ x ∧ zFt r x) hw ⟨pr1.1.set rfl (zI.top _), pr1.2.set rfl⟩ (fun r5 er5 hw pr5 => ?_)
  exact zvretQ hQ hx hb hr hlocks r5 rfl ⟨pr5.1, pr5.2, trivial⟩ hw hS dX8_arrive_19

set_option maxHeartbeats 4000000 in
set_option maxRecDepth 100000 in
theorem kc_loseBeardT (l : Launch) (D : va_G) (ct : Nat → ClassId) (E : Nat → Nat) (y : Nat → Nat) (a1 : Int32) (r : zRr) (q : zRq) (g1 : zI 0 5 a1) (hJ0 : kJ r) (hEi : kEi E) : cC l yX8_loseBeard (.code yX8_loseBeard cX8_loseBeard 2 none :: wsL_law0) ({ frames := 1, cells := 0, slots := 0, locals := 80 }) D ct E [.ref (y 12), .int a1] (kW ct E y r q) (S := zRr) (fun u => none) (fun u => kJ u ∧ zFt r u ∧ True) (fun u => kW ct E y u q) := by
  refine cofQ cX8_loseBeard 2 none (by decide) rfl (Nat.le_of_ble_eq_true rfl) ?_
  intro p e s m below meth c A a9 Q ha9 hx hb hr hml hts hown hlocks hname hK hA hZ hN hQ
  have hown : s.vm.findClass RX8 = some m.cls := hown
  have hiX8 : ∀ w ∈ wsX80, w ∈ .code yX8_loseBeard cX8_loseBeard 2 none :: wsL_law0 := fun _ h => ki (zs_wsX80 _ h)
  have lf15 := hts (.fieldLink RX8 15 "BeardPass$Standing" "beards" "[I") (ki (zr6 18 rfl))
  have lf18 := hts (.fieldLink RX8 18 "BeardPass$Standing" "forged" "[I") (ki (zr6 19 rfl))
  intro H locs hw hS ls hl
  have hl : lv_has ls 2 [(0, .ref (y 12)), (1, .int a1)] := hl
  refine lv_aload_n hx hb dX8_loseBeard_0 rfl (lv_at hl 0 rfl) ?_
  refine va_get (D := D) (ci := 7) (v := .ref (y 14)) hx hb hts hiX8 hown hK hw.1 12 kg12 rfl 1 (by decide) lf15 (fun _ h9 => h9) rfl dX8_loseBeard_1 ?_
  refine lv_iload_n hx hb dX8_loseBeard_4 rfl (lv_at hl 1 rfl) ?_
  refine lv_iconst (v := 0) hx hb dX8_loseBeard_5 (by decide) ?_
  refine miast hx hb hK hw hS 14 kg14 g1 (by decide) dX8_loseBeard_6 (kW ct E y (zset r 14 (upd (r 14) (zn a1) (0 : Int32))) q) ks14 (fun H locs hw hS => ?_)
  refine cmgen (P := fun x => kJ x ∧ zFt r x) hw ⟨hJ0.set rfl (zI.top _), (zFt.refl).set rfl⟩ (fun r1 er1 hw pr1 => ?_)
  refine lv_aload_n hx hb dX8_loseBeard_7 rfl (lv_at hl 0 rfl) ?_
  refine va_get (D := D) (ci := 7) (v := .ref (y 15)) hx hb hts hiX8 hown hK hw.1 12 kg12 rfl 2 (by decide) lf18 (fun _ h9 => h9) rfl dX8_loseBeard_8 ?_
  refine lv_iload_n hx hb dX8_loseBeard_11 rfl (lv_at hl 1 rfl) ?_
  refine lv_iconst (v := 0) hx hb dX8_loseBeard_12 (by decide) ?_
  refine miast hx hb hK hw hS 15 kg15 g1 (by decide) dX8_loseBeard_13 (kW ct E y (zset r1 15 (upd (r1 15) (zn a1) (0 : Int32))) q) ks15 (fun H locs hw hS => ?_)
  refine cmgen (P := fun x => kJ x ∧ zFt r x) hw ⟨pr1.1.set rfl ((zI.lit (a := 0) (b := 0) (c := 0) (by decide)).w (c := 0) (d := 20) (by decide)), pr1.2.set rfl⟩ (fun r2 er2 hw pr2 => ?_)
  exact zvretQ hQ hx hb hr hlocks r2 rfl ⟨pr2.1, pr2.2, trivial⟩ hw hS dX8_loseBeard_14

set_option maxHeartbeats 4000000 in
set_option maxRecDepth 100000 in
theorem kc_peopledT (l : Launch) (D : va_G) (ct : Nat → ClassId) (E : Nat → Nat) (y : Nat → Nat) (a1 : Int32) (r : zRr) (q : zRq) (g1 : zI 0 6 a1) (hJ0 : kJ r) (hEi : kEi E) : cC l yX8_peopled (.code yX8_peopled cX8_peopled 4 (some .int) :: wsL_law0) ({ frames := 1, cells := 0, slots := 0, locals := 80 }) D ct E [.ref (y 12), .int a1] (kW ct E y r q) (S := Int32) (fun u => some (.int u)) (fun u => zI (-2147483648) 2147483647 u ∧ True) (fun u => kW ct E y r q) := by
  refine cofQ cX8_peopled 4 (some .int) (by decide) rfl (Nat.le_of_ble_eq_true rfl) ?_
  intro p e s m below meth c A a9 Q ha9 hx hb hr hml hts hown hlocks hname hK hA hZ hN hQ
  have hown : s.vm.findClass RX8 = some m.cls := hown
  have hiX8 : ∀ w ∈ wsX80, w ∈ .code yX8_peopled cX8_peopled 4 (some .int) :: wsL_law0 := fun _ h => ki (zs_wsX80 _ h)
  have lf9 := hts (.fieldLink RX8 9 "BeardPass$Standing" "places" "[I") (ki (zr6 17 rfl))
  have cut4 : ∀ (n : Nat) (w4_2 : Int32) (w4_3 : Int32) (hw4_1 : zI 0 6 a1) (hw4_2 : zI 0 63 w4_2) (hw4_3 : zI 0 6 w4_3), 6 - w4_3.toInt < (n : Int) → zKf p l e ({ frames := 1, cells := 0, slots := 0, locals := 80 }) s m a9 below meth c Q D A 4 4 [] (kW ct E y r q) [(0, .ref (y 12)), (1, .int a1), (2, .int w4_2), (3, .int w4_3)] := by
    intro n
    induction n with
    | zero => intro w4_2 w4_3 hw4_1 hw4_2 hw4_3 hm4; exact zI.no hw4_3 (by decide) hm4
    | succ n ih4 =>
      intro w4_2 w4_3 hw4_1 hw4_2 hw4_3 hm4
      intro H locs ls hw hS hl
      refine lv_iload_n hx hb dX8_peopled_4 rfl (lv_at hl 3 rfl) ?_
      refine lv_iload_n hx hb dX8_peopled_5 rfl (lv_at hl 1 rfl) ?_
      refine lv_icmp_ge (tgt := 26) hx hb dX8_peopled_6 (by decide) (fun c1 => ?_) (fun c1 => ?_)
      · refine lv_iload_n hx hb dX8_peopled_26 rfl (lv_at hl 2 rfl) ?_
        exact ziretQ hQ hx hb hr rfl hlocks w4_2 rfl ⟨(zI.top _), trivial⟩ hw hS dX8_peopled_27
      · have k2 : zI 0 5 (w4_3) := zI.ltU (zI.nle c1) hw4_3 hw4_1 (by decide)
        have k3 : zI 1 6 (a1) := zI.ltD (zI.nle c1) hw4_3 hw4_1 (by decide)
        refine lv_iload_n hx hb dX8_peopled_9 rfl (lv_at hl 2 rfl) ?_
        refine lv_iconst (v := 1) hx hb dX8_peopled_10 (by decide) ?_
        refine lv_aload_n hx hb dX8_peopled_11 rfl (lv_at hl 0 rfl) ?_
        refine va_get (D := D) (ci := 7) (v := .ref (y 13)) hx hb hts hiX8 hown hK hw.1 12 kg12 rfl 0 (by decide) lf9 (fun _ h9 => h9) rfl dX8_peopled_12 ?_
        refine lv_iload_n hx hb dX8_peopled_15 rfl (lv_at hl 3 rfl) ?_
        refine miald hx hb hK hw 13 kg13 k2 (by decide) dX8_peopled_16 (zgen (lo := 0) (hi := 5) ((show zI 0 5 (r 13 _) from hJ0.i 13 _)) (fun v4 hv4 => ?_))
        refine lv_ishl hx hb dX8_peopled_17 (zgen (lo := 1) (hi := 32) (zI.shl hv4 5 (by decide)) (fun v5 hv5 => ?_))
        refine lv_ior hx hb dX8_peopled_18 (zgen (lo := 0) (hi := 63) (zI.or 6 hw4_2 hv5 (by decide)) (fun v6 hv6 => ?_))
        refine lv_istore_n (lv' := [(2, .int v6), (0, .ref (y 12)), (1, .int a1), (3, .int w4_3)]) hx hb dX8_peopled_19 rfl hl (by decide) rfl (fun ls hl => ?_)
        refine lv_iinc (v := w4_3 + 1) (lv' := [(3, .int (w4_3 + 1)), (2, .int v6), (0, .ref (y 12)), (1, .int a1)]) hx hb dX8_peopled_20 hl (k := 3) rfl (rfl) (by decide) rfl (fun ls hl => ?_)
        have k7 : zI 1 6 (w4_3 + 1) := zI.add k2 (zI.lit (a := 1) (b := 1) (by decide)) (by decide)
        refine lv_goto (tgt := 4) hx hb dX8_peopled_23 (by decide) ?_
        exact ih4 v6 (w4_3 + 1) (k3.w (c := 0) (d := 6) (by decide)) hv6 (k7.w (c := 0) (d := 6) (by decide)) (zI.up k2 (by decide) hm4) H locs ls hw hS (lv_sub hl [2, 3, 1, 0] rfl)
  intro H locs hw hS ls hl
  have hl : lv_has ls 4 [(0, .ref (y 12)), (1, .int a1)] := hl
  refine lv_iconst (v := 0) hx hb dX8_peopled_0 (by decide) ?_
  refine lv_istore_n (lv' := [(2, .int 0), (0, .ref (y 12)), (1, .int a1)]) hx hb dX8_peopled_1 rfl hl (by decide) rfl (fun ls hl => ?_)
  refine lv_iconst (v := 0) hx hb dX8_peopled_2 (by decide) ?_
  refine lv_istore_n (lv' := [(3, .int 0), (2, .int 0), (0, .ref (y 12)), (1, .int a1)]) hx hb dX8_peopled_3 rfl hl (by decide) rfl (fun ls hl => ?_)
  exact cut4 7 0 0 g1 ((zI.lit (a := 0) (b := 0) (c := 0) (by decide)).w (c := 0) (d := 63) (by decide)) ((zI.lit (a := 0) (b := 0) (c := 0) (by decide)).w (c := 0) (d := 6) (by decide)) (zI.m0 (zI.lit (a := 0) (b := 0) (c := 0) (by decide)) (by decide)) H locs ls hw hS (lv_sub hl [2, 3, 1, 0] rfl)

set_option maxHeartbeats 4000000 in
set_option maxRecDepth 100000 in
theorem kc_passesAloneA (l : Launch) (D : va_G) (ct : Nat → ClassId) (E : Nat → Nat) (y : Nat → Nat) (a2 : Int32) (a3 : Int32) (a4 : Int32) (r : zRr) (q : zRq) (g2 : zI 0 5 a2) (g3 : zI 0 5 a3) (hJ0 : kJ r) (hEi : kEi E) : cC l yX0_passesAlone (.code yX0_passesAlone cX0_passesAlone 8 (some .boolean) :: wsL_law0) ({ frames := 3, cells := 0, slots := 0, locals := 160 }) D ct E [.ref (y 199), .ref (y 0), .int a2, .int a3, .int a4] (kW ct E y r q) (S := Int32 × zRr) (fun u => some (.int u.1)) (fun u => zI 0 1 u.1 ∧ kJ u.2 ∧ zFr [182] r u.2 ∧ True) (fun u => kW ct E y u.2 q) := by
  refine cofQ cX0_passesAlone 8 (some .boolean) (by decide) rfl (Nat.le_of_ble_eq_true rfl) ?_
  intro p e s m below meth c A a9 Q ha9 hx hb hr hml hts hown hlocks hname hK hA hZ hN hQ
  have hown : s.vm.findClass RX0 = some m.cls := hown
  have hiX0 : ∀ w ∈ wsX00, w ∈ .code yX0_passesAlone cX0_passesAlone 8 (some .boolean) :: wsL_law0 := fun _ h => ki (zs_wsX00 _ h)
  have hiX2 : ∀ w ∈ wsX20, w ∈ .code yX0_passesAlone cX0_passesAlone 8 (some .boolean) :: wsL_law0 := fun _ h => ki (zs_wsX20 _ h)
  have hiX8 : ∀ w ∈ wsX80, w ∈ .code yX0_passesAlone cX0_passesAlone 8 (some .boolean) :: wsL_law0 := fun _ h => ki (zs_wsX80 _ h)
  have lf9 := hts (.fieldLink RX0 9 "BeardPass$Frontier" "land" "LBeardPass$Land;") (ki (zr6 1 rfl))
  have lf15 := hts (.fieldLink RX0 15 "BeardPass$Land" "kinds" "[I") (ki (zr32 5 rfl))
  have lf21 := hts (.fieldLink RX0 21 "BeardPass$Land" "asks" "[I") (ki (zr32 15 rfl))
  have lf24 := hts (.fieldLink RX0 24 "BeardPass$Standing" "forged" "[I") (ki (zr32 16 rfl))
  have lf29 := hts (.fieldLink RX0 29 "BeardPass$Land" "law" "LBeardPass$Law;") (ki (zr32 17 rfl))
  have lf33 := hts (.fieldLink RX0 33 "BeardPass$Standing" "beards" "[I") (ki (zr32 18 rfl))
  have lf36 := hts (.fieldLink RX0 36 "BeardPass$Standing" "weeks" "I") (ki (zr32 19 rfl))
  have cut74 : ∀ (w74_s0 : Int32) (w74_s1 : Int32) (w74_s2 : Int32) (hw74_s1 : zI 0 20 w74_s1), zKf p l e ({ frames := 3, cells := 0, slots := 0, locals := 160 }) s m a9 below meth c Q D A 74 8 [.int w74_s0, .int w74_s1, .int w74_s2, .ref (y 180)] (kW ct E y r q) [(1, .ref (y 0))] := by
    intro w74_s0 w74_s1 w74_s2 hw74_s1 H locs ls hw hS hl
    refine lv_aload_n hx hb dX0_passesAlone_74 rfl (lv_at hl 0 rfl) ?_
    refine va_get (D := D) (ci := 7) (v := .int (r 0 5)) hx hb hts hiX8 hown hK hw.1 0 kg0 rfl 5 (by decide) lf36 (fun _ h9 => h9) rfl dX0_passesAlone_75 (zgen (zI.top _) (fun v1 _ => ?_))
    refine kcallV (As := [.int w74_s2, .int w74_s1, .int w74_s0, .int v1]) (rest := []) ⟨hx, hb, hml, hown, hts⟩ (kc_passes l D ct E y w74_s2 w74_s1 w74_s0 v1 r q hJ0 hEi) (wqX0_40_kc_passes hts ⟨Nat.le_of_ble_eq_true rfl, Nat.le_of_ble_eq_true rfl⟩) hw hS hA hK hZ hN 4 180 rfl kg180 rfl hl.1 rfl (Nat.le_of_ble_eq_true rfl) dX0_passesAlone_78 81 rfl (fun u2 H locs pu2 hw hS => ?_)
    obtain ⟨v3, r4⟩ := u2
    have hv3 : zI 0 1 v3 := pu2.1
    have ju2 : kJ r4 := pu2.2.1
    have fu2 : zFr [182] r r4 := pu2.2.2.1
    have xu2 : (v3, r4) = (Gk_passes w74_s2 w74_s1 w74_s0 v1 r q) := pu2.2.2.2.1
    have hw : zPD D A (kW ct E y r4 q) H := hw
    refine zfr 81 [.int v3] rfl rfl ?_
    exact ziretQ hQ hx hb hr (hv3.rn) hlocks (v3, r4) rfl ⟨hv3, ju2, ((zFr.refl).tr fu2 rfl), trivial⟩ hw hS dX0_passesAlone_81
  intro H locs hw hS ls hl
  have hl : lv_has ls 8 [(0, .ref (y 199)), (1, .ref (y 0)), (2, .int a2), (3, .int a3), (4, .int a4)] := hl
  refine lv_aload_n hx hb dX0_passesAlone_0 rfl (lv_at hl 0 rfl) ?_
  refine va_get (D := D) (ci := 0) (v := .ref (y 171)) hx hb hts hiX0 hown hK hw.1 199 kg199 rfl 0 (by decide) lf9 (fun _ h9 => h9) rfl dX0_passesAlone_1 ?_
  refine va_get (D := D) (ci := 2) (v := .ref (y 175)) hx hb hts hiX2 hown hK hw.1 171 kg171 rfl 3 (by decide) lf15 (fun _ h9 => h9) rfl dX0_passesAlone_4 ?_
  refine lv_iload_n hx hb dX0_passesAlone_7 rfl (lv_at hl 2 rfl) ?_
  refine miald hx hb hK hw 175 kg175 g2 (by decide) dX0_passesAlone_8 (zgen (zI.top _) (fun v5 _ => ?_))
  refine lv_istore (lv' := [(5, .int v5), (0, .ref (y 199)), (1, .ref (y 0)), (2, .int a2), (3, .int a3), (4, .int a4)]) hx hb dX0_passesAlone_9 hl (by decide) rfl (fun ls hl => ?_)
  refine lv_iload hx hb dX0_passesAlone_11 (lv_at hl 0 rfl) ?_
  refine lv_iconst (v := 2) hx hb dX0_passesAlone_13 (by decide) ?_
  refine lv_icmp_ne (tgt := 19) hx hb dX0_passesAlone_14 (by decide) (fun c6 => ?_) (fun c6 => ?_)
  · refine lv_aload_n hx hb dX0_passesAlone_19 rfl (lv_at hl 1 rfl) ?_
    refine va_get (D := D) (ci := 0) (v := .ref (y 171)) hx hb hts hiX0 hown hK hw.1 199 kg199 rfl 0 (by decide) lf9 (fun _ h9 => h9) rfl dX0_passesAlone_20 ?_
    refine va_get (D := D) (ci := 2) (v := .ref (y 172)) hx hb hts hiX2 hown hK hw.1 171 kg171 rfl 0 (by decide) lf21 (fun _ h9 => h9) rfl dX0_passesAlone_23 ?_
    refine lv_iload_n hx hb dX0_passesAlone_26 rfl (lv_at hl 4 rfl) ?_
    refine miald hx hb hK hw 172 kg172 g3 (by decide) dX0_passesAlone_27 (zgen (zI.top _) (fun v7 _ => ?_))
    refine lv_iload hx hb dX0_passesAlone_28 (lv_at hl 5 rfl) ?_
    refine lv_iadd hx hb dX0_passesAlone_30 (zgen (zI.top _) (fun v8 _ => ?_))
    refine lv_istore (lv' := [(6, .int v8), (5, .int v5), (0, .ref (y 199)), (1, .ref (y 0)), (2, .int a2), (3, .int a3), (4, .int a4)]) hx hb dX0_passesAlone_31 hl (by decide) rfl (fun ls hl => ?_)
    refine lv_aload_n hx hb dX0_passesAlone_33 rfl (lv_at hl 3 rfl) ?_
    refine va_get (D := D) (ci := 7) (v := .ref (y 3)) hx hb hts hiX8 hown hK hw.1 0 kg0 rfl 2 (by decide) lf24 (fun _ h9 => h9) rfl dX0_passesAlone_34 ?_
    refine lv_iload_n hx hb dX0_passesAlone_37 rfl (lv_at hl 4 rfl) ?_
    refine miald hx hb hK hw 3 kg3 g2 (by decide) dX0_passesAlone_38 (zgen (lo := 0) (hi := 20) ((show zI 0 20 (r 3 _) from hJ0.i 3 _)) (fun v9 hv9 => ?_))
    refine lv_istore (lv' := [(7, .int v9), (6, .int v8), (5, .int v5), (0, .ref (y 199)), (1, .ref (y 0)), (2, .int a2), (3, .int a3), (4, .int a4)]) hx hb dX0_passesAlone_39 hl (by decide) rfl (fun ls hl => ?_)
    refine lv_aload_n hx hb dX0_passesAlone_41 rfl (lv_at hl 3 rfl) ?_
    refine va_get (D := D) (ci := 0) (v := .ref (y 171)) hx hb hts hiX0 hown hK hw.1 199 kg199 rfl 0 (by decide) lf9 (fun _ h9 => h9) rfl dX0_passesAlone_42 ?_
    refine va_get (D := D) (ci := 2) (v := .ref (y 180)) hx hb hts hiX2 hown hK hw.1 171 kg171 rfl 8 (by decide) lf29 (fun _ h9 => h9) rfl dX0_passesAlone_45 ?_
    refine lv_aload_n hx hb dX0_passesAlone_48 rfl (lv_at hl 4 rfl) ?_
    refine va_get (D := D) (ci := 7) (v := .ref (y 2)) hx hb hts hiX8 hown hK hw.1 0 kg0 rfl 1 (by decide) lf33 (fun _ h9 => h9) rfl dX0_passesAlone_49 ?_
    refine lv_iload_n hx hb dX0_passesAlone_52 rfl (lv_at hl 5 rfl) ?_
    refine miald hx hb hK hw 2 kg2 g2 (by decide) dX0_passesAlone_53 (zgen (zI.top _) (fun v10 _ => ?_))
    refine lv_iload hx hb dX0_passesAlone_54 (lv_at hl 0 rfl) ?_
    refine lv_iadd hx hb dX0_passesAlone_56 (zgen (zI.top _) (fun v11 _ => ?_))
    refine lv_iload hx hb dX0_passesAlone_57 (lv_at hl 0 rfl) ?_
    refine lv_iload hx hb dX0_passesAlone_59 (lv_at hl 2 rfl) ?_
    refine lv_iconst (v := 3) hx hb dX0_passesAlone_61 (by decide) ?_
    refine lv_icmp_ne (tgt := 72) hx hb dX0_passesAlone_62 (by decide) (fun c12 => ?_) (fun c12 => ?_)
    · refine lv_iload hx hb dX0_passesAlone_72 (lv_at hl 1 rfl) ?_
      exact cut74 v8 v9 v11 hv9 H locs ls hw hS (lv_sub hl [4] rfl)
    · have k13 : zI 3 3 (v5) := zI.eqq c12 (zI.lit (a := 3) (b := 3) (c := 3) (by decide))
      refine lv_iload hx hb dX0_passesAlone_65 (lv_at hl 1 rfl) ?_
      refine lv_iconst (v := 2) hx hb dX0_passesAlone_67 (by decide) ?_
      refine lv_idiv hx hb dX0_passesAlone_68 (by decide) (zgen (zI.top _) (fun v14 _ => ?_))
      refine lv_goto (tgt := 74) hx hb dX0_passesAlone_69 (by decide) ?_
      exact cut74 v14 v9 v11 hv9 H locs ls hw hS (lv_sub hl [4] rfl)
  · have k15 : zI 2 2 (v5) := zI.eqq c6 (zI.lit (a := 2) (b := 2) (c := 2) (by decide))
    refine lv_iconst (v := 1) hx hb dX0_passesAlone_17 (by decide) ?_
    exact ziretQ hQ hx hb hr rfl hlocks ((1 : Int32), r) rfl ⟨((zI.lit (a := 1) (b := 1) (c := 1) (by decide)).w (c := 0) (d := 1) (by decide)), hJ0, (zFr.refl), trivial⟩ hw hS dX0_passesAlone_18

set_option maxHeartbeats 4000000 in
set_option maxRecDepth 100000 in
theorem kc_opensA (l : Launch) (D : va_G) (ct : Nat → ClassId) (E : Nat → Nat) (y : Nat → Nat) (a2 : Int32) (a3 : Int32) (r : zRr) (q : zRq) (g2 : zI 0 5 a2) (hJ0 : kJ r) (hEi : kEi E) : cC l yX0_opens (.code yX0_opens cX0_opens 6 (some .int) :: wsL_law0) ({ frames := 4, cells := 0, slots := 0, locals := 200 }) D ct E [.ref (y 199), .ref (y 0), .int a2, .int a3] (kW ct E y r q) (S := Int32 × zRr) (fun u => some (.int u.1)) (fun u => zI (-2147483648) 2147483647 u.1 ∧ kJ u.2 ∧ zFr [182] r u.2 ∧ True) (fun u => kW ct E y u.2 q) := by
  refine cofQ cX0_opens 6 (some .int) (by decide) rfl (Nat.le_of_ble_eq_true rfl) ?_
  intro p e s m below meth c A a9 Q ha9 hx hb hr hml hts hown hlocks hname hK hA hZ hN hQ
  have hown : s.vm.findClass RX0 = some m.cls := hown
  have hiX0 : ∀ w ∈ wsX00, w ∈ .code yX0_opens cX0_opens 6 (some .int) :: wsL_law0 := fun _ h => ki (zs_wsX00 _ h)
  have hiX2 : ∀ w ∈ wsX20, w ∈ .code yX0_opens cX0_opens 6 (some .int) :: wsL_law0 := fun _ h => ki (zs_wsX20 _ h)
  have lf9 := hts (.fieldLink RX0 9 "BeardPass$Frontier" "land" "LBeardPass$Land;") (ki (zr6 1 rfl))
  have lf46 := hts (.fieldLink RX0 46 "BeardPass$Land" "towns" "I") (ki (zr42 19 rfl))
  have cut6 : ∀ (n : Nat) (w6_4 : Int32) (w6_5 : Int32) (rw6 : zRr) (hw6_2 : zI 0 5 a2) (hw6_4 : zI 0 63 w6_4) (hw6_5 : zI 0 6 w6_5) (jw6 : kJ rw6) (fw6 : zFr [182] r rw6), 6 - w6_5.toInt < (n : Int) → zKf p l e ({ frames := 4, cells := 0, slots := 0, locals := 200 }) s m a9 below meth c Q D A 6 6 [] (kW ct E y rw6 q) [(0, .ref (y 199)), (1, .ref (y 0)), (2, .int a2), (3, .int a3), (4, .int w6_4), (5, .int w6_5)] := by
    intro n
    induction n with
    | zero => intro w6_4 w6_5 rw6 hw6_2 hw6_4 hw6_5 jw6 fw6 hm6; exact zI.no hw6_5 (by decide) hm6
    | succ n ih6 =>
      intro w6_4 w6_5 rw6 hw6_2 hw6_4 hw6_5 jw6 fw6 hm6
      have cut39 : ∀ (w39_4 : Int32) (rw39 : zRr) (hw39_2 : zI 0 5 a2) (hw39_4 : zI 0 63 w39_4) (hw39_5 : zI 0 5 w6_5) (jw39 : kJ rw39) (fw39 : zFr [182] r rw39), zKf p l e ({ frames := 4, cells := 0, slots := 0, locals := 200 }) s m a9 below meth c Q D A 39 6 [] (kW ct E y rw39 q) [(0, .ref (y 199)), (1, .ref (y 0)), (2, .int a2), (3, .int a3), (4, .int w39_4), (5, .int w6_5)] := by
        intro w39_4 rw39 hw39_2 hw39_4 hw39_5 jw39 fw39 H locs ls hw hS hl
        refine lv_iinc (v := w6_5 + 1) (lv' := [(5, .int (w6_5 + 1)), (0, .ref (y 199)), (1, .ref (y 0)), (2, .int a2), (3, .int a3), (4, .int w39_4)]) hx hb dX0_opens_39 hl (k := 5) rfl (rfl) (by decide) rfl (fun ls hl => ?_)
        have k1 : zI 1 6 (w6_5 + 1) := zI.add hw39_5 (zI.lit (a := 1) (b := 1) (by decide)) (by decide)
        refine lv_goto (tgt := 6) hx hb dX0_opens_42 (by decide) ?_
        exact ih6 w39_4 (w6_5 + 1) rw39 hw39_2 hw39_4 (k1.w (c := 0) (d := 6) (by decide)) jw39 fw39 (zI.up hw39_5 (by decide) hm6) H locs ls hw hS (lv_sub hl [1, 2, 3, 4, 5, 0] rfl)
      intro H locs ls hw hS hl
      refine lv_iload hx hb dX0_opens_6 (lv_at hl 5 rfl) ?_
      refine lv_aload_n hx hb dX0_opens_8 rfl (lv_at hl 0 rfl) ?_
      refine va_get (D := D) (ci := 0) (v := .ref (y 171)) hx hb hts hiX0 hown hK hw.1 199 kg199 rfl 0 (by decide) lf9 (fun _ h9 => h9) rfl dX0_opens_9 ?_
      refine va_get (D := D) (ci := 2) (v := .int (rw6 171 9)) hx hb hts hiX2 hown hK hw.1 171 kg171 rfl 9 (by decide) lf46 (fun _ h9 => h9) rfl dX0_opens_12 (zgen (lo := 0) (hi := 6) ((show zI 0 6 (rw6 171 9) from jw6.i 171 9)) (fun v2 hv2 => ?_))
      refine lv_icmp_ge (tgt := 45) hx hb dX0_opens_15 (by decide) (fun c3 => ?_) (fun c3 => ?_)
      · refine lv_iload hx hb dX0_opens_45 (lv_at hl 4 rfl) ?_
        exact ziretQ hQ hx hb hr rfl hlocks (w6_4, rw6) rfl ⟨(zI.top _), jw6, fw6, trivial⟩ hw hS dX0_opens_47
      · have k4 : zI 0 5 (w6_5) := zI.ltU (zI.nle c3) hw6_5 hv2 (by decide)
        have k5 : zI 1 6 (v2) := zI.ltD (zI.nle c3) hw6_5 hv2 (by decide)
        refine lv_aload_n hx hb dX0_opens_18 rfl (lv_at hl 0 rfl) ?_
        refine lv_aload_n hx hb dX0_opens_19 rfl (lv_at hl 1 rfl) ?_
        refine lv_iload_n hx hb dX0_opens_20 rfl (lv_at hl 2 rfl) ?_
        refine lv_iload hx hb dX0_opens_21 (lv_at hl 5 rfl) ?_
        refine lv_iload_n hx hb dX0_opens_23 rfl (lv_at hl 3 rfl) ?_
        refine kcallV (As := [.ref (y 0), .int a2, .int w6_5, .int a3]) (rest := []) ⟨hx, hb, hml, hown, hts⟩ (kc_passesAloneA l D ct E y a2 w6_5 a3 rw6 q hw6_2 k4 jw6 hEi) (wqX0_49_kc_passesAloneA hts ⟨Nat.le_of_ble_eq_true rfl, Nat.le_of_ble_eq_true rfl⟩) hw hS hA hK hZ hN 0 199 rfl kg199 rfl hl.1 rfl (Nat.le_of_ble_eq_true rfl) dX0_opens_24 27 rfl (fun u6 H locs pu6 hw hS => ?_)
        obtain ⟨v7, r8⟩ := u6
        have hv7 : zI 0 1 v7 := pu6.1
        have ju6 : kJ r8 := pu6.2.1
        have fu6 : zFr [182] rw6 r8 := pu6.2.2.1
        have hw : zPD D A (kW ct E y r8 q) H := hw
        refine zfr 27 [.int v7] rfl rfl ?_
        refine lv_if_eq (tgt := 39) hx hb dX0_opens_27 (by decide) (fun c9 => ?_) (fun c9 => ?_)
        · have k10 : zI 0 0 (v7) := zI.eqq c9 (zI.lit (a := 0) (b := 0) (c := 0) (by decide))
          exact cut39 w6_4 r8 hw6_2 hw6_4 k4 ju6 (fw6.tr fu6 rfl) H locs ls hw hS (lv_sub hl [0, 1, 2, 3, 4, 5] rfl)
        · have k11 : zI 1 1 (v7) := zI.neD c9 hv7 (zI.lit (a := 0) (b := 0) (c := 0) (by decide)) (by decide)
          refine lv_iload hx hb dX0_opens_30 (lv_at hl 4 rfl) ?_
          refine lv_iconst (v := 1) hx hb dX0_opens_32 (by decide) ?_
          refine lv_iload hx hb dX0_opens_33 (lv_at hl 5 rfl) ?_
          refine lv_ishl hx hb dX0_opens_35 (zgen (lo := 1) (hi := 32) (zI.shl k4 5 (by decide)) (fun v12 hv12 => ?_))
          refine lv_ior hx hb dX0_opens_36 (zgen (lo := 0) (hi := 63) (zI.or 6 hw6_4 hv12 (by decide)) (fun v13 hv13 => ?_))
          refine lv_istore (lv' := [(4, .int v13), (0, .ref (y 199)), (1, .ref (y 0)), (2, .int a2), (3, .int a3), (5, .int w6_5)]) hx hb dX0_opens_37 hl (by decide) rfl (fun ls hl => ?_)
          exact cut39 v13 r8 hw6_2 hv13 k4 ju6 (fw6.tr fu6 rfl) H locs ls hw hS (lv_sub hl [1, 2, 3, 4, 0, 5] rfl)
  intro H locs hw hS ls hl
  have hl : lv_has ls 6 [(0, .ref (y 199)), (1, .ref (y 0)), (2, .int a2), (3, .int a3)] := hl
  refine lv_iconst (v := 0) hx hb dX0_opens_0 (by decide) ?_
  refine lv_istore (lv' := [(4, .int 0), (0, .ref (y 199)), (1, .ref (y 0)), (2, .int a2), (3, .int a3)]) hx hb dX0_opens_1 hl (by decide) rfl (fun ls hl => ?_)
  refine lv_iconst (v := 0) hx hb dX0_opens_3 (by decide) ?_
  refine lv_istore (lv' := [(5, .int 0), (4, .int 0), (0, .ref (y 199)), (1, .ref (y 0)), (2, .int a2), (3, .int a3)]) hx hb dX0_opens_4 hl (by decide) rfl (fun ls hl => ?_)
  exact cut6 7 0 0 r g2 ((zI.lit (a := 0) (b := 0) (c := 0) (by decide)).w (c := 0) (d := 63) (by decide)) ((zI.lit (a := 0) (b := 0) (c := 0) (by decide)).w (c := 0) (d := 6) (by decide)) hJ0 (zFr.refl) (zI.m0 (zI.lit (a := 0) (b := 0) (c := 0) (by decide)) (by decide)) H locs ls hw hS (lv_sub hl [2, 3, 4, 5, 1, 0] rfl)

set_option maxHeartbeats 4000000 in
set_option maxRecDepth 100000 in
theorem kc_passWeekA (l : Launch) (D : va_G) (ct : Nat → ClassId) (E : Nat → Nat) (y : Nat → Nat) (r : zRr) (q : zRq) (hJ0 : kJ r) (hEi : kEi E) : cC l yX0_passWeek (.code yX0_passWeek cX0_passWeek 4 none :: wsL_law0) ({ frames := 2, cells := 0, slots := 0, locals := 120 }) D ct E [.ref (y 199), .ref (y 0)] (kW ct E y r q) (S := zRr) (fun u => none) (fun u => kJ u ∧ zFt r u ∧ True) (fun u => kW ct E y u q) := by
  refine cofQ cX0_passWeek 4 none (by decide) rfl (Nat.le_of_ble_eq_true rfl) ?_
  intro p e s m below meth c A a9 Q ha9 hx hb hr hml hts hown hlocks hname hK hA hZ hN hQ
  have hown : s.vm.findClass RX0 = some m.cls := hown
  have hiX0 : ∀ w ∈ wsX00, w ∈ .code yX0_passWeek cX0_passWeek 4 none :: wsL_law0 := fun _ h => ki (zs_wsX00 _ h)
  have hiX2 : ∀ w ∈ wsX20, w ∈ .code yX0_passWeek cX0_passWeek 4 none :: wsL_law0 := fun _ h => ki (zs_wsX20 _ h)
  have hiX8 : ∀ w ∈ wsX80, w ∈ .code yX0_passWeek cX0_passWeek 4 none :: wsL_law0 := fun _ h => ki (zs_wsX80 _ h)
  have lf9 := hts (.fieldLink RX0 9 "BeardPass$Frontier" "land" "LBeardPass$Land;") (ki (zr6 1 rfl))
  have lf15 := hts (.fieldLink RX0 15 "BeardPass$Land" "kinds" "[I") (ki (zr32 5 rfl))
  have lf33 := hts (.fieldLink RX0 33 "BeardPass$Standing" "beards" "[I") (ki (zr32 18 rfl))
  have lf36 := hts (.fieldLink RX0 36 "BeardPass$Standing" "weeks" "I") (ki (zr32 19 rfl))
  have lf53 := hts (.fieldLink RX0 53 "BeardPass$Land" "persons" "I") (ki (zr32 0 rfl))
  have lf80 := hts (.fieldLink RX0 80 "BeardPass$Land" "grows" "I") (ki (zr39 3 rfl))
  have cut12 : ∀ (n : Nat) (w12_2 : Int32) (rw12 : zRr) (hw12_2 : zI 0 6 w12_2) (jw12 : kJ rw12) (fw12 : zFt r rw12), 6 - w12_2.toInt < (n : Int) → zKf p l e ({ frames := 2, cells := 0, slots := 0, locals := 120 }) s m a9 below meth c Q D A 12 4 [] (kW ct E y rw12 q) [(0, .ref (y 199)), (1, .ref (y 0)), (2, .int w12_2)] := by
    intro n
    induction n with
    | zero => intro w12_2 rw12 hw12_2 jw12 fw12 hm12; exact zI.no hw12_2 (by decide) hm12
    | succ n ih12 =>
      intro w12_2 rw12 hw12_2 jw12 fw12 hm12
      have cut63 : ∀ (rw63 : zRr) (hw63_2 : zI 0 5 w12_2) (jw63 : kJ rw63) (fw63 : zFt r rw63), zKf p l e ({ frames := 2, cells := 0, slots := 0, locals := 120 }) s m a9 below meth c Q D A 63 4 [] (kW ct E y rw63 q) [(0, .ref (y 199)), (1, .ref (y 0)), (2, .int w12_2)] := by
        intro rw63 hw63_2 jw63 fw63 H locs ls hw hS hl
        refine lv_iinc (v := w12_2 + 1) (lv' := [(2, .int (w12_2 + 1)), (0, .ref (y 199)), (1, .ref (y 0))]) hx hb dX0_passWeek_63 hl (k := 2) rfl (rfl) (by decide) rfl (fun ls hl => ?_)
        have k1 : zI 1 6 (w12_2 + 1) := zI.add hw63_2 (zI.lit (a := 1) (b := 1) (by decide)) (by decide)
        refine lv_goto (tgt := 12) hx hb dX0_passWeek_66 (by decide) ?_
        exact ih12 (w12_2 + 1) rw63 (k1.w (c := 0) (d := 6) (by decide)) jw63 fw63 (zI.up hw63_2 (by decide) hm12) H locs ls hw hS (lv_sub hl [1, 2, 0] rfl)
      intro H locs ls hw hS hl
      refine lv_iload_n hx hb dX0_passWeek_12 rfl (lv_at hl 2 rfl) ?_
      refine lv_aload_n hx hb dX0_passWeek_13 rfl (lv_at hl 0 rfl) ?_
      refine va_get (D := D) (ci := 0) (v := .ref (y 171)) hx hb hts hiX0 hown hK hw.1 199 kg199 rfl 0 (by decide) lf9 (fun _ h9 => h9) rfl dX0_passWeek_14 ?_
      refine va_get (D := D) (ci := 2) (v := .int (rw12 171 10)) hx hb hts hiX2 hown hK hw.1 171 kg171 rfl 10 (by decide) lf53 (fun _ h9 => h9) rfl dX0_passWeek_17 (zgen (lo := 0) (hi := 6) ((show zI 0 6 (rw12 171 10) from jw12.i 171 10)) (fun v2 hv2 => ?_))
      refine lv_icmp_ge (tgt := 69) hx hb dX0_passWeek_20 (by decide) (fun c3 => ?_) (fun c3 => ?_)
      · exact zvretQ hQ hx hb hr hlocks rw12 rfl ⟨jw12, fw12, trivial⟩ hw hS dX0_passWeek_69
      · have k4 : zI 0 5 (w12_2) := zI.ltU (zI.nle c3) hw12_2 hv2 (by decide)
        have k5 : zI 1 6 (v2) := zI.ltD (zI.nle c3) hw12_2 hv2 (by decide)
        refine lv_aload_n hx hb dX0_passWeek_23 rfl (lv_at hl 0 rfl) ?_
        refine va_get (D := D) (ci := 0) (v := .ref (y 171)) hx hb hts hiX0 hown hK hw.1 199 kg199 rfl 0 (by decide) lf9 (fun _ h9 => h9) rfl dX0_passWeek_24 ?_
        refine va_get (D := D) (ci := 2) (v := .ref (y 175)) hx hb hts hiX2 hown hK hw.1 171 kg171 rfl 3 (by decide) lf15 (fun _ h9 => h9) rfl dX0_passWeek_27 ?_
        refine lv_iload_n hx hb dX0_passWeek_30 rfl (lv_at hl 2 rfl) ?_
        refine miald hx hb hK hw 175 kg175 k4 (by decide) dX0_passWeek_31 (zgen (zI.top _) (fun v6 _ => ?_))
        refine lv_iconst (v := 1) hx hb dX0_passWeek_32 (by decide) ?_
        refine lv_icmp_eq (tgt := 63) hx hb dX0_passWeek_33 (by decide) (fun c7 => ?_) (fun c7 => ?_)
        · have k8 : zI 1 1 (v6) := zI.eqq c7 (zI.lit (a := 1) (b := 1) (c := 1) (by decide))
          exact cut63 rw12 k4 jw12 fw12 H locs ls hw hS (lv_sub hl [0, 1, 2] rfl)
        · refine lv_aload_n hx hb dX0_passWeek_36 rfl (lv_at hl 1 rfl) ?_
          refine va_get (D := D) (ci := 7) (v := .ref (y 2)) hx hb hts hiX8 hown hK hw.1 0 kg0 rfl 1 (by decide) lf33 (fun _ h9 => h9) rfl dX0_passWeek_37 ?_
          refine lv_iload_n hx hb dX0_passWeek_40 rfl (lv_at hl 2 rfl) ?_
          refine miald hx hb hK hw 2 kg2 k4 (by decide) dX0_passWeek_41 (zgen (zI.top _) (fun v9 _ => ?_))
          refine lv_aload_n hx hb dX0_passWeek_42 rfl (lv_at hl 0 rfl) ?_
          refine va_get (D := D) (ci := 0) (v := .ref (y 171)) hx hb hts hiX0 hown hK hw.1 199 kg199 rfl 0 (by decide) lf9 (fun _ h9 => h9) rfl dX0_passWeek_43 ?_
          refine va_get (D := D) (ci := 2) (v := .int (rw12 171 11)) hx hb hts hiX2 hown hK hw.1 171 kg171 rfl 11 (by decide) lf80 (fun _ h9 => h9) rfl dX0_passWeek_46 (zgen (zI.top _) (fun v10 _ => ?_))
          refine lv_iadd hx hb dX0_passWeek_49 (zgen (zI.top _) (fun v11 _ => ?_))
          refine lv_istore_n (lv' := [(3, .int v11), (0, .ref (y 199)), (1, .ref (y 0)), (2, .int w12_2)]) hx hb dX0_passWeek_50 rfl hl (by decide) rfl (fun ls hl => ?_)
          refine lv_aload_n hx hb dX0_passWeek_51 rfl (lv_at hl 2 rfl) ?_
          refine va_get (D := D) (ci := 7) (v := .ref (y 2)) hx hb hts hiX8 hown hK hw.1 0 kg0 rfl 1 (by decide) lf33 (fun _ h9 => h9) rfl dX0_passWeek_52 ?_
          refine lv_iload_n hx hb dX0_passWeek_55 rfl (lv_at hl 3 rfl) ?_
          refine lv_iload_n hx hb dX0_passWeek_56 rfl (lv_at hl 0 rfl) ?_
          refine lv_bipush (v := 60) hx hb dX0_passWeek_57 (by decide) ?_
          refine va_mmin hx hb (hml.trans hl.1.symm) hown (hts (.methodLink RX0 83 Lib.Math.min.name) (ki (zr39 4 rfl))) (hts (.static Lib.Math.min.name) (ki (zr35 17 rfl))) (hts (.initialized "java/lang/Math") (ki (zr35 18 rfl))) (hts (.code Lib.Math.min.name Lib.Math.min.code 2 (some .int)) (ki (zr35 19 rfl))) (Nat.le_of_ble_eq_true rfl) (Nat.le_of_ble_eq_true rfl) (Nat.le_of_ble_eq_true rfl) (Nat.le_of_ble_eq_true rfl) dX0_passWeek_59 (zgen (zI.top _) (fun v12 _ => ?_))
          refine miast hx hb hK hw hS 2 kg2 k4 (by decide) dX0_passWeek_62 (kW ct E y (zset rw12 2 (upd (rw12 2) (zn w12_2) v12)) q) ks2 (fun H locs hw hS => ?_)
          refine cmgen (P := fun x => kJ x ∧ zFt r x) hw ⟨jw12.set rfl (zI.top _), fw12.set rfl⟩ (fun r13 er13 hw pr13 => ?_)
          exact cut63 r13 k4 pr13.1 pr13.2 H locs ls hw hS (lv_sub hl [1, 2, 3] rfl)
  intro H locs hw hS ls hl
  have hl : lv_has ls 4 [(0, .ref (y 199)), (1, .ref (y 0))] := hl
  refine lv_aload_n hx hb dX0_passWeek_0 rfl (lv_at hl 1 rfl) ?_
  refine lv_dup hx hb dX0_passWeek_1 rfl ?_
  refine va_get (D := D) (ci := 7) (v := .int (r 0 5)) hx hb hts hiX8 hown hK hw.1 0 kg0 rfl 5 (by decide) lf36 (fun _ h9 => h9) rfl dX0_passWeek_2 (zgen (zI.top _) (fun v14 _ => ?_))
  refine lv_iconst (v := 1) hx hb dX0_passWeek_5 (by decide) ?_
  refine lv_iadd hx hb dX0_passWeek_6 (zgen (zI.top _) (fun v15 _ => ?_))
  refine zput (D := D) (ci := 7) (v := .int v15) (ty := .int) hx hb hts hiX8 tyX8 tyX8_ok nmX8 hown hK hw hS 0 kg0 rfl 5 (by decide) lf36 (fun _ h9 => h9) rfl (by decide +kernel) rfl rfl (Nat.le_of_ble_eq_true rfl) dX0_passWeek_7 (kW ct E y (zset r 0 (upd (r 0) 5 v15)) q) ks0_5 (fun H locs hw hS => ?_)
  refine cmgen (P := fun x => kJ x ∧ zFt r x) hw ⟨hJ0.set rfl (zI.top _), (zFt.refl).set rfl⟩ (fun r16 er16 hw pr16 => ?_)
  refine lv_iconst (v := 0) hx hb dX0_passWeek_10 (by decide) ?_
  refine lv_istore_n (lv' := [(2, .int 0), (0, .ref (y 199)), (1, .ref (y 0))]) hx hb dX0_passWeek_11 rfl hl (by decide) rfl (fun ls hl => ?_)
  exact cut12 7 0 r16 ((zI.lit (a := 0) (b := 0) (c := 0) (by decide)).w (c := 0) (d := 6) (by decide)) pr16.1 pr16.2 (zI.m0 (zI.lit (a := 0) (b := 0) (c := 0) (by decide)) (by decide)) H locs ls hw hS (lv_sub hl [1, 2, 0] rfl)

set_option maxHeartbeats 4000000 in
set_option maxRecDepth 100000 in
theorem kc_layA (l : Launch) (D : va_G) (ct : Nat → ClassId) (E : Nat → Nat) (y : Nat → Nat) (a2 : Int32) (a3 : Int32) (r : zRr) (q : zRq) (g2 : zI 0 5 a2) (hJ0 : kJ r) (hEi : kEi E) : cC l yX10_lay (.code yX10_lay cX10_lay 6 none :: wsL_law0) ({ frames := 5, cells := 0, slots := 0, locals := 240 }) D ct E [.ref (y 200), .ref (y 0), .int a2, .int a3] (kW ct E y r q) (S := zRr) (fun u => none) (fun u => kJ u ∧ zFr [182, 202] r u ∧ True) (fun u => kW ct E y u q) := by
  refine cofQ cX10_lay 6 none (by decide) rfl (Nat.le_of_ble_eq_true rfl) ?_
  intro p e s m below meth c A a9 Q ha9 hx hb hr hml hts hown hlocks hname hK hA hZ hN hQ
  have hown : s.vm.findClass RX10 = some m.cls := hown
  have hiX10 : ∀ w ∈ wsX100, w ∈ .code yX10_lay cX10_lay 6 none :: wsL_law0 := fun _ h => ki (zs_wsX100 _ h)
  have hiX2 : ∀ w ∈ wsX20, w ∈ .code yX10_lay cX10_lay 6 none :: wsL_law0 := fun _ h => ki (zs_wsX20 _ h)
  have hiX8 : ∀ w ∈ wsX80, w ∈ .code yX10_lay cX10_lay 6 none :: wsL_law0 := fun _ h => ki (zs_wsX80 _ h)
  have lf22 := hts (.fieldLink RX10 22 "BeardPass$Ways" "steps" "[I") (ki (zr6 9 rfl))
  have lf31 := hts (.fieldLink RX10 31 "BeardPass$Ways" "land" "LBeardPass$Land;") (ki (zr6 12 rfl))
  have lf35 := hts (.fieldLink RX10 35 "BeardPass$Ways" "frontier" "LBeardPass$Frontier;") (ki (zr6 13 rfl))
  have lf45 := hts (.fieldLink RX10 45 "BeardPass$Land" "kinds" "[I") (ki (zr42 10 rfl))
  have lf56 := hts (.fieldLink RX10 56 "BeardPass$Land" "towns" "I") (ki (zr42 11 rfl))
  have lf60 := hts (.fieldLink RX10 60 "BeardPass$Land" "roads" "[I") (ki (zr42 12 rfl))
  have lf63 := hts (.fieldLink RX10 63 "BeardPass$Land" "persons" "I") (ki (zr42 13 rfl))
  have lf66 := hts (.fieldLink RX10 66 "BeardPass$Standing" "places" "[I") (ki (zr42 5 rfl))
  have cut78 : ∀ (n : Nat) (w78_4 : Int32) (rw78 : zRr) (hw78_4 : zI 0 6 w78_4) (jw78 : kJ rw78) (fw78 : zFr [182, 202] r rw78), 6 - w78_4.toInt < (n : Int) → zKf p l e ({ frames := 5, cells := 0, slots := 0, locals := 240 }) s m a9 below meth c Q D A 78 6 [] (kW ct E y rw78 q) [(0, .ref (y 200)), (1, .ref (y 0)), (3, .int a3), (4, .int w78_4)] := by
    intro n
    induction n with
    | zero => intro w78_4 rw78 hw78_4 jw78 fw78 hm78; exact zI.no hw78_4 (by decide) hm78
    | succ n ih78 =>
      intro w78_4 rw78 hw78_4 jw78 fw78 hm78
      have cut145 : ∀ (rw145 : zRr) (hw145_4 : zI 0 5 w78_4) (jw145 : kJ rw145) (fw145 : zFr [182, 202] r rw145), zKf p l e ({ frames := 5, cells := 0, slots := 0, locals := 240 }) s m a9 below meth c Q D A 145 6 [] (kW ct E y rw145 q) [(0, .ref (y 200)), (1, .ref (y 0)), (3, .int a3), (4, .int w78_4)] := by
        intro rw145 hw145_4 jw145 fw145 H locs ls hw hS hl
        refine lv_iinc (v := w78_4 + 1) (lv' := [(4, .int (w78_4 + 1)), (0, .ref (y 200)), (1, .ref (y 0)), (3, .int a3)]) hx hb dX10_lay_145 hl (k := 3) rfl (rfl) (by decide) rfl (fun ls hl => ?_)
        have k1 : zI 1 6 (w78_4 + 1) := zI.add hw145_4 (zI.lit (a := 1) (b := 1) (by decide)) (by decide)
        refine lv_goto (tgt := 78) hx hb dX10_lay_148 (by decide) ?_
        exact ih78 (w78_4 + 1) rw145 (k1.w (c := 0) (d := 6) (by decide)) jw145 fw145 (zI.up hw145_4 (by decide) hm78) H locs ls hw hS (lv_sub hl [1, 2, 3, 0] rfl)
      intro H locs ls hw hS hl
      refine lv_iload hx hb dX10_lay_78 (lv_at hl 3 rfl) ?_
      refine lv_aload_n hx hb dX10_lay_80 rfl (lv_at hl 0 rfl) ?_
      refine va_get (D := D) (ci := 9) (v := .ref (y 171)) hx hb hts hiX10 hown hK hw.1 200 kg200 rfl 0 (by decide) lf31 (fun _ h9 => h9) rfl dX10_lay_81 ?_
      refine va_get (D := D) (ci := 2) (v := .int (rw78 171 10)) hx hb hts hiX2 hown hK hw.1 171 kg171 rfl 10 (by decide) lf63 (fun _ h9 => h9) rfl dX10_lay_84 (zgen (lo := 0) (hi := 6) ((show zI 0 6 (rw78 171 10) from jw78.i 171 10)) (fun v2 hv2 => ?_))
      refine lv_icmp_ge (tgt := 151) hx hb dX10_lay_87 (by decide) (fun c3 => ?_) (fun c3 => ?_)
      · exact zvretQ hQ hx hb hr hlocks rw78 rfl ⟨jw78, fw78, trivial⟩ hw hS dX10_lay_151
      · have k4 : zI 0 5 (w78_4) := zI.ltU (zI.nle c3) hw78_4 hv2 (by decide)
        have k5 : zI 1 6 (v2) := zI.ltD (zI.nle c3) hw78_4 hv2 (by decide)
        refine lv_aload_n hx hb dX10_lay_90 rfl (lv_at hl 0 rfl) ?_
        refine va_get (D := D) (ci := 9) (v := .ref (y 171)) hx hb hts hiX10 hown hK hw.1 200 kg200 rfl 0 (by decide) lf31 (fun _ h9 => h9) rfl dX10_lay_91 ?_
        refine va_get (D := D) (ci := 2) (v := .ref (y 175)) hx hb hts hiX2 hown hK hw.1 171 kg171 rfl 3 (by decide) lf45 (fun _ h9 => h9) rfl dX10_lay_94 ?_
        refine lv_iload hx hb dX10_lay_97 (lv_at hl 3 rfl) ?_
        refine miald hx hb hK hw 175 kg175 k4 (by decide) dX10_lay_99 (zgen (zI.top _) (fun v6 _ => ?_))
        refine lv_iconst (v := 1) hx hb dX10_lay_100 (by decide) ?_
        refine lv_icmp_eq (tgt := 145) hx hb dX10_lay_101 (by decide) (fun c7 => ?_) (fun c7 => ?_)
        · have k8 : zI 1 1 (v6) := zI.eqq c7 (zI.lit (a := 1) (b := 1) (c := 1) (by decide))
          exact cut145 rw78 k4 jw78 fw78 H locs ls hw hS (lv_sub hl [0, 1, 2, 3] rfl)
        · refine lv_aload_n hx hb dX10_lay_104 rfl (lv_at hl 1 rfl) ?_
          refine va_get (D := D) (ci := 7) (v := .ref (y 1)) hx hb hts hiX8 hown hK hw.1 0 kg0 rfl 0 (by decide) lf66 (fun _ h9 => h9) rfl dX10_lay_105 ?_
          refine lv_iload hx hb dX10_lay_108 (lv_at hl 3 rfl) ?_
          refine miald hx hb hK hw 1 kg1 k4 (by decide) dX10_lay_110 (zgen (lo := 0) (hi := 5) ((show zI 0 5 (rw78 1 _) from jw78.i 1 _)) (fun v9 hv9 => ?_))
          refine lv_istore (lv' := [(5, .int v9), (0, .ref (y 200)), (1, .ref (y 0)), (3, .int a3), (4, .int w78_4)]) hx hb dX10_lay_111 hl (by decide) rfl (fun ls hl => ?_)
          refine lv_aload_n hx hb dX10_lay_113 rfl (lv_at hl 1 rfl) ?_
          refine va_get (D := D) (ci := 9) (v := .ref (y 202)) hx hb hts hiX10 hown hK hw.1 200 kg200 rfl 4 (by decide) lf22 (fun _ h9 => h9) rfl dX10_lay_114 ?_
          refine lv_iload hx hb dX10_lay_117 (lv_at hl 0 rfl) ?_
          refine lv_dup2_11 hx hb dX10_lay_119 rfl rfl ?_
          refine miald hx hb hK hw 202 kg202 hv9 (by decide) dX10_lay_120 (zgen (zI.top _) (fun v10 _ => ?_))
          refine lv_aload_n hx hb dX10_lay_121 rfl (lv_at hl 1 rfl) ?_
          refine va_get (D := D) (ci := 9) (v := .ref (y 171)) hx hb hts hiX10 hown hK hw.1 200 kg200 rfl 0 (by decide) lf31 (fun _ h9 => h9) rfl dX10_lay_122 ?_
          refine va_get (D := D) (ci := 2) (v := .ref (y 173)) hx hb hts hiX2 hown hK hw.1 171 kg171 rfl 1 (by decide) lf60 (fun _ h9 => h9) rfl dX10_lay_125 ?_
          refine lv_iload hx hb dX10_lay_128 (lv_at hl 0 rfl) ?_
          refine miald hx hb hK hw 173 kg173 hv9 (by decide) dX10_lay_130 (zgen (zI.top _) (fun v11 _ => ?_))
          refine lv_aload_n hx hb dX10_lay_131 rfl (lv_at hl 1 rfl) ?_
          refine va_get (D := D) (ci := 9) (v := .ref (y 199)) hx hb hts hiX10 hown hK hw.1 200 kg200 rfl 1 (by decide) lf35 (fun _ h9 => h9) rfl dX10_lay_132 ?_
          refine lv_aload_n hx hb dX10_lay_135 rfl (lv_at hl 2 rfl) ?_
          refine lv_iload hx hb dX10_lay_136 (lv_at hl 4 rfl) ?_
          refine lv_iload_n hx hb dX10_lay_138 rfl (lv_at hl 3 rfl) ?_
          refine kcallV (As := [.ref (y 0), .int w78_4, .int a3]) (rest := [.int v11, .int v10, .int v9, .ref (y 202)]) ⟨hx, hb, hml, hown, hts⟩ (kc_opensA l D ct E y w78_4 a3 rw78 q k4 jw78 hEi) (wqX10_50_kc_opensA hts ⟨Nat.le_of_ble_eq_true rfl, Nat.le_of_ble_eq_true rfl⟩) hw hS hA hK hZ hN 0 199 rfl kg199 rfl hl.1 rfl (Nat.le_of_ble_eq_true rfl) dX10_lay_139 142 rfl (fun u12 H locs pu12 hw hS => ?_)
          obtain ⟨v13, r14⟩ := u12
          have hv13 : zI (-2147483648) 2147483647 v13 := pu12.1
          have ju12 : kJ r14 := pu12.2.1
          have fu12 : zFr [182] rw78 r14 := pu12.2.2.1
          have hw : zPD D A (kW ct E y r14 q) H := hw
          refine zfr 142 [.int v13, .int v11, .int v10, .int v9, .ref (y 202)] rfl rfl ?_
          refine lv_iand hx hb dX10_lay_142 (zgen (zI.top _) (fun v15 _ => ?_))
          refine lv_ior hx hb dX10_lay_143 (zgen (zI.top _) (fun v16 _ => ?_))
          refine miast hx hb hK hw hS 202 kg202 hv9 (by decide) dX10_lay_144 (kW ct E y (zset r14 202 (upd (r14 202) (zn v9) v16)) q) ks202 (fun H locs hw hS => ?_)
          refine cmgen (P := fun x => kJ x ∧ zFr [182, 202] r x) hw ⟨ju12.set rfl (zI.top _), (fw78.tr fu12 rfl).set rfl⟩ (fun r17 er17 hw pr17 => ?_)
          exact cut145 r17 k4 pr17.1 pr17.2 H locs ls hw hS (lv_sub hl [1, 2, 3, 4] rfl)
  have cut36 : ∀ (n : Nat) (w36_4 : Int32) (w36_5 : Int32) (rw36 : zRr) (hw36_5 : zI 0 6 w36_5) (jw36 : kJ rw36) (fw36 : zFr [182, 202] r rw36), 6 - w36_5.toInt < (n : Int) → zKf p l e ({ frames := 5, cells := 0, slots := 0, locals := 240 }) s m a9 below meth c Q D A 36 6 [] (kW ct E y rw36 q) [(0, .ref (y 200)), (4, .int w36_4), (5, .int w36_5)] := by
    intro n
    induction n with
    | zero => intro w36_4 w36_5 rw36 hw36_5 jw36 fw36 hm36; exact zI.no hw36_5 (by decide) hm36
    | succ n ih36 =>
      intro w36_4 w36_5 rw36 hw36_5 jw36 fw36 hm36
      intro H locs ls hw hS hl
      refine lv_iload hx hb dX10_lay_36 (lv_at hl 2 rfl) ?_
      refine lv_aload_n hx hb dX10_lay_38 rfl (lv_at hl 0 rfl) ?_
      refine va_get (D := D) (ci := 9) (v := .ref (y 171)) hx hb hts hiX10 hown hK hw.1 200 kg200 rfl 0 (by decide) lf31 (fun _ h9 => h9) rfl dX10_lay_39 ?_
      refine va_get (D := D) (ci := 2) (v := .int (rw36 171 9)) hx hb hts hiX2 hown hK hw.1 171 kg171 rfl 9 (by decide) lf56 (fun _ h9 => h9) rfl dX10_lay_42 (zgen (lo := 0) (hi := 6) ((show zI 0 6 (rw36 171 9) from jw36.i 171 9)) (fun v18 hv18 => ?_))
      refine lv_icmp_ge (tgt := 74) hx hb dX10_lay_45 (by decide) (fun c19 => ?_) (fun c19 => ?_)
      · exact zvretQ hQ hx hb hr hlocks rw36 rfl ⟨jw36, fw36, trivial⟩ hw hS dX10_lay_74
      · have k20 : zI 0 5 (w36_5) := zI.ltU (zI.nle c19) hw36_5 hv18 (by decide)
        have k21 : zI 1 6 (v18) := zI.ltD (zI.nle c19) hw36_5 hv18 (by decide)
        refine lv_aload_n hx hb dX10_lay_48 rfl (lv_at hl 0 rfl) ?_
        refine va_get (D := D) (ci := 9) (v := .ref (y 202)) hx hb hts hiX10 hown hK hw.1 200 kg200 rfl 4 (by decide) lf22 (fun _ h9 => h9) rfl dX10_lay_49 ?_
        refine lv_iload hx hb dX10_lay_52 (lv_at hl 2 rfl) ?_
        refine lv_aload_n hx hb dX10_lay_54 rfl (lv_at hl 0 rfl) ?_
        refine va_get (D := D) (ci := 9) (v := .ref (y 171)) hx hb hts hiX10 hown hK hw.1 200 kg200 rfl 0 (by decide) lf31 (fun _ h9 => h9) rfl dX10_lay_55 ?_
        refine va_get (D := D) (ci := 2) (v := .ref (y 173)) hx hb hts hiX2 hown hK hw.1 171 kg171 rfl 1 (by decide) lf60 (fun _ h9 => h9) rfl dX10_lay_58 ?_
        refine lv_iload hx hb dX10_lay_61 (lv_at hl 2 rfl) ?_
        refine miald hx hb hK hw 173 kg173 k20 (by decide) dX10_lay_63 (zgen (zI.top _) (fun v22 _ => ?_))
        refine lv_iload hx hb dX10_lay_64 (lv_at hl 1 rfl) ?_
        refine lv_iand hx hb dX10_lay_66 (zgen (zI.top _) (fun v23 _ => ?_))
        refine miast hx hb hK hw hS 202 kg202 k20 (by decide) dX10_lay_67 (kW ct E y (zset rw36 202 (upd (rw36 202) (zn w36_5) v23)) q) ks202 (fun H locs hw hS => ?_)
        refine cmgen (P := fun x => kJ x ∧ zFr [182, 202] r x) hw ⟨jw36.set rfl (zI.top _), fw36.set rfl⟩ (fun r24 er24 hw pr24 => ?_)
        refine lv_iinc (v := w36_5 + 1) (lv' := [(5, .int (w36_5 + 1)), (0, .ref (y 200)), (4, .int w36_4)]) hx hb dX10_lay_68 hl (k := 2) rfl (rfl) (by decide) rfl (fun ls hl => ?_)
        have k25 : zI 1 6 (w36_5 + 1) := zI.add k20 (zI.lit (a := 1) (b := 1) (by decide)) (by decide)
        refine lv_goto (tgt := 36) hx hb dX10_lay_71 (by decide) ?_
        exact ih36 w36_4 (w36_5 + 1) r24 (k25.w (c := 0) (d := 6) (by decide)) pr24.1 pr24.2 (zI.up k20 (by decide) hm36) H locs ls hw hS (lv_sub hl [1, 2, 0] rfl)
  intro H locs hw hS ls hl
  have hl : lv_has ls 6 [(0, .ref (y 200)), (1, .ref (y 0)), (2, .int a2), (3, .int a3)] := hl
  refine lv_aload_n hx hb dX10_lay_0 rfl (lv_at hl 0 rfl) ?_
  refine va_get (D := D) (ci := 9) (v := .ref (y 202)) hx hb hts hiX10 hown hK hw.1 200 kg200 rfl 4 (by decide) lf22 (fun _ h9 => h9) rfl dX10_lay_1 ?_
  refine lv_iconst (v := 0) hx hb dX10_lay_4 (by decide) ?_
  refine kcallZS (As := [.ref (y 202), .int 0]) (rest := []) [202] (by decide) rfl ⟨hx, hb, hml, hown, hts⟩ (c_fill l D ct (y 202) (0 : Int32) 6 (r 202) (by decide)) (va_cwS 2 hts (kgSm (zr42 14 rfl) (zr10 23 rfl) (zr11 0 rfl) mL_J7_fill_53178) rfl rfl rfl (by decide +kernel) ⟨Nat.le_of_ble_eq_true rfl, Nat.le_of_ble_eq_true rfl⟩) hw hS hA hK hN rfl rfl hl.1 rfl (Nat.le_of_ble_eq_true rfl) dX10_lay_5 8 rfl (zset r 202 (zfl (r 202) (0 : Int32) 6)) q (fun _ => rfl) kset1x (fun _ H locs _ hw hS => ?_)
  refine zfr 8 [] rfl rfl ?_
  refine cmgen (P := fun x => kJ x ∧ zFr [182, 202] r x) hw ⟨hJ0.fill rfl (fun _ => zI.top _), (zFr.refl).set rfl⟩ (fun r26 er26 hw pr26 => ?_)
  refine lv_aload_n hx hb dX10_lay_8 rfl (lv_at hl 0 rfl) ?_
  refine va_get (D := D) (ci := 9) (v := .ref (y 171)) hx hb hts hiX10 hown hK hw.1 200 kg200 rfl 0 (by decide) lf31 (fun _ h9 => h9) rfl dX10_lay_9 ?_
  refine va_get (D := D) (ci := 2) (v := .ref (y 175)) hx hb hts hiX2 hown hK hw.1 171 kg171 rfl 3 (by decide) lf45 (fun _ h9 => h9) rfl dX10_lay_12 ?_
  refine lv_iload_n hx hb dX10_lay_15 rfl (lv_at hl 2 rfl) ?_
  refine miald hx hb hK hw 175 kg175 g2 (by decide) dX10_lay_16 (zgen (zI.top _) (fun v27 _ => ?_))
  refine lv_iconst (v := 1) hx hb dX10_lay_17 (by decide) ?_
  refine lv_icmp_eq (tgt := 75) hx hb dX10_lay_18 (by decide) (fun c28 => ?_) (fun c28 => ?_)
  · have k29 : zI 1 1 (v27) := zI.eqq c28 (zI.lit (a := 1) (b := 1) (c := 1) (by decide))
    refine lv_iconst (v := 0) hx hb dX10_lay_75 (by decide) ?_
    refine lv_istore (lv' := [(4, .int 0), (0, .ref (y 200)), (1, .ref (y 0)), (2, .int a2), (3, .int a3)]) hx hb dX10_lay_76 hl (by decide) rfl (fun ls hl => ?_)
    exact cut78 7 0 r26 ((zI.lit (a := 0) (b := 0) (c := 0) (by decide)).w (c := 0) (d := 6) (by decide)) pr26.1 pr26.2 (zI.m0 (zI.lit (a := 0) (b := 0) (c := 0) (by decide)) (by decide)) H locs ls hw hS (lv_sub hl [1, 2, 4, 0] rfl)
  · refine lv_aload_n hx hb dX10_lay_21 rfl (lv_at hl 0 rfl) ?_
    refine va_get (D := D) (ci := 9) (v := .ref (y 199)) hx hb hts hiX10 hown hK hw.1 200 kg200 rfl 1 (by decide) lf35 (fun _ h9 => h9) rfl dX10_lay_22 ?_
    refine lv_aload_n hx hb dX10_lay_25 rfl (lv_at hl 1 rfl) ?_
    refine lv_iload_n hx hb dX10_lay_26 rfl (lv_at hl 2 rfl) ?_
    refine lv_iload_n hx hb dX10_lay_27 rfl (lv_at hl 3 rfl) ?_
    refine kcallV (As := [.ref (y 0), .int a2, .int a3]) (rest := []) ⟨hx, hb, hml, hown, hts⟩ (kc_opensA l D ct E y a2 a3 r26 q g2 pr26.1 hEi) (wqX10_50_kc_opensA hts ⟨Nat.le_of_ble_eq_true rfl, Nat.le_of_ble_eq_true rfl⟩) hw hS hA hK hZ hN 0 199 rfl kg199 rfl hl.1 rfl (Nat.le_of_ble_eq_true rfl) dX10_lay_28 31 rfl (fun u30 H locs pu30 hw hS => ?_)
    obtain ⟨v31, r32⟩ := u30
    have hv31 : zI (-2147483648) 2147483647 v31 := pu30.1
    have ju30 : kJ r32 := pu30.2.1
    have fu30 : zFr [182] r26 r32 := pu30.2.2.1
    have hw : zPD D A (kW ct E y r32 q) H := hw
    refine zfr 31 [.int v31] rfl rfl ?_
    refine lv_istore (lv' := [(4, .int v31), (0, .ref (y 200)), (1, .ref (y 0)), (2, .int a2), (3, .int a3)]) hx hb dX10_lay_31 hl (by decide) rfl (fun ls hl => ?_)
    refine lv_iconst (v := 0) hx hb dX10_lay_33 (by decide) ?_
    refine lv_istore (lv' := [(5, .int 0), (4, .int v31), (0, .ref (y 200)), (1, .ref (y 0)), (2, .int a2), (3, .int a3)]) hx hb dX10_lay_34 hl (by decide) rfl (fun ls hl => ?_)
    exact cut36 7 v31 0 r32 ((zI.lit (a := 0) (b := 0) (c := 0) (by decide)).w (c := 0) (d := 6) (by decide)) ju30 (pr26.2.tr fu30 rfl) (zI.m0 (zI.lit (a := 0) (b := 0) (c := 0) (by decide)) (by decide)) H locs ls hw hS (lv_sub hl [2, 1, 0] rfl)

noncomputable def Gk_passesAloneN_74 (r : zRr) (q : zRq) (w74_s0 : Int32) (w74_s1 : Int32) (w74_s2 : Int32) : Int32 × zRr :=
  zlet (α := Int32) (r 6 5) <| fun v1 => zc_vr (Gk_passes w74_s2 w74_s1 w74_s0 v1 r q) <| fun v3 r4 => (v3, r4)
noncomputable def Gk_passesAloneN (a2 : Int32) (a3 : Int32) (a4 : Int32) (r : zRr) (q : zRq) : Int32 × zRr :=
  zlet (α := Int32) (r 175 (zn a2)) <| fun v5 => zifn (v5 = (2 : Int32)) (zlet (α := Int32) (r 172 (zn a3)) <| fun v7 => zlet (α := Int32) (v7 + a4) <| fun v8 => zlet (α := Int32) (r 9 (zn a2)) <| fun v9 => zlet (α := Int32) (r 8 (zn a2)) <| fun v10 => zlet (α := Int32) (v10 + v9) <| fun v11 => zifn (v5 = (3 : Int32)) (Gk_passesAloneN_74 r q v8 v9 v11) (zlet (α := Int32) (v8 / 2) <| fun v14 => Gk_passesAloneN_74 r q v14 v9 v11)) (((1 : Int32), r))
set_option maxHeartbeats 4000000 in
set_option maxRecDepth 100000 in
theorem kc_passesAloneN (l : Launch) (D : va_G) (ct : Nat → ClassId) (E : Nat → Nat) (y : Nat → Nat) (a2 : Int32) (a3 : Int32) (a4 : Int32) (r : zRr) (q : zRq) (g2 : zI 0 5 a2) (g3 : zI 0 5 a3) (hJ0 : kJ r) (hEi : kEi E) : cC l yX0_passesAlone (.code yX0_passesAlone cX0_passesAlone 8 (some .boolean) :: wsL_law0) ({ frames := 3, cells := 0, slots := 0, locals := 160 }) D ct E [.ref (y 199), .ref (y 6), .int a2, .int a3, .int a4] (kW ct E y r q) (S := Int32 × zRr) (fun u => some (.int u.1)) (fun u => zI 0 1 u.1 ∧ kJ u.2 ∧ zFr [182] r u.2 ∧ u = (Gk_passesAloneN a2 a3 a4 r q) ∧ True) (fun u => kW ct E y u.2 q) := by
  refine cofQ cX0_passesAlone 8 (some .boolean) (by decide) rfl (Nat.le_of_ble_eq_true rfl) ?_
  intro p e s m below meth c A a9 Q ha9 hx hb hr hml hts hown hlocks hname hK hA hZ hN hQ
  have hown : s.vm.findClass RX0 = some m.cls := hown
  have hiX0 : ∀ w ∈ wsX00, w ∈ .code yX0_passesAlone cX0_passesAlone 8 (some .boolean) :: wsL_law0 := fun _ h => ki (zs_wsX00 _ h)
  have hiX2 : ∀ w ∈ wsX20, w ∈ .code yX0_passesAlone cX0_passesAlone 8 (some .boolean) :: wsL_law0 := fun _ h => ki (zs_wsX20 _ h)
  have hiX8 : ∀ w ∈ wsX80, w ∈ .code yX0_passesAlone cX0_passesAlone 8 (some .boolean) :: wsL_law0 := fun _ h => ki (zs_wsX80 _ h)
  have lf9 := hts (.fieldLink RX0 9 "BeardPass$Frontier" "land" "LBeardPass$Land;") (ki (zr6 1 rfl))
  have lf15 := hts (.fieldLink RX0 15 "BeardPass$Land" "kinds" "[I") (ki (zr32 5 rfl))
  have lf21 := hts (.fieldLink RX0 21 "BeardPass$Land" "asks" "[I") (ki (zr32 15 rfl))
  have lf24 := hts (.fieldLink RX0 24 "BeardPass$Standing" "forged" "[I") (ki (zr32 16 rfl))
  have lf29 := hts (.fieldLink RX0 29 "BeardPass$Land" "law" "LBeardPass$Law;") (ki (zr32 17 rfl))
  have lf33 := hts (.fieldLink RX0 33 "BeardPass$Standing" "beards" "[I") (ki (zr32 18 rfl))
  have lf36 := hts (.fieldLink RX0 36 "BeardPass$Standing" "weeks" "I") (ki (zr32 19 rfl))
  obtain ⟨X, hX⟩ : ∃ X, X = (Gk_passesAloneN a2 a3 a4 r q) := ⟨_, rfl⟩
  have cut74 : ∀ (w74_s0 : Int32) (w74_s1 : Int32) (w74_s2 : Int32) (hw74_s1 : zI 0 20 w74_s1) (hE : X = Gk_passesAloneN_74 r q w74_s0 w74_s1 w74_s2), zKf p l e ({ frames := 3, cells := 0, slots := 0, locals := 160 }) s m a9 below meth c Q D A 74 8 [.int w74_s0, .int w74_s1, .int w74_s2, .ref (y 180)] (kW ct E y r q) [(1, .ref (y 6))] := by
    intro w74_s0 w74_s1 w74_s2 hw74_s1 hE H locs ls hw hS hl
    unfold Gk_passesAloneN_74 at hE
    refine lv_aload_n hx hb dX0_passesAlone_74 rfl (lv_at hl 0 rfl) ?_
    refine va_get (D := D) (ci := 7) (v := .int (r 6 5)) hx hb hts hiX8 hown hK hw.1 6 kg6 rfl 5 (by decide) lf36 (fun _ h9 => h9) rfl dX0_passesAlone_75 (zgenE (zI.top _) (fun v1 ev1 _ => ?_))
    have hE := zletE ev1 hE
    refine kcallV (As := [.int w74_s2, .int w74_s1, .int w74_s0, .int v1]) (rest := []) ⟨hx, hb, hml, hown, hts⟩ (kc_passes l D ct E y w74_s2 w74_s1 w74_s0 v1 r q hJ0 hEi) (wqX0_40_kc_passes hts ⟨Nat.le_of_ble_eq_true rfl, Nat.le_of_ble_eq_true rfl⟩) hw hS hA hK hZ hN 4 180 rfl kg180 rfl hl.1 rfl (Nat.le_of_ble_eq_true rfl) dX0_passesAlone_78 81 rfl (fun u2 H locs pu2 hw hS => ?_)
    obtain ⟨v3, r4⟩ := u2
    have hv3 : zI 0 1 v3 := pu2.1
    have ju2 : kJ r4 := pu2.2.1
    have fu2 : zFr [182] r r4 := pu2.2.2.1
    have xu2 : (v3, r4) = (Gk_passes w74_s2 w74_s1 w74_s0 v1 r q) := pu2.2.2.2.1
    have hE := zc_vrE xu2 hE
    have hw : zPD D A (kW ct E y r4 q) H := hw
    refine zfr 81 [.int v3] rfl rfl ?_
    exact ziretQ hQ hx hb hr (hv3.rn) hlocks (v3, r4) rfl ⟨hv3, ju2, ((zFr.refl).tr fu2 rfl), (hE.symm.trans hX), trivial⟩ hw hS dX0_passesAlone_81
  intro H locs hw hS ls hl
  have hl : lv_has ls 8 [(0, .ref (y 199)), (1, .ref (y 6)), (2, .int a2), (3, .int a3), (4, .int a4)] := hl
  have hE := hX
  unfold Gk_passesAloneN at hE
  refine lv_aload_n hx hb dX0_passesAlone_0 rfl (lv_at hl 0 rfl) ?_
  refine va_get (D := D) (ci := 0) (v := .ref (y 171)) hx hb hts hiX0 hown hK hw.1 199 kg199 rfl 0 (by decide) lf9 (fun _ h9 => h9) rfl dX0_passesAlone_1 ?_
  refine va_get (D := D) (ci := 2) (v := .ref (y 175)) hx hb hts hiX2 hown hK hw.1 171 kg171 rfl 3 (by decide) lf15 (fun _ h9 => h9) rfl dX0_passesAlone_4 ?_
  refine lv_iload_n hx hb dX0_passesAlone_7 rfl (lv_at hl 2 rfl) ?_
  refine miald hx hb hK hw 175 kg175 g2 (by decide) dX0_passesAlone_8 (zgenE (zI.top _) (fun v5 ev5 _ => ?_))
  have hE := zletE ev5 hE
  refine lv_istore (lv' := [(5, .int v5), (0, .ref (y 199)), (1, .ref (y 6)), (2, .int a2), (3, .int a3), (4, .int a4)]) hx hb dX0_passesAlone_9 hl (by decide) rfl (fun ls hl => ?_)
  refine lv_iload hx hb dX0_passesAlone_11 (lv_at hl 0 rfl) ?_
  refine lv_iconst (v := 2) hx hb dX0_passesAlone_13 (by decide) ?_
  refine lv_icmp_ne (tgt := 19) hx hb dX0_passesAlone_14 (by decide) (fun c6 => ?_) (fun c6 => ?_)
  · have hE := zifnT c6 hE
    refine lv_aload_n hx hb dX0_passesAlone_19 rfl (lv_at hl 1 rfl) ?_
    refine va_get (D := D) (ci := 0) (v := .ref (y 171)) hx hb hts hiX0 hown hK hw.1 199 kg199 rfl 0 (by decide) lf9 (fun _ h9 => h9) rfl dX0_passesAlone_20 ?_
    refine va_get (D := D) (ci := 2) (v := .ref (y 172)) hx hb hts hiX2 hown hK hw.1 171 kg171 rfl 0 (by decide) lf21 (fun _ h9 => h9) rfl dX0_passesAlone_23 ?_
    refine lv_iload_n hx hb dX0_passesAlone_26 rfl (lv_at hl 4 rfl) ?_
    refine miald hx hb hK hw 172 kg172 g3 (by decide) dX0_passesAlone_27 (zgenE (zI.top _) (fun v7 ev7 _ => ?_))
    have hE := zletE ev7 hE
    refine lv_iload hx hb dX0_passesAlone_28 (lv_at hl 5 rfl) ?_
    refine lv_iadd hx hb dX0_passesAlone_30 (zgenE (zI.top _) (fun v8 ev8 _ => ?_))
    have hE := zletE ev8 hE
    refine lv_istore (lv' := [(6, .int v8), (5, .int v5), (0, .ref (y 199)), (1, .ref (y 6)), (2, .int a2), (3, .int a3), (4, .int a4)]) hx hb dX0_passesAlone_31 hl (by decide) rfl (fun ls hl => ?_)
    refine lv_aload_n hx hb dX0_passesAlone_33 rfl (lv_at hl 3 rfl) ?_
    refine va_get (D := D) (ci := 7) (v := .ref (y 9)) hx hb hts hiX8 hown hK hw.1 6 kg6 rfl 2 (by decide) lf24 (fun _ h9 => h9) rfl dX0_passesAlone_34 ?_
    refine lv_iload_n hx hb dX0_passesAlone_37 rfl (lv_at hl 4 rfl) ?_
    refine miald hx hb hK hw 9 kg9 g2 (by decide) dX0_passesAlone_38 (zgenE (lo := 0) (hi := 20) ((show zI 0 20 (r 9 _) from hJ0.i 9 _)) (fun v9 ev9 hv9 => ?_))
    have hE := zletE ev9 hE
    refine lv_istore (lv' := [(7, .int v9), (6, .int v8), (5, .int v5), (0, .ref (y 199)), (1, .ref (y 6)), (2, .int a2), (3, .int a3), (4, .int a4)]) hx hb dX0_passesAlone_39 hl (by decide) rfl (fun ls hl => ?_)
    refine lv_aload_n hx hb dX0_passesAlone_41 rfl (lv_at hl 3 rfl) ?_
    refine va_get (D := D) (ci := 0) (v := .ref (y 171)) hx hb hts hiX0 hown hK hw.1 199 kg199 rfl 0 (by decide) lf9 (fun _ h9 => h9) rfl dX0_passesAlone_42 ?_
    refine va_get (D := D) (ci := 2) (v := .ref (y 180)) hx hb hts hiX2 hown hK hw.1 171 kg171 rfl 8 (by decide) lf29 (fun _ h9 => h9) rfl dX0_passesAlone_45 ?_
    refine lv_aload_n hx hb dX0_passesAlone_48 rfl (lv_at hl 4 rfl) ?_
    refine va_get (D := D) (ci := 7) (v := .ref (y 8)) hx hb hts hiX8 hown hK hw.1 6 kg6 rfl 1 (by decide) lf33 (fun _ h9 => h9) rfl dX0_passesAlone_49 ?_
    refine lv_iload_n hx hb dX0_passesAlone_52 rfl (lv_at hl 5 rfl) ?_
    refine miald hx hb hK hw 8 kg8 g2 (by decide) dX0_passesAlone_53 (zgenE (zI.top _) (fun v10 ev10 _ => ?_))
    have hE := zletE ev10 hE
    refine lv_iload hx hb dX0_passesAlone_54 (lv_at hl 0 rfl) ?_
    refine lv_iadd hx hb dX0_passesAlone_56 (zgenE (zI.top _) (fun v11 ev11 _ => ?_))
    have hE := zletE ev11 hE
    refine lv_iload hx hb dX0_passesAlone_57 (lv_at hl 0 rfl) ?_
    refine lv_iload hx hb dX0_passesAlone_59 (lv_at hl 2 rfl) ?_
    refine lv_iconst (v := 3) hx hb dX0_passesAlone_61 (by decide) ?_
    refine lv_icmp_ne (tgt := 72) hx hb dX0_passesAlone_62 (by decide) (fun c12 => ?_) (fun c12 => ?_)
    · have hE := zifnT c12 hE
      refine lv_iload hx hb dX0_passesAlone_72 (lv_at hl 1 rfl) ?_
      exact cut74 v8 v9 v11 hv9 hE H locs ls hw hS (lv_sub hl [4] rfl)
    · have hE := zifnF c12 hE
      have k13 : zI 3 3 (v5) := zI.eqq c12 (zI.lit (a := 3) (b := 3) (c := 3) (by decide))
      refine lv_iload hx hb dX0_passesAlone_65 (lv_at hl 1 rfl) ?_
      refine lv_iconst (v := 2) hx hb dX0_passesAlone_67 (by decide) ?_
      refine lv_idiv hx hb dX0_passesAlone_68 (by decide) (zgenE (zI.top _) (fun v14 ev14 _ => ?_))
      have hE := zletE ev14 hE
      refine lv_goto (tgt := 74) hx hb dX0_passesAlone_69 (by decide) ?_
      exact cut74 v14 v9 v11 hv9 hE H locs ls hw hS (lv_sub hl [4] rfl)
  · have hE := zifnF c6 hE
    have k15 : zI 2 2 (v5) := zI.eqq c6 (zI.lit (a := 2) (b := 2) (c := 2) (by decide))
    refine lv_iconst (v := 1) hx hb dX0_passesAlone_17 (by decide) ?_
    exact ziretQ hQ hx hb hr rfl hlocks ((1 : Int32), r) rfl ⟨((zI.lit (a := 1) (b := 1) (c := 1) (by decide)).w (c := 0) (d := 1) (by decide)), hJ0, (zFr.refl), (hE.symm.trans hX), trivial⟩ hw hS dX0_passesAlone_18

set_option maxHeartbeats 4000000 in
set_option maxRecDepth 100000 in
theorem kc_opensN (l : Launch) (D : va_G) (ct : Nat → ClassId) (E : Nat → Nat) (y : Nat → Nat) (a2 : Int32) (a3 : Int32) (r : zRr) (q : zRq) (g2 : zI 0 5 a2) (hJ0 : kJ r) (hEi : kEi E) : cC l yX0_opens (.code yX0_opens cX0_opens 6 (some .int) :: wsL_law0) ({ frames := 4, cells := 0, slots := 0, locals := 200 }) D ct E [.ref (y 199), .ref (y 6), .int a2, .int a3] (kW ct E y r q) (S := Int32 × zRr) (fun u => some (.int u.1)) (fun u => zI (-2147483648) 2147483647 u.1 ∧ kJ u.2 ∧ zFr [182] r u.2 ∧ True) (fun u => kW ct E y u.2 q) := by
  refine cofQ cX0_opens 6 (some .int) (by decide) rfl (Nat.le_of_ble_eq_true rfl) ?_
  intro p e s m below meth c A a9 Q ha9 hx hb hr hml hts hown hlocks hname hK hA hZ hN hQ
  have hown : s.vm.findClass RX0 = some m.cls := hown
  have hiX0 : ∀ w ∈ wsX00, w ∈ .code yX0_opens cX0_opens 6 (some .int) :: wsL_law0 := fun _ h => ki (zs_wsX00 _ h)
  have hiX2 : ∀ w ∈ wsX20, w ∈ .code yX0_opens cX0_opens 6 (some .int) :: wsL_law0 := fun _ h => ki (zs_wsX20 _ h)
  have lf9 := hts (.fieldLink RX0 9 "BeardPass$Frontier" "land" "LBeardPass$Land;") (ki (zr6 1 rfl))
  have lf46 := hts (.fieldLink RX0 46 "BeardPass$Land" "towns" "I") (ki (zr42 19 rfl))
  have cut6 : ∀ (n : Nat) (w6_4 : Int32) (w6_5 : Int32) (rw6 : zRr) (hw6_2 : zI 0 5 a2) (hw6_4 : zI 0 63 w6_4) (hw6_5 : zI 0 6 w6_5) (jw6 : kJ rw6) (fw6 : zFr [182] r rw6), 6 - w6_5.toInt < (n : Int) → zKf p l e ({ frames := 4, cells := 0, slots := 0, locals := 200 }) s m a9 below meth c Q D A 6 6 [] (kW ct E y rw6 q) [(0, .ref (y 199)), (1, .ref (y 6)), (2, .int a2), (3, .int a3), (4, .int w6_4), (5, .int w6_5)] := by
    intro n
    induction n with
    | zero => intro w6_4 w6_5 rw6 hw6_2 hw6_4 hw6_5 jw6 fw6 hm6; exact zI.no hw6_5 (by decide) hm6
    | succ n ih6 =>
      intro w6_4 w6_5 rw6 hw6_2 hw6_4 hw6_5 jw6 fw6 hm6
      have cut39 : ∀ (w39_4 : Int32) (rw39 : zRr) (hw39_2 : zI 0 5 a2) (hw39_4 : zI 0 63 w39_4) (hw39_5 : zI 0 5 w6_5) (jw39 : kJ rw39) (fw39 : zFr [182] r rw39), zKf p l e ({ frames := 4, cells := 0, slots := 0, locals := 200 }) s m a9 below meth c Q D A 39 6 [] (kW ct E y rw39 q) [(0, .ref (y 199)), (1, .ref (y 6)), (2, .int a2), (3, .int a3), (4, .int w39_4), (5, .int w6_5)] := by
        intro w39_4 rw39 hw39_2 hw39_4 hw39_5 jw39 fw39 H locs ls hw hS hl
        refine lv_iinc (v := w6_5 + 1) (lv' := [(5, .int (w6_5 + 1)), (0, .ref (y 199)), (1, .ref (y 6)), (2, .int a2), (3, .int a3), (4, .int w39_4)]) hx hb dX0_opens_39 hl (k := 5) rfl (rfl) (by decide) rfl (fun ls hl => ?_)
        have k1 : zI 1 6 (w6_5 + 1) := zI.add hw39_5 (zI.lit (a := 1) (b := 1) (by decide)) (by decide)
        refine lv_goto (tgt := 6) hx hb dX0_opens_42 (by decide) ?_
        exact ih6 w39_4 (w6_5 + 1) rw39 hw39_2 hw39_4 (k1.w (c := 0) (d := 6) (by decide)) jw39 fw39 (zI.up hw39_5 (by decide) hm6) H locs ls hw hS (lv_sub hl [1, 2, 3, 4, 5, 0] rfl)
      intro H locs ls hw hS hl
      refine lv_iload hx hb dX0_opens_6 (lv_at hl 5 rfl) ?_
      refine lv_aload_n hx hb dX0_opens_8 rfl (lv_at hl 0 rfl) ?_
      refine va_get (D := D) (ci := 0) (v := .ref (y 171)) hx hb hts hiX0 hown hK hw.1 199 kg199 rfl 0 (by decide) lf9 (fun _ h9 => h9) rfl dX0_opens_9 ?_
      refine va_get (D := D) (ci := 2) (v := .int (rw6 171 9)) hx hb hts hiX2 hown hK hw.1 171 kg171 rfl 9 (by decide) lf46 (fun _ h9 => h9) rfl dX0_opens_12 (zgen (lo := 0) (hi := 6) ((show zI 0 6 (rw6 171 9) from jw6.i 171 9)) (fun v2 hv2 => ?_))
      refine lv_icmp_ge (tgt := 45) hx hb dX0_opens_15 (by decide) (fun c3 => ?_) (fun c3 => ?_)
      · refine lv_iload hx hb dX0_opens_45 (lv_at hl 4 rfl) ?_
        exact ziretQ hQ hx hb hr rfl hlocks (w6_4, rw6) rfl ⟨(zI.top _), jw6, fw6, trivial⟩ hw hS dX0_opens_47
      · have k4 : zI 0 5 (w6_5) := zI.ltU (zI.nle c3) hw6_5 hv2 (by decide)
        have k5 : zI 1 6 (v2) := zI.ltD (zI.nle c3) hw6_5 hv2 (by decide)
        refine lv_aload_n hx hb dX0_opens_18 rfl (lv_at hl 0 rfl) ?_
        refine lv_aload_n hx hb dX0_opens_19 rfl (lv_at hl 1 rfl) ?_
        refine lv_iload_n hx hb dX0_opens_20 rfl (lv_at hl 2 rfl) ?_
        refine lv_iload hx hb dX0_opens_21 (lv_at hl 5 rfl) ?_
        refine lv_iload_n hx hb dX0_opens_23 rfl (lv_at hl 3 rfl) ?_
        refine kcallV (As := [.ref (y 6), .int a2, .int w6_5, .int a3]) (rest := []) ⟨hx, hb, hml, hown, hts⟩ (kc_passesAloneN l D ct E y a2 w6_5 a3 rw6 q hw6_2 k4 jw6 hEi) (wqX0_49_kc_passesAloneN hts ⟨Nat.le_of_ble_eq_true rfl, Nat.le_of_ble_eq_true rfl⟩) hw hS hA hK hZ hN 0 199 rfl kg199 rfl hl.1 rfl (Nat.le_of_ble_eq_true rfl) dX0_opens_24 27 rfl (fun u6 H locs pu6 hw hS => ?_)
        obtain ⟨v7, r8⟩ := u6
        have hv7 : zI 0 1 v7 := pu6.1
        have ju6 : kJ r8 := pu6.2.1
        have fu6 : zFr [182] rw6 r8 := pu6.2.2.1
        have xu6 : (v7, r8) = (Gk_passesAloneN a2 w6_5 a3 rw6 q) := pu6.2.2.2.1
        have hw : zPD D A (kW ct E y r8 q) H := hw
        refine zfr 27 [.int v7] rfl rfl ?_
        refine lv_if_eq (tgt := 39) hx hb dX0_opens_27 (by decide) (fun c9 => ?_) (fun c9 => ?_)
        · have k10 : zI 0 0 (v7) := zI.eqq c9 (zI.lit (a := 0) (b := 0) (c := 0) (by decide))
          exact cut39 w6_4 r8 hw6_2 hw6_4 k4 ju6 (fw6.tr fu6 rfl) H locs ls hw hS (lv_sub hl [0, 1, 2, 3, 4, 5] rfl)
        · have k11 : zI 1 1 (v7) := zI.neD c9 hv7 (zI.lit (a := 0) (b := 0) (c := 0) (by decide)) (by decide)
          refine lv_iload hx hb dX0_opens_30 (lv_at hl 4 rfl) ?_
          refine lv_iconst (v := 1) hx hb dX0_opens_32 (by decide) ?_
          refine lv_iload hx hb dX0_opens_33 (lv_at hl 5 rfl) ?_
          refine lv_ishl hx hb dX0_opens_35 (zgen (lo := 1) (hi := 32) (zI.shl k4 5 (by decide)) (fun v12 hv12 => ?_))
          refine lv_ior hx hb dX0_opens_36 (zgen (lo := 0) (hi := 63) (zI.or 6 hw6_4 hv12 (by decide)) (fun v13 hv13 => ?_))
          refine lv_istore (lv' := [(4, .int v13), (0, .ref (y 199)), (1, .ref (y 6)), (2, .int a2), (3, .int a3), (5, .int w6_5)]) hx hb dX0_opens_37 hl (by decide) rfl (fun ls hl => ?_)
          exact cut39 v13 r8 hw6_2 hv13 k4 ju6 (fw6.tr fu6 rfl) H locs ls hw hS (lv_sub hl [1, 2, 3, 4, 0, 5] rfl)
  intro H locs hw hS ls hl
  have hl : lv_has ls 6 [(0, .ref (y 199)), (1, .ref (y 6)), (2, .int a2), (3, .int a3)] := hl
  refine lv_iconst (v := 0) hx hb dX0_opens_0 (by decide) ?_
  refine lv_istore (lv' := [(4, .int 0), (0, .ref (y 199)), (1, .ref (y 6)), (2, .int a2), (3, .int a3)]) hx hb dX0_opens_1 hl (by decide) rfl (fun ls hl => ?_)
  refine lv_iconst (v := 0) hx hb dX0_opens_3 (by decide) ?_
  refine lv_istore (lv' := [(5, .int 0), (4, .int 0), (0, .ref (y 199)), (1, .ref (y 6)), (2, .int a2), (3, .int a3)]) hx hb dX0_opens_4 hl (by decide) rfl (fun ls hl => ?_)
  exact cut6 7 0 0 r g2 ((zI.lit (a := 0) (b := 0) (c := 0) (by decide)).w (c := 0) (d := 63) (by decide)) ((zI.lit (a := 0) (b := 0) (c := 0) (by decide)).w (c := 0) (d := 6) (by decide)) hJ0 (zFr.refl) (zI.m0 (zI.lit (a := 0) (b := 0) (c := 0) (by decide)) (by decide)) H locs ls hw hS (lv_sub hl [2, 3, 4, 5, 1, 0] rfl)

noncomputable def Gk_passWeekN_63 (w12_2 : Int32) (ih12 : Int32 → zRr → zRr) (rw63 : zRr) : zRr :=
  ih12 (w12_2 + 1) rw63
noncomputable def Bk_passWeekN_12 (ih12 : Int32 → zRr → zRr) (w12_2 : Int32) (rw12 : zRr) : zRr :=
  zlet (α := Int32) (rw12 171 10) <| fun v2 => zif (v2 ≤ w12_2) (rw12) (zlet (α := Int32) (rw12 175 (zn w12_2)) <| fun v6 => zif (v6 = (1 : Int32)) (Gk_passWeekN_63 w12_2 ih12 rw12) (zlet (α := Int32) (rw12 8 (zn w12_2)) <| fun v9 => zlet (α := Int32) (rw12 171 11) <| fun v10 => zlet (α := Int32) (v9 + v10) <| fun v11 => zlet (α := Int32) (if 60 < v11 then 60 else v11) <| fun v12 => zlet (α := zRr) (zset rw12 8 (upd (rw12 8) (zn w12_2) v12)) <| fun r13 => Gk_passWeekN_63 w12_2 ih12 r13))
noncomputable def Gk_passWeekN_12 (n : Nat) : Int32 → zRr → zRr :=
  Nat.rec (motive := fun _ => Int32 → zRr → zRr) (fun _ rw12 => rw12) (fun _ ih => Bk_passWeekN_12 ih) n
noncomputable def Gk_passWeekN (r : zRr) (q : zRq) : zRr :=
  zlet (α := Int32) (r 6 5) <| fun v14 => zlet (α := Int32) (v14 + 1) <| fun v15 => zlet (α := zRr) ((zset r 6 (upd (r 6) 5 v15))) <| fun r16 => Gk_passWeekN_12 7 0 r16
set_option maxHeartbeats 4000000 in
set_option maxRecDepth 100000 in
theorem kc_passWeekN (l : Launch) (D : va_G) (ct : Nat → ClassId) (E : Nat → Nat) (y : Nat → Nat) (r : zRr) (q : zRq) (hJ0 : kJ r) (hEi : kEi E) : cC l yX0_passWeek (.code yX0_passWeek cX0_passWeek 4 none :: wsL_law0) ({ frames := 2, cells := 0, slots := 0, locals := 120 }) D ct E [.ref (y 199), .ref (y 6)] (kW ct E y r q) (S := zRr) (fun u => none) (fun u => kJ u ∧ zFr [6, 8] r u ∧ u = (Gk_passWeekN r q) ∧ True) (fun u => kW ct E y u q) := by
  refine cofQ cX0_passWeek 4 none (by decide) rfl (Nat.le_of_ble_eq_true rfl) ?_
  intro p e s m below meth c A a9 Q ha9 hx hb hr hml hts hown hlocks hname hK hA hZ hN hQ
  have hown : s.vm.findClass RX0 = some m.cls := hown
  have hiX0 : ∀ w ∈ wsX00, w ∈ .code yX0_passWeek cX0_passWeek 4 none :: wsL_law0 := fun _ h => ki (zs_wsX00 _ h)
  have hiX2 : ∀ w ∈ wsX20, w ∈ .code yX0_passWeek cX0_passWeek 4 none :: wsL_law0 := fun _ h => ki (zs_wsX20 _ h)
  have hiX8 : ∀ w ∈ wsX80, w ∈ .code yX0_passWeek cX0_passWeek 4 none :: wsL_law0 := fun _ h => ki (zs_wsX80 _ h)
  have lf9 := hts (.fieldLink RX0 9 "BeardPass$Frontier" "land" "LBeardPass$Land;") (ki (zr6 1 rfl))
  have lf15 := hts (.fieldLink RX0 15 "BeardPass$Land" "kinds" "[I") (ki (zr32 5 rfl))
  have lf33 := hts (.fieldLink RX0 33 "BeardPass$Standing" "beards" "[I") (ki (zr32 18 rfl))
  have lf36 := hts (.fieldLink RX0 36 "BeardPass$Standing" "weeks" "I") (ki (zr32 19 rfl))
  have lf53 := hts (.fieldLink RX0 53 "BeardPass$Land" "persons" "I") (ki (zr32 0 rfl))
  have lf80 := hts (.fieldLink RX0 80 "BeardPass$Land" "grows" "I") (ki (zr39 3 rfl))
  obtain ⟨X, hX⟩ : ∃ X, X = (Gk_passWeekN r q) := ⟨_, rfl⟩
  have cut12 : ∀ (n12 : Nat) (w12_2 : Int32) (rw12 : zRr) (hw12_2 : zI 0 6 w12_2) (jw12 : kJ rw12) (fw12 : zFr [6, 8] r rw12) (hE : X = Gk_passWeekN_12 n12 w12_2 rw12), 6 - w12_2.toInt < (n12 : Int) → zKf p l e ({ frames := 2, cells := 0, slots := 0, locals := 120 }) s m a9 below meth c Q D A 12 4 [] (kW ct E y rw12 q) [(0, .ref (y 199)), (1, .ref (y 6)), (2, .int w12_2)] := by
    intro n12
    induction n12 with
    | zero => intro w12_2 rw12 hw12_2 jw12 fw12 hE hm12; exact zI.no hw12_2 (by decide) hm12
    | succ n12 ih12 =>
      intro w12_2 rw12 hw12_2 jw12 fw12 hE hm12
      have hE : X = Bk_passWeekN_12 (Gk_passWeekN_12 n12) w12_2 rw12 := hE
      unfold Bk_passWeekN_12 at hE
      have cut63 : ∀ (rw63 : zRr) (hw63_2 : zI 0 5 w12_2) (jw63 : kJ rw63) (fw63 : zFr [6, 8] r rw63) (hE : X = Gk_passWeekN_63 w12_2 (Gk_passWeekN_12 n12) rw63), zKf p l e ({ frames := 2, cells := 0, slots := 0, locals := 120 }) s m a9 below meth c Q D A 63 4 [] (kW ct E y rw63 q) [(0, .ref (y 199)), (1, .ref (y 6)), (2, .int w12_2)] := by
        intro rw63 hw63_2 jw63 fw63 hE H locs ls hw hS hl
        unfold Gk_passWeekN_63 at hE
        refine lv_iinc (v := w12_2 + 1) (lv' := [(2, .int (w12_2 + 1)), (0, .ref (y 199)), (1, .ref (y 6))]) hx hb dX0_passWeek_63 hl (k := 2) rfl (rfl) (by decide) rfl (fun ls hl => ?_)
        have k1 : zI 1 6 (w12_2 + 1) := zI.add hw63_2 (zI.lit (a := 1) (b := 1) (by decide)) (by decide)
        refine lv_goto (tgt := 12) hx hb dX0_passWeek_66 (by decide) ?_
        exact ih12 (w12_2 + 1) rw63 (k1.w (c := 0) (d := 6) (by decide)) jw63 fw63 hE (zI.up hw63_2 (by decide) hm12) H locs ls hw hS (lv_sub hl [1, 2, 0] rfl)
      intro H locs ls hw hS hl
      refine lv_iload_n hx hb dX0_passWeek_12 rfl (lv_at hl 2 rfl) ?_
      refine lv_aload_n hx hb dX0_passWeek_13 rfl (lv_at hl 0 rfl) ?_
      refine va_get (D := D) (ci := 0) (v := .ref (y 171)) hx hb hts hiX0 hown hK hw.1 199 kg199 rfl 0 (by decide) lf9 (fun _ h9 => h9) rfl dX0_passWeek_14 ?_
      refine va_get (D := D) (ci := 2) (v := .int (rw12 171 10)) hx hb hts hiX2 hown hK hw.1 171 kg171 rfl 10 (by decide) lf53 (fun _ h9 => h9) rfl dX0_passWeek_17 (zgenE (lo := 0) (hi := 6) ((show zI 0 6 (rw12 171 10) from jw12.i 171 10)) (fun v2 ev2 hv2 => ?_))
      have hE := zletE ev2 hE
      refine lv_icmp_ge (tgt := 69) hx hb dX0_passWeek_20 (by decide) (fun c3 => ?_) (fun c3 => ?_)
      · have hE := zifT c3 hE
        exact zvretQ hQ hx hb hr hlocks rw12 rfl ⟨jw12, fw12, (hE.symm.trans hX), trivial⟩ hw hS dX0_passWeek_69
      · have hE := zifF c3 hE
        have k4 : zI 0 5 (w12_2) := zI.ltU (zI.nle c3) hw12_2 hv2 (by decide)
        have k5 : zI 1 6 (v2) := zI.ltD (zI.nle c3) hw12_2 hv2 (by decide)
        refine lv_aload_n hx hb dX0_passWeek_23 rfl (lv_at hl 0 rfl) ?_
        refine va_get (D := D) (ci := 0) (v := .ref (y 171)) hx hb hts hiX0 hown hK hw.1 199 kg199 rfl 0 (by decide) lf9 (fun _ h9 => h9) rfl dX0_passWeek_24 ?_
        refine va_get (D := D) (ci := 2) (v := .ref (y 175)) hx hb hts hiX2 hown hK hw.1 171 kg171 rfl 3 (by decide) lf15 (fun _ h9 => h9) rfl dX0_passWeek_27 ?_
        refine lv_iload_n hx hb dX0_passWeek_30 rfl (lv_at hl 2 rfl) ?_
        refine miald hx hb hK hw 175 kg175 k4 (by decide) dX0_passWeek_31 (zgenE (zI.top _) (fun v6 ev6 _ => ?_))
        have hE := zletE ev6 hE
        refine lv_iconst (v := 1) hx hb dX0_passWeek_32 (by decide) ?_
        refine lv_icmp_eq (tgt := 63) hx hb dX0_passWeek_33 (by decide) (fun c7 => ?_) (fun c7 => ?_)
        · have hE := zifT c7 hE
          have k8 : zI 1 1 (v6) := zI.eqq c7 (zI.lit (a := 1) (b := 1) (c := 1) (by decide))
          exact cut63 rw12 k4 jw12 fw12 hE H locs ls hw hS (lv_sub hl [0, 1, 2] rfl)
        · have hE := zifF c7 hE
          refine lv_aload_n hx hb dX0_passWeek_36 rfl (lv_at hl 1 rfl) ?_
          refine va_get (D := D) (ci := 7) (v := .ref (y 8)) hx hb hts hiX8 hown hK hw.1 6 kg6 rfl 1 (by decide) lf33 (fun _ h9 => h9) rfl dX0_passWeek_37 ?_
          refine lv_iload_n hx hb dX0_passWeek_40 rfl (lv_at hl 2 rfl) ?_
          refine miald hx hb hK hw 8 kg8 k4 (by decide) dX0_passWeek_41 (zgenE (zI.top _) (fun v9 ev9 _ => ?_))
          have hE := zletE ev9 hE
          refine lv_aload_n hx hb dX0_passWeek_42 rfl (lv_at hl 0 rfl) ?_
          refine va_get (D := D) (ci := 0) (v := .ref (y 171)) hx hb hts hiX0 hown hK hw.1 199 kg199 rfl 0 (by decide) lf9 (fun _ h9 => h9) rfl dX0_passWeek_43 ?_
          refine va_get (D := D) (ci := 2) (v := .int (rw12 171 11)) hx hb hts hiX2 hown hK hw.1 171 kg171 rfl 11 (by decide) lf80 (fun _ h9 => h9) rfl dX0_passWeek_46 (zgenE (zI.top _) (fun v10 ev10 _ => ?_))
          have hE := zletE ev10 hE
          refine lv_iadd hx hb dX0_passWeek_49 (zgenE (zI.top _) (fun v11 ev11 _ => ?_))
          have hE := zletE ev11 hE
          refine lv_istore_n (lv' := [(3, .int v11), (0, .ref (y 199)), (1, .ref (y 6)), (2, .int w12_2)]) hx hb dX0_passWeek_50 rfl hl (by decide) rfl (fun ls hl => ?_)
          refine lv_aload_n hx hb dX0_passWeek_51 rfl (lv_at hl 2 rfl) ?_
          refine va_get (D := D) (ci := 7) (v := .ref (y 8)) hx hb hts hiX8 hown hK hw.1 6 kg6 rfl 1 (by decide) lf33 (fun _ h9 => h9) rfl dX0_passWeek_52 ?_
          refine lv_iload_n hx hb dX0_passWeek_55 rfl (lv_at hl 3 rfl) ?_
          refine lv_iload_n hx hb dX0_passWeek_56 rfl (lv_at hl 0 rfl) ?_
          refine lv_bipush (v := 60) hx hb dX0_passWeek_57 (by decide) ?_
          refine va_mmin hx hb (hml.trans hl.1.symm) hown (hts (.methodLink RX0 83 Lib.Math.min.name) (ki (zr39 4 rfl))) (hts (.static Lib.Math.min.name) (ki (zr35 17 rfl))) (hts (.initialized "java/lang/Math") (ki (zr35 18 rfl))) (hts (.code Lib.Math.min.name Lib.Math.min.code 2 (some .int)) (ki (zr35 19 rfl))) (Nat.le_of_ble_eq_true rfl) (Nat.le_of_ble_eq_true rfl) (Nat.le_of_ble_eq_true rfl) (Nat.le_of_ble_eq_true rfl) dX0_passWeek_59 (zgenE (zI.top _) (fun v12 ev12 _ => ?_))
          have hE := zletE ev12 hE
          refine miast hx hb hK hw hS 8 kg8 k4 (by decide) dX0_passWeek_62 (kW ct E y (zset rw12 8 (upd (rw12 8) (zn w12_2) v12)) q) ks8 (fun H locs hw hS => ?_)
          refine cmgen (P := fun x => kJ x ∧ zFr [6, 8] r x) hw ⟨jw12.set rfl (zI.top _), fw12.set rfl⟩ (fun r13 er13 hw pr13 => ?_)
          have hE := zletE er13 hE
          exact cut63 r13 k4 pr13.1 pr13.2 hE H locs ls hw hS (lv_sub hl [1, 2, 3] rfl)
  intro H locs hw hS ls hl
  have hl : lv_has ls 4 [(0, .ref (y 199)), (1, .ref (y 6))] := hl
  have hE := hX
  unfold Gk_passWeekN at hE
  refine lv_aload_n hx hb dX0_passWeek_0 rfl (lv_at hl 1 rfl) ?_
  refine lv_dup hx hb dX0_passWeek_1 rfl ?_
  refine va_get (D := D) (ci := 7) (v := .int (r 6 5)) hx hb hts hiX8 hown hK hw.1 6 kg6 rfl 5 (by decide) lf36 (fun _ h9 => h9) rfl dX0_passWeek_2 (zgenE (zI.top _) (fun v14 ev14 _ => ?_))
  have hE := zletE ev14 hE
  refine lv_iconst (v := 1) hx hb dX0_passWeek_5 (by decide) ?_
  refine lv_iadd hx hb dX0_passWeek_6 (zgenE (zI.top _) (fun v15 ev15 _ => ?_))
  have hE := zletE ev15 hE
  refine zput (D := D) (ci := 7) (v := .int v15) (ty := .int) hx hb hts hiX8 tyX8 tyX8_ok nmX8 hown hK hw hS 6 kg6 rfl 5 (by decide) lf36 (fun _ h9 => h9) rfl (by decide +kernel) rfl rfl (Nat.le_of_ble_eq_true rfl) dX0_passWeek_7 (kW ct E y (zset r 6 (upd (r 6) 5 v15)) q) ks6_5 (fun H locs hw hS => ?_)
  refine cmgen (P := fun x => kJ x ∧ zFr [6, 8] r x) hw ⟨hJ0.set rfl (zI.top _), (zFr.refl).set rfl⟩ (fun r16 er16 hw pr16 => ?_)
  have hE := zletE er16 hE
  refine lv_iconst (v := 0) hx hb dX0_passWeek_10 (by decide) ?_
  refine lv_istore_n (lv' := [(2, .int 0), (0, .ref (y 199)), (1, .ref (y 6))]) hx hb dX0_passWeek_11 rfl hl (by decide) rfl (fun ls hl => ?_)
  exact cut12 7 0 r16 ((zI.lit (a := 0) (b := 0) (c := 0) (by decide)).w (c := 0) (d := 6) (by decide)) pr16.1 pr16.2 hE (zI.m0 (zI.lit (a := 0) (b := 0) (c := 0) (by decide)) (by decide)) H locs ls hw hS (lv_sub hl [1, 2, 0] rfl)

set_option maxHeartbeats 4000000 in
set_option maxRecDepth 100000 in
theorem kc_layN (l : Launch) (D : va_G) (ct : Nat → ClassId) (E : Nat → Nat) (y : Nat → Nat) (a2 : Int32) (a3 : Int32) (r : zRr) (q : zRq) (g2 : zI 0 5 a2) (hJ0 : kJ r) (hEi : kEi E) : cC l yX10_lay (.code yX10_lay cX10_lay 6 none :: wsL_law0) ({ frames := 5, cells := 0, slots := 0, locals := 240 }) D ct E [.ref (y 200), .ref (y 6), .int a2, .int a3] (kW ct E y r q) (S := zRr) (fun u => none) (fun u => kJ u ∧ zFr [182, 202] r u ∧ True) (fun u => kW ct E y u q) := by
  refine cofQ cX10_lay 6 none (by decide) rfl (Nat.le_of_ble_eq_true rfl) ?_
  intro p e s m below meth c A a9 Q ha9 hx hb hr hml hts hown hlocks hname hK hA hZ hN hQ
  have hown : s.vm.findClass RX10 = some m.cls := hown
  have hiX10 : ∀ w ∈ wsX100, w ∈ .code yX10_lay cX10_lay 6 none :: wsL_law0 := fun _ h => ki (zs_wsX100 _ h)
  have hiX2 : ∀ w ∈ wsX20, w ∈ .code yX10_lay cX10_lay 6 none :: wsL_law0 := fun _ h => ki (zs_wsX20 _ h)
  have hiX8 : ∀ w ∈ wsX80, w ∈ .code yX10_lay cX10_lay 6 none :: wsL_law0 := fun _ h => ki (zs_wsX80 _ h)
  have lf22 := hts (.fieldLink RX10 22 "BeardPass$Ways" "steps" "[I") (ki (zr6 9 rfl))
  have lf31 := hts (.fieldLink RX10 31 "BeardPass$Ways" "land" "LBeardPass$Land;") (ki (zr6 12 rfl))
  have lf35 := hts (.fieldLink RX10 35 "BeardPass$Ways" "frontier" "LBeardPass$Frontier;") (ki (zr6 13 rfl))
  have lf45 := hts (.fieldLink RX10 45 "BeardPass$Land" "kinds" "[I") (ki (zr42 10 rfl))
  have lf56 := hts (.fieldLink RX10 56 "BeardPass$Land" "towns" "I") (ki (zr42 11 rfl))
  have lf60 := hts (.fieldLink RX10 60 "BeardPass$Land" "roads" "[I") (ki (zr42 12 rfl))
  have lf63 := hts (.fieldLink RX10 63 "BeardPass$Land" "persons" "I") (ki (zr42 13 rfl))
  have lf66 := hts (.fieldLink RX10 66 "BeardPass$Standing" "places" "[I") (ki (zr42 5 rfl))
  have cut78 : ∀ (n : Nat) (w78_4 : Int32) (rw78 : zRr) (hw78_4 : zI 0 6 w78_4) (jw78 : kJ rw78) (fw78 : zFr [182, 202] r rw78), 6 - w78_4.toInt < (n : Int) → zKf p l e ({ frames := 5, cells := 0, slots := 0, locals := 240 }) s m a9 below meth c Q D A 78 6 [] (kW ct E y rw78 q) [(0, .ref (y 200)), (1, .ref (y 6)), (3, .int a3), (4, .int w78_4)] := by
    intro n
    induction n with
    | zero => intro w78_4 rw78 hw78_4 jw78 fw78 hm78; exact zI.no hw78_4 (by decide) hm78
    | succ n ih78 =>
      intro w78_4 rw78 hw78_4 jw78 fw78 hm78
      have cut145 : ∀ (rw145 : zRr) (hw145_4 : zI 0 5 w78_4) (jw145 : kJ rw145) (fw145 : zFr [182, 202] r rw145), zKf p l e ({ frames := 5, cells := 0, slots := 0, locals := 240 }) s m a9 below meth c Q D A 145 6 [] (kW ct E y rw145 q) [(0, .ref (y 200)), (1, .ref (y 6)), (3, .int a3), (4, .int w78_4)] := by
        intro rw145 hw145_4 jw145 fw145 H locs ls hw hS hl
        refine lv_iinc (v := w78_4 + 1) (lv' := [(4, .int (w78_4 + 1)), (0, .ref (y 200)), (1, .ref (y 6)), (3, .int a3)]) hx hb dX10_lay_145 hl (k := 3) rfl (rfl) (by decide) rfl (fun ls hl => ?_)
        have k1 : zI 1 6 (w78_4 + 1) := zI.add hw145_4 (zI.lit (a := 1) (b := 1) (by decide)) (by decide)
        refine lv_goto (tgt := 78) hx hb dX10_lay_148 (by decide) ?_
        exact ih78 (w78_4 + 1) rw145 (k1.w (c := 0) (d := 6) (by decide)) jw145 fw145 (zI.up hw145_4 (by decide) hm78) H locs ls hw hS (lv_sub hl [1, 2, 3, 0] rfl)
      intro H locs ls hw hS hl
      refine lv_iload hx hb dX10_lay_78 (lv_at hl 3 rfl) ?_
      refine lv_aload_n hx hb dX10_lay_80 rfl (lv_at hl 0 rfl) ?_
      refine va_get (D := D) (ci := 9) (v := .ref (y 171)) hx hb hts hiX10 hown hK hw.1 200 kg200 rfl 0 (by decide) lf31 (fun _ h9 => h9) rfl dX10_lay_81 ?_
      refine va_get (D := D) (ci := 2) (v := .int (rw78 171 10)) hx hb hts hiX2 hown hK hw.1 171 kg171 rfl 10 (by decide) lf63 (fun _ h9 => h9) rfl dX10_lay_84 (zgen (lo := 0) (hi := 6) ((show zI 0 6 (rw78 171 10) from jw78.i 171 10)) (fun v2 hv2 => ?_))
      refine lv_icmp_ge (tgt := 151) hx hb dX10_lay_87 (by decide) (fun c3 => ?_) (fun c3 => ?_)
      · exact zvretQ hQ hx hb hr hlocks rw78 rfl ⟨jw78, fw78, trivial⟩ hw hS dX10_lay_151
      · have k4 : zI 0 5 (w78_4) := zI.ltU (zI.nle c3) hw78_4 hv2 (by decide)
        have k5 : zI 1 6 (v2) := zI.ltD (zI.nle c3) hw78_4 hv2 (by decide)
        refine lv_aload_n hx hb dX10_lay_90 rfl (lv_at hl 0 rfl) ?_
        refine va_get (D := D) (ci := 9) (v := .ref (y 171)) hx hb hts hiX10 hown hK hw.1 200 kg200 rfl 0 (by decide) lf31 (fun _ h9 => h9) rfl dX10_lay_91 ?_
        refine va_get (D := D) (ci := 2) (v := .ref (y 175)) hx hb hts hiX2 hown hK hw.1 171 kg171 rfl 3 (by decide) lf45 (fun _ h9 => h9) rfl dX10_lay_94 ?_
        refine lv_iload hx hb dX10_lay_97 (lv_at hl 3 rfl) ?_
        refine miald hx hb hK hw 175 kg175 k4 (by decide) dX10_lay_99 (zgen (zI.top _) (fun v6 _ => ?_))
        refine lv_iconst (v := 1) hx hb dX10_lay_100 (by decide) ?_
        refine lv_icmp_eq (tgt := 145) hx hb dX10_lay_101 (by decide) (fun c7 => ?_) (fun c7 => ?_)
        · have k8 : zI 1 1 (v6) := zI.eqq c7 (zI.lit (a := 1) (b := 1) (c := 1) (by decide))
          exact cut145 rw78 k4 jw78 fw78 H locs ls hw hS (lv_sub hl [0, 1, 2, 3] rfl)
        · refine lv_aload_n hx hb dX10_lay_104 rfl (lv_at hl 1 rfl) ?_
          refine va_get (D := D) (ci := 7) (v := .ref (y 7)) hx hb hts hiX8 hown hK hw.1 6 kg6 rfl 0 (by decide) lf66 (fun _ h9 => h9) rfl dX10_lay_105 ?_
          refine lv_iload hx hb dX10_lay_108 (lv_at hl 3 rfl) ?_
          refine miald hx hb hK hw 7 kg7 k4 (by decide) dX10_lay_110 (zgen (lo := 0) (hi := 5) ((show zI 0 5 (rw78 7 _) from jw78.i 7 _)) (fun v9 hv9 => ?_))
          refine lv_istore (lv' := [(5, .int v9), (0, .ref (y 200)), (1, .ref (y 6)), (3, .int a3), (4, .int w78_4)]) hx hb dX10_lay_111 hl (by decide) rfl (fun ls hl => ?_)
          refine lv_aload_n hx hb dX10_lay_113 rfl (lv_at hl 1 rfl) ?_
          refine va_get (D := D) (ci := 9) (v := .ref (y 202)) hx hb hts hiX10 hown hK hw.1 200 kg200 rfl 4 (by decide) lf22 (fun _ h9 => h9) rfl dX10_lay_114 ?_
          refine lv_iload hx hb dX10_lay_117 (lv_at hl 0 rfl) ?_
          refine lv_dup2_11 hx hb dX10_lay_119 rfl rfl ?_
          refine miald hx hb hK hw 202 kg202 hv9 (by decide) dX10_lay_120 (zgen (zI.top _) (fun v10 _ => ?_))
          refine lv_aload_n hx hb dX10_lay_121 rfl (lv_at hl 1 rfl) ?_
          refine va_get (D := D) (ci := 9) (v := .ref (y 171)) hx hb hts hiX10 hown hK hw.1 200 kg200 rfl 0 (by decide) lf31 (fun _ h9 => h9) rfl dX10_lay_122 ?_
          refine va_get (D := D) (ci := 2) (v := .ref (y 173)) hx hb hts hiX2 hown hK hw.1 171 kg171 rfl 1 (by decide) lf60 (fun _ h9 => h9) rfl dX10_lay_125 ?_
          refine lv_iload hx hb dX10_lay_128 (lv_at hl 0 rfl) ?_
          refine miald hx hb hK hw 173 kg173 hv9 (by decide) dX10_lay_130 (zgen (zI.top _) (fun v11 _ => ?_))
          refine lv_aload_n hx hb dX10_lay_131 rfl (lv_at hl 1 rfl) ?_
          refine va_get (D := D) (ci := 9) (v := .ref (y 199)) hx hb hts hiX10 hown hK hw.1 200 kg200 rfl 1 (by decide) lf35 (fun _ h9 => h9) rfl dX10_lay_132 ?_
          refine lv_aload_n hx hb dX10_lay_135 rfl (lv_at hl 2 rfl) ?_
          refine lv_iload hx hb dX10_lay_136 (lv_at hl 4 rfl) ?_
          refine lv_iload_n hx hb dX10_lay_138 rfl (lv_at hl 3 rfl) ?_
          refine kcallV (As := [.ref (y 6), .int w78_4, .int a3]) (rest := [.int v11, .int v10, .int v9, .ref (y 202)]) ⟨hx, hb, hml, hown, hts⟩ (kc_opensN l D ct E y w78_4 a3 rw78 q k4 jw78 hEi) (wqX10_50_kc_opensN hts ⟨Nat.le_of_ble_eq_true rfl, Nat.le_of_ble_eq_true rfl⟩) hw hS hA hK hZ hN 0 199 rfl kg199 rfl hl.1 rfl (Nat.le_of_ble_eq_true rfl) dX10_lay_139 142 rfl (fun u12 H locs pu12 hw hS => ?_)
          obtain ⟨v13, r14⟩ := u12
          have hv13 : zI (-2147483648) 2147483647 v13 := pu12.1
          have ju12 : kJ r14 := pu12.2.1
          have fu12 : zFr [182] rw78 r14 := pu12.2.2.1
          have hw : zPD D A (kW ct E y r14 q) H := hw
          refine zfr 142 [.int v13, .int v11, .int v10, .int v9, .ref (y 202)] rfl rfl ?_
          refine lv_iand hx hb dX10_lay_142 (zgen (zI.top _) (fun v15 _ => ?_))
          refine lv_ior hx hb dX10_lay_143 (zgen (zI.top _) (fun v16 _ => ?_))
          refine miast hx hb hK hw hS 202 kg202 hv9 (by decide) dX10_lay_144 (kW ct E y (zset r14 202 (upd (r14 202) (zn v9) v16)) q) ks202 (fun H locs hw hS => ?_)
          refine cmgen (P := fun x => kJ x ∧ zFr [182, 202] r x) hw ⟨ju12.set rfl (zI.top _), (fw78.tr fu12 rfl).set rfl⟩ (fun r17 er17 hw pr17 => ?_)
          exact cut145 r17 k4 pr17.1 pr17.2 H locs ls hw hS (lv_sub hl [1, 2, 3, 4] rfl)
  have cut36 : ∀ (n : Nat) (w36_4 : Int32) (w36_5 : Int32) (rw36 : zRr) (hw36_5 : zI 0 6 w36_5) (jw36 : kJ rw36) (fw36 : zFr [182, 202] r rw36), 6 - w36_5.toInt < (n : Int) → zKf p l e ({ frames := 5, cells := 0, slots := 0, locals := 240 }) s m a9 below meth c Q D A 36 6 [] (kW ct E y rw36 q) [(0, .ref (y 200)), (4, .int w36_4), (5, .int w36_5)] := by
    intro n
    induction n with
    | zero => intro w36_4 w36_5 rw36 hw36_5 jw36 fw36 hm36; exact zI.no hw36_5 (by decide) hm36
    | succ n ih36 =>
      intro w36_4 w36_5 rw36 hw36_5 jw36 fw36 hm36
      intro H locs ls hw hS hl
      refine lv_iload hx hb dX10_lay_36 (lv_at hl 2 rfl) ?_
      refine lv_aload_n hx hb dX10_lay_38 rfl (lv_at hl 0 rfl) ?_
      refine va_get (D := D) (ci := 9) (v := .ref (y 171)) hx hb hts hiX10 hown hK hw.1 200 kg200 rfl 0 (by decide) lf31 (fun _ h9 => h9) rfl dX10_lay_39 ?_
      refine va_get (D := D) (ci := 2) (v := .int (rw36 171 9)) hx hb hts hiX2 hown hK hw.1 171 kg171 rfl 9 (by decide) lf56 (fun _ h9 => h9) rfl dX10_lay_42 (zgen (lo := 0) (hi := 6) ((show zI 0 6 (rw36 171 9) from jw36.i 171 9)) (fun v18 hv18 => ?_))
      refine lv_icmp_ge (tgt := 74) hx hb dX10_lay_45 (by decide) (fun c19 => ?_) (fun c19 => ?_)
      · exact zvretQ hQ hx hb hr hlocks rw36 rfl ⟨jw36, fw36, trivial⟩ hw hS dX10_lay_74
      · have k20 : zI 0 5 (w36_5) := zI.ltU (zI.nle c19) hw36_5 hv18 (by decide)
        have k21 : zI 1 6 (v18) := zI.ltD (zI.nle c19) hw36_5 hv18 (by decide)
        refine lv_aload_n hx hb dX10_lay_48 rfl (lv_at hl 0 rfl) ?_
        refine va_get (D := D) (ci := 9) (v := .ref (y 202)) hx hb hts hiX10 hown hK hw.1 200 kg200 rfl 4 (by decide) lf22 (fun _ h9 => h9) rfl dX10_lay_49 ?_
        refine lv_iload hx hb dX10_lay_52 (lv_at hl 2 rfl) ?_
        refine lv_aload_n hx hb dX10_lay_54 rfl (lv_at hl 0 rfl) ?_
        refine va_get (D := D) (ci := 9) (v := .ref (y 171)) hx hb hts hiX10 hown hK hw.1 200 kg200 rfl 0 (by decide) lf31 (fun _ h9 => h9) rfl dX10_lay_55 ?_
        refine va_get (D := D) (ci := 2) (v := .ref (y 173)) hx hb hts hiX2 hown hK hw.1 171 kg171 rfl 1 (by decide) lf60 (fun _ h9 => h9) rfl dX10_lay_58 ?_
        refine lv_iload hx hb dX10_lay_61 (lv_at hl 2 rfl) ?_
        refine miald hx hb hK hw 173 kg173 k20 (by decide) dX10_lay_63 (zgen (zI.top _) (fun v22 _ => ?_))
        refine lv_iload hx hb dX10_lay_64 (lv_at hl 1 rfl) ?_
        refine lv_iand hx hb dX10_lay_66 (zgen (zI.top _) (fun v23 _ => ?_))
        refine miast hx hb hK hw hS 202 kg202 k20 (by decide) dX10_lay_67 (kW ct E y (zset rw36 202 (upd (rw36 202) (zn w36_5) v23)) q) ks202 (fun H locs hw hS => ?_)
        refine cmgen (P := fun x => kJ x ∧ zFr [182, 202] r x) hw ⟨jw36.set rfl (zI.top _), fw36.set rfl⟩ (fun r24 er24 hw pr24 => ?_)
        refine lv_iinc (v := w36_5 + 1) (lv' := [(5, .int (w36_5 + 1)), (0, .ref (y 200)), (4, .int w36_4)]) hx hb dX10_lay_68 hl (k := 2) rfl (rfl) (by decide) rfl (fun ls hl => ?_)
        have k25 : zI 1 6 (w36_5 + 1) := zI.add k20 (zI.lit (a := 1) (b := 1) (by decide)) (by decide)
        refine lv_goto (tgt := 36) hx hb dX10_lay_71 (by decide) ?_
        exact ih36 w36_4 (w36_5 + 1) r24 (k25.w (c := 0) (d := 6) (by decide)) pr24.1 pr24.2 (zI.up k20 (by decide) hm36) H locs ls hw hS (lv_sub hl [1, 2, 0] rfl)
  intro H locs hw hS ls hl
  have hl : lv_has ls 6 [(0, .ref (y 200)), (1, .ref (y 6)), (2, .int a2), (3, .int a3)] := hl
  refine lv_aload_n hx hb dX10_lay_0 rfl (lv_at hl 0 rfl) ?_
  refine va_get (D := D) (ci := 9) (v := .ref (y 202)) hx hb hts hiX10 hown hK hw.1 200 kg200 rfl 4 (by decide) lf22 (fun _ h9 => h9) rfl dX10_lay_1 ?_
  refine lv_iconst (v := 0) hx hb dX10_lay_4 (by decide) ?_
  refine kcallZS (As := [.ref (y 202), .int 0]) (rest := []) [202] (by decide) rfl ⟨hx, hb, hml, hown, hts⟩ (c_fill l D ct (y 202) (0 : Int32) 6 (r 202) (by decide)) (va_cwS 2 hts (kgSm (zr42 14 rfl) (zr10 23 rfl) (zr11 0 rfl) mL_J7_fill_53178) rfl rfl rfl (by decide +kernel) ⟨Nat.le_of_ble_eq_true rfl, Nat.le_of_ble_eq_true rfl⟩) hw hS hA hK hN rfl rfl hl.1 rfl (Nat.le_of_ble_eq_true rfl) dX10_lay_5 8 rfl (zset r 202 (zfl (r 202) (0 : Int32) 6)) q (fun _ => rfl) kset1x (fun _ H locs _ hw hS => ?_)
  refine zfr 8 [] rfl rfl ?_
  refine cmgen (P := fun x => kJ x ∧ zFr [182, 202] r x) hw ⟨hJ0.fill rfl (fun _ => zI.top _), (zFr.refl).set rfl⟩ (fun r26 er26 hw pr26 => ?_)
  refine lv_aload_n hx hb dX10_lay_8 rfl (lv_at hl 0 rfl) ?_
  refine va_get (D := D) (ci := 9) (v := .ref (y 171)) hx hb hts hiX10 hown hK hw.1 200 kg200 rfl 0 (by decide) lf31 (fun _ h9 => h9) rfl dX10_lay_9 ?_
  refine va_get (D := D) (ci := 2) (v := .ref (y 175)) hx hb hts hiX2 hown hK hw.1 171 kg171 rfl 3 (by decide) lf45 (fun _ h9 => h9) rfl dX10_lay_12 ?_
  refine lv_iload_n hx hb dX10_lay_15 rfl (lv_at hl 2 rfl) ?_
  refine miald hx hb hK hw 175 kg175 g2 (by decide) dX10_lay_16 (zgen (zI.top _) (fun v27 _ => ?_))
  refine lv_iconst (v := 1) hx hb dX10_lay_17 (by decide) ?_
  refine lv_icmp_eq (tgt := 75) hx hb dX10_lay_18 (by decide) (fun c28 => ?_) (fun c28 => ?_)
  · have k29 : zI 1 1 (v27) := zI.eqq c28 (zI.lit (a := 1) (b := 1) (c := 1) (by decide))
    refine lv_iconst (v := 0) hx hb dX10_lay_75 (by decide) ?_
    refine lv_istore (lv' := [(4, .int 0), (0, .ref (y 200)), (1, .ref (y 6)), (2, .int a2), (3, .int a3)]) hx hb dX10_lay_76 hl (by decide) rfl (fun ls hl => ?_)
    exact cut78 7 0 r26 ((zI.lit (a := 0) (b := 0) (c := 0) (by decide)).w (c := 0) (d := 6) (by decide)) pr26.1 pr26.2 (zI.m0 (zI.lit (a := 0) (b := 0) (c := 0) (by decide)) (by decide)) H locs ls hw hS (lv_sub hl [1, 2, 4, 0] rfl)
  · refine lv_aload_n hx hb dX10_lay_21 rfl (lv_at hl 0 rfl) ?_
    refine va_get (D := D) (ci := 9) (v := .ref (y 199)) hx hb hts hiX10 hown hK hw.1 200 kg200 rfl 1 (by decide) lf35 (fun _ h9 => h9) rfl dX10_lay_22 ?_
    refine lv_aload_n hx hb dX10_lay_25 rfl (lv_at hl 1 rfl) ?_
    refine lv_iload_n hx hb dX10_lay_26 rfl (lv_at hl 2 rfl) ?_
    refine lv_iload_n hx hb dX10_lay_27 rfl (lv_at hl 3 rfl) ?_
    refine kcallV (As := [.ref (y 6), .int a2, .int a3]) (rest := []) ⟨hx, hb, hml, hown, hts⟩ (kc_opensN l D ct E y a2 a3 r26 q g2 pr26.1 hEi) (wqX10_50_kc_opensN hts ⟨Nat.le_of_ble_eq_true rfl, Nat.le_of_ble_eq_true rfl⟩) hw hS hA hK hZ hN 0 199 rfl kg199 rfl hl.1 rfl (Nat.le_of_ble_eq_true rfl) dX10_lay_28 31 rfl (fun u30 H locs pu30 hw hS => ?_)
    obtain ⟨v31, r32⟩ := u30
    have hv31 : zI (-2147483648) 2147483647 v31 := pu30.1
    have ju30 : kJ r32 := pu30.2.1
    have fu30 : zFr [182] r26 r32 := pu30.2.2.1
    have hw : zPD D A (kW ct E y r32 q) H := hw
    refine zfr 31 [.int v31] rfl rfl ?_
    refine lv_istore (lv' := [(4, .int v31), (0, .ref (y 200)), (1, .ref (y 6)), (2, .int a2), (3, .int a3)]) hx hb dX10_lay_31 hl (by decide) rfl (fun ls hl => ?_)
    refine lv_iconst (v := 0) hx hb dX10_lay_33 (by decide) ?_
    refine lv_istore (lv' := [(5, .int 0), (4, .int v31), (0, .ref (y 200)), (1, .ref (y 6)), (2, .int a2), (3, .int a3)]) hx hb dX10_lay_34 hl (by decide) rfl (fun ls hl => ?_)
    exact cut36 7 v31 0 r32 ((zI.lit (a := 0) (b := 0) (c := 0) (by decide)).w (c := 0) (d := 6) (by decide)) ju30 (pr26.2.tr fu30 rfl) (zI.m0 (zI.lit (a := 0) (b := 0) (c := 0) (by decide)) (by decide)) H locs ls hw hS (lv_sub hl [2, 1, 0] rfl)

noncomputable def Gk_voicesN_64 (w6_5 : Int32) (ih6 : Int32 → Int32 → zRr → (Int32 × zRr)) (w64_4 : Int32) (rw64 : zRr) : Int32 × zRr :=
  ih6 w64_4 (w6_5 + 1) rw64
noncomputable def Bk_voicesN_6 (a2 : Int32) (a3 : Int32) (q : zRq) (ih6 : Int32 → Int32 → zRr → (Int32 × zRr)) (w6_4 : Int32) (w6_5 : Int32) (rw6 : zRr) : Int32 × zRr :=
  zlet (α := Int32) (rw6 171 10) <| fun v2 => zif (v2 ≤ w6_5) ((w6_4, rw6)) (zlet (α := Int32) (rw6 175 (zn w6_5)) <| fun v6 => zif (v6 = (1 : Int32)) (Gk_voicesN_64 w6_5 ih6 w6_4 rw6) (zlet (α := Int32) (rw6 7 (zn w6_5)) <| fun v9 => zifn (v9 = a2) (Gk_voicesN_64 w6_5 ih6 w6_4 rw6) (zc_vr (Gk_passesAloneN w6_5 a3 (0 : Int32) rw6 q) <| fun v13 r14 => zif (v13 = (0 : Int32)) (Gk_voicesN_64 w6_5 ih6 w6_4 r14) (zlet (α := Int32) (1 <<< (w6_5 &&& 31)) <| fun v18 => zlet (α := Int32) (w6_4 ||| v18) <| fun v19 => Gk_voicesN_64 w6_5 ih6 v19 r14))))
noncomputable def Gk_voicesN_6 (a2 : Int32) (a3 : Int32) (q : zRq) (n : Nat) : Int32 → Int32 → zRr → (Int32 × zRr) :=
  Nat.rec (motive := fun _ => Int32 → Int32 → zRr → (Int32 × zRr)) (fun _ _ rw6 => (default, rw6)) (fun _ ih => Bk_voicesN_6 a2 a3 q ih) n
noncomputable def Gk_voicesN (a2 : Int32) (a3 : Int32) (r : zRr) (q : zRq) : Int32 × zRr :=
  Gk_voicesN_6 a2 a3 q 7 0 0 r
set_option maxHeartbeats 4000000 in
set_option maxRecDepth 100000 in
theorem kc_voicesN (l : Launch) (D : va_G) (ct : Nat → ClassId) (E : Nat → Nat) (y : Nat → Nat) (a2 : Int32) (a3 : Int32) (r : zRr) (q : zRq) (g3 : zI 0 5 a3) (hJ0 : kJ r) (hEi : kEi E) : cC l yX0_voices (.code yX0_voices cX0_voices 6 (some .int) :: wsL_law0) ({ frames := 4, cells := 0, slots := 0, locals := 200 }) D ct E [.ref (y 199), .ref (y 6), .int a2, .int a3] (kW ct E y r q) (S := Int32 × zRr) (fun u => some (.int u.1)) (fun u => zI (-2147483648) 2147483647 u.1 ∧ kJ u.2 ∧ zFr [182] r u.2 ∧ u = (Gk_voicesN a2 a3 r q) ∧ True) (fun u => kW ct E y u.2 q) := by
  refine cofQ cX0_voices 6 (some .int) (by decide) rfl (Nat.le_of_ble_eq_true rfl) ?_
  intro p e s m below meth c A a9 Q ha9 hx hb hr hml hts hown hlocks hname hK hA hZ hN hQ
  have hown : s.vm.findClass RX0 = some m.cls := hown
  have hiX0 : ∀ w ∈ wsX00, w ∈ .code yX0_voices cX0_voices 6 (some .int) :: wsL_law0 := fun _ h => ki (zs_wsX00 _ h)
  have hiX2 : ∀ w ∈ wsX20, w ∈ .code yX0_voices cX0_voices 6 (some .int) :: wsL_law0 := fun _ h => ki (zs_wsX20 _ h)
  have hiX8 : ∀ w ∈ wsX80, w ∈ .code yX0_voices cX0_voices 6 (some .int) :: wsL_law0 := fun _ h => ki (zs_wsX80 _ h)
  have lf9 := hts (.fieldLink RX0 9 "BeardPass$Frontier" "land" "LBeardPass$Land;") (ki (zr6 1 rfl))
  have lf15 := hts (.fieldLink RX0 15 "BeardPass$Land" "kinds" "[I") (ki (zr32 5 rfl))
  have lf53 := hts (.fieldLink RX0 53 "BeardPass$Land" "persons" "I") (ki (zr32 0 rfl))
  have lf56 := hts (.fieldLink RX0 56 "BeardPass$Standing" "places" "[I") (ki (zr32 6 rfl))
  obtain ⟨X, hX⟩ : ∃ X, X = (Gk_voicesN a2 a3 r q) := ⟨_, rfl⟩
  have cut6 : ∀ (n6 : Nat) (w6_4 : Int32) (w6_5 : Int32) (rw6 : zRr) (hw6_3 : zI 0 5 a3) (hw6_4 : zI 0 63 w6_4) (hw6_5 : zI 0 6 w6_5) (jw6 : kJ rw6) (fw6 : zFr [182] r rw6) (hE : X = Gk_voicesN_6 a2 a3 q n6 w6_4 w6_5 rw6), 6 - w6_5.toInt < (n6 : Int) → zKf p l e ({ frames := 4, cells := 0, slots := 0, locals := 200 }) s m a9 below meth c Q D A 6 6 [] (kW ct E y rw6 q) [(0, .ref (y 199)), (1, .ref (y 6)), (2, .int a2), (3, .int a3), (4, .int w6_4), (5, .int w6_5)] := by
    intro n6
    induction n6 with
    | zero => intro w6_4 w6_5 rw6 hw6_3 hw6_4 hw6_5 jw6 fw6 hE hm6; exact zI.no hw6_5 (by decide) hm6
    | succ n6 ih6 =>
      intro w6_4 w6_5 rw6 hw6_3 hw6_4 hw6_5 jw6 fw6 hE hm6
      have hE : X = Bk_voicesN_6 a2 a3 q (Gk_voicesN_6 a2 a3 q n6) w6_4 w6_5 rw6 := hE
      unfold Bk_voicesN_6 at hE
      have cut64 : ∀ (w64_4 : Int32) (rw64 : zRr) (hw64_3 : zI 0 5 a3) (hw64_4 : zI 0 63 w64_4) (hw64_5 : zI 0 5 w6_5) (jw64 : kJ rw64) (fw64 : zFr [182] r rw64) (hE : X = Gk_voicesN_64 w6_5 (Gk_voicesN_6 a2 a3 q n6) w64_4 rw64), zKf p l e ({ frames := 4, cells := 0, slots := 0, locals := 200 }) s m a9 below meth c Q D A 64 6 [] (kW ct E y rw64 q) [(0, .ref (y 199)), (1, .ref (y 6)), (2, .int a2), (3, .int a3), (4, .int w64_4), (5, .int w6_5)] := by
        intro w64_4 rw64 hw64_3 hw64_4 hw64_5 jw64 fw64 hE H locs ls hw hS hl
        unfold Gk_voicesN_64 at hE
        refine lv_iinc (v := w6_5 + 1) (lv' := [(5, .int (w6_5 + 1)), (0, .ref (y 199)), (1, .ref (y 6)), (2, .int a2), (3, .int a3), (4, .int w64_4)]) hx hb dX0_voices_64 hl (k := 5) rfl (rfl) (by decide) rfl (fun ls hl => ?_)
        have k1 : zI 1 6 (w6_5 + 1) := zI.add hw64_5 (zI.lit (a := 1) (b := 1) (by decide)) (by decide)
        refine lv_goto (tgt := 6) hx hb dX0_voices_67 (by decide) ?_
        exact ih6 w64_4 (w6_5 + 1) rw64 hw64_3 hw64_4 (k1.w (c := 0) (d := 6) (by decide)) jw64 fw64 hE (zI.up hw64_5 (by decide) hm6) H locs ls hw hS (lv_sub hl [1, 2, 3, 4, 5, 0] rfl)
      intro H locs ls hw hS hl
      refine lv_iload hx hb dX0_voices_6 (lv_at hl 5 rfl) ?_
      refine lv_aload_n hx hb dX0_voices_8 rfl (lv_at hl 0 rfl) ?_
      refine va_get (D := D) (ci := 0) (v := .ref (y 171)) hx hb hts hiX0 hown hK hw.1 199 kg199 rfl 0 (by decide) lf9 (fun _ h9 => h9) rfl dX0_voices_9 ?_
      refine va_get (D := D) (ci := 2) (v := .int (rw6 171 10)) hx hb hts hiX2 hown hK hw.1 171 kg171 rfl 10 (by decide) lf53 (fun _ h9 => h9) rfl dX0_voices_12 (zgenE (lo := 0) (hi := 6) ((show zI 0 6 (rw6 171 10) from jw6.i 171 10)) (fun v2 ev2 hv2 => ?_))
      have hE := zletE ev2 hE
      refine lv_icmp_ge (tgt := 70) hx hb dX0_voices_15 (by decide) (fun c3 => ?_) (fun c3 => ?_)
      · have hE := zifT c3 hE
        refine lv_iload hx hb dX0_voices_70 (lv_at hl 4 rfl) ?_
        exact ziretQ hQ hx hb hr rfl hlocks (w6_4, rw6) rfl ⟨(zI.top _), jw6, fw6, (hE.symm.trans hX), trivial⟩ hw hS dX0_voices_72
      · have hE := zifF c3 hE
        have k4 : zI 0 5 (w6_5) := zI.ltU (zI.nle c3) hw6_5 hv2 (by decide)
        have k5 : zI 1 6 (v2) := zI.ltD (zI.nle c3) hw6_5 hv2 (by decide)
        refine lv_aload_n hx hb dX0_voices_18 rfl (lv_at hl 0 rfl) ?_
        refine va_get (D := D) (ci := 0) (v := .ref (y 171)) hx hb hts hiX0 hown hK hw.1 199 kg199 rfl 0 (by decide) lf9 (fun _ h9 => h9) rfl dX0_voices_19 ?_
        refine va_get (D := D) (ci := 2) (v := .ref (y 175)) hx hb hts hiX2 hown hK hw.1 171 kg171 rfl 3 (by decide) lf15 (fun _ h9 => h9) rfl dX0_voices_22 ?_
        refine lv_iload hx hb dX0_voices_25 (lv_at hl 5 rfl) ?_
        refine miald hx hb hK hw 175 kg175 k4 (by decide) dX0_voices_27 (zgenE (zI.top _) (fun v6 ev6 _ => ?_))
        have hE := zletE ev6 hE
        refine lv_iconst (v := 1) hx hb dX0_voices_28 (by decide) ?_
        refine lv_icmp_eq (tgt := 64) hx hb dX0_voices_29 (by decide) (fun c7 => ?_) (fun c7 => ?_)
        · have hE := zifT c7 hE
          have k8 : zI 1 1 (v6) := zI.eqq c7 (zI.lit (a := 1) (b := 1) (c := 1) (by decide))
          exact cut64 w6_4 rw6 hw6_3 hw6_4 k4 jw6 fw6 hE H locs ls hw hS (lv_sub hl [0, 1, 2, 3, 4, 5] rfl)
        · have hE := zifF c7 hE
          refine lv_aload_n hx hb dX0_voices_32 rfl (lv_at hl 1 rfl) ?_
          refine va_get (D := D) (ci := 7) (v := .ref (y 7)) hx hb hts hiX8 hown hK hw.1 6 kg6 rfl 0 (by decide) lf56 (fun _ h9 => h9) rfl dX0_voices_33 ?_
          refine lv_iload hx hb dX0_voices_36 (lv_at hl 5 rfl) ?_
          refine miald hx hb hK hw 7 kg7 k4 (by decide) dX0_voices_38 (zgenE (lo := 0) (hi := 5) ((show zI 0 5 (rw6 7 _) from jw6.i 7 _)) (fun v9 ev9 hv9 => ?_))
          have hE := zletE ev9 hE
          refine lv_iload_n hx hb dX0_voices_39 rfl (lv_at hl 2 rfl) ?_
          refine lv_icmp_ne (tgt := 64) hx hb dX0_voices_40 (by decide) (fun c10 => ?_) (fun c10 => ?_)
          · have hE := zifnT c10 hE
            exact cut64 w6_4 rw6 hw6_3 hw6_4 k4 jw6 fw6 hE H locs ls hw hS (lv_sub hl [0, 1, 2, 3, 4, 5] rfl)
          · have hE := zifnF c10 hE
            have k11 : zI 0 5 (a2) := zI.eqq (c10).symm hv9
            refine lv_aload_n hx hb dX0_voices_43 rfl (lv_at hl 0 rfl) ?_
            refine lv_aload_n hx hb dX0_voices_44 rfl (lv_at hl 1 rfl) ?_
            refine lv_iload hx hb dX0_voices_45 (lv_at hl 5 rfl) ?_
            refine lv_iload_n hx hb dX0_voices_47 rfl (lv_at hl 3 rfl) ?_
            refine lv_iconst (v := 0) hx hb dX0_voices_48 (by decide) ?_
            refine kcallV (As := [.ref (y 6), .int w6_5, .int a3, .int 0]) (rest := []) ⟨hx, hb, hml, hown, hts⟩ (kc_passesAloneN l D ct E y w6_5 a3 (0 : Int32) rw6 q k4 hw6_3 jw6 hEi) (wqX0_49_kc_passesAloneN hts ⟨Nat.le_of_ble_eq_true rfl, Nat.le_of_ble_eq_true rfl⟩) hw hS hA hK hZ hN 0 199 rfl kg199 rfl hl.1 rfl (Nat.le_of_ble_eq_true rfl) dX0_voices_49 52 rfl (fun u12 H locs pu12 hw hS => ?_)
            obtain ⟨v13, r14⟩ := u12
            have hv13 : zI 0 1 v13 := pu12.1
            have ju12 : kJ r14 := pu12.2.1
            have fu12 : zFr [182] rw6 r14 := pu12.2.2.1
            have xu12 : (v13, r14) = (Gk_passesAloneN w6_5 a3 (0 : Int32) rw6 q) := pu12.2.2.2.1
            have hE := zc_vrE xu12 hE
            have hw : zPD D A (kW ct E y r14 q) H := hw
            refine zfr 52 [.int v13] rfl rfl ?_
            refine lv_if_eq (tgt := 64) hx hb dX0_voices_52 (by decide) (fun c15 => ?_) (fun c15 => ?_)
            · have hE := zifT c15 hE
              have k16 : zI 0 0 (v13) := zI.eqq c15 (zI.lit (a := 0) (b := 0) (c := 0) (by decide))
              exact cut64 w6_4 r14 hw6_3 hw6_4 k4 ju12 (fw6.tr fu12 rfl) hE H locs ls hw hS (lv_sub hl [0, 1, 2, 3, 4, 5] rfl)
            · have hE := zifF c15 hE
              have k17 : zI 1 1 (v13) := zI.neD c15 hv13 (zI.lit (a := 0) (b := 0) (c := 0) (by decide)) (by decide)
              refine lv_iload hx hb dX0_voices_55 (lv_at hl 4 rfl) ?_
              refine lv_iconst (v := 1) hx hb dX0_voices_57 (by decide) ?_
              refine lv_iload hx hb dX0_voices_58 (lv_at hl 5 rfl) ?_
              refine lv_ishl hx hb dX0_voices_60 (zgenE (lo := 1) (hi := 32) (zI.shl k4 5 (by decide)) (fun v18 ev18 hv18 => ?_))
              have hE := zletE ev18 hE
              refine lv_ior hx hb dX0_voices_61 (zgenE (lo := 0) (hi := 63) (zI.or 6 hw6_4 hv18 (by decide)) (fun v19 ev19 hv19 => ?_))
              have hE := zletE ev19 hE
              refine lv_istore (lv' := [(4, .int v19), (0, .ref (y 199)), (1, .ref (y 6)), (2, .int a2), (3, .int a3), (5, .int w6_5)]) hx hb dX0_voices_62 hl (by decide) rfl (fun ls hl => ?_)
              exact cut64 v19 r14 hw6_3 hv19 k4 ju12 (fw6.tr fu12 rfl) hE H locs ls hw hS (lv_sub hl [1, 2, 3, 4, 0, 5] rfl)
  intro H locs hw hS ls hl
  have hl : lv_has ls 6 [(0, .ref (y 199)), (1, .ref (y 6)), (2, .int a2), (3, .int a3)] := hl
  have hE := hX
  unfold Gk_voicesN at hE
  refine lv_iconst (v := 0) hx hb dX0_voices_0 (by decide) ?_
  refine lv_istore (lv' := [(4, .int 0), (0, .ref (y 199)), (1, .ref (y 6)), (2, .int a2), (3, .int a3)]) hx hb dX0_voices_1 hl (by decide) rfl (fun ls hl => ?_)
  refine lv_iconst (v := 0) hx hb dX0_voices_3 (by decide) ?_
  refine lv_istore (lv' := [(5, .int 0), (4, .int 0), (0, .ref (y 199)), (1, .ref (y 6)), (2, .int a2), (3, .int a3)]) hx hb dX0_voices_4 hl (by decide) rfl (fun ls hl => ?_)
  exact cut6 7 0 0 r g3 ((zI.lit (a := 0) (b := 0) (c := 0) (by decide)).w (c := 0) (d := 63) (by decide)) ((zI.lit (a := 0) (b := 0) (c := 0) (by decide)).w (c := 0) (d := 6) (by decide)) hJ0 (zFr.refl) hE (zI.m0 (zI.lit (a := 0) (b := 0) (c := 0) (by decide)) (by decide)) H locs ls hw hS (lv_sub hl [2, 3, 4, 5, 1, 0] rfl)

noncomputable def Gk_letsN (a2 : Int32) (a3 : Int32) (r : zRr) (q : zRq) : Int32 × zRr :=
  zlet (α := Int32) (r 175 (zn a2)) <| fun v1 => zifn (v1 = (1 : Int32)) (zc_vr (Gk_passesAloneN a2 a3 (0 : Int32) r q) <| fun v4 r5 => (v4, r5)) (zlet (α := Int32) (r 7 (zn a2)) <| fun v7 => zc_vr (Gk_voicesN v7 a3 r q) <| fun v9 r10 => zif (v9 = (0 : Int32)) (((0 : Int32), r10)) (((1 : Int32), r10)))
set_option maxHeartbeats 4000000 in
set_option maxRecDepth 100000 in
theorem kc_letsN (l : Launch) (D : va_G) (ct : Nat → ClassId) (E : Nat → Nat) (y : Nat → Nat) (a2 : Int32) (a3 : Int32) (r : zRr) (q : zRq) (g2 : zI 0 5 a2) (g3 : zI 0 5 a3) (hJ0 : kJ r) (hEi : kEi E) : cC l yX0_lets (.code yX0_lets cX0_lets 4 (some .boolean) :: wsL_law0) ({ frames := 5, cells := 0, slots := 0, locals := 240 }) D ct E [.ref (y 199), .ref (y 6), .int a2, .int a3] (kW ct E y r q) (S := Int32 × zRr) (fun u => some (.int u.1)) (fun u => zI 0 1 u.1 ∧ kJ u.2 ∧ zFr [182] r u.2 ∧ u = (Gk_letsN a2 a3 r q) ∧ True) (fun u => kW ct E y u.2 q) := by
  refine cofQ cX0_lets 4 (some .boolean) (by decide) rfl (Nat.le_of_ble_eq_true rfl) ?_
  intro p e s m below meth c A a9 Q ha9 hx hb hr hml hts hown hlocks hname hK hA hZ hN hQ
  have hown : s.vm.findClass RX0 = some m.cls := hown
  have hiX0 : ∀ w ∈ wsX00, w ∈ .code yX0_lets cX0_lets 4 (some .boolean) :: wsL_law0 := fun _ h => ki (zs_wsX00 _ h)
  have hiX2 : ∀ w ∈ wsX20, w ∈ .code yX0_lets cX0_lets 4 (some .boolean) :: wsL_law0 := fun _ h => ki (zs_wsX20 _ h)
  have hiX8 : ∀ w ∈ wsX80, w ∈ .code yX0_lets cX0_lets 4 (some .boolean) :: wsL_law0 := fun _ h => ki (zs_wsX80 _ h)
  have lf9 := hts (.fieldLink RX0 9 "BeardPass$Frontier" "land" "LBeardPass$Land;") (ki (zr6 1 rfl))
  have lf15 := hts (.fieldLink RX0 15 "BeardPass$Land" "kinds" "[I") (ki (zr32 5 rfl))
  have lf56 := hts (.fieldLink RX0 56 "BeardPass$Standing" "places" "[I") (ki (zr32 6 rfl))
  obtain ⟨X, hX⟩ : ∃ X, X = (Gk_letsN a2 a3 r q) := ⟨_, rfl⟩
  intro H locs hw hS ls hl
  have hl : lv_has ls 4 [(0, .ref (y 199)), (1, .ref (y 6)), (2, .int a2), (3, .int a3)] := hl
  have hE := hX
  unfold Gk_letsN at hE
  refine lv_aload_n hx hb dX0_lets_0 rfl (lv_at hl 0 rfl) ?_
  refine va_get (D := D) (ci := 0) (v := .ref (y 171)) hx hb hts hiX0 hown hK hw.1 199 kg199 rfl 0 (by decide) lf9 (fun _ h9 => h9) rfl dX0_lets_1 ?_
  refine va_get (D := D) (ci := 2) (v := .ref (y 175)) hx hb hts hiX2 hown hK hw.1 171 kg171 rfl 3 (by decide) lf15 (fun _ h9 => h9) rfl dX0_lets_4 ?_
  refine lv_iload_n hx hb dX0_lets_7 rfl (lv_at hl 2 rfl) ?_
  refine miald hx hb hK hw 175 kg175 g2 (by decide) dX0_lets_8 (zgenE (zI.top _) (fun v1 ev1 _ => ?_))
  have hE := zletE ev1 hE
  refine lv_iconst (v := 1) hx hb dX0_lets_9 (by decide) ?_
  refine lv_icmp_ne (tgt := 34) hx hb dX0_lets_10 (by decide) (fun c2 => ?_) (fun c2 => ?_)
  · have hE := zifnT c2 hE
    refine lv_aload_n hx hb dX0_lets_34 rfl (lv_at hl 0 rfl) ?_
    refine lv_aload_n hx hb dX0_lets_35 rfl (lv_at hl 1 rfl) ?_
    refine lv_iload_n hx hb dX0_lets_36 rfl (lv_at hl 2 rfl) ?_
    refine lv_iload_n hx hb dX0_lets_37 rfl (lv_at hl 3 rfl) ?_
    refine lv_iconst (v := 0) hx hb dX0_lets_38 (by decide) ?_
    refine kcallV (As := [.ref (y 6), .int a2, .int a3, .int 0]) (rest := []) ⟨hx, hb, hml, hown, hts⟩ (kc_passesAloneN l D ct E y a2 a3 (0 : Int32) r q g2 g3 hJ0 hEi) (wqX0_49_kc_passesAloneN hts ⟨Nat.le_of_ble_eq_true rfl, Nat.le_of_ble_eq_true rfl⟩) hw hS hA hK hZ hN 0 199 rfl kg199 rfl hl.1 rfl (Nat.le_of_ble_eq_true rfl) dX0_lets_39 42 rfl (fun u3 H locs pu3 hw hS => ?_)
    obtain ⟨v4, r5⟩ := u3
    have hv4 : zI 0 1 v4 := pu3.1
    have ju3 : kJ r5 := pu3.2.1
    have fu3 : zFr [182] r r5 := pu3.2.2.1
    have xu3 : (v4, r5) = (Gk_passesAloneN a2 a3 (0 : Int32) r q) := pu3.2.2.2.1
    have hE := zc_vrE xu3 hE
    have hw : zPD D A (kW ct E y r5 q) H := hw
    refine zfr 42 [.int v4] rfl rfl ?_
    exact ziretQ hQ hx hb hr (hv4.rn) hlocks (v4, r5) rfl ⟨hv4, ju3, ((zFr.refl).tr fu3 rfl), (hE.symm.trans hX), trivial⟩ hw hS dX0_lets_42
  · have hE := zifnF c2 hE
    have k6 : zI 1 1 (v1) := zI.eqq c2 (zI.lit (a := 1) (b := 1) (c := 1) (by decide))
    refine lv_aload_n hx hb dX0_lets_13 rfl (lv_at hl 0 rfl) ?_
    refine lv_aload_n hx hb dX0_lets_14 rfl (lv_at hl 1 rfl) ?_
    refine lv_aload_n hx hb dX0_lets_15 rfl (lv_at hl 1 rfl) ?_
    refine va_get (D := D) (ci := 7) (v := .ref (y 7)) hx hb hts hiX8 hown hK hw.1 6 kg6 rfl 0 (by decide) lf56 (fun _ h9 => h9) rfl dX0_lets_16 ?_
    refine lv_iload_n hx hb dX0_lets_19 rfl (lv_at hl 2 rfl) ?_
    refine miald hx hb hK hw 7 kg7 g2 (by decide) dX0_lets_20 (zgenE (lo := 0) (hi := 5) ((show zI 0 5 (r 7 _) from hJ0.i 7 _)) (fun v7 ev7 hv7 => ?_))
    have hE := zletE ev7 hE
    refine lv_iload_n hx hb dX0_lets_21 rfl (lv_at hl 3 rfl) ?_
    refine kcallV (As := [.ref (y 6), .int v7, .int a3]) (rest := []) ⟨hx, hb, hml, hown, hts⟩ (kc_voicesN l D ct E y v7 a3 r q g3 hJ0 hEi) (wqX0_59_kc_voicesN hts ⟨Nat.le_of_ble_eq_true rfl, Nat.le_of_ble_eq_true rfl⟩) hw hS hA hK hZ hN 0 199 rfl kg199 rfl hl.1 rfl (Nat.le_of_ble_eq_true rfl) dX0_lets_22 25 rfl (fun u8 H locs pu8 hw hS => ?_)
    obtain ⟨v9, r10⟩ := u8
    have hv9 : zI (-2147483648) 2147483647 v9 := pu8.1
    have ju8 : kJ r10 := pu8.2.1
    have fu8 : zFr [182] r r10 := pu8.2.2.1
    have xu8 : (v9, r10) = (Gk_voicesN v7 a3 r q) := pu8.2.2.2.1
    have hE := zc_vrE xu8 hE
    have hw : zPD D A (kW ct E y r10 q) H := hw
    refine zfr 25 [.int v9] rfl rfl ?_
    refine lv_if_eq (tgt := 32) hx hb dX0_lets_25 (by decide) (fun c11 => ?_) (fun c11 => ?_)
    · have hE := zifT c11 hE
      have k12 : zI 0 0 (v9) := zI.eqq c11 (zI.lit (a := 0) (b := 0) (c := 0) (by decide))
      refine lv_iconst (v := 0) hx hb dX0_lets_32 (by decide) ?_
      exact ziretQ hQ hx hb hr rfl hlocks ((0 : Int32), r10) rfl ⟨((zI.lit (a := 0) (b := 0) (c := 0) (by decide)).w (c := 0) (d := 1) (by decide)), ju8, ((zFr.refl).tr fu8 rfl), (hE.symm.trans hX), trivial⟩ hw hS dX0_lets_33
    · have hE := zifF c11 hE
      refine lv_iconst (v := 1) hx hb dX0_lets_28 (by decide) ?_
      refine lv_goto (tgt := 33) hx hb dX0_lets_29 (by decide) ?_
      exact ziretQ hQ hx hb hr rfl hlocks ((1 : Int32), r10) rfl ⟨((zI.lit (a := 1) (b := 1) (c := 1) (by decide)).w (c := 0) (d := 1) (by decide)), ju8, ((zFr.refl).tr fu8 rfl), (hE.symm.trans hX), trivial⟩ hw hS dX0_lets_33

noncomputable def Gk_canGoN (a2 : Int32) (a3 : Int32) (r : zRr) (q : zRq) : Int32 × zRr :=
  zlet (α := Int32) (r 7 (zn a2)) <| fun v1 => zlet (α := Int32) (r 173 (zn v1)) <| fun v2 => zlet (α := Int32) ((Gk_has v2 a3)) <| fun u3 => zif (u3 = (0 : Int32)) (((0 : Int32), r)) (zc_vr (Gk_letsN a2 a3 r q) <| fun v9 r10 => zif (v9 = (0 : Int32)) (((0 : Int32), r10)) (((1 : Int32), r10)))
set_option maxHeartbeats 4000000 in
set_option maxRecDepth 100000 in
theorem kc_canGoN (l : Launch) (D : va_G) (ct : Nat → ClassId) (E : Nat → Nat) (y : Nat → Nat) (a2 : Int32) (a3 : Int32) (r : zRr) (q : zRq) (g2 : zI 0 5 a2) (g3 : zI 0 5 a3) (hJ0 : kJ r) (hEi : kEi E) : cC l yX0_canGo (.code yX0_canGo cX0_canGo 4 (some .boolean) :: wsL_law0) ({ frames := 6, cells := 0, slots := 0, locals := 280 }) D ct E [.ref (y 199), .ref (y 6), .int a2, .int a3] (kW ct E y r q) (S := Int32 × zRr) (fun u => some (.int u.1)) (fun u => zI 0 1 u.1 ∧ kJ u.2 ∧ zFr [182] r u.2 ∧ u = (Gk_canGoN a2 a3 r q) ∧ True) (fun u => kW ct E y u.2 q) := by
  refine cofQ cX0_canGo 4 (some .boolean) (by decide) rfl (Nat.le_of_ble_eq_true rfl) ?_
  intro p e s m below meth c A a9 Q ha9 hx hb hr hml hts hown hlocks hname hK hA hZ hN hQ
  have hown : s.vm.findClass RX0 = some m.cls := hown
  have hiX0 : ∀ w ∈ wsX00, w ∈ .code yX0_canGo cX0_canGo 4 (some .boolean) :: wsL_law0 := fun _ h => ki (zs_wsX00 _ h)
  have hiX2 : ∀ w ∈ wsX20, w ∈ .code yX0_canGo cX0_canGo 4 (some .boolean) :: wsL_law0 := fun _ h => ki (zs_wsX20 _ h)
  have hiX8 : ∀ w ∈ wsX80, w ∈ .code yX0_canGo cX0_canGo 4 (some .boolean) :: wsL_law0 := fun _ h => ki (zs_wsX80 _ h)
  have lf9 := hts (.fieldLink RX0 9 "BeardPass$Frontier" "land" "LBeardPass$Land;") (ki (zr6 1 rfl))
  have lf56 := hts (.fieldLink RX0 56 "BeardPass$Standing" "places" "[I") (ki (zr32 6 rfl))
  have lf67 := hts (.fieldLink RX0 67 "BeardPass$Land" "roads" "[I") (ki (zr35 11 rfl))
  obtain ⟨X, hX⟩ : ∃ X, X = (Gk_canGoN a2 a3 r q) := ⟨_, rfl⟩
  intro H locs hw hS ls hl
  have hl : lv_has ls 4 [(0, .ref (y 199)), (1, .ref (y 6)), (2, .int a2), (3, .int a3)] := hl
  have hE := hX
  unfold Gk_canGoN at hE
  refine lv_aload_n hx hb dX0_canGo_0 rfl (lv_at hl 0 rfl) ?_
  refine va_get (D := D) (ci := 0) (v := .ref (y 171)) hx hb hts hiX0 hown hK hw.1 199 kg199 rfl 0 (by decide) lf9 (fun _ h9 => h9) rfl dX0_canGo_1 ?_
  refine va_get (D := D) (ci := 2) (v := .ref (y 173)) hx hb hts hiX2 hown hK hw.1 171 kg171 rfl 1 (by decide) lf67 (fun _ h9 => h9) rfl dX0_canGo_4 ?_
  refine lv_aload_n hx hb dX0_canGo_7 rfl (lv_at hl 1 rfl) ?_
  refine va_get (D := D) (ci := 7) (v := .ref (y 7)) hx hb hts hiX8 hown hK hw.1 6 kg6 rfl 0 (by decide) lf56 (fun _ h9 => h9) rfl dX0_canGo_8 ?_
  refine lv_iload_n hx hb dX0_canGo_11 rfl (lv_at hl 2 rfl) ?_
  refine miald hx hb hK hw 7 kg7 g2 (by decide) dX0_canGo_12 (zgenE (lo := 0) (hi := 5) ((show zI 0 5 (r 7 _) from hJ0.i 7 _)) (fun v1 ev1 hv1 => ?_))
  have hE := zletE ev1 hE
  refine miald hx hb hK hw 173 kg173 hv1 (by decide) dX0_canGo_13 (zgenE (zI.top _) (fun v2 ev2 _ => ?_))
  have hE := zletE ev2 hE
  refine lv_iload_n hx hb dX0_canGo_14 rfl (lv_at hl 3 rfl) ?_
  refine zcallE (va_runSN (As := [.int v2, .int a3]) (rest := []) ⟨hx, hb, hml, hown, hts⟩ (kc_has l D ct v2 a3 H.size) ⟨va_cnB 2 hts (kgN (zr16 23 rfl)) rfl rfl rfl (hN.1 (RX0, 70, yX11_has, RX11) (List.mem_of_getElem? (i := 13) rfl)) (hts (.initialized RX11) (ki (zr1 2 rfl))) (by decide +kernel) ⟨Nat.le_of_ble_eq_true rfl, Nat.le_of_ble_eq_true rfl⟩, hts (.static yX11_has) (ki (zr16 22 rfl)), trivial⟩ (zpreS hK hw hS hA zZ.nil hN [] rfl rfl) rfl rfl hl.1 rfl (lv_room (Nat.le_of_ble_eq_true rfl)) dX0_canGo_15 ⟨Nat.le_of_ble_eq_true rfl, Nat.le_of_ble_eq_true rfl⟩) hw hS hA kWn 18 rfl (fun u3 H locs pu3 hw hS => ?_)
  have hu3 : zI 0 1 u3 := pu3.1
  have xu3 : u3 = (Gk_has v2 a3) := pu3.2.1
  have hE := zletE xu3 hE
  refine zfr 18 [.int u3] rfl rfl ?_
  refine lv_if_eq (tgt := 35) hx hb dX0_canGo_18 (by decide) (fun c5 => ?_) (fun c5 => ?_)
  · have hE := zifT c5 hE
    have k6 : zI 0 0 (u3) := zI.eqq c5 (zI.lit (a := 0) (b := 0) (c := 0) (by decide))
    refine lv_iconst (v := 0) hx hb dX0_canGo_35 (by decide) ?_
    exact ziretQ hQ hx hb hr rfl hlocks ((0 : Int32), r) rfl ⟨((zI.lit (a := 0) (b := 0) (c := 0) (by decide)).w (c := 0) (d := 1) (by decide)), hJ0, (zFr.refl), (hE.symm.trans hX), trivial⟩ hw hS dX0_canGo_36
  · have hE := zifF c5 hE
    have k7 : zI 1 1 (u3) := zI.neD c5 hu3 (zI.lit (a := 0) (b := 0) (c := 0) (by decide)) (by decide)
    refine lv_aload_n hx hb dX0_canGo_21 rfl (lv_at hl 0 rfl) ?_
    refine lv_aload_n hx hb dX0_canGo_22 rfl (lv_at hl 1 rfl) ?_
    refine lv_iload_n hx hb dX0_canGo_23 rfl (lv_at hl 2 rfl) ?_
    refine lv_iload_n hx hb dX0_canGo_24 rfl (lv_at hl 3 rfl) ?_
    refine kcallV (As := [.ref (y 6), .int a2, .int a3]) (rest := []) ⟨hx, hb, hml, hown, hts⟩ (kc_letsN l D ct E y a2 a3 r q g2 g3 hJ0 hEi) (wqX0_63_kc_letsN hts ⟨Nat.le_of_ble_eq_true rfl, Nat.le_of_ble_eq_true rfl⟩) hw hS hA hK hZ hN 0 199 rfl kg199 rfl hl.1 rfl (Nat.le_of_ble_eq_true rfl) dX0_canGo_25 28 rfl (fun u8 H locs pu8 hw hS => ?_)
    obtain ⟨v9, r10⟩ := u8
    have hv9 : zI 0 1 v9 := pu8.1
    have ju8 : kJ r10 := pu8.2.1
    have fu8 : zFr [182] r r10 := pu8.2.2.1
    have xu8 : (v9, r10) = (Gk_letsN a2 a3 r q) := pu8.2.2.2.1
    have hE := zc_vrE xu8 hE
    have hw : zPD D A (kW ct E y r10 q) H := hw
    refine zfr 28 [.int v9] rfl rfl ?_
    refine lv_if_eq (tgt := 35) hx hb dX0_canGo_28 (by decide) (fun c11 => ?_) (fun c11 => ?_)
    · have hE := zifT c11 hE
      have k12 : zI 0 0 (v9) := zI.eqq c11 (zI.lit (a := 0) (b := 0) (c := 0) (by decide))
      refine lv_iconst (v := 0) hx hb dX0_canGo_35 (by decide) ?_
      exact ziretQ hQ hx hb hr rfl hlocks ((0 : Int32), r10) rfl ⟨((zI.lit (a := 0) (b := 0) (c := 0) (by decide)).w (c := 0) (d := 1) (by decide)), ju8, ((zFr.refl).tr fu8 rfl), (hE.symm.trans hX), trivial⟩ hw hS dX0_canGo_36
    · have hE := zifF c11 hE
      have k13 : zI 1 1 (v9) := zI.neD c11 hv9 (zI.lit (a := 0) (b := 0) (c := 0) (by decide)) (by decide)
      refine lv_iconst (v := 1) hx hb dX0_canGo_31 (by decide) ?_
      refine lv_goto (tgt := 36) hx hb dX0_canGo_32 (by decide) ?_
      exact ziretQ hQ hx hb hr rfl hlocks ((1 : Int32), r10) rfl ⟨((zI.lit (a := 1) (b := 1) (c := 1) (by decide)).w (c := 0) (d := 1) (by decide)), ju8, ((zFr.refl).tr fu8 rfl), (hE.symm.trans hX), trivial⟩ hw hS dX0_canGo_36

noncomputable def Gk_canForgeN (a2 : Int32) (a3 : Int32) (r : zRr) (q : zRq) : Int32 :=
  zif ((r 175 (zn a2)) = (1 : Int32)) ((0 : Int32)) (zif (a3 < (1 : Int32)) ((0 : Int32)) (zif ((20 - (r 9 (zn a2))) < a3) ((0 : Int32)) (zif ((r 10 (zn a2)) < (a3 * (r 171 12))) ((0 : Int32)) ((1 : Int32)))))
set_option maxHeartbeats 4000000 in
set_option maxRecDepth 100000 in
theorem kc_canForgeN (l : Launch) (D : va_G) (ct : Nat → ClassId) (E : Nat → Nat) (y : Nat → Nat) (a2 : Int32) (a3 : Int32) (r : zRr) (q : zRq) (g2 : zI 0 5 a2) (hJ0 : kJ r) (hEi : kEi E) : cC l yX0_canForge (.code yX0_canForge cX0_canForge 4 (some .boolean) :: wsL_law0) ({ frames := 1, cells := 0, slots := 0, locals := 80 }) D ct E [.ref (y 199), .ref (y 6), .int a2, .int a3] (kW ct E y r q) (S := Int32) (fun u => some (.int u)) (fun u => zI 0 1 u ∧ (¬ u = 0 → zI 0 20 (r 9 (zn a2) + a3)) ∧ u = (Gk_canForgeN a2 a3 r q) ∧ True) (fun u => kW ct E y r q) := by
  refine cofQ cX0_canForge 4 (some .boolean) (by decide) rfl (Nat.le_of_ble_eq_true rfl) ?_
  intro p e s m below meth c A a9 Q ha9 hx hb hr hml hts hown hlocks hname hK hA hZ hN hQ
  have hown : s.vm.findClass RX0 = some m.cls := hown
  have hiX0 : ∀ w ∈ wsX00, w ∈ .code yX0_canForge cX0_canForge 4 (some .boolean) :: wsL_law0 := fun _ h => ki (zs_wsX00 _ h)
  have hiX2 : ∀ w ∈ wsX20, w ∈ .code yX0_canForge cX0_canForge 4 (some .boolean) :: wsL_law0 := fun _ h => ki (zs_wsX20 _ h)
  have hiX8 : ∀ w ∈ wsX80, w ∈ .code yX0_canForge cX0_canForge 4 (some .boolean) :: wsL_law0 := fun _ h => ki (zs_wsX80 _ h)
  have lf9 := hts (.fieldLink RX0 9 "BeardPass$Frontier" "land" "LBeardPass$Land;") (ki (zr6 1 rfl))
  have lf15 := hts (.fieldLink RX0 15 "BeardPass$Land" "kinds" "[I") (ki (zr32 5 rfl))
  have lf24 := hts (.fieldLink RX0 24 "BeardPass$Standing" "forged" "[I") (ki (zr32 16 rfl))
  have lf74 := hts (.fieldLink RX0 74 "BeardPass$Land" "inch" "I") (ki (zr37 8 rfl))
  have lf77 := hts (.fieldLink RX0 77 "BeardPass$Standing" "purses" "[I") (ki (zr37 9 rfl))
  obtain ⟨X, hX⟩ : ∃ X, X = (Gk_canForgeN a2 a3 r q) := ⟨_, rfl⟩
  intro H locs hw hS ls hl
  have hl : lv_has ls 4 [(0, .ref (y 199)), (1, .ref (y 6)), (2, .int a2), (3, .int a3)] := hl
  have hE := hX
  unfold Gk_canForgeN at hE
  refine lv_aload_n hx hb dX0_canForge_0 rfl (lv_at hl 0 rfl) ?_
  refine va_get (D := D) (ci := 0) (v := .ref (y 171)) hx hb hts hiX0 hown hK hw.1 199 kg199 rfl 0 (by decide) lf9 (fun _ h9 => h9) rfl dX0_canForge_1 ?_
  refine va_get (D := D) (ci := 2) (v := .ref (y 175)) hx hb hts hiX2 hown hK hw.1 171 kg171 rfl 3 (by decide) lf15 (fun _ h9 => h9) rfl dX0_canForge_4 ?_
  refine lv_iload_n hx hb dX0_canForge_7 rfl (lv_at hl 2 rfl) ?_
  refine miald hx hb hK hw 175 kg175 g2 (by decide) dX0_canForge_8 ?_
  refine lv_iconst (v := 1) hx hb dX0_canForge_9 (by decide) ?_
  refine lv_icmp_eq (tgt := 53) hx hb dX0_canForge_10 (by decide) (fun c1 => ?_) (fun c1 => ?_)
  · have hE := zifT c1 hE
    have k2 : zI 1 1 (r 175 (zn a2)) := zI.eqq c1 (zI.lit (a := 1) (b := 1) (c := 1) (by decide))
    refine lv_iconst (v := 0) hx hb dX0_canForge_53 (by decide) ?_
    exact ziretQ hQ hx hb hr rfl hlocks (0 : Int32) rfl ⟨((zI.lit (a := 0) (b := 0) (c := 0) (by decide)).w (c := 0) (d := 1) (by decide)), (fun h => absurd rfl h), (hE.symm.trans hX), trivial⟩ hw hS dX0_canForge_54
  · have hE := zifF c1 hE
    refine lv_iload_n hx hb dX0_canForge_13 rfl (lv_at hl 3 rfl) ?_
    refine lv_iconst (v := 1) hx hb dX0_canForge_14 (by decide) ?_
    refine lv_icmp_lt (tgt := 53) hx hb dX0_canForge_15 (by decide) (fun c3 => ?_) (fun c3 => ?_)
    · have hE := zifT c3 hE
      have k4 : zI (-2147483648) 0 (a3) := zI.ltU c3 (zI.top _) (zI.lit (a := 1) (b := 1) (c := 1) (by decide)) (by decide)
      refine lv_iconst (v := 0) hx hb dX0_canForge_53 (by decide) ?_
      exact ziretQ hQ hx hb hr rfl hlocks (0 : Int32) rfl ⟨((zI.lit (a := 0) (b := 0) (c := 0) (by decide)).w (c := 0) (d := 1) (by decide)), (fun h => absurd rfl h), (hE.symm.trans hX), trivial⟩ hw hS dX0_canForge_54
    · have hE := zifF c3 hE
      have k5 : zI 1 2147483647 (a3) := zI.leD (zI.nlt c3) (zI.lit (a := 1) (b := 1) (c := 1) (by decide)) (zI.top _) (by decide)
      refine lv_iload_n hx hb dX0_canForge_18 rfl (lv_at hl 3 rfl) ?_
      refine lv_bipush (v := 20) hx hb dX0_canForge_19 (by decide) ?_
      refine lv_aload_n hx hb dX0_canForge_21 rfl (lv_at hl 1 rfl) ?_
      refine va_get (D := D) (ci := 7) (v := .ref (y 9)) hx hb hts hiX8 hown hK hw.1 6 kg6 rfl 2 (by decide) lf24 (fun _ h9 => h9) rfl dX0_canForge_22 ?_
      refine lv_iload_n hx hb dX0_canForge_25 rfl (lv_at hl 2 rfl) ?_
      refine miald hx hb hK hw 9 kg9 g2 (by decide) dX0_canForge_26 ?_
      have k6 : zI 0 20 (r 9 (zn a2)) := (show zI 0 20 (r 9 _) from hJ0.i 9 _)
      refine lv_isub hx hb dX0_canForge_27 ?_
      have k7 : zI 0 20 (20 - (r 9 (zn a2))) := zI.sub (zI.lit (a := 20) (b := 20) (c := 20) (by decide)) k6 (by decide)
      refine lv_icmp_gt (tgt := 53) hx hb dX0_canForge_28 (by decide) (fun c8 => ?_) (fun c8 => ?_)
      · have hE := zifT c8 hE
        refine lv_iconst (v := 0) hx hb dX0_canForge_53 (by decide) ?_
        exact ziretQ hQ hx hb hr rfl hlocks (0 : Int32) rfl ⟨((zI.lit (a := 0) (b := 0) (c := 0) (by decide)).w (c := 0) (d := 1) (by decide)), (fun h => absurd rfl h), (hE.symm.trans hX), trivial⟩ hw hS dX0_canForge_54
      · have hE := zifF c8 hE
        have k9 : zI 1 20 (a3) := zI.leU (zI.nlt c8) k5 k7 (by decide)
        have k10 : zI 1 20 (20 - (r 9 (zn a2))) := zI.leD (zI.nlt c8) k5 k7 (by decide)
        refine lv_iload_n hx hb dX0_canForge_31 rfl (lv_at hl 3 rfl) ?_
        refine lv_aload_n hx hb dX0_canForge_32 rfl (lv_at hl 0 rfl) ?_
        refine va_get (D := D) (ci := 0) (v := .ref (y 171)) hx hb hts hiX0 hown hK hw.1 199 kg199 rfl 0 (by decide) lf9 (fun _ h9 => h9) rfl dX0_canForge_33 ?_
        refine va_get (D := D) (ci := 2) (v := .int (r 171 12)) hx hb hts hiX2 hown hK hw.1 171 kg171 rfl 12 (by decide) lf74 (fun _ h9 => h9) rfl dX0_canForge_36 ?_
        refine lv_imul hx hb dX0_canForge_39 ?_
        refine lv_aload_n hx hb dX0_canForge_40 rfl (lv_at hl 1 rfl) ?_
        refine va_get (D := D) (ci := 7) (v := .ref (y 10)) hx hb hts hiX8 hown hK hw.1 6 kg6 rfl 3 (by decide) lf77 (fun _ h9 => h9) rfl dX0_canForge_41 ?_
        refine lv_iload_n hx hb dX0_canForge_44 rfl (lv_at hl 2 rfl) ?_
        refine miald hx hb hK hw 10 kg10 g2 (by decide) dX0_canForge_45 ?_
        refine lv_icmp_gt (tgt := 53) hx hb dX0_canForge_46 (by decide) (fun c11 => ?_) (fun c11 => ?_)
        · have hE := zifT c11 hE
          refine lv_iconst (v := 0) hx hb dX0_canForge_53 (by decide) ?_
          exact ziretQ hQ hx hb hr rfl hlocks (0 : Int32) rfl ⟨((zI.lit (a := 0) (b := 0) (c := 0) (by decide)).w (c := 0) (d := 1) (by decide)), (fun h => absurd rfl h), (hE.symm.trans hX), trivial⟩ hw hS dX0_canForge_54
        · have hE := zifF c11 hE
          refine lv_iconst (v := 1) hx hb dX0_canForge_49 (by decide) ?_
          refine lv_goto (tgt := 54) hx hb dX0_canForge_50 (by decide) ?_
          exact ziretQ hQ hx hb hr rfl hlocks (1 : Int32) rfl ⟨((zI.lit (a := 1) (b := 1) (c := 1) (by decide)).w (c := 0) (d := 1) (by decide)), (show ¬ (1 : Int32) = 0 → zI 0 20 (r 9 (zn a2) + a3) from (fun _ => kforge (show zI 0 20 (r 9 (zn a2)) from hJ0.i 9 _) (zI.nlt c3) (zI.nlt c8))), (hE.symm.trans hX), trivial⟩ hw hS dX0_canForge_54

noncomputable def Gk_sellN (a2 : Int32) (a3 : Int32) (r : zRr) (q : zRq) : zRr :=
  zlet (α := zRr) (zset r 9 (upd (r 9) (zn a2) ((r 9 (zn a2)) + a3))) <| fun r2 => zlet (α := Int32) (r2 10 (zn a2)) <| fun v3 => zlet (α := Int32) (r2 171 12) <| fun v4 => zlet (α := Int32) (a3 * v4) <| fun v5 => zlet (α := Int32) (v3 - v5) <| fun v6 => zlet (α := zRr) (zset r2 10 (upd (r2 10) (zn a2) v6)) <| fun r7 => r7
set_option maxHeartbeats 4000000 in
set_option maxRecDepth 100000 in
theorem kc_sellN (l : Launch) (D : va_G) (ct : Nat → ClassId) (E : Nat → Nat) (y : Nat → Nat) (a2 : Int32) (a3 : Int32) (r : zRr) (q : zRq) (g2 : zI 0 5 a2) (hJ0 : kJ r) (hEi : kEi E) (x1 : zI 0 20 (r 9 (zn a2) + a3)) : cC l yX0_sell (.code yX0_sell cX0_sell 4 none :: wsL_law0) ({ frames := 1, cells := 0, slots := 0, locals := 80 }) D ct E [.ref (y 199), .ref (y 6), .int a2, .int a3] (kW ct E y r q) (S := zRr) (fun u => none) (fun u => kJ u ∧ zFr [9, 10] r u ∧ u = (Gk_sellN a2 a3 r q) ∧ True) (fun u => kW ct E y u q) := by
  refine cofQ cX0_sell 4 none (by decide) rfl (Nat.le_of_ble_eq_true rfl) ?_
  intro p e s m below meth c A a9 Q ha9 hx hb hr hml hts hown hlocks hname hK hA hZ hN hQ
  have hown : s.vm.findClass RX0 = some m.cls := hown
  have hiX0 : ∀ w ∈ wsX00, w ∈ .code yX0_sell cX0_sell 4 none :: wsL_law0 := fun _ h => ki (zs_wsX00 _ h)
  have hiX2 : ∀ w ∈ wsX20, w ∈ .code yX0_sell cX0_sell 4 none :: wsL_law0 := fun _ h => ki (zs_wsX20 _ h)
  have hiX8 : ∀ w ∈ wsX80, w ∈ .code yX0_sell cX0_sell 4 none :: wsL_law0 := fun _ h => ki (zs_wsX80 _ h)
  have lf9 := hts (.fieldLink RX0 9 "BeardPass$Frontier" "land" "LBeardPass$Land;") (ki (zr6 1 rfl))
  have lf24 := hts (.fieldLink RX0 24 "BeardPass$Standing" "forged" "[I") (ki (zr32 16 rfl))
  have lf74 := hts (.fieldLink RX0 74 "BeardPass$Land" "inch" "I") (ki (zr37 8 rfl))
  have lf77 := hts (.fieldLink RX0 77 "BeardPass$Standing" "purses" "[I") (ki (zr37 9 rfl))
  obtain ⟨X, hX⟩ : ∃ X, X = (Gk_sellN a2 a3 r q) := ⟨_, rfl⟩
  intro H locs hw hS ls hl
  have hl : lv_has ls 4 [(0, .ref (y 199)), (1, .ref (y 6)), (2, .int a2), (3, .int a3)] := hl
  have hE := hX
  unfold Gk_sellN at hE
  refine lv_aload_n hx hb dX0_sell_0 rfl (lv_at hl 1 rfl) ?_
  refine va_get (D := D) (ci := 7) (v := .ref (y 9)) hx hb hts hiX8 hown hK hw.1 6 kg6 rfl 2 (by decide) lf24 (fun _ h9 => h9) rfl dX0_sell_1 ?_
  refine lv_iload_n hx hb dX0_sell_4 rfl (lv_at hl 2 rfl) ?_
  refine lv_dup2_11 hx hb dX0_sell_5 rfl rfl ?_
  refine miald hx hb hK hw 9 kg9 g2 (by decide) dX0_sell_6 ?_
  have k1 : zI 0 20 (r 9 (zn a2)) := (show zI 0 20 (r 9 _) from hJ0.i 9 _)
  refine lv_iload_n hx hb dX0_sell_7 rfl (lv_at hl 3 rfl) ?_
  refine lv_iadd hx hb dX0_sell_8 ?_
  refine miast hx hb hK hw hS 9 kg9 g2 (by decide) dX0_sell_9 (kW ct E y (zset r 9 (upd (r 9) (zn a2) ((r 9 (zn a2)) + a3))) q) ks9 (fun H locs hw hS => ?_)
  refine cmgen (P := fun x => kJ x ∧ zFr [9, 10] r x) hw ⟨hJ0.set rfl x1, (zFr.refl).set rfl⟩ (fun r2 er2 hw pr2 => ?_)
  have hE := zletE er2 hE
  refine lv_aload_n hx hb dX0_sell_10 rfl (lv_at hl 1 rfl) ?_
  refine va_get (D := D) (ci := 7) (v := .ref (y 10)) hx hb hts hiX8 hown hK hw.1 6 kg6 rfl 3 (by decide) lf77 (fun _ h9 => h9) rfl dX0_sell_11 ?_
  refine lv_iload_n hx hb dX0_sell_14 rfl (lv_at hl 2 rfl) ?_
  refine lv_dup2_11 hx hb dX0_sell_15 rfl rfl ?_
  refine miald hx hb hK hw 10 kg10 g2 (by decide) dX0_sell_16 (zgenE (zI.top _) (fun v3 ev3 _ => ?_))
  have hE := zletE ev3 hE
  refine lv_iload_n hx hb dX0_sell_17 rfl (lv_at hl 3 rfl) ?_
  refine lv_aload_n hx hb dX0_sell_18 rfl (lv_at hl 0 rfl) ?_
  refine va_get (D := D) (ci := 0) (v := .ref (y 171)) hx hb hts hiX0 hown hK hw.1 199 kg199 rfl 0 (by decide) lf9 (fun _ h9 => h9) rfl dX0_sell_19 ?_
  refine va_get (D := D) (ci := 2) (v := .int (r2 171 12)) hx hb hts hiX2 hown hK hw.1 171 kg171 rfl 12 (by decide) lf74 (fun _ h9 => h9) rfl dX0_sell_22 (zgenE (zI.top _) (fun v4 ev4 _ => ?_))
  have hE := zletE ev4 hE
  refine lv_imul hx hb dX0_sell_25 (zgenE (zI.top _) (fun v5 ev5 _ => ?_))
  have hE := zletE ev5 hE
  refine lv_isub hx hb dX0_sell_26 (zgenE (zI.top _) (fun v6 ev6 _ => ?_))
  have hE := zletE ev6 hE
  refine miast hx hb hK hw hS 10 kg10 g2 (by decide) dX0_sell_27 (kW ct E y (zset r2 10 (upd (r2 10) (zn a2) v6)) q) ks10 (fun H locs hw hS => ?_)
  refine cmgen (P := fun x => kJ x ∧ zFr [9, 10] r x) hw ⟨pr2.1.set rfl (zI.top _), pr2.2.set rfl⟩ (fun r7 er7 hw pr7 => ?_)
  have hE := zletE er7 hE
  exact zvretQ hQ hx hb hr hlocks r7 rfl ⟨pr7.1, pr7.2, (hE.symm.trans hX), trivial⟩ hw hS dX0_sell_28

set_option maxHeartbeats 4000000 in
set_option maxRecDepth 100000 in
theorem kc_passesAloneT (l : Launch) (D : va_G) (ct : Nat → ClassId) (E : Nat → Nat) (y : Nat → Nat) (a2 : Int32) (a3 : Int32) (a4 : Int32) (r : zRr) (q : zRq) (g2 : zI 0 5 a2) (g3 : zI 0 5 a3) (hJ0 : kJ r) (hEi : kEi E) : cC l yX0_passesAlone (.code yX0_passesAlone cX0_passesAlone 8 (some .boolean) :: wsL_law0) ({ frames := 3, cells := 0, slots := 0, locals := 160 }) D ct E [.ref (y 199), .ref (y 12), .int a2, .int a3, .int a4] (kW ct E y r q) (S := Int32 × zRr) (fun u => some (.int u.1)) (fun u => zI 0 1 u.1 ∧ kJ u.2 ∧ zFr [182] r u.2 ∧ True) (fun u => kW ct E y u.2 q) := by
  refine cofQ cX0_passesAlone 8 (some .boolean) (by decide) rfl (Nat.le_of_ble_eq_true rfl) ?_
  intro p e s m below meth c A a9 Q ha9 hx hb hr hml hts hown hlocks hname hK hA hZ hN hQ
  have hown : s.vm.findClass RX0 = some m.cls := hown
  have hiX0 : ∀ w ∈ wsX00, w ∈ .code yX0_passesAlone cX0_passesAlone 8 (some .boolean) :: wsL_law0 := fun _ h => ki (zs_wsX00 _ h)
  have hiX2 : ∀ w ∈ wsX20, w ∈ .code yX0_passesAlone cX0_passesAlone 8 (some .boolean) :: wsL_law0 := fun _ h => ki (zs_wsX20 _ h)
  have hiX8 : ∀ w ∈ wsX80, w ∈ .code yX0_passesAlone cX0_passesAlone 8 (some .boolean) :: wsL_law0 := fun _ h => ki (zs_wsX80 _ h)
  have lf9 := hts (.fieldLink RX0 9 "BeardPass$Frontier" "land" "LBeardPass$Land;") (ki (zr6 1 rfl))
  have lf15 := hts (.fieldLink RX0 15 "BeardPass$Land" "kinds" "[I") (ki (zr32 5 rfl))
  have lf21 := hts (.fieldLink RX0 21 "BeardPass$Land" "asks" "[I") (ki (zr32 15 rfl))
  have lf24 := hts (.fieldLink RX0 24 "BeardPass$Standing" "forged" "[I") (ki (zr32 16 rfl))
  have lf29 := hts (.fieldLink RX0 29 "BeardPass$Land" "law" "LBeardPass$Law;") (ki (zr32 17 rfl))
  have lf33 := hts (.fieldLink RX0 33 "BeardPass$Standing" "beards" "[I") (ki (zr32 18 rfl))
  have lf36 := hts (.fieldLink RX0 36 "BeardPass$Standing" "weeks" "I") (ki (zr32 19 rfl))
  have cut74 : ∀ (w74_s0 : Int32) (w74_s1 : Int32) (w74_s2 : Int32) (hw74_s1 : zI 0 20 w74_s1), zKf p l e ({ frames := 3, cells := 0, slots := 0, locals := 160 }) s m a9 below meth c Q D A 74 8 [.int w74_s0, .int w74_s1, .int w74_s2, .ref (y 180)] (kW ct E y r q) [(1, .ref (y 12))] := by
    intro w74_s0 w74_s1 w74_s2 hw74_s1 H locs ls hw hS hl
    refine lv_aload_n hx hb dX0_passesAlone_74 rfl (lv_at hl 0 rfl) ?_
    refine va_get (D := D) (ci := 7) (v := .int (r 12 5)) hx hb hts hiX8 hown hK hw.1 12 kg12 rfl 5 (by decide) lf36 (fun _ h9 => h9) rfl dX0_passesAlone_75 (zgen (zI.top _) (fun v1 _ => ?_))
    refine kcallV (As := [.int w74_s2, .int w74_s1, .int w74_s0, .int v1]) (rest := []) ⟨hx, hb, hml, hown, hts⟩ (kc_passes l D ct E y w74_s2 w74_s1 w74_s0 v1 r q hJ0 hEi) (wqX0_40_kc_passes hts ⟨Nat.le_of_ble_eq_true rfl, Nat.le_of_ble_eq_true rfl⟩) hw hS hA hK hZ hN 4 180 rfl kg180 rfl hl.1 rfl (Nat.le_of_ble_eq_true rfl) dX0_passesAlone_78 81 rfl (fun u2 H locs pu2 hw hS => ?_)
    obtain ⟨v3, r4⟩ := u2
    have hv3 : zI 0 1 v3 := pu2.1
    have ju2 : kJ r4 := pu2.2.1
    have fu2 : zFr [182] r r4 := pu2.2.2.1
    have xu2 : (v3, r4) = (Gk_passes w74_s2 w74_s1 w74_s0 v1 r q) := pu2.2.2.2.1
    have hw : zPD D A (kW ct E y r4 q) H := hw
    refine zfr 81 [.int v3] rfl rfl ?_
    exact ziretQ hQ hx hb hr (hv3.rn) hlocks (v3, r4) rfl ⟨hv3, ju2, ((zFr.refl).tr fu2 rfl), trivial⟩ hw hS dX0_passesAlone_81
  intro H locs hw hS ls hl
  have hl : lv_has ls 8 [(0, .ref (y 199)), (1, .ref (y 12)), (2, .int a2), (3, .int a3), (4, .int a4)] := hl
  refine lv_aload_n hx hb dX0_passesAlone_0 rfl (lv_at hl 0 rfl) ?_
  refine va_get (D := D) (ci := 0) (v := .ref (y 171)) hx hb hts hiX0 hown hK hw.1 199 kg199 rfl 0 (by decide) lf9 (fun _ h9 => h9) rfl dX0_passesAlone_1 ?_
  refine va_get (D := D) (ci := 2) (v := .ref (y 175)) hx hb hts hiX2 hown hK hw.1 171 kg171 rfl 3 (by decide) lf15 (fun _ h9 => h9) rfl dX0_passesAlone_4 ?_
  refine lv_iload_n hx hb dX0_passesAlone_7 rfl (lv_at hl 2 rfl) ?_
  refine miald hx hb hK hw 175 kg175 g2 (by decide) dX0_passesAlone_8 (zgen (zI.top _) (fun v5 _ => ?_))
  refine lv_istore (lv' := [(5, .int v5), (0, .ref (y 199)), (1, .ref (y 12)), (2, .int a2), (3, .int a3), (4, .int a4)]) hx hb dX0_passesAlone_9 hl (by decide) rfl (fun ls hl => ?_)
  refine lv_iload hx hb dX0_passesAlone_11 (lv_at hl 0 rfl) ?_
  refine lv_iconst (v := 2) hx hb dX0_passesAlone_13 (by decide) ?_
  refine lv_icmp_ne (tgt := 19) hx hb dX0_passesAlone_14 (by decide) (fun c6 => ?_) (fun c6 => ?_)
  · refine lv_aload_n hx hb dX0_passesAlone_19 rfl (lv_at hl 1 rfl) ?_
    refine va_get (D := D) (ci := 0) (v := .ref (y 171)) hx hb hts hiX0 hown hK hw.1 199 kg199 rfl 0 (by decide) lf9 (fun _ h9 => h9) rfl dX0_passesAlone_20 ?_
    refine va_get (D := D) (ci := 2) (v := .ref (y 172)) hx hb hts hiX2 hown hK hw.1 171 kg171 rfl 0 (by decide) lf21 (fun _ h9 => h9) rfl dX0_passesAlone_23 ?_
    refine lv_iload_n hx hb dX0_passesAlone_26 rfl (lv_at hl 4 rfl) ?_
    refine miald hx hb hK hw 172 kg172 g3 (by decide) dX0_passesAlone_27 (zgen (zI.top _) (fun v7 _ => ?_))
    refine lv_iload hx hb dX0_passesAlone_28 (lv_at hl 5 rfl) ?_
    refine lv_iadd hx hb dX0_passesAlone_30 (zgen (zI.top _) (fun v8 _ => ?_))
    refine lv_istore (lv' := [(6, .int v8), (5, .int v5), (0, .ref (y 199)), (1, .ref (y 12)), (2, .int a2), (3, .int a3), (4, .int a4)]) hx hb dX0_passesAlone_31 hl (by decide) rfl (fun ls hl => ?_)
    refine lv_aload_n hx hb dX0_passesAlone_33 rfl (lv_at hl 3 rfl) ?_
    refine va_get (D := D) (ci := 7) (v := .ref (y 15)) hx hb hts hiX8 hown hK hw.1 12 kg12 rfl 2 (by decide) lf24 (fun _ h9 => h9) rfl dX0_passesAlone_34 ?_
    refine lv_iload_n hx hb dX0_passesAlone_37 rfl (lv_at hl 4 rfl) ?_
    refine miald hx hb hK hw 15 kg15 g2 (by decide) dX0_passesAlone_38 (zgen (lo := 0) (hi := 20) ((show zI 0 20 (r 15 _) from hJ0.i 15 _)) (fun v9 hv9 => ?_))
    refine lv_istore (lv' := [(7, .int v9), (6, .int v8), (5, .int v5), (0, .ref (y 199)), (1, .ref (y 12)), (2, .int a2), (3, .int a3), (4, .int a4)]) hx hb dX0_passesAlone_39 hl (by decide) rfl (fun ls hl => ?_)
    refine lv_aload_n hx hb dX0_passesAlone_41 rfl (lv_at hl 3 rfl) ?_
    refine va_get (D := D) (ci := 0) (v := .ref (y 171)) hx hb hts hiX0 hown hK hw.1 199 kg199 rfl 0 (by decide) lf9 (fun _ h9 => h9) rfl dX0_passesAlone_42 ?_
    refine va_get (D := D) (ci := 2) (v := .ref (y 180)) hx hb hts hiX2 hown hK hw.1 171 kg171 rfl 8 (by decide) lf29 (fun _ h9 => h9) rfl dX0_passesAlone_45 ?_
    refine lv_aload_n hx hb dX0_passesAlone_48 rfl (lv_at hl 4 rfl) ?_
    refine va_get (D := D) (ci := 7) (v := .ref (y 14)) hx hb hts hiX8 hown hK hw.1 12 kg12 rfl 1 (by decide) lf33 (fun _ h9 => h9) rfl dX0_passesAlone_49 ?_
    refine lv_iload_n hx hb dX0_passesAlone_52 rfl (lv_at hl 5 rfl) ?_
    refine miald hx hb hK hw 14 kg14 g2 (by decide) dX0_passesAlone_53 (zgen (zI.top _) (fun v10 _ => ?_))
    refine lv_iload hx hb dX0_passesAlone_54 (lv_at hl 0 rfl) ?_
    refine lv_iadd hx hb dX0_passesAlone_56 (zgen (zI.top _) (fun v11 _ => ?_))
    refine lv_iload hx hb dX0_passesAlone_57 (lv_at hl 0 rfl) ?_
    refine lv_iload hx hb dX0_passesAlone_59 (lv_at hl 2 rfl) ?_
    refine lv_iconst (v := 3) hx hb dX0_passesAlone_61 (by decide) ?_
    refine lv_icmp_ne (tgt := 72) hx hb dX0_passesAlone_62 (by decide) (fun c12 => ?_) (fun c12 => ?_)
    · refine lv_iload hx hb dX0_passesAlone_72 (lv_at hl 1 rfl) ?_
      exact cut74 v8 v9 v11 hv9 H locs ls hw hS (lv_sub hl [4] rfl)
    · have k13 : zI 3 3 (v5) := zI.eqq c12 (zI.lit (a := 3) (b := 3) (c := 3) (by decide))
      refine lv_iload hx hb dX0_passesAlone_65 (lv_at hl 1 rfl) ?_
      refine lv_iconst (v := 2) hx hb dX0_passesAlone_67 (by decide) ?_
      refine lv_idiv hx hb dX0_passesAlone_68 (by decide) (zgen (zI.top _) (fun v14 _ => ?_))
      refine lv_goto (tgt := 74) hx hb dX0_passesAlone_69 (by decide) ?_
      exact cut74 v14 v9 v11 hv9 H locs ls hw hS (lv_sub hl [4] rfl)
  · have k15 : zI 2 2 (v5) := zI.eqq c6 (zI.lit (a := 2) (b := 2) (c := 2) (by decide))
    refine lv_iconst (v := 1) hx hb dX0_passesAlone_17 (by decide) ?_
    exact ziretQ hQ hx hb hr rfl hlocks ((1 : Int32), r) rfl ⟨((zI.lit (a := 1) (b := 1) (c := 1) (by decide)).w (c := 0) (d := 1) (by decide)), hJ0, (zFr.refl), trivial⟩ hw hS dX0_passesAlone_18

set_option maxHeartbeats 4000000 in
set_option maxRecDepth 100000 in
theorem kc_opensT (l : Launch) (D : va_G) (ct : Nat → ClassId) (E : Nat → Nat) (y : Nat → Nat) (a2 : Int32) (a3 : Int32) (r : zRr) (q : zRq) (g2 : zI 0 5 a2) (hJ0 : kJ r) (hEi : kEi E) : cC l yX0_opens (.code yX0_opens cX0_opens 6 (some .int) :: wsL_law0) ({ frames := 4, cells := 0, slots := 0, locals := 200 }) D ct E [.ref (y 199), .ref (y 12), .int a2, .int a3] (kW ct E y r q) (S := Int32 × zRr) (fun u => some (.int u.1)) (fun u => zI (-2147483648) 2147483647 u.1 ∧ kJ u.2 ∧ zFr [182] r u.2 ∧ True) (fun u => kW ct E y u.2 q) := by
  refine cofQ cX0_opens 6 (some .int) (by decide) rfl (Nat.le_of_ble_eq_true rfl) ?_
  intro p e s m below meth c A a9 Q ha9 hx hb hr hml hts hown hlocks hname hK hA hZ hN hQ
  have hown : s.vm.findClass RX0 = some m.cls := hown
  have hiX0 : ∀ w ∈ wsX00, w ∈ .code yX0_opens cX0_opens 6 (some .int) :: wsL_law0 := fun _ h => ki (zs_wsX00 _ h)
  have hiX2 : ∀ w ∈ wsX20, w ∈ .code yX0_opens cX0_opens 6 (some .int) :: wsL_law0 := fun _ h => ki (zs_wsX20 _ h)
  have lf9 := hts (.fieldLink RX0 9 "BeardPass$Frontier" "land" "LBeardPass$Land;") (ki (zr6 1 rfl))
  have lf46 := hts (.fieldLink RX0 46 "BeardPass$Land" "towns" "I") (ki (zr42 19 rfl))
  have cut6 : ∀ (n : Nat) (w6_4 : Int32) (w6_5 : Int32) (rw6 : zRr) (hw6_2 : zI 0 5 a2) (hw6_4 : zI 0 63 w6_4) (hw6_5 : zI 0 6 w6_5) (jw6 : kJ rw6) (fw6 : zFr [182] r rw6), 6 - w6_5.toInt < (n : Int) → zKf p l e ({ frames := 4, cells := 0, slots := 0, locals := 200 }) s m a9 below meth c Q D A 6 6 [] (kW ct E y rw6 q) [(0, .ref (y 199)), (1, .ref (y 12)), (2, .int a2), (3, .int a3), (4, .int w6_4), (5, .int w6_5)] := by
    intro n
    induction n with
    | zero => intro w6_4 w6_5 rw6 hw6_2 hw6_4 hw6_5 jw6 fw6 hm6; exact zI.no hw6_5 (by decide) hm6
    | succ n ih6 =>
      intro w6_4 w6_5 rw6 hw6_2 hw6_4 hw6_5 jw6 fw6 hm6
      have cut39 : ∀ (w39_4 : Int32) (rw39 : zRr) (hw39_2 : zI 0 5 a2) (hw39_4 : zI 0 63 w39_4) (hw39_5 : zI 0 5 w6_5) (jw39 : kJ rw39) (fw39 : zFr [182] r rw39), zKf p l e ({ frames := 4, cells := 0, slots := 0, locals := 200 }) s m a9 below meth c Q D A 39 6 [] (kW ct E y rw39 q) [(0, .ref (y 199)), (1, .ref (y 12)), (2, .int a2), (3, .int a3), (4, .int w39_4), (5, .int w6_5)] := by
        intro w39_4 rw39 hw39_2 hw39_4 hw39_5 jw39 fw39 H locs ls hw hS hl
        refine lv_iinc (v := w6_5 + 1) (lv' := [(5, .int (w6_5 + 1)), (0, .ref (y 199)), (1, .ref (y 12)), (2, .int a2), (3, .int a3), (4, .int w39_4)]) hx hb dX0_opens_39 hl (k := 5) rfl (rfl) (by decide) rfl (fun ls hl => ?_)
        have k1 : zI 1 6 (w6_5 + 1) := zI.add hw39_5 (zI.lit (a := 1) (b := 1) (by decide)) (by decide)
        refine lv_goto (tgt := 6) hx hb dX0_opens_42 (by decide) ?_
        exact ih6 w39_4 (w6_5 + 1) rw39 hw39_2 hw39_4 (k1.w (c := 0) (d := 6) (by decide)) jw39 fw39 (zI.up hw39_5 (by decide) hm6) H locs ls hw hS (lv_sub hl [1, 2, 3, 4, 5, 0] rfl)
      intro H locs ls hw hS hl
      refine lv_iload hx hb dX0_opens_6 (lv_at hl 5 rfl) ?_
      refine lv_aload_n hx hb dX0_opens_8 rfl (lv_at hl 0 rfl) ?_
      refine va_get (D := D) (ci := 0) (v := .ref (y 171)) hx hb hts hiX0 hown hK hw.1 199 kg199 rfl 0 (by decide) lf9 (fun _ h9 => h9) rfl dX0_opens_9 ?_
      refine va_get (D := D) (ci := 2) (v := .int (rw6 171 9)) hx hb hts hiX2 hown hK hw.1 171 kg171 rfl 9 (by decide) lf46 (fun _ h9 => h9) rfl dX0_opens_12 (zgen (lo := 0) (hi := 6) ((show zI 0 6 (rw6 171 9) from jw6.i 171 9)) (fun v2 hv2 => ?_))
      refine lv_icmp_ge (tgt := 45) hx hb dX0_opens_15 (by decide) (fun c3 => ?_) (fun c3 => ?_)
      · refine lv_iload hx hb dX0_opens_45 (lv_at hl 4 rfl) ?_
        exact ziretQ hQ hx hb hr rfl hlocks (w6_4, rw6) rfl ⟨(zI.top _), jw6, fw6, trivial⟩ hw hS dX0_opens_47
      · have k4 : zI 0 5 (w6_5) := zI.ltU (zI.nle c3) hw6_5 hv2 (by decide)
        have k5 : zI 1 6 (v2) := zI.ltD (zI.nle c3) hw6_5 hv2 (by decide)
        refine lv_aload_n hx hb dX0_opens_18 rfl (lv_at hl 0 rfl) ?_
        refine lv_aload_n hx hb dX0_opens_19 rfl (lv_at hl 1 rfl) ?_
        refine lv_iload_n hx hb dX0_opens_20 rfl (lv_at hl 2 rfl) ?_
        refine lv_iload hx hb dX0_opens_21 (lv_at hl 5 rfl) ?_
        refine lv_iload_n hx hb dX0_opens_23 rfl (lv_at hl 3 rfl) ?_
        refine kcallV (As := [.ref (y 12), .int a2, .int w6_5, .int a3]) (rest := []) ⟨hx, hb, hml, hown, hts⟩ (kc_passesAloneT l D ct E y a2 w6_5 a3 rw6 q hw6_2 k4 jw6 hEi) (wqX0_49_kc_passesAloneT hts ⟨Nat.le_of_ble_eq_true rfl, Nat.le_of_ble_eq_true rfl⟩) hw hS hA hK hZ hN 0 199 rfl kg199 rfl hl.1 rfl (Nat.le_of_ble_eq_true rfl) dX0_opens_24 27 rfl (fun u6 H locs pu6 hw hS => ?_)
        obtain ⟨v7, r8⟩ := u6
        have hv7 : zI 0 1 v7 := pu6.1
        have ju6 : kJ r8 := pu6.2.1
        have fu6 : zFr [182] rw6 r8 := pu6.2.2.1
        have hw : zPD D A (kW ct E y r8 q) H := hw
        refine zfr 27 [.int v7] rfl rfl ?_
        refine lv_if_eq (tgt := 39) hx hb dX0_opens_27 (by decide) (fun c9 => ?_) (fun c9 => ?_)
        · have k10 : zI 0 0 (v7) := zI.eqq c9 (zI.lit (a := 0) (b := 0) (c := 0) (by decide))
          exact cut39 w6_4 r8 hw6_2 hw6_4 k4 ju6 (fw6.tr fu6 rfl) H locs ls hw hS (lv_sub hl [0, 1, 2, 3, 4, 5] rfl)
        · have k11 : zI 1 1 (v7) := zI.neD c9 hv7 (zI.lit (a := 0) (b := 0) (c := 0) (by decide)) (by decide)
          refine lv_iload hx hb dX0_opens_30 (lv_at hl 4 rfl) ?_
          refine lv_iconst (v := 1) hx hb dX0_opens_32 (by decide) ?_
          refine lv_iload hx hb dX0_opens_33 (lv_at hl 5 rfl) ?_
          refine lv_ishl hx hb dX0_opens_35 (zgen (lo := 1) (hi := 32) (zI.shl k4 5 (by decide)) (fun v12 hv12 => ?_))
          refine lv_ior hx hb dX0_opens_36 (zgen (lo := 0) (hi := 63) (zI.or 6 hw6_4 hv12 (by decide)) (fun v13 hv13 => ?_))
          refine lv_istore (lv' := [(4, .int v13), (0, .ref (y 199)), (1, .ref (y 12)), (2, .int a2), (3, .int a3), (5, .int w6_5)]) hx hb dX0_opens_37 hl (by decide) rfl (fun ls hl => ?_)
          exact cut39 v13 r8 hw6_2 hv13 k4 ju6 (fw6.tr fu6 rfl) H locs ls hw hS (lv_sub hl [1, 2, 3, 4, 0, 5] rfl)
  intro H locs hw hS ls hl
  have hl : lv_has ls 6 [(0, .ref (y 199)), (1, .ref (y 12)), (2, .int a2), (3, .int a3)] := hl
  refine lv_iconst (v := 0) hx hb dX0_opens_0 (by decide) ?_
  refine lv_istore (lv' := [(4, .int 0), (0, .ref (y 199)), (1, .ref (y 12)), (2, .int a2), (3, .int a3)]) hx hb dX0_opens_1 hl (by decide) rfl (fun ls hl => ?_)
  refine lv_iconst (v := 0) hx hb dX0_opens_3 (by decide) ?_
  refine lv_istore (lv' := [(5, .int 0), (4, .int 0), (0, .ref (y 199)), (1, .ref (y 12)), (2, .int a2), (3, .int a3)]) hx hb dX0_opens_4 hl (by decide) rfl (fun ls hl => ?_)
  exact cut6 7 0 0 r g2 ((zI.lit (a := 0) (b := 0) (c := 0) (by decide)).w (c := 0) (d := 63) (by decide)) ((zI.lit (a := 0) (b := 0) (c := 0) (by decide)).w (c := 0) (d := 6) (by decide)) hJ0 (zFr.refl) (zI.m0 (zI.lit (a := 0) (b := 0) (c := 0) (by decide)) (by decide)) H locs ls hw hS (lv_sub hl [2, 3, 4, 5, 1, 0] rfl)

set_option maxHeartbeats 4000000 in
set_option maxRecDepth 100000 in
theorem kc_passWeekT (l : Launch) (D : va_G) (ct : Nat → ClassId) (E : Nat → Nat) (y : Nat → Nat) (r : zRr) (q : zRq) (hJ0 : kJ r) (hEi : kEi E) : cC l yX0_passWeek (.code yX0_passWeek cX0_passWeek 4 none :: wsL_law0) ({ frames := 2, cells := 0, slots := 0, locals := 120 }) D ct E [.ref (y 199), .ref (y 12)] (kW ct E y r q) (S := zRr) (fun u => none) (fun u => kJ u ∧ zFt r u ∧ True) (fun u => kW ct E y u q) := by
  refine cofQ cX0_passWeek 4 none (by decide) rfl (Nat.le_of_ble_eq_true rfl) ?_
  intro p e s m below meth c A a9 Q ha9 hx hb hr hml hts hown hlocks hname hK hA hZ hN hQ
  have hown : s.vm.findClass RX0 = some m.cls := hown
  have hiX0 : ∀ w ∈ wsX00, w ∈ .code yX0_passWeek cX0_passWeek 4 none :: wsL_law0 := fun _ h => ki (zs_wsX00 _ h)
  have hiX2 : ∀ w ∈ wsX20, w ∈ .code yX0_passWeek cX0_passWeek 4 none :: wsL_law0 := fun _ h => ki (zs_wsX20 _ h)
  have hiX8 : ∀ w ∈ wsX80, w ∈ .code yX0_passWeek cX0_passWeek 4 none :: wsL_law0 := fun _ h => ki (zs_wsX80 _ h)
  have lf9 := hts (.fieldLink RX0 9 "BeardPass$Frontier" "land" "LBeardPass$Land;") (ki (zr6 1 rfl))
  have lf15 := hts (.fieldLink RX0 15 "BeardPass$Land" "kinds" "[I") (ki (zr32 5 rfl))
  have lf33 := hts (.fieldLink RX0 33 "BeardPass$Standing" "beards" "[I") (ki (zr32 18 rfl))
  have lf36 := hts (.fieldLink RX0 36 "BeardPass$Standing" "weeks" "I") (ki (zr32 19 rfl))
  have lf53 := hts (.fieldLink RX0 53 "BeardPass$Land" "persons" "I") (ki (zr32 0 rfl))
  have lf80 := hts (.fieldLink RX0 80 "BeardPass$Land" "grows" "I") (ki (zr39 3 rfl))
  have cut12 : ∀ (n : Nat) (w12_2 : Int32) (rw12 : zRr) (hw12_2 : zI 0 6 w12_2) (jw12 : kJ rw12) (fw12 : zFt r rw12), 6 - w12_2.toInt < (n : Int) → zKf p l e ({ frames := 2, cells := 0, slots := 0, locals := 120 }) s m a9 below meth c Q D A 12 4 [] (kW ct E y rw12 q) [(0, .ref (y 199)), (1, .ref (y 12)), (2, .int w12_2)] := by
    intro n
    induction n with
    | zero => intro w12_2 rw12 hw12_2 jw12 fw12 hm12; exact zI.no hw12_2 (by decide) hm12
    | succ n ih12 =>
      intro w12_2 rw12 hw12_2 jw12 fw12 hm12
      have cut63 : ∀ (rw63 : zRr) (hw63_2 : zI 0 5 w12_2) (jw63 : kJ rw63) (fw63 : zFt r rw63), zKf p l e ({ frames := 2, cells := 0, slots := 0, locals := 120 }) s m a9 below meth c Q D A 63 4 [] (kW ct E y rw63 q) [(0, .ref (y 199)), (1, .ref (y 12)), (2, .int w12_2)] := by
        intro rw63 hw63_2 jw63 fw63 H locs ls hw hS hl
        refine lv_iinc (v := w12_2 + 1) (lv' := [(2, .int (w12_2 + 1)), (0, .ref (y 199)), (1, .ref (y 12))]) hx hb dX0_passWeek_63 hl (k := 2) rfl (rfl) (by decide) rfl (fun ls hl => ?_)
        have k1 : zI 1 6 (w12_2 + 1) := zI.add hw63_2 (zI.lit (a := 1) (b := 1) (by decide)) (by decide)
        refine lv_goto (tgt := 12) hx hb dX0_passWeek_66 (by decide) ?_
        exact ih12 (w12_2 + 1) rw63 (k1.w (c := 0) (d := 6) (by decide)) jw63 fw63 (zI.up hw63_2 (by decide) hm12) H locs ls hw hS (lv_sub hl [1, 2, 0] rfl)
      intro H locs ls hw hS hl
      refine lv_iload_n hx hb dX0_passWeek_12 rfl (lv_at hl 2 rfl) ?_
      refine lv_aload_n hx hb dX0_passWeek_13 rfl (lv_at hl 0 rfl) ?_
      refine va_get (D := D) (ci := 0) (v := .ref (y 171)) hx hb hts hiX0 hown hK hw.1 199 kg199 rfl 0 (by decide) lf9 (fun _ h9 => h9) rfl dX0_passWeek_14 ?_
      refine va_get (D := D) (ci := 2) (v := .int (rw12 171 10)) hx hb hts hiX2 hown hK hw.1 171 kg171 rfl 10 (by decide) lf53 (fun _ h9 => h9) rfl dX0_passWeek_17 (zgen (lo := 0) (hi := 6) ((show zI 0 6 (rw12 171 10) from jw12.i 171 10)) (fun v2 hv2 => ?_))
      refine lv_icmp_ge (tgt := 69) hx hb dX0_passWeek_20 (by decide) (fun c3 => ?_) (fun c3 => ?_)
      · exact zvretQ hQ hx hb hr hlocks rw12 rfl ⟨jw12, fw12, trivial⟩ hw hS dX0_passWeek_69
      · have k4 : zI 0 5 (w12_2) := zI.ltU (zI.nle c3) hw12_2 hv2 (by decide)
        have k5 : zI 1 6 (v2) := zI.ltD (zI.nle c3) hw12_2 hv2 (by decide)
        refine lv_aload_n hx hb dX0_passWeek_23 rfl (lv_at hl 0 rfl) ?_
        refine va_get (D := D) (ci := 0) (v := .ref (y 171)) hx hb hts hiX0 hown hK hw.1 199 kg199 rfl 0 (by decide) lf9 (fun _ h9 => h9) rfl dX0_passWeek_24 ?_
        refine va_get (D := D) (ci := 2) (v := .ref (y 175)) hx hb hts hiX2 hown hK hw.1 171 kg171 rfl 3 (by decide) lf15 (fun _ h9 => h9) rfl dX0_passWeek_27 ?_
        refine lv_iload_n hx hb dX0_passWeek_30 rfl (lv_at hl 2 rfl) ?_
        refine miald hx hb hK hw 175 kg175 k4 (by decide) dX0_passWeek_31 (zgen (zI.top _) (fun v6 _ => ?_))
        refine lv_iconst (v := 1) hx hb dX0_passWeek_32 (by decide) ?_
        refine lv_icmp_eq (tgt := 63) hx hb dX0_passWeek_33 (by decide) (fun c7 => ?_) (fun c7 => ?_)
        · have k8 : zI 1 1 (v6) := zI.eqq c7 (zI.lit (a := 1) (b := 1) (c := 1) (by decide))
          exact cut63 rw12 k4 jw12 fw12 H locs ls hw hS (lv_sub hl [0, 1, 2] rfl)
        · refine lv_aload_n hx hb dX0_passWeek_36 rfl (lv_at hl 1 rfl) ?_
          refine va_get (D := D) (ci := 7) (v := .ref (y 14)) hx hb hts hiX8 hown hK hw.1 12 kg12 rfl 1 (by decide) lf33 (fun _ h9 => h9) rfl dX0_passWeek_37 ?_
          refine lv_iload_n hx hb dX0_passWeek_40 rfl (lv_at hl 2 rfl) ?_
          refine miald hx hb hK hw 14 kg14 k4 (by decide) dX0_passWeek_41 (zgen (zI.top _) (fun v9 _ => ?_))
          refine lv_aload_n hx hb dX0_passWeek_42 rfl (lv_at hl 0 rfl) ?_
          refine va_get (D := D) (ci := 0) (v := .ref (y 171)) hx hb hts hiX0 hown hK hw.1 199 kg199 rfl 0 (by decide) lf9 (fun _ h9 => h9) rfl dX0_passWeek_43 ?_
          refine va_get (D := D) (ci := 2) (v := .int (rw12 171 11)) hx hb hts hiX2 hown hK hw.1 171 kg171 rfl 11 (by decide) lf80 (fun _ h9 => h9) rfl dX0_passWeek_46 (zgen (zI.top _) (fun v10 _ => ?_))
          refine lv_iadd hx hb dX0_passWeek_49 (zgen (zI.top _) (fun v11 _ => ?_))
          refine lv_istore_n (lv' := [(3, .int v11), (0, .ref (y 199)), (1, .ref (y 12)), (2, .int w12_2)]) hx hb dX0_passWeek_50 rfl hl (by decide) rfl (fun ls hl => ?_)
          refine lv_aload_n hx hb dX0_passWeek_51 rfl (lv_at hl 2 rfl) ?_
          refine va_get (D := D) (ci := 7) (v := .ref (y 14)) hx hb hts hiX8 hown hK hw.1 12 kg12 rfl 1 (by decide) lf33 (fun _ h9 => h9) rfl dX0_passWeek_52 ?_
          refine lv_iload_n hx hb dX0_passWeek_55 rfl (lv_at hl 3 rfl) ?_
          refine lv_iload_n hx hb dX0_passWeek_56 rfl (lv_at hl 0 rfl) ?_
          refine lv_bipush (v := 60) hx hb dX0_passWeek_57 (by decide) ?_
          refine va_mmin hx hb (hml.trans hl.1.symm) hown (hts (.methodLink RX0 83 Lib.Math.min.name) (ki (zr39 4 rfl))) (hts (.static Lib.Math.min.name) (ki (zr35 17 rfl))) (hts (.initialized "java/lang/Math") (ki (zr35 18 rfl))) (hts (.code Lib.Math.min.name Lib.Math.min.code 2 (some .int)) (ki (zr35 19 rfl))) (Nat.le_of_ble_eq_true rfl) (Nat.le_of_ble_eq_true rfl) (Nat.le_of_ble_eq_true rfl) (Nat.le_of_ble_eq_true rfl) dX0_passWeek_59 (zgen (zI.top _) (fun v12 _ => ?_))
          refine miast hx hb hK hw hS 14 kg14 k4 (by decide) dX0_passWeek_62 (kW ct E y (zset rw12 14 (upd (rw12 14) (zn w12_2) v12)) q) ks14 (fun H locs hw hS => ?_)
          refine cmgen (P := fun x => kJ x ∧ zFt r x) hw ⟨jw12.set rfl (zI.top _), fw12.set rfl⟩ (fun r13 er13 hw pr13 => ?_)
          exact cut63 r13 k4 pr13.1 pr13.2 H locs ls hw hS (lv_sub hl [1, 2, 3] rfl)
  intro H locs hw hS ls hl
  have hl : lv_has ls 4 [(0, .ref (y 199)), (1, .ref (y 12))] := hl
  refine lv_aload_n hx hb dX0_passWeek_0 rfl (lv_at hl 1 rfl) ?_
  refine lv_dup hx hb dX0_passWeek_1 rfl ?_
  refine va_get (D := D) (ci := 7) (v := .int (r 12 5)) hx hb hts hiX8 hown hK hw.1 12 kg12 rfl 5 (by decide) lf36 (fun _ h9 => h9) rfl dX0_passWeek_2 (zgen (zI.top _) (fun v14 _ => ?_))
  refine lv_iconst (v := 1) hx hb dX0_passWeek_5 (by decide) ?_
  refine lv_iadd hx hb dX0_passWeek_6 (zgen (zI.top _) (fun v15 _ => ?_))
  refine zput (D := D) (ci := 7) (v := .int v15) (ty := .int) hx hb hts hiX8 tyX8 tyX8_ok nmX8 hown hK hw hS 12 kg12 rfl 5 (by decide) lf36 (fun _ h9 => h9) rfl (by decide +kernel) rfl rfl (Nat.le_of_ble_eq_true rfl) dX0_passWeek_7 (kW ct E y (zset r 12 (upd (r 12) 5 v15)) q) ks12_5 (fun H locs hw hS => ?_)
  refine cmgen (P := fun x => kJ x ∧ zFt r x) hw ⟨hJ0.set rfl (zI.top _), (zFt.refl).set rfl⟩ (fun r16 er16 hw pr16 => ?_)
  refine lv_iconst (v := 0) hx hb dX0_passWeek_10 (by decide) ?_
  refine lv_istore_n (lv' := [(2, .int 0), (0, .ref (y 199)), (1, .ref (y 12))]) hx hb dX0_passWeek_11 rfl hl (by decide) rfl (fun ls hl => ?_)
  exact cut12 7 0 r16 ((zI.lit (a := 0) (b := 0) (c := 0) (by decide)).w (c := 0) (d := 6) (by decide)) pr16.1 pr16.2 (zI.m0 (zI.lit (a := 0) (b := 0) (c := 0) (by decide)) (by decide)) H locs ls hw hS (lv_sub hl [1, 2, 0] rfl)

set_option maxHeartbeats 4000000 in
set_option maxRecDepth 100000 in
theorem kc_layT (l : Launch) (D : va_G) (ct : Nat → ClassId) (E : Nat → Nat) (y : Nat → Nat) (a2 : Int32) (a3 : Int32) (r : zRr) (q : zRq) (g2 : zI 0 5 a2) (hJ0 : kJ r) (hEi : kEi E) : cC l yX10_lay (.code yX10_lay cX10_lay 6 none :: wsL_law0) ({ frames := 5, cells := 0, slots := 0, locals := 240 }) D ct E [.ref (y 200), .ref (y 12), .int a2, .int a3] (kW ct E y r q) (S := zRr) (fun u => none) (fun u => kJ u ∧ zFr [182, 202] r u ∧ True) (fun u => kW ct E y u q) := by
  refine cofQ cX10_lay 6 none (by decide) rfl (Nat.le_of_ble_eq_true rfl) ?_
  intro p e s m below meth c A a9 Q ha9 hx hb hr hml hts hown hlocks hname hK hA hZ hN hQ
  have hown : s.vm.findClass RX10 = some m.cls := hown
  have hiX10 : ∀ w ∈ wsX100, w ∈ .code yX10_lay cX10_lay 6 none :: wsL_law0 := fun _ h => ki (zs_wsX100 _ h)
  have hiX2 : ∀ w ∈ wsX20, w ∈ .code yX10_lay cX10_lay 6 none :: wsL_law0 := fun _ h => ki (zs_wsX20 _ h)
  have hiX8 : ∀ w ∈ wsX80, w ∈ .code yX10_lay cX10_lay 6 none :: wsL_law0 := fun _ h => ki (zs_wsX80 _ h)
  have lf22 := hts (.fieldLink RX10 22 "BeardPass$Ways" "steps" "[I") (ki (zr6 9 rfl))
  have lf31 := hts (.fieldLink RX10 31 "BeardPass$Ways" "land" "LBeardPass$Land;") (ki (zr6 12 rfl))
  have lf35 := hts (.fieldLink RX10 35 "BeardPass$Ways" "frontier" "LBeardPass$Frontier;") (ki (zr6 13 rfl))
  have lf45 := hts (.fieldLink RX10 45 "BeardPass$Land" "kinds" "[I") (ki (zr42 10 rfl))
  have lf56 := hts (.fieldLink RX10 56 "BeardPass$Land" "towns" "I") (ki (zr42 11 rfl))
  have lf60 := hts (.fieldLink RX10 60 "BeardPass$Land" "roads" "[I") (ki (zr42 12 rfl))
  have lf63 := hts (.fieldLink RX10 63 "BeardPass$Land" "persons" "I") (ki (zr42 13 rfl))
  have lf66 := hts (.fieldLink RX10 66 "BeardPass$Standing" "places" "[I") (ki (zr42 5 rfl))
  have cut78 : ∀ (n : Nat) (w78_4 : Int32) (rw78 : zRr) (hw78_4 : zI 0 6 w78_4) (jw78 : kJ rw78) (fw78 : zFr [182, 202] r rw78), 6 - w78_4.toInt < (n : Int) → zKf p l e ({ frames := 5, cells := 0, slots := 0, locals := 240 }) s m a9 below meth c Q D A 78 6 [] (kW ct E y rw78 q) [(0, .ref (y 200)), (1, .ref (y 12)), (3, .int a3), (4, .int w78_4)] := by
    intro n
    induction n with
    | zero => intro w78_4 rw78 hw78_4 jw78 fw78 hm78; exact zI.no hw78_4 (by decide) hm78
    | succ n ih78 =>
      intro w78_4 rw78 hw78_4 jw78 fw78 hm78
      have cut145 : ∀ (rw145 : zRr) (hw145_4 : zI 0 5 w78_4) (jw145 : kJ rw145) (fw145 : zFr [182, 202] r rw145), zKf p l e ({ frames := 5, cells := 0, slots := 0, locals := 240 }) s m a9 below meth c Q D A 145 6 [] (kW ct E y rw145 q) [(0, .ref (y 200)), (1, .ref (y 12)), (3, .int a3), (4, .int w78_4)] := by
        intro rw145 hw145_4 jw145 fw145 H locs ls hw hS hl
        refine lv_iinc (v := w78_4 + 1) (lv' := [(4, .int (w78_4 + 1)), (0, .ref (y 200)), (1, .ref (y 12)), (3, .int a3)]) hx hb dX10_lay_145 hl (k := 3) rfl (rfl) (by decide) rfl (fun ls hl => ?_)
        have k1 : zI 1 6 (w78_4 + 1) := zI.add hw145_4 (zI.lit (a := 1) (b := 1) (by decide)) (by decide)
        refine lv_goto (tgt := 78) hx hb dX10_lay_148 (by decide) ?_
        exact ih78 (w78_4 + 1) rw145 (k1.w (c := 0) (d := 6) (by decide)) jw145 fw145 (zI.up hw145_4 (by decide) hm78) H locs ls hw hS (lv_sub hl [1, 2, 3, 0] rfl)
      intro H locs ls hw hS hl
      refine lv_iload hx hb dX10_lay_78 (lv_at hl 3 rfl) ?_
      refine lv_aload_n hx hb dX10_lay_80 rfl (lv_at hl 0 rfl) ?_
      refine va_get (D := D) (ci := 9) (v := .ref (y 171)) hx hb hts hiX10 hown hK hw.1 200 kg200 rfl 0 (by decide) lf31 (fun _ h9 => h9) rfl dX10_lay_81 ?_
      refine va_get (D := D) (ci := 2) (v := .int (rw78 171 10)) hx hb hts hiX2 hown hK hw.1 171 kg171 rfl 10 (by decide) lf63 (fun _ h9 => h9) rfl dX10_lay_84 (zgen (lo := 0) (hi := 6) ((show zI 0 6 (rw78 171 10) from jw78.i 171 10)) (fun v2 hv2 => ?_))
      refine lv_icmp_ge (tgt := 151) hx hb dX10_lay_87 (by decide) (fun c3 => ?_) (fun c3 => ?_)
      · exact zvretQ hQ hx hb hr hlocks rw78 rfl ⟨jw78, fw78, trivial⟩ hw hS dX10_lay_151
      · have k4 : zI 0 5 (w78_4) := zI.ltU (zI.nle c3) hw78_4 hv2 (by decide)
        have k5 : zI 1 6 (v2) := zI.ltD (zI.nle c3) hw78_4 hv2 (by decide)
        refine lv_aload_n hx hb dX10_lay_90 rfl (lv_at hl 0 rfl) ?_
        refine va_get (D := D) (ci := 9) (v := .ref (y 171)) hx hb hts hiX10 hown hK hw.1 200 kg200 rfl 0 (by decide) lf31 (fun _ h9 => h9) rfl dX10_lay_91 ?_
        refine va_get (D := D) (ci := 2) (v := .ref (y 175)) hx hb hts hiX2 hown hK hw.1 171 kg171 rfl 3 (by decide) lf45 (fun _ h9 => h9) rfl dX10_lay_94 ?_
        refine lv_iload hx hb dX10_lay_97 (lv_at hl 3 rfl) ?_
        refine miald hx hb hK hw 175 kg175 k4 (by decide) dX10_lay_99 (zgen (zI.top _) (fun v6 _ => ?_))
        refine lv_iconst (v := 1) hx hb dX10_lay_100 (by decide) ?_
        refine lv_icmp_eq (tgt := 145) hx hb dX10_lay_101 (by decide) (fun c7 => ?_) (fun c7 => ?_)
        · have k8 : zI 1 1 (v6) := zI.eqq c7 (zI.lit (a := 1) (b := 1) (c := 1) (by decide))
          exact cut145 rw78 k4 jw78 fw78 H locs ls hw hS (lv_sub hl [0, 1, 2, 3] rfl)
        · refine lv_aload_n hx hb dX10_lay_104 rfl (lv_at hl 1 rfl) ?_
          refine va_get (D := D) (ci := 7) (v := .ref (y 13)) hx hb hts hiX8 hown hK hw.1 12 kg12 rfl 0 (by decide) lf66 (fun _ h9 => h9) rfl dX10_lay_105 ?_
          refine lv_iload hx hb dX10_lay_108 (lv_at hl 3 rfl) ?_
          refine miald hx hb hK hw 13 kg13 k4 (by decide) dX10_lay_110 (zgen (lo := 0) (hi := 5) ((show zI 0 5 (rw78 13 _) from jw78.i 13 _)) (fun v9 hv9 => ?_))
          refine lv_istore (lv' := [(5, .int v9), (0, .ref (y 200)), (1, .ref (y 12)), (3, .int a3), (4, .int w78_4)]) hx hb dX10_lay_111 hl (by decide) rfl (fun ls hl => ?_)
          refine lv_aload_n hx hb dX10_lay_113 rfl (lv_at hl 1 rfl) ?_
          refine va_get (D := D) (ci := 9) (v := .ref (y 202)) hx hb hts hiX10 hown hK hw.1 200 kg200 rfl 4 (by decide) lf22 (fun _ h9 => h9) rfl dX10_lay_114 ?_
          refine lv_iload hx hb dX10_lay_117 (lv_at hl 0 rfl) ?_
          refine lv_dup2_11 hx hb dX10_lay_119 rfl rfl ?_
          refine miald hx hb hK hw 202 kg202 hv9 (by decide) dX10_lay_120 (zgen (zI.top _) (fun v10 _ => ?_))
          refine lv_aload_n hx hb dX10_lay_121 rfl (lv_at hl 1 rfl) ?_
          refine va_get (D := D) (ci := 9) (v := .ref (y 171)) hx hb hts hiX10 hown hK hw.1 200 kg200 rfl 0 (by decide) lf31 (fun _ h9 => h9) rfl dX10_lay_122 ?_
          refine va_get (D := D) (ci := 2) (v := .ref (y 173)) hx hb hts hiX2 hown hK hw.1 171 kg171 rfl 1 (by decide) lf60 (fun _ h9 => h9) rfl dX10_lay_125 ?_
          refine lv_iload hx hb dX10_lay_128 (lv_at hl 0 rfl) ?_
          refine miald hx hb hK hw 173 kg173 hv9 (by decide) dX10_lay_130 (zgen (zI.top _) (fun v11 _ => ?_))
          refine lv_aload_n hx hb dX10_lay_131 rfl (lv_at hl 1 rfl) ?_
          refine va_get (D := D) (ci := 9) (v := .ref (y 199)) hx hb hts hiX10 hown hK hw.1 200 kg200 rfl 1 (by decide) lf35 (fun _ h9 => h9) rfl dX10_lay_132 ?_
          refine lv_aload_n hx hb dX10_lay_135 rfl (lv_at hl 2 rfl) ?_
          refine lv_iload hx hb dX10_lay_136 (lv_at hl 4 rfl) ?_
          refine lv_iload_n hx hb dX10_lay_138 rfl (lv_at hl 3 rfl) ?_
          refine kcallV (As := [.ref (y 12), .int w78_4, .int a3]) (rest := [.int v11, .int v10, .int v9, .ref (y 202)]) ⟨hx, hb, hml, hown, hts⟩ (kc_opensT l D ct E y w78_4 a3 rw78 q k4 jw78 hEi) (wqX10_50_kc_opensT hts ⟨Nat.le_of_ble_eq_true rfl, Nat.le_of_ble_eq_true rfl⟩) hw hS hA hK hZ hN 0 199 rfl kg199 rfl hl.1 rfl (Nat.le_of_ble_eq_true rfl) dX10_lay_139 142 rfl (fun u12 H locs pu12 hw hS => ?_)
          obtain ⟨v13, r14⟩ := u12
          have hv13 : zI (-2147483648) 2147483647 v13 := pu12.1
          have ju12 : kJ r14 := pu12.2.1
          have fu12 : zFr [182] rw78 r14 := pu12.2.2.1
          have hw : zPD D A (kW ct E y r14 q) H := hw
          refine zfr 142 [.int v13, .int v11, .int v10, .int v9, .ref (y 202)] rfl rfl ?_
          refine lv_iand hx hb dX10_lay_142 (zgen (zI.top _) (fun v15 _ => ?_))
          refine lv_ior hx hb dX10_lay_143 (zgen (zI.top _) (fun v16 _ => ?_))
          refine miast hx hb hK hw hS 202 kg202 hv9 (by decide) dX10_lay_144 (kW ct E y (zset r14 202 (upd (r14 202) (zn v9) v16)) q) ks202 (fun H locs hw hS => ?_)
          refine cmgen (P := fun x => kJ x ∧ zFr [182, 202] r x) hw ⟨ju12.set rfl (zI.top _), (fw78.tr fu12 rfl).set rfl⟩ (fun r17 er17 hw pr17 => ?_)
          exact cut145 r17 k4 pr17.1 pr17.2 H locs ls hw hS (lv_sub hl [1, 2, 3, 4] rfl)
  have cut36 : ∀ (n : Nat) (w36_4 : Int32) (w36_5 : Int32) (rw36 : zRr) (hw36_5 : zI 0 6 w36_5) (jw36 : kJ rw36) (fw36 : zFr [182, 202] r rw36), 6 - w36_5.toInt < (n : Int) → zKf p l e ({ frames := 5, cells := 0, slots := 0, locals := 240 }) s m a9 below meth c Q D A 36 6 [] (kW ct E y rw36 q) [(0, .ref (y 200)), (4, .int w36_4), (5, .int w36_5)] := by
    intro n
    induction n with
    | zero => intro w36_4 w36_5 rw36 hw36_5 jw36 fw36 hm36; exact zI.no hw36_5 (by decide) hm36
    | succ n ih36 =>
      intro w36_4 w36_5 rw36 hw36_5 jw36 fw36 hm36
      intro H locs ls hw hS hl
      refine lv_iload hx hb dX10_lay_36 (lv_at hl 2 rfl) ?_
      refine lv_aload_n hx hb dX10_lay_38 rfl (lv_at hl 0 rfl) ?_
      refine va_get (D := D) (ci := 9) (v := .ref (y 171)) hx hb hts hiX10 hown hK hw.1 200 kg200 rfl 0 (by decide) lf31 (fun _ h9 => h9) rfl dX10_lay_39 ?_
      refine va_get (D := D) (ci := 2) (v := .int (rw36 171 9)) hx hb hts hiX2 hown hK hw.1 171 kg171 rfl 9 (by decide) lf56 (fun _ h9 => h9) rfl dX10_lay_42 (zgen (lo := 0) (hi := 6) ((show zI 0 6 (rw36 171 9) from jw36.i 171 9)) (fun v18 hv18 => ?_))
      refine lv_icmp_ge (tgt := 74) hx hb dX10_lay_45 (by decide) (fun c19 => ?_) (fun c19 => ?_)
      · exact zvretQ hQ hx hb hr hlocks rw36 rfl ⟨jw36, fw36, trivial⟩ hw hS dX10_lay_74
      · have k20 : zI 0 5 (w36_5) := zI.ltU (zI.nle c19) hw36_5 hv18 (by decide)
        have k21 : zI 1 6 (v18) := zI.ltD (zI.nle c19) hw36_5 hv18 (by decide)
        refine lv_aload_n hx hb dX10_lay_48 rfl (lv_at hl 0 rfl) ?_
        refine va_get (D := D) (ci := 9) (v := .ref (y 202)) hx hb hts hiX10 hown hK hw.1 200 kg200 rfl 4 (by decide) lf22 (fun _ h9 => h9) rfl dX10_lay_49 ?_
        refine lv_iload hx hb dX10_lay_52 (lv_at hl 2 rfl) ?_
        refine lv_aload_n hx hb dX10_lay_54 rfl (lv_at hl 0 rfl) ?_
        refine va_get (D := D) (ci := 9) (v := .ref (y 171)) hx hb hts hiX10 hown hK hw.1 200 kg200 rfl 0 (by decide) lf31 (fun _ h9 => h9) rfl dX10_lay_55 ?_
        refine va_get (D := D) (ci := 2) (v := .ref (y 173)) hx hb hts hiX2 hown hK hw.1 171 kg171 rfl 1 (by decide) lf60 (fun _ h9 => h9) rfl dX10_lay_58 ?_
        refine lv_iload hx hb dX10_lay_61 (lv_at hl 2 rfl) ?_
        refine miald hx hb hK hw 173 kg173 k20 (by decide) dX10_lay_63 (zgen (zI.top _) (fun v22 _ => ?_))
        refine lv_iload hx hb dX10_lay_64 (lv_at hl 1 rfl) ?_
        refine lv_iand hx hb dX10_lay_66 (zgen (zI.top _) (fun v23 _ => ?_))
        refine miast hx hb hK hw hS 202 kg202 k20 (by decide) dX10_lay_67 (kW ct E y (zset rw36 202 (upd (rw36 202) (zn w36_5) v23)) q) ks202 (fun H locs hw hS => ?_)
        refine cmgen (P := fun x => kJ x ∧ zFr [182, 202] r x) hw ⟨jw36.set rfl (zI.top _), fw36.set rfl⟩ (fun r24 er24 hw pr24 => ?_)
        refine lv_iinc (v := w36_5 + 1) (lv' := [(5, .int (w36_5 + 1)), (0, .ref (y 200)), (4, .int w36_4)]) hx hb dX10_lay_68 hl (k := 2) rfl (rfl) (by decide) rfl (fun ls hl => ?_)
        have k25 : zI 1 6 (w36_5 + 1) := zI.add k20 (zI.lit (a := 1) (b := 1) (by decide)) (by decide)
        refine lv_goto (tgt := 36) hx hb dX10_lay_71 (by decide) ?_
        exact ih36 w36_4 (w36_5 + 1) r24 (k25.w (c := 0) (d := 6) (by decide)) pr24.1 pr24.2 (zI.up k20 (by decide) hm36) H locs ls hw hS (lv_sub hl [1, 2, 0] rfl)
  intro H locs hw hS ls hl
  have hl : lv_has ls 6 [(0, .ref (y 200)), (1, .ref (y 12)), (2, .int a2), (3, .int a3)] := hl
  refine lv_aload_n hx hb dX10_lay_0 rfl (lv_at hl 0 rfl) ?_
  refine va_get (D := D) (ci := 9) (v := .ref (y 202)) hx hb hts hiX10 hown hK hw.1 200 kg200 rfl 4 (by decide) lf22 (fun _ h9 => h9) rfl dX10_lay_1 ?_
  refine lv_iconst (v := 0) hx hb dX10_lay_4 (by decide) ?_
  refine kcallZS (As := [.ref (y 202), .int 0]) (rest := []) [202] (by decide) rfl ⟨hx, hb, hml, hown, hts⟩ (c_fill l D ct (y 202) (0 : Int32) 6 (r 202) (by decide)) (va_cwS 2 hts (kgSm (zr42 14 rfl) (zr10 23 rfl) (zr11 0 rfl) mL_J7_fill_53178) rfl rfl rfl (by decide +kernel) ⟨Nat.le_of_ble_eq_true rfl, Nat.le_of_ble_eq_true rfl⟩) hw hS hA hK hN rfl rfl hl.1 rfl (Nat.le_of_ble_eq_true rfl) dX10_lay_5 8 rfl (zset r 202 (zfl (r 202) (0 : Int32) 6)) q (fun _ => rfl) kset1x (fun _ H locs _ hw hS => ?_)
  refine zfr 8 [] rfl rfl ?_
  refine cmgen (P := fun x => kJ x ∧ zFr [182, 202] r x) hw ⟨hJ0.fill rfl (fun _ => zI.top _), (zFr.refl).set rfl⟩ (fun r26 er26 hw pr26 => ?_)
  refine lv_aload_n hx hb dX10_lay_8 rfl (lv_at hl 0 rfl) ?_
  refine va_get (D := D) (ci := 9) (v := .ref (y 171)) hx hb hts hiX10 hown hK hw.1 200 kg200 rfl 0 (by decide) lf31 (fun _ h9 => h9) rfl dX10_lay_9 ?_
  refine va_get (D := D) (ci := 2) (v := .ref (y 175)) hx hb hts hiX2 hown hK hw.1 171 kg171 rfl 3 (by decide) lf45 (fun _ h9 => h9) rfl dX10_lay_12 ?_
  refine lv_iload_n hx hb dX10_lay_15 rfl (lv_at hl 2 rfl) ?_
  refine miald hx hb hK hw 175 kg175 g2 (by decide) dX10_lay_16 (zgen (zI.top _) (fun v27 _ => ?_))
  refine lv_iconst (v := 1) hx hb dX10_lay_17 (by decide) ?_
  refine lv_icmp_eq (tgt := 75) hx hb dX10_lay_18 (by decide) (fun c28 => ?_) (fun c28 => ?_)
  · have k29 : zI 1 1 (v27) := zI.eqq c28 (zI.lit (a := 1) (b := 1) (c := 1) (by decide))
    refine lv_iconst (v := 0) hx hb dX10_lay_75 (by decide) ?_
    refine lv_istore (lv' := [(4, .int 0), (0, .ref (y 200)), (1, .ref (y 12)), (2, .int a2), (3, .int a3)]) hx hb dX10_lay_76 hl (by decide) rfl (fun ls hl => ?_)
    exact cut78 7 0 r26 ((zI.lit (a := 0) (b := 0) (c := 0) (by decide)).w (c := 0) (d := 6) (by decide)) pr26.1 pr26.2 (zI.m0 (zI.lit (a := 0) (b := 0) (c := 0) (by decide)) (by decide)) H locs ls hw hS (lv_sub hl [1, 2, 4, 0] rfl)
  · refine lv_aload_n hx hb dX10_lay_21 rfl (lv_at hl 0 rfl) ?_
    refine va_get (D := D) (ci := 9) (v := .ref (y 199)) hx hb hts hiX10 hown hK hw.1 200 kg200 rfl 1 (by decide) lf35 (fun _ h9 => h9) rfl dX10_lay_22 ?_
    refine lv_aload_n hx hb dX10_lay_25 rfl (lv_at hl 1 rfl) ?_
    refine lv_iload_n hx hb dX10_lay_26 rfl (lv_at hl 2 rfl) ?_
    refine lv_iload_n hx hb dX10_lay_27 rfl (lv_at hl 3 rfl) ?_
    refine kcallV (As := [.ref (y 12), .int a2, .int a3]) (rest := []) ⟨hx, hb, hml, hown, hts⟩ (kc_opensT l D ct E y a2 a3 r26 q g2 pr26.1 hEi) (wqX10_50_kc_opensT hts ⟨Nat.le_of_ble_eq_true rfl, Nat.le_of_ble_eq_true rfl⟩) hw hS hA hK hZ hN 0 199 rfl kg199 rfl hl.1 rfl (Nat.le_of_ble_eq_true rfl) dX10_lay_28 31 rfl (fun u30 H locs pu30 hw hS => ?_)
    obtain ⟨v31, r32⟩ := u30
    have hv31 : zI (-2147483648) 2147483647 v31 := pu30.1
    have ju30 : kJ r32 := pu30.2.1
    have fu30 : zFr [182] r26 r32 := pu30.2.2.1
    have hw : zPD D A (kW ct E y r32 q) H := hw
    refine zfr 31 [.int v31] rfl rfl ?_
    refine lv_istore (lv' := [(4, .int v31), (0, .ref (y 200)), (1, .ref (y 12)), (2, .int a2), (3, .int a3)]) hx hb dX10_lay_31 hl (by decide) rfl (fun ls hl => ?_)
    refine lv_iconst (v := 0) hx hb dX10_lay_33 (by decide) ?_
    refine lv_istore (lv' := [(5, .int 0), (4, .int v31), (0, .ref (y 200)), (1, .ref (y 12)), (2, .int a2), (3, .int a3)]) hx hb dX10_lay_34 hl (by decide) rfl (fun ls hl => ?_)
    exact cut36 7 v31 0 r32 ((zI.lit (a := 0) (b := 0) (c := 0) (by decide)).w (c := 0) (d := 6) (by decide)) ju30 (pr26.2.tr fu30 rfl) (zI.m0 (zI.lit (a := 0) (b := 0) (c := 0) (by decide)) (by decide)) H locs ls hw hS (lv_sub hl [2, 1, 0] rfl)

set_option maxHeartbeats 4000000 in
set_option maxRecDepth 100000 in
theorem kc_voicesT (l : Launch) (D : va_G) (ct : Nat → ClassId) (E : Nat → Nat) (y : Nat → Nat) (a2 : Int32) (a3 : Int32) (r : zRr) (q : zRq) (g3 : zI 0 5 a3) (hJ0 : kJ r) (hEi : kEi E) : cC l yX0_voices (.code yX0_voices cX0_voices 6 (some .int) :: wsL_law0) ({ frames := 4, cells := 0, slots := 0, locals := 200 }) D ct E [.ref (y 199), .ref (y 12), .int a2, .int a3] (kW ct E y r q) (S := Int32 × zRr) (fun u => some (.int u.1)) (fun u => zI (-2147483648) 2147483647 u.1 ∧ kJ u.2 ∧ zFr [182] r u.2 ∧ True) (fun u => kW ct E y u.2 q) := by
  refine cofQ cX0_voices 6 (some .int) (by decide) rfl (Nat.le_of_ble_eq_true rfl) ?_
  intro p e s m below meth c A a9 Q ha9 hx hb hr hml hts hown hlocks hname hK hA hZ hN hQ
  have hown : s.vm.findClass RX0 = some m.cls := hown
  have hiX0 : ∀ w ∈ wsX00, w ∈ .code yX0_voices cX0_voices 6 (some .int) :: wsL_law0 := fun _ h => ki (zs_wsX00 _ h)
  have hiX2 : ∀ w ∈ wsX20, w ∈ .code yX0_voices cX0_voices 6 (some .int) :: wsL_law0 := fun _ h => ki (zs_wsX20 _ h)
  have hiX8 : ∀ w ∈ wsX80, w ∈ .code yX0_voices cX0_voices 6 (some .int) :: wsL_law0 := fun _ h => ki (zs_wsX80 _ h)
  have lf9 := hts (.fieldLink RX0 9 "BeardPass$Frontier" "land" "LBeardPass$Land;") (ki (zr6 1 rfl))
  have lf15 := hts (.fieldLink RX0 15 "BeardPass$Land" "kinds" "[I") (ki (zr32 5 rfl))
  have lf53 := hts (.fieldLink RX0 53 "BeardPass$Land" "persons" "I") (ki (zr32 0 rfl))
  have lf56 := hts (.fieldLink RX0 56 "BeardPass$Standing" "places" "[I") (ki (zr32 6 rfl))
  have cut6 : ∀ (n : Nat) (w6_4 : Int32) (w6_5 : Int32) (rw6 : zRr) (hw6_3 : zI 0 5 a3) (hw6_4 : zI 0 63 w6_4) (hw6_5 : zI 0 6 w6_5) (jw6 : kJ rw6) (fw6 : zFr [182] r rw6), 6 - w6_5.toInt < (n : Int) → zKf p l e ({ frames := 4, cells := 0, slots := 0, locals := 200 }) s m a9 below meth c Q D A 6 6 [] (kW ct E y rw6 q) [(0, .ref (y 199)), (1, .ref (y 12)), (2, .int a2), (3, .int a3), (4, .int w6_4), (5, .int w6_5)] := by
    intro n
    induction n with
    | zero => intro w6_4 w6_5 rw6 hw6_3 hw6_4 hw6_5 jw6 fw6 hm6; exact zI.no hw6_5 (by decide) hm6
    | succ n ih6 =>
      intro w6_4 w6_5 rw6 hw6_3 hw6_4 hw6_5 jw6 fw6 hm6
      have cut64 : ∀ (w64_4 : Int32) (rw64 : zRr) (hw64_3 : zI 0 5 a3) (hw64_4 : zI 0 63 w64_4) (hw64_5 : zI 0 5 w6_5) (jw64 : kJ rw64) (fw64 : zFr [182] r rw64), zKf p l e ({ frames := 4, cells := 0, slots := 0, locals := 200 }) s m a9 below meth c Q D A 64 6 [] (kW ct E y rw64 q) [(0, .ref (y 199)), (1, .ref (y 12)), (2, .int a2), (3, .int a3), (4, .int w64_4), (5, .int w6_5)] := by
        intro w64_4 rw64 hw64_3 hw64_4 hw64_5 jw64 fw64 H locs ls hw hS hl
        refine lv_iinc (v := w6_5 + 1) (lv' := [(5, .int (w6_5 + 1)), (0, .ref (y 199)), (1, .ref (y 12)), (2, .int a2), (3, .int a3), (4, .int w64_4)]) hx hb dX0_voices_64 hl (k := 5) rfl (rfl) (by decide) rfl (fun ls hl => ?_)
        have k1 : zI 1 6 (w6_5 + 1) := zI.add hw64_5 (zI.lit (a := 1) (b := 1) (by decide)) (by decide)
        refine lv_goto (tgt := 6) hx hb dX0_voices_67 (by decide) ?_
        exact ih6 w64_4 (w6_5 + 1) rw64 hw64_3 hw64_4 (k1.w (c := 0) (d := 6) (by decide)) jw64 fw64 (zI.up hw64_5 (by decide) hm6) H locs ls hw hS (lv_sub hl [1, 2, 3, 4, 5, 0] rfl)
      intro H locs ls hw hS hl
      refine lv_iload hx hb dX0_voices_6 (lv_at hl 5 rfl) ?_
      refine lv_aload_n hx hb dX0_voices_8 rfl (lv_at hl 0 rfl) ?_
      refine va_get (D := D) (ci := 0) (v := .ref (y 171)) hx hb hts hiX0 hown hK hw.1 199 kg199 rfl 0 (by decide) lf9 (fun _ h9 => h9) rfl dX0_voices_9 ?_
      refine va_get (D := D) (ci := 2) (v := .int (rw6 171 10)) hx hb hts hiX2 hown hK hw.1 171 kg171 rfl 10 (by decide) lf53 (fun _ h9 => h9) rfl dX0_voices_12 (zgen (lo := 0) (hi := 6) ((show zI 0 6 (rw6 171 10) from jw6.i 171 10)) (fun v2 hv2 => ?_))
      refine lv_icmp_ge (tgt := 70) hx hb dX0_voices_15 (by decide) (fun c3 => ?_) (fun c3 => ?_)
      · refine lv_iload hx hb dX0_voices_70 (lv_at hl 4 rfl) ?_
        exact ziretQ hQ hx hb hr rfl hlocks (w6_4, rw6) rfl ⟨(zI.top _), jw6, fw6, trivial⟩ hw hS dX0_voices_72
      · have k4 : zI 0 5 (w6_5) := zI.ltU (zI.nle c3) hw6_5 hv2 (by decide)
        have k5 : zI 1 6 (v2) := zI.ltD (zI.nle c3) hw6_5 hv2 (by decide)
        refine lv_aload_n hx hb dX0_voices_18 rfl (lv_at hl 0 rfl) ?_
        refine va_get (D := D) (ci := 0) (v := .ref (y 171)) hx hb hts hiX0 hown hK hw.1 199 kg199 rfl 0 (by decide) lf9 (fun _ h9 => h9) rfl dX0_voices_19 ?_
        refine va_get (D := D) (ci := 2) (v := .ref (y 175)) hx hb hts hiX2 hown hK hw.1 171 kg171 rfl 3 (by decide) lf15 (fun _ h9 => h9) rfl dX0_voices_22 ?_
        refine lv_iload hx hb dX0_voices_25 (lv_at hl 5 rfl) ?_
        refine miald hx hb hK hw 175 kg175 k4 (by decide) dX0_voices_27 (zgen (zI.top _) (fun v6 _ => ?_))
        refine lv_iconst (v := 1) hx hb dX0_voices_28 (by decide) ?_
        refine lv_icmp_eq (tgt := 64) hx hb dX0_voices_29 (by decide) (fun c7 => ?_) (fun c7 => ?_)
        · have k8 : zI 1 1 (v6) := zI.eqq c7 (zI.lit (a := 1) (b := 1) (c := 1) (by decide))
          exact cut64 w6_4 rw6 hw6_3 hw6_4 k4 jw6 fw6 H locs ls hw hS (lv_sub hl [0, 1, 2, 3, 4, 5] rfl)
        · refine lv_aload_n hx hb dX0_voices_32 rfl (lv_at hl 1 rfl) ?_
          refine va_get (D := D) (ci := 7) (v := .ref (y 13)) hx hb hts hiX8 hown hK hw.1 12 kg12 rfl 0 (by decide) lf56 (fun _ h9 => h9) rfl dX0_voices_33 ?_
          refine lv_iload hx hb dX0_voices_36 (lv_at hl 5 rfl) ?_
          refine miald hx hb hK hw 13 kg13 k4 (by decide) dX0_voices_38 (zgen (lo := 0) (hi := 5) ((show zI 0 5 (rw6 13 _) from jw6.i 13 _)) (fun v9 hv9 => ?_))
          refine lv_iload_n hx hb dX0_voices_39 rfl (lv_at hl 2 rfl) ?_
          refine lv_icmp_ne (tgt := 64) hx hb dX0_voices_40 (by decide) (fun c10 => ?_) (fun c10 => ?_)
          · exact cut64 w6_4 rw6 hw6_3 hw6_4 k4 jw6 fw6 H locs ls hw hS (lv_sub hl [0, 1, 2, 3, 4, 5] rfl)
          · have k11 : zI 0 5 (a2) := zI.eqq (c10).symm hv9
            refine lv_aload_n hx hb dX0_voices_43 rfl (lv_at hl 0 rfl) ?_
            refine lv_aload_n hx hb dX0_voices_44 rfl (lv_at hl 1 rfl) ?_
            refine lv_iload hx hb dX0_voices_45 (lv_at hl 5 rfl) ?_
            refine lv_iload_n hx hb dX0_voices_47 rfl (lv_at hl 3 rfl) ?_
            refine lv_iconst (v := 0) hx hb dX0_voices_48 (by decide) ?_
            refine kcallV (As := [.ref (y 12), .int w6_5, .int a3, .int 0]) (rest := []) ⟨hx, hb, hml, hown, hts⟩ (kc_passesAloneT l D ct E y w6_5 a3 (0 : Int32) rw6 q k4 hw6_3 jw6 hEi) (wqX0_49_kc_passesAloneT hts ⟨Nat.le_of_ble_eq_true rfl, Nat.le_of_ble_eq_true rfl⟩) hw hS hA hK hZ hN 0 199 rfl kg199 rfl hl.1 rfl (Nat.le_of_ble_eq_true rfl) dX0_voices_49 52 rfl (fun u12 H locs pu12 hw hS => ?_)
            obtain ⟨v13, r14⟩ := u12
            have hv13 : zI 0 1 v13 := pu12.1
            have ju12 : kJ r14 := pu12.2.1
            have fu12 : zFr [182] rw6 r14 := pu12.2.2.1
            have hw : zPD D A (kW ct E y r14 q) H := hw
            refine zfr 52 [.int v13] rfl rfl ?_
            refine lv_if_eq (tgt := 64) hx hb dX0_voices_52 (by decide) (fun c15 => ?_) (fun c15 => ?_)
            · have k16 : zI 0 0 (v13) := zI.eqq c15 (zI.lit (a := 0) (b := 0) (c := 0) (by decide))
              exact cut64 w6_4 r14 hw6_3 hw6_4 k4 ju12 (fw6.tr fu12 rfl) H locs ls hw hS (lv_sub hl [0, 1, 2, 3, 4, 5] rfl)
            · have k17 : zI 1 1 (v13) := zI.neD c15 hv13 (zI.lit (a := 0) (b := 0) (c := 0) (by decide)) (by decide)
              refine lv_iload hx hb dX0_voices_55 (lv_at hl 4 rfl) ?_
              refine lv_iconst (v := 1) hx hb dX0_voices_57 (by decide) ?_
              refine lv_iload hx hb dX0_voices_58 (lv_at hl 5 rfl) ?_
              refine lv_ishl hx hb dX0_voices_60 (zgen (lo := 1) (hi := 32) (zI.shl k4 5 (by decide)) (fun v18 hv18 => ?_))
              refine lv_ior hx hb dX0_voices_61 (zgen (lo := 0) (hi := 63) (zI.or 6 hw6_4 hv18 (by decide)) (fun v19 hv19 => ?_))
              refine lv_istore (lv' := [(4, .int v19), (0, .ref (y 199)), (1, .ref (y 12)), (2, .int a2), (3, .int a3), (5, .int w6_5)]) hx hb dX0_voices_62 hl (by decide) rfl (fun ls hl => ?_)
              exact cut64 v19 r14 hw6_3 hv19 k4 ju12 (fw6.tr fu12 rfl) H locs ls hw hS (lv_sub hl [1, 2, 3, 4, 0, 5] rfl)
  intro H locs hw hS ls hl
  have hl : lv_has ls 6 [(0, .ref (y 199)), (1, .ref (y 12)), (2, .int a2), (3, .int a3)] := hl
  refine lv_iconst (v := 0) hx hb dX0_voices_0 (by decide) ?_
  refine lv_istore (lv' := [(4, .int 0), (0, .ref (y 199)), (1, .ref (y 12)), (2, .int a2), (3, .int a3)]) hx hb dX0_voices_1 hl (by decide) rfl (fun ls hl => ?_)
  refine lv_iconst (v := 0) hx hb dX0_voices_3 (by decide) ?_
  refine lv_istore (lv' := [(5, .int 0), (4, .int 0), (0, .ref (y 199)), (1, .ref (y 12)), (2, .int a2), (3, .int a3)]) hx hb dX0_voices_4 hl (by decide) rfl (fun ls hl => ?_)
  exact cut6 7 0 0 r g3 ((zI.lit (a := 0) (b := 0) (c := 0) (by decide)).w (c := 0) (d := 63) (by decide)) ((zI.lit (a := 0) (b := 0) (c := 0) (by decide)).w (c := 0) (d := 6) (by decide)) hJ0 (zFr.refl) (zI.m0 (zI.lit (a := 0) (b := 0) (c := 0) (by decide)) (by decide)) H locs ls hw hS (lv_sub hl [2, 3, 4, 5, 1, 0] rfl)

set_option maxHeartbeats 4000000 in
set_option maxRecDepth 100000 in
theorem kc_letsT (l : Launch) (D : va_G) (ct : Nat → ClassId) (E : Nat → Nat) (y : Nat → Nat) (a2 : Int32) (a3 : Int32) (r : zRr) (q : zRq) (g2 : zI 0 5 a2) (g3 : zI 0 5 a3) (hJ0 : kJ r) (hEi : kEi E) : cC l yX0_lets (.code yX0_lets cX0_lets 4 (some .boolean) :: wsL_law0) ({ frames := 5, cells := 0, slots := 0, locals := 240 }) D ct E [.ref (y 199), .ref (y 12), .int a2, .int a3] (kW ct E y r q) (S := Int32 × zRr) (fun u => some (.int u.1)) (fun u => zI 0 1 u.1 ∧ kJ u.2 ∧ zFr [182] r u.2 ∧ True) (fun u => kW ct E y u.2 q) := by
  refine cofQ cX0_lets 4 (some .boolean) (by decide) rfl (Nat.le_of_ble_eq_true rfl) ?_
  intro p e s m below meth c A a9 Q ha9 hx hb hr hml hts hown hlocks hname hK hA hZ hN hQ
  have hown : s.vm.findClass RX0 = some m.cls := hown
  have hiX0 : ∀ w ∈ wsX00, w ∈ .code yX0_lets cX0_lets 4 (some .boolean) :: wsL_law0 := fun _ h => ki (zs_wsX00 _ h)
  have hiX2 : ∀ w ∈ wsX20, w ∈ .code yX0_lets cX0_lets 4 (some .boolean) :: wsL_law0 := fun _ h => ki (zs_wsX20 _ h)
  have hiX8 : ∀ w ∈ wsX80, w ∈ .code yX0_lets cX0_lets 4 (some .boolean) :: wsL_law0 := fun _ h => ki (zs_wsX80 _ h)
  have lf9 := hts (.fieldLink RX0 9 "BeardPass$Frontier" "land" "LBeardPass$Land;") (ki (zr6 1 rfl))
  have lf15 := hts (.fieldLink RX0 15 "BeardPass$Land" "kinds" "[I") (ki (zr32 5 rfl))
  have lf56 := hts (.fieldLink RX0 56 "BeardPass$Standing" "places" "[I") (ki (zr32 6 rfl))
  intro H locs hw hS ls hl
  have hl : lv_has ls 4 [(0, .ref (y 199)), (1, .ref (y 12)), (2, .int a2), (3, .int a3)] := hl
  refine lv_aload_n hx hb dX0_lets_0 rfl (lv_at hl 0 rfl) ?_
  refine va_get (D := D) (ci := 0) (v := .ref (y 171)) hx hb hts hiX0 hown hK hw.1 199 kg199 rfl 0 (by decide) lf9 (fun _ h9 => h9) rfl dX0_lets_1 ?_
  refine va_get (D := D) (ci := 2) (v := .ref (y 175)) hx hb hts hiX2 hown hK hw.1 171 kg171 rfl 3 (by decide) lf15 (fun _ h9 => h9) rfl dX0_lets_4 ?_
  refine lv_iload_n hx hb dX0_lets_7 rfl (lv_at hl 2 rfl) ?_
  refine miald hx hb hK hw 175 kg175 g2 (by decide) dX0_lets_8 (zgen (zI.top _) (fun v1 _ => ?_))
  refine lv_iconst (v := 1) hx hb dX0_lets_9 (by decide) ?_
  refine lv_icmp_ne (tgt := 34) hx hb dX0_lets_10 (by decide) (fun c2 => ?_) (fun c2 => ?_)
  · refine lv_aload_n hx hb dX0_lets_34 rfl (lv_at hl 0 rfl) ?_
    refine lv_aload_n hx hb dX0_lets_35 rfl (lv_at hl 1 rfl) ?_
    refine lv_iload_n hx hb dX0_lets_36 rfl (lv_at hl 2 rfl) ?_
    refine lv_iload_n hx hb dX0_lets_37 rfl (lv_at hl 3 rfl) ?_
    refine lv_iconst (v := 0) hx hb dX0_lets_38 (by decide) ?_
    refine kcallV (As := [.ref (y 12), .int a2, .int a3, .int 0]) (rest := []) ⟨hx, hb, hml, hown, hts⟩ (kc_passesAloneT l D ct E y a2 a3 (0 : Int32) r q g2 g3 hJ0 hEi) (wqX0_49_kc_passesAloneT hts ⟨Nat.le_of_ble_eq_true rfl, Nat.le_of_ble_eq_true rfl⟩) hw hS hA hK hZ hN 0 199 rfl kg199 rfl hl.1 rfl (Nat.le_of_ble_eq_true rfl) dX0_lets_39 42 rfl (fun u3 H locs pu3 hw hS => ?_)
    obtain ⟨v4, r5⟩ := u3
    have hv4 : zI 0 1 v4 := pu3.1
    have ju3 : kJ r5 := pu3.2.1
    have fu3 : zFr [182] r r5 := pu3.2.2.1
    have hw : zPD D A (kW ct E y r5 q) H := hw
    refine zfr 42 [.int v4] rfl rfl ?_
    exact ziretQ hQ hx hb hr (hv4.rn) hlocks (v4, r5) rfl ⟨hv4, ju3, ((zFr.refl).tr fu3 rfl), trivial⟩ hw hS dX0_lets_42
  · have k6 : zI 1 1 (v1) := zI.eqq c2 (zI.lit (a := 1) (b := 1) (c := 1) (by decide))
    refine lv_aload_n hx hb dX0_lets_13 rfl (lv_at hl 0 rfl) ?_
    refine lv_aload_n hx hb dX0_lets_14 rfl (lv_at hl 1 rfl) ?_
    refine lv_aload_n hx hb dX0_lets_15 rfl (lv_at hl 1 rfl) ?_
    refine va_get (D := D) (ci := 7) (v := .ref (y 13)) hx hb hts hiX8 hown hK hw.1 12 kg12 rfl 0 (by decide) lf56 (fun _ h9 => h9) rfl dX0_lets_16 ?_
    refine lv_iload_n hx hb dX0_lets_19 rfl (lv_at hl 2 rfl) ?_
    refine miald hx hb hK hw 13 kg13 g2 (by decide) dX0_lets_20 (zgen (lo := 0) (hi := 5) ((show zI 0 5 (r 13 _) from hJ0.i 13 _)) (fun v7 hv7 => ?_))
    refine lv_iload_n hx hb dX0_lets_21 rfl (lv_at hl 3 rfl) ?_
    refine kcallV (As := [.ref (y 12), .int v7, .int a3]) (rest := []) ⟨hx, hb, hml, hown, hts⟩ (kc_voicesT l D ct E y v7 a3 r q g3 hJ0 hEi) (wqX0_59_kc_voicesT hts ⟨Nat.le_of_ble_eq_true rfl, Nat.le_of_ble_eq_true rfl⟩) hw hS hA hK hZ hN 0 199 rfl kg199 rfl hl.1 rfl (Nat.le_of_ble_eq_true rfl) dX0_lets_22 25 rfl (fun u8 H locs pu8 hw hS => ?_)
    obtain ⟨v9, r10⟩ := u8
    have hv9 : zI (-2147483648) 2147483647 v9 := pu8.1
    have ju8 : kJ r10 := pu8.2.1
    have fu8 : zFr [182] r r10 := pu8.2.2.1
    have hw : zPD D A (kW ct E y r10 q) H := hw
    refine zfr 25 [.int v9] rfl rfl ?_
    refine lv_if_eq (tgt := 32) hx hb dX0_lets_25 (by decide) (fun c11 => ?_) (fun c11 => ?_)
    · have k12 : zI 0 0 (v9) := zI.eqq c11 (zI.lit (a := 0) (b := 0) (c := 0) (by decide))
      refine lv_iconst (v := 0) hx hb dX0_lets_32 (by decide) ?_
      exact ziretQ hQ hx hb hr rfl hlocks ((0 : Int32), r10) rfl ⟨((zI.lit (a := 0) (b := 0) (c := 0) (by decide)).w (c := 0) (d := 1) (by decide)), ju8, ((zFr.refl).tr fu8 rfl), trivial⟩ hw hS dX0_lets_33
    · refine lv_iconst (v := 1) hx hb dX0_lets_28 (by decide) ?_
      refine lv_goto (tgt := 33) hx hb dX0_lets_29 (by decide) ?_
      exact ziretQ hQ hx hb hr rfl hlocks ((1 : Int32), r10) rfl ⟨((zI.lit (a := 1) (b := 1) (c := 1) (by decide)).w (c := 0) (d := 1) (by decide)), ju8, ((zFr.refl).tr fu8 rfl), trivial⟩ hw hS dX0_lets_33

set_option maxHeartbeats 4000000 in
set_option maxRecDepth 100000 in
theorem kc_canGoT (l : Launch) (D : va_G) (ct : Nat → ClassId) (E : Nat → Nat) (y : Nat → Nat) (a2 : Int32) (a3 : Int32) (r : zRr) (q : zRq) (g2 : zI 0 5 a2) (g3 : zI 0 5 a3) (hJ0 : kJ r) (hEi : kEi E) : cC l yX0_canGo (.code yX0_canGo cX0_canGo 4 (some .boolean) :: wsL_law0) ({ frames := 6, cells := 0, slots := 0, locals := 280 }) D ct E [.ref (y 199), .ref (y 12), .int a2, .int a3] (kW ct E y r q) (S := Int32 × zRr) (fun u => some (.int u.1)) (fun u => zI 0 1 u.1 ∧ kJ u.2 ∧ zFr [182] r u.2 ∧ True) (fun u => kW ct E y u.2 q) := by
  refine cofQ cX0_canGo 4 (some .boolean) (by decide) rfl (Nat.le_of_ble_eq_true rfl) ?_
  intro p e s m below meth c A a9 Q ha9 hx hb hr hml hts hown hlocks hname hK hA hZ hN hQ
  have hown : s.vm.findClass RX0 = some m.cls := hown
  have hiX0 : ∀ w ∈ wsX00, w ∈ .code yX0_canGo cX0_canGo 4 (some .boolean) :: wsL_law0 := fun _ h => ki (zs_wsX00 _ h)
  have hiX2 : ∀ w ∈ wsX20, w ∈ .code yX0_canGo cX0_canGo 4 (some .boolean) :: wsL_law0 := fun _ h => ki (zs_wsX20 _ h)
  have hiX8 : ∀ w ∈ wsX80, w ∈ .code yX0_canGo cX0_canGo 4 (some .boolean) :: wsL_law0 := fun _ h => ki (zs_wsX80 _ h)
  have lf9 := hts (.fieldLink RX0 9 "BeardPass$Frontier" "land" "LBeardPass$Land;") (ki (zr6 1 rfl))
  have lf56 := hts (.fieldLink RX0 56 "BeardPass$Standing" "places" "[I") (ki (zr32 6 rfl))
  have lf67 := hts (.fieldLink RX0 67 "BeardPass$Land" "roads" "[I") (ki (zr35 11 rfl))
  intro H locs hw hS ls hl
  have hl : lv_has ls 4 [(0, .ref (y 199)), (1, .ref (y 12)), (2, .int a2), (3, .int a3)] := hl
  refine lv_aload_n hx hb dX0_canGo_0 rfl (lv_at hl 0 rfl) ?_
  refine va_get (D := D) (ci := 0) (v := .ref (y 171)) hx hb hts hiX0 hown hK hw.1 199 kg199 rfl 0 (by decide) lf9 (fun _ h9 => h9) rfl dX0_canGo_1 ?_
  refine va_get (D := D) (ci := 2) (v := .ref (y 173)) hx hb hts hiX2 hown hK hw.1 171 kg171 rfl 1 (by decide) lf67 (fun _ h9 => h9) rfl dX0_canGo_4 ?_
  refine lv_aload_n hx hb dX0_canGo_7 rfl (lv_at hl 1 rfl) ?_
  refine va_get (D := D) (ci := 7) (v := .ref (y 13)) hx hb hts hiX8 hown hK hw.1 12 kg12 rfl 0 (by decide) lf56 (fun _ h9 => h9) rfl dX0_canGo_8 ?_
  refine lv_iload_n hx hb dX0_canGo_11 rfl (lv_at hl 2 rfl) ?_
  refine miald hx hb hK hw 13 kg13 g2 (by decide) dX0_canGo_12 (zgen (lo := 0) (hi := 5) ((show zI 0 5 (r 13 _) from hJ0.i 13 _)) (fun v1 hv1 => ?_))
  refine miald hx hb hK hw 173 kg173 hv1 (by decide) dX0_canGo_13 (zgen (zI.top _) (fun v2 _ => ?_))
  refine lv_iload_n hx hb dX0_canGo_14 rfl (lv_at hl 3 rfl) ?_
  refine zcallE (va_runSN (As := [.int v2, .int a3]) (rest := []) ⟨hx, hb, hml, hown, hts⟩ (kc_has l D ct v2 a3 H.size) ⟨va_cnB 2 hts (kgN (zr16 23 rfl)) rfl rfl rfl (hN.1 (RX0, 70, yX11_has, RX11) (List.mem_of_getElem? (i := 13) rfl)) (hts (.initialized RX11) (ki (zr1 2 rfl))) (by decide +kernel) ⟨Nat.le_of_ble_eq_true rfl, Nat.le_of_ble_eq_true rfl⟩, hts (.static yX11_has) (ki (zr16 22 rfl)), trivial⟩ (zpreS hK hw hS hA zZ.nil hN [] rfl rfl) rfl rfl hl.1 rfl (lv_room (Nat.le_of_ble_eq_true rfl)) dX0_canGo_15 ⟨Nat.le_of_ble_eq_true rfl, Nat.le_of_ble_eq_true rfl⟩) hw hS hA kWn 18 rfl (fun u3 H locs pu3 hw hS => ?_)
  have hu3 : zI 0 1 u3 := pu3.1
  have xu3 : u3 = (Gk_has v2 a3) := pu3.2.1
  refine zfr 18 [.int u3] rfl rfl ?_
  refine lv_if_eq (tgt := 35) hx hb dX0_canGo_18 (by decide) (fun c5 => ?_) (fun c5 => ?_)
  · have k6 : zI 0 0 (u3) := zI.eqq c5 (zI.lit (a := 0) (b := 0) (c := 0) (by decide))
    refine lv_iconst (v := 0) hx hb dX0_canGo_35 (by decide) ?_
    exact ziretQ hQ hx hb hr rfl hlocks ((0 : Int32), r) rfl ⟨((zI.lit (a := 0) (b := 0) (c := 0) (by decide)).w (c := 0) (d := 1) (by decide)), hJ0, (zFr.refl), trivial⟩ hw hS dX0_canGo_36
  · have k7 : zI 1 1 (u3) := zI.neD c5 hu3 (zI.lit (a := 0) (b := 0) (c := 0) (by decide)) (by decide)
    refine lv_aload_n hx hb dX0_canGo_21 rfl (lv_at hl 0 rfl) ?_
    refine lv_aload_n hx hb dX0_canGo_22 rfl (lv_at hl 1 rfl) ?_
    refine lv_iload_n hx hb dX0_canGo_23 rfl (lv_at hl 2 rfl) ?_
    refine lv_iload_n hx hb dX0_canGo_24 rfl (lv_at hl 3 rfl) ?_
    refine kcallV (As := [.ref (y 12), .int a2, .int a3]) (rest := []) ⟨hx, hb, hml, hown, hts⟩ (kc_letsT l D ct E y a2 a3 r q g2 g3 hJ0 hEi) (wqX0_63_kc_letsT hts ⟨Nat.le_of_ble_eq_true rfl, Nat.le_of_ble_eq_true rfl⟩) hw hS hA hK hZ hN 0 199 rfl kg199 rfl hl.1 rfl (Nat.le_of_ble_eq_true rfl) dX0_canGo_25 28 rfl (fun u8 H locs pu8 hw hS => ?_)
    obtain ⟨v9, r10⟩ := u8
    have hv9 : zI 0 1 v9 := pu8.1
    have ju8 : kJ r10 := pu8.2.1
    have fu8 : zFr [182] r r10 := pu8.2.2.1
    have hw : zPD D A (kW ct E y r10 q) H := hw
    refine zfr 28 [.int v9] rfl rfl ?_
    refine lv_if_eq (tgt := 35) hx hb dX0_canGo_28 (by decide) (fun c11 => ?_) (fun c11 => ?_)
    · have k12 : zI 0 0 (v9) := zI.eqq c11 (zI.lit (a := 0) (b := 0) (c := 0) (by decide))
      refine lv_iconst (v := 0) hx hb dX0_canGo_35 (by decide) ?_
      exact ziretQ hQ hx hb hr rfl hlocks ((0 : Int32), r10) rfl ⟨((zI.lit (a := 0) (b := 0) (c := 0) (by decide)).w (c := 0) (d := 1) (by decide)), ju8, ((zFr.refl).tr fu8 rfl), trivial⟩ hw hS dX0_canGo_36
    · have k13 : zI 1 1 (v9) := zI.neD c11 hv9 (zI.lit (a := 0) (b := 0) (c := 0) (by decide)) (by decide)
      refine lv_iconst (v := 1) hx hb dX0_canGo_31 (by decide) ?_
      refine lv_goto (tgt := 36) hx hb dX0_canGo_32 (by decide) ?_
      exact ziretQ hQ hx hb hr rfl hlocks ((1 : Int32), r10) rfl ⟨((zI.lit (a := 1) (b := 1) (c := 1) (by decide)).w (c := 0) (d := 1) (by decide)), ju8, ((zFr.refl).tr fu8 rfl), trivial⟩ hw hS dX0_canGo_36

set_option maxHeartbeats 4000000 in
set_option maxRecDepth 100000 in
theorem kc_canForgeT (l : Launch) (D : va_G) (ct : Nat → ClassId) (E : Nat → Nat) (y : Nat → Nat) (a2 : Int32) (a3 : Int32) (r : zRr) (q : zRq) (g2 : zI 0 5 a2) (hJ0 : kJ r) (hEi : kEi E) : cC l yX0_canForge (.code yX0_canForge cX0_canForge 4 (some .boolean) :: wsL_law0) ({ frames := 1, cells := 0, slots := 0, locals := 80 }) D ct E [.ref (y 199), .ref (y 12), .int a2, .int a3] (kW ct E y r q) (S := Int32) (fun u => some (.int u)) (fun u => zI 0 1 u ∧ (¬ u = 0 → zI 0 20 (r 15 (zn a2) + a3)) ∧ True) (fun u => kW ct E y r q) := by
  refine cofQ cX0_canForge 4 (some .boolean) (by decide) rfl (Nat.le_of_ble_eq_true rfl) ?_
  intro p e s m below meth c A a9 Q ha9 hx hb hr hml hts hown hlocks hname hK hA hZ hN hQ
  have hown : s.vm.findClass RX0 = some m.cls := hown
  have hiX0 : ∀ w ∈ wsX00, w ∈ .code yX0_canForge cX0_canForge 4 (some .boolean) :: wsL_law0 := fun _ h => ki (zs_wsX00 _ h)
  have hiX2 : ∀ w ∈ wsX20, w ∈ .code yX0_canForge cX0_canForge 4 (some .boolean) :: wsL_law0 := fun _ h => ki (zs_wsX20 _ h)
  have hiX8 : ∀ w ∈ wsX80, w ∈ .code yX0_canForge cX0_canForge 4 (some .boolean) :: wsL_law0 := fun _ h => ki (zs_wsX80 _ h)
  have lf9 := hts (.fieldLink RX0 9 "BeardPass$Frontier" "land" "LBeardPass$Land;") (ki (zr6 1 rfl))
  have lf15 := hts (.fieldLink RX0 15 "BeardPass$Land" "kinds" "[I") (ki (zr32 5 rfl))
  have lf24 := hts (.fieldLink RX0 24 "BeardPass$Standing" "forged" "[I") (ki (zr32 16 rfl))
  have lf74 := hts (.fieldLink RX0 74 "BeardPass$Land" "inch" "I") (ki (zr37 8 rfl))
  have lf77 := hts (.fieldLink RX0 77 "BeardPass$Standing" "purses" "[I") (ki (zr37 9 rfl))
  intro H locs hw hS ls hl
  have hl : lv_has ls 4 [(0, .ref (y 199)), (1, .ref (y 12)), (2, .int a2), (3, .int a3)] := hl
  refine lv_aload_n hx hb dX0_canForge_0 rfl (lv_at hl 0 rfl) ?_
  refine va_get (D := D) (ci := 0) (v := .ref (y 171)) hx hb hts hiX0 hown hK hw.1 199 kg199 rfl 0 (by decide) lf9 (fun _ h9 => h9) rfl dX0_canForge_1 ?_
  refine va_get (D := D) (ci := 2) (v := .ref (y 175)) hx hb hts hiX2 hown hK hw.1 171 kg171 rfl 3 (by decide) lf15 (fun _ h9 => h9) rfl dX0_canForge_4 ?_
  refine lv_iload_n hx hb dX0_canForge_7 rfl (lv_at hl 2 rfl) ?_
  refine miald hx hb hK hw 175 kg175 g2 (by decide) dX0_canForge_8 ?_
  refine lv_iconst (v := 1) hx hb dX0_canForge_9 (by decide) ?_
  refine lv_icmp_eq (tgt := 53) hx hb dX0_canForge_10 (by decide) (fun c1 => ?_) (fun c1 => ?_)
  · have k2 : zI 1 1 (r 175 (zn a2)) := zI.eqq c1 (zI.lit (a := 1) (b := 1) (c := 1) (by decide))
    refine lv_iconst (v := 0) hx hb dX0_canForge_53 (by decide) ?_
    exact ziretQ hQ hx hb hr rfl hlocks (0 : Int32) rfl ⟨((zI.lit (a := 0) (b := 0) (c := 0) (by decide)).w (c := 0) (d := 1) (by decide)), (fun h => absurd rfl h), trivial⟩ hw hS dX0_canForge_54
  · refine lv_iload_n hx hb dX0_canForge_13 rfl (lv_at hl 3 rfl) ?_
    refine lv_iconst (v := 1) hx hb dX0_canForge_14 (by decide) ?_
    refine lv_icmp_lt (tgt := 53) hx hb dX0_canForge_15 (by decide) (fun c3 => ?_) (fun c3 => ?_)
    · have k4 : zI (-2147483648) 0 (a3) := zI.ltU c3 (zI.top _) (zI.lit (a := 1) (b := 1) (c := 1) (by decide)) (by decide)
      refine lv_iconst (v := 0) hx hb dX0_canForge_53 (by decide) ?_
      exact ziretQ hQ hx hb hr rfl hlocks (0 : Int32) rfl ⟨((zI.lit (a := 0) (b := 0) (c := 0) (by decide)).w (c := 0) (d := 1) (by decide)), (fun h => absurd rfl h), trivial⟩ hw hS dX0_canForge_54
    · have k5 : zI 1 2147483647 (a3) := zI.leD (zI.nlt c3) (zI.lit (a := 1) (b := 1) (c := 1) (by decide)) (zI.top _) (by decide)
      refine lv_iload_n hx hb dX0_canForge_18 rfl (lv_at hl 3 rfl) ?_
      refine lv_bipush (v := 20) hx hb dX0_canForge_19 (by decide) ?_
      refine lv_aload_n hx hb dX0_canForge_21 rfl (lv_at hl 1 rfl) ?_
      refine va_get (D := D) (ci := 7) (v := .ref (y 15)) hx hb hts hiX8 hown hK hw.1 12 kg12 rfl 2 (by decide) lf24 (fun _ h9 => h9) rfl dX0_canForge_22 ?_
      refine lv_iload_n hx hb dX0_canForge_25 rfl (lv_at hl 2 rfl) ?_
      refine miald hx hb hK hw 15 kg15 g2 (by decide) dX0_canForge_26 ?_
      have k6 : zI 0 20 (r 15 (zn a2)) := (show zI 0 20 (r 15 _) from hJ0.i 15 _)
      refine lv_isub hx hb dX0_canForge_27 ?_
      have k7 : zI 0 20 (20 - (r 15 (zn a2))) := zI.sub (zI.lit (a := 20) (b := 20) (c := 20) (by decide)) k6 (by decide)
      refine lv_icmp_gt (tgt := 53) hx hb dX0_canForge_28 (by decide) (fun c8 => ?_) (fun c8 => ?_)
      · refine lv_iconst (v := 0) hx hb dX0_canForge_53 (by decide) ?_
        exact ziretQ hQ hx hb hr rfl hlocks (0 : Int32) rfl ⟨((zI.lit (a := 0) (b := 0) (c := 0) (by decide)).w (c := 0) (d := 1) (by decide)), (fun h => absurd rfl h), trivial⟩ hw hS dX0_canForge_54
      · have k9 : zI 1 20 (a3) := zI.leU (zI.nlt c8) k5 k7 (by decide)
        have k10 : zI 1 20 (20 - (r 15 (zn a2))) := zI.leD (zI.nlt c8) k5 k7 (by decide)
        refine lv_iload_n hx hb dX0_canForge_31 rfl (lv_at hl 3 rfl) ?_
        refine lv_aload_n hx hb dX0_canForge_32 rfl (lv_at hl 0 rfl) ?_
        refine va_get (D := D) (ci := 0) (v := .ref (y 171)) hx hb hts hiX0 hown hK hw.1 199 kg199 rfl 0 (by decide) lf9 (fun _ h9 => h9) rfl dX0_canForge_33 ?_
        refine va_get (D := D) (ci := 2) (v := .int (r 171 12)) hx hb hts hiX2 hown hK hw.1 171 kg171 rfl 12 (by decide) lf74 (fun _ h9 => h9) rfl dX0_canForge_36 ?_
        refine lv_imul hx hb dX0_canForge_39 ?_
        refine lv_aload_n hx hb dX0_canForge_40 rfl (lv_at hl 1 rfl) ?_
        refine va_get (D := D) (ci := 7) (v := .ref (y 16)) hx hb hts hiX8 hown hK hw.1 12 kg12 rfl 3 (by decide) lf77 (fun _ h9 => h9) rfl dX0_canForge_41 ?_
        refine lv_iload_n hx hb dX0_canForge_44 rfl (lv_at hl 2 rfl) ?_
        refine miald hx hb hK hw 16 kg16 g2 (by decide) dX0_canForge_45 ?_
        refine lv_icmp_gt (tgt := 53) hx hb dX0_canForge_46 (by decide) (fun c11 => ?_) (fun c11 => ?_)
        · refine lv_iconst (v := 0) hx hb dX0_canForge_53 (by decide) ?_
          exact ziretQ hQ hx hb hr rfl hlocks (0 : Int32) rfl ⟨((zI.lit (a := 0) (b := 0) (c := 0) (by decide)).w (c := 0) (d := 1) (by decide)), (fun h => absurd rfl h), trivial⟩ hw hS dX0_canForge_54
        · refine lv_iconst (v := 1) hx hb dX0_canForge_49 (by decide) ?_
          refine lv_goto (tgt := 54) hx hb dX0_canForge_50 (by decide) ?_
          exact ziretQ hQ hx hb hr rfl hlocks (1 : Int32) rfl ⟨((zI.lit (a := 1) (b := 1) (c := 1) (by decide)).w (c := 0) (d := 1) (by decide)), (show ¬ (1 : Int32) = 0 → zI 0 20 (r 15 (zn a2) + a3) from (fun _ => kforge (show zI 0 20 (r 15 (zn a2)) from hJ0.i 15 _) (zI.nlt c3) (zI.nlt c8))), trivial⟩ hw hS dX0_canForge_54

set_option maxHeartbeats 4000000 in
set_option maxRecDepth 100000 in
theorem kc_sellT (l : Launch) (D : va_G) (ct : Nat → ClassId) (E : Nat → Nat) (y : Nat → Nat) (a2 : Int32) (a3 : Int32) (r : zRr) (q : zRq) (g2 : zI 0 5 a2) (hJ0 : kJ r) (hEi : kEi E) (x1 : zI 0 20 (r 15 (zn a2) + a3)) : cC l yX0_sell (.code yX0_sell cX0_sell 4 none :: wsL_law0) ({ frames := 1, cells := 0, slots := 0, locals := 80 }) D ct E [.ref (y 199), .ref (y 12), .int a2, .int a3] (kW ct E y r q) (S := zRr) (fun u => none) (fun u => kJ u ∧ zFt r u ∧ True) (fun u => kW ct E y u q) := by
  refine cofQ cX0_sell 4 none (by decide) rfl (Nat.le_of_ble_eq_true rfl) ?_
  intro p e s m below meth c A a9 Q ha9 hx hb hr hml hts hown hlocks hname hK hA hZ hN hQ
  have hown : s.vm.findClass RX0 = some m.cls := hown
  have hiX0 : ∀ w ∈ wsX00, w ∈ .code yX0_sell cX0_sell 4 none :: wsL_law0 := fun _ h => ki (zs_wsX00 _ h)
  have hiX2 : ∀ w ∈ wsX20, w ∈ .code yX0_sell cX0_sell 4 none :: wsL_law0 := fun _ h => ki (zs_wsX20 _ h)
  have hiX8 : ∀ w ∈ wsX80, w ∈ .code yX0_sell cX0_sell 4 none :: wsL_law0 := fun _ h => ki (zs_wsX80 _ h)
  have lf9 := hts (.fieldLink RX0 9 "BeardPass$Frontier" "land" "LBeardPass$Land;") (ki (zr6 1 rfl))
  have lf24 := hts (.fieldLink RX0 24 "BeardPass$Standing" "forged" "[I") (ki (zr32 16 rfl))
  have lf74 := hts (.fieldLink RX0 74 "BeardPass$Land" "inch" "I") (ki (zr37 8 rfl))
  have lf77 := hts (.fieldLink RX0 77 "BeardPass$Standing" "purses" "[I") (ki (zr37 9 rfl))
  intro H locs hw hS ls hl
  have hl : lv_has ls 4 [(0, .ref (y 199)), (1, .ref (y 12)), (2, .int a2), (3, .int a3)] := hl
  refine lv_aload_n hx hb dX0_sell_0 rfl (lv_at hl 1 rfl) ?_
  refine va_get (D := D) (ci := 7) (v := .ref (y 15)) hx hb hts hiX8 hown hK hw.1 12 kg12 rfl 2 (by decide) lf24 (fun _ h9 => h9) rfl dX0_sell_1 ?_
  refine lv_iload_n hx hb dX0_sell_4 rfl (lv_at hl 2 rfl) ?_
  refine lv_dup2_11 hx hb dX0_sell_5 rfl rfl ?_
  refine miald hx hb hK hw 15 kg15 g2 (by decide) dX0_sell_6 ?_
  have k1 : zI 0 20 (r 15 (zn a2)) := (show zI 0 20 (r 15 _) from hJ0.i 15 _)
  refine lv_iload_n hx hb dX0_sell_7 rfl (lv_at hl 3 rfl) ?_
  refine lv_iadd hx hb dX0_sell_8 ?_
  refine miast hx hb hK hw hS 15 kg15 g2 (by decide) dX0_sell_9 (kW ct E y (zset r 15 (upd (r 15) (zn a2) ((r 15 (zn a2)) + a3))) q) ks15 (fun H locs hw hS => ?_)
  refine cmgen (P := fun x => kJ x ∧ zFt r x) hw ⟨hJ0.set rfl x1, (zFt.refl).set rfl⟩ (fun r2 er2 hw pr2 => ?_)
  refine lv_aload_n hx hb dX0_sell_10 rfl (lv_at hl 1 rfl) ?_
  refine va_get (D := D) (ci := 7) (v := .ref (y 16)) hx hb hts hiX8 hown hK hw.1 12 kg12 rfl 3 (by decide) lf77 (fun _ h9 => h9) rfl dX0_sell_11 ?_
  refine lv_iload_n hx hb dX0_sell_14 rfl (lv_at hl 2 rfl) ?_
  refine lv_dup2_11 hx hb dX0_sell_15 rfl rfl ?_
  refine miald hx hb hK hw 16 kg16 g2 (by decide) dX0_sell_16 (zgen (zI.top _) (fun v3 _ => ?_))
  refine lv_iload_n hx hb dX0_sell_17 rfl (lv_at hl 3 rfl) ?_
  refine lv_aload_n hx hb dX0_sell_18 rfl (lv_at hl 0 rfl) ?_
  refine va_get (D := D) (ci := 0) (v := .ref (y 171)) hx hb hts hiX0 hown hK hw.1 199 kg199 rfl 0 (by decide) lf9 (fun _ h9 => h9) rfl dX0_sell_19 ?_
  refine va_get (D := D) (ci := 2) (v := .int (r2 171 12)) hx hb hts hiX2 hown hK hw.1 171 kg171 rfl 12 (by decide) lf74 (fun _ h9 => h9) rfl dX0_sell_22 (zgen (zI.top _) (fun v4 _ => ?_))
  refine lv_imul hx hb dX0_sell_25 (zgen (zI.top _) (fun v5 _ => ?_))
  refine lv_isub hx hb dX0_sell_26 (zgen (zI.top _) (fun v6 _ => ?_))
  refine miast hx hb hK hw hS 16 kg16 g2 (by decide) dX0_sell_27 (kW ct E y (zset r2 16 (upd (r2 16) (zn a2) v6)) q) ks16 (fun H locs hw hS => ?_)
  refine cmgen (P := fun x => kJ x ∧ zFt r x) hw ⟨pr2.1.set rfl (zI.top _), pr2.2.set rfl⟩ (fun r7 er7 hw pr7 => ?_)
  exact zvretQ hQ hx hb hr hlocks r7 rfl ⟨pr7.1, pr7.2, trivial⟩ hw hS dX0_sell_28

set_option maxHeartbeats 4000000 in
set_option maxRecDepth 100000 in
theorem kc_letThrough (l : Launch) (D : va_G) (ct : Nat → ClassId) (E : Nat → Nat) (y : Nat → Nat) (a2 : Int32) (r : zRr) (q : zRq) (g2 : zI 0 5 a2) (hJ0 : kJ r) (hEi : kEi E) : cC l yX0_letThrough (.code yX0_letThrough cX0_letThrough 5 (some .int) :: wsL_law0) ({ frames := 6, cells := 0, slots := 0, locals := 280 }) D ct E [.ref (y 199), .ref (y 6), .int a2] (kW ct E y r q) (S := Int32 × zRr) (fun u => some (.int u.1)) (fun u => zI (-2147483648) 2147483647 u.1 ∧ kJ u.2 ∧ zFr [182] r u.2 ∧ True) (fun u => kW ct E y u.2 q) := by
  refine cofQ cX0_letThrough 5 (some .int) (by decide) rfl (Nat.le_of_ble_eq_true rfl) ?_
  intro p e s m below meth c A a9 Q ha9 hx hb hr hml hts hown hlocks hname hK hA hZ hN hQ
  have hown : s.vm.findClass RX0 = some m.cls := hown
  have hiX0 : ∀ w ∈ wsX00, w ∈ .code yX0_letThrough cX0_letThrough 5 (some .int) :: wsL_law0 := fun _ h => ki (zs_wsX00 _ h)
  have hiX2 : ∀ w ∈ wsX20, w ∈ .code yX0_letThrough cX0_letThrough 5 (some .int) :: wsL_law0 := fun _ h => ki (zs_wsX20 _ h)
  have lf9 := hts (.fieldLink RX0 9 "BeardPass$Frontier" "land" "LBeardPass$Land;") (ki (zr6 1 rfl))
  have lf53 := hts (.fieldLink RX0 53 "BeardPass$Land" "persons" "I") (ki (zr32 0 rfl))
  have cut5 : ∀ (n : Nat) (w5_3 : Int32) (w5_4 : Int32) (rw5 : zRr) (hw5_2 : zI 0 5 a2) (hw5_3 : zI 0 63 w5_3) (hw5_4 : zI 0 6 w5_4) (jw5 : kJ rw5) (fw5 : zFr [182] r rw5), 6 - w5_4.toInt < (n : Int) → zKf p l e ({ frames := 6, cells := 0, slots := 0, locals := 280 }) s m a9 below meth c Q D A 5 5 [] (kW ct E y rw5 q) [(0, .ref (y 199)), (1, .ref (y 6)), (2, .int a2), (3, .int w5_3), (4, .int w5_4)] := by
    intro n
    induction n with
    | zero => intro w5_3 w5_4 rw5 hw5_2 hw5_3 hw5_4 jw5 fw5 hm5; exact zI.no hw5_4 (by decide) hm5
    | succ n ih5 =>
      intro w5_3 w5_4 rw5 hw5_2 hw5_3 hw5_4 jw5 fw5 hm5
      have cut35 : ∀ (w35_3 : Int32) (rw35 : zRr) (hw35_2 : zI 0 5 a2) (hw35_3 : zI 0 63 w35_3) (hw35_4 : zI 0 5 w5_4) (jw35 : kJ rw35) (fw35 : zFr [182] r rw35), zKf p l e ({ frames := 6, cells := 0, slots := 0, locals := 280 }) s m a9 below meth c Q D A 35 5 [] (kW ct E y rw35 q) [(0, .ref (y 199)), (1, .ref (y 6)), (2, .int a2), (3, .int w35_3), (4, .int w5_4)] := by
        intro w35_3 rw35 hw35_2 hw35_3 hw35_4 jw35 fw35 H locs ls hw hS hl
        refine lv_iinc (v := w5_4 + 1) (lv' := [(4, .int (w5_4 + 1)), (0, .ref (y 199)), (1, .ref (y 6)), (2, .int a2), (3, .int w35_3)]) hx hb dX0_letThrough_35 hl (k := 4) rfl (rfl) (by decide) rfl (fun ls hl => ?_)
        have k1 : zI 1 6 (w5_4 + 1) := zI.add hw35_4 (zI.lit (a := 1) (b := 1) (by decide)) (by decide)
        refine lv_goto (tgt := 5) hx hb dX0_letThrough_38 (by decide) ?_
        exact ih5 w35_3 (w5_4 + 1) rw35 hw35_2 hw35_3 (k1.w (c := 0) (d := 6) (by decide)) jw35 fw35 (zI.up hw35_4 (by decide) hm5) H locs ls hw hS (lv_sub hl [1, 2, 3, 4, 0] rfl)
      intro H locs ls hw hS hl
      refine lv_iload hx hb dX0_letThrough_5 (lv_at hl 4 rfl) ?_
      refine lv_aload_n hx hb dX0_letThrough_7 rfl (lv_at hl 0 rfl) ?_
      refine va_get (D := D) (ci := 0) (v := .ref (y 171)) hx hb hts hiX0 hown hK hw.1 199 kg199 rfl 0 (by decide) lf9 (fun _ h9 => h9) rfl dX0_letThrough_8 ?_
      refine va_get (D := D) (ci := 2) (v := .int (rw5 171 10)) hx hb hts hiX2 hown hK hw.1 171 kg171 rfl 10 (by decide) lf53 (fun _ h9 => h9) rfl dX0_letThrough_11 (zgen (lo := 0) (hi := 6) ((show zI 0 6 (rw5 171 10) from jw5.i 171 10)) (fun v2 hv2 => ?_))
      refine lv_icmp_ge (tgt := 41) hx hb dX0_letThrough_14 (by decide) (fun c3 => ?_) (fun c3 => ?_)
      · refine lv_iload_n hx hb dX0_letThrough_41 rfl (lv_at hl 3 rfl) ?_
        exact ziretQ hQ hx hb hr rfl hlocks (w5_3, rw5) rfl ⟨(zI.top _), jw5, fw5, trivial⟩ hw hS dX0_letThrough_42
      · have k4 : zI 0 5 (w5_4) := zI.ltU (zI.nle c3) hw5_4 hv2 (by decide)
        have k5 : zI 1 6 (v2) := zI.ltD (zI.nle c3) hw5_4 hv2 (by decide)
        refine lv_aload_n hx hb dX0_letThrough_17 rfl (lv_at hl 0 rfl) ?_
        refine lv_aload_n hx hb dX0_letThrough_18 rfl (lv_at hl 1 rfl) ?_
        refine lv_iload hx hb dX0_letThrough_19 (lv_at hl 4 rfl) ?_
        refine lv_iload_n hx hb dX0_letThrough_21 rfl (lv_at hl 2 rfl) ?_
        refine kcallV (As := [.ref (y 6), .int w5_4, .int a2]) (rest := []) ⟨hx, hb, hml, hown, hts⟩ (kc_letsN l D ct E y w5_4 a2 rw5 q k4 hw5_2 jw5 hEi) (wqX0_63_kc_letsN hts ⟨Nat.le_of_ble_eq_true rfl, Nat.le_of_ble_eq_true rfl⟩) hw hS hA hK hZ hN 0 199 rfl kg199 rfl hl.1 rfl (Nat.le_of_ble_eq_true rfl) dX0_letThrough_22 25 rfl (fun u6 H locs pu6 hw hS => ?_)
        obtain ⟨v7, r8⟩ := u6
        have hv7 : zI 0 1 v7 := pu6.1
        have ju6 : kJ r8 := pu6.2.1
        have fu6 : zFr [182] rw5 r8 := pu6.2.2.1
        have xu6 : (v7, r8) = (Gk_letsN w5_4 a2 rw5 q) := pu6.2.2.2.1
        have hw : zPD D A (kW ct E y r8 q) H := hw
        refine zfr 25 [.int v7] rfl rfl ?_
        refine lv_if_eq (tgt := 35) hx hb dX0_letThrough_25 (by decide) (fun c9 => ?_) (fun c9 => ?_)
        · have k10 : zI 0 0 (v7) := zI.eqq c9 (zI.lit (a := 0) (b := 0) (c := 0) (by decide))
          exact cut35 w5_3 r8 hw5_2 hw5_3 k4 ju6 (fw5.tr fu6 rfl) H locs ls hw hS (lv_sub hl [0, 1, 2, 3, 4] rfl)
        · have k11 : zI 1 1 (v7) := zI.neD c9 hv7 (zI.lit (a := 0) (b := 0) (c := 0) (by decide)) (by decide)
          refine lv_iload_n hx hb dX0_letThrough_28 rfl (lv_at hl 3 rfl) ?_
          refine lv_iconst (v := 1) hx hb dX0_letThrough_29 (by decide) ?_
          refine lv_iload hx hb dX0_letThrough_30 (lv_at hl 4 rfl) ?_
          refine lv_ishl hx hb dX0_letThrough_32 (zgen (lo := 1) (hi := 32) (zI.shl k4 5 (by decide)) (fun v12 hv12 => ?_))
          refine lv_ior hx hb dX0_letThrough_33 (zgen (lo := 0) (hi := 63) (zI.or 6 hw5_3 hv12 (by decide)) (fun v13 hv13 => ?_))
          refine lv_istore_n (lv' := [(3, .int v13), (0, .ref (y 199)), (1, .ref (y 6)), (2, .int a2), (4, .int w5_4)]) hx hb dX0_letThrough_34 rfl hl (by decide) rfl (fun ls hl => ?_)
          exact cut35 v13 r8 hw5_2 hv13 k4 ju6 (fw5.tr fu6 rfl) H locs ls hw hS (lv_sub hl [1, 2, 3, 0, 4] rfl)
  intro H locs hw hS ls hl
  have hl : lv_has ls 5 [(0, .ref (y 199)), (1, .ref (y 6)), (2, .int a2)] := hl
  refine lv_iconst (v := 0) hx hb dX0_letThrough_0 (by decide) ?_
  refine lv_istore_n (lv' := [(3, .int 0), (0, .ref (y 199)), (1, .ref (y 6)), (2, .int a2)]) hx hb dX0_letThrough_1 rfl hl (by decide) rfl (fun ls hl => ?_)
  refine lv_iconst (v := 0) hx hb dX0_letThrough_2 (by decide) ?_
  refine lv_istore (lv' := [(4, .int 0), (3, .int 0), (0, .ref (y 199)), (1, .ref (y 6)), (2, .int a2)]) hx hb dX0_letThrough_3 hl (by decide) rfl (fun ls hl => ?_)
  exact cut5 7 0 0 r g2 ((zI.lit (a := 0) (b := 0) (c := 0) (by decide)).w (c := 0) (d := 63) (by decide)) ((zI.lit (a := 0) (b := 0) (c := 0) (by decide)).w (c := 0) (d := 6) (by decide)) hJ0 (zFr.refl) (zI.m0 (zI.lit (a := 0) (b := 0) (c := 0) (by decide)) (by decide)) H locs ls hw hS (lv_sub hl [2, 3, 4, 1, 0] rfl)

set_option maxHeartbeats 4000000 in
set_option maxRecDepth 100000 in
theorem kc_widen (l : Launch) (D : va_G) (ct : Nat → ClassId) (E : Nat → Nat) (y : Nat → Nat) (a1 : Int32) (r : zRr) (q : zRq) (hJ0 : kJ r) (hEi : kEi E) : cC l yX10_widen (.code yX10_widen cX10_widen 4 (some .int) :: wsL_law0) ({ frames := 2, cells := 0, slots := 0, locals := 120 }) D ct E [.ref (y 200), .int a1] (kW ct E y r q) (S := Int32) (fun u => some (.int u)) (fun u => zI (-2147483648) 2147483647 u ∧ True) (fun u => kW ct E y r q) := by
  refine cofQ cX10_widen 4 (some .int) (by decide) rfl (Nat.le_of_ble_eq_true rfl) ?_
  intro p e s m below meth c A a9 Q ha9 hx hb hr hml hts hown hlocks hname hK hA hZ hN hQ
  have hown : s.vm.findClass RX10 = some m.cls := hown
  have hiX10 : ∀ w ∈ wsX100, w ∈ .code yX10_widen cX10_widen 4 (some .int) :: wsL_law0 := fun _ h => ki (zs_wsX100 _ h)
  have hiX2 : ∀ w ∈ wsX20, w ∈ .code yX10_widen cX10_widen 4 (some .int) :: wsL_law0 := fun _ h => ki (zs_wsX20 _ h)
  have lf22 := hts (.fieldLink RX10 22 "BeardPass$Ways" "steps" "[I") (ki (zr6 9 rfl))
  have lf31 := hts (.fieldLink RX10 31 "BeardPass$Ways" "land" "LBeardPass$Land;") (ki (zr6 12 rfl))
  have lf56 := hts (.fieldLink RX10 56 "BeardPass$Land" "towns" "I") (ki (zr42 11 rfl))
  have cut4 : ∀ (n : Nat) (w4_2 : Int32) (w4_3 : Int32) (hw4_3 : zI 0 6 w4_3), 6 - w4_3.toInt < (n : Int) → zKf p l e ({ frames := 2, cells := 0, slots := 0, locals := 120 }) s m a9 below meth c Q D A 4 4 [] (kW ct E y r q) [(0, .ref (y 200)), (1, .int a1), (2, .int w4_2), (3, .int w4_3)] := by
    intro n
    induction n with
    | zero => intro w4_2 w4_3 hw4_3 hm4; exact zI.no hw4_3 (by decide) hm4
    | succ n ih4 =>
      intro w4_2 w4_3 hw4_3 hm4
      have cut32 : ∀ (w32_2 : Int32) (hw32_3 : zI 0 5 w4_3), zKf p l e ({ frames := 2, cells := 0, slots := 0, locals := 120 }) s m a9 below meth c Q D A 32 4 [] (kW ct E y r q) [(0, .ref (y 200)), (1, .int a1), (2, .int w32_2), (3, .int w4_3)] := by
        intro w32_2 hw32_3 H locs ls hw hS hl
        refine lv_iinc (v := w4_3 + 1) (lv' := [(3, .int (w4_3 + 1)), (0, .ref (y 200)), (1, .int a1), (2, .int w32_2)]) hx hb dX10_widen_32 hl (k := 3) rfl (rfl) (by decide) rfl (fun ls hl => ?_)
        have k1 : zI 1 6 (w4_3 + 1) := zI.add hw32_3 (zI.lit (a := 1) (b := 1) (by decide)) (by decide)
        refine lv_goto (tgt := 4) hx hb dX10_widen_35 (by decide) ?_
        exact ih4 w32_2 (w4_3 + 1) (k1.w (c := 0) (d := 6) (by decide)) (zI.up hw32_3 (by decide) hm4) H locs ls hw hS (lv_sub hl [1, 2, 3, 0] rfl)
      intro H locs ls hw hS hl
      refine lv_iload_n hx hb dX10_widen_4 rfl (lv_at hl 3 rfl) ?_
      refine lv_aload_n hx hb dX10_widen_5 rfl (lv_at hl 0 rfl) ?_
      refine va_get (D := D) (ci := 9) (v := .ref (y 171)) hx hb hts hiX10 hown hK hw.1 200 kg200 rfl 0 (by decide) lf31 (fun _ h9 => h9) rfl dX10_widen_6 ?_
      refine va_get (D := D) (ci := 2) (v := .int (r 171 9)) hx hb hts hiX2 hown hK hw.1 171 kg171 rfl 9 (by decide) lf56 (fun _ h9 => h9) rfl dX10_widen_9 (zgen (lo := 0) (hi := 6) ((show zI 0 6 (r 171 9) from hJ0.i 171 9)) (fun v2 hv2 => ?_))
      refine lv_icmp_ge (tgt := 38) hx hb dX10_widen_12 (by decide) (fun c3 => ?_) (fun c3 => ?_)
      · refine lv_iload_n hx hb dX10_widen_38 rfl (lv_at hl 2 rfl) ?_
        exact ziretQ hQ hx hb hr rfl hlocks w4_2 rfl ⟨(zI.top _), trivial⟩ hw hS dX10_widen_39
      · have k4 : zI 0 5 (w4_3) := zI.ltU (zI.nle c3) hw4_3 hv2 (by decide)
        have k5 : zI 1 6 (v2) := zI.ltD (zI.nle c3) hw4_3 hv2 (by decide)
        refine lv_iload_n hx hb dX10_widen_15 rfl (lv_at hl 1 rfl) ?_
        refine lv_iload_n hx hb dX10_widen_16 rfl (lv_at hl 3 rfl) ?_
        refine zcallE (va_runSN (As := [.int a1, .int w4_3]) (rest := []) ⟨hx, hb, hml, hown, hts⟩ (kc_has l D ct a1 w4_3 H.size) ⟨va_cnB 2 hts (kgN (zr16 23 rfl)) rfl rfl rfl (hN.1 (RX10, 69, yX11_has, RX11) (List.mem_of_getElem? (i := 14) rfl)) (hts (.initialized RX11) (ki (zr1 2 rfl))) (by decide +kernel) ⟨Nat.le_of_ble_eq_true rfl, Nat.le_of_ble_eq_true rfl⟩, hts (.static yX11_has) (ki (zr16 22 rfl)), trivial⟩ (zpreS hK hw hS hA zZ.nil hN [] rfl rfl) rfl rfl hl.1 rfl (lv_room (Nat.le_of_ble_eq_true rfl)) dX10_widen_17 ⟨Nat.le_of_ble_eq_true rfl, Nat.le_of_ble_eq_true rfl⟩) hw hS hA kWn 20 rfl (fun u6 H locs pu6 hw hS => ?_)
        have hu6 : zI 0 1 u6 := pu6.1
        have xu6 : u6 = (Gk_has a1 w4_3) := pu6.2.1
        refine zfr 20 [.int u6] rfl rfl ?_
        refine lv_if_eq (tgt := 32) hx hb dX10_widen_20 (by decide) (fun c8 => ?_) (fun c8 => ?_)
        · have k9 : zI 0 0 (u6) := zI.eqq c8 (zI.lit (a := 0) (b := 0) (c := 0) (by decide))
          exact cut32 w4_2 k4 H locs ls hw hS (lv_sub hl [0, 1, 2, 3] rfl)
        · have k10 : zI 1 1 (u6) := zI.neD c8 hu6 (zI.lit (a := 0) (b := 0) (c := 0) (by decide)) (by decide)
          refine lv_iload_n hx hb dX10_widen_23 rfl (lv_at hl 2 rfl) ?_
          refine lv_aload_n hx hb dX10_widen_24 rfl (lv_at hl 0 rfl) ?_
          refine va_get (D := D) (ci := 9) (v := .ref (y 202)) hx hb hts hiX10 hown hK hw.1 200 kg200 rfl 4 (by decide) lf22 (fun _ h9 => h9) rfl dX10_widen_25 ?_
          refine lv_iload_n hx hb dX10_widen_28 rfl (lv_at hl 3 rfl) ?_
          refine miald hx hb hK hw 202 kg202 k4 (by decide) dX10_widen_29 (zgen (zI.top _) (fun v11 _ => ?_))
          refine lv_ior hx hb dX10_widen_30 (zgen (zI.top _) (fun v12 _ => ?_))
          refine lv_istore_n (lv' := [(2, .int v12), (0, .ref (y 200)), (1, .int a1), (3, .int w4_3)]) hx hb dX10_widen_31 rfl hl (by decide) rfl (fun ls hl => ?_)
          exact cut32 v12 k4 H locs ls hw hS (lv_sub hl [1, 2, 0, 3] rfl)
  intro H locs hw hS ls hl
  have hl : lv_has ls 4 [(0, .ref (y 200)), (1, .int a1)] := hl
  refine lv_iload_n hx hb dX10_widen_0 rfl (lv_at hl 1 rfl) ?_
  refine lv_istore_n (lv' := [(2, .int a1), (0, .ref (y 200)), (1, .int a1)]) hx hb dX10_widen_1 rfl hl (by decide) rfl (fun ls hl => ?_)
  refine lv_iconst (v := 0) hx hb dX10_widen_2 (by decide) ?_
  refine lv_istore_n (lv' := [(3, .int 0), (2, .int a1), (0, .ref (y 200)), (1, .int a1)]) hx hb dX10_widen_3 rfl hl (by decide) rfl (fun ls hl => ?_)
  exact cut4 7 a1 0 ((zI.lit (a := 0) (b := 0) (c := 0) (by decide)).w (c := 0) (d := 6) (by decide)) (zI.m0 (zI.lit (a := 0) (b := 0) (c := 0) (by decide)) (by decide)) H locs ls hw hS (lv_sub hl [2, 3, 1, 0] rfl)

set_option maxHeartbeats 4000000 in
set_option maxRecDepth 100000 in
theorem kc_spread (l : Launch) (D : va_G) (ct : Nat → ClassId) (E : Nat → Nat) (y : Nat → Nat) (a1 : Int32) (r : zRr) (q : zRq) (hJ0 : kJ r) (hEi : kEi E) : cC l yX10_spread (.code yX10_spread cX10_spread 4 (some .int) :: wsL_law0) ({ frames := 3, cells := 0, slots := 0, locals := 160 }) D ct E [.ref (y 200), .int a1] (kW ct E y r q) (S := Int32) (fun u => some (.int u)) (fun u => zI (-2147483648) 2147483647 u ∧ True) (fun u => kW ct E y r q) := by
  refine cofQ cX10_spread 4 (some .int) (by decide) rfl (Nat.le_of_ble_eq_true rfl) ?_
  intro p e s m below meth c A a9 Q ha9 hx hb hr hml hts hown hlocks hname hK hA hZ hN hQ
  have hown : s.vm.findClass RX10 = some m.cls := hown
  have hiX10 : ∀ w ∈ wsX100, w ∈ .code yX10_spread cX10_spread 4 (some .int) :: wsL_law0 := fun _ h => ki (zs_wsX100 _ h)
  have hiX2 : ∀ w ∈ wsX20, w ∈ .code yX10_spread cX10_spread 4 (some .int) :: wsL_law0 := fun _ h => ki (zs_wsX20 _ h)
  have lf31 := hts (.fieldLink RX10 31 "BeardPass$Ways" "land" "LBeardPass$Land;") (ki (zr6 12 rfl))
  have lf56 := hts (.fieldLink RX10 56 "BeardPass$Land" "towns" "I") (ki (zr42 11 rfl))
  have cut4 : ∀ (n : Nat) (w4_2 : Int32) (w4_3 : Int32) (hw4_3 : zI 1 6 w4_3), 6 - w4_3.toInt < (n : Int) → zKf p l e ({ frames := 3, cells := 0, slots := 0, locals := 160 }) s m a9 below meth c Q D A 4 4 [] (kW ct E y r q) [(0, .ref (y 200)), (2, .int w4_2), (3, .int w4_3)] := by
    intro n
    induction n with
    | zero => intro w4_2 w4_3 hw4_3 hm4; exact zI.no hw4_3 (by decide) hm4
    | succ n ih4 =>
      intro w4_2 w4_3 hw4_3 hm4
      intro H locs ls hw hS hl
      refine lv_iload_n hx hb dX10_spread_4 rfl (lv_at hl 2 rfl) ?_
      refine lv_aload_n hx hb dX10_spread_5 rfl (lv_at hl 0 rfl) ?_
      refine va_get (D := D) (ci := 9) (v := .ref (y 171)) hx hb hts hiX10 hown hK hw.1 200 kg200 rfl 0 (by decide) lf31 (fun _ h9 => h9) rfl dX10_spread_6 ?_
      refine va_get (D := D) (ci := 2) (v := .int (r 171 9)) hx hb hts hiX2 hown hK hw.1 171 kg171 rfl 9 (by decide) lf56 (fun _ h9 => h9) rfl dX10_spread_9 (zgen (lo := 0) (hi := 6) ((show zI 0 6 (r 171 9) from hJ0.i 171 9)) (fun v1 hv1 => ?_))
      refine lv_icmp_ge (tgt := 27) hx hb dX10_spread_12 (by decide) (fun c2 => ?_) (fun c2 => ?_)
      · refine lv_iload_n hx hb dX10_spread_27 rfl (lv_at hl 1 rfl) ?_
        exact ziretQ hQ hx hb hr rfl hlocks w4_2 rfl ⟨(zI.top _), trivial⟩ hw hS dX10_spread_28
      · have k3 : zI 1 5 (w4_3) := zI.ltU (zI.nle c2) hw4_3 hv1 (by decide)
        have k4 : zI 2 6 (v1) := zI.ltD (zI.nle c2) hw4_3 hv1 (by decide)
        refine lv_aload_n hx hb dX10_spread_15 rfl (lv_at hl 0 rfl) ?_
        refine lv_iload_n hx hb dX10_spread_16 rfl (lv_at hl 1 rfl) ?_
        refine kcallV (As := [.int w4_2]) (rest := []) ⟨hx, hb, hml, hown, hts⟩ (kc_widen l D ct E y w4_2 r q hJ0 hEi) (wqX10_73_kc_widen hts ⟨Nat.le_of_ble_eq_true rfl, Nat.le_of_ble_eq_true rfl⟩) hw hS hA hK hZ hN 9 200 rfl kg200 rfl hl.1 rfl (Nat.le_of_ble_eq_true rfl) dX10_spread_17 20 rfl (fun u5 H locs pu5 hw hS => ?_)
        have hu5 : zI (-2147483648) 2147483647 u5 := pu5.1
        have hw : zPD D A (kW ct E y r q) H := hw
        refine zfr 20 [.int u5] rfl rfl ?_
        refine lv_istore_n (lv' := [(2, .int u5), (0, .ref (y 200)), (3, .int w4_3)]) hx hb dX10_spread_20 rfl hl (by decide) rfl (fun ls hl => ?_)
        refine lv_iinc (v := w4_3 + 1) (lv' := [(3, .int (w4_3 + 1)), (2, .int u5), (0, .ref (y 200))]) hx hb dX10_spread_21 hl (k := 2) rfl (rfl) (by decide) rfl (fun ls hl => ?_)
        have k7 : zI 2 6 (w4_3 + 1) := zI.add k3 (zI.lit (a := 1) (b := 1) (by decide)) (by decide)
        refine lv_goto (tgt := 4) hx hb dX10_spread_24 (by decide) ?_
        exact ih4 u5 (w4_3 + 1) (k7.w (c := 1) (d := 6) (by decide)) (zI.up k3 (by decide) hm4) H locs ls hw hS (lv_sub hl [2, 1, 0] rfl)
  intro H locs hw hS ls hl
  have hl : lv_has ls 4 [(0, .ref (y 200)), (1, .int a1)] := hl
  refine lv_iload_n hx hb dX10_spread_0 rfl (lv_at hl 1 rfl) ?_
  refine lv_istore_n (lv' := [(2, .int a1), (0, .ref (y 200)), (1, .int a1)]) hx hb dX10_spread_1 rfl hl (by decide) rfl (fun ls hl => ?_)
  refine lv_iconst (v := 1) hx hb dX10_spread_2 (by decide) ?_
  refine lv_istore_n (lv' := [(3, .int 1), (2, .int a1), (0, .ref (y 200)), (1, .int a1)]) hx hb dX10_spread_3 rfl hl (by decide) rfl (fun ls hl => ?_)
  exact cut4 6 a1 1 ((zI.lit (a := 1) (b := 1) (c := 1) (by decide)).w (c := 1) (d := 6) (by decide)) (zI.m0 (zI.lit (a := 1) (b := 1) (c := 1) (by decide)) (by decide)) H locs ls hw hS (lv_sub hl [2, 1, 0] rfl)

set_option maxHeartbeats 4000000 in
set_option maxRecDepth 100000 in
theorem kc_reachOfN (l : Launch) (D : va_G) (ct : Nat → ClassId) (E : Nat → Nat) (y : Nat → Nat) (a2 : Int32) (a3 : Int32) (r : zRr) (q : zRq) (g2 : zI 0 5 a2) (hJ0 : kJ r) (hEi : kEi E) : cC l yX10_reachOf (.code yX10_reachOf cX10_reachOf 4 (some .int) :: wsL_law0) ({ frames := 6, cells := 0, slots := 0, locals := 280 }) D ct E [.ref (y 200), .ref (y 6), .int a2, .int a3] (kW ct E y r q) (S := Int32 × zRr) (fun u => some (.int u.1)) (fun u => zI (-2147483648) 2147483647 u.1 ∧ kJ u.2 ∧ zFr [182, 202] r u.2 ∧ True) (fun u => kW ct E y u.2 q) := by
  refine cofQ cX10_reachOf 4 (some .int) (by decide) rfl (Nat.le_of_ble_eq_true rfl) ?_
  intro p e s m below meth c A a9 Q ha9 hx hb hr hml hts hown hlocks hname hK hA hZ hN hQ
  have hown : s.vm.findClass RX10 = some m.cls := hown
  have hiX8 : ∀ w ∈ wsX80, w ∈ .code yX10_reachOf cX10_reachOf 4 (some .int) :: wsL_law0 := fun _ h => ki (zs_wsX80 _ h)
  have lf66 := hts (.fieldLink RX10 66 "BeardPass$Standing" "places" "[I") (ki (zr42 5 rfl))
  intro H locs hw hS ls hl
  have hl : lv_has ls 4 [(0, .ref (y 200)), (1, .ref (y 6)), (2, .int a2), (3, .int a3)] := hl
  refine lv_aload_n hx hb dX10_reachOf_0 rfl (lv_at hl 0 rfl) ?_
  refine lv_aload_n hx hb dX10_reachOf_1 rfl (lv_at hl 1 rfl) ?_
  refine lv_iload_n hx hb dX10_reachOf_2 rfl (lv_at hl 2 rfl) ?_
  refine lv_iload_n hx hb dX10_reachOf_3 rfl (lv_at hl 3 rfl) ?_
  refine kcallV (As := [.ref (y 6), .int a2, .int a3]) (rest := []) ⟨hx, hb, hml, hown, hts⟩ (kc_layN l D ct E y a2 a3 r q g2 hJ0 hEi) (wqX10_77_kc_layN hts ⟨Nat.le_of_ble_eq_true rfl, Nat.le_of_ble_eq_true rfl⟩) hw hS hA hK hZ hN 9 200 rfl kg200 rfl hl.1 rfl (Nat.le_of_ble_eq_true rfl) dX10_reachOf_4 7 rfl (fun u1 H locs pu1 hw hS => ?_)
  have ju1 : kJ u1 := pu1.1
  have fu1 : zFr [182, 202] r u1 := pu1.2.1
  have hw : zPD D A (kW ct E y u1 q) H := hw
  refine zfr 7 [] rfl rfl ?_
  refine lv_aload_n hx hb dX10_reachOf_7 rfl (lv_at hl 0 rfl) ?_
  refine lv_iconst (v := 1) hx hb dX10_reachOf_8 (by decide) ?_
  refine lv_aload_n hx hb dX10_reachOf_9 rfl (lv_at hl 1 rfl) ?_
  refine va_get (D := D) (ci := 7) (v := .ref (y 7)) hx hb hts hiX8 hown hK hw.1 6 kg6 rfl 0 (by decide) lf66 (fun _ h9 => h9) rfl dX10_reachOf_10 ?_
  refine lv_iload_n hx hb dX10_reachOf_13 rfl (lv_at hl 2 rfl) ?_
  refine miald hx hb hK hw 7 kg7 g2 (by decide) dX10_reachOf_14 (zgen (lo := 0) (hi := 5) ((show zI 0 5 (u1 7 _) from ju1.i 7 _)) (fun v3 hv3 => ?_))
  refine lv_ishl hx hb dX10_reachOf_15 (zgen (lo := 1) (hi := 32) (zI.shl hv3 5 (by decide)) (fun v4 hv4 => ?_))
  refine kcallV (As := [.int v4]) (rest := []) ⟨hx, hb, hml, hown, hts⟩ (kc_spread l D ct E y v4 u1 q ju1 hEi) (wqX10_81_kc_spread hts ⟨Nat.le_of_ble_eq_true rfl, Nat.le_of_ble_eq_true rfl⟩) hw hS hA hK hZ hN 9 200 rfl kg200 rfl hl.1 rfl (Nat.le_of_ble_eq_true rfl) dX10_reachOf_16 19 rfl (fun u5 H locs pu5 hw hS => ?_)
  have hu5 : zI (-2147483648) 2147483647 u5 := pu5.1
  have hw : zPD D A (kW ct E y u1 q) H := hw
  refine zfr 19 [.int u5] rfl rfl ?_
  exact ziretQ hQ hx hb hr rfl hlocks (u5, u1) rfl ⟨(zI.top _), ju1, ((zFr.refl).tr fu1 rfl), trivial⟩ hw hS dX10_reachOf_19

set_option maxHeartbeats 4000000 in
set_option maxRecDepth 100000 in
theorem kc_reachOfT (l : Launch) (D : va_G) (ct : Nat → ClassId) (E : Nat → Nat) (y : Nat → Nat) (a2 : Int32) (a3 : Int32) (r : zRr) (q : zRq) (g2 : zI 0 5 a2) (hJ0 : kJ r) (hEi : kEi E) : cC l yX10_reachOf (.code yX10_reachOf cX10_reachOf 4 (some .int) :: wsL_law0) ({ frames := 6, cells := 0, slots := 0, locals := 280 }) D ct E [.ref (y 200), .ref (y 12), .int a2, .int a3] (kW ct E y r q) (S := Int32 × zRr) (fun u => some (.int u.1)) (fun u => zI (-2147483648) 2147483647 u.1 ∧ kJ u.2 ∧ zFr [182, 202] r u.2 ∧ True) (fun u => kW ct E y u.2 q) := by
  refine cofQ cX10_reachOf 4 (some .int) (by decide) rfl (Nat.le_of_ble_eq_true rfl) ?_
  intro p e s m below meth c A a9 Q ha9 hx hb hr hml hts hown hlocks hname hK hA hZ hN hQ
  have hown : s.vm.findClass RX10 = some m.cls := hown
  have hiX8 : ∀ w ∈ wsX80, w ∈ .code yX10_reachOf cX10_reachOf 4 (some .int) :: wsL_law0 := fun _ h => ki (zs_wsX80 _ h)
  have lf66 := hts (.fieldLink RX10 66 "BeardPass$Standing" "places" "[I") (ki (zr42 5 rfl))
  intro H locs hw hS ls hl
  have hl : lv_has ls 4 [(0, .ref (y 200)), (1, .ref (y 12)), (2, .int a2), (3, .int a3)] := hl
  refine lv_aload_n hx hb dX10_reachOf_0 rfl (lv_at hl 0 rfl) ?_
  refine lv_aload_n hx hb dX10_reachOf_1 rfl (lv_at hl 1 rfl) ?_
  refine lv_iload_n hx hb dX10_reachOf_2 rfl (lv_at hl 2 rfl) ?_
  refine lv_iload_n hx hb dX10_reachOf_3 rfl (lv_at hl 3 rfl) ?_
  refine kcallV (As := [.ref (y 12), .int a2, .int a3]) (rest := []) ⟨hx, hb, hml, hown, hts⟩ (kc_layT l D ct E y a2 a3 r q g2 hJ0 hEi) (wqX10_77_kc_layT hts ⟨Nat.le_of_ble_eq_true rfl, Nat.le_of_ble_eq_true rfl⟩) hw hS hA hK hZ hN 9 200 rfl kg200 rfl hl.1 rfl (Nat.le_of_ble_eq_true rfl) dX10_reachOf_4 7 rfl (fun u1 H locs pu1 hw hS => ?_)
  have ju1 : kJ u1 := pu1.1
  have fu1 : zFr [182, 202] r u1 := pu1.2.1
  have hw : zPD D A (kW ct E y u1 q) H := hw
  refine zfr 7 [] rfl rfl ?_
  refine lv_aload_n hx hb dX10_reachOf_7 rfl (lv_at hl 0 rfl) ?_
  refine lv_iconst (v := 1) hx hb dX10_reachOf_8 (by decide) ?_
  refine lv_aload_n hx hb dX10_reachOf_9 rfl (lv_at hl 1 rfl) ?_
  refine va_get (D := D) (ci := 7) (v := .ref (y 13)) hx hb hts hiX8 hown hK hw.1 12 kg12 rfl 0 (by decide) lf66 (fun _ h9 => h9) rfl dX10_reachOf_10 ?_
  refine lv_iload_n hx hb dX10_reachOf_13 rfl (lv_at hl 2 rfl) ?_
  refine miald hx hb hK hw 13 kg13 g2 (by decide) dX10_reachOf_14 (zgen (lo := 0) (hi := 5) ((show zI 0 5 (u1 13 _) from ju1.i 13 _)) (fun v3 hv3 => ?_))
  refine lv_ishl hx hb dX10_reachOf_15 (zgen (lo := 1) (hi := 32) (zI.shl hv3 5 (by decide)) (fun v4 hv4 => ?_))
  refine kcallV (As := [.int v4]) (rest := []) ⟨hx, hb, hml, hown, hts⟩ (kc_spread l D ct E y v4 u1 q ju1 hEi) (wqX10_81_kc_spread hts ⟨Nat.le_of_ble_eq_true rfl, Nat.le_of_ble_eq_true rfl⟩) hw hS hA hK hZ hN 9 200 rfl kg200 rfl hl.1 rfl (Nat.le_of_ble_eq_true rfl) dX10_reachOf_16 19 rfl (fun u5 H locs pu5 hw hS => ?_)
  have hu5 : zI (-2147483648) 2147483647 u5 := pu5.1
  have hw : zPD D A (kW ct E y u1 q) H := hw
  refine zfr 19 [.int u5] rfl rfl ?_
  exact ziretQ hQ hx hb hr rfl hlocks (u5, u1) rfl ⟨(zI.top _), ju1, ((zFr.refl).tr fu1 rfl), trivial⟩ hw hS dX10_reachOf_19

set_option maxHeartbeats 4000000 in
set_option maxRecDepth 100000 in
theorem kc_distance (l : Launch) (D : va_G) (ct : Nat → ClassId) (E : Nat → Nat) (y : Nat → Nat) (a1 : Int32) (a2 : Int32) (r : zRr) (q : zRq) (hJ0 : kJ r) (hEi : kEi E) : cC l yX10_distance (.code yX10_distance cX10_distance 5 (some .int) :: wsL_law0) ({ frames := 3, cells := 0, slots := 0, locals := 160 }) D ct E [.ref (y 200), .int a1, .int a2] (kW ct E y r q) (S := Int32) (fun u => some (.int u)) (fun u => zI (-1) 5 u ∧ True) (fun u => kW ct E y r q) := by
  refine cofQ cX10_distance 5 (some .int) (by decide) rfl (Nat.le_of_ble_eq_true rfl) ?_
  intro p e s m below meth c A a9 Q ha9 hx hb hr hml hts hown hlocks hname hK hA hZ hN hQ
  have hown : s.vm.findClass RX10 = some m.cls := hown
  have hiX10 : ∀ w ∈ wsX100, w ∈ .code yX10_distance cX10_distance 5 (some .int) :: wsL_law0 := fun _ h => ki (zs_wsX100 _ h)
  have hiX2 : ∀ w ∈ wsX20, w ∈ .code yX10_distance cX10_distance 5 (some .int) :: wsL_law0 := fun _ h => ki (zs_wsX20 _ h)
  have lf31 := hts (.fieldLink RX10 31 "BeardPass$Ways" "land" "LBeardPass$Land;") (ki (zr6 12 rfl))
  have lf56 := hts (.fieldLink RX10 56 "BeardPass$Land" "towns" "I") (ki (zr42 11 rfl))
  have cut7 : ∀ (n : Nat) (w7_3 : Int32) (w7_4 : Int32) (hw7_4 : zI 0 6 w7_4), 6 - w7_4.toInt < (n : Int) → zKf p l e ({ frames := 3, cells := 0, slots := 0, locals := 160 }) s m a9 below meth c Q D A 7 5 [] (kW ct E y r q) [(0, .ref (y 200)), (2, .int a2), (3, .int w7_3), (4, .int w7_4)] := by
    intro n
    induction n with
    | zero => intro w7_3 w7_4 hw7_4 hm7; exact zI.no hw7_4 (by decide) hm7
    | succ n ih7 =>
      intro w7_3 w7_4 hw7_4 hm7
      intro H locs ls hw hS hl
      refine lv_iload hx hb dX10_distance_7 (lv_at hl 3 rfl) ?_
      refine lv_aload_n hx hb dX10_distance_9 rfl (lv_at hl 0 rfl) ?_
      refine va_get (D := D) (ci := 9) (v := .ref (y 171)) hx hb hts hiX10 hown hK hw.1 200 kg200 rfl 0 (by decide) lf31 (fun _ h9 => h9) rfl dX10_distance_10 ?_
      refine va_get (D := D) (ci := 2) (v := .int (r 171 9)) hx hb hts hiX2 hown hK hw.1 171 kg171 rfl 9 (by decide) lf56 (fun _ h9 => h9) rfl dX10_distance_13 (zgen (lo := 0) (hi := 6) ((show zI 0 6 (r 171 9) from hJ0.i 171 9)) (fun v1 hv1 => ?_))
      refine lv_icmp_ge (tgt := 42) hx hb dX10_distance_16 (by decide) (fun c2 => ?_) (fun c2 => ?_)
      · refine lv_iconst (v := (-1)) hx hb dX10_distance_42 (by decide) ?_
        exact ziretQ hQ hx hb hr rfl hlocks ((-1) : Int32) rfl ⟨((zI.lit (a := (-1)) (b := (-1)) (c := (-1)) (by decide)).w (c := (-1)) (d := 5) (by decide)), trivial⟩ hw hS dX10_distance_43
      · have k3 : zI 0 5 (w7_4) := zI.ltU (zI.nle c2) hw7_4 hv1 (by decide)
        have k4 : zI 1 6 (v1) := zI.ltD (zI.nle c2) hw7_4 hv1 (by decide)
        refine lv_iload_n hx hb dX10_distance_19 rfl (lv_at hl 2 rfl) ?_
        refine lv_iload_n hx hb dX10_distance_20 rfl (lv_at hl 1 rfl) ?_
        refine zcallE (va_runSN (As := [.int w7_3, .int a2]) (rest := []) ⟨hx, hb, hml, hown, hts⟩ (kc_has l D ct w7_3 a2 H.size) ⟨va_cnB 2 hts (kgN (zr16 23 rfl)) rfl rfl rfl (hN.1 (RX10, 69, yX11_has, RX11) (List.mem_of_getElem? (i := 14) rfl)) (hts (.initialized RX11) (ki (zr1 2 rfl))) (by decide +kernel) ⟨Nat.le_of_ble_eq_true rfl, Nat.le_of_ble_eq_true rfl⟩, hts (.static yX11_has) (ki (zr16 22 rfl)), trivial⟩ (zpreS hK hw hS hA zZ.nil hN [] rfl rfl) rfl rfl hl.1 rfl (lv_room (Nat.le_of_ble_eq_true rfl)) dX10_distance_21 ⟨Nat.le_of_ble_eq_true rfl, Nat.le_of_ble_eq_true rfl⟩) hw hS hA kWn 24 rfl (fun u5 H locs pu5 hw hS => ?_)
        have hu5 : zI 0 1 u5 := pu5.1
        have xu5 : u5 = (Gk_has w7_3 a2) := pu5.2.1
        refine zfr 24 [.int u5] rfl rfl ?_
        refine lv_if_eq (tgt := 30) hx hb dX10_distance_24 (by decide) (fun c7 => ?_) (fun c7 => ?_)
        · have k8 : zI 0 0 (u5) := zI.eqq c7 (zI.lit (a := 0) (b := 0) (c := 0) (by decide))
          refine lv_aload_n hx hb dX10_distance_30 rfl (lv_at hl 0 rfl) ?_
          refine lv_iload_n hx hb dX10_distance_31 rfl (lv_at hl 2 rfl) ?_
          refine kcallV (As := [.int w7_3]) (rest := []) ⟨hx, hb, hml, hown, hts⟩ (kc_widen l D ct E y w7_3 r q hJ0 hEi) (wqX10_73_kc_widen hts ⟨Nat.le_of_ble_eq_true rfl, Nat.le_of_ble_eq_true rfl⟩) hw hS hA hK hZ hN 9 200 rfl kg200 rfl hl.1 rfl (Nat.le_of_ble_eq_true rfl) dX10_distance_32 35 rfl (fun u9 H locs pu9 hw hS => ?_)
          have hu9 : zI (-2147483648) 2147483647 u9 := pu9.1
          have hw : zPD D A (kW ct E y r q) H := hw
          refine zfr 35 [.int u9] rfl rfl ?_
          refine lv_istore_n (lv' := [(3, .int u9), (0, .ref (y 200)), (2, .int a2), (4, .int w7_4)]) hx hb dX10_distance_35 rfl hl (by decide) rfl (fun ls hl => ?_)
          refine lv_iinc (v := w7_4 + 1) (lv' := [(4, .int (w7_4 + 1)), (3, .int u9), (0, .ref (y 200)), (2, .int a2)]) hx hb dX10_distance_36 hl (k := 3) rfl (rfl) (by decide) rfl (fun ls hl => ?_)
          have k11 : zI 1 6 (w7_4 + 1) := zI.add k3 (zI.lit (a := 1) (b := 1) (by decide)) (by decide)
          refine lv_goto (tgt := 7) hx hb dX10_distance_39 (by decide) ?_
          exact ih7 u9 (w7_4 + 1) (k11.w (c := 0) (d := 6) (by decide)) (zI.up k3 (by decide) hm7) H locs ls hw hS (lv_sub hl [2, 3, 1, 0] rfl)
        · have k12 : zI 1 1 (u5) := zI.neD c7 hu5 (zI.lit (a := 0) (b := 0) (c := 0) (by decide)) (by decide)
          refine lv_iload hx hb dX10_distance_27 (lv_at hl 3 rfl) ?_
          exact ziretQ hQ hx hb hr rfl hlocks w7_4 rfl ⟨(k3.w (c := (-1)) (d := 5) (by decide)), trivial⟩ hw hS dX10_distance_29
  intro H locs hw hS ls hl
  have hl : lv_has ls 5 [(0, .ref (y 200)), (1, .int a1), (2, .int a2)] := hl
  refine lv_iconst (v := 1) hx hb dX10_distance_0 (by decide) ?_
  refine lv_iload_n hx hb dX10_distance_1 rfl (lv_at hl 1 rfl) ?_
  refine lv_ishl hx hb dX10_distance_2 (zgen (zI.top _) (fun v13 _ => ?_))
  refine lv_istore_n (lv' := [(3, .int v13), (0, .ref (y 200)), (1, .int a1), (2, .int a2)]) hx hb dX10_distance_3 rfl hl (by decide) rfl (fun ls hl => ?_)
  refine lv_iconst (v := 0) hx hb dX10_distance_4 (by decide) ?_
  refine lv_istore (lv' := [(4, .int 0), (3, .int v13), (0, .ref (y 200)), (1, .int a1), (2, .int a2)]) hx hb dX10_distance_5 hl (by decide) rfl (fun ls hl => ?_)
  exact cut7 7 v13 0 ((zI.lit (a := 0) (b := 0) (c := 0) (by decide)).w (c := 0) (d := 6) (by decide)) (zI.m0 (zI.lit (a := 0) (b := 0) (c := 0) (by decide)) (by decide)) H locs ls hw hS (lv_sub hl [2, 4, 1, 0] rfl)

set_option maxHeartbeats 4000000 in
set_option maxRecDepth 100000 in
theorem kc_firstStep (l : Launch) (D : va_G) (ct : Nat → ClassId) (E : Nat → Nat) (y : Nat → Nat) (a1 : Int32) (a2 : Int32) (r : zRr) (q : zRq) (g1 : zI 0 5 a1) (hJ0 : kJ r) (hEi : kEi E) : cC l yX10_firstStep (.code yX10_firstStep cX10_firstStep 5 (some .int) :: wsL_law0) ({ frames := 4, cells := 0, slots := 0, locals := 200 }) D ct E [.ref (y 200), .int a1, .int a2] (kW ct E y r q) (S := Int32) (fun u => some (.int u)) (fun u => zI (-1) 5 u ∧ True) (fun u => kW ct E y r q) := by
  refine cofQ cX10_firstStep 5 (some .int) (by decide) rfl (Nat.le_of_ble_eq_true rfl) ?_
  intro p e s m below meth c A a9 Q ha9 hx hb hr hml hts hown hlocks hname hK hA hZ hN hQ
  have hown : s.vm.findClass RX10 = some m.cls := hown
  have hiX10 : ∀ w ∈ wsX100, w ∈ .code yX10_firstStep cX10_firstStep 5 (some .int) :: wsL_law0 := fun _ h => ki (zs_wsX100 _ h)
  have hiX2 : ∀ w ∈ wsX20, w ∈ .code yX10_firstStep cX10_firstStep 5 (some .int) :: wsL_law0 := fun _ h => ki (zs_wsX20 _ h)
  have lf22 := hts (.fieldLink RX10 22 "BeardPass$Ways" "steps" "[I") (ki (zr6 9 rfl))
  have lf31 := hts (.fieldLink RX10 31 "BeardPass$Ways" "land" "LBeardPass$Land;") (ki (zr6 12 rfl))
  have lf56 := hts (.fieldLink RX10 56 "BeardPass$Land" "towns" "I") (ki (zr42 11 rfl))
  have cut17 : ∀ (n : Nat) (w17_3 : Int32) (w17_4 : Int32) (hw17_1 : zI 0 5 a1) (hw17_3 : zI 1 5 w17_3) (hw17_4 : zI 0 6 w17_4), 6 - w17_4.toInt < (n : Int) → zKf p l e ({ frames := 4, cells := 0, slots := 0, locals := 200 }) s m a9 below meth c Q D A 17 5 [] (kW ct E y r q) [(0, .ref (y 200)), (1, .int a1), (2, .int a2), (3, .int w17_3), (4, .int w17_4)] := by
    intro n
    induction n with
    | zero => intro w17_3 w17_4 hw17_1 hw17_3 hw17_4 hm17; exact zI.no hw17_4 (by decide) hm17
    | succ n ih17 =>
      intro w17_3 w17_4 hw17_1 hw17_3 hw17_4 hm17
      have cut59 : ∀ (hw59_1 : zI 0 5 a1) (hw59_3 : zI 1 5 w17_3) (hw59_4 : zI 0 5 w17_4), zKf p l e ({ frames := 4, cells := 0, slots := 0, locals := 200 }) s m a9 below meth c Q D A 59 5 [] (kW ct E y r q) [(0, .ref (y 200)), (1, .int a1), (2, .int a2), (3, .int w17_3), (4, .int w17_4)] := by
        intro hw59_1 hw59_3 hw59_4 H locs ls hw hS hl
        refine lv_iinc (v := w17_4 + 1) (lv' := [(4, .int (w17_4 + 1)), (0, .ref (y 200)), (1, .int a1), (2, .int a2), (3, .int w17_3)]) hx hb dX10_firstStep_59 hl (k := 4) rfl (rfl) (by decide) rfl (fun ls hl => ?_)
        have k1 : zI 1 6 (w17_4 + 1) := zI.add hw59_4 (zI.lit (a := 1) (b := 1) (by decide)) (by decide)
        refine lv_goto (tgt := 17) hx hb dX10_firstStep_62 (by decide) ?_
        exact ih17 w17_3 (w17_4 + 1) hw59_1 hw59_3 (k1.w (c := 0) (d := 6) (by decide)) (zI.up hw59_4 (by decide) hm17) H locs ls hw hS (lv_sub hl [1, 2, 3, 4, 0] rfl)
      intro H locs ls hw hS hl
      refine lv_iload hx hb dX10_firstStep_17 (lv_at hl 4 rfl) ?_
      refine lv_aload_n hx hb dX10_firstStep_19 rfl (lv_at hl 0 rfl) ?_
      refine va_get (D := D) (ci := 9) (v := .ref (y 171)) hx hb hts hiX10 hown hK hw.1 200 kg200 rfl 0 (by decide) lf31 (fun _ h9 => h9) rfl dX10_firstStep_20 ?_
      refine va_get (D := D) (ci := 2) (v := .int (r 171 9)) hx hb hts hiX2 hown hK hw.1 171 kg171 rfl 9 (by decide) lf56 (fun _ h9 => h9) rfl dX10_firstStep_23 (zgen (lo := 0) (hi := 6) ((show zI 0 6 (r 171 9) from hJ0.i 171 9)) (fun v2 hv2 => ?_))
      refine lv_icmp_ge (tgt := 65) hx hb dX10_firstStep_26 (by decide) (fun c3 => ?_) (fun c3 => ?_)
      · refine lv_iconst (v := (-1)) hx hb dX10_firstStep_65 (by decide) ?_
        exact ziretQ hQ hx hb hr rfl hlocks ((-1) : Int32) rfl ⟨((zI.lit (a := (-1)) (b := (-1)) (c := (-1)) (by decide)).w (c := (-1)) (d := 5) (by decide)), trivial⟩ hw hS dX10_firstStep_66
      · have k4 : zI 0 5 (w17_4) := zI.ltU (zI.nle c3) hw17_4 hv2 (by decide)
        have k5 : zI 1 6 (v2) := zI.ltD (zI.nle c3) hw17_4 hv2 (by decide)
        refine lv_aload_n hx hb dX10_firstStep_29 rfl (lv_at hl 0 rfl) ?_
        refine va_get (D := D) (ci := 9) (v := .ref (y 202)) hx hb hts hiX10 hown hK hw.1 200 kg200 rfl 4 (by decide) lf22 (fun _ h9 => h9) rfl dX10_firstStep_30 ?_
        refine lv_iload_n hx hb dX10_firstStep_33 rfl (lv_at hl 1 rfl) ?_
        refine miald hx hb hK hw 202 kg202 hw17_1 (by decide) dX10_firstStep_34 (zgen (zI.top _) (fun v6 _ => ?_))
        refine lv_iload hx hb dX10_firstStep_35 (lv_at hl 4 rfl) ?_
        refine zcallE (va_runSN (As := [.int v6, .int w17_4]) (rest := []) ⟨hx, hb, hml, hown, hts⟩ (kc_has l D ct v6 w17_4 H.size) ⟨va_cnB 2 hts (kgN (zr16 23 rfl)) rfl rfl rfl (hN.1 (RX10, 69, yX11_has, RX11) (List.mem_of_getElem? (i := 14) rfl)) (hts (.initialized RX11) (ki (zr1 2 rfl))) (by decide +kernel) ⟨Nat.le_of_ble_eq_true rfl, Nat.le_of_ble_eq_true rfl⟩, hts (.static yX11_has) (ki (zr16 22 rfl)), trivial⟩ (zpreS hK hw hS hA zZ.nil hN [] rfl rfl) rfl rfl hl.1 rfl (lv_room (Nat.le_of_ble_eq_true rfl)) dX10_firstStep_37 ⟨Nat.le_of_ble_eq_true rfl, Nat.le_of_ble_eq_true rfl⟩) hw hS hA kWn 40 rfl (fun u7 H locs pu7 hw hS => ?_)
        have hu7 : zI 0 1 u7 := pu7.1
        have xu7 : u7 = (Gk_has v6 w17_4) := pu7.2.1
        refine zfr 40 [.int u7] rfl rfl ?_
        refine lv_if_eq (tgt := 59) hx hb dX10_firstStep_40 (by decide) (fun c9 => ?_) (fun c9 => ?_)
        · have k10 : zI 0 0 (u7) := zI.eqq c9 (zI.lit (a := 0) (b := 0) (c := 0) (by decide))
          exact cut59 hw17_1 hw17_3 k4 H locs ls hw hS (lv_sub hl [0, 1, 2, 3, 4] rfl)
        · have k11 : zI 1 1 (u7) := zI.neD c9 hu7 (zI.lit (a := 0) (b := 0) (c := 0) (by decide)) (by decide)
          refine lv_aload_n hx hb dX10_firstStep_43 rfl (lv_at hl 0 rfl) ?_
          refine lv_iload hx hb dX10_firstStep_44 (lv_at hl 4 rfl) ?_
          refine lv_iload_n hx hb dX10_firstStep_46 rfl (lv_at hl 2 rfl) ?_
          refine kcallV (As := [.int w17_4, .int a2]) (rest := []) ⟨hx, hb, hml, hown, hts⟩ (kc_distance l D ct E y w17_4 a2 r q hJ0 hEi) (wqX10_84_kc_distance hts ⟨Nat.le_of_ble_eq_true rfl, Nat.le_of_ble_eq_true rfl⟩) hw hS hA hK hZ hN 9 200 rfl kg200 rfl hl.1 rfl (Nat.le_of_ble_eq_true rfl) dX10_firstStep_47 50 rfl (fun u12 H locs pu12 hw hS => ?_)
          have hu12 : zI (-1) 5 u12 := pu12.1
          have hw : zPD D A (kW ct E y r q) H := hw
          refine zfr 50 [.int u12] rfl rfl ?_
          refine lv_iload_n hx hb dX10_firstStep_50 rfl (lv_at hl 3 rfl) ?_
          refine lv_iconst (v := 1) hx hb dX10_firstStep_51 (by decide) ?_
          refine lv_isub hx hb dX10_firstStep_52 (zgen (lo := 0) (hi := 4) (zI.sub hw17_3 (zI.lit (a := 1) (b := 1) (c := 1) (by decide)) (by decide)) (fun v14 hv14 => ?_))
          refine lv_icmp_ne (tgt := 59) hx hb dX10_firstStep_53 (by decide) (fun c15 => ?_) (fun c15 => ?_)
          · exact cut59 hw17_1 hw17_3 k4 H locs ls hw hS (lv_sub hl [0, 1, 2, 3, 4] rfl)
          · have k16 : zI 0 4 (u12) := zI.eqq c15 hv14
            refine lv_iload hx hb dX10_firstStep_56 (lv_at hl 4 rfl) ?_
            exact ziretQ hQ hx hb hr rfl hlocks w17_4 rfl ⟨(k4.w (c := (-1)) (d := 5) (by decide)), trivial⟩ hw hS dX10_firstStep_58
  intro H locs hw hS ls hl
  have hl : lv_has ls 5 [(0, .ref (y 200)), (1, .int a1), (2, .int a2)] := hl
  refine lv_aload_n hx hb dX10_firstStep_0 rfl (lv_at hl 0 rfl) ?_
  refine lv_iload_n hx hb dX10_firstStep_1 rfl (lv_at hl 1 rfl) ?_
  refine lv_iload_n hx hb dX10_firstStep_2 rfl (lv_at hl 2 rfl) ?_
  refine kcallV (As := [.int a1, .int a2]) (rest := []) ⟨hx, hb, hml, hown, hts⟩ (kc_distance l D ct E y a1 a2 r q hJ0 hEi) (wqX10_84_kc_distance hts ⟨Nat.le_of_ble_eq_true rfl, Nat.le_of_ble_eq_true rfl⟩) hw hS hA hK hZ hN 9 200 rfl kg200 rfl hl.1 rfl (Nat.le_of_ble_eq_true rfl) dX10_firstStep_3 6 rfl (fun u17 H locs pu17 hw hS => ?_)
  have hu17 : zI (-1) 5 u17 := pu17.1
  have hw : zPD D A (kW ct E y r q) H := hw
  refine zfr 6 [.int u17] rfl rfl ?_
  refine lv_istore_n (lv' := [(3, .int u17), (0, .ref (y 200)), (1, .int a1), (2, .int a2)]) hx hb dX10_firstStep_6 rfl hl (by decide) rfl (fun ls hl => ?_)
  refine lv_iload_n hx hb dX10_firstStep_7 rfl (lv_at hl 0 rfl) ?_
  refine lv_iconst (v := 1) hx hb dX10_firstStep_8 (by decide) ?_
  refine lv_icmp_ge (tgt := 14) hx hb dX10_firstStep_9 (by decide) (fun c19 => ?_) (fun c19 => ?_)
  · have k20 : zI 1 5 (u17) := zI.leD c19 (zI.lit (a := 1) (b := 1) (c := 1) (by decide)) hu17 (by decide)
    refine lv_iconst (v := 0) hx hb dX10_firstStep_14 (by decide) ?_
    refine lv_istore (lv' := [(4, .int 0), (3, .int u17), (0, .ref (y 200)), (1, .int a1), (2, .int a2)]) hx hb dX10_firstStep_15 hl (by decide) rfl (fun ls hl => ?_)
    exact cut17 7 u17 0 g1 k20 ((zI.lit (a := 0) (b := 0) (c := 0) (by decide)).w (c := 0) (d := 6) (by decide)) (zI.m0 (zI.lit (a := 0) (b := 0) (c := 0) (by decide)) (by decide)) H locs ls hw hS (lv_sub hl [2, 3, 4, 1, 0] rfl)
  · have k21 : zI (-1) 0 (u17) := zI.ltU (zI.nle c19) hu17 (zI.lit (a := 1) (b := 1) (c := 1) (by decide)) (by decide)
    refine lv_iconst (v := (-1)) hx hb dX10_firstStep_12 (by decide) ?_
    exact ziretQ hQ hx hb hr rfl hlocks ((-1) : Int32) rfl ⟨((zI.lit (a := (-1)) (b := (-1)) (c := (-1)) (by decide)).w (c := (-1)) (d := 5) (by decide)), trivial⟩ hw hS dX10_firstStep_13

set_option maxHeartbeats 4000000 in
set_option maxRecDepth 100000 in
theorem kc_linkedTo (l : Launch) (D : va_G) (ct : Nat → ClassId) (E : Nat → Nat) (y : Nat → Nat) (a1 : Int32) (r : zRr) (q : zRq) (hJ0 : kJ r) (hEi : kEi E) : cC l yX10_linkedTo (.code yX10_linkedTo cX10_linkedTo 2 (some .int) :: wsL_law0) ({ frames := 4, cells := 0, slots := 0, locals := 200 }) D ct E [.ref (y 200), .int a1] (kW ct E y r q) (S := Int32 × zRr) (fun u => some (.int u.1)) (fun u => zI (-2147483648) 2147483647 u.1 ∧ kJ u.2 ∧ zFr [202] r u.2 ∧ True) (fun u => kW ct E y u.2 q) := by
  refine cofQ cX10_linkedTo 2 (some .int) (by decide) rfl (Nat.le_of_ble_eq_true rfl) ?_
  intro p e s m below meth c A a9 Q ha9 hx hb hr hml hts hown hlocks hname hK hA hZ hN hQ
  have hown : s.vm.findClass RX10 = some m.cls := hown
  have hiX10 : ∀ w ∈ wsX100, w ∈ .code yX10_linkedTo cX10_linkedTo 2 (some .int) :: wsL_law0 := fun _ h => ki (zs_wsX100 _ h)
  have hiX2 : ∀ w ∈ wsX20, w ∈ .code yX10_linkedTo cX10_linkedTo 2 (some .int) :: wsL_law0 := fun _ h => ki (zs_wsX20 _ h)
  have lf22 := hts (.fieldLink RX10 22 "BeardPass$Ways" "steps" "[I") (ki (zr6 9 rfl))
  have lf31 := hts (.fieldLink RX10 31 "BeardPass$Ways" "land" "LBeardPass$Land;") (ki (zr6 12 rfl))
  have lf60 := hts (.fieldLink RX10 60 "BeardPass$Land" "roads" "[I") (ki (zr42 12 rfl))
  intro H locs hw hS ls hl
  have hl : lv_has ls 2 [(0, .ref (y 200)), (1, .int a1)] := hl
  refine lv_aload_n hx hb dX10_linkedTo_0 rfl (lv_at hl 0 rfl) ?_
  refine va_get (D := D) (ci := 9) (v := .ref (y 171)) hx hb hts hiX10 hown hK hw.1 200 kg200 rfl 0 (by decide) lf31 (fun _ h9 => h9) rfl dX10_linkedTo_1 ?_
  refine va_get (D := D) (ci := 2) (v := .ref (y 173)) hx hb hts hiX2 hown hK hw.1 171 kg171 rfl 1 (by decide) lf60 (fun _ h9 => h9) rfl dX10_linkedTo_4 ?_
  refine lv_iconst (v := 0) hx hb dX10_linkedTo_7 (by decide) ?_
  refine lv_aload_n hx hb dX10_linkedTo_8 rfl (lv_at hl 0 rfl) ?_
  refine va_get (D := D) (ci := 9) (v := .ref (y 202)) hx hb hts hiX10 hown hK hw.1 200 kg200 rfl 4 (by decide) lf22 (fun _ h9 => h9) rfl dX10_linkedTo_9 ?_
  refine lv_iconst (v := 0) hx hb dX10_linkedTo_12 (by decide) ?_
  refine lv_bipush (v := 6) hx hb dX10_linkedTo_13 (by decide) ?_
  refine zcopyi hx hb (hml.trans hl.1.symm) hown (hts (.methodLink RX10 88 arraycopyName) (ki (zr44 22 rfl))) (hts (.native arraycopyName) (ki (zr20 12 rfl))) (hts (.static arraycopyName) (ki (zr20 13 rfl))) (hts (.initialized "java/lang/System") (ki (zr20 14 rfl))) hK hw hS 173 202 kg173 kg202 6 rfl rfl (by decide) (by decide) (by decide) (by decide) (Nat.le_of_ble_eq_true rfl) (by decide +kernel) dX10_linkedTo_15 (kW ct E y (zset r 202 (va_cpy (r 173) (r 202) 0 0 6)) q) ks202 (fun H locs hw hS => ?_)
  refine cmgen (P := fun x => kJ x ∧ zFr [202] r x) hw ⟨hJ0.setr rfl (fun j => kcpy (fun j => hJ0.i 173 j) (fun j => hJ0.i 202 j) j), (zFr.refl).set rfl⟩ (fun r1 er1 hw pr1 => ?_)
  refine lv_aload_n hx hb dX10_linkedTo_18 rfl (lv_at hl 0 rfl) ?_
  refine lv_iconst (v := 1) hx hb dX10_linkedTo_19 (by decide) ?_
  refine lv_iload_n hx hb dX10_linkedTo_20 rfl (lv_at hl 1 rfl) ?_
  refine lv_ishl hx hb dX10_linkedTo_21 (zgen (zI.top _) (fun v2 _ => ?_))
  refine kcallV (As := [.int v2]) (rest := []) ⟨hx, hb, hml, hown, hts⟩ (kc_spread l D ct E y v2 r1 q pr1.1 hEi) (wqX10_81_kc_spread hts ⟨Nat.le_of_ble_eq_true rfl, Nat.le_of_ble_eq_true rfl⟩) hw hS hA hK hZ hN 9 200 rfl kg200 rfl hl.1 rfl (Nat.le_of_ble_eq_true rfl) dX10_linkedTo_22 25 rfl (fun u3 H locs pu3 hw hS => ?_)
  have hu3 : zI (-2147483648) 2147483647 u3 := pu3.1
  have hw : zPD D A (kW ct E y r1 q) H := hw
  refine zfr 25 [.int u3] rfl rfl ?_
  exact ziretQ hQ hx hb hr rfl hlocks (u3, r1) rfl ⟨(zI.top _), pr1.1, pr1.2, trivial⟩ hw hS dX10_linkedTo_25

set_option maxHeartbeats 4000000 in
set_option maxRecDepth 100000 in
theorem kc_findSoonest (l : Launch) (D : va_G) (ct : Nat → ClassId) (E : Nat → Nat) (y : Nat → Nat) (a2 : Int32) (a3 : Int32) (r : zRr) (q : zRq) (g2 : zI 0 5 a2) (hJ0 : kJ r) (hEi : kEi E) : cC l yX10_findSoonest (.code yX10_findSoonest cX10_findSoonest 8 none :: wsL_law0) ({ frames := 6, cells := 0, slots := 0, locals := 280 }) D ct E [.ref (y 200), .ref (y 6), .int a2, .int a3] (kW ct E y r q) (S := zRr) (fun u => none) (fun u => kJ u ∧ zFt r u ∧ True) (fun u => kW ct E y u q) := by
  refine cofQ cX10_findSoonest 8 none (by decide) rfl (Nat.le_of_ble_eq_true rfl) ?_
  intro p e s m below meth c A a9 Q ha9 hx hb hr hml hts hown hlocks hname hK hA hZ hN hQ
  have hown : s.vm.findClass RX10 = some m.cls := hown
  have hiX10 : ∀ w ∈ wsX100, w ∈ .code yX10_findSoonest cX10_findSoonest 8 none :: wsL_law0 := fun _ h => ki (zs_wsX100 _ h)
  have hiX2 : ∀ w ∈ wsX20, w ∈ .code yX10_findSoonest cX10_findSoonest 8 none :: wsL_law0 := fun _ h => ki (zs_wsX20 _ h)
  have hiX8 : ∀ w ∈ wsX80, w ∈ .code yX10_findSoonest cX10_findSoonest 8 none :: wsL_law0 := fun _ h => ki (zs_wsX80 _ h)
  have lf12 := hts (.fieldLink RX10 12 "BeardPass$Ways" "ahead" "LBeardPass$Standing;") (ki (zr6 7 rfl))
  have lf25 := hts (.fieldLink RX10 25 "BeardPass$Ways" "soonest" "[I") (ki (zr6 10 rfl))
  have lf31 := hts (.fieldLink RX10 31 "BeardPass$Ways" "land" "LBeardPass$Land;") (ki (zr6 12 rfl))
  have lf35 := hts (.fieldLink RX10 35 "BeardPass$Ways" "frontier" "LBeardPass$Frontier;") (ki (zr6 13 rfl))
  have lf56 := hts (.fieldLink RX10 56 "BeardPass$Land" "towns" "I") (ki (zr42 11 rfl))
  have lf66 := hts (.fieldLink RX10 66 "BeardPass$Standing" "places" "[I") (ki (zr42 5 rfl))
  have cut43 : ∀ (n : Nat) (w43_4 : Int32) (w43_5 : Int32) (w43_6 : Int32) (rw43 : zRr) (hw43_2 : zI 0 5 a2) (hw43_6 : zI 0 100 w43_6) (jw43 : kJ rw43) (fw43 : zFt r rw43), 100 - w43_6.toInt < (n : Int) → zKf p l e ({ frames := 6, cells := 0, slots := 0, locals := 280 }) s m a9 below meth c Q D A 43 8 [] (kW ct E y rw43 q) [(0, .ref (y 200)), (2, .int a2), (4, .int w43_4), (5, .int w43_5), (6, .int w43_6)] := by
    intro n
    induction n with
    | zero => intro w43_4 w43_5 w43_6 rw43 hw43_2 hw43_6 jw43 fw43 hm43; exact zI.no hw43_6 (by decide) hm43
    | succ n ih43 =>
      intro w43_4 w43_5 w43_6 rw43 hw43_2 hw43_6 jw43 fw43 hm43
      have cut71 : ∀ (n : Nat) (w71_4 : Int32) (w71_7 : Int32) (rw71 : zRr) (hw71_2 : zI 0 5 a2) (hw71_6 : zI 0 99 w43_6) (hw71_7 : zI 0 6 w71_7) (jw71 : kJ rw71) (fw71 : zFt r rw71), 6 - w71_7.toInt < (n : Int) → zKf p l e ({ frames := 6, cells := 0, slots := 0, locals := 280 }) s m a9 below meth c Q D A 71 8 [] (kW ct E y rw71 q) [(0, .ref (y 200)), (2, .int a2), (4, .int w71_4), (5, .int w43_5), (6, .int w43_6), (7, .int w71_7)] := by
        intro n
        induction n with
        | zero => intro w71_4 w71_7 rw71 hw71_2 hw71_6 hw71_7 jw71 fw71 hm71; exact zI.no hw71_7 (by decide) hm71
        | succ n ih71 =>
          intro w71_4 w71_7 rw71 hw71_2 hw71_6 hw71_7 jw71 fw71 hm71
          have cut113 : ∀ (rw113 : zRr) (hw113_2 : zI 0 5 a2) (hw113_6 : zI 0 99 w43_6) (hw113_7 : zI 0 5 w71_7) (jw113 : kJ rw113) (fw113 : zFt r rw113), zKf p l e ({ frames := 6, cells := 0, slots := 0, locals := 280 }) s m a9 below meth c Q D A 113 8 [] (kW ct E y rw113 q) [(0, .ref (y 200)), (2, .int a2), (4, .int w71_4), (5, .int w43_5), (6, .int w43_6), (7, .int w71_7)] := by
            intro rw113 hw113_2 hw113_6 hw113_7 jw113 fw113 H locs ls hw hS hl
            refine lv_iinc (v := w71_7 + 1) (lv' := [(7, .int (w71_7 + 1)), (0, .ref (y 200)), (2, .int a2), (4, .int w71_4), (5, .int w43_5), (6, .int w43_6)]) hx hb dX10_findSoonest_113 hl (k := 5) rfl (rfl) (by decide) rfl (fun ls hl => ?_)
            have k1 : zI 1 6 (w71_7 + 1) := zI.add hw113_7 (zI.lit (a := 1) (b := 1) (by decide)) (by decide)
            refine lv_goto (tgt := 71) hx hb dX10_findSoonest_116 (by decide) ?_
            exact ih71 w71_4 (w71_7 + 1) rw113 hw113_2 hw113_6 (k1.w (c := 0) (d := 6) (by decide)) jw113 fw113 (zI.up hw113_7 (by decide) hm71) H locs ls hw hS (lv_sub hl [1, 2, 3, 4, 5, 0] rfl)
          intro H locs ls hw hS hl
          refine lv_iload hx hb dX10_findSoonest_71 (lv_at hl 5 rfl) ?_
          refine lv_aload_n hx hb dX10_findSoonest_73 rfl (lv_at hl 0 rfl) ?_
          refine va_get (D := D) (ci := 9) (v := .ref (y 171)) hx hb hts hiX10 hown hK hw.1 200 kg200 rfl 0 (by decide) lf31 (fun _ h9 => h9) rfl dX10_findSoonest_74 ?_
          refine va_get (D := D) (ci := 2) (v := .int (rw71 171 9)) hx hb hts hiX2 hown hK hw.1 171 kg171 rfl 9 (by decide) lf56 (fun _ h9 => h9) rfl dX10_findSoonest_77 (zgen (lo := 0) (hi := 6) ((show zI 0 6 (rw71 171 9) from jw71.i 171 9)) (fun v2 hv2 => ?_))
          refine lv_icmp_ge (tgt := 119) hx hb dX10_findSoonest_80 (by decide) (fun c3 => ?_) (fun c3 => ?_)
          · refine lv_iload hx hb dX10_findSoonest_119 (lv_at hl 3 rfl) ?_
            refine lv_iload hx hb dX10_findSoonest_121 (lv_at hl 2 rfl) ?_
            refine lv_iconst (v := (-1)) hx hb dX10_findSoonest_123 (by decide) ?_
            refine lv_ixor hx hb dX10_findSoonest_124 (zgen (zI.top _) (fun v4 _ => ?_))
            refine lv_iand hx hb dX10_findSoonest_125 (zgen (zI.top _) (fun v5 _ => ?_))
            refine lv_if_ne (tgt := 130) hx hb dX10_findSoonest_126 (by decide) (fun c6 => ?_) (fun c6 => ?_)
            · refine lv_aload_n hx hb dX10_findSoonest_130 rfl (lv_at hl 0 rfl) ?_
              refine va_get (D := D) (ci := 9) (v := .ref (y 199)) hx hb hts hiX10 hown hK hw.1 200 kg200 rfl 1 (by decide) lf35 (fun _ h9 => h9) rfl dX10_findSoonest_131 ?_
              refine lv_aload_n hx hb dX10_findSoonest_134 rfl (lv_at hl 0 rfl) ?_
              refine va_get (D := D) (ci := 9) (v := .ref (y 0)) hx hb hts hiX10 hown hK hw.1 200 kg200 rfl 2 (by decide) lf12 (fun _ h9 => h9) rfl dX10_findSoonest_135 ?_
              refine kcallV (As := [.ref (y 0)]) (rest := []) ⟨hx, hb, hml, hown, hts⟩ (kc_passWeekA l D ct E y rw71 q jw71 hEi) (wqX10_101_kc_passWeekA hts ⟨Nat.le_of_ble_eq_true rfl, Nat.le_of_ble_eq_true rfl⟩) hw hS hA hK hZ hN 0 199 rfl kg199 rfl hl.1 rfl (Nat.le_of_ble_eq_true rfl) dX10_findSoonest_138 141 rfl (fun u7 H locs pu7 hw hS => ?_)
              have ju7 : kJ u7 := pu7.1
              have fu7 : zFt rw71 u7 := pu7.2.1
              have hw : zPD D A (kW ct E y u7 q) H := hw
              refine zfr 141 [] rfl rfl ?_
              refine lv_iinc (v := w43_6 + 1) (lv' := [(6, .int (w43_6 + 1)), (0, .ref (y 200)), (2, .int a2), (4, .int w71_4), (5, .int w43_5), (7, .int w71_7)]) hx hb dX10_findSoonest_141 hl (k := 4) rfl (rfl) (by decide) rfl (fun ls hl => ?_)
              have k9 : zI 1 100 (w43_6 + 1) := zI.add hw71_6 (zI.lit (a := 1) (b := 1) (by decide)) (by decide)
              refine lv_goto (tgt := 43) hx hb dX10_findSoonest_144 (by decide) ?_
              exact ih43 w71_4 w43_5 (w43_6 + 1) u7 hw71_2 (k9.w (c := 0) (d := 100) (by decide)) ju7 (fw71.tr fu7) (zI.up hw71_6 (by decide) hm43) H locs ls hw hS (lv_sub hl [1, 2, 3, 4, 0] rfl)
            · have k10 : zI 0 0 (v5) := zI.eqq c6 (zI.lit (a := 0) (b := 0) (c := 0) (by decide))
              exact zvretQ hQ hx hb hr hlocks rw71 rfl ⟨jw71, fw71, trivial⟩ hw hS dX10_findSoonest_129
          · have k11 : zI 0 5 (w71_7) := zI.ltU (zI.nle c3) hw71_7 hv2 (by decide)
            have k12 : zI 1 6 (v2) := zI.ltD (zI.nle c3) hw71_7 hv2 (by decide)
            refine lv_aload_n hx hb dX10_findSoonest_83 rfl (lv_at hl 0 rfl) ?_
            refine va_get (D := D) (ci := 9) (v := .ref (y 203)) hx hb hts hiX10 hown hK hw.1 200 kg200 rfl 5 (by decide) lf25 (fun _ h9 => h9) rfl dX10_findSoonest_84 ?_
            refine lv_iload hx hb dX10_findSoonest_87 (lv_at hl 5 rfl) ?_
            refine miald hx hb hK hw 203 kg203 k11 (by decide) dX10_findSoonest_89 (zgen (zI.top _) (fun v13 _ => ?_))
            refine lv_iconst (v := (-1)) hx hb dX10_findSoonest_90 (by decide) ?_
            refine lv_icmp_ne (tgt := 113) hx hb dX10_findSoonest_91 (by decide) (fun c14 => ?_) (fun c14 => ?_)
            · exact cut113 rw71 hw71_2 hw71_6 k11 jw71 fw71 H locs ls hw hS (lv_sub hl [0, 1, 2, 3, 4, 5] rfl)
            · have k15 : zI (-1) (-1) (v13) := zI.eqq c14 (zI.lit (a := (-1)) (b := (-1)) (c := (-1)) (by decide))
              refine lv_iload hx hb dX10_findSoonest_94 (lv_at hl 2 rfl) ?_
              refine lv_iload hx hb dX10_findSoonest_96 (lv_at hl 5 rfl) ?_
              refine zcallE (va_runSN (As := [.int w71_4, .int w71_7]) (rest := []) ⟨hx, hb, hml, hown, hts⟩ (kc_has l D ct w71_4 w71_7 H.size) ⟨va_cnB 2 hts (kgN (zr16 23 rfl)) rfl rfl rfl (hN.1 (RX10, 69, yX11_has, RX11) (List.mem_of_getElem? (i := 14) rfl)) (hts (.initialized RX11) (ki (zr1 2 rfl))) (by decide +kernel) ⟨Nat.le_of_ble_eq_true rfl, Nat.le_of_ble_eq_true rfl⟩, hts (.static yX11_has) (ki (zr16 22 rfl)), trivial⟩ (zpreS hK hw hS hA zZ.nil hN [] rfl rfl) rfl rfl hl.1 rfl (lv_room (Nat.le_of_ble_eq_true rfl)) dX10_findSoonest_98 ⟨Nat.le_of_ble_eq_true rfl, Nat.le_of_ble_eq_true rfl⟩) hw hS hA kWn 101 rfl (fun u16 H locs pu16 hw hS => ?_)
              have hu16 : zI 0 1 u16 := pu16.1
              have xu16 : u16 = (Gk_has w71_4 w71_7) := pu16.2.1
              refine zfr 101 [.int u16] rfl rfl ?_
              refine lv_if_eq (tgt := 113) hx hb dX10_findSoonest_101 (by decide) (fun c18 => ?_) (fun c18 => ?_)
              · have k19 : zI 0 0 (u16) := zI.eqq c18 (zI.lit (a := 0) (b := 0) (c := 0) (by decide))
                exact cut113 rw71 hw71_2 hw71_6 k11 jw71 fw71 H locs ls hw hS (lv_sub hl [0, 1, 2, 3, 4, 5] rfl)
              · have k20 : zI 1 1 (u16) := zI.neD c18 hu16 (zI.lit (a := 0) (b := 0) (c := 0) (by decide)) (by decide)
                refine lv_aload_n hx hb dX10_findSoonest_104 rfl (lv_at hl 0 rfl) ?_
                refine va_get (D := D) (ci := 9) (v := .ref (y 203)) hx hb hts hiX10 hown hK hw.1 200 kg200 rfl 5 (by decide) lf25 (fun _ h9 => h9) rfl dX10_findSoonest_105 ?_
                refine lv_iload hx hb dX10_findSoonest_108 (lv_at hl 5 rfl) ?_
                refine lv_iload hx hb dX10_findSoonest_110 (lv_at hl 4 rfl) ?_
                refine miast hx hb hK hw hS 203 kg203 k11 (by decide) dX10_findSoonest_112 (kW ct E y (zset rw71 203 (upd (rw71 203) (zn w71_7) w43_6)) q) ks203 (fun H locs hw hS => ?_)
                refine cmgen (P := fun x => kJ x ∧ zFt r x) hw ⟨jw71.set rfl (zI.top _), fw71.set rfl⟩ (fun r21 er21 hw pr21 => ?_)
                exact cut113 r21 hw71_2 hw71_6 k11 pr21.1 pr21.2 H locs ls hw hS (lv_sub hl [0, 1, 2, 3, 4, 5] rfl)
      intro H locs ls hw hS hl
      refine lv_iload hx hb dX10_findSoonest_43 (lv_at hl 4 rfl) ?_
      refine lv_bipush (v := 99) hx hb dX10_findSoonest_45 (by decide) ?_
      refine lv_icmp_gt (tgt := 147) hx hb dX10_findSoonest_47 (by decide) (fun c22 => ?_) (fun c22 => ?_)
      · have k23 : zI 100 100 (w43_6) := zI.ltD c22 (zI.lit (a := 99) (b := 99) (c := 99) (by decide)) hw43_6 (by decide)
        exact zvretQ hQ hx hb hr hlocks rw43 rfl ⟨jw43, fw43, trivial⟩ hw hS dX10_findSoonest_147
      · have k24 : zI 0 99 (w43_6) := zI.leU (zI.nlt c22) hw43_6 (zI.lit (a := 99) (b := 99) (c := 99) (by decide)) (by decide)
        refine lv_aload_n hx hb dX10_findSoonest_50 rfl (lv_at hl 0 rfl) ?_
        refine lv_aload_n hx hb dX10_findSoonest_51 rfl (lv_at hl 0 rfl) ?_
        refine va_get (D := D) (ci := 9) (v := .ref (y 0)) hx hb hts hiX10 hown hK hw.1 200 kg200 rfl 2 (by decide) lf12 (fun _ h9 => h9) rfl dX10_findSoonest_52 ?_
        refine lv_iload_n hx hb dX10_findSoonest_55 rfl (lv_at hl 1 rfl) ?_
        refine lv_iconst (v := 0) hx hb dX10_findSoonest_56 (by decide) ?_
        refine kcallV (As := [.ref (y 0), .int a2, .int 0]) (rest := []) ⟨hx, hb, hml, hown, hts⟩ (kc_layA l D ct E y a2 (0 : Int32) rw43 q hw43_2 jw43 hEi) (wqX10_77_kc_layA hts ⟨Nat.le_of_ble_eq_true rfl, Nat.le_of_ble_eq_true rfl⟩) hw hS hA hK hZ hN 9 200 rfl kg200 rfl hl.1 rfl (Nat.le_of_ble_eq_true rfl) dX10_findSoonest_57 60 rfl (fun u25 H locs pu25 hw hS => ?_)
        have ju25 : kJ u25 := pu25.1
        have fu25 : zFr [182, 202] rw43 u25 := pu25.2.1
        have hw : zPD D A (kW ct E y u25 q) H := hw
        refine zfr 60 [] rfl rfl ?_
        refine lv_aload_n hx hb dX10_findSoonest_60 rfl (lv_at hl 0 rfl) ?_
        refine lv_iload hx hb dX10_findSoonest_61 (lv_at hl 2 rfl) ?_
        refine kcallV (As := [.int w43_4]) (rest := []) ⟨hx, hb, hml, hown, hts⟩ (kc_spread l D ct E y w43_4 u25 q ju25 hEi) (wqX10_81_kc_spread hts ⟨Nat.le_of_ble_eq_true rfl, Nat.le_of_ble_eq_true rfl⟩) hw hS hA hK hZ hN 9 200 rfl kg200 rfl hl.1 rfl (Nat.le_of_ble_eq_true rfl) dX10_findSoonest_63 66 rfl (fun u27 H locs pu27 hw hS => ?_)
        have hu27 : zI (-2147483648) 2147483647 u27 := pu27.1
        have hw : zPD D A (kW ct E y u25 q) H := hw
        refine zfr 66 [.int u27] rfl rfl ?_
        refine lv_istore (lv' := [(4, .int u27), (0, .ref (y 200)), (2, .int a2), (5, .int w43_5), (6, .int w43_6)]) hx hb dX10_findSoonest_66 hl (by decide) rfl (fun ls hl => ?_)
        refine lv_iconst (v := 0) hx hb dX10_findSoonest_68 (by decide) ?_
        refine lv_istore (lv' := [(7, .int 0), (4, .int u27), (0, .ref (y 200)), (2, .int a2), (5, .int w43_5), (6, .int w43_6)]) hx hb dX10_findSoonest_69 hl (by decide) rfl (fun ls hl => ?_)
        exact cut71 7 u27 0 u25 hw43_2 k24 ((zI.lit (a := 0) (b := 0) (c := 0) (by decide)).w (c := 0) (d := 6) (by decide)) ju25 (fw43.trF fu25 rfl) (zI.m0 (zI.lit (a := 0) (b := 0) (c := 0) (by decide)) (by decide)) H locs ls hw hS (lv_sub hl [2, 3, 1, 4, 5, 0] rfl)
  intro H locs hw hS ls hl
  have hl : lv_has ls 8 [(0, .ref (y 200)), (1, .ref (y 6)), (2, .int a2), (3, .int a3)] := hl
  refine lv_iconst (v := 1) hx hb dX10_findSoonest_0 (by decide) ?_
  refine lv_aload_n hx hb dX10_findSoonest_1 rfl (lv_at hl 1 rfl) ?_
  refine va_get (D := D) (ci := 7) (v := .ref (y 7)) hx hb hts hiX8 hown hK hw.1 6 kg6 rfl 0 (by decide) lf66 (fun _ h9 => h9) rfl dX10_findSoonest_2 ?_
  refine lv_iload_n hx hb dX10_findSoonest_5 rfl (lv_at hl 2 rfl) ?_
  refine miald hx hb hK hw 7 kg7 g2 (by decide) dX10_findSoonest_6 (zgen (lo := 0) (hi := 5) ((show zI 0 5 (r 7 _) from hJ0.i 7 _)) (fun v29 hv29 => ?_))
  refine lv_ishl hx hb dX10_findSoonest_7 (zgen (lo := 1) (hi := 32) (zI.shl hv29 5 (by decide)) (fun v30 hv30 => ?_))
  refine lv_istore (lv' := [(4, .int v30), (0, .ref (y 200)), (1, .ref (y 6)), (2, .int a2), (3, .int a3)]) hx hb dX10_findSoonest_8 hl (by decide) rfl (fun ls hl => ?_)
  refine lv_iload_n hx hb dX10_findSoonest_10 rfl (lv_at hl 4 rfl) ?_
  refine lv_aload_n hx hb dX10_findSoonest_11 rfl (lv_at hl 1 rfl) ?_
  refine lv_aload_n hx hb dX10_findSoonest_12 rfl (lv_at hl 2 rfl) ?_
  refine va_get (D := D) (ci := 7) (v := .ref (y 7)) hx hb hts hiX8 hown hK hw.1 6 kg6 rfl 0 (by decide) lf66 (fun _ h9 => h9) rfl dX10_findSoonest_13 ?_
  refine lv_iload_n hx hb dX10_findSoonest_16 rfl (lv_at hl 3 rfl) ?_
  refine miald hx hb hK hw 7 kg7 g2 (by decide) dX10_findSoonest_17 (zgen (lo := 0) (hi := 5) ((show zI 0 5 (r 7 _) from hJ0.i 7 _)) (fun v31 hv31 => ?_))
  refine kcallV (As := [.int v31]) (rest := [.int a3]) ⟨hx, hb, hml, hown, hts⟩ (kc_linkedTo l D ct E y v31 r q hJ0 hEi) (wqX10_94_kc_linkedTo hts ⟨Nat.le_of_ble_eq_true rfl, Nat.le_of_ble_eq_true rfl⟩) hw hS hA hK hZ hN 9 200 rfl kg200 rfl hl.1 rfl (Nat.le_of_ble_eq_true rfl) dX10_findSoonest_18 21 rfl (fun u32 H locs pu32 hw hS => ?_)
  obtain ⟨v33, r34⟩ := u32
  have hv33 : zI (-2147483648) 2147483647 v33 := pu32.1
  have ju32 : kJ r34 := pu32.2.1
  have fu32 : zFr [202] r r34 := pu32.2.2.1
  have hw : zPD D A (kW ct E y r34 q) H := hw
  refine zfr 21 [.int v33, .int a3] rfl rfl ?_
  refine lv_iand hx hb dX10_findSoonest_21 (zgen (zI.top _) (fun v35 _ => ?_))
  refine lv_istore (lv' := [(5, .int v35), (4, .int v30), (0, .ref (y 200)), (1, .ref (y 6)), (2, .int a2), (3, .int a3)]) hx hb dX10_findSoonest_22 hl (by decide) rfl (fun ls hl => ?_)
  refine lv_aload_n hx hb dX10_findSoonest_24 rfl (lv_at hl 2 rfl) ?_
  refine va_get (D := D) (ci := 9) (v := .ref (y 203)) hx hb hts hiX10 hown hK hw.1 200 kg200 rfl 5 (by decide) lf25 (fun _ h9 => h9) rfl dX10_findSoonest_25 ?_
  refine lv_iconst (v := (-1)) hx hb dX10_findSoonest_28 (by decide) ?_
  refine kcallZS (As := [.ref (y 203), .int (-1)]) (rest := []) [203] (by decide) rfl ⟨hx, hb, hml, hown, hts⟩ (c_fill l D ct (y 203) ((-1) : Int32) 6 (r34 203) (by decide)) (va_cwS 2 hts (kgSm (zr42 14 rfl) (zr10 23 rfl) (zr11 0 rfl) mL_J7_fill_53178) rfl rfl rfl (by decide +kernel) ⟨Nat.le_of_ble_eq_true rfl, Nat.le_of_ble_eq_true rfl⟩) hw hS hA hK hN rfl rfl hl.1 rfl (Nat.le_of_ble_eq_true rfl) dX10_findSoonest_29 32 rfl (zset r34 203 (zfl (r34 203) ((-1) : Int32) 6)) q (fun _ => rfl) kset1x (fun _ H locs _ hw hS => ?_)
  refine zfr 32 [] rfl rfl ?_
  refine cmgen (P := fun x => kJ x ∧ zFt r x) hw ⟨ju32.fill rfl (fun _ => zI.top _), ((zFt.refl).trF fu32 rfl).set rfl⟩ (fun r36 er36 hw pr36 => ?_)
  refine lv_aload_n hx hb dX10_findSoonest_32 rfl (lv_at hl 2 rfl) ?_
  refine va_get (D := D) (ci := 9) (v := .ref (y 0)) hx hb hts hiX10 hown hK hw.1 200 kg200 rfl 2 (by decide) lf12 (fun _ h9 => h9) rfl dX10_findSoonest_33 ?_
  refine lv_aload_n hx hb dX10_findSoonest_36 rfl (lv_at hl 3 rfl) ?_
  refine kcallZ (As := [.ref (y 6)]) (rest := []) (kis8 0 6) (kis8l ⟨by decide, by decide⟩ ⟨by decide, by decide⟩) (kis8w ⟨by decide, by decide⟩ ⟨by decide, by decide⟩) ⟨hx, hb, hml, hown, hts⟩ (c_X8_copy l D ct (y 0) (y 6) (y (0 + 1)) (y (0 + 2)) (y (0 + 3)) (y (0 + 4)) (y (0 + 5)) (y (6 + 1)) (y (6 + 2)) (y (6 + 3)) (y (6 + 4)) (y (6 + 5)) (r36 (0 + 1)) (r36 (0 + 2)) (r36 (0 + 3)) (r36 (0 + 4)) (r36 (0 + 5)) (r36 (6 + 1)) (r36 (6 + 2)) (r36 (6 + 3)) (r36 (6 + 4)) (r36 (6 + 5)) (r36 0 5) (r36 6 5)) (cwV 1 hts (kgVm (zr44 23 rfl) (zr35 21 rfl) (zr35 22 rfl) (zr2 18 rfl) mL_X8_copy) rfl rfl rfl (by decide +kernel) ⟨Nat.le_of_ble_eq_true rfl, Nat.le_of_ble_eq_true rfl⟩) hw hS hA hK hN (kis8n ⟨by decide, by decide⟩ ⟨by decide, by decide⟩ (by decide)) 7 0 rfl (kis8o ⟨by decide, by decide⟩) rfl hl.1 rfl (Nat.le_of_ble_eq_true rfl) dX10_findSoonest_37 40 rfl (kcp8 r36 0 6) q (fun _ => kis8B ⟨by decide, by decide⟩ ⟨by decide, by decide⟩ (by decide)) kis8x (fun _ H locs _ hw hS => ?_)
  refine zfr 40 [] rfl rfl ?_
  refine cmgen (P := fun x => kJ x ∧ zFt r x) hw ⟨pr36.1.copy8 ⟨by decide, by decide⟩ ⟨by decide, by decide⟩, (pr36.2.cp8 (by decide))⟩ (fun r37 er37 hw pr37 => ?_)
  refine lv_iconst (v := 0) hx hb dX10_findSoonest_40 (by decide) ?_
  refine lv_istore (lv' := [(6, .int 0), (5, .int v35), (4, .int v30), (0, .ref (y 200)), (1, .ref (y 6)), (2, .int a2), (3, .int a3)]) hx hb dX10_findSoonest_41 hl (by decide) rfl (fun ls hl => ?_)
  exact cut43 101 v30 v35 0 r37 g2 ((zI.lit (a := 0) (b := 0) (c := 0) (by decide)).w (c := 0) (d := 100) (by decide)) pr37.1 pr37.2 (zI.m0 (zI.lit (a := 0) (b := 0) (c := 0) (by decide)) (by decide)) H locs ls hw hS (lv_sub hl [3, 5, 2, 1, 0] rfl)

set_option maxHeartbeats 4000000 in
set_option maxRecDepth 100000 in
theorem kc_waitForSoonest (l : Launch) (D : va_G) (ct : Nat → ClassId) (E : Nat → Nat) (y : Nat → Nat) (r : zRr) (q : zRq) (hJ0 : kJ r) (hEi : kEi E) : cC l yX10_waitForSoonest (.code yX10_waitForSoonest cX10_waitForSoonest 3 none :: wsL_law0) ({ frames := 2, cells := 0, slots := 0, locals := 120 }) D ct E [.ref (y 200)] (kW ct E y r q) (S := zRr) (fun u => none) (fun u => kJ u ∧ zFr [204] r u ∧ True) (fun u => kW ct E y u q) := by
  refine cofQ cX10_waitForSoonest 3 none (by decide) rfl (Nat.le_of_ble_eq_true rfl) ?_
  intro p e s m below meth c A a9 Q ha9 hx hb hr hml hts hown hlocks hname hK hA hZ hN hQ
  have hown : s.vm.findClass RX10 = some m.cls := hown
  have hiX10 : ∀ w ∈ wsX100, w ∈ .code yX10_waitForSoonest cX10_waitForSoonest 3 none :: wsL_law0 := fun _ h => ki (zs_wsX100 _ h)
  have hiX2 : ∀ w ∈ wsX20, w ∈ .code yX10_waitForSoonest cX10_waitForSoonest 3 none :: wsL_law0 := fun _ h => ki (zs_wsX20 _ h)
  have lf25 := hts (.fieldLink RX10 25 "BeardPass$Ways" "soonest" "[I") (ki (zr6 10 rfl))
  have lf28 := hts (.fieldLink RX10 28 "BeardPass$Ways" "latest" "[I") (ki (zr6 11 rfl))
  have lf31 := hts (.fieldLink RX10 31 "BeardPass$Ways" "land" "LBeardPass$Land;") (ki (zr6 12 rfl))
  have lf56 := hts (.fieldLink RX10 56 "BeardPass$Land" "towns" "I") (ki (zr42 11 rfl))
  have cut2 : ∀ (n : Nat) (w2_1 : Int32) (rw2 : zRr) (hw2_1 : zI 0 6 w2_1) (jw2 : kJ rw2) (fw2 : zFr [204] r rw2), 6 - w2_1.toInt < (n : Int) → zKf p l e ({ frames := 2, cells := 0, slots := 0, locals := 120 }) s m a9 below meth c Q D A 2 3 [] (kW ct E y rw2 q) [(0, .ref (y 200)), (1, .int w2_1)] := by
    intro n
    induction n with
    | zero => intro w2_1 rw2 hw2_1 jw2 fw2 hm2; exact zI.no hw2_1 (by decide) hm2
    | succ n ih2 =>
      intro w2_1 rw2 hw2_1 jw2 fw2 hm2
      have cut67 : ∀ (w67_s0 : Int32) (hw67_1 : zI 0 5 w2_1) (hw67_s1 : zI 0 5 w2_1), zKf p l e ({ frames := 2, cells := 0, slots := 0, locals := 120 }) s m a9 below meth c Q D A 67 3 [.int w67_s0, .int w2_1, .ref (y 204)] (kW ct E y rw2 q) [(0, .ref (y 200)), (1, .int w2_1)] := by
        intro w67_s0 hw67_1 hw67_s1 H locs ls hw hS hl
        refine miast hx hb hK hw hS 204 kg204 hw67_s1 (by decide) dX10_waitForSoonest_67 (kW ct E y (zset rw2 204 (upd (rw2 204) (zn w2_1) w67_s0)) q) ks204 (fun H locs hw hS => ?_)
        refine cmgen (P := fun x => kJ x ∧ zFr [204] r x) hw ⟨jw2.set rfl (zI.top _), fw2.set rfl⟩ (fun r1 er1 hw pr1 => ?_)
        refine lv_iinc (v := w2_1 + 1) (lv' := [(1, .int (w2_1 + 1)), (0, .ref (y 200))]) hx hb dX10_waitForSoonest_68 hl (k := 1) rfl (rfl) (by decide) rfl (fun ls hl => ?_)
        have k2 : zI 1 6 (w2_1 + 1) := zI.add hw67_s1 (zI.lit (a := 1) (b := 1) (by decide)) (by decide)
        refine lv_goto (tgt := 2) hx hb dX10_waitForSoonest_71 (by decide) ?_
        exact ih2 (w2_1 + 1) r1 (k2.w (c := 0) (d := 6) (by decide)) pr1.1 pr1.2 (zI.up hw67_s1 (by decide) hm2) H locs ls hw hS (lv_sub hl [1, 0] rfl)
      have cut38 : ∀ (w38_s0 : Int32) (hw38_1 : zI 0 5 w2_1) (hw38_s0 : zI 0 1 w38_s0), zKf p l e ({ frames := 2, cells := 0, slots := 0, locals := 120 }) s m a9 below meth c Q D A 38 3 [.int w38_s0] (kW ct E y rw2 q) [(0, .ref (y 200)), (1, .int w2_1)] := by
        intro w38_s0 hw38_1 hw38_s0 H locs ls hw hS hl
        refine lv_istore_n (lv' := [(2, .int w38_s0), (0, .ref (y 200)), (1, .int w2_1)]) hx hb dX10_waitForSoonest_38 rfl hl (by decide) rfl (fun ls hl => ?_)
        refine lv_aload_n hx hb dX10_waitForSoonest_39 rfl (lv_at hl 1 rfl) ?_
        refine va_get (D := D) (ci := 9) (v := .ref (y 204)) hx hb hts hiX10 hown hK hw.1 200 kg200 rfl 6 (by decide) lf28 (fun _ h9 => h9) rfl dX10_waitForSoonest_40 ?_
        refine lv_iload_n hx hb dX10_waitForSoonest_43 rfl (lv_at hl 2 rfl) ?_
        refine lv_iload_n hx hb dX10_waitForSoonest_44 rfl (lv_at hl 0 rfl) ?_
        refine lv_if_eq (tgt := 52) hx hb dX10_waitForSoonest_45 (by decide) (fun c3 => ?_) (fun c3 => ?_)
        · have k4 : zI 0 0 (w38_s0) := zI.eqq c3 (zI.lit (a := 0) (b := 0) (c := 0) (by decide))
          refine lv_aload_n hx hb dX10_waitForSoonest_52 rfl (lv_at hl 1 rfl) ?_
          refine va_get (D := D) (ci := 9) (v := .ref (y 204)) hx hb hts hiX10 hown hK hw.1 200 kg200 rfl 6 (by decide) lf28 (fun _ h9 => h9) rfl dX10_waitForSoonest_53 ?_
          refine lv_iload_n hx hb dX10_waitForSoonest_56 rfl (lv_at hl 2 rfl) ?_
          refine miald hx hb hK hw 204 kg204 hw38_1 (by decide) dX10_waitForSoonest_57 (zgen (zI.top _) (fun v5 _ => ?_))
          refine lv_aload_n hx hb dX10_waitForSoonest_58 rfl (lv_at hl 1 rfl) ?_
          refine va_get (D := D) (ci := 9) (v := .ref (y 203)) hx hb hts hiX10 hown hK hw.1 200 kg200 rfl 5 (by decide) lf25 (fun _ h9 => h9) rfl dX10_waitForSoonest_59 ?_
          refine lv_iload_n hx hb dX10_waitForSoonest_62 rfl (lv_at hl 2 rfl) ?_
          refine miald hx hb hK hw 203 kg203 hw38_1 (by decide) dX10_waitForSoonest_63 (zgen (zI.top _) (fun v6 _ => ?_))
          refine va_mmax hx hb (hml.trans hl.1.symm) hown (hts (.methodLink RX10 104 Lib.Math.max.name) (ki (zr49 14 rfl))) (hts (.static Lib.Math.max.name) (ki (zr40 8 rfl))) (hts (.initialized "java/lang/Math") (ki (zr35 18 rfl))) (hts (.code Lib.Math.max.name Lib.Math.max.code 2 (some .int)) (ki (zr40 9 rfl))) (Nat.le_of_ble_eq_true rfl) (Nat.le_of_ble_eq_true rfl) (Nat.le_of_ble_eq_true rfl) (Nat.le_of_ble_eq_true rfl) dX10_waitForSoonest_64 (zgen (zI.top _) (fun v7 _ => ?_))
          exact cut67 v7 hw38_1 hw38_1 H locs ls hw hS (lv_sub hl [1, 2] rfl)
        · have k8 : zI 1 1 (w38_s0) := zI.neD c3 hw38_s0 (zI.lit (a := 0) (b := 0) (c := 0) (by decide)) (by decide)
          refine lv_iconst (v := (-1)) hx hb dX10_waitForSoonest_48 (by decide) ?_
          refine lv_goto (tgt := 67) hx hb dX10_waitForSoonest_49 (by decide) ?_
          exact cut67 (-1) hw38_1 hw38_1 H locs ls hw hS (lv_sub hl [1, 2] rfl)
      have cut33 : ∀ (hw33_1 : zI 0 5 w2_1), zKf p l e ({ frames := 2, cells := 0, slots := 0, locals := 120 }) s m a9 below meth c Q D A 33 3 [] (kW ct E y rw2 q) [(0, .ref (y 200)), (1, .int w2_1)] := by
        intro hw33_1 H locs ls hw hS hl
        refine lv_iconst (v := 1) hx hb dX10_waitForSoonest_33 (by decide) ?_
        refine lv_goto (tgt := 38) hx hb dX10_waitForSoonest_34 (by decide) ?_
        exact cut38 1 hw33_1 ((zI.lit (a := 1) (b := 1) (c := 1) (by decide)).w (c := 0) (d := 1) (by decide)) H locs ls hw hS (lv_sub hl [0, 1] rfl)
      intro H locs ls hw hS hl
      refine lv_iload_n hx hb dX10_waitForSoonest_2 rfl (lv_at hl 1 rfl) ?_
      refine lv_aload_n hx hb dX10_waitForSoonest_3 rfl (lv_at hl 0 rfl) ?_
      refine va_get (D := D) (ci := 9) (v := .ref (y 171)) hx hb hts hiX10 hown hK hw.1 200 kg200 rfl 0 (by decide) lf31 (fun _ h9 => h9) rfl dX10_waitForSoonest_4 ?_
      refine va_get (D := D) (ci := 2) (v := .int (rw2 171 9)) hx hb hts hiX2 hown hK hw.1 171 kg171 rfl 9 (by decide) lf56 (fun _ h9 => h9) rfl dX10_waitForSoonest_7 (zgen (lo := 0) (hi := 6) ((show zI 0 6 (rw2 171 9) from jw2.i 171 9)) (fun v9 hv9 => ?_))
      refine lv_icmp_ge (tgt := 74) hx hb dX10_waitForSoonest_10 (by decide) (fun c10 => ?_) (fun c10 => ?_)
      · exact zvretQ hQ hx hb hr hlocks rw2 rfl ⟨jw2, fw2, trivial⟩ hw hS dX10_waitForSoonest_74
      · have k11 : zI 0 5 (w2_1) := zI.ltU (zI.nle c10) hw2_1 hv9 (by decide)
        have k12 : zI 1 6 (v9) := zI.ltD (zI.nle c10) hw2_1 hv9 (by decide)
        refine lv_aload_n hx hb dX10_waitForSoonest_13 rfl (lv_at hl 0 rfl) ?_
        refine va_get (D := D) (ci := 9) (v := .ref (y 204)) hx hb hts hiX10 hown hK hw.1 200 kg200 rfl 6 (by decide) lf28 (fun _ h9 => h9) rfl dX10_waitForSoonest_14 ?_
        refine lv_iload_n hx hb dX10_waitForSoonest_17 rfl (lv_at hl 1 rfl) ?_
        refine miald hx hb hK hw 204 kg204 k11 (by decide) dX10_waitForSoonest_18 (zgen (zI.top _) (fun v13 _ => ?_))
        refine lv_iconst (v := (-1)) hx hb dX10_waitForSoonest_19 (by decide) ?_
        refine lv_icmp_eq (tgt := 33) hx hb dX10_waitForSoonest_20 (by decide) (fun c14 => ?_) (fun c14 => ?_)
        · have k15 : zI (-1) (-1) (v13) := zI.eqq c14 (zI.lit (a := (-1)) (b := (-1)) (c := (-1)) (by decide))
          exact cut33 k11 H locs ls hw hS (lv_sub hl [0, 1] rfl)
        · refine lv_aload_n hx hb dX10_waitForSoonest_23 rfl (lv_at hl 0 rfl) ?_
          refine va_get (D := D) (ci := 9) (v := .ref (y 203)) hx hb hts hiX10 hown hK hw.1 200 kg200 rfl 5 (by decide) lf25 (fun _ h9 => h9) rfl dX10_waitForSoonest_24 ?_
          refine lv_iload_n hx hb dX10_waitForSoonest_27 rfl (lv_at hl 1 rfl) ?_
          refine miald hx hb hK hw 203 kg203 k11 (by decide) dX10_waitForSoonest_28 (zgen (zI.top _) (fun v16 _ => ?_))
          refine lv_iconst (v := (-1)) hx hb dX10_waitForSoonest_29 (by decide) ?_
          refine lv_icmp_ne (tgt := 37) hx hb dX10_waitForSoonest_30 (by decide) (fun c17 => ?_) (fun c17 => ?_)
          · refine lv_iconst (v := 0) hx hb dX10_waitForSoonest_37 (by decide) ?_
            exact cut38 0 k11 ((zI.lit (a := 0) (b := 0) (c := 0) (by decide)).w (c := 0) (d := 1) (by decide)) H locs ls hw hS (lv_sub hl [0, 1] rfl)
          · have k18 : zI (-1) (-1) (v16) := zI.eqq c17 (zI.lit (a := (-1)) (b := (-1)) (c := (-1)) (by decide))
            exact cut33 k11 H locs ls hw hS (lv_sub hl [0, 1] rfl)
  intro H locs hw hS ls hl
  have hl : lv_has ls 3 [(0, .ref (y 200))] := hl
  refine lv_iconst (v := 0) hx hb dX10_waitForSoonest_0 (by decide) ?_
  refine lv_istore_n (lv' := [(1, .int 0), (0, .ref (y 200))]) hx hb dX10_waitForSoonest_1 rfl hl (by decide) rfl (fun ls hl => ?_)
  exact cut2 7 0 r ((zI.lit (a := 0) (b := 0) (c := 0) (by decide)).w (c := 0) (d := 6) (by decide)) hJ0 (zFr.refl) (zI.m0 (zI.lit (a := 0) (b := 0) (c := 0) (by decide)) (by decide)) H locs ls hw hS (lv_sub hl [1, 0] rfl)

set_option maxHeartbeats 4000000 in
set_option maxRecDepth 100000 in
theorem kc_wander (l : Launch) (D : va_G) (ct : Nat → ClassId) (E : Nat → Nat) (y : Nat → Nat) (a1 : Int32) (r : zRr) (q : zRq) (g1 : zI 0 63 a1) (hJ0 : kJ r) (hEi : kEi E) : cC l yX10_wander (.code yX10_wander cX10_wander 5 none :: wsL_law0) ({ frames := 3, cells := 0, slots := 0, locals := 160 }) D ct E [.ref (y 200), .int a1] (kW ct E y r q) (S := zRr) (fun u => none) (fun u => kJ u ∧ zFr [201] r u ∧ True) (fun u => kW ct E y u q) := by
  refine cofQ cX10_wander 5 none (by decide) rfl (Nat.le_of_ble_eq_true rfl) ?_
  intro p e s m below meth c A a9 Q ha9 hx hb hr hml hts hown hlocks hname hK hA hZ hN hQ
  have hown : s.vm.findClass RX10 = some m.cls := hown
  have hiX10 : ∀ w ∈ wsX100, w ∈ .code yX10_wander cX10_wander 5 none :: wsL_law0 := fun _ h => ki (zs_wsX100 _ h)
  have hiX2 : ∀ w ∈ wsX20, w ∈ .code yX10_wander cX10_wander 5 none :: wsL_law0 := fun _ h => ki (zs_wsX20 _ h)
  have lf18 := hts (.fieldLink RX10 18 "BeardPass$Ways" "standsAfter" "[I") (ki (zr6 8 rfl))
  have lf31 := hts (.fieldLink RX10 31 "BeardPass$Ways" "land" "LBeardPass$Land;") (ki (zr6 12 rfl))
  have lf56 := hts (.fieldLink RX10 56 "BeardPass$Land" "towns" "I") (ki (zr42 11 rfl))
  have cut66 : ∀ (n : Nat) (w66_3 : Int32) (w66_4 : Int32) (rw66 : zRr) (hw66_1 : zI 0 63 a1) (hw66_4 : zI 0 6 w66_4) (jw66 : kJ rw66) (fw66 : zFr [201] r rw66), 6 - w66_4.toInt < (n : Int) → zKf p l e ({ frames := 3, cells := 0, slots := 0, locals := 160 }) s m a9 below meth c Q D A 66 5 [] (kW ct E y rw66 q) [(0, .ref (y 200)), (1, .int a1), (3, .int w66_3), (4, .int w66_4)] := by
    intro n
    induction n with
    | zero => intro w66_3 w66_4 rw66 hw66_1 hw66_4 jw66 fw66 hm66; exact zI.no hw66_4 (by decide) hm66
    | succ n ih66 =>
      intro w66_3 w66_4 rw66 hw66_1 hw66_4 jw66 fw66 hm66
      have cut105 : ∀ (rw105 : zRr) (hw105_1 : zI 0 63 a1) (hw105_4 : zI 0 5 w66_4) (jw105 : kJ rw105) (fw105 : zFr [201] r rw105), zKf p l e ({ frames := 3, cells := 0, slots := 0, locals := 160 }) s m a9 below meth c Q D A 105 5 [] (kW ct E y rw105 q) [(0, .ref (y 200)), (1, .int a1), (3, .int w66_3), (4, .int w66_4)] := by
        intro rw105 hw105_1 hw105_4 jw105 fw105 H locs ls hw hS hl
        refine lv_iinc (v := w66_4 + 1) (lv' := [(4, .int (w66_4 + 1)), (0, .ref (y 200)), (1, .int a1), (3, .int w66_3)]) hx hb dX10_wander_105 hl (k := 3) rfl (rfl) (by decide) rfl (fun ls hl => ?_)
        have k1 : zI 1 6 (w66_4 + 1) := zI.add hw105_4 (zI.lit (a := 1) (b := 1) (by decide)) (by decide)
        refine lv_goto (tgt := 66) hx hb dX10_wander_108 (by decide) ?_
        exact ih66 w66_3 (w66_4 + 1) rw105 hw105_1 (k1.w (c := 0) (d := 6) (by decide)) jw105 fw105 (zI.up hw105_4 (by decide) hm66) H locs ls hw hS (lv_sub hl [1, 2, 3, 0] rfl)
      intro H locs ls hw hS hl
      refine lv_iload hx hb dX10_wander_66 (lv_at hl 3 rfl) ?_
      refine lv_aload_n hx hb dX10_wander_68 rfl (lv_at hl 0 rfl) ?_
      refine va_get (D := D) (ci := 9) (v := .ref (y 171)) hx hb hts hiX10 hown hK hw.1 200 kg200 rfl 0 (by decide) lf31 (fun _ h9 => h9) rfl dX10_wander_69 ?_
      refine va_get (D := D) (ci := 2) (v := .int (rw66 171 9)) hx hb hts hiX2 hown hK hw.1 171 kg171 rfl 9 (by decide) lf56 (fun _ h9 => h9) rfl dX10_wander_72 (zgen (lo := 0) (hi := 6) ((show zI 0 6 (rw66 171 9) from jw66.i 171 9)) (fun v2 hv2 => ?_))
      refine lv_icmp_ge (tgt := 111) hx hb dX10_wander_75 (by decide) (fun c3 => ?_) (fun c3 => ?_)
      · exact zvretQ hQ hx hb hr hlocks rw66 rfl ⟨jw66, fw66, trivial⟩ hw hS dX10_wander_111
      · have k4 : zI 0 5 (w66_4) := zI.ltU (zI.nle c3) hw66_4 hv2 (by decide)
        have k5 : zI 1 6 (v2) := zI.ltD (zI.nle c3) hw66_4 hv2 (by decide)
        refine lv_iload_n hx hb dX10_wander_78 rfl (lv_at hl 2 rfl) ?_
        refine lv_iload hx hb dX10_wander_79 (lv_at hl 3 rfl) ?_
        refine zcallE (va_runSN (As := [.int w66_3, .int w66_4]) (rest := []) ⟨hx, hb, hml, hown, hts⟩ (kc_has l D ct w66_3 w66_4 H.size) ⟨va_cnB 2 hts (kgN (zr16 23 rfl)) rfl rfl rfl (hN.1 (RX10, 69, yX11_has, RX11) (List.mem_of_getElem? (i := 14) rfl)) (hts (.initialized RX11) (ki (zr1 2 rfl))) (by decide +kernel) ⟨Nat.le_of_ble_eq_true rfl, Nat.le_of_ble_eq_true rfl⟩, hts (.static yX11_has) (ki (zr16 22 rfl)), trivial⟩ (zpreS hK hw hS hA zZ.nil hN [] rfl rfl) rfl rfl hl.1 rfl (lv_room (Nat.le_of_ble_eq_true rfl)) dX10_wander_81 ⟨Nat.le_of_ble_eq_true rfl, Nat.le_of_ble_eq_true rfl⟩) hw hS hA kWn 84 rfl (fun u6 H locs pu6 hw hS => ?_)
        have hu6 : zI 0 1 u6 := pu6.1
        have xu6 : u6 = (Gk_has w66_3 w66_4) := pu6.2.1
        refine zfr 84 [.int u6] rfl rfl ?_
        refine lv_if_eq (tgt := 105) hx hb dX10_wander_84 (by decide) (fun c8 => ?_) (fun c8 => ?_)
        · have k9 : zI 0 0 (u6) := zI.eqq c8 (zI.lit (a := 0) (b := 0) (c := 0) (by decide))
          exact cut105 rw66 hw66_1 k4 jw66 fw66 H locs ls hw hS (lv_sub hl [0, 1, 2, 3] rfl)
        · have k10 : zI 1 1 (u6) := zI.neD c8 hu6 (zI.lit (a := 0) (b := 0) (c := 0) (by decide)) (by decide)
          refine lv_aload_n hx hb dX10_wander_87 rfl (lv_at hl 0 rfl) ?_
          refine va_get (D := D) (ci := 9) (v := .ref (y 201)) hx hb hts hiX10 hown hK hw.1 200 kg200 rfl 3 (by decide) lf18 (fun _ h9 => h9) rfl dX10_wander_88 ?_
          refine lv_iload_n hx hb dX10_wander_91 rfl (lv_at hl 1 rfl) ?_
          refine lv_iconst (v := 1) hx hb dX10_wander_92 (by decide) ?_
          refine lv_iload hx hb dX10_wander_93 (lv_at hl 3 rfl) ?_
          refine lv_ishl hx hb dX10_wander_95 (zgen (lo := 1) (hi := 32) (zI.shl k4 5 (by decide)) (fun v11 hv11 => ?_))
          refine lv_ior hx hb dX10_wander_96 (zgen (lo := 0) (hi := 63) (zI.or 6 hw66_1 hv11 (by decide)) (fun v12 hv12 => ?_))
          refine lv_dup2_11 hx hb dX10_wander_97 rfl rfl ?_
          refine miald hx hb hK hw 201 kg201 hv12 (by decide) dX10_wander_98 (zgen (zI.top _) (fun v13 _ => ?_))
          refine lv_iconst (v := 1) hx hb dX10_wander_99 (by decide) ?_
          refine lv_iload hx hb dX10_wander_100 (lv_at hl 3 rfl) ?_
          refine lv_ishl hx hb dX10_wander_102 (zgen (lo := 1) (hi := 32) (zI.shl k4 5 (by decide)) (fun v14 hv14 => ?_))
          refine lv_ior hx hb dX10_wander_103 (zgen (zI.top _) (fun v15 _ => ?_))
          refine miast hx hb hK hw hS 201 kg201 hv12 (by decide) dX10_wander_104 (kW ct E y (zset rw66 201 (upd (rw66 201) (zn v12) v15)) q) ks201 (fun H locs hw hS => ?_)
          refine cmgen (P := fun x => kJ x ∧ zFr [201] r x) hw ⟨jw66.set rfl (zI.top _), fw66.set rfl⟩ (fun r16 er16 hw pr16 => ?_)
          exact cut105 r16 hw66_1 k4 pr16.1 pr16.2 H locs ls hw hS (lv_sub hl [0, 1, 2, 3] rfl)
  have cut19 : ∀ (n : Nat) (w19_2 : Int32) (w19_3 : Int32) (hw19_1 : zI 0 63 a1) (hw19_3 : zI 1 6 w19_3), 6 - w19_3.toInt < (n : Int) → zKf p l e ({ frames := 3, cells := 0, slots := 0, locals := 160 }) s m a9 below meth c Q D A 19 5 [] (kW ct E y r q) [(0, .ref (y 200)), (1, .int a1), (2, .int w19_2), (3, .int w19_3)] := by
    intro n
    induction n with
    | zero => intro w19_2 w19_3 hw19_1 hw19_3 hm19; exact zI.no hw19_3 (by decide) hm19
    | succ n ih19 =>
      intro w19_2 w19_3 hw19_1 hw19_3 hm19
      intro H locs ls hw hS hl
      refine lv_iload_n hx hb dX10_wander_19 rfl (lv_at hl 3 rfl) ?_
      refine lv_aload_n hx hb dX10_wander_20 rfl (lv_at hl 0 rfl) ?_
      refine va_get (D := D) (ci := 9) (v := .ref (y 171)) hx hb hts hiX10 hown hK hw.1 200 kg200 rfl 0 (by decide) lf31 (fun _ h9 => h9) rfl dX10_wander_21 ?_
      refine va_get (D := D) (ci := 2) (v := .int (r 171 9)) hx hb hts hiX2 hown hK hw.1 171 kg171 rfl 9 (by decide) lf56 (fun _ h9 => h9) rfl dX10_wander_24 (zgen (lo := 0) (hi := 6) ((show zI 0 6 (r 171 9) from hJ0.i 171 9)) (fun v17 hv17 => ?_))
      refine lv_icmp_ge (tgt := 46) hx hb dX10_wander_27 (by decide) (fun c18 => ?_) (fun c18 => ?_)
      · refine lv_aload_n hx hb dX10_wander_46 rfl (lv_at hl 0 rfl) ?_
        refine va_get (D := D) (ci := 9) (v := .ref (y 201)) hx hb hts hiX10 hown hK hw.1 200 kg200 rfl 3 (by decide) lf18 (fun _ h9 => h9) rfl dX10_wander_47 ?_
        refine lv_iload_n hx hb dX10_wander_50 rfl (lv_at hl 1 rfl) ?_
        refine lv_iload_n hx hb dX10_wander_51 rfl (lv_at hl 2 rfl) ?_
        refine miast hx hb hK hw hS 201 kg201 hw19_1 (by decide) dX10_wander_52 (kW ct E y (zset r 201 (upd (r 201) (zn a1) w19_2)) q) ks201 (fun H locs hw hS => ?_)
        refine cmgen (P := fun x => kJ x ∧ zFr [201] r x) hw ⟨hJ0.set rfl (zI.top _), (zFr.refl).set rfl⟩ (fun r19 er19 hw pr19 => ?_)
        refine lv_aload_n hx hb dX10_wander_53 rfl (lv_at hl 0 rfl) ?_
        refine lv_iload_n hx hb dX10_wander_54 rfl (lv_at hl 2 rfl) ?_
        refine kcallV (As := [.int w19_2]) (rest := []) ⟨hx, hb, hml, hown, hts⟩ (kc_widen l D ct E y w19_2 r19 q pr19.1 hEi) (wqX10_73_kc_widen hts ⟨Nat.le_of_ble_eq_true rfl, Nat.le_of_ble_eq_true rfl⟩) hw hS hA hK hZ hN 9 200 rfl kg200 rfl hl.1 rfl (Nat.le_of_ble_eq_true rfl) dX10_wander_55 58 rfl (fun u20 H locs pu20 hw hS => ?_)
        have hu20 : zI (-2147483648) 2147483647 u20 := pu20.1
        have hw : zPD D A (kW ct E y r19 q) H := hw
        refine zfr 58 [.int u20] rfl rfl ?_
        refine lv_iload_n hx hb dX10_wander_58 rfl (lv_at hl 1 rfl) ?_
        refine lv_iconst (v := (-1)) hx hb dX10_wander_59 (by decide) ?_
        refine lv_ixor hx hb dX10_wander_60 (zgen (zI.top _) (fun v22 _ => ?_))
        refine lv_iand hx hb dX10_wander_61 (zgen (zI.top _) (fun v23 _ => ?_))
        refine lv_istore_n (lv' := [(3, .int v23), (0, .ref (y 200)), (1, .int a1), (2, .int w19_2)]) hx hb dX10_wander_62 rfl hl (by decide) rfl (fun ls hl => ?_)
        refine lv_iconst (v := 0) hx hb dX10_wander_63 (by decide) ?_
        refine lv_istore (lv' := [(4, .int 0), (3, .int v23), (0, .ref (y 200)), (1, .int a1), (2, .int w19_2)]) hx hb dX10_wander_64 hl (by decide) rfl (fun ls hl => ?_)
        exact cut66 7 v23 0 r19 hw19_1 ((zI.lit (a := 0) (b := 0) (c := 0) (by decide)).w (c := 0) (d := 6) (by decide)) pr19.1 pr19.2 (zI.m0 (zI.lit (a := 0) (b := 0) (c := 0) (by decide)) (by decide)) H locs ls hw hS (lv_sub hl [2, 3, 1, 0] rfl)
      · have k24 : zI 1 5 (w19_3) := zI.ltU (zI.nle c18) hw19_3 hv17 (by decide)
        have k25 : zI 2 6 (v17) := zI.ltD (zI.nle c18) hw19_3 hv17 (by decide)
        refine lv_iload_n hx hb dX10_wander_30 rfl (lv_at hl 2 rfl) ?_
        refine lv_aload_n hx hb dX10_wander_31 rfl (lv_at hl 0 rfl) ?_
        refine lv_iload_n hx hb dX10_wander_32 rfl (lv_at hl 2 rfl) ?_
        refine kcallV (As := [.int w19_2]) (rest := [.int w19_2]) ⟨hx, hb, hml, hown, hts⟩ (kc_widen l D ct E y w19_2 r q hJ0 hEi) (wqX10_73_kc_widen hts ⟨Nat.le_of_ble_eq_true rfl, Nat.le_of_ble_eq_true rfl⟩) hw hS hA hK hZ hN 9 200 rfl kg200 rfl hl.1 rfl (Nat.le_of_ble_eq_true rfl) dX10_wander_33 36 rfl (fun u26 H locs pu26 hw hS => ?_)
        have hu26 : zI (-2147483648) 2147483647 u26 := pu26.1
        have hw : zPD D A (kW ct E y r q) H := hw
        refine zfr 36 [.int u26, .int w19_2] rfl rfl ?_
        refine lv_iload_n hx hb dX10_wander_36 rfl (lv_at hl 1 rfl) ?_
        refine lv_iand hx hb dX10_wander_37 (zgen (lo := 0) (hi := 63) (zI.and hw19_1 (by decide)) (fun v28 hv28 => ?_))
        refine lv_ior hx hb dX10_wander_38 (zgen (zI.top _) (fun v29 _ => ?_))
        refine lv_istore_n (lv' := [(2, .int v29), (0, .ref (y 200)), (1, .int a1), (3, .int w19_3)]) hx hb dX10_wander_39 rfl hl (by decide) rfl (fun ls hl => ?_)
        refine lv_iinc (v := w19_3 + 1) (lv' := [(3, .int (w19_3 + 1)), (2, .int v29), (0, .ref (y 200)), (1, .int a1)]) hx hb dX10_wander_40 hl (k := 3) rfl (rfl) (by decide) rfl (fun ls hl => ?_)
        have k30 : zI 2 6 (w19_3 + 1) := zI.add k24 (zI.lit (a := 1) (b := 1) (by decide)) (by decide)
        refine lv_goto (tgt := 19) hx hb dX10_wander_43 (by decide) ?_
        exact ih19 v29 (w19_3 + 1) hw19_1 (k30.w (c := 1) (d := 6) (by decide)) (zI.up k24 (by decide) hm19) H locs ls hw hS (lv_sub hl [2, 3, 1, 0] rfl)
  intro H locs hw hS ls hl
  have hl : lv_has ls 5 [(0, .ref (y 200)), (1, .int a1)] := hl
  refine lv_aload_n hx hb dX10_wander_0 rfl (lv_at hl 0 rfl) ?_
  refine va_get (D := D) (ci := 9) (v := .ref (y 201)) hx hb hts hiX10 hown hK hw.1 200 kg200 rfl 3 (by decide) lf18 (fun _ h9 => h9) rfl dX10_wander_1 ?_
  refine lv_iload_n hx hb dX10_wander_4 rfl (lv_at hl 1 rfl) ?_
  refine miald hx hb hK hw 201 kg201 g1 (by decide) dX10_wander_5 (zgen (zI.top _) (fun v31 _ => ?_))
  refine lv_if_ne (tgt := 10) hx hb dX10_wander_6 (by decide) (fun c32 => ?_) (fun c32 => ?_)
  · refine lv_aload_n hx hb dX10_wander_10 rfl (lv_at hl 0 rfl) ?_
    refine va_get (D := D) (ci := 9) (v := .ref (y 201)) hx hb hts hiX10 hown hK hw.1 200 kg200 rfl 3 (by decide) lf18 (fun _ h9 => h9) rfl dX10_wander_11 ?_
    refine lv_iload_n hx hb dX10_wander_14 rfl (lv_at hl 1 rfl) ?_
    refine miald hx hb hK hw 201 kg201 g1 (by decide) dX10_wander_15 (zgen (zI.top _) (fun v33 _ => ?_))
    refine lv_istore_n (lv' := [(2, .int v33), (0, .ref (y 200)), (1, .int a1)]) hx hb dX10_wander_16 rfl hl (by decide) rfl (fun ls hl => ?_)
    refine lv_iconst (v := 1) hx hb dX10_wander_17 (by decide) ?_
    refine lv_istore_n (lv' := [(3, .int 1), (2, .int v33), (0, .ref (y 200)), (1, .int a1)]) hx hb dX10_wander_18 rfl hl (by decide) rfl (fun ls hl => ?_)
    exact cut19 6 v33 1 g1 ((zI.lit (a := 1) (b := 1) (c := 1) (by decide)).w (c := 1) (d := 6) (by decide)) (zI.m0 (zI.lit (a := 1) (b := 1) (c := 1) (by decide)) (by decide)) H locs ls hw hS (lv_sub hl [2, 3, 1, 0] rfl)
  · have k34 : zI 0 0 (v31) := zI.eqq c32 (zI.lit (a := 0) (b := 0) (c := 0) (by decide))
    exact zvretQ hQ hx hb hr hlocks r rfl ⟨hJ0, (zFr.refl), trivial⟩ hw hS dX10_wander_9

set_option maxHeartbeats 4000000 in
set_option maxRecDepth 100000 in
theorem kc_soonestRound (l : Launch) (D : va_G) (ct : Nat → ClassId) (E : Nat → Nat) (y : Nat → Nat) (a2 : Int32) (r : zRr) (q : zRq) (g2 : zI 0 5 a2) (hJ0 : kJ r) (hEi : kEi E) : cC l yX10_soonestRound (.code yX10_soonestRound cX10_soonestRound 7 (some .int) :: wsL_law0) ({ frames := 6, cells := 0, slots := 0, locals := 280 }) D ct E [.ref (y 200), .ref (y 6), .int a2] (kW ct E y r q) (S := Int32 × zRr) (fun u => some (.int u.1)) (fun u => zI (-2147483648) 2147483647 u.1 ∧ kJ u.2 ∧ zFt r u.2 ∧ True) (fun u => kW ct E y u.2 q) := by
  refine cofQ cX10_soonestRound 7 (some .int) (by decide) rfl (Nat.le_of_ble_eq_true rfl) ?_
  intro p e s m below meth c A a9 Q ha9 hx hb hr hml hts hown hlocks hname hK hA hZ hN hQ
  have hown : s.vm.findClass RX10 = some m.cls := hown
  have hiX10 : ∀ w ∈ wsX100, w ∈ .code yX10_soonestRound cX10_soonestRound 7 (some .int) :: wsL_law0 := fun _ h => ki (zs_wsX100 _ h)
  have hiX8 : ∀ w ∈ wsX80, w ∈ .code yX10_soonestRound cX10_soonestRound 7 (some .int) :: wsL_law0 := fun _ h => ki (zs_wsX80 _ h)
  have lf12 := hts (.fieldLink RX10 12 "BeardPass$Ways" "ahead" "LBeardPass$Standing;") (ki (zr6 7 rfl))
  have lf18 := hts (.fieldLink RX10 18 "BeardPass$Ways" "standsAfter" "[I") (ki (zr6 8 rfl))
  have lf31 := hts (.fieldLink RX10 31 "BeardPass$Ways" "land" "LBeardPass$Land;") (ki (zr6 12 rfl))
  have lf35 := hts (.fieldLink RX10 35 "BeardPass$Ways" "frontier" "LBeardPass$Frontier;") (ki (zr6 13 rfl))
  have lf66 := hts (.fieldLink RX10 66 "BeardPass$Standing" "places" "[I") (ki (zr42 5 rfl))
  have lf113 := hts (.fieldLink RX10 113 "BeardPass$Standing" "been" "[I") (ki (zr45 17 rfl))
  have cut71 : ∀ (n : Nat) (w71_3 : Int32) (w71_4 : Int32) (w71_5 : Int32) (rw71 : zRr) (hw71_2 : zI 0 5 a2) (hw71_3 : zI 0 63 w71_3) (hw71_4 : zI 0 63 w71_4) (hw71_5 : zI 0 100 w71_5) (jw71 : kJ rw71) (fw71 : zFt r rw71), 100 - w71_5.toInt < (n : Int) → zKf p l e ({ frames := 6, cells := 0, slots := 0, locals := 280 }) s m a9 below meth c Q D A 71 7 [] (kW ct E y rw71 q) [(0, .ref (y 200)), (2, .int a2), (3, .int w71_3), (4, .int w71_4), (5, .int w71_5)] := by
    intro n
    induction n with
    | zero => intro w71_3 w71_4 w71_5 rw71 hw71_2 hw71_3 hw71_4 hw71_5 jw71 fw71 hm71; exact zI.no hw71_5 (by decide) hm71
    | succ n ih71 =>
      intro w71_3 w71_4 w71_5 rw71 hw71_2 hw71_3 hw71_4 hw71_5 jw71 fw71 hm71
      have cut92 : ∀ (n : Nat) (w92_6 : Int32) (rw92 : zRr) (hw92_2 : zI 0 5 a2) (hw92_3 : zI 0 63 w71_3) (hw92_4 : zI 0 63 w71_4) (hw92_5 : zI 0 99 w71_5) (hw92_6 : zI 0 64 w92_6) (jw92 : kJ rw92) (fw92 : zFt r rw92), 64 - w92_6.toInt < (n : Int) → zKf p l e ({ frames := 6, cells := 0, slots := 0, locals := 280 }) s m a9 below meth c Q D A 92 7 [] (kW ct E y rw92 q) [(0, .ref (y 200)), (2, .int a2), (3, .int w71_3), (4, .int w71_4), (5, .int w71_5), (6, .int w92_6)] := by
        intro n
        induction n with
        | zero => intro w92_6 rw92 hw92_2 hw92_3 hw92_4 hw92_5 hw92_6 jw92 fw92 hm92; exact zI.no hw92_6 (by decide) hm92
        | succ n ih92 =>
          intro w92_6 rw92 hw92_2 hw92_3 hw92_4 hw92_5 hw92_6 jw92 fw92 hm92
          intro H locs ls hw hS hl
          refine lv_iload hx hb dX10_soonestRound_92 (lv_at hl 5 rfl) ?_
          refine lv_iload_n hx hb dX10_soonestRound_94 rfl (lv_at hl 2 rfl) ?_
          refine lv_icmp_gt (tgt := 110) hx hb dX10_soonestRound_95 (by decide) (fun c1 => ?_) (fun c1 => ?_)
          · have k2 : zI 1 64 (w92_6) := zI.ltD c1 hw92_3 hw92_6 (by decide)
            refine lv_aload_n hx hb dX10_soonestRound_110 rfl (lv_at hl 0 rfl) ?_
            refine va_get (D := D) (ci := 9) (v := .ref (y 201)) hx hb hts hiX10 hown hK hw.1 200 kg200 rfl 3 (by decide) lf18 (fun _ h9 => h9) rfl dX10_soonestRound_111 ?_
            refine lv_iload_n hx hb dX10_soonestRound_114 rfl (lv_at hl 2 rfl) ?_
            refine miald hx hb hK hw 201 kg201 hw92_3 (by decide) dX10_soonestRound_115 (zgen (zI.top _) (fun v3 _ => ?_))
            refine lv_if_eq (tgt := 122) hx hb dX10_soonestRound_116 (by decide) (fun c4 => ?_) (fun c4 => ?_)
            · have k5 : zI 0 0 (v3) := zI.eqq c4 (zI.lit (a := 0) (b := 0) (c := 0) (by decide))
              refine lv_aload_n hx hb dX10_soonestRound_122 rfl (lv_at hl 0 rfl) ?_
              refine va_get (D := D) (ci := 9) (v := .ref (y 199)) hx hb hts hiX10 hown hK hw.1 200 kg200 rfl 1 (by decide) lf35 (fun _ h9 => h9) rfl dX10_soonestRound_123 ?_
              refine lv_aload_n hx hb dX10_soonestRound_126 rfl (lv_at hl 0 rfl) ?_
              refine va_get (D := D) (ci := 9) (v := .ref (y 0)) hx hb hts hiX10 hown hK hw.1 200 kg200 rfl 2 (by decide) lf12 (fun _ h9 => h9) rfl dX10_soonestRound_127 ?_
              refine kcallV (As := [.ref (y 0)]) (rest := []) ⟨hx, hb, hml, hown, hts⟩ (kc_passWeekA l D ct E y rw92 q jw92 hEi) (wqX10_101_kc_passWeekA hts ⟨Nat.le_of_ble_eq_true rfl, Nat.le_of_ble_eq_true rfl⟩) hw hS hA hK hZ hN 0 199 rfl kg199 rfl hl.1 rfl (Nat.le_of_ble_eq_true rfl) dX10_soonestRound_130 133 rfl (fun u6 H locs pu6 hw hS => ?_)
              have ju6 : kJ u6 := pu6.1
              have fu6 : zFt rw92 u6 := pu6.2.1
              have hw : zPD D A (kW ct E y u6 q) H := hw
              refine zfr 133 [] rfl rfl ?_
              refine lv_iinc (v := w71_5 + 1) (lv' := [(5, .int (w71_5 + 1)), (0, .ref (y 200)), (2, .int a2), (3, .int w71_3), (4, .int w71_4), (6, .int w92_6)]) hx hb dX10_soonestRound_133 hl (k := 4) rfl (rfl) (by decide) rfl (fun ls hl => ?_)
              have k8 : zI 1 100 (w71_5 + 1) := zI.add hw92_5 (zI.lit (a := 1) (b := 1) (by decide)) (by decide)
              refine lv_goto (tgt := 71) hx hb dX10_soonestRound_136 (by decide) ?_
              exact ih71 w71_3 w71_4 (w71_5 + 1) u6 hw92_2 hw92_3 hw92_4 (k8.w (c := 0) (d := 100) (by decide)) ju6 (fw92.tr fu6) (zI.up hw92_5 (by decide) hm71) H locs ls hw hS (lv_sub hl [1, 2, 3, 4, 0] rfl)
            · refine lv_iload hx hb dX10_soonestRound_119 (lv_at hl 4 rfl) ?_
              exact ziretQ hQ hx hb hr rfl hlocks (w71_5, rw92) rfl ⟨(zI.top _), jw92, fw92, trivial⟩ hw hS dX10_soonestRound_121
          · have k9 : zI 0 63 (w92_6) := zI.leU (zI.nlt c1) hw92_6 hw92_3 (by decide)
            refine lv_aload_n hx hb dX10_soonestRound_98 rfl (lv_at hl 0 rfl) ?_
            refine lv_iload hx hb dX10_soonestRound_99 (lv_at hl 5 rfl) ?_
            refine kcallV (As := [.int w92_6]) (rest := []) ⟨hx, hb, hml, hown, hts⟩ (kc_wander l D ct E y w92_6 rw92 q k9 jw92 hEi) (wqX10_116_kc_wander hts ⟨Nat.le_of_ble_eq_true rfl, Nat.le_of_ble_eq_true rfl⟩) hw hS hA hK hZ hN 9 200 rfl kg200 rfl hl.1 rfl (Nat.le_of_ble_eq_true rfl) dX10_soonestRound_101 104 rfl (fun u10 H locs pu10 hw hS => ?_)
            have ju10 : kJ u10 := pu10.1
            have fu10 : zFr [201] rw92 u10 := pu10.2.1
            have hw : zPD D A (kW ct E y u10 q) H := hw
            refine zfr 104 [] rfl rfl ?_
            refine lv_iinc (v := w92_6 + 1) (lv' := [(6, .int (w92_6 + 1)), (0, .ref (y 200)), (2, .int a2), (3, .int w71_3), (4, .int w71_4), (5, .int w71_5)]) hx hb dX10_soonestRound_104 hl (k := 5) rfl (rfl) (by decide) rfl (fun ls hl => ?_)
            have k12 : zI 1 64 (w92_6 + 1) := zI.add k9 (zI.lit (a := 1) (b := 1) (by decide)) (by decide)
            refine lv_goto (tgt := 92) hx hb dX10_soonestRound_107 (by decide) ?_
            exact ih92 (w92_6 + 1) u10 hw92_2 hw92_3 hw92_4 hw92_5 (k12.w (c := 0) (d := 64) (by decide)) ju10 (fw92.trF fu10 rfl) (zI.up k9 (by decide) hm92) H locs ls hw hS (lv_sub hl [1, 2, 3, 4, 5, 0] rfl)
      intro H locs ls hw hS hl
      refine lv_iload hx hb dX10_soonestRound_71 (lv_at hl 4 rfl) ?_
      refine lv_bipush (v := 99) hx hb dX10_soonestRound_73 (by decide) ?_
      refine lv_icmp_gt (tgt := 139) hx hb dX10_soonestRound_75 (by decide) (fun c13 => ?_) (fun c13 => ?_)
      · have k14 : zI 100 100 (w71_5) := zI.ltD c13 (zI.lit (a := 99) (b := 99) (c := 99) (by decide)) hw71_5 (by decide)
        refine lv_iconst (v := (-1)) hx hb dX10_soonestRound_139 (by decide) ?_
        exact ziretQ hQ hx hb hr rfl hlocks (((-1) : Int32), rw71) rfl ⟨(zI.top _), jw71, fw71, trivial⟩ hw hS dX10_soonestRound_140
      · have k15 : zI 0 99 (w71_5) := zI.leU (zI.nlt c13) hw71_5 (zI.lit (a := 99) (b := 99) (c := 99) (by decide)) (by decide)
        refine lv_aload_n hx hb dX10_soonestRound_78 rfl (lv_at hl 0 rfl) ?_
        refine lv_aload_n hx hb dX10_soonestRound_79 rfl (lv_at hl 0 rfl) ?_
        refine va_get (D := D) (ci := 9) (v := .ref (y 0)) hx hb hts hiX10 hown hK hw.1 200 kg200 rfl 2 (by decide) lf12 (fun _ h9 => h9) rfl dX10_soonestRound_80 ?_
        refine lv_iload_n hx hb dX10_soonestRound_83 rfl (lv_at hl 1 rfl) ?_
        refine lv_iconst (v := 0) hx hb dX10_soonestRound_84 (by decide) ?_
        refine kcallV (As := [.ref (y 0), .int a2, .int 0]) (rest := []) ⟨hx, hb, hml, hown, hts⟩ (kc_layA l D ct E y a2 (0 : Int32) rw71 q hw71_2 jw71 hEi) (wqX10_77_kc_layA hts ⟨Nat.le_of_ble_eq_true rfl, Nat.le_of_ble_eq_true rfl⟩) hw hS hA hK hZ hN 9 200 rfl kg200 rfl hl.1 rfl (Nat.le_of_ble_eq_true rfl) dX10_soonestRound_85 88 rfl (fun u16 H locs pu16 hw hS => ?_)
        have ju16 : kJ u16 := pu16.1
        have fu16 : zFr [182, 202] rw71 u16 := pu16.2.1
        have hw : zPD D A (kW ct E y u16 q) H := hw
        refine zfr 88 [] rfl rfl ?_
        refine lv_iload hx hb dX10_soonestRound_88 (lv_at hl 3 rfl) ?_
        refine lv_istore (lv' := [(6, .int w71_4), (0, .ref (y 200)), (2, .int a2), (3, .int w71_3), (4, .int w71_4), (5, .int w71_5)]) hx hb dX10_soonestRound_90 hl (by decide) rfl (fun ls hl => ?_)
        exact cut92 65 w71_4 u16 hw71_2 hw71_3 hw71_4 k15 (hw71_4.w (c := 0) (d := 64) (by decide)) ju16 (fw71.trF fu16 rfl) (zI.m0 hw71_4 (by decide)) H locs ls hw hS (lv_sub hl [1, 2, 3, 4, 5, 0] rfl)
  intro H locs hw hS ls hl
  have hl : lv_has ls 7 [(0, .ref (y 200)), (1, .ref (y 6)), (2, .int a2)] := hl
  refine lv_aload_n hx hb dX10_soonestRound_0 rfl (lv_at hl 0 rfl) ?_
  refine va_get (D := D) (ci := 9) (v := .ref (y 171)) hx hb hts hiX10 hown hK hw.1 200 kg200 rfl 0 (by decide) lf31 (fun _ h9 => h9) rfl dX10_soonestRound_1 ?_
  refine kcallV (As := []) (rest := []) ⟨hx, hb, hml, hown, hts⟩ (kc_allTowns l D ct E y r q hJ0 hEi) (wqX10_109_kc_allTowns hts ⟨Nat.le_of_ble_eq_true rfl, Nat.le_of_ble_eq_true rfl⟩) hw hS hA hK hZ hN 2 171 rfl kg171 rfl hl.1 rfl (Nat.le_of_ble_eq_true rfl) dX10_soonestRound_4 7 rfl (fun u18 H locs pu18 hw hS => ?_)
  have hu18 : zI 0 63 u18 := pu18.1
  have hw : zPD D A (kW ct E y r q) H := hw
  refine zfr 7 [.int u18] rfl rfl ?_
  refine lv_istore_n (lv' := [(3, .int u18), (0, .ref (y 200)), (1, .ref (y 6)), (2, .int a2)]) hx hb dX10_soonestRound_7 rfl hl (by decide) rfl (fun ls hl => ?_)
  refine lv_aload_n hx hb dX10_soonestRound_8 rfl (lv_at hl 2 rfl) ?_
  refine va_get (D := D) (ci := 7) (v := .ref (y 11)) hx hb hts hiX8 hown hK hw.1 6 kg6 rfl 4 (by decide) lf113 (fun _ h9 => h9) rfl dX10_soonestRound_9 ?_
  refine lv_iload_n hx hb dX10_soonestRound_12 rfl (lv_at hl 3 rfl) ?_
  refine miald hx hb hK hw 11 kg11 g2 (by decide) dX10_soonestRound_13 (zgen (zI.top _) (fun v20 _ => ?_))
  refine lv_iload_n hx hb dX10_soonestRound_14 rfl (lv_at hl 0 rfl) ?_
  refine lv_iand hx hb dX10_soonestRound_15 (zgen (lo := 0) (hi := 63) (zI.and hu18 (by decide)) (fun v21 hv21 => ?_))
  refine lv_istore (lv' := [(4, .int v21), (3, .int u18), (0, .ref (y 200)), (1, .ref (y 6)), (2, .int a2)]) hx hb dX10_soonestRound_16 hl (by decide) rfl (fun ls hl => ?_)
  refine lv_iload hx hb dX10_soonestRound_18 (lv_at hl 0 rfl) ?_
  refine lv_aload_n hx hb dX10_soonestRound_20 rfl (lv_at hl 2 rfl) ?_
  refine lv_aload_n hx hb dX10_soonestRound_21 rfl (lv_at hl 3 rfl) ?_
  refine va_get (D := D) (ci := 7) (v := .ref (y 7)) hx hb hts hiX8 hown hK hw.1 6 kg6 rfl 0 (by decide) lf66 (fun _ h9 => h9) rfl dX10_soonestRound_22 ?_
  refine lv_iload_n hx hb dX10_soonestRound_25 rfl (lv_at hl 4 rfl) ?_
  refine miald hx hb hK hw 7 kg7 g2 (by decide) dX10_soonestRound_26 (zgen (lo := 0) (hi := 5) ((show zI 0 5 (r 7 _) from hJ0.i 7 _)) (fun v22 hv22 => ?_))
  refine kcallV (As := [.int v22]) (rest := [.int v21]) ⟨hx, hb, hml, hown, hts⟩ (kc_linkedTo l D ct E y v22 r q hJ0 hEi) (wqX10_94_kc_linkedTo hts ⟨Nat.le_of_ble_eq_true rfl, Nat.le_of_ble_eq_true rfl⟩) hw hS hA hK hZ hN 9 200 rfl kg200 rfl hl.1 rfl (Nat.le_of_ble_eq_true rfl) dX10_soonestRound_27 30 rfl (fun u23 H locs pu23 hw hS => ?_)
  obtain ⟨v24, r25⟩ := u23
  have hv24 : zI (-2147483648) 2147483647 v24 := pu23.1
  have ju23 : kJ r25 := pu23.2.1
  have fu23 : zFr [202] r r25 := pu23.2.2.1
  have hw : zPD D A (kW ct E y r25 q) H := hw
  refine zfr 30 [.int v24, .int v21] rfl rfl ?_
  refine lv_ior hx hb dX10_soonestRound_30 (zgen (zI.top _) (fun v26 _ => ?_))
  refine lv_iload_n hx hb dX10_soonestRound_31 rfl (lv_at hl 1 rfl) ?_
  refine lv_icmp_eq (tgt := 37) hx hb dX10_soonestRound_32 (by decide) (fun c27 => ?_) (fun c27 => ?_)
  · have k28 : zI 0 63 (v26) := zI.eqq c27 hu18
    refine lv_aload_n hx hb dX10_soonestRound_37 rfl (lv_at hl 2 rfl) ?_
    refine va_get (D := D) (ci := 9) (v := .ref (y 201)) hx hb hts hiX10 hown hK hw.1 200 kg200 rfl 3 (by decide) lf18 (fun _ h9 => h9) rfl dX10_soonestRound_38 ?_
    refine lv_iconst (v := 0) hx hb dX10_soonestRound_41 (by decide) ?_
    refine kcallZS (As := [.ref (y 201), .int 0]) (rest := []) [201] (by decide) rfl ⟨hx, hb, hml, hown, hts⟩ (c_fill l D ct (y 201) (0 : Int32) 64 (r25 201) (by decide)) (va_cwS 2 hts (kgSm (zr42 14 rfl) (zr10 23 rfl) (zr11 0 rfl) mL_J7_fill_53178) rfl rfl rfl (by decide +kernel) ⟨Nat.le_of_ble_eq_true rfl, Nat.le_of_ble_eq_true rfl⟩) hw hS hA hK hN rfl rfl hl.1 rfl (Nat.le_of_ble_eq_true rfl) dX10_soonestRound_42 45 rfl (zset r25 201 (zfl (r25 201) (0 : Int32) 64)) q (fun _ => rfl) kset1x (fun _ H locs _ hw hS => ?_)
    refine zfr 45 [] rfl rfl ?_
    refine cmgen (P := fun x => kJ x ∧ zFt r x) hw ⟨ju23.fill rfl (fun _ => zI.top _), ((zFt.refl).trF fu23 rfl).set rfl⟩ (fun r29 er29 hw pr29 => ?_)
    refine lv_aload_n hx hb dX10_soonestRound_45 rfl (lv_at hl 2 rfl) ?_
    refine va_get (D := D) (ci := 9) (v := .ref (y 201)) hx hb hts hiX10 hown hK hw.1 200 kg200 rfl 3 (by decide) lf18 (fun _ h9 => h9) rfl dX10_soonestRound_46 ?_
    refine lv_iload hx hb dX10_soonestRound_49 (lv_at hl 0 rfl) ?_
    refine lv_iconst (v := 1) hx hb dX10_soonestRound_51 (by decide) ?_
    refine lv_aload_n hx hb dX10_soonestRound_52 rfl (lv_at hl 3 rfl) ?_
    refine va_get (D := D) (ci := 7) (v := .ref (y 7)) hx hb hts hiX8 hown hK hw.1 6 kg6 rfl 0 (by decide) lf66 (fun _ h9 => h9) rfl dX10_soonestRound_53 ?_
    refine lv_iload_n hx hb dX10_soonestRound_56 rfl (lv_at hl 4 rfl) ?_
    refine miald hx hb hK hw 7 kg7 g2 (by decide) dX10_soonestRound_57 (zgen (lo := 0) (hi := 5) ((show zI 0 5 (r29 7 _) from pr29.1.i 7 _)) (fun v30 hv30 => ?_))
    refine lv_ishl hx hb dX10_soonestRound_58 (zgen (lo := 1) (hi := 32) (zI.shl hv30 5 (by decide)) (fun v31 hv31 => ?_))
    refine miast hx hb hK hw hS 201 kg201 hv21 (by decide) dX10_soonestRound_59 (kW ct E y (zset r29 201 (upd (r29 201) (zn v21) v31)) q) ks201 (fun H locs hw hS => ?_)
    refine cmgen (P := fun x => kJ x ∧ zFt r x) hw ⟨pr29.1.set rfl (zI.top _), pr29.2.set rfl⟩ (fun r32 er32 hw pr32 => ?_)
    refine lv_aload_n hx hb dX10_soonestRound_60 rfl (lv_at hl 2 rfl) ?_
    refine va_get (D := D) (ci := 9) (v := .ref (y 0)) hx hb hts hiX10 hown hK hw.1 200 kg200 rfl 2 (by decide) lf12 (fun _ h9 => h9) rfl dX10_soonestRound_61 ?_
    refine lv_aload_n hx hb dX10_soonestRound_64 rfl (lv_at hl 3 rfl) ?_
    refine kcallZ (As := [.ref (y 6)]) (rest := []) (kis8 0 6) (kis8l ⟨by decide, by decide⟩ ⟨by decide, by decide⟩) (kis8w ⟨by decide, by decide⟩ ⟨by decide, by decide⟩) ⟨hx, hb, hml, hown, hts⟩ (c_X8_copy l D ct (y 0) (y 6) (y (0 + 1)) (y (0 + 2)) (y (0 + 3)) (y (0 + 4)) (y (0 + 5)) (y (6 + 1)) (y (6 + 2)) (y (6 + 3)) (y (6 + 4)) (y (6 + 5)) (r32 (0 + 1)) (r32 (0 + 2)) (r32 (0 + 3)) (r32 (0 + 4)) (r32 (0 + 5)) (r32 (6 + 1)) (r32 (6 + 2)) (r32 (6 + 3)) (r32 (6 + 4)) (r32 (6 + 5)) (r32 0 5) (r32 6 5)) (cwV 1 hts (kgVm (zr44 23 rfl) (zr35 21 rfl) (zr35 22 rfl) (zr2 18 rfl) mL_X8_copy) rfl rfl rfl (by decide +kernel) ⟨Nat.le_of_ble_eq_true rfl, Nat.le_of_ble_eq_true rfl⟩) hw hS hA hK hN (kis8n ⟨by decide, by decide⟩ ⟨by decide, by decide⟩ (by decide)) 7 0 rfl (kis8o ⟨by decide, by decide⟩) rfl hl.1 rfl (Nat.le_of_ble_eq_true rfl) dX10_soonestRound_65 68 rfl (kcp8 r32 0 6) q (fun _ => kis8B ⟨by decide, by decide⟩ ⟨by decide, by decide⟩ (by decide)) kis8x (fun _ H locs _ hw hS => ?_)
    refine zfr 68 [] rfl rfl ?_
    refine cmgen (P := fun x => kJ x ∧ zFt r x) hw ⟨pr32.1.copy8 ⟨by decide, by decide⟩ ⟨by decide, by decide⟩, (pr32.2.cp8 (by decide))⟩ (fun r33 er33 hw pr33 => ?_)
    refine lv_iconst (v := 0) hx hb dX10_soonestRound_68 (by decide) ?_
    refine lv_istore (lv' := [(5, .int 0), (4, .int v21), (3, .int u18), (0, .ref (y 200)), (1, .ref (y 6)), (2, .int a2)]) hx hb dX10_soonestRound_69 hl (by decide) rfl (fun ls hl => ?_)
    exact cut71 101 u18 v21 0 r33 g2 hu18 hv21 ((zI.lit (a := 0) (b := 0) (c := 0) (by decide)).w (c := 0) (d := 100) (by decide)) pr33.1 pr33.2 (zI.m0 (zI.lit (a := 0) (b := 0) (c := 0) (by decide)) (by decide)) H locs ls hw hS (lv_sub hl [3, 5, 2, 1, 0] rfl)
  · refine lv_iconst (v := (-1)) hx hb dX10_soonestRound_35 (by decide) ?_
    exact ziretQ hQ hx hb hr rfl hlocks (((-1) : Int32), r25) rfl ⟨(zI.top _), ju23, ((zFt.refl).trF fu23 rfl), trivial⟩ hw hS dX10_soonestRound_36
