set_option maxHeartbeats 4000000 in
set_option maxRecDepth 100000 in
theorem kc_judged (l : Launch) (D : va_G) (ct : Nat → ClassId) (E : Nat → Nat) (y : Nat → Nat) (a1 : Int32) (r : zRr) (q : zRq) (hJ0 : kJ r) (hEi : kEi E) : cC l yX11_judged (.code yX11_judged cX11_judged 6 (some .int) :: wsL_law0) ({ frames := 8, cells := 0, slots := 0, locals := 360 }) D ct E [.ref (y 195), .int a1] (kW ct E y r q) (S := Int32 × zRr) (fun u => some (.int u.1)) (fun u => zI (-2147483648) 2147483647 u.1 ∧ kJ u.2 ∧ zFt r u.2 ∧ True) (fun u => kW ct E y u.2 q) := by
  refine cofQ cX11_judged 6 (some .int) (by decide) rfl (Nat.le_of_ble_eq_true rfl) ?_
  intro p e s m below meth c A a9 Q ha9 hx hb hr hml hts hown hlocks hname hK hA hZ hN hQ
  have hown : s.vm.findClass RX11 = some m.cls := hown
  have hiX1 : ∀ w ∈ wsX10, w ∈ .code yX11_judged cX11_judged 6 (some .int) :: wsL_law0 := fun _ h => ki (zs_wsX10 _ h)
  have hiX11 : ∀ w ∈ wsX110, w ∈ .code yX11_judged cX11_judged 6 (some .int) :: wsL_law0 := fun _ h => ki (zs_wsX110 _ h)
  have hiX2 : ∀ w ∈ wsX20, w ∈ .code yX11_judged cX11_judged 6 (some .int) :: wsL_law0 := fun _ h => ki (zs_wsX20 _ h)
  have hiX8 : ∀ w ∈ wsX80, w ∈ .code yX11_judged cX11_judged 6 (some .int) :: wsL_law0 := fun _ h => ki (zs_wsX80 _ h)
  have lf19 := hts (.fieldLink RX11 19 "BeardPass" "told" "LBeardPass$Land;") (ki (zr1 21 rfl))
  have lf36 := hts (.fieldLink RX11 36 "BeardPass" "plan" "LBeardPass$Journey;") (ki (zr2 6 rfl))
  have lf48 := hts (.fieldLink RX11 48 "BeardPass" "frontier" "LBeardPass$Frontier;") (ki (zr2 11 rfl))
  have lf68 := hts (.fieldLink RX11 68 "BeardPass" "trial" "LBeardPass$Standing;") (ki (zr2 20 rfl))
  have lf116 := hts (.fieldLink RX11 116 "BeardPass$Journey" "lines" "I") (ki (zr10 9 rfl))
  have lf150 := hts (.fieldLink RX11 150 "BeardPass$Standing" "purses" "[I") (ki (zr30 18 rfl))
  have lf159 := hts (.fieldLink RX11 159 "BeardPass$Land" "asks" "[I") (ki (zr31 13 rfl))
  have lf252 := hts (.fieldLink RX11 252 "BeardPass$Land" "purses" "[I") (ki (zr40 2 rfl))
  have cut27 : ∀ (n : Nat) (w27_2 : Int32) (w27_3 : Int32) (w27_4 : Int32) (w27_5 : Int32) (rw27 : zRr) (hw27_2 : zI (-1) 39 w27_2) (hw27_3 : zI (-1) 39 w27_3) (hw27_5 : zI 0 40 w27_5) (jw27 : kJ rw27) (fw27 : zFt r rw27), 40 - w27_5.toInt < (n : Int) → zKf p l e ({ frames := 8, cells := 0, slots := 0, locals := 360 }) s m a9 below meth c Q D A 27 6 [] (kW ct E y rw27 q) [(0, .ref (y 195)), (1, .int a1), (2, .int w27_2), (3, .int w27_3), (4, .int w27_4), (5, .int w27_5)] := by
    intro n
    induction n with
    | zero => intro w27_2 w27_3 w27_4 w27_5 rw27 hw27_2 hw27_3 hw27_5 jw27 fw27 hm27; exact zI.no hw27_5 (by decide) hm27
    | succ n ih27 =>
      intro w27_2 w27_3 w27_4 w27_5 rw27 hw27_2 hw27_3 hw27_5 jw27 fw27 hm27
      have cut117 : ∀ (w117_2 : Int32) (w117_3 : Int32) (rw117 : zRr) (hw117_2 : zI (-1) 39 w117_2) (hw117_3 : zI (-1) 39 w117_3) (hw117_5 : zI 0 39 w27_5) (jw117 : kJ rw117) (fw117 : zFt r rw117), zKf p l e ({ frames := 8, cells := 0, slots := 0, locals := 360 }) s m a9 below meth c Q D A 117 6 [] (kW ct E y rw117 q) [(0, .ref (y 195)), (1, .int a1), (2, .int w117_2), (3, .int w117_3), (4, .int w27_4), (5, .int w27_5)] := by
        intro w117_2 w117_3 rw117 hw117_2 hw117_3 hw117_5 jw117 fw117 H locs ls hw hS hl
        refine lv_iinc (v := w27_5 + 1) (lv' := [(5, .int (w27_5 + 1)), (0, .ref (y 195)), (1, .int a1), (2, .int w117_2), (3, .int w117_3), (4, .int w27_4)]) hx hb dX11_judged_117 hl (k := 5) rfl (rfl) (by decide) rfl (fun ls hl => ?_)
        have k1 : zI 1 40 (w27_5 + 1) := zI.add hw117_5 (zI.lit (a := 1) (b := 1) (by decide)) (by decide)
        refine lv_goto (tgt := 27) hx hb dX11_judged_120 (by decide) ?_
        exact ih27 w117_2 w117_3 w27_4 (w27_5 + 1) rw117 hw117_2 hw117_3 (k1.w (c := 0) (d := 40) (by decide)) jw117 fw117 (zI.up hw117_5 (by decide) hm27) H locs ls hw hS (lv_sub hl [1, 2, 3, 4, 5, 0] rfl)
      have cut70 : ∀ (w70_s0 : Int32) (rw70 : zRr) (hw70_3 : zI (-1) 39 w27_3) (hw70_5 : zI 0 39 w27_5) (hw70_s0 : zI 0 39 w70_s0) (jw70 : kJ rw70) (fw70 : zFt r rw70), zKf p l e ({ frames := 8, cells := 0, slots := 0, locals := 360 }) s m a9 below meth c Q D A 70 6 [.int w70_s0] (kW ct E y rw70 q) [(0, .ref (y 195)), (1, .int a1), (3, .int w27_3), (4, .int w27_4), (5, .int w27_5)] := by
        intro w70_s0 rw70 hw70_3 hw70_5 hw70_s0 jw70 fw70 H locs ls hw hS hl
        refine lv_istore_n (lv' := [(2, .int w70_s0), (0, .ref (y 195)), (1, .int a1), (3, .int w27_3), (4, .int w27_4), (5, .int w27_5)]) hx hb dX11_judged_70 rfl hl (by decide) rfl (fun ls hl => ?_)
        refine lv_goto (tgt := 117) hx hb dX11_judged_71 (by decide) ?_
        exact cut117 w70_s0 w27_3 rw70 (hw70_s0.w (c := (-1)) (d := 39) (by decide)) hw70_3 hw70_5 jw70 fw70 H locs ls hw hS (lv_sub hl [1, 2, 0, 3, 4, 5] rfl)
      intro H locs ls hw hS hl
      refine lv_iload hx hb dX11_judged_27 (lv_at hl 5 rfl) ?_
      refine lv_aload_n hx hb dX11_judged_29 rfl (lv_at hl 0 rfl) ?_
      refine va_get (D := D) (ci := 10) (v := .ref (y 138)) hx hb hts hiX11 hown hK hw.1 195 kg195 rfl 4 (by decide) lf36 (fun _ h9 => h9) rfl dX11_judged_30 ?_
      refine va_get (D := D) (ci := 1) (v := .int (rw27 138 3)) hx hb hts hiX1 hown hK hw.1 138 kg138 rfl 3 (by decide) lf116 (fun _ h9 => h9) rfl dX11_judged_33 (zgen (lo := 0) (hi := 40) ((show zI 0 40 (rw27 138 3) from jw27.i 138 3)) (fun v2 hv2 => ?_))
      refine lv_icmp_ge (tgt := 123) hx hb dX11_judged_36 (by decide) (fun c3 => ?_) (fun c3 => ?_)
      · refine lv_iload_n hx hb dX11_judged_123 rfl (lv_at hl 1 rfl) ?_
        by_cases c4 : a1.toInt < 0 ∨ 2 < a1.toInt
        · refine lv_tableOut (tgt := 180) hx hb dX11_judged_124 c4 (by decide) ?_
          refine lv_bipush (v := (-2)) hx hb dX11_judged_180 (by decide) ?_
          exact ziretQ hQ hx hb hr rfl hlocks (((-2) : Int32), rw27) rfl ⟨(zI.top _), jw27, fw27, trivial⟩ hw hS dX11_judged_182
        · obtain ⟨j5, hj6, hxj7⟩ := ksw (lo := 0) (hi := 2) (k := 3) (by decide) c4
          rcases (show j5 = 0 ∨ j5 = 1 ∨ j5 = 2 by omega) with rfl | rfl | rfl
          · refine lv_tableIn (off := 28) (tgt := 152) hx hb dX11_judged_124 (by rw [hxj7]; decide) (by rw [hxj7]; decide) (by rw [hxj7]; rfl) (by decide) ?_
            refine lv_iload_n hx hb dX11_judged_152 rfl (lv_at hl 2 rfl) ?_
            exact ziretQ hQ hx hb hr rfl hlocks (w27_2, rw27) rfl ⟨(zI.top _), jw27, fw27, trivial⟩ hw hS dX11_judged_153
          · refine lv_tableIn (off := 30) (tgt := 154) hx hb dX11_judged_124 (by rw [hxj7]; decide) (by rw [hxj7]; decide) (by rw [hxj7]; rfl) (by decide) ?_
            refine lv_iload_n hx hb dX11_judged_154 rfl (lv_at hl 3 rfl) ?_
            exact ziretQ hQ hx hb hr rfl hlocks (w27_3, rw27) rfl ⟨(zI.top _), jw27, fw27, trivial⟩ hw hS dX11_judged_155
          · refine lv_tableIn (off := 32) (tgt := 156) hx hb dX11_judged_124 (by rw [hxj7]; decide) (by rw [hxj7]; decide) (by rw [hxj7]; rfl) (by decide) ?_
            refine lv_aload_n hx hb dX11_judged_156 rfl (lv_at hl 0 rfl) ?_
            refine lv_aload_n hx hb dX11_judged_157 rfl (lv_at hl 0 rfl) ?_
            refine va_get (D := D) (ci := 10) (v := .ref (y 171)) hx hb hts hiX11 hown hK hw.1 195 kg195 rfl 1 (by decide) lf19 (fun _ h9 => h9) rfl dX11_judged_158 ?_
            refine va_get (D := D) (ci := 2) (v := .ref (y 178)) hx hb hts hiX2 hown hK hw.1 171 kg171 rfl 6 (by decide) lf252 (fun _ h9 => h9) rfl dX11_judged_161 ?_
            refine kcallV (As := [.ref (y 178)]) (rest := []) ⟨hx, hb, hml, hown, hts⟩ (kc_suma l D ct E y rw27 q jw27 hEi) (wqX11_188_kc_suma hts ⟨Nat.le_of_ble_eq_true rfl, Nat.le_of_ble_eq_true rfl⟩) hw hS hA hK hZ hN 10 195 rfl kg195 rfl hl.1 rfl (Nat.le_of_ble_eq_true rfl) dX11_judged_164 167 rfl (fun u8 H locs pu8 hw hS => ?_)
            have hu8 : zI (-2147483648) 2147483647 u8 := pu8.1
            have hw : zPD D A (kW ct E y rw27 q) H := hw
            refine zfr 167 [.int u8] rfl rfl ?_
            refine lv_aload_n hx hb dX11_judged_167 rfl (lv_at hl 0 rfl) ?_
            refine lv_aload_n hx hb dX11_judged_168 rfl (lv_at hl 0 rfl) ?_
            refine va_get (D := D) (ci := 10) (v := .ref (y 12)) hx hb hts hiX11 hown hK hw.1 195 kg195 rfl 9 (by decide) lf68 (fun _ h9 => h9) rfl dX11_judged_169 ?_
            refine va_get (D := D) (ci := 7) (v := .ref (y 16)) hx hb hts hiX8 hown hK hw.1 12 kg12 rfl 3 (by decide) lf150 (fun _ h9 => h9) rfl dX11_judged_172 ?_
            refine kcallV (As := [.ref (y 16)]) (rest := [.int u8]) ⟨hx, hb, hml, hown, hts⟩ (kc_sumd l D ct E y rw27 q jw27 hEi) (wqX11_188_kc_sumd hts ⟨Nat.le_of_ble_eq_true rfl, Nat.le_of_ble_eq_true rfl⟩) hw hS hA hK hZ hN 10 195 rfl kg195 rfl hl.1 rfl (Nat.le_of_ble_eq_true rfl) dX11_judged_175 178 rfl (fun u10 H locs pu10 hw hS => ?_)
            have hu10 : zI (-2147483648) 2147483647 u10 := pu10.1
            have hw : zPD D A (kW ct E y rw27 q) H := hw
            refine zfr 178 [.int u10, .int u8] rfl rfl ?_
            refine lv_isub hx hb dX11_judged_178 (zgen (zI.top _) (fun v12 _ => ?_))
            exact ziretQ hQ hx hb hr rfl hlocks (v12, rw27) rfl ⟨(zI.top _), jw27, fw27, trivial⟩ hw hS dX11_judged_179
      · have k13 : zI 0 39 (w27_5) := zI.ltU (zI.nle c3) hw27_5 hv2 (by decide)
        have k14 : zI 1 40 (v2) := zI.ltD (zI.nle c3) hw27_5 hv2 (by decide)
        refine lv_aload_n hx hb dX11_judged_39 rfl (lv_at hl 0 rfl) ?_
        refine va_get (D := D) (ci := 10) (v := .ref (y 138)) hx hb hts hiX11 hown hK hw.1 195 kg195 rfl 4 (by decide) lf36 (fun _ h9 => h9) rfl dX11_judged_40 ?_
        refine lv_iload hx hb dX11_judged_43 (lv_at hl 5 rfl) ?_
        refine lv_aload_n hx hb dX11_judged_45 rfl (lv_at hl 0 rfl) ?_
        refine va_get (D := D) (ci := 10) (v := .ref (y 199)) hx hb hts hiX11 hown hK hw.1 195 kg195 rfl 6 (by decide) lf48 (fun _ h9 => h9) rfl dX11_judged_46 ?_
        refine lv_aload_n hx hb dX11_judged_49 rfl (lv_at hl 0 rfl) ?_
        refine va_get (D := D) (ci := 10) (v := .ref (y 12)) hx hb hts hiX11 hown hK hw.1 195 kg195 rfl 9 (by decide) lf68 (fun _ h9 => h9) rfl dX11_judged_50 ?_
        refine kcallV (As := [.int w27_5, .ref (y 199), .ref (y 12)]) (rest := []) ⟨hx, hb, hml, hown, hts⟩ (kc_perform l D ct E y w27_5 rw27 q k13 jw27 hEi) (wqX11_245_kc_perform hts ⟨Nat.le_of_ble_eq_true rfl, Nat.le_of_ble_eq_true rfl⟩) hw hS hA hK hZ hN 1 138 rfl kg138 rfl hl.1 rfl (Nat.le_of_ble_eq_true rfl) dX11_judged_53 56 rfl (fun u15 H locs pu15 hw hS => ?_)
        obtain ⟨v16, r17⟩ := u15
        have hv16 : zI 0 1 v16 := pu15.1
        have ju15 : kJ r17 := pu15.2.1
        have fu15 : zFt rw27 r17 := pu15.2.2.1
        have hw : zPD D A (kW ct E y r17 q) H := hw
        refine zfr 56 [.int v16] rfl rfl ?_
        refine lv_if_ne (tgt := 74) hx hb dX11_judged_56 (by decide) (fun c18 => ?_) (fun c18 => ?_)
        · have k19 : zI 1 1 (v16) := zI.neD c18 hv16 (zI.lit (a := 0) (b := 0) (c := 0) (by decide)) (by decide)
          refine lv_iload_n hx hb dX11_judged_74 rfl (lv_at hl 3 rfl) ?_
          refine lv_iconst (v := (-1)) hx hb dX11_judged_75 (by decide) ?_
          refine lv_icmp_ne (tgt := 117) hx hb dX11_judged_76 (by decide) (fun c20 => ?_) (fun c20 => ?_)
          · have k21 : zI 0 39 (w27_3) := zI.neD c20 hw27_3 (zI.lit (a := (-1)) (b := (-1)) (c := (-1)) (by decide)) (by decide)
            exact cut117 w27_2 w27_3 r17 hw27_2 (k21.w (c := (-1)) (d := 39) (by decide)) k13 ju15 (fw27.tr fu15) H locs ls hw hS (lv_sub hl [0, 1, 2, 3, 4, 5] rfl)
          · have k22 : zI (-1) (-1) (w27_3) := zI.eqq c20 (zI.lit (a := (-1)) (b := (-1)) (c := (-1)) (by decide))
            refine lv_aload_n hx hb dX11_judged_79 rfl (lv_at hl 0 rfl) ?_
            refine va_get (D := D) (ci := 10) (v := .ref (y 138)) hx hb hts hiX11 hown hK hw.1 195 kg195 rfl 4 (by decide) lf36 (fun _ h9 => h9) rfl dX11_judged_80 ?_
            refine lv_iload hx hb dX11_judged_83 (lv_at hl 5 rfl) ?_
            refine kcallV (As := [.int w27_5]) (rest := []) ⟨hx, hb, hml, hown, hts⟩ (kc_goesTo l D ct E y w27_5 r17 q k13 ju15 hEi) (wqX11_249_kc_goesTo hts ⟨Nat.le_of_ble_eq_true rfl, Nat.le_of_ble_eq_true rfl⟩) hw hS hA hK hZ hN 1 138 rfl kg138 rfl hl.1 rfl (Nat.le_of_ble_eq_true rfl) dX11_judged_85 88 rfl (fun u23 H locs pu23 hw hS => ?_)
            have hu23 : zI (-1) 5 u23 := pu23.1
            have yu23_0 : (u23 = kgt r17 w27_5) := pu23.2.1
            have hw : zPD D A (kW ct E y r17 q) H := hw
            refine zfr 88 [.int u23] rfl rfl ?_
            refine lv_iconst (v := (-1)) hx hb dX11_judged_88 (by decide) ?_
            refine lv_icmp_eq (tgt := 117) hx hb dX11_judged_89 (by decide) (fun c25 => ?_) (fun c25 => ?_)
            · have k26 : zI (-1) (-1) (u23) := zI.eqq c25 (zI.lit (a := (-1)) (b := (-1)) (c := (-1)) (by decide))
              exact cut117 w27_2 w27_3 r17 hw27_2 (k22.w (c := (-1)) (d := 39) (by decide)) k13 ju15 (fw27.tr fu15) H locs ls hw hS (lv_sub hl [0, 1, 2, 3, 4, 5] rfl)
            · have k27 : zI 0 5 (u23) := zI.neD c25 hu23 (zI.lit (a := (-1)) (b := (-1)) (c := (-1)) (by decide)) (by decide)
              refine lv_aload_n hx hb dX11_judged_92 rfl (lv_at hl 0 rfl) ?_
              refine va_get (D := D) (ci := 10) (v := .ref (y 171)) hx hb hts hiX11 hown hK hw.1 195 kg195 rfl 1 (by decide) lf19 (fun _ h9 => h9) rfl dX11_judged_93 ?_
              refine va_get (D := D) (ci := 2) (v := .ref (y 172)) hx hb hts hiX2 hown hK hw.1 171 kg171 rfl 0 (by decide) lf159 (fun _ h9 => h9) rfl dX11_judged_96 ?_
              refine lv_aload_n hx hb dX11_judged_99 rfl (lv_at hl 0 rfl) ?_
              refine va_get (D := D) (ci := 10) (v := .ref (y 138)) hx hb hts hiX11 hown hK hw.1 195 kg195 rfl 4 (by decide) lf36 (fun _ h9 => h9) rfl dX11_judged_100 ?_
              refine lv_iload hx hb dX11_judged_103 (lv_at hl 5 rfl) ?_
              refine kcallV (As := [.int w27_5]) (rest := [.ref (y 172)]) ⟨hx, hb, hml, hown, hts⟩ (kc_goesTo l D ct E y w27_5 r17 q k13 ju15 hEi) (wqX11_249_kc_goesTo hts ⟨Nat.le_of_ble_eq_true rfl, Nat.le_of_ble_eq_true rfl⟩) hw hS hA hK hZ hN 1 138 rfl kg138 rfl hl.1 rfl (Nat.le_of_ble_eq_true rfl) dX11_judged_105 108 rfl (fun u28 H locs pu28 hw hS => ?_)
              have hu28 : zI (-1) 5 u28 := pu28.1
              have yu28_0 : (u28 = kgt r17 w27_5) := pu28.2.1
              have hw : zPD D A (kW ct E y r17 q) H := hw
              refine zfr 108 [.int u28, .ref (y 172)] rfl rfl ?_
              have k30 : zI 0 5 u28 := by rw [yu28_0, ← yu23_0]; exact k27
              refine miald hx hb hK hw 172 kg172 k30 (by decide) dX11_judged_108 (zgen (zI.top _) (fun v31 _ => ?_))
              refine lv_iload hx hb dX11_judged_109 (lv_at hl 4 rfl) ?_
              refine lv_icmp_ne (tgt := 117) hx hb dX11_judged_111 (by decide) (fun c32 => ?_) (fun c32 => ?_)
              · exact cut117 w27_2 w27_3 r17 hw27_2 (k22.w (c := (-1)) (d := 39) (by decide)) k13 ju15 (fw27.tr fu15) H locs ls hw hS (lv_sub hl [0, 1, 2, 3, 4, 5] rfl)
              · refine lv_iload hx hb dX11_judged_114 (lv_at hl 5 rfl) ?_
                refine lv_istore_n (lv' := [(3, .int w27_5), (0, .ref (y 195)), (1, .int a1), (2, .int w27_2), (4, .int w27_4), (5, .int w27_5)]) hx hb dX11_judged_116 rfl hl (by decide) rfl (fun ls hl => ?_)
                exact cut117 w27_2 w27_5 r17 hw27_2 (k13.w (c := (-1)) (d := 39) (by decide)) k13 ju15 (fw27.tr fu15) H locs ls hw hS (lv_sub hl [1, 2, 3, 0, 4, 5] rfl)
        · have k33 : zI 0 0 (v16) := zI.eqq c18 (zI.lit (a := 0) (b := 0) (c := 0) (by decide))
          refine lv_iload_n hx hb dX11_judged_59 rfl (lv_at hl 2 rfl) ?_
          refine lv_iconst (v := (-1)) hx hb dX11_judged_60 (by decide) ?_
          refine lv_icmp_ne (tgt := 69) hx hb dX11_judged_61 (by decide) (fun c34 => ?_) (fun c34 => ?_)
          · have k35 : zI 0 39 (w27_2) := zI.neD c34 hw27_2 (zI.lit (a := (-1)) (b := (-1)) (c := (-1)) (by decide)) (by decide)
            refine lv_iload_n hx hb dX11_judged_69 rfl (lv_at hl 2 rfl) ?_
            exact cut70 w27_2 r17 hw27_3 k13 k35 ju15 (fw27.tr fu15) H locs ls hw hS (lv_sub hl [0, 1, 3, 4, 5] rfl)
          · have k36 : zI (-1) (-1) (w27_2) := zI.eqq c34 (zI.lit (a := (-1)) (b := (-1)) (c := (-1)) (by decide))
            refine lv_iload hx hb dX11_judged_64 (lv_at hl 5 rfl) ?_
            refine lv_goto (tgt := 70) hx hb dX11_judged_66 (by decide) ?_
            exact cut70 w27_5 r17 hw27_3 k13 k13 ju15 (fw27.tr fu15) H locs ls hw hS (lv_sub hl [0, 1, 3, 4, 5] rfl)
  intro H locs hw hS ls hl
  have hl : lv_has ls 6 [(0, .ref (y 195)), (1, .int a1)] := hl
  refine lv_iconst (v := (-1)) hx hb dX11_judged_0 (by decide) ?_
  refine lv_istore_n (lv' := [(2, .int (-1)), (0, .ref (y 195)), (1, .int a1)]) hx hb dX11_judged_1 rfl hl (by decide) rfl (fun ls hl => ?_)
  refine lv_iconst (v := (-1)) hx hb dX11_judged_2 (by decide) ?_
  refine lv_istore_n (lv' := [(3, .int (-1)), (2, .int (-1)), (0, .ref (y 195)), (1, .int a1)]) hx hb dX11_judged_3 rfl hl (by decide) rfl (fun ls hl => ?_)
  refine lv_aload_n hx hb dX11_judged_4 rfl (lv_at hl 2 rfl) ?_
  refine va_get (D := D) (ci := 10) (v := .ref (y 171)) hx hb hts hiX11 hown hK hw.1 195 kg195 rfl 1 (by decide) lf19 (fun _ h9 => h9) rfl dX11_judged_5 ?_
  refine kcallV (As := []) (rest := []) ⟨hx, hb, hml, hown, hts⟩ (kc_mostAsked l D ct E y r q hJ0 hEi) (wqX11_241_kc_mostAsked hts ⟨Nat.le_of_ble_eq_true rfl, Nat.le_of_ble_eq_true rfl⟩) hw hS hA hK hZ hN 2 171 rfl kg171 rfl hl.1 rfl (Nat.le_of_ble_eq_true rfl) dX11_judged_8 11 rfl (fun u37 H locs pu37 hw hS => ?_)
  have hu37 : zI (-2147483648) 2147483647 u37 := pu37.1
  have hw : zPD D A (kW ct E y r q) H := hw
  refine zfr 11 [.int u37] rfl rfl ?_
  refine lv_istore (lv' := [(4, .int u37), (3, .int (-1)), (2, .int (-1)), (0, .ref (y 195)), (1, .int a1)]) hx hb dX11_judged_11 hl (by decide) rfl (fun ls hl => ?_)
  refine lv_aload_n hx hb dX11_judged_13 rfl (lv_at hl 3 rfl) ?_
  refine va_get (D := D) (ci := 10) (v := .ref (y 12)) hx hb hts hiX11 hown hK hw.1 195 kg195 rfl 9 (by decide) lf68 (fun _ h9 => h9) rfl dX11_judged_14 ?_
  refine lv_aload_n hx hb dX11_judged_17 rfl (lv_at hl 3 rfl) ?_
  refine va_get (D := D) (ci := 10) (v := .ref (y 171)) hx hb hts hiX11 hown hK hw.1 195 kg195 rfl 1 (by decide) lf19 (fun _ h9 => h9) rfl dX11_judged_18 ?_
  refine kcallV (As := [.ref (y 171)]) (rest := []) ⟨hx, hb, hml, hown, hts⟩ (kc_begin8T l D ct E y r q hJ0 hEi) (wqX11_113_kc_begin8T hts ⟨Nat.le_of_ble_eq_true rfl, Nat.le_of_ble_eq_true rfl⟩) hw hS hA hK hZ hN 7 12 rfl kg12 rfl hl.1 rfl (Nat.le_of_ble_eq_true rfl) dX11_judged_21 24 rfl (fun u39 H locs pu39 hw hS => ?_)
  have ju39 : kJ u39 := pu39.1
  have fu39 : zFt r u39 := pu39.2.1
  have hw : zPD D A (kW ct E y u39 q) H := hw
  refine zfr 24 [] rfl rfl ?_
  refine lv_iconst (v := 0) hx hb dX11_judged_24 (by decide) ?_
  refine lv_istore (lv' := [(5, .int 0), (4, .int u37), (3, .int (-1)), (2, .int (-1)), (0, .ref (y 195)), (1, .int a1)]) hx hb dX11_judged_25 hl (by decide) rfl (fun ls hl => ?_)
  exact cut27 41 (-1) (-1) u37 0 u39 ((zI.lit (a := (-1)) (b := (-1)) (c := (-1)) (by decide)).w (c := (-1)) (d := 39) (by decide)) ((zI.lit (a := (-1)) (b := (-1)) (c := (-1)) (by decide)).w (c := (-1)) (d := 39) (by decide)) ((zI.lit (a := 0) (b := 0) (c := 0) (by decide)).w (c := 0) (d := 40) (by decide)) ju39 ((zFt.refl).tr fu39) (zI.m0 (zI.lit (a := 0) (b := 0) (c := 0) (by decide)) (by decide)) H locs ls hw hS (lv_sub hl [4, 5, 3, 2, 1, 0] rfl)

set_option maxHeartbeats 4000000 in
set_option maxRecDepth 100000 in
theorem kc_reach (l : Launch) (D : va_G) (ct : Nat → ClassId) (E : Nat → Nat) (y : Nat → Nat) (a1 : Int32) (r : zRr) (q : zRq) (hJ0 : kJ r) (hEi : kEi E) : cC l yX11_reach (.code yX11_reach cX11_reach 2 (some .int) :: wsL_law0) ({ frames := 7, cells := 0, slots := 0, locals := 320 }) D ct E [.ref (y 195), .int a1] (kW ct E y r q) (S := Int32 × zRr) (fun u => some (.int u.1)) (fun u => zI (-2147483648) 2147483647 u.1 ∧ kJ u.2 ∧ zFt r u.2 ∧ True) (fun u => kW ct E y u.2 q) := by
  refine cofQ cX11_reach 2 (some .int) (by decide) rfl (Nat.le_of_ble_eq_true rfl) ?_
  intro p e s m below meth c A a9 Q ha9 hx hb hr hml hts hown hlocks hname hK hA hZ hN hQ
  have hown : s.vm.findClass RX11 = some m.cls := hown
  have hiX11 : ∀ w ∈ wsX110, w ∈ .code yX11_reach cX11_reach 2 (some .int) :: wsL_law0 := fun _ h => ki (zs_wsX110 _ h)
  have lf57 := hts (.fieldLink RX11 57 "BeardPass" "ways" "LBeardPass$Ways;") (ki (zr2 15 rfl))
  have lf64 := hts (.fieldLink RX11 64 "BeardPass" "now" "LBeardPass$Standing;") (ki (zr2 19 rfl))
  intro H locs hw hS ls hl
  have hl : lv_has ls 2 [(0, .ref (y 195)), (1, .int a1)] := hl
  refine lv_aload_n hx hb dX11_reach_0 rfl (lv_at hl 0 rfl) ?_
  refine lv_iload_n hx hb dX11_reach_1 rfl (lv_at hl 1 rfl) ?_
  refine kcallV (As := [.int a1]) (rest := []) ⟨hx, hb, hml, hown, hts⟩ (kc_isPerson l D ct E y a1 r q hJ0 hEi) (wqX11_133_kc_isPerson hts ⟨Nat.le_of_ble_eq_true rfl, Nat.le_of_ble_eq_true rfl⟩) hw hS hA hK hZ hN 10 195 rfl kg195 rfl hl.1 rfl (Nat.le_of_ble_eq_true rfl) dX11_reach_2 5 rfl (fun u1 H locs pu1 hw hS => ?_)
  have hu1 : zI 0 1 u1 := pu1.1
  have yu1_0 : (¬ u1 = 0 → zI 0 5 a1) := pu1.2.1
  have xu1 : u1 = (Gk_isPerson a1 r q) := pu1.2.2.1
  have hw : zPD D A (kW ct E y r q) H := hw
  refine zfr 5 [.int u1] rfl rfl ?_
  refine lv_if_eq (tgt := 24) hx hb dX11_reach_5 (by decide) (fun c3 => ?_) (fun c3 => ?_)
  · have k4 : zI 0 0 (u1) := zI.eqq c3 (zI.lit (a := 0) (b := 0) (c := 0) (by decide))
    refine lv_iconst (v := (-1)) hx hb dX11_reach_24 (by decide) ?_
    exact ziretQ hQ hx hb hr rfl hlocks (((-1) : Int32), r) rfl ⟨(zI.top _), hJ0, (zFt.refl), trivial⟩ hw hS dX11_reach_25
  · have k5 : zI 1 1 (u1) := zI.neD c3 hu1 (zI.lit (a := 0) (b := 0) (c := 0) (by decide)) (by decide)
    refine lv_aload_n hx hb dX11_reach_8 rfl (lv_at hl 0 rfl) ?_
    refine va_get (D := D) (ci := 10) (v := .ref (y 200)) hx hb hts hiX11 hown hK hw.1 195 kg195 rfl 7 (by decide) lf57 (fun _ h9 => h9) rfl dX11_reach_9 ?_
    refine lv_aload_n hx hb dX11_reach_12 rfl (lv_at hl 0 rfl) ?_
    refine va_get (D := D) (ci := 10) (v := .ref (y 6)) hx hb hts hiX11 hown hK hw.1 195 kg195 rfl 8 (by decide) lf64 (fun _ h9 => h9) rfl dX11_reach_13 ?_
    refine lv_iload_n hx hb dX11_reach_16 rfl (lv_at hl 1 rfl) ?_
    refine lv_iconst (v := 0) hx hb dX11_reach_17 (by decide) ?_
    refine kcallV (As := [.ref (y 6), .int a1, .int 0]) (rest := []) ⟨hx, hb, hml, hown, hts⟩ (kc_reachOfN l D ct E y a1 (0 : Int32) r q (yu1_0 c3) hJ0 hEi) (wqX11_253_kc_reachOfN hts ⟨Nat.le_of_ble_eq_true rfl, Nat.le_of_ble_eq_true rfl⟩) hw hS hA hK hZ hN 9 200 rfl kg200 rfl hl.1 rfl (Nat.le_of_ble_eq_true rfl) dX11_reach_18 21 rfl (fun u6 H locs pu6 hw hS => ?_)
    obtain ⟨v7, r8⟩ := u6
    have hv7 : zI (-2147483648) 2147483647 v7 := pu6.1
    have ju6 : kJ r8 := pu6.2.1
    have fu6 : zFr [182, 202] r r8 := pu6.2.2.1
    have hw : zPD D A (kW ct E y r8 q) H := hw
    refine zfr 21 [.int v7] rfl rfl ?_
    refine lv_goto (tgt := 25) hx hb dX11_reach_21 (by decide) ?_
    exact ziretQ hQ hx hb hr rfl hlocks (v7, r8) rfl ⟨(zI.top _), ju6, ((zFt.refl).trF fu6 rfl), trivial⟩ hw hS dX11_reach_25

set_option maxHeartbeats 4000000 in
set_option maxRecDepth 100000 in
theorem kc_frontiers (l : Launch) (D : va_G) (ct : Nat → ClassId) (E : Nat → Nat) (y : Nat → Nat) (a1 : Int32) (a2 : Int32) (r : zRr) (q : zRq) (hJ0 : kJ r) (hEi : kEi E) : cC l yX11_frontiers (.code yX11_frontiers cX11_frontiers 3 (some .int) :: wsL_law0) ({ frames := 6, cells := 0, slots := 0, locals := 280 }) D ct E [.ref (y 195), .int a1, .int a2] (kW ct E y r q) (S := Int32 × zRr) (fun u => some (.int u.1)) (fun u => zI (-2147483648) 2147483647 u.1 ∧ kJ u.2 ∧ zFt r u.2 ∧ True) (fun u => kW ct E y u.2 q) := by
  refine cofQ cX11_frontiers 3 (some .int) (by decide) rfl (Nat.le_of_ble_eq_true rfl) ?_
  intro p e s m below meth c A a9 Q ha9 hx hb hr hml hts hown hlocks hname hK hA hZ hN hQ
  have hown : s.vm.findClass RX11 = some m.cls := hown
  have hiX11 : ∀ w ∈ wsX110, w ∈ .code yX11_frontiers cX11_frontiers 3 (some .int) :: wsL_law0 := fun _ h => ki (zs_wsX110 _ h)
  have hiX8 : ∀ w ∈ wsX80, w ∈ .code yX11_frontiers cX11_frontiers 3 (some .int) :: wsL_law0 := fun _ h => ki (zs_wsX80 _ h)
  have lf57 := hts (.fieldLink RX11 57 "BeardPass" "ways" "LBeardPass$Ways;") (ki (zr2 15 rfl))
  have lf64 := hts (.fieldLink RX11 64 "BeardPass" "now" "LBeardPass$Standing;") (ki (zr2 19 rfl))
  have lf141 := hts (.fieldLink RX11 141 "BeardPass$Standing" "places" "[I") (ki (zr30 15 rfl))
  intro H locs hw hS ls hl
  have hl : lv_has ls 3 [(0, .ref (y 195)), (1, .int a1), (2, .int a2)] := hl
  refine lv_aload_n hx hb dX11_frontiers_0 rfl (lv_at hl 0 rfl) ?_
  refine lv_iload_n hx hb dX11_frontiers_1 rfl (lv_at hl 1 rfl) ?_
  refine kcallV (As := [.int a1]) (rest := []) ⟨hx, hb, hml, hown, hts⟩ (kc_isPerson l D ct E y a1 r q hJ0 hEi) (wqX11_133_kc_isPerson hts ⟨Nat.le_of_ble_eq_true rfl, Nat.le_of_ble_eq_true rfl⟩) hw hS hA hK hZ hN 10 195 rfl kg195 rfl hl.1 rfl (Nat.le_of_ble_eq_true rfl) dX11_frontiers_2 5 rfl (fun u1 H locs pu1 hw hS => ?_)
  have hu1 : zI 0 1 u1 := pu1.1
  have yu1_0 : (¬ u1 = 0 → zI 0 5 a1) := pu1.2.1
  have xu1 : u1 = (Gk_isPerson a1 r q) := pu1.2.2.1
  have hw : zPD D A (kW ct E y r q) H := hw
  refine zfr 5 [.int u1] rfl rfl ?_
  refine lv_if_eq (tgt := 16) hx hb dX11_frontiers_5 (by decide) (fun c3 => ?_) (fun c3 => ?_)
  · have k4 : zI 0 0 (u1) := zI.eqq c3 (zI.lit (a := 0) (b := 0) (c := 0) (by decide))
    refine lv_iconst (v := (-1)) hx hb dX11_frontiers_16 (by decide) ?_
    exact ziretQ hQ hx hb hr rfl hlocks (((-1) : Int32), r) rfl ⟨(zI.top _), hJ0, (zFt.refl), trivial⟩ hw hS dX11_frontiers_17
  · have k5 : zI 1 1 (u1) := zI.neD c3 hu1 (zI.lit (a := 0) (b := 0) (c := 0) (by decide)) (by decide)
    refine lv_aload_n hx hb dX11_frontiers_8 rfl (lv_at hl 0 rfl) ?_
    refine lv_iload_n hx hb dX11_frontiers_9 rfl (lv_at hl 2 rfl) ?_
    refine kcallV (As := [.int a2]) (rest := []) ⟨hx, hb, hml, hown, hts⟩ (kc_isTown l D ct E y a2 r q hJ0 hEi) (wqX11_156_kc_isTown hts ⟨Nat.le_of_ble_eq_true rfl, Nat.le_of_ble_eq_true rfl⟩) hw hS hA hK hZ hN 10 195 rfl kg195 rfl hl.1 rfl (Nat.le_of_ble_eq_true rfl) dX11_frontiers_10 13 rfl (fun u6 H locs pu6 hw hS => ?_)
    have hu6 : zI 0 1 u6 := pu6.1
    have yu6_0 : (¬ u6 = 0 → zI 0 5 a2) := pu6.2.1
    have xu6 : u6 = (Gk_isTown a2 r q) := pu6.2.2.1
    have hw : zPD D A (kW ct E y r q) H := hw
    refine zfr 13 [.int u6] rfl rfl ?_
    refine lv_if_ne (tgt := 18) hx hb dX11_frontiers_13 (by decide) (fun c8 => ?_) (fun c8 => ?_)
    · have k9 : zI 1 1 (u6) := zI.neD c8 hu6 (zI.lit (a := 0) (b := 0) (c := 0) (by decide)) (by decide)
      refine lv_aload_n hx hb dX11_frontiers_18 rfl (lv_at hl 0 rfl) ?_
      refine va_get (D := D) (ci := 10) (v := .ref (y 200)) hx hb hts hiX11 hown hK hw.1 195 kg195 rfl 7 (by decide) lf57 (fun _ h9 => h9) rfl dX11_frontiers_19 ?_
      refine lv_aload_n hx hb dX11_frontiers_22 rfl (lv_at hl 0 rfl) ?_
      refine va_get (D := D) (ci := 10) (v := .ref (y 6)) hx hb hts hiX11 hown hK hw.1 195 kg195 rfl 8 (by decide) lf64 (fun _ h9 => h9) rfl dX11_frontiers_23 ?_
      refine lv_iload_n hx hb dX11_frontiers_26 rfl (lv_at hl 1 rfl) ?_
      refine lv_iconst (v := 0) hx hb dX11_frontiers_27 (by decide) ?_
      refine kcallV (As := [.ref (y 6), .int a1, .int 0]) (rest := []) ⟨hx, hb, hml, hown, hts⟩ (kc_layN l D ct E y a1 (0 : Int32) r q (yu1_0 c3) hJ0 hEi) (wqX11_257_kc_layN hts ⟨Nat.le_of_ble_eq_true rfl, Nat.le_of_ble_eq_true rfl⟩) hw hS hA hK hZ hN 9 200 rfl kg200 rfl hl.1 rfl (Nat.le_of_ble_eq_true rfl) dX11_frontiers_28 31 rfl (fun u10 H locs pu10 hw hS => ?_)
      have ju10 : kJ u10 := pu10.1
      have fu10 : zFr [182, 202] r u10 := pu10.2.1
      have hw : zPD D A (kW ct E y u10 q) H := hw
      refine zfr 31 [] rfl rfl ?_
      refine lv_aload_n hx hb dX11_frontiers_31 rfl (lv_at hl 0 rfl) ?_
      refine va_get (D := D) (ci := 10) (v := .ref (y 200)) hx hb hts hiX11 hown hK hw.1 195 kg195 rfl 7 (by decide) lf57 (fun _ h9 => h9) rfl dX11_frontiers_32 ?_
      refine lv_aload_n hx hb dX11_frontiers_35 rfl (lv_at hl 0 rfl) ?_
      refine va_get (D := D) (ci := 10) (v := .ref (y 6)) hx hb hts hiX11 hown hK hw.1 195 kg195 rfl 8 (by decide) lf64 (fun _ h9 => h9) rfl dX11_frontiers_36 ?_
      refine va_get (D := D) (ci := 7) (v := .ref (y 7)) hx hb hts hiX8 hown hK hw.1 6 kg6 rfl 0 (by decide) lf141 (fun _ h9 => h9) rfl dX11_frontiers_39 ?_
      refine lv_iload_n hx hb dX11_frontiers_42 rfl (lv_at hl 1 rfl) ?_
      refine miald hx hb hK hw 7 kg7 (yu1_0 c3) (by decide) dX11_frontiers_43 (zgen (lo := 0) (hi := 5) ((show zI 0 5 (u10 7 _) from ju10.i 7 _)) (fun v12 hv12 => ?_))
      refine lv_iload_n hx hb dX11_frontiers_44 rfl (lv_at hl 2 rfl) ?_
      refine kcallV (As := [.int v12, .int a2]) (rest := []) ⟨hx, hb, hml, hown, hts⟩ (kc_distance l D ct E y v12 a2 u10 q ju10 hEi) (wqX11_259_kc_distance hts ⟨Nat.le_of_ble_eq_true rfl, Nat.le_of_ble_eq_true rfl⟩) hw hS hA hK hZ hN 9 200 rfl kg200 rfl hl.1 rfl (Nat.le_of_ble_eq_true rfl) dX11_frontiers_45 48 rfl (fun u13 H locs pu13 hw hS => ?_)
      have hu13 : zI (-1) 5 u13 := pu13.1
      have hw : zPD D A (kW ct E y u10 q) H := hw
      refine zfr 48 [.int u13] rfl rfl ?_
      exact ziretQ hQ hx hb hr rfl hlocks (u13, u10) rfl ⟨(zI.top _), ju10, ((zFt.refl).trF fu10 rfl), trivial⟩ hw hS dX11_frontiers_48
    · have k15 : zI 0 0 (u6) := zI.eqq c8 (zI.lit (a := 0) (b := 0) (c := 0) (by decide))
      refine lv_iconst (v := (-1)) hx hb dX11_frontiers_16 (by decide) ?_
      exact ziretQ hQ hx hb hr rfl hlocks (((-1) : Int32), r) rfl ⟨(zI.top _), hJ0, (zFt.refl), trivial⟩ hw hS dX11_frontiers_17

set_option maxHeartbeats 4000000 in
set_option maxRecDepth 100000 in
theorem kc_guide (l : Launch) (D : va_G) (ct : Nat → ClassId) (E : Nat → Nat) (y : Nat → Nat) (a1 : Int32) (a2 : Int32) (r : zRr) (q : zRq) (hJ0 : kJ r) (hEi : kEi E) : cC l yX11_guide (.code yX11_guide cX11_guide 3 (some .int) :: wsL_law0) ({ frames := 6, cells := 0, slots := 0, locals := 280 }) D ct E [.ref (y 195), .int a1, .int a2] (kW ct E y r q) (S := Int32 × zRr) (fun u => some (.int u.1)) (fun u => zI (-2147483648) 2147483647 u.1 ∧ kJ u.2 ∧ zFt r u.2 ∧ True) (fun u => kW ct E y u.2 q) := by
  refine cofQ cX11_guide 3 (some .int) (by decide) rfl (Nat.le_of_ble_eq_true rfl) ?_
  intro p e s m below meth c A a9 Q ha9 hx hb hr hml hts hown hlocks hname hK hA hZ hN hQ
  have hown : s.vm.findClass RX11 = some m.cls := hown
  have hiX11 : ∀ w ∈ wsX110, w ∈ .code yX11_guide cX11_guide 3 (some .int) :: wsL_law0 := fun _ h => ki (zs_wsX110 _ h)
  have hiX8 : ∀ w ∈ wsX80, w ∈ .code yX11_guide cX11_guide 3 (some .int) :: wsL_law0 := fun _ h => ki (zs_wsX80 _ h)
  have lf57 := hts (.fieldLink RX11 57 "BeardPass" "ways" "LBeardPass$Ways;") (ki (zr2 15 rfl))
  have lf64 := hts (.fieldLink RX11 64 "BeardPass" "now" "LBeardPass$Standing;") (ki (zr2 19 rfl))
  have lf141 := hts (.fieldLink RX11 141 "BeardPass$Standing" "places" "[I") (ki (zr30 15 rfl))
  intro H locs hw hS ls hl
  have hl : lv_has ls 3 [(0, .ref (y 195)), (1, .int a1), (2, .int a2)] := hl
  refine lv_aload_n hx hb dX11_guide_0 rfl (lv_at hl 0 rfl) ?_
  refine lv_iload_n hx hb dX11_guide_1 rfl (lv_at hl 1 rfl) ?_
  refine kcallV (As := [.int a1]) (rest := []) ⟨hx, hb, hml, hown, hts⟩ (kc_isPerson l D ct E y a1 r q hJ0 hEi) (wqX11_133_kc_isPerson hts ⟨Nat.le_of_ble_eq_true rfl, Nat.le_of_ble_eq_true rfl⟩) hw hS hA hK hZ hN 10 195 rfl kg195 rfl hl.1 rfl (Nat.le_of_ble_eq_true rfl) dX11_guide_2 5 rfl (fun u1 H locs pu1 hw hS => ?_)
  have hu1 : zI 0 1 u1 := pu1.1
  have yu1_0 : (¬ u1 = 0 → zI 0 5 a1) := pu1.2.1
  have xu1 : u1 = (Gk_isPerson a1 r q) := pu1.2.2.1
  have hw : zPD D A (kW ct E y r q) H := hw
  refine zfr 5 [.int u1] rfl rfl ?_
  refine lv_if_eq (tgt := 16) hx hb dX11_guide_5 (by decide) (fun c3 => ?_) (fun c3 => ?_)
  · have k4 : zI 0 0 (u1) := zI.eqq c3 (zI.lit (a := 0) (b := 0) (c := 0) (by decide))
    refine lv_iconst (v := (-1)) hx hb dX11_guide_16 (by decide) ?_
    exact ziretQ hQ hx hb hr rfl hlocks (((-1) : Int32), r) rfl ⟨(zI.top _), hJ0, (zFt.refl), trivial⟩ hw hS dX11_guide_17
  · have k5 : zI 1 1 (u1) := zI.neD c3 hu1 (zI.lit (a := 0) (b := 0) (c := 0) (by decide)) (by decide)
    refine lv_aload_n hx hb dX11_guide_8 rfl (lv_at hl 0 rfl) ?_
    refine lv_iload_n hx hb dX11_guide_9 rfl (lv_at hl 2 rfl) ?_
    refine kcallV (As := [.int a2]) (rest := []) ⟨hx, hb, hml, hown, hts⟩ (kc_isTown l D ct E y a2 r q hJ0 hEi) (wqX11_156_kc_isTown hts ⟨Nat.le_of_ble_eq_true rfl, Nat.le_of_ble_eq_true rfl⟩) hw hS hA hK hZ hN 10 195 rfl kg195 rfl hl.1 rfl (Nat.le_of_ble_eq_true rfl) dX11_guide_10 13 rfl (fun u6 H locs pu6 hw hS => ?_)
    have hu6 : zI 0 1 u6 := pu6.1
    have yu6_0 : (¬ u6 = 0 → zI 0 5 a2) := pu6.2.1
    have xu6 : u6 = (Gk_isTown a2 r q) := pu6.2.2.1
    have hw : zPD D A (kW ct E y r q) H := hw
    refine zfr 13 [.int u6] rfl rfl ?_
    refine lv_if_ne (tgt := 18) hx hb dX11_guide_13 (by decide) (fun c8 => ?_) (fun c8 => ?_)
    · have k9 : zI 1 1 (u6) := zI.neD c8 hu6 (zI.lit (a := 0) (b := 0) (c := 0) (by decide)) (by decide)
      refine lv_aload_n hx hb dX11_guide_18 rfl (lv_at hl 0 rfl) ?_
      refine va_get (D := D) (ci := 10) (v := .ref (y 200)) hx hb hts hiX11 hown hK hw.1 195 kg195 rfl 7 (by decide) lf57 (fun _ h9 => h9) rfl dX11_guide_19 ?_
      refine lv_aload_n hx hb dX11_guide_22 rfl (lv_at hl 0 rfl) ?_
      refine va_get (D := D) (ci := 10) (v := .ref (y 6)) hx hb hts hiX11 hown hK hw.1 195 kg195 rfl 8 (by decide) lf64 (fun _ h9 => h9) rfl dX11_guide_23 ?_
      refine lv_iload_n hx hb dX11_guide_26 rfl (lv_at hl 1 rfl) ?_
      refine lv_iconst (v := 0) hx hb dX11_guide_27 (by decide) ?_
      refine kcallV (As := [.ref (y 6), .int a1, .int 0]) (rest := []) ⟨hx, hb, hml, hown, hts⟩ (kc_layN l D ct E y a1 (0 : Int32) r q (yu1_0 c3) hJ0 hEi) (wqX11_257_kc_layN hts ⟨Nat.le_of_ble_eq_true rfl, Nat.le_of_ble_eq_true rfl⟩) hw hS hA hK hZ hN 9 200 rfl kg200 rfl hl.1 rfl (Nat.le_of_ble_eq_true rfl) dX11_guide_28 31 rfl (fun u10 H locs pu10 hw hS => ?_)
      have ju10 : kJ u10 := pu10.1
      have fu10 : zFr [182, 202] r u10 := pu10.2.1
      have hw : zPD D A (kW ct E y u10 q) H := hw
      refine zfr 31 [] rfl rfl ?_
      refine lv_aload_n hx hb dX11_guide_31 rfl (lv_at hl 0 rfl) ?_
      refine va_get (D := D) (ci := 10) (v := .ref (y 200)) hx hb hts hiX11 hown hK hw.1 195 kg195 rfl 7 (by decide) lf57 (fun _ h9 => h9) rfl dX11_guide_32 ?_
      refine lv_aload_n hx hb dX11_guide_35 rfl (lv_at hl 0 rfl) ?_
      refine va_get (D := D) (ci := 10) (v := .ref (y 6)) hx hb hts hiX11 hown hK hw.1 195 kg195 rfl 8 (by decide) lf64 (fun _ h9 => h9) rfl dX11_guide_36 ?_
      refine va_get (D := D) (ci := 7) (v := .ref (y 7)) hx hb hts hiX8 hown hK hw.1 6 kg6 rfl 0 (by decide) lf141 (fun _ h9 => h9) rfl dX11_guide_39 ?_
      refine lv_iload_n hx hb dX11_guide_42 rfl (lv_at hl 1 rfl) ?_
      refine miald hx hb hK hw 7 kg7 (yu1_0 c3) (by decide) dX11_guide_43 (zgen (lo := 0) (hi := 5) ((show zI 0 5 (u10 7 _) from ju10.i 7 _)) (fun v12 hv12 => ?_))
      refine lv_iload_n hx hb dX11_guide_44 rfl (lv_at hl 2 rfl) ?_
      refine kcallV (As := [.int v12, .int a2]) (rest := []) ⟨hx, hb, hml, hown, hts⟩ (kc_firstStep l D ct E y v12 a2 u10 q hv12 ju10 hEi) (wqX11_262_kc_firstStep hts ⟨Nat.le_of_ble_eq_true rfl, Nat.le_of_ble_eq_true rfl⟩) hw hS hA hK hZ hN 9 200 rfl kg200 rfl hl.1 rfl (Nat.le_of_ble_eq_true rfl) dX11_guide_45 48 rfl (fun u13 H locs pu13 hw hS => ?_)
      have hu13 : zI (-1) 5 u13 := pu13.1
      have hw : zPD D A (kW ct E y u10 q) H := hw
      refine zfr 48 [.int u13] rfl rfl ?_
      exact ziretQ hQ hx hb hr rfl hlocks (u13, u10) rfl ⟨(zI.top _), ju10, ((zFt.refl).trF fu10 rfl), trivial⟩ hw hS dX11_guide_48
    · have k15 : zI 0 0 (u6) := zI.eqq c8 (zI.lit (a := 0) (b := 0) (c := 0) (by decide))
      refine lv_iconst (v := (-1)) hx hb dX11_guide_16 (by decide) ?_
      exact ziretQ hQ hx hb hr rfl hlocks (((-1) : Int32), r) rfl ⟨(zI.top _), hJ0, (zFt.refl), trivial⟩ hw hS dX11_guide_17

set_option maxHeartbeats 4000000 in
set_option maxRecDepth 100000 in
theorem kc_when (l : Launch) (D : va_G) (ct : Nat → ClassId) (E : Nat → Nat) (y : Nat → Nat) (a1 : Int32) (a2 : Int32) (r : zRr) (q : zRq) (hJ0 : kJ r) (hEi : kEi E) : cC l yX11_when (.code yX11_when cX11_when 3 (some .int) :: wsL_law0) ({ frames := 7, cells := 0, slots := 0, locals := 320 }) D ct E [.ref (y 195), .int a1, .int a2] (kW ct E y r q) (S := Int32 × zRr) (fun u => some (.int u.1)) (fun u => zI (-2147483648) 2147483647 u.1 ∧ kJ u.2 ∧ zFt r u.2 ∧ True) (fun u => kW ct E y u.2 q) := by
  refine cofQ cX11_when 3 (some .int) (by decide) rfl (Nat.le_of_ble_eq_true rfl) ?_
  intro p e s m below meth c A a9 Q ha9 hx hb hr hml hts hown hlocks hname hK hA hZ hN hQ
  have hown : s.vm.findClass RX11 = some m.cls := hown
  have hiX10 : ∀ w ∈ wsX100, w ∈ .code yX11_when cX11_when 3 (some .int) :: wsL_law0 := fun _ h => ki (zs_wsX100 _ h)
  have hiX11 : ∀ w ∈ wsX110, w ∈ .code yX11_when cX11_when 3 (some .int) :: wsL_law0 := fun _ h => ki (zs_wsX110 _ h)
  have lf57 := hts (.fieldLink RX11 57 "BeardPass" "ways" "LBeardPass$Ways;") (ki (zr2 15 rfl))
  have lf64 := hts (.fieldLink RX11 64 "BeardPass" "now" "LBeardPass$Standing;") (ki (zr2 19 rfl))
  have lf268 := hts (.fieldLink RX11 268 "BeardPass$Ways" "soonest" "[I") (ki (zr44 13 rfl))
  intro H locs hw hS ls hl
  have hl : lv_has ls 3 [(0, .ref (y 195)), (1, .int a1), (2, .int a2)] := hl
  refine lv_aload_n hx hb dX11_when_0 rfl (lv_at hl 0 rfl) ?_
  refine lv_iload_n hx hb dX11_when_1 rfl (lv_at hl 1 rfl) ?_
  refine kcallV (As := [.int a1]) (rest := []) ⟨hx, hb, hml, hown, hts⟩ (kc_isPerson l D ct E y a1 r q hJ0 hEi) (wqX11_133_kc_isPerson hts ⟨Nat.le_of_ble_eq_true rfl, Nat.le_of_ble_eq_true rfl⟩) hw hS hA hK hZ hN 10 195 rfl kg195 rfl hl.1 rfl (Nat.le_of_ble_eq_true rfl) dX11_when_2 5 rfl (fun u1 H locs pu1 hw hS => ?_)
  have hu1 : zI 0 1 u1 := pu1.1
  have yu1_0 : (¬ u1 = 0 → zI 0 5 a1) := pu1.2.1
  have xu1 : u1 = (Gk_isPerson a1 r q) := pu1.2.2.1
  have hw : zPD D A (kW ct E y r q) H := hw
  refine zfr 5 [.int u1] rfl rfl ?_
  refine lv_if_eq (tgt := 16) hx hb dX11_when_5 (by decide) (fun c3 => ?_) (fun c3 => ?_)
  · have k4 : zI 0 0 (u1) := zI.eqq c3 (zI.lit (a := 0) (b := 0) (c := 0) (by decide))
    refine lv_iconst (v := (-1)) hx hb dX11_when_16 (by decide) ?_
    exact ziretQ hQ hx hb hr rfl hlocks (((-1) : Int32), r) rfl ⟨(zI.top _), hJ0, (zFt.refl), trivial⟩ hw hS dX11_when_17
  · have k5 : zI 1 1 (u1) := zI.neD c3 hu1 (zI.lit (a := 0) (b := 0) (c := 0) (by decide)) (by decide)
    refine lv_aload_n hx hb dX11_when_8 rfl (lv_at hl 0 rfl) ?_
    refine lv_iload_n hx hb dX11_when_9 rfl (lv_at hl 2 rfl) ?_
    refine kcallV (As := [.int a2]) (rest := []) ⟨hx, hb, hml, hown, hts⟩ (kc_isTown l D ct E y a2 r q hJ0 hEi) (wqX11_156_kc_isTown hts ⟨Nat.le_of_ble_eq_true rfl, Nat.le_of_ble_eq_true rfl⟩) hw hS hA hK hZ hN 10 195 rfl kg195 rfl hl.1 rfl (Nat.le_of_ble_eq_true rfl) dX11_when_10 13 rfl (fun u6 H locs pu6 hw hS => ?_)
    have hu6 : zI 0 1 u6 := pu6.1
    have yu6_0 : (¬ u6 = 0 → zI 0 5 a2) := pu6.2.1
    have xu6 : u6 = (Gk_isTown a2 r q) := pu6.2.2.1
    have hw : zPD D A (kW ct E y r q) H := hw
    refine zfr 13 [.int u6] rfl rfl ?_
    refine lv_if_ne (tgt := 18) hx hb dX11_when_13 (by decide) (fun c8 => ?_) (fun c8 => ?_)
    · have k9 : zI 1 1 (u6) := zI.neD c8 hu6 (zI.lit (a := 0) (b := 0) (c := 0) (by decide)) (by decide)
      refine lv_aload_n hx hb dX11_when_18 rfl (lv_at hl 0 rfl) ?_
      refine va_get (D := D) (ci := 10) (v := .ref (y 200)) hx hb hts hiX11 hown hK hw.1 195 kg195 rfl 7 (by decide) lf57 (fun _ h9 => h9) rfl dX11_when_19 ?_
      refine lv_aload_n hx hb dX11_when_22 rfl (lv_at hl 0 rfl) ?_
      refine va_get (D := D) (ci := 10) (v := .ref (y 6)) hx hb hts hiX11 hown hK hw.1 195 kg195 rfl 8 (by decide) lf64 (fun _ h9 => h9) rfl dX11_when_23 ?_
      refine lv_iload_n hx hb dX11_when_26 rfl (lv_at hl 1 rfl) ?_
      refine lv_iconst (v := 1) hx hb dX11_when_27 (by decide) ?_
      refine lv_iload_n hx hb dX11_when_28 rfl (lv_at hl 2 rfl) ?_
      refine lv_ishl hx hb dX11_when_29 (zgen (lo := 1) (hi := 32) (zI.shl (yu6_0 c8) 5 (by decide)) (fun v10 hv10 => ?_))
      refine kcallV (As := [.ref (y 6), .int a1, .int v10]) (rest := []) ⟨hx, hb, hml, hown, hts⟩ (kc_findSoonest l D ct E y a1 v10 r q (yu1_0 c3) hJ0 hEi) (wqX11_265_kc_findSoonest hts ⟨Nat.le_of_ble_eq_true rfl, Nat.le_of_ble_eq_true rfl⟩) hw hS hA hK hZ hN 9 200 rfl kg200 rfl hl.1 rfl (Nat.le_of_ble_eq_true rfl) dX11_when_30 33 rfl (fun u11 H locs pu11 hw hS => ?_)
      have ju11 : kJ u11 := pu11.1
      have fu11 : zFt r u11 := pu11.2.1
      have hw : zPD D A (kW ct E y u11 q) H := hw
      refine zfr 33 [] rfl rfl ?_
      refine lv_aload_n hx hb dX11_when_33 rfl (lv_at hl 0 rfl) ?_
      refine va_get (D := D) (ci := 10) (v := .ref (y 200)) hx hb hts hiX11 hown hK hw.1 195 kg195 rfl 7 (by decide) lf57 (fun _ h9 => h9) rfl dX11_when_34 ?_
      refine va_get (D := D) (ci := 9) (v := .ref (y 203)) hx hb hts hiX10 hown hK hw.1 200 kg200 rfl 5 (by decide) lf268 (fun _ h9 => h9) rfl dX11_when_37 ?_
      refine lv_iload_n hx hb dX11_when_40 rfl (lv_at hl 2 rfl) ?_
      refine miald hx hb hK hw 203 kg203 (yu6_0 c8) (by decide) dX11_when_41 (zgen (zI.top _) (fun v13 _ => ?_))
      exact ziretQ hQ hx hb hr rfl hlocks (v13, u11) rfl ⟨(zI.top _), ju11, ((zFt.refl).tr fu11), trivial⟩ hw hS dX11_when_42
    · have k14 : zI 0 0 (u6) := zI.eqq c8 (zI.lit (a := 0) (b := 0) (c := 0) (by decide))
      refine lv_iconst (v := (-1)) hx hb dX11_when_16 (by decide) ?_
      exact ziretQ hQ hx hb hr rfl hlocks (((-1) : Int32), r) rfl ⟨(zI.top _), hJ0, (zFt.refl), trivial⟩ hw hS dX11_when_17

set_option maxHeartbeats 4000000 in
set_option maxRecDepth 100000 in
theorem kc_round (l : Launch) (D : va_G) (ct : Nat → ClassId) (E : Nat → Nat) (y : Nat → Nat) (a1 : Int32) (r : zRr) (q : zRq) (hJ0 : kJ r) (hEi : kEi E) : cC l yX11_round (.code yX11_round cX11_round 2 (some .int) :: wsL_law0) ({ frames := 7, cells := 0, slots := 0, locals := 320 }) D ct E [.ref (y 195), .int a1] (kW ct E y r q) (S := Int32 × zRr) (fun u => some (.int u.1)) (fun u => zI (-2147483648) 2147483647 u.1 ∧ kJ u.2 ∧ zFt r u.2 ∧ True) (fun u => kW ct E y u.2 q) := by
  refine cofQ cX11_round 2 (some .int) (by decide) rfl (Nat.le_of_ble_eq_true rfl) ?_
  intro p e s m below meth c A a9 Q ha9 hx hb hr hml hts hown hlocks hname hK hA hZ hN hQ
  have hown : s.vm.findClass RX11 = some m.cls := hown
  have hiX11 : ∀ w ∈ wsX110, w ∈ .code yX11_round cX11_round 2 (some .int) :: wsL_law0 := fun _ h => ki (zs_wsX110 _ h)
  have lf57 := hts (.fieldLink RX11 57 "BeardPass" "ways" "LBeardPass$Ways;") (ki (zr2 15 rfl))
  have lf64 := hts (.fieldLink RX11 64 "BeardPass" "now" "LBeardPass$Standing;") (ki (zr2 19 rfl))
  intro H locs hw hS ls hl
  have hl : lv_has ls 2 [(0, .ref (y 195)), (1, .int a1)] := hl
  refine lv_aload_n hx hb dX11_round_0 rfl (lv_at hl 0 rfl) ?_
  refine lv_iload_n hx hb dX11_round_1 rfl (lv_at hl 1 rfl) ?_
  refine kcallV (As := [.int a1]) (rest := []) ⟨hx, hb, hml, hown, hts⟩ (kc_isPerson l D ct E y a1 r q hJ0 hEi) (wqX11_133_kc_isPerson hts ⟨Nat.le_of_ble_eq_true rfl, Nat.le_of_ble_eq_true rfl⟩) hw hS hA hK hZ hN 10 195 rfl kg195 rfl hl.1 rfl (Nat.le_of_ble_eq_true rfl) dX11_round_2 5 rfl (fun u1 H locs pu1 hw hS => ?_)
  have hu1 : zI 0 1 u1 := pu1.1
  have yu1_0 : (¬ u1 = 0 → zI 0 5 a1) := pu1.2.1
  have xu1 : u1 = (Gk_isPerson a1 r q) := pu1.2.2.1
  have hw : zPD D A (kW ct E y r q) H := hw
  refine zfr 5 [.int u1] rfl rfl ?_
  refine lv_if_eq (tgt := 23) hx hb dX11_round_5 (by decide) (fun c3 => ?_) (fun c3 => ?_)
  · have k4 : zI 0 0 (u1) := zI.eqq c3 (zI.lit (a := 0) (b := 0) (c := 0) (by decide))
    refine lv_iconst (v := (-1)) hx hb dX11_round_23 (by decide) ?_
    exact ziretQ hQ hx hb hr rfl hlocks (((-1) : Int32), r) rfl ⟨(zI.top _), hJ0, (zFt.refl), trivial⟩ hw hS dX11_round_24
  · have k5 : zI 1 1 (u1) := zI.neD c3 hu1 (zI.lit (a := 0) (b := 0) (c := 0) (by decide)) (by decide)
    refine lv_aload_n hx hb dX11_round_8 rfl (lv_at hl 0 rfl) ?_
    refine va_get (D := D) (ci := 10) (v := .ref (y 200)) hx hb hts hiX11 hown hK hw.1 195 kg195 rfl 7 (by decide) lf57 (fun _ h9 => h9) rfl dX11_round_9 ?_
    refine lv_aload_n hx hb dX11_round_12 rfl (lv_at hl 0 rfl) ?_
    refine va_get (D := D) (ci := 10) (v := .ref (y 6)) hx hb hts hiX11 hown hK hw.1 195 kg195 rfl 8 (by decide) lf64 (fun _ h9 => h9) rfl dX11_round_13 ?_
    refine lv_iload_n hx hb dX11_round_16 rfl (lv_at hl 1 rfl) ?_
    refine kcallV (As := [.ref (y 6), .int a1]) (rest := []) ⟨hx, hb, hml, hown, hts⟩ (kc_soonestRound l D ct E y a1 r q (yu1_0 c3) hJ0 hEi) (wqX11_271_kc_soonestRound hts ⟨Nat.le_of_ble_eq_true rfl, Nat.le_of_ble_eq_true rfl⟩) hw hS hA hK hZ hN 9 200 rfl kg200 rfl hl.1 rfl (Nat.le_of_ble_eq_true rfl) dX11_round_17 20 rfl (fun u6 H locs pu6 hw hS => ?_)
    obtain ⟨v7, r8⟩ := u6
    have hv7 : zI (-2147483648) 2147483647 v7 := pu6.1
    have ju6 : kJ r8 := pu6.2.1
    have fu6 : zFt r r8 := pu6.2.2.1
    have hw : zPD D A (kW ct E y r8 q) H := hw
    refine zfr 20 [.int v7] rfl rfl ?_
    refine lv_goto (tgt := 24) hx hb dX11_round_20 (by decide) ?_
    exact ziretQ hQ hx hb hr rfl hlocks (v7, r8) rfl ⟨(zI.top _), ju6, ((zFt.refl).tr fu6), trivial⟩ hw hS dX11_round_24

set_option maxHeartbeats 4000000 in
set_option maxRecDepth 100000 in
theorem kc_trapped (l : Launch) (D : va_G) (ct : Nat → ClassId) (E : Nat → Nat) (y : Nat → Nat) (r : zRr) (q : zRq) (hJ0 : kJ r) (hEi : kEi E) : cC l yX11_trapped (.code yX11_trapped cX11_trapped 3 (some .int) :: wsL_law0) ({ frames := 6, cells := 0, slots := 0, locals := 280 }) D ct E [.ref (y 195)] (kW ct E y r q) (S := Int32 × zRr) (fun u => some (.int u.1)) (fun u => zI (-2147483648) 2147483647 u.1 ∧ kJ u.2 ∧ zFt r u.2 ∧ True) (fun u => kW ct E y u.2 q) := by
  refine cofQ cX11_trapped 3 (some .int) (by decide) rfl (Nat.le_of_ble_eq_true rfl) ?_
  intro p e s m below meth c A a9 Q ha9 hx hb hr hml hts hown hlocks hname hK hA hZ hN hQ
  have hown : s.vm.findClass RX11 = some m.cls := hown
  have hiX10 : ∀ w ∈ wsX100, w ∈ .code yX11_trapped cX11_trapped 3 (some .int) :: wsL_law0 := fun _ h => ki (zs_wsX100 _ h)
  have hiX11 : ∀ w ∈ wsX110, w ∈ .code yX11_trapped cX11_trapped 3 (some .int) :: wsL_law0 := fun _ h => ki (zs_wsX110 _ h)
  have hiX2 : ∀ w ∈ wsX20, w ∈ .code yX11_trapped cX11_trapped 3 (some .int) :: wsL_law0 := fun _ h => ki (zs_wsX20 _ h)
  have hiX8 : ∀ w ∈ wsX80, w ∈ .code yX11_trapped cX11_trapped 3 (some .int) :: wsL_law0 := fun _ h => ki (zs_wsX80 _ h)
  have lf19 := hts (.fieldLink RX11 19 "BeardPass" "told" "LBeardPass$Land;") (ki (zr1 21 rfl))
  have lf57 := hts (.fieldLink RX11 57 "BeardPass" "ways" "LBeardPass$Ways;") (ki (zr2 15 rfl))
  have lf64 := hts (.fieldLink RX11 64 "BeardPass" "now" "LBeardPass$Standing;") (ki (zr2 19 rfl))
  have lf141 := hts (.fieldLink RX11 141 "BeardPass$Standing" "places" "[I") (ki (zr30 15 rfl))
  have lf172 := hts (.fieldLink RX11 172 "BeardPass$Land" "persons" "I") (ki (zr31 0 rfl))
  have lf274 := hts (.fieldLink RX11 274 "BeardPass$Ways" "steps" "[I") (ki (zr48 14 rfl))
  have cut4 : ∀ (n : Nat) (w4_1 : Int32) (w4_2 : Int32) (rw4 : zRr) (hw4_1 : zI 0 63 w4_1) (hw4_2 : zI 0 6 w4_2) (jw4 : kJ rw4) (fw4 : zFt r rw4), 6 - w4_2.toInt < (n : Int) → zKf p l e ({ frames := 6, cells := 0, slots := 0, locals := 280 }) s m a9 below meth c Q D A 4 3 [] (kW ct E y rw4 q) [(0, .ref (y 195)), (1, .int w4_1), (2, .int w4_2)] := by
    intro n
    induction n with
    | zero => intro w4_1 w4_2 rw4 hw4_1 hw4_2 jw4 fw4 hm4; exact zI.no hw4_2 (by decide) hm4
    | succ n ih4 =>
      intro w4_1 w4_2 rw4 hw4_1 hw4_2 jw4 fw4 hm4
      have cut54 : ∀ (w54_1 : Int32) (rw54 : zRr) (hw54_1 : zI 0 63 w54_1) (hw54_2 : zI 0 5 w4_2) (jw54 : kJ rw54) (fw54 : zFt r rw54), zKf p l e ({ frames := 6, cells := 0, slots := 0, locals := 280 }) s m a9 below meth c Q D A 54 3 [] (kW ct E y rw54 q) [(0, .ref (y 195)), (1, .int w54_1), (2, .int w4_2)] := by
        intro w54_1 rw54 hw54_1 hw54_2 jw54 fw54 H locs ls hw hS hl
        refine lv_iinc (v := w4_2 + 1) (lv' := [(2, .int (w4_2 + 1)), (0, .ref (y 195)), (1, .int w54_1)]) hx hb dX11_trapped_54 hl (k := 2) rfl (rfl) (by decide) rfl (fun ls hl => ?_)
        have k1 : zI 1 6 (w4_2 + 1) := zI.add hw54_2 (zI.lit (a := 1) (b := 1) (by decide)) (by decide)
        refine lv_goto (tgt := 4) hx hb dX11_trapped_57 (by decide) ?_
        exact ih4 w54_1 (w4_2 + 1) rw54 hw54_1 (k1.w (c := 0) (d := 6) (by decide)) jw54 fw54 (zI.up hw54_2 (by decide) hm4) H locs ls hw hS (lv_sub hl [1, 2, 0] rfl)
      intro H locs ls hw hS hl
      refine lv_iload_n hx hb dX11_trapped_4 rfl (lv_at hl 2 rfl) ?_
      refine lv_aload_n hx hb dX11_trapped_5 rfl (lv_at hl 0 rfl) ?_
      refine va_get (D := D) (ci := 10) (v := .ref (y 171)) hx hb hts hiX11 hown hK hw.1 195 kg195 rfl 1 (by decide) lf19 (fun _ h9 => h9) rfl dX11_trapped_6 ?_
      refine va_get (D := D) (ci := 2) (v := .int (rw4 171 10)) hx hb hts hiX2 hown hK hw.1 171 kg171 rfl 10 (by decide) lf172 (fun _ h9 => h9) rfl dX11_trapped_9 (zgen (lo := 0) (hi := 6) ((show zI 0 6 (rw4 171 10) from jw4.i 171 10)) (fun v2 hv2 => ?_))
      refine lv_icmp_ge (tgt := 60) hx hb dX11_trapped_12 (by decide) (fun c3 => ?_) (fun c3 => ?_)
      · refine lv_iload_n hx hb dX11_trapped_60 rfl (lv_at hl 1 rfl) ?_
        exact ziretQ hQ hx hb hr rfl hlocks (w4_1, rw4) rfl ⟨(zI.top _), jw4, fw4, trivial⟩ hw hS dX11_trapped_61
      · have k4 : zI 0 5 (w4_2) := zI.ltU (zI.nle c3) hw4_2 hv2 (by decide)
        have k5 : zI 1 6 (v2) := zI.ltD (zI.nle c3) hw4_2 hv2 (by decide)
        refine lv_aload_n hx hb dX11_trapped_15 rfl (lv_at hl 0 rfl) ?_
        refine va_get (D := D) (ci := 10) (v := .ref (y 200)) hx hb hts hiX11 hown hK hw.1 195 kg195 rfl 7 (by decide) lf57 (fun _ h9 => h9) rfl dX11_trapped_16 ?_
        refine lv_aload_n hx hb dX11_trapped_19 rfl (lv_at hl 0 rfl) ?_
        refine va_get (D := D) (ci := 10) (v := .ref (y 6)) hx hb hts hiX11 hown hK hw.1 195 kg195 rfl 8 (by decide) lf64 (fun _ h9 => h9) rfl dX11_trapped_20 ?_
        refine lv_iload_n hx hb dX11_trapped_23 rfl (lv_at hl 2 rfl) ?_
        refine lv_iconst (v := 0) hx hb dX11_trapped_24 (by decide) ?_
        refine kcallV (As := [.ref (y 6), .int w4_2, .int 0]) (rest := []) ⟨hx, hb, hml, hown, hts⟩ (kc_layN l D ct E y w4_2 (0 : Int32) rw4 q k4 jw4 hEi) (wqX11_257_kc_layN hts ⟨Nat.le_of_ble_eq_true rfl, Nat.le_of_ble_eq_true rfl⟩) hw hS hA hK hZ hN 9 200 rfl kg200 rfl hl.1 rfl (Nat.le_of_ble_eq_true rfl) dX11_trapped_25 28 rfl (fun u6 H locs pu6 hw hS => ?_)
        have ju6 : kJ u6 := pu6.1
        have fu6 : zFr [182, 202] rw4 u6 := pu6.2.1
        have hw : zPD D A (kW ct E y u6 q) H := hw
        refine zfr 28 [] rfl rfl ?_
        refine lv_aload_n hx hb dX11_trapped_28 rfl (lv_at hl 0 rfl) ?_
        refine va_get (D := D) (ci := 10) (v := .ref (y 200)) hx hb hts hiX11 hown hK hw.1 195 kg195 rfl 7 (by decide) lf57 (fun _ h9 => h9) rfl dX11_trapped_29 ?_
        refine va_get (D := D) (ci := 9) (v := .ref (y 202)) hx hb hts hiX10 hown hK hw.1 200 kg200 rfl 4 (by decide) lf274 (fun _ h9 => h9) rfl dX11_trapped_32 ?_
        refine lv_aload_n hx hb dX11_trapped_35 rfl (lv_at hl 0 rfl) ?_
        refine va_get (D := D) (ci := 10) (v := .ref (y 6)) hx hb hts hiX11 hown hK hw.1 195 kg195 rfl 8 (by decide) lf64 (fun _ h9 => h9) rfl dX11_trapped_36 ?_
        refine va_get (D := D) (ci := 7) (v := .ref (y 7)) hx hb hts hiX8 hown hK hw.1 6 kg6 rfl 0 (by decide) lf141 (fun _ h9 => h9) rfl dX11_trapped_39 ?_
        refine lv_iload_n hx hb dX11_trapped_42 rfl (lv_at hl 2 rfl) ?_
        refine miald hx hb hK hw 7 kg7 k4 (by decide) dX11_trapped_43 (zgen (lo := 0) (hi := 5) ((show zI 0 5 (u6 7 _) from ju6.i 7 _)) (fun v8 hv8 => ?_))
        refine miald hx hb hK hw 202 kg202 hv8 (by decide) dX11_trapped_44 (zgen (zI.top _) (fun v9 _ => ?_))
        refine lv_if_ne (tgt := 54) hx hb dX11_trapped_45 (by decide) (fun c10 => ?_) (fun c10 => ?_)
        · exact cut54 w4_1 u6 hw4_1 k4 ju6 (fw4.trF fu6 rfl) H locs ls hw hS (lv_sub hl [0, 1, 2] rfl)
        · have k11 : zI 0 0 (v9) := zI.eqq c10 (zI.lit (a := 0) (b := 0) (c := 0) (by decide))
          refine lv_iload_n hx hb dX11_trapped_48 rfl (lv_at hl 1 rfl) ?_
          refine lv_iconst (v := 1) hx hb dX11_trapped_49 (by decide) ?_
          refine lv_iload_n hx hb dX11_trapped_50 rfl (lv_at hl 2 rfl) ?_
          refine lv_ishl hx hb dX11_trapped_51 (zgen (lo := 1) (hi := 32) (zI.shl k4 5 (by decide)) (fun v12 hv12 => ?_))
          refine lv_ior hx hb dX11_trapped_52 (zgen (lo := 0) (hi := 63) (zI.or 6 hw4_1 hv12 (by decide)) (fun v13 hv13 => ?_))
          refine lv_istore_n (lv' := [(1, .int v13), (0, .ref (y 195)), (2, .int w4_2)]) hx hb dX11_trapped_53 rfl hl (by decide) rfl (fun ls hl => ?_)
          exact cut54 v13 u6 hv13 k4 ju6 (fw4.trF fu6 rfl) H locs ls hw hS (lv_sub hl [1, 0, 2] rfl)
  intro H locs hw hS ls hl
  have hl : lv_has ls 3 [(0, .ref (y 195))] := hl
  refine lv_iconst (v := 0) hx hb dX11_trapped_0 (by decide) ?_
  refine lv_istore_n (lv' := [(1, .int 0), (0, .ref (y 195))]) hx hb dX11_trapped_1 rfl hl (by decide) rfl (fun ls hl => ?_)
  refine lv_iconst (v := 0) hx hb dX11_trapped_2 (by decide) ?_
  refine lv_istore_n (lv' := [(2, .int 0), (1, .int 0), (0, .ref (y 195))]) hx hb dX11_trapped_3 rfl hl (by decide) rfl (fun ls hl => ?_)
  exact cut4 7 0 0 r ((zI.lit (a := 0) (b := 0) (c := 0) (by decide)).w (c := 0) (d := 63) (by decide)) ((zI.lit (a := 0) (b := 0) (c := 0) (by decide)).w (c := 0) (d := 6) (by decide)) hJ0 (zFt.refl) (zI.m0 (zI.lit (a := 0) (b := 0) (c := 0) (by decide)) (by decide)) H locs ls hw hS (lv_sub hl [2, 1, 0] rfl)

set_option maxHeartbeats 4000000 in
set_option maxRecDepth 100000 in
theorem kc_shaven (l : Launch) (D : va_G) (ct : Nat → ClassId) (E : Nat → Nat) (y : Nat → Nat) (a1 : Int32) (r : zRr) (q : zRq) (hJ0 : kJ r) (hEi : kEi E) : cC l yX11_shaven (.code yX11_shaven cX11_shaven 2 (some .int) :: wsL_law0) ({ frames := 7, cells := 0, slots := 0, locals := 320 }) D ct E [.ref (y 195), .int a1] (kW ct E y r q) (S := Int32 × zRr) (fun u => some (.int u.1)) (fun u => zI (-2147483648) 2147483647 u.1 ∧ kJ u.2 ∧ zFt r u.2 ∧ True) (fun u => kW ct E y u.2 q) := by
  refine cofQ cX11_shaven 2 (some .int) (by decide) rfl (Nat.le_of_ble_eq_true rfl) ?_
  intro p e s m below meth c A a9 Q ha9 hx hb hr hml hts hown hlocks hname hK hA hZ hN hQ
  have hown : s.vm.findClass RX11 = some m.cls := hown
  have hiX11 : ∀ w ∈ wsX110, w ∈ .code yX11_shaven cX11_shaven 2 (some .int) :: wsL_law0 := fun _ h => ki (zs_wsX110 _ h)
  have lf57 := hts (.fieldLink RX11 57 "BeardPass" "ways" "LBeardPass$Ways;") (ki (zr2 15 rfl))
  have lf64 := hts (.fieldLink RX11 64 "BeardPass" "now" "LBeardPass$Standing;") (ki (zr2 19 rfl))
  have lf68 := hts (.fieldLink RX11 68 "BeardPass" "trial" "LBeardPass$Standing;") (ki (zr2 20 rfl))
  intro H locs hw hS ls hl
  have hl : lv_has ls 2 [(0, .ref (y 195)), (1, .int a1)] := hl
  refine lv_aload_n hx hb dX11_shaven_0 rfl (lv_at hl 0 rfl) ?_
  refine lv_iload_n hx hb dX11_shaven_1 rfl (lv_at hl 1 rfl) ?_
  refine kcallV (As := [.int a1]) (rest := []) ⟨hx, hb, hml, hown, hts⟩ (kc_isPerson l D ct E y a1 r q hJ0 hEi) (wqX11_133_kc_isPerson hts ⟨Nat.le_of_ble_eq_true rfl, Nat.le_of_ble_eq_true rfl⟩) hw hS hA hK hZ hN 10 195 rfl kg195 rfl hl.1 rfl (Nat.le_of_ble_eq_true rfl) dX11_shaven_2 5 rfl (fun u1 H locs pu1 hw hS => ?_)
  have hu1 : zI 0 1 u1 := pu1.1
  have yu1_0 : (¬ u1 = 0 → zI 0 5 a1) := pu1.2.1
  have xu1 : u1 = (Gk_isPerson a1 r q) := pu1.2.2.1
  have hw : zPD D A (kW ct E y r q) H := hw
  refine zfr 5 [.int u1] rfl rfl ?_
  refine lv_if_ne (tgt := 10) hx hb dX11_shaven_5 (by decide) (fun c3 => ?_) (fun c3 => ?_)
  · have k4 : zI 1 1 (u1) := zI.neD c3 hu1 (zI.lit (a := 0) (b := 0) (c := 0) (by decide)) (by decide)
    refine lv_aload_n hx hb dX11_shaven_10 rfl (lv_at hl 0 rfl) ?_
    refine va_get (D := D) (ci := 10) (v := .ref (y 12)) hx hb hts hiX11 hown hK hw.1 195 kg195 rfl 9 (by decide) lf68 (fun _ h9 => h9) rfl dX11_shaven_11 ?_
    refine lv_aload_n hx hb dX11_shaven_14 rfl (lv_at hl 0 rfl) ?_
    refine va_get (D := D) (ci := 10) (v := .ref (y 6)) hx hb hts hiX11 hown hK hw.1 195 kg195 rfl 8 (by decide) lf64 (fun _ h9 => h9) rfl dX11_shaven_15 ?_
    refine kcallZ (As := [.ref (y 6)]) (rest := []) (kis8 12 6) (kis8l ⟨by decide, by decide⟩ ⟨by decide, by decide⟩) (kis8w ⟨by decide, by decide⟩ ⟨by decide, by decide⟩) ⟨hx, hb, hml, hown, hts⟩ (c_X8_copy l D ct (y 12) (y 6) (y (12 + 1)) (y (12 + 2)) (y (12 + 3)) (y (12 + 4)) (y (12 + 5)) (y (6 + 1)) (y (6 + 2)) (y (6 + 3)) (y (6 + 4)) (y (6 + 5)) (r (12 + 1)) (r (12 + 2)) (r (12 + 3)) (r (12 + 4)) (r (12 + 5)) (r (6 + 1)) (r (6 + 2)) (r (6 + 3)) (r (6 + 4)) (r (6 + 5)) (r 12 5) (r 6 5)) (cwV 1 hts (kgVm (zr35 20 rfl) (zr35 21 rfl) (zr35 22 rfl) (zr2 18 rfl) mL_X8_copy) rfl rfl rfl (by decide +kernel) ⟨Nat.le_of_ble_eq_true rfl, Nat.le_of_ble_eq_true rfl⟩) hw hS hA hK hN (kis8n ⟨by decide, by decide⟩ ⟨by decide, by decide⟩ (by decide)) 7 12 rfl (kis8o ⟨by decide, by decide⟩) rfl hl.1 rfl (Nat.le_of_ble_eq_true rfl) dX11_shaven_18 21 rfl (kcp8 r 12 6) q (fun _ => kis8B ⟨by decide, by decide⟩ ⟨by decide, by decide⟩ (by decide)) kis8x (fun _ H locs _ hw hS => ?_)
    refine zfr 21 [] rfl rfl ?_
    refine cmgen (P := fun x => kJ x ∧ zFt r x) hw ⟨hJ0.copy8 ⟨by decide, by decide⟩ ⟨by decide, by decide⟩, ((zFt.refl).cp8 (by decide))⟩ (fun r5 er5 hw pr5 => ?_)
    refine lv_aload_n hx hb dX11_shaven_21 rfl (lv_at hl 0 rfl) ?_
    refine va_get (D := D) (ci := 10) (v := .ref (y 12)) hx hb hts hiX11 hown hK hw.1 195 kg195 rfl 9 (by decide) lf68 (fun _ h9 => h9) rfl dX11_shaven_22 ?_
    refine lv_iload_n hx hb dX11_shaven_25 rfl (lv_at hl 1 rfl) ?_
    refine kcallV (As := [.int a1]) (rest := []) ⟨hx, hb, hml, hown, hts⟩ (kc_loseBeardT l D ct E y a1 r5 q (yu1_0 c3) pr5.1 hEi) (wqX11_213_kc_loseBeardT hts ⟨Nat.le_of_ble_eq_true rfl, Nat.le_of_ble_eq_true rfl⟩) hw hS hA hK hZ hN 7 12 rfl kg12 rfl hl.1 rfl (Nat.le_of_ble_eq_true rfl) dX11_shaven_26 29 rfl (fun u6 H locs pu6 hw hS => ?_)
    have ju6 : kJ u6 := pu6.1
    have fu6 : zFt r5 u6 := pu6.2.1
    have hw : zPD D A (kW ct E y u6 q) H := hw
    refine zfr 29 [] rfl rfl ?_
    refine lv_aload_n hx hb dX11_shaven_29 rfl (lv_at hl 0 rfl) ?_
    refine va_get (D := D) (ci := 10) (v := .ref (y 200)) hx hb hts hiX11 hown hK hw.1 195 kg195 rfl 7 (by decide) lf57 (fun _ h9 => h9) rfl dX11_shaven_30 ?_
    refine lv_aload_n hx hb dX11_shaven_33 rfl (lv_at hl 0 rfl) ?_
    refine va_get (D := D) (ci := 10) (v := .ref (y 12)) hx hb hts hiX11 hown hK hw.1 195 kg195 rfl 9 (by decide) lf68 (fun _ h9 => h9) rfl dX11_shaven_34 ?_
    refine lv_iload_n hx hb dX11_shaven_37 rfl (lv_at hl 1 rfl) ?_
    refine lv_iconst (v := 0) hx hb dX11_shaven_38 (by decide) ?_
    refine kcallV (As := [.ref (y 12), .int a1, .int 0]) (rest := []) ⟨hx, hb, hml, hown, hts⟩ (kc_reachOfT l D ct E y a1 (0 : Int32) u6 q (yu1_0 c3) ju6 hEi) (wqX11_253_kc_reachOfT hts ⟨Nat.le_of_ble_eq_true rfl, Nat.le_of_ble_eq_true rfl⟩) hw hS hA hK hZ hN 9 200 rfl kg200 rfl hl.1 rfl (Nat.le_of_ble_eq_true rfl) dX11_shaven_39 42 rfl (fun u8 H locs pu8 hw hS => ?_)
    obtain ⟨v9, r10⟩ := u8
    have hv9 : zI (-2147483648) 2147483647 v9 := pu8.1
    have ju8 : kJ r10 := pu8.2.1
    have fu8 : zFr [182, 202] u6 r10 := pu8.2.2.1
    have hw : zPD D A (kW ct E y r10 q) H := hw
    refine zfr 42 [.int v9] rfl rfl ?_
    exact ziretQ hQ hx hb hr rfl hlocks (v9, r10) rfl ⟨(zI.top _), ju8, ((pr5.2.tr fu6).trF fu8 rfl), trivial⟩ hw hS dX11_shaven_42
  · have k11 : zI 0 0 (u1) := zI.eqq c3 (zI.lit (a := 0) (b := 0) (c := 0) (by decide))
    refine lv_iconst (v := (-1)) hx hb dX11_shaven_8 (by decide) ?_
    exact ziretQ hQ hx hb hr rfl hlocks (((-1) : Int32), r) rfl ⟨(zI.top _), hJ0, (zFt.refl), trivial⟩ hw hS dX11_shaven_9

set_option maxHeartbeats 4000000 in
set_option maxRecDepth 100000 in
theorem kc_stricter (l : Launch) (D : va_G) (ct : Nat → ClassId) (E : Nat → Nat) (y : Nat → Nat) (a1 : Int32) (a2 : Int32) (r : zRr) (q : zRq) (hJ0 : kJ r) (hEi : kEi E) : cC l yX11_stricter (.code yX11_stricter cX11_stricter 5 (some .int) :: wsL_law0) ({ frames := 7, cells := 0, slots := 0, locals := 320 }) D ct E [.ref (y 195), .int a1, .int a2] (kW ct E y r q) (S := Int32 × zRr) (fun u => some (.int u.1)) (fun u => zI (-2147483648) 2147483647 u.1 ∧ kJ u.2 ∧ zFt r u.2 ∧ True) (fun u => kW ct E y u.2 q) := by
  refine cofQ cX11_stricter 5 (some .int) (by decide) rfl (Nat.le_of_ble_eq_true rfl) ?_
  intro p e s m below meth c A a9 Q ha9 hx hb hr hml hts hown hlocks hname hK hA hZ hN hQ
  have hown : s.vm.findClass RX11 = some m.cls := hown
  have hiX11 : ∀ w ∈ wsX110, w ∈ .code yX11_stricter cX11_stricter 5 (some .int) :: wsL_law0 := fun _ h => ki (zs_wsX110 _ h)
  have hiX2 : ∀ w ∈ wsX20, w ∈ .code yX11_stricter cX11_stricter 5 (some .int) :: wsL_law0 := fun _ h => ki (zs_wsX20 _ h)
  have lf19 := hts (.fieldLink RX11 19 "BeardPass" "told" "LBeardPass$Land;") (ki (zr1 21 rfl))
  have lf57 := hts (.fieldLink RX11 57 "BeardPass" "ways" "LBeardPass$Ways;") (ki (zr2 15 rfl))
  have lf64 := hts (.fieldLink RX11 64 "BeardPass" "now" "LBeardPass$Standing;") (ki (zr2 19 rfl))
  have lf172 := hts (.fieldLink RX11 172 "BeardPass$Land" "persons" "I") (ki (zr31 0 rfl))
  have cut25 : ∀ (n : Nat) (w25_3 : Int32) (w25_4 : Int32) (rw25 : zRr) (hw25_1 : zI 0 5 a1) (hw25_2 : zI 0 9 a2) (hw25_3 : zI 0 63 w25_3) (hw25_4 : zI 0 6 w25_4) (jw25 : kJ rw25) (fw25 : zFt r rw25), 6 - w25_4.toInt < (n : Int) → zKf p l e ({ frames := 7, cells := 0, slots := 0, locals := 320 }) s m a9 below meth c Q D A 25 5 [] (kW ct E y rw25 q) [(0, .ref (y 195)), (1, .int a1), (2, .int a2), (3, .int w25_3), (4, .int w25_4)] := by
    intro n
    induction n with
    | zero => intro w25_3 w25_4 rw25 hw25_1 hw25_2 hw25_3 hw25_4 jw25 fw25 hm25; exact zI.no hw25_4 (by decide) hm25
    | succ n ih25 =>
      intro w25_3 w25_4 rw25 hw25_1 hw25_2 hw25_3 hw25_4 jw25 fw25 hm25
      have cut65 : ∀ (w65_3 : Int32) (rw65 : zRr) (hw65_1 : zI 0 5 a1) (hw65_2 : zI 0 9 a2) (hw65_3 : zI 0 63 w65_3) (hw65_4 : zI 0 5 w25_4) (jw65 : kJ rw65) (fw65 : zFt r rw65), zKf p l e ({ frames := 7, cells := 0, slots := 0, locals := 320 }) s m a9 below meth c Q D A 65 5 [] (kW ct E y rw65 q) [(0, .ref (y 195)), (1, .int a1), (2, .int a2), (3, .int w65_3), (4, .int w25_4)] := by
        intro w65_3 rw65 hw65_1 hw65_2 hw65_3 hw65_4 jw65 fw65 H locs ls hw hS hl
        refine lv_iinc (v := w25_4 + 1) (lv' := [(4, .int (w25_4 + 1)), (0, .ref (y 195)), (1, .int a1), (2, .int a2), (3, .int w65_3)]) hx hb dX11_stricter_65 hl (k := 4) rfl (rfl) (by decide) rfl (fun ls hl => ?_)
        have k1 : zI 1 6 (w25_4 + 1) := zI.add hw65_4 (zI.lit (a := 1) (b := 1) (by decide)) (by decide)
        refine lv_goto (tgt := 25) hx hb dX11_stricter_68 (by decide) ?_
        exact ih25 w65_3 (w25_4 + 1) rw65 hw65_1 hw65_2 hw65_3 (k1.w (c := 0) (d := 6) (by decide)) jw65 fw65 (zI.up hw65_4 (by decide) hm25) H locs ls hw hS (lv_sub hl [1, 2, 3, 4, 0] rfl)
      intro H locs ls hw hS hl
      refine lv_iload hx hb dX11_stricter_25 (lv_at hl 4 rfl) ?_
      refine lv_aload_n hx hb dX11_stricter_27 rfl (lv_at hl 0 rfl) ?_
      refine va_get (D := D) (ci := 10) (v := .ref (y 171)) hx hb hts hiX11 hown hK hw.1 195 kg195 rfl 1 (by decide) lf19 (fun _ h9 => h9) rfl dX11_stricter_28 ?_
      refine va_get (D := D) (ci := 2) (v := .int (rw25 171 10)) hx hb hts hiX2 hown hK hw.1 171 kg171 rfl 10 (by decide) lf172 (fun _ h9 => h9) rfl dX11_stricter_31 (zgen (lo := 0) (hi := 6) ((show zI 0 6 (rw25 171 10) from jw25.i 171 10)) (fun v2 hv2 => ?_))
      refine lv_icmp_ge (tgt := 71) hx hb dX11_stricter_34 (by decide) (fun c3 => ?_) (fun c3 => ?_)
      · refine lv_iload_n hx hb dX11_stricter_71 rfl (lv_at hl 3 rfl) ?_
        exact ziretQ hQ hx hb hr rfl hlocks (w25_3, rw25) rfl ⟨(zI.top _), jw25, fw25, trivial⟩ hw hS dX11_stricter_72
      · have k4 : zI 0 5 (w25_4) := zI.ltU (zI.nle c3) hw25_4 hv2 (by decide)
        have k5 : zI 1 6 (v2) := zI.ltD (zI.nle c3) hw25_4 hv2 (by decide)
        refine lv_aload_n hx hb dX11_stricter_37 rfl (lv_at hl 0 rfl) ?_
        refine va_get (D := D) (ci := 10) (v := .ref (y 200)) hx hb hts hiX11 hown hK hw.1 195 kg195 rfl 7 (by decide) lf57 (fun _ h9 => h9) rfl dX11_stricter_38 ?_
        refine lv_aload_n hx hb dX11_stricter_41 rfl (lv_at hl 0 rfl) ?_
        refine va_get (D := D) (ci := 10) (v := .ref (y 6)) hx hb hts hiX11 hown hK hw.1 195 kg195 rfl 8 (by decide) lf64 (fun _ h9 => h9) rfl dX11_stricter_42 ?_
        refine lv_iload hx hb dX11_stricter_45 (lv_at hl 4 rfl) ?_
        refine lv_iload_n hx hb dX11_stricter_47 rfl (lv_at hl 2 rfl) ?_
        refine kcallV (As := [.ref (y 6), .int w25_4, .int a2]) (rest := []) ⟨hx, hb, hml, hown, hts⟩ (kc_reachOfN l D ct E y w25_4 a2 rw25 q k4 jw25 hEi) (wqX11_253_kc_reachOfN hts ⟨Nat.le_of_ble_eq_true rfl, Nat.le_of_ble_eq_true rfl⟩) hw hS hA hK hZ hN 9 200 rfl kg200 rfl hl.1 rfl (Nat.le_of_ble_eq_true rfl) dX11_stricter_48 51 rfl (fun u6 H locs pu6 hw hS => ?_)
        obtain ⟨v7, r8⟩ := u6
        have hv7 : zI (-2147483648) 2147483647 v7 := pu6.1
        have ju6 : kJ r8 := pu6.2.1
        have fu6 : zFr [182, 202] rw25 r8 := pu6.2.2.1
        have hw : zPD D A (kW ct E y r8 q) H := hw
        refine zfr 51 [.int v7] rfl rfl ?_
        refine lv_iload_n hx hb dX11_stricter_51 rfl (lv_at hl 1 rfl) ?_
        refine scallE (As := [.int v7, .int a1]) (rest := []) ⟨hx, hb, hml, hown, hts⟩ (kc_has l D ct v7 a1) (va_cwS 2 hts (kgS (zr46 18 rfl) (zr16 22 rfl) (zr1 2 rfl) (zr16 23 rfl)) rfl rfl rfl (by decide +kernel) ⟨Nat.le_of_ble_eq_true rfl, Nat.le_of_ble_eq_true rfl⟩) hw hS hA hK hN kWn rfl hl.1 rfl (Nat.le_of_ble_eq_true rfl) dX11_stricter_52 55 rfl (fun u9 H locs pu9 hw hS => ?_)
        have hu9 : zI 0 1 u9 := pu9.1
        have xu9 : u9 = (Gk_has v7 a1) := pu9.2.1
        refine zfr 55 [.int u9] rfl rfl ?_
        refine lv_if_eq (tgt := 65) hx hb dX11_stricter_55 (by decide) (fun c11 => ?_) (fun c11 => ?_)
        · have k12 : zI 0 0 (u9) := zI.eqq c11 (zI.lit (a := 0) (b := 0) (c := 0) (by decide))
          exact cut65 w25_3 r8 hw25_1 hw25_2 hw25_3 k4 ju6 (fw25.trF fu6 rfl) H locs ls hw hS (lv_sub hl [0, 1, 2, 3, 4] rfl)
        · have k13 : zI 1 1 (u9) := zI.neD c11 hu9 (zI.lit (a := 0) (b := 0) (c := 0) (by decide)) (by decide)
          refine lv_iload_n hx hb dX11_stricter_58 rfl (lv_at hl 3 rfl) ?_
          refine lv_iconst (v := 1) hx hb dX11_stricter_59 (by decide) ?_
          refine lv_iload hx hb dX11_stricter_60 (lv_at hl 4 rfl) ?_
          refine lv_ishl hx hb dX11_stricter_62 (zgen (lo := 1) (hi := 32) (zI.shl k4 5 (by decide)) (fun v14 hv14 => ?_))
          refine lv_ior hx hb dX11_stricter_63 (zgen (lo := 0) (hi := 63) (zI.or 6 hw25_3 hv14 (by decide)) (fun v15 hv15 => ?_))
          refine lv_istore_n (lv' := [(3, .int v15), (0, .ref (y 195)), (1, .int a1), (2, .int a2), (4, .int w25_4)]) hx hb dX11_stricter_64 rfl hl (by decide) rfl (fun ls hl => ?_)
          exact cut65 v15 r8 hw25_1 hw25_2 hv15 k4 ju6 (fw25.trF fu6 rfl) H locs ls hw hS (lv_sub hl [1, 2, 3, 0, 4] rfl)
  intro H locs hw hS ls hl
  have hl : lv_has ls 5 [(0, .ref (y 195)), (1, .int a1), (2, .int a2)] := hl
  refine lv_aload_n hx hb dX11_stricter_0 rfl (lv_at hl 0 rfl) ?_
  refine lv_iload_n hx hb dX11_stricter_1 rfl (lv_at hl 1 rfl) ?_
  refine kcallV (As := [.int a1]) (rest := []) ⟨hx, hb, hml, hown, hts⟩ (kc_isTown l D ct E y a1 r q hJ0 hEi) (wqX11_156_kc_isTown hts ⟨Nat.le_of_ble_eq_true rfl, Nat.le_of_ble_eq_true rfl⟩) hw hS hA hK hZ hN 10 195 rfl kg195 rfl hl.1 rfl (Nat.le_of_ble_eq_true rfl) dX11_stricter_2 5 rfl (fun u16 H locs pu16 hw hS => ?_)
  have hu16 : zI 0 1 u16 := pu16.1
  have yu16_0 : (¬ u16 = 0 → zI 0 5 a1) := pu16.2.1
  have xu16 : u16 = (Gk_isTown a1 r q) := pu16.2.2.1
  have hw : zPD D A (kW ct E y r q) H := hw
  refine zfr 5 [.int u16] rfl rfl ?_
  refine lv_if_eq (tgt := 18) hx hb dX11_stricter_5 (by decide) (fun c18 => ?_) (fun c18 => ?_)
  · have k19 : zI 0 0 (u16) := zI.eqq c18 (zI.lit (a := 0) (b := 0) (c := 0) (by decide))
    refine lv_iconst (v := (-1)) hx hb dX11_stricter_18 (by decide) ?_
    exact ziretQ hQ hx hb hr rfl hlocks (((-1) : Int32), r) rfl ⟨(zI.top _), hJ0, (zFt.refl), trivial⟩ hw hS dX11_stricter_19
  · have k20 : zI 1 1 (u16) := zI.neD c18 hu16 (zI.lit (a := 0) (b := 0) (c := 0) (by decide)) (by decide)
    refine lv_iload_n hx hb dX11_stricter_8 rfl (lv_at hl 2 rfl) ?_
    refine lv_if_lt (tgt := 18) hx hb dX11_stricter_9 (by decide) (fun c21 => ?_) (fun c21 => ?_)
    · have k22 : zI (-2147483648) (-1) (a2) := zI.ltU c21 (zI.top _) (zI.lit (a := 0) (b := 0) (c := 0) (by decide)) (by decide)
      refine lv_iconst (v := (-1)) hx hb dX11_stricter_18 (by decide) ?_
      exact ziretQ hQ hx hb hr rfl hlocks (((-1) : Int32), r) rfl ⟨(zI.top _), hJ0, (zFt.refl), trivial⟩ hw hS dX11_stricter_19
    · have k23 : zI 0 2147483647 (a2) := zI.leD (zI.nlt c21) (zI.lit (a := 0) (b := 0) (c := 0) (by decide)) (zI.top _) (by decide)
      refine lv_iload_n hx hb dX11_stricter_12 rfl (lv_at hl 2 rfl) ?_
      refine lv_bipush (v := 9) hx hb dX11_stricter_13 (by decide) ?_
      refine lv_icmp_le (tgt := 20) hx hb dX11_stricter_15 (by decide) (fun c24 => ?_) (fun c24 => ?_)
      · have k25 : zI 0 9 (a2) := zI.leU c24 k23 (zI.lit (a := 9) (b := 9) (c := 9) (by decide)) (by decide)
        refine lv_iconst (v := 0) hx hb dX11_stricter_20 (by decide) ?_
        refine lv_istore_n (lv' := [(3, .int 0), (0, .ref (y 195)), (1, .int a1), (2, .int a2)]) hx hb dX11_stricter_21 rfl hl (by decide) rfl (fun ls hl => ?_)
        refine lv_iconst (v := 0) hx hb dX11_stricter_22 (by decide) ?_
        refine lv_istore (lv' := [(4, .int 0), (3, .int 0), (0, .ref (y 195)), (1, .int a1), (2, .int a2)]) hx hb dX11_stricter_23 hl (by decide) rfl (fun ls hl => ?_)
        exact cut25 7 0 0 r (yu16_0 c18) k25 ((zI.lit (a := 0) (b := 0) (c := 0) (by decide)).w (c := 0) (d := 63) (by decide)) ((zI.lit (a := 0) (b := 0) (c := 0) (by decide)).w (c := 0) (d := 6) (by decide)) hJ0 (zFt.refl) (zI.m0 (zI.lit (a := 0) (b := 0) (c := 0) (by decide)) (by decide)) H locs ls hw hS (lv_sub hl [2, 3, 4, 1, 0] rfl)
      · have k26 : zI 10 2147483647 (a2) := zI.ltD (zI.nle c24) (zI.lit (a := 9) (b := 9) (c := 9) (by decide)) k23 (by decide)
        refine lv_iconst (v := (-1)) hx hb dX11_stricter_18 (by decide) ?_
        exact ziretQ hQ hx hb hr rfl hlocks (((-1) : Int32), r) rfl ⟨(zI.top _), hJ0, (zFt.refl), trivial⟩ hw hS dX11_stricter_19

set_option maxHeartbeats 4000000 in
set_option maxRecDepth 100000 in
theorem kc_fewest (l : Launch) (D : va_G) (ct : Nat → ClassId) (E : Nat → Nat) (y : Nat → Nat) (a1 : Int32) (a2 : Int32) (r : zRr) (q : zRq) (g1 : zI 0 5 a1) (hJ0 : kJ r) (hEi : kEi E) : cC l yX11_fewestInches (.code yX11_fewestInches cX11_fewestInches 5 (some .int) :: wsL_law0) ({ frames := 7, cells := 0, slots := 0, locals := 320 }) D ct E [.ref (y 195), .int a1, .int a2] (kW ct E y r q) (S := Int32 × zRr) (fun u => some (.int u.1)) (fun u => zI (-1) 20 u.1 ∧ kJ u.2 ∧ zFt r u.2 ∧ True) (fun u => kW ct E y u.2 q) := by
  refine cofQ cX11_fewestInches 5 (some .int) (by decide) rfl (Nat.le_of_ble_eq_true rfl) ?_
  intro p e s m below meth c A a9 Q ha9 hx hb hr hml hts hown hlocks hname hK hA hZ hN hQ
  have hown : s.vm.findClass RX11 = some m.cls := hown
  have hiX11 : ∀ w ∈ wsX110, w ∈ .code yX11_fewestInches cX11_fewestInches 5 (some .int) :: wsL_law0 := fun _ h => ki (zs_wsX110 _ h)
  have hiX2 : ∀ w ∈ wsX20, w ∈ .code yX11_fewestInches cX11_fewestInches 5 (some .int) :: wsL_law0 := fun _ h => ki (zs_wsX20 _ h)
  have hiX8 : ∀ w ∈ wsX80, w ∈ .code yX11_fewestInches cX11_fewestInches 5 (some .int) :: wsL_law0 := fun _ h => ki (zs_wsX80 _ h)
  have lf19 := hts (.fieldLink RX11 19 "BeardPass" "told" "LBeardPass$Land;") (ki (zr1 21 rfl))
  have lf57 := hts (.fieldLink RX11 57 "BeardPass" "ways" "LBeardPass$Ways;") (ki (zr2 15 rfl))
  have lf64 := hts (.fieldLink RX11 64 "BeardPass" "now" "LBeardPass$Standing;") (ki (zr2 19 rfl))
  have lf68 := hts (.fieldLink RX11 68 "BeardPass" "trial" "LBeardPass$Standing;") (ki (zr2 20 rfl))
  have lf137 := hts (.fieldLink RX11 137 "BeardPass$Land" "kinds" "[I") (ki (zr30 14 rfl))
  have lf147 := hts (.fieldLink RX11 147 "BeardPass$Standing" "forged" "[I") (ki (zr30 17 rfl))
  have cut33 : ∀ (n : Nat) (w33_3 : Int32) (w33_4 : Int32) (rw33 : zRr) (hw33_1 : zI 0 5 a1) (hw33_3 : zI 0 20 w33_3) (hw33_4 : zI 0 21 w33_4) (jw33 : kJ rw33) (fw33 : zFt r rw33) (xm33 : w33_3.toInt ≤ 20 - (r 9 (zn a1)).toInt) (xr33 : rw33 9 = r 9), 21 - w33_4.toInt < (n : Int) → zKf p l e ({ frames := 7, cells := 0, slots := 0, locals := 320 }) s m a9 below meth c Q D A 33 5 [] (kW ct E y rw33 q) [(0, .ref (y 195)), (1, .int a1), (2, .int a2), (3, .int w33_3), (4, .int w33_4)] := by
    intro n
    induction n with
    | zero => intro w33_3 w33_4 rw33 hw33_1 hw33_3 hw33_4 jw33 fw33 xm33 xr33 hm33; exact zI.no hw33_4 (by decide) hm33
    | succ n ih33 =>
      intro w33_3 w33_4 rw33 hw33_1 hw33_3 hw33_4 jw33 fw33 xm33 xr33 hm33
      intro H locs ls hw hS hl
      refine lv_iload hx hb dX11_fewestInches_33 (lv_at hl 4 rfl) ?_
      refine lv_iload_n hx hb dX11_fewestInches_35 rfl (lv_at hl 3 rfl) ?_
      refine lv_icmp_gt (tgt := 93) hx hb dX11_fewestInches_36 (by decide) (fun c1 => ?_) (fun c1 => ?_)
      · have k2 : zI 1 21 (w33_4) := zI.ltD c1 hw33_3 hw33_4 (by decide)
        refine lv_iconst (v := (-1)) hx hb dX11_fewestInches_93 (by decide) ?_
        exact ziretQ hQ hx hb hr rfl hlocks (((-1) : Int32), rw33) rfl ⟨((zI.lit (a := (-1)) (b := (-1)) (c := (-1)) (by decide)).w (c := (-1)) (d := 20) (by decide)), jw33, fw33, trivial⟩ hw hS dX11_fewestInches_94
      · have k3 : zI 0 20 (w33_4) := zI.leU (zI.nlt c1) hw33_4 hw33_3 (by decide)
        refine lv_aload_n hx hb dX11_fewestInches_39 rfl (lv_at hl 0 rfl) ?_
        refine va_get (D := D) (ci := 10) (v := .ref (y 12)) hx hb hts hiX11 hown hK hw.1 195 kg195 rfl 9 (by decide) lf68 (fun _ h9 => h9) rfl dX11_fewestInches_40 ?_
        refine lv_aload_n hx hb dX11_fewestInches_43 rfl (lv_at hl 0 rfl) ?_
        refine va_get (D := D) (ci := 10) (v := .ref (y 6)) hx hb hts hiX11 hown hK hw.1 195 kg195 rfl 8 (by decide) lf64 (fun _ h9 => h9) rfl dX11_fewestInches_44 ?_
        refine kcallZ (As := [.ref (y 6)]) (rest := []) (kis8 12 6) (kis8l ⟨by decide, by decide⟩ ⟨by decide, by decide⟩) (kis8w ⟨by decide, by decide⟩ ⟨by decide, by decide⟩) ⟨hx, hb, hml, hown, hts⟩ (c_X8_copy l D ct (y 12) (y 6) (y (12 + 1)) (y (12 + 2)) (y (12 + 3)) (y (12 + 4)) (y (12 + 5)) (y (6 + 1)) (y (6 + 2)) (y (6 + 3)) (y (6 + 4)) (y (6 + 5)) (rw33 (12 + 1)) (rw33 (12 + 2)) (rw33 (12 + 3)) (rw33 (12 + 4)) (rw33 (12 + 5)) (rw33 (6 + 1)) (rw33 (6 + 2)) (rw33 (6 + 3)) (rw33 (6 + 4)) (rw33 (6 + 5)) (rw33 12 5) (rw33 6 5)) (cwV 1 hts (kgVm (zr35 20 rfl) (zr35 21 rfl) (zr35 22 rfl) (zr2 18 rfl) mL_X8_copy) rfl rfl rfl (by decide +kernel) ⟨Nat.le_of_ble_eq_true rfl, Nat.le_of_ble_eq_true rfl⟩) hw hS hA hK hN (kis8n ⟨by decide, by decide⟩ ⟨by decide, by decide⟩ (by decide)) 7 12 rfl (kis8o ⟨by decide, by decide⟩) rfl hl.1 rfl (Nat.le_of_ble_eq_true rfl) dX11_fewestInches_47 50 rfl (kcp8 rw33 12 6) q (fun _ => kis8B ⟨by decide, by decide⟩ ⟨by decide, by decide⟩ (by decide)) kis8x (fun _ H locs _ hw hS => ?_)
        refine zfr 50 [] rfl rfl ?_
        refine cmgen (P := fun x => kJ x ∧ zFt r x) hw ⟨jw33.copy8 ⟨by decide, by decide⟩ ⟨by decide, by decide⟩, (fw33.cp8 (by decide))⟩ (fun r4 er4 hw pr4 => ?_)
        refine lv_aload_n hx hb dX11_fewestInches_50 rfl (lv_at hl 0 rfl) ?_
        refine va_get (D := D) (ci := 10) (v := .ref (y 12)) hx hb hts hiX11 hown hK hw.1 195 kg195 rfl 9 (by decide) lf68 (fun _ h9 => h9) rfl dX11_fewestInches_51 ?_
        refine va_get (D := D) (ci := 7) (v := .ref (y 15)) hx hb hts hiX8 hown hK hw.1 12 kg12 rfl 2 (by decide) lf147 (fun _ h9 => h9) rfl dX11_fewestInches_54 ?_
        refine lv_iload_n hx hb dX11_fewestInches_57 rfl (lv_at hl 1 rfl) ?_
        refine lv_dup2_11 hx hb dX11_fewestInches_58 rfl rfl ?_
        refine miald hx hb hK hw 15 kg15 hw33_1 (by decide) dX11_fewestInches_59 ?_
        have k5 : zI 0 20 (r4 15 (zn a1)) := (show zI 0 20 (r4 15 _) from pr4.1.i 15 _)
        refine lv_iload hx hb dX11_fewestInches_60 (lv_at hl 4 rfl) ?_
        refine lv_iadd hx hb dX11_fewestInches_62 ?_
        have k6 : zI 0 40 ((r4 15 (zn a1)) + w33_4) := zI.add k5 k3 (by decide)
        refine miast hx hb hK hw hS 15 kg15 hw33_1 (by decide) dX11_fewestInches_63 (kW ct E y (zset r4 15 (upd (r4 15) (zn a1) ((r4 15 (zn a1)) + w33_4))) q) ks15 (fun H locs hw hS => ?_)
        refine cmgen (P := fun x => kJ x ∧ zFt r x) hw ⟨pr4.1.set rfl (show zI 0 20 _ by rw [show r4 15 (zn a1) = r 9 (zn a1) by rw [er4, kcp8_15 g1, xr33]]; exact kfew (hJ0.i 9 _) k3 (zI.nlt c1) xm33), pr4.2.set rfl⟩ (fun r7 er7 hw pr7 => ?_)
        refine lv_aload_n hx hb dX11_fewestInches_64 rfl (lv_at hl 0 rfl) ?_
        refine va_get (D := D) (ci := 10) (v := .ref (y 200)) hx hb hts hiX11 hown hK hw.1 195 kg195 rfl 7 (by decide) lf57 (fun _ h9 => h9) rfl dX11_fewestInches_65 ?_
        refine lv_aload_n hx hb dX11_fewestInches_68 rfl (lv_at hl 0 rfl) ?_
        refine va_get (D := D) (ci := 10) (v := .ref (y 12)) hx hb hts hiX11 hown hK hw.1 195 kg195 rfl 9 (by decide) lf68 (fun _ h9 => h9) rfl dX11_fewestInches_69 ?_
        refine lv_iload_n hx hb dX11_fewestInches_72 rfl (lv_at hl 1 rfl) ?_
        refine lv_iconst (v := 0) hx hb dX11_fewestInches_73 (by decide) ?_
        refine kcallV (As := [.ref (y 12), .int a1, .int 0]) (rest := []) ⟨hx, hb, hml, hown, hts⟩ (kc_reachOfT l D ct E y a1 (0 : Int32) r7 q hw33_1 pr7.1 hEi) (wqX11_253_kc_reachOfT hts ⟨Nat.le_of_ble_eq_true rfl, Nat.le_of_ble_eq_true rfl⟩) hw hS hA hK hZ hN 9 200 rfl kg200 rfl hl.1 rfl (Nat.le_of_ble_eq_true rfl) dX11_fewestInches_74 77 rfl (fun u8 H locs pu8 hw hS => ?_)
        obtain ⟨v9, r10⟩ := u8
        have hv9 : zI (-2147483648) 2147483647 v9 := pu8.1
        have ju8 : kJ r10 := pu8.2.1
        have fu8 : zFr [182, 202] r7 r10 := pu8.2.2.1
        have hw : zPD D A (kW ct E y r10 q) H := hw
        refine zfr 77 [.int v9] rfl rfl ?_
        refine lv_iload_n hx hb dX11_fewestInches_77 rfl (lv_at hl 2 rfl) ?_
        refine scallE (As := [.int v9, .int a2]) (rest := []) ⟨hx, hb, hml, hown, hts⟩ (kc_has l D ct v9 a2) (va_cwS 2 hts (kgS (zr46 18 rfl) (zr16 22 rfl) (zr1 2 rfl) (zr16 23 rfl)) rfl rfl rfl (by decide +kernel) ⟨Nat.le_of_ble_eq_true rfl, Nat.le_of_ble_eq_true rfl⟩) hw hS hA hK hN kWn rfl hl.1 rfl (Nat.le_of_ble_eq_true rfl) dX11_fewestInches_78 81 rfl (fun u11 H locs pu11 hw hS => ?_)
        have hu11 : zI 0 1 u11 := pu11.1
        have xu11 : u11 = (Gk_has v9 a2) := pu11.2.1
        refine zfr 81 [.int u11] rfl rfl ?_
        refine lv_if_eq (tgt := 87) hx hb dX11_fewestInches_81 (by decide) (fun c13 => ?_) (fun c13 => ?_)
        · have k14 : zI 0 0 (u11) := zI.eqq c13 (zI.lit (a := 0) (b := 0) (c := 0) (by decide))
          refine lv_iinc (v := w33_4 + 1) (lv' := [(4, .int (w33_4 + 1)), (0, .ref (y 195)), (1, .int a1), (2, .int a2), (3, .int w33_3)]) hx hb dX11_fewestInches_87 hl (k := 4) rfl (rfl) (by decide) rfl (fun ls hl => ?_)
          have k15 : zI 1 21 (w33_4 + 1) := zI.add k3 (zI.lit (a := 1) (b := 1) (by decide)) (by decide)
          refine lv_goto (tgt := 33) hx hb dX11_fewestInches_90 (by decide) ?_
          exact ih33 w33_3 (w33_4 + 1) r10 hw33_1 hw33_3 (k15.w (c := 0) (d := 21) (by decide)) ju8 (pr7.2.trF fu8 rfl) (xm33) ((((fu8 9 rfl).trans ((zs_row (k := 9) er7 (by decide)).trans (show r4 9 = rw33 9 by rw [er4]; rfl)))).trans xr33) (zI.up k3 (by decide) hm33) H locs ls hw hS (lv_sub hl [1, 2, 3, 4, 0] rfl)
        · have k16 : zI 1 1 (u11) := zI.neD c13 hu11 (zI.lit (a := 0) (b := 0) (c := 0) (by decide)) (by decide)
          refine lv_iload hx hb dX11_fewestInches_84 (lv_at hl 4 rfl) ?_
          exact ziretQ hQ hx hb hr rfl hlocks (w33_4, r10) rfl ⟨(k3.w (c := (-1)) (d := 20) (by decide)), ju8, (pr7.2.trF fu8 rfl), trivial⟩ hw hS dX11_fewestInches_86
  have cut29 : ∀ (w29_s0 : Int32) (hw29_1 : zI 0 5 a1) (hw29_s0 : zI 0 20 w29_s0) (xs29 : w29_s0.toInt ≤ 20 - (r 9 (zn a1)).toInt), zKf p l e ({ frames := 7, cells := 0, slots := 0, locals := 320 }) s m a9 below meth c Q D A 29 5 [.int w29_s0] (kW ct E y r q) [(0, .ref (y 195)), (1, .int a1), (2, .int a2)] := by
    intro w29_s0 hw29_1 hw29_s0 xs29 H locs ls hw hS hl
    refine lv_istore_n (lv' := [(3, .int w29_s0), (0, .ref (y 195)), (1, .int a1), (2, .int a2)]) hx hb dX11_fewestInches_29 rfl hl (by decide) rfl (fun ls hl => ?_)
    refine lv_iconst (v := 0) hx hb dX11_fewestInches_30 (by decide) ?_
    refine lv_istore (lv' := [(4, .int 0), (3, .int w29_s0), (0, .ref (y 195)), (1, .int a1), (2, .int a2)]) hx hb dX11_fewestInches_31 hl (by decide) rfl (fun ls hl => ?_)
    exact cut33 22 w29_s0 0 r hw29_1 hw29_s0 ((zI.lit (a := 0) (b := 0) (c := 0) (by decide)).w (c := 0) (d := 21) (by decide)) hJ0 (zFt.refl) (xs29) (rfl) (zI.m0 (zI.lit (a := 0) (b := 0) (c := 0) (by decide)) (by decide)) H locs ls hw hS (lv_sub hl [2, 3, 4, 1, 0] rfl)
  intro H locs hw hS ls hl
  have hl : lv_has ls 5 [(0, .ref (y 195)), (1, .int a1), (2, .int a2)] := hl
  refine lv_aload_n hx hb dX11_fewestInches_0 rfl (lv_at hl 0 rfl) ?_
  refine va_get (D := D) (ci := 10) (v := .ref (y 171)) hx hb hts hiX11 hown hK hw.1 195 kg195 rfl 1 (by decide) lf19 (fun _ h9 => h9) rfl dX11_fewestInches_1 ?_
  refine va_get (D := D) (ci := 2) (v := .ref (y 175)) hx hb hts hiX2 hown hK hw.1 171 kg171 rfl 3 (by decide) lf137 (fun _ h9 => h9) rfl dX11_fewestInches_4 ?_
  refine lv_iload_n hx hb dX11_fewestInches_7 rfl (lv_at hl 1 rfl) ?_
  refine miald hx hb hK hw 175 kg175 g1 (by decide) dX11_fewestInches_8 (zgen (zI.top _) (fun v17 _ => ?_))
  refine lv_iconst (v := 1) hx hb dX11_fewestInches_9 (by decide) ?_
  refine lv_icmp_ne (tgt := 17) hx hb dX11_fewestInches_10 (by decide) (fun c18 => ?_) (fun c18 => ?_)
  · refine lv_bipush (v := 20) hx hb dX11_fewestInches_17 (by decide) ?_
    refine lv_aload_n hx hb dX11_fewestInches_19 rfl (lv_at hl 0 rfl) ?_
    refine va_get (D := D) (ci := 10) (v := .ref (y 6)) hx hb hts hiX11 hown hK hw.1 195 kg195 rfl 8 (by decide) lf64 (fun _ h9 => h9) rfl dX11_fewestInches_20 ?_
    refine va_get (D := D) (ci := 7) (v := .ref (y 9)) hx hb hts hiX8 hown hK hw.1 6 kg6 rfl 2 (by decide) lf147 (fun _ h9 => h9) rfl dX11_fewestInches_23 ?_
    refine lv_iload_n hx hb dX11_fewestInches_26 rfl (lv_at hl 1 rfl) ?_
    refine miald hx hb hK hw 9 kg9 g1 (by decide) dX11_fewestInches_27 ?_
    have k19 : zI 0 20 (r 9 (zn a1)) := (show zI 0 20 (r 9 _) from hJ0.i 9 _)
    refine lv_isub hx hb dX11_fewestInches_28 ?_
    have k20 : zI 0 20 (20 - (r 9 (zn a1))) := zI.sub (zI.lit (a := 20) (b := 20) (c := 20) (by decide)) k19 (by decide)
    exact cut29 (20 - (r 9 (zn a1))) g1 k20 (by have h9 : zI 0 20 (r 9 (zn a1)) := hJ0.i 9 _; have e9 := i32_d (zI.lit (a := 20) (b := 20) (c := 20) (by decide)) h9 (by decide); have c20 : (20 : Int32).toInt = 20 := (by decide); omega) H locs ls hw hS (lv_sub hl [0, 1, 2] rfl)
  · have k21 : zI 1 1 (v17) := zI.eqq c18 (zI.lit (a := 1) (b := 1) (c := 1) (by decide))
    refine lv_iconst (v := 0) hx hb dX11_fewestInches_13 (by decide) ?_
    refine lv_goto (tgt := 29) hx hb dX11_fewestInches_14 (by decide) ?_
    exact cut29 0 g1 ((zI.lit (a := 0) (b := 0) (c := 0) (by decide)).w (c := 0) (d := 20) (by decide)) (by have h9 : zI 0 20 (r 9 (zn a1)) := hJ0.i 9 _; have e0 : (0 : Int32).toInt = 0 := (by decide); have := h9.2; omega) H locs ls hw hS (lv_sub hl [0, 1, 2] rfl)

set_option maxHeartbeats 4000000 in
set_option maxRecDepth 100000 in
theorem kc_need (l : Launch) (D : va_G) (ct : Nat → ClassId) (E : Nat → Nat) (y : Nat → Nat) (a1 : Int32) (a2 : Int32) (r : zRr) (q : zRq) (hJ0 : kJ r) (hEi : kEi E) : cC l yX11_need (.code yX11_need cX11_need 3 (some .int) :: wsL_law0) ({ frames := 8, cells := 0, slots := 0, locals := 360 }) D ct E [.ref (y 195), .int a1, .int a2] (kW ct E y r q) (S := Int32 × zRr) (fun u => some (.int u.1)) (fun u => zI (-2147483648) 2147483647 u.1 ∧ kJ u.2 ∧ zFt r u.2 ∧ True) (fun u => kW ct E y u.2 q) := by
  refine cofQ cX11_need 3 (some .int) (by decide) rfl (Nat.le_of_ble_eq_true rfl) ?_
  intro p e s m below meth c A a9 Q ha9 hx hb hr hml hts hown hlocks hname hK hA hZ hN hQ
  have hown : s.vm.findClass RX11 = some m.cls := hown
  intro H locs hw hS ls hl
  have hl : lv_has ls 3 [(0, .ref (y 195)), (1, .int a1), (2, .int a2)] := hl
  refine lv_aload_n hx hb dX11_need_0 rfl (lv_at hl 0 rfl) ?_
  refine lv_iload_n hx hb dX11_need_1 rfl (lv_at hl 1 rfl) ?_
  refine kcallV (As := [.int a1]) (rest := []) ⟨hx, hb, hml, hown, hts⟩ (kc_isPerson l D ct E y a1 r q hJ0 hEi) (wqX11_133_kc_isPerson hts ⟨Nat.le_of_ble_eq_true rfl, Nat.le_of_ble_eq_true rfl⟩) hw hS hA hK hZ hN 10 195 rfl kg195 rfl hl.1 rfl (Nat.le_of_ble_eq_true rfl) dX11_need_2 5 rfl (fun u1 H locs pu1 hw hS => ?_)
  have hu1 : zI 0 1 u1 := pu1.1
  have yu1_0 : (¬ u1 = 0 → zI 0 5 a1) := pu1.2.1
  have xu1 : u1 = (Gk_isPerson a1 r q) := pu1.2.2.1
  have hw : zPD D A (kW ct E y r q) H := hw
  refine zfr 5 [.int u1] rfl rfl ?_
  refine lv_if_eq (tgt := 25) hx hb dX11_need_5 (by decide) (fun c3 => ?_) (fun c3 => ?_)
  · have k4 : zI 0 0 (u1) := zI.eqq c3 (zI.lit (a := 0) (b := 0) (c := 0) (by decide))
    refine lv_iconst (v := (-1)) hx hb dX11_need_25 (by decide) ?_
    exact ziretQ hQ hx hb hr rfl hlocks (((-1) : Int32), r) rfl ⟨(zI.top _), hJ0, (zFt.refl), trivial⟩ hw hS dX11_need_26
  · have k5 : zI 1 1 (u1) := zI.neD c3 hu1 (zI.lit (a := 0) (b := 0) (c := 0) (by decide)) (by decide)
    refine lv_aload_n hx hb dX11_need_8 rfl (lv_at hl 0 rfl) ?_
    refine lv_iload_n hx hb dX11_need_9 rfl (lv_at hl 2 rfl) ?_
    refine kcallV (As := [.int a2]) (rest := []) ⟨hx, hb, hml, hown, hts⟩ (kc_isTown l D ct E y a2 r q hJ0 hEi) (wqX11_156_kc_isTown hts ⟨Nat.le_of_ble_eq_true rfl, Nat.le_of_ble_eq_true rfl⟩) hw hS hA hK hZ hN 10 195 rfl kg195 rfl hl.1 rfl (Nat.le_of_ble_eq_true rfl) dX11_need_10 13 rfl (fun u6 H locs pu6 hw hS => ?_)
    have hu6 : zI 0 1 u6 := pu6.1
    have yu6_0 : (¬ u6 = 0 → zI 0 5 a2) := pu6.2.1
    have xu6 : u6 = (Gk_isTown a2 r q) := pu6.2.2.1
    have hw : zPD D A (kW ct E y r q) H := hw
    refine zfr 13 [.int u6] rfl rfl ?_
    refine lv_if_eq (tgt := 25) hx hb dX11_need_13 (by decide) (fun c8 => ?_) (fun c8 => ?_)
    · have k9 : zI 0 0 (u6) := zI.eqq c8 (zI.lit (a := 0) (b := 0) (c := 0) (by decide))
      refine lv_iconst (v := (-1)) hx hb dX11_need_25 (by decide) ?_
      exact ziretQ hQ hx hb hr rfl hlocks (((-1) : Int32), r) rfl ⟨(zI.top _), hJ0, (zFt.refl), trivial⟩ hw hS dX11_need_26
    · have k10 : zI 1 1 (u6) := zI.neD c8 hu6 (zI.lit (a := 0) (b := 0) (c := 0) (by decide)) (by decide)
      refine lv_aload_n hx hb dX11_need_16 rfl (lv_at hl 0 rfl) ?_
      refine lv_iload_n hx hb dX11_need_17 rfl (lv_at hl 1 rfl) ?_
      refine lv_iload_n hx hb dX11_need_18 rfl (lv_at hl 2 rfl) ?_
      refine kcallV (As := [.int a1, .int a2]) (rest := []) ⟨hx, hb, hml, hown, hts⟩ (kc_fewest l D ct E y a1 a2 r q (yu1_0 c3) hJ0 hEi) (wqX11_281_kc_fewest hts ⟨Nat.le_of_ble_eq_true rfl, Nat.le_of_ble_eq_true rfl⟩) hw hS hA hK hZ hN 10 195 rfl kg195 rfl hl.1 rfl (Nat.le_of_ble_eq_true rfl) dX11_need_19 22 rfl (fun u11 H locs pu11 hw hS => ?_)
      obtain ⟨v12, r13⟩ := u11
      have hv12 : zI (-1) 20 v12 := pu11.1
      have ju11 : kJ r13 := pu11.2.1
      have fu11 : zFt r r13 := pu11.2.2.1
      have hw : zPD D A (kW ct E y r13 q) H := hw
      refine zfr 22 [.int v12] rfl rfl ?_
      refine lv_goto (tgt := 26) hx hb dX11_need_22 (by decide) ?_
      exact ziretQ hQ hx hb hr rfl hlocks (v12, r13) rfl ⟨(zI.top _), ju11, ((zFt.refl).tr fu11), trivial⟩ hw hS dX11_need_26

set_option maxHeartbeats 4000000 in
set_option maxRecDepth 100000 in
theorem kc_cheapest (l : Launch) (D : va_G) (ct : Nat → ClassId) (E : Nat → Nat) (y : Nat → Nat) (a1 : Int32) (r : zRr) (q : zRq) (hJ0 : kJ r) (hEi : kEi E) : cC l yX11_cheapest (.code yX11_cheapest cX11_cheapest 6 (some .int) :: wsL_law0) ({ frames := 8, cells := 0, slots := 0, locals := 360 }) D ct E [.ref (y 195), .int a1] (kW ct E y r q) (S := Int32 × zRr) (fun u => some (.int u.1)) (fun u => zI (-2147483648) 2147483647 u.1 ∧ kJ u.2 ∧ zFt r u.2 ∧ True) (fun u => kW ct E y u.2 q) := by
  refine cofQ cX11_cheapest 6 (some .int) (by decide) rfl (Nat.le_of_ble_eq_true rfl) ?_
  intro p e s m below meth c A a9 Q ha9 hx hb hr hml hts hown hlocks hname hK hA hZ hN hQ
  have hown : s.vm.findClass RX11 = some m.cls := hown
  have hiX11 : ∀ w ∈ wsX110, w ∈ .code yX11_cheapest cX11_cheapest 6 (some .int) :: wsL_law0 := fun _ h => ki (zs_wsX110 _ h)
  have hiX2 : ∀ w ∈ wsX20, w ∈ .code yX11_cheapest cX11_cheapest 6 (some .int) :: wsL_law0 := fun _ h => ki (zs_wsX20 _ h)
  have lf19 := hts (.fieldLink RX11 19 "BeardPass" "told" "LBeardPass$Land;") (ki (zr1 21 rfl))
  have lf169 := hts (.fieldLink RX11 169 "BeardPass$Land" "towns" "I") (ki (zr31 19 rfl))
  have cut18 : ∀ (n : Nat) (w18_2 : Int32) (w18_3 : Int32) (w18_4 : Int32) (rw18 : zRr) (hw18_1 : zI 0 5 a1) (hw18_2 : zI (-1) 5 w18_2) (hw18_3 : zI 1 21 w18_3) (hw18_4 : zI 0 6 w18_4) (jw18 : kJ rw18) (fw18 : zFt r rw18), 6 - w18_4.toInt < (n : Int) → zKf p l e ({ frames := 8, cells := 0, slots := 0, locals := 360 }) s m a9 below meth c Q D A 18 6 [] (kW ct E y rw18 q) [(0, .ref (y 195)), (1, .int a1), (2, .int w18_2), (3, .int w18_3), (4, .int w18_4)] := by
    intro n
    induction n with
    | zero => intro w18_2 w18_3 w18_4 rw18 hw18_1 hw18_2 hw18_3 hw18_4 jw18 fw18 hm18; exact zI.no hw18_4 (by decide) hm18
    | succ n ih18 =>
      intro w18_2 w18_3 w18_4 rw18 hw18_1 hw18_2 hw18_3 hw18_4 jw18 fw18 hm18
      have cut56 : ∀ (w56_2 : Int32) (w56_3 : Int32) (rw56 : zRr) (hw56_1 : zI 0 5 a1) (hw56_2 : zI (-1) 5 w56_2) (hw56_3 : zI 1 21 w56_3) (hw56_4 : zI 0 5 w18_4) (jw56 : kJ rw56) (fw56 : zFt r rw56), zKf p l e ({ frames := 8, cells := 0, slots := 0, locals := 360 }) s m a9 below meth c Q D A 56 6 [] (kW ct E y rw56 q) [(0, .ref (y 195)), (1, .int a1), (2, .int w56_2), (3, .int w56_3), (4, .int w18_4)] := by
        intro w56_2 w56_3 rw56 hw56_1 hw56_2 hw56_3 hw56_4 jw56 fw56 H locs ls hw hS hl
        refine lv_iinc (v := w18_4 + 1) (lv' := [(4, .int (w18_4 + 1)), (0, .ref (y 195)), (1, .int a1), (2, .int w56_2), (3, .int w56_3)]) hx hb dX11_cheapest_56 hl (k := 4) rfl (rfl) (by decide) rfl (fun ls hl => ?_)
        have k1 : zI 1 6 (w18_4 + 1) := zI.add hw56_4 (zI.lit (a := 1) (b := 1) (by decide)) (by decide)
        refine lv_goto (tgt := 18) hx hb dX11_cheapest_59 (by decide) ?_
        exact ih18 w56_2 w56_3 (w18_4 + 1) rw56 hw56_1 hw56_2 hw56_3 (k1.w (c := 0) (d := 6) (by decide)) jw56 fw56 (zI.up hw56_4 (by decide) hm18) H locs ls hw hS (lv_sub hl [1, 2, 3, 4, 0] rfl)
      intro H locs ls hw hS hl
      refine lv_iload hx hb dX11_cheapest_18 (lv_at hl 4 rfl) ?_
      refine lv_aload_n hx hb dX11_cheapest_20 rfl (lv_at hl 0 rfl) ?_
      refine va_get (D := D) (ci := 10) (v := .ref (y 171)) hx hb hts hiX11 hown hK hw.1 195 kg195 rfl 1 (by decide) lf19 (fun _ h9 => h9) rfl dX11_cheapest_21 ?_
      refine va_get (D := D) (ci := 2) (v := .int (rw18 171 9)) hx hb hts hiX2 hown hK hw.1 171 kg171 rfl 9 (by decide) lf169 (fun _ h9 => h9) rfl dX11_cheapest_24 (zgen (lo := 0) (hi := 6) ((show zI 0 6 (rw18 171 9) from jw18.i 171 9)) (fun v2 hv2 => ?_))
      refine lv_icmp_ge (tgt := 62) hx hb dX11_cheapest_27 (by decide) (fun c3 => ?_) (fun c3 => ?_)
      · refine lv_iload_n hx hb dX11_cheapest_62 rfl (lv_at hl 2 rfl) ?_
        exact ziretQ hQ hx hb hr rfl hlocks (w18_2, rw18) rfl ⟨(zI.top _), jw18, fw18, trivial⟩ hw hS dX11_cheapest_63
      · have k4 : zI 0 5 (w18_4) := zI.ltU (zI.nle c3) hw18_4 hv2 (by decide)
        have k5 : zI 1 6 (v2) := zI.ltD (zI.nle c3) hw18_4 hv2 (by decide)
        refine lv_aload_n hx hb dX11_cheapest_30 rfl (lv_at hl 0 rfl) ?_
        refine lv_iload_n hx hb dX11_cheapest_31 rfl (lv_at hl 1 rfl) ?_
        refine lv_iload hx hb dX11_cheapest_32 (lv_at hl 4 rfl) ?_
        refine kcallV (As := [.int a1, .int w18_4]) (rest := []) ⟨hx, hb, hml, hown, hts⟩ (kc_fewest l D ct E y a1 w18_4 rw18 q hw18_1 jw18 hEi) (wqX11_281_kc_fewest hts ⟨Nat.le_of_ble_eq_true rfl, Nat.le_of_ble_eq_true rfl⟩) hw hS hA hK hZ hN 10 195 rfl kg195 rfl hl.1 rfl (Nat.le_of_ble_eq_true rfl) dX11_cheapest_34 37 rfl (fun u6 H locs pu6 hw hS => ?_)
        obtain ⟨v7, r8⟩ := u6
        have hv7 : zI (-1) 20 v7 := pu6.1
        have ju6 : kJ r8 := pu6.2.1
        have fu6 : zFt rw18 r8 := pu6.2.2.1
        have hw : zPD D A (kW ct E y r8 q) H := hw
        refine zfr 37 [.int v7] rfl rfl ?_
        refine lv_istore (lv' := [(5, .int v7), (0, .ref (y 195)), (1, .int a1), (2, .int w18_2), (3, .int w18_3), (4, .int w18_4)]) hx hb dX11_cheapest_37 hl (by decide) rfl (fun ls hl => ?_)
        refine lv_iload hx hb dX11_cheapest_39 (lv_at hl 0 rfl) ?_
        refine lv_if_le (tgt := 56) hx hb dX11_cheapest_41 (by decide) (fun c9 => ?_) (fun c9 => ?_)
        · have k10 : zI (-1) 0 (v7) := zI.leU c9 hv7 (zI.lit (a := 0) (b := 0) (c := 0) (by decide)) (by decide)
          exact cut56 w18_2 w18_3 r8 hw18_1 hw18_2 hw18_3 k4 ju6 (fw18.tr fu6) H locs ls hw hS (lv_sub hl [1, 2, 3, 4, 5] rfl)
        · have k11 : zI 1 20 (v7) := zI.ltD (zI.nle c9) (zI.lit (a := 0) (b := 0) (c := 0) (by decide)) hv7 (by decide)
          refine lv_iload hx hb dX11_cheapest_44 (lv_at hl 0 rfl) ?_
          refine lv_iload_n hx hb dX11_cheapest_46 rfl (lv_at hl 4 rfl) ?_
          refine lv_icmp_ge (tgt := 56) hx hb dX11_cheapest_47 (by decide) (fun c12 => ?_) (fun c12 => ?_)
          · have k13 : zI 1 20 (w18_3) := zI.leU c12 hw18_3 k11 (by decide)
            exact cut56 w18_2 w18_3 r8 hw18_1 hw18_2 (k13.w (c := 1) (d := 21) (by decide)) k4 ju6 (fw18.tr fu6) H locs ls hw hS (lv_sub hl [1, 2, 3, 4, 5] rfl)
          · have k14 : zI 2 21 (w18_3) := zI.ltD (zI.nle c12) k11 hw18_3 (by decide)
            refine lv_iload hx hb dX11_cheapest_50 (lv_at hl 0 rfl) ?_
            refine lv_istore_n (lv' := [(3, .int v7), (5, .int v7), (0, .ref (y 195)), (1, .int a1), (2, .int w18_2), (4, .int w18_4)]) hx hb dX11_cheapest_52 rfl hl (by decide) rfl (fun ls hl => ?_)
            refine lv_iload hx hb dX11_cheapest_53 (lv_at hl 5 rfl) ?_
            refine lv_istore_n (lv' := [(2, .int w18_4), (3, .int v7), (5, .int v7), (0, .ref (y 195)), (1, .int a1), (4, .int w18_4)]) hx hb dX11_cheapest_55 rfl hl (by decide) rfl (fun ls hl => ?_)
            exact cut56 w18_4 v7 r8 hw18_1 (k4.w (c := (-1)) (d := 5) (by decide)) (k11.w (c := 1) (d := 21) (by decide)) k4 ju6 (fw18.tr fu6) H locs ls hw hS (lv_sub hl [3, 4, 0, 1, 5] rfl)
  intro H locs hw hS ls hl
  have hl : lv_has ls 6 [(0, .ref (y 195)), (1, .int a1)] := hl
  refine lv_aload_n hx hb dX11_cheapest_0 rfl (lv_at hl 0 rfl) ?_
  refine lv_iload_n hx hb dX11_cheapest_1 rfl (lv_at hl 1 rfl) ?_
  refine kcallV (As := [.int a1]) (rest := []) ⟨hx, hb, hml, hown, hts⟩ (kc_isPerson l D ct E y a1 r q hJ0 hEi) (wqX11_133_kc_isPerson hts ⟨Nat.le_of_ble_eq_true rfl, Nat.le_of_ble_eq_true rfl⟩) hw hS hA hK hZ hN 10 195 rfl kg195 rfl hl.1 rfl (Nat.le_of_ble_eq_true rfl) dX11_cheapest_2 5 rfl (fun u15 H locs pu15 hw hS => ?_)
  have hu15 : zI 0 1 u15 := pu15.1
  have yu15_0 : (¬ u15 = 0 → zI 0 5 a1) := pu15.2.1
  have xu15 : u15 = (Gk_isPerson a1 r q) := pu15.2.2.1
  have hw : zPD D A (kW ct E y r q) H := hw
  refine zfr 5 [.int u15] rfl rfl ?_
  refine lv_if_ne (tgt := 10) hx hb dX11_cheapest_5 (by decide) (fun c17 => ?_) (fun c17 => ?_)
  · have k18 : zI 1 1 (u15) := zI.neD c17 hu15 (zI.lit (a := 0) (b := 0) (c := 0) (by decide)) (by decide)
    refine lv_iconst (v := (-1)) hx hb dX11_cheapest_10 (by decide) ?_
    refine lv_istore_n (lv' := [(2, .int (-1)), (0, .ref (y 195)), (1, .int a1)]) hx hb dX11_cheapest_11 rfl hl (by decide) rfl (fun ls hl => ?_)
    refine lv_bipush (v := 21) hx hb dX11_cheapest_12 (by decide) ?_
    refine lv_istore_n (lv' := [(3, .int 21), (2, .int (-1)), (0, .ref (y 195)), (1, .int a1)]) hx hb dX11_cheapest_14 rfl hl (by decide) rfl (fun ls hl => ?_)
    refine lv_iconst (v := 0) hx hb dX11_cheapest_15 (by decide) ?_
    refine lv_istore (lv' := [(4, .int 0), (3, .int 21), (2, .int (-1)), (0, .ref (y 195)), (1, .int a1)]) hx hb dX11_cheapest_16 hl (by decide) rfl (fun ls hl => ?_)
    exact cut18 7 (-1) 21 0 r (yu15_0 c17) ((zI.lit (a := (-1)) (b := (-1)) (c := (-1)) (by decide)).w (c := (-1)) (d := 5) (by decide)) ((zI.lit (a := 21) (b := 21) (c := 21) (by decide)).w (c := 1) (d := 21) (by decide)) ((zI.lit (a := 0) (b := 0) (c := 0) (by decide)).w (c := 0) (d := 6) (by decide)) hJ0 (zFt.refl) (zI.m0 (zI.lit (a := 0) (b := 0) (c := 0) (by decide)) (by decide)) H locs ls hw hS (lv_sub hl [3, 4, 2, 1, 0] rfl)
  · have k19 : zI 0 0 (u15) := zI.eqq c17 (zI.lit (a := 0) (b := 0) (c := 0) (by decide))
    refine lv_iconst (v := (-1)) hx hb dX11_cheapest_8 (by decide) ?_
    exact ziretQ hQ hx hb hr rfl hlocks (((-1) : Int32), r) rfl ⟨(zI.top _), hJ0, (zFt.refl), trivial⟩ hw hS dX11_cheapest_9

set_option maxHeartbeats 4000000 in
set_option maxRecDepth 100000 in
theorem kc_debt (l : Launch) (D : va_G) (ct : Nat → ClassId) (E : Nat → Nat) (y : Nat → Nat) (a1 : Int32) (a2 : Int32) (r : zRr) (q : zRq) (hJ0 : kJ r) (hEi : kEi E) : cC l yX11_debt (.code yX11_debt cX11_debt 4 (some .int) :: wsL_law0) ({ frames := 8, cells := 0, slots := 0, locals := 360 }) D ct E [.ref (y 195), .int a1, .int a2] (kW ct E y r q) (S := Int32 × zRr) (fun u => some (.int u.1)) (fun u => zI (-2147483648) 2147483647 u.1 ∧ kJ u.2 ∧ zFt r u.2 ∧ True) (fun u => kW ct E y u.2 q) := by
  refine cofQ cX11_debt 4 (some .int) (by decide) rfl (Nat.le_of_ble_eq_true rfl) ?_
  intro p e s m below meth c A a9 Q ha9 hx hb hr hml hts hown hlocks hname hK hA hZ hN hQ
  have hown : s.vm.findClass RX11 = some m.cls := hown
  have hiX11 : ∀ w ∈ wsX110, w ∈ .code yX11_debt cX11_debt 4 (some .int) :: wsL_law0 := fun _ h => ki (zs_wsX110 _ h)
  have hiX2 : ∀ w ∈ wsX20, w ∈ .code yX11_debt cX11_debt 4 (some .int) :: wsL_law0 := fun _ h => ki (zs_wsX20 _ h)
  have hiX8 : ∀ w ∈ wsX80, w ∈ .code yX11_debt cX11_debt 4 (some .int) :: wsL_law0 := fun _ h => ki (zs_wsX80 _ h)
  have lf19 := hts (.fieldLink RX11 19 "BeardPass" "told" "LBeardPass$Land;") (ki (zr1 21 rfl))
  have lf64 := hts (.fieldLink RX11 64 "BeardPass" "now" "LBeardPass$Standing;") (ki (zr2 19 rfl))
  have lf150 := hts (.fieldLink RX11 150 "BeardPass$Standing" "purses" "[I") (ki (zr30 18 rfl))
  have lf178 := hts (.fieldLink RX11 178 "BeardPass$Land" "inch" "I") (ki (zr48 4 rfl))
  intro H locs hw hS ls hl
  have hl : lv_has ls 4 [(0, .ref (y 195)), (1, .int a1), (2, .int a2)] := hl
  refine lv_aload_n hx hb dX11_debt_0 rfl (lv_at hl 0 rfl) ?_
  refine lv_iload_n hx hb dX11_debt_1 rfl (lv_at hl 1 rfl) ?_
  refine kcallV (As := [.int a1]) (rest := []) ⟨hx, hb, hml, hown, hts⟩ (kc_isPerson l D ct E y a1 r q hJ0 hEi) (wqX11_133_kc_isPerson hts ⟨Nat.le_of_ble_eq_true rfl, Nat.le_of_ble_eq_true rfl⟩) hw hS hA hK hZ hN 10 195 rfl kg195 rfl hl.1 rfl (Nat.le_of_ble_eq_true rfl) dX11_debt_2 5 rfl (fun u1 H locs pu1 hw hS => ?_)
  have hu1 : zI 0 1 u1 := pu1.1
  have yu1_0 : (¬ u1 = 0 → zI 0 5 a1) := pu1.2.1
  have xu1 : u1 = (Gk_isPerson a1 r q) := pu1.2.2.1
  have hw : zPD D A (kW ct E y r q) H := hw
  refine zfr 5 [.int u1] rfl rfl ?_
  refine lv_if_eq (tgt := 16) hx hb dX11_debt_5 (by decide) (fun c3 => ?_) (fun c3 => ?_)
  · have k4 : zI 0 0 (u1) := zI.eqq c3 (zI.lit (a := 0) (b := 0) (c := 0) (by decide))
    refine lv_iconst (v := (-1)) hx hb dX11_debt_16 (by decide) ?_
    exact ziretQ hQ hx hb hr rfl hlocks (((-1) : Int32), r) rfl ⟨(zI.top _), hJ0, (zFt.refl), trivial⟩ hw hS dX11_debt_17
  · have k5 : zI 1 1 (u1) := zI.neD c3 hu1 (zI.lit (a := 0) (b := 0) (c := 0) (by decide)) (by decide)
    refine lv_aload_n hx hb dX11_debt_8 rfl (lv_at hl 0 rfl) ?_
    refine lv_iload_n hx hb dX11_debt_9 rfl (lv_at hl 2 rfl) ?_
    refine kcallV (As := [.int a2]) (rest := []) ⟨hx, hb, hml, hown, hts⟩ (kc_isTown l D ct E y a2 r q hJ0 hEi) (wqX11_156_kc_isTown hts ⟨Nat.le_of_ble_eq_true rfl, Nat.le_of_ble_eq_true rfl⟩) hw hS hA hK hZ hN 10 195 rfl kg195 rfl hl.1 rfl (Nat.le_of_ble_eq_true rfl) dX11_debt_10 13 rfl (fun u6 H locs pu6 hw hS => ?_)
    have hu6 : zI 0 1 u6 := pu6.1
    have yu6_0 : (¬ u6 = 0 → zI 0 5 a2) := pu6.2.1
    have xu6 : u6 = (Gk_isTown a2 r q) := pu6.2.2.1
    have hw : zPD D A (kW ct E y r q) H := hw
    refine zfr 13 [.int u6] rfl rfl ?_
    refine lv_if_ne (tgt := 18) hx hb dX11_debt_13 (by decide) (fun c8 => ?_) (fun c8 => ?_)
    · have k9 : zI 1 1 (u6) := zI.neD c8 hu6 (zI.lit (a := 0) (b := 0) (c := 0) (by decide)) (by decide)
      refine lv_aload_n hx hb dX11_debt_18 rfl (lv_at hl 0 rfl) ?_
      refine lv_iload_n hx hb dX11_debt_19 rfl (lv_at hl 1 rfl) ?_
      refine lv_iload_n hx hb dX11_debt_20 rfl (lv_at hl 2 rfl) ?_
      refine kcallV (As := [.int a1, .int a2]) (rest := []) ⟨hx, hb, hml, hown, hts⟩ (kc_fewest l D ct E y a1 a2 r q (yu1_0 c3) hJ0 hEi) (wqX11_281_kc_fewest hts ⟨Nat.le_of_ble_eq_true rfl, Nat.le_of_ble_eq_true rfl⟩) hw hS hA hK hZ hN 10 195 rfl kg195 rfl hl.1 rfl (Nat.le_of_ble_eq_true rfl) dX11_debt_21 24 rfl (fun u10 H locs pu10 hw hS => ?_)
      obtain ⟨v11, r12⟩ := u10
      have hv11 : zI (-1) 20 v11 := pu10.1
      have ju10 : kJ r12 := pu10.2.1
      have fu10 : zFt r r12 := pu10.2.2.1
      have hw : zPD D A (kW ct E y r12 q) H := hw
      refine zfr 24 [.int v11] rfl rfl ?_
      refine lv_istore_n (lv' := [(3, .int v11), (0, .ref (y 195)), (1, .int a1), (2, .int a2)]) hx hb dX11_debt_24 rfl hl (by decide) rfl (fun ls hl => ?_)
      refine lv_iload_n hx hb dX11_debt_25 rfl (lv_at hl 0 rfl) ?_
      refine lv_iconst (v := (-1)) hx hb dX11_debt_26 (by decide) ?_
      refine lv_icmp_ne (tgt := 32) hx hb dX11_debt_27 (by decide) (fun c13 => ?_) (fun c13 => ?_)
      · have k14 : zI 0 20 (v11) := zI.neD c13 hv11 (zI.lit (a := (-1)) (b := (-1)) (c := (-1)) (by decide)) (by decide)
        refine lv_iconst (v := 0) hx hb dX11_debt_32 (by decide) ?_
        refine lv_iload_n hx hb dX11_debt_33 rfl (lv_at hl 0 rfl) ?_
        refine lv_aload_n hx hb dX11_debt_34 rfl (lv_at hl 1 rfl) ?_
        refine va_get (D := D) (ci := 10) (v := .ref (y 171)) hx hb hts hiX11 hown hK hw.1 195 kg195 rfl 1 (by decide) lf19 (fun _ h9 => h9) rfl dX11_debt_35 ?_
        refine va_get (D := D) (ci := 2) (v := .int (r12 171 12)) hx hb hts hiX2 hown hK hw.1 171 kg171 rfl 12 (by decide) lf178 (fun _ h9 => h9) rfl dX11_debt_38 (zgen (zI.top _) (fun v15 _ => ?_))
        refine lv_imul hx hb dX11_debt_41 (zgen (zI.top _) (fun v16 _ => ?_))
        refine lv_aload_n hx hb dX11_debt_42 rfl (lv_at hl 1 rfl) ?_
        refine va_get (D := D) (ci := 10) (v := .ref (y 6)) hx hb hts hiX11 hown hK hw.1 195 kg195 rfl 8 (by decide) lf64 (fun _ h9 => h9) rfl dX11_debt_43 ?_
        refine va_get (D := D) (ci := 7) (v := .ref (y 10)) hx hb hts hiX8 hown hK hw.1 6 kg6 rfl 3 (by decide) lf150 (fun _ h9 => h9) rfl dX11_debt_46 ?_
        refine lv_iload_n hx hb dX11_debt_49 rfl (lv_at hl 2 rfl) ?_
        refine miald hx hb hK hw 10 kg10 (yu1_0 c3) (by decide) dX11_debt_50 (zgen (zI.top _) (fun v17 _ => ?_))
        refine lv_isub hx hb dX11_debt_51 (zgen (zI.top _) (fun v18 _ => ?_))
        refine va_mmax hx hb (hml.trans hl.1.symm) hown (hts (.methodLink RX11 284 Lib.Math.max.name) (ki (zr48 5 rfl))) (hts (.static Lib.Math.max.name) (ki (zr40 8 rfl))) (hts (.initialized "java/lang/Math") (ki (zr35 18 rfl))) (hts (.code Lib.Math.max.name Lib.Math.max.code 2 (some .int)) (ki (zr40 9 rfl))) (Nat.le_of_ble_eq_true rfl) (Nat.le_of_ble_eq_true rfl) (Nat.le_of_ble_eq_true rfl) (Nat.le_of_ble_eq_true rfl) dX11_debt_52 (zgen (zI.top _) (fun v19 _ => ?_))
        exact ziretQ hQ hx hb hr rfl hlocks (v19, r12) rfl ⟨(zI.top _), ju10, ((zFt.refl).tr fu10), trivial⟩ hw hS dX11_debt_55
      · have k20 : zI (-1) (-1) (v11) := zI.eqq c13 (zI.lit (a := (-1)) (b := (-1)) (c := (-1)) (by decide))
        refine lv_iconst (v := (-1)) hx hb dX11_debt_30 (by decide) ?_
        exact ziretQ hQ hx hb hr rfl hlocks (((-1) : Int32), r12) rfl ⟨(zI.top _), ju10, ((zFt.refl).tr fu10), trivial⟩ hw hS dX11_debt_31
    · have k21 : zI 0 0 (u6) := zI.eqq c8 (zI.lit (a := 0) (b := 0) (c := 0) (by decide))
      refine lv_iconst (v := (-1)) hx hb dX11_debt_16 (by decide) ?_
      exact ziretQ hQ hx hb hr rfl hlocks (((-1) : Int32), r) rfl ⟨(zI.top _), hJ0, (zFt.refl), trivial⟩ hw hS dX11_debt_17

set_option maxHeartbeats 4000000 in
set_option maxRecDepth 100000 in
theorem kc_meeting (l : Launch) (D : va_G) (ct : Nat → ClassId) (E : Nat → Nat) (y : Nat → Nat) (a1 : Int32) (r : zRr) (q : zRq) (hJ0 : kJ r) (hEi : kEi E) : cC l yX11_meeting (.code yX11_meeting cX11_meeting 5 (some .int) :: wsL_law0) ({ frames := 7, cells := 0, slots := 0, locals := 320 }) D ct E [.ref (y 195), .int a1] (kW ct E y r q) (S := Int32 × zRr) (fun u => some (.int u.1)) (fun u => zI (-2147483648) 2147483647 u.1 ∧ kJ u.2 ∧ zFt r u.2 ∧ True) (fun u => kW ct E y u.2 q) := by
  refine cofQ cX11_meeting 5 (some .int) (by decide) rfl (Nat.le_of_ble_eq_true rfl) ?_
  intro p e s m below meth c A a9 Q ha9 hx hb hr hml hts hown hlocks hname hK hA hZ hN hQ
  have hown : s.vm.findClass RX11 = some m.cls := hown
  have hiX10 : ∀ w ∈ wsX100, w ∈ .code yX11_meeting cX11_meeting 5 (some .int) :: wsL_law0 := fun _ h => ki (zs_wsX100 _ h)
  have hiX11 : ∀ w ∈ wsX110, w ∈ .code yX11_meeting cX11_meeting 5 (some .int) :: wsL_law0 := fun _ h => ki (zs_wsX110 _ h)
  have hiX2 : ∀ w ∈ wsX20, w ∈ .code yX11_meeting cX11_meeting 5 (some .int) :: wsL_law0 := fun _ h => ki (zs_wsX20 _ h)
  have lf19 := hts (.fieldLink RX11 19 "BeardPass" "told" "LBeardPass$Land;") (ki (zr1 21 rfl))
  have lf57 := hts (.fieldLink RX11 57 "BeardPass" "ways" "LBeardPass$Ways;") (ki (zr2 15 rfl))
  have lf64 := hts (.fieldLink RX11 64 "BeardPass" "now" "LBeardPass$Standing;") (ki (zr2 19 rfl))
  have lf169 := hts (.fieldLink RX11 169 "BeardPass$Land" "towns" "I") (ki (zr31 19 rfl))
  have lf172 := hts (.fieldLink RX11 172 "BeardPass$Land" "persons" "I") (ki (zr31 0 rfl))
  have lf287 := hts (.fieldLink RX11 287 "BeardPass$Ways" "latest" "[I") (ki (zr49 7 rfl))
  have cut71 : ∀ (n : Nat) (w71_2 : Int32) (w71_3 : Int32) (rw71 : zRr) (hw71_1 : zI 0 1 a1) (hw71_2 : zI (-1) 5 w71_2) (hw71_3 : zI 0 6 w71_3) (jw71 : kJ rw71) (fw71 : zFt r rw71), 6 - w71_3.toInt < (n : Int) → zKf p l e ({ frames := 7, cells := 0, slots := 0, locals := 320 }) s m a9 below meth c Q D A 71 5 [] (kW ct E y rw71 q) [(0, .ref (y 195)), (1, .int a1), (2, .int w71_2), (3, .int w71_3)] := by
    intro n
    induction n with
    | zero => intro w71_2 w71_3 rw71 hw71_1 hw71_2 hw71_3 jw71 fw71 hm71; exact zI.no hw71_3 (by decide) hm71
    | succ n ih71 =>
      intro w71_2 w71_3 rw71 hw71_1 hw71_2 hw71_3 jw71 fw71 hm71
      have cut120 : ∀ (w120_2 : Int32) (hw120_1 : zI 0 1 a1) (hw120_2 : zI (-1) 5 w120_2) (hw120_3 : zI 0 5 w71_3), zKf p l e ({ frames := 7, cells := 0, slots := 0, locals := 320 }) s m a9 below meth c Q D A 120 5 [] (kW ct E y rw71 q) [(0, .ref (y 195)), (1, .int a1), (2, .int w120_2), (3, .int w71_3)] := by
        intro w120_2 hw120_1 hw120_2 hw120_3 H locs ls hw hS hl
        refine lv_iinc (v := w71_3 + 1) (lv' := [(3, .int (w71_3 + 1)), (0, .ref (y 195)), (1, .int a1), (2, .int w120_2)]) hx hb dX11_meeting_120 hl (k := 3) rfl (rfl) (by decide) rfl (fun ls hl => ?_)
        have k1 : zI 1 6 (w71_3 + 1) := zI.add hw120_3 (zI.lit (a := 1) (b := 1) (by decide)) (by decide)
        refine lv_goto (tgt := 71) hx hb dX11_meeting_123 (by decide) ?_
        exact ih71 w120_2 (w71_3 + 1) rw71 hw120_1 hw120_2 (k1.w (c := 0) (d := 6) (by decide)) jw71 fw71 (zI.up hw120_3 (by decide) hm71) H locs ls hw hS (lv_sub hl [1, 2, 3, 0] rfl)
      have cut118 : ∀ (hw118_1 : zI 0 1 a1) (hw118_3 : zI 0 5 w71_3), zKf p l e ({ frames := 7, cells := 0, slots := 0, locals := 320 }) s m a9 below meth c Q D A 118 5 [] (kW ct E y rw71 q) [(0, .ref (y 195)), (1, .int a1), (3, .int w71_3)] := by
        intro hw118_1 hw118_3 H locs ls hw hS hl
        refine lv_iload_n hx hb dX11_meeting_118 rfl (lv_at hl 2 rfl) ?_
        refine lv_istore_n (lv' := [(2, .int w71_3), (0, .ref (y 195)), (1, .int a1), (3, .int w71_3)]) hx hb dX11_meeting_119 rfl hl (by decide) rfl (fun ls hl => ?_)
        exact cut120 w71_3 hw118_1 (hw118_3.w (c := (-1)) (d := 5) (by decide)) hw118_3 H locs ls hw hS (lv_sub hl [1, 2, 0, 3] rfl)
      intro H locs ls hw hS hl
      refine lv_iload_n hx hb dX11_meeting_71 rfl (lv_at hl 3 rfl) ?_
      refine lv_aload_n hx hb dX11_meeting_72 rfl (lv_at hl 0 rfl) ?_
      refine va_get (D := D) (ci := 10) (v := .ref (y 171)) hx hb hts hiX11 hown hK hw.1 195 kg195 rfl 1 (by decide) lf19 (fun _ h9 => h9) rfl dX11_meeting_73 ?_
      refine va_get (D := D) (ci := 2) (v := .int (rw71 171 9)) hx hb hts hiX2 hown hK hw.1 171 kg171 rfl 9 (by decide) lf169 (fun _ h9 => h9) rfl dX11_meeting_76 (zgen (lo := 0) (hi := 6) ((show zI 0 6 (rw71 171 9) from jw71.i 171 9)) (fun v2 hv2 => ?_))
      refine lv_icmp_ge (tgt := 126) hx hb dX11_meeting_79 (by decide) (fun c3 => ?_) (fun c3 => ?_)
      · refine lv_iload_n hx hb dX11_meeting_126 rfl (lv_at hl 2 rfl) ?_
        refine lv_iconst (v := (-1)) hx hb dX11_meeting_127 (by decide) ?_
        refine lv_icmp_eq (tgt := 136) hx hb dX11_meeting_128 (by decide) (fun c4 => ?_) (fun c4 => ?_)
        · have k5 : zI (-1) (-1) (w71_2) := zI.eqq c4 (zI.lit (a := (-1)) (b := (-1)) (c := (-1)) (by decide))
          refine lv_iload_n hx hb dX11_meeting_136 rfl (lv_at hl 2 rfl) ?_
          refine lv_goto (tgt := 149) hx hb dX11_meeting_137 (by decide) ?_
          exact ziretQ hQ hx hb hr rfl hlocks (w71_2, rw71) rfl ⟨(zI.top _), jw71, fw71, trivial⟩ hw hS dX11_meeting_149
        · have k6 : zI 0 5 (w71_2) := zI.neD c4 hw71_2 (zI.lit (a := (-1)) (b := (-1)) (c := (-1)) (by decide)) (by decide)
          refine lv_iload_n hx hb dX11_meeting_131 rfl (lv_at hl 1 rfl) ?_
          refine lv_iconst (v := 1) hx hb dX11_meeting_132 (by decide) ?_
          refine lv_icmp_ne (tgt := 140) hx hb dX11_meeting_133 (by decide) (fun c7 => ?_) (fun c7 => ?_)
          · have k8 : zI 0 0 (a1) := zI.neU c7 hw71_1 (zI.lit (a := 1) (b := 1) (c := 1) (by decide)) (by decide)
            refine lv_aload_n hx hb dX11_meeting_140 rfl (lv_at hl 0 rfl) ?_
            refine va_get (D := D) (ci := 10) (v := .ref (y 200)) hx hb hts hiX11 hown hK hw.1 195 kg195 rfl 7 (by decide) lf57 (fun _ h9 => h9) rfl dX11_meeting_141 ?_
            refine va_get (D := D) (ci := 9) (v := .ref (y 204)) hx hb hts hiX10 hown hK hw.1 200 kg200 rfl 6 (by decide) lf287 (fun _ h9 => h9) rfl dX11_meeting_144 ?_
            refine lv_iload_n hx hb dX11_meeting_147 rfl (lv_at hl 2 rfl) ?_
            refine miald hx hb hK hw 204 kg204 k6 (by decide) dX11_meeting_148 (zgen (zI.top _) (fun v9 _ => ?_))
            exact ziretQ hQ hx hb hr rfl hlocks (v9, rw71) rfl ⟨(zI.top _), jw71, fw71, trivial⟩ hw hS dX11_meeting_149
          · have k10 : zI 1 1 (a1) := zI.eqq c7 (zI.lit (a := 1) (b := 1) (c := 1) (by decide))
            refine lv_iload_n hx hb dX11_meeting_136 rfl (lv_at hl 2 rfl) ?_
            refine lv_goto (tgt := 149) hx hb dX11_meeting_137 (by decide) ?_
            exact ziretQ hQ hx hb hr rfl hlocks (w71_2, rw71) rfl ⟨(zI.top _), jw71, fw71, trivial⟩ hw hS dX11_meeting_149
      · have k11 : zI 0 5 (w71_3) := zI.ltU (zI.nle c3) hw71_3 hv2 (by decide)
        have k12 : zI 1 6 (v2) := zI.ltD (zI.nle c3) hw71_3 hv2 (by decide)
        refine lv_aload_n hx hb dX11_meeting_82 rfl (lv_at hl 0 rfl) ?_
        refine va_get (D := D) (ci := 10) (v := .ref (y 200)) hx hb hts hiX11 hown hK hw.1 195 kg195 rfl 7 (by decide) lf57 (fun _ h9 => h9) rfl dX11_meeting_83 ?_
        refine va_get (D := D) (ci := 9) (v := .ref (y 204)) hx hb hts hiX10 hown hK hw.1 200 kg200 rfl 6 (by decide) lf287 (fun _ h9 => h9) rfl dX11_meeting_86 ?_
        refine lv_iload_n hx hb dX11_meeting_89 rfl (lv_at hl 3 rfl) ?_
        refine miald hx hb hK hw 204 kg204 k11 (by decide) dX11_meeting_90 (zgen (zI.top _) (fun v13 _ => ?_))
        refine lv_istore (lv' := [(4, .int v13), (0, .ref (y 195)), (1, .int a1), (2, .int w71_2), (3, .int w71_3)]) hx hb dX11_meeting_91 hl (by decide) rfl (fun ls hl => ?_)
        refine lv_iload hx hb dX11_meeting_93 (lv_at hl 0 rfl) ?_
        refine lv_iconst (v := (-1)) hx hb dX11_meeting_95 (by decide) ?_
        refine lv_icmp_eq (tgt := 120) hx hb dX11_meeting_96 (by decide) (fun c14 => ?_) (fun c14 => ?_)
        · have k15 : zI (-1) (-1) (v13) := zI.eqq c14 (zI.lit (a := (-1)) (b := (-1)) (c := (-1)) (by decide))
          exact cut120 w71_2 hw71_1 hw71_2 k11 H locs ls hw hS (lv_sub hl [1, 2, 3, 4] rfl)
        · refine lv_iload_n hx hb dX11_meeting_99 rfl (lv_at hl 3 rfl) ?_
          refine lv_iconst (v := (-1)) hx hb dX11_meeting_100 (by decide) ?_
          refine lv_icmp_eq (tgt := 118) hx hb dX11_meeting_101 (by decide) (fun c16 => ?_) (fun c16 => ?_)
          · have k17 : zI (-1) (-1) (w71_2) := zI.eqq c16 (zI.lit (a := (-1)) (b := (-1)) (c := (-1)) (by decide))
            exact cut118 hw71_1 k11 H locs ls hw hS (lv_sub hl [1, 2, 4] rfl)
          · have k18 : zI 0 5 (w71_2) := zI.neD c16 hw71_2 (zI.lit (a := (-1)) (b := (-1)) (c := (-1)) (by decide)) (by decide)
            refine lv_iload hx hb dX11_meeting_104 (lv_at hl 0 rfl) ?_
            refine lv_aload_n hx hb dX11_meeting_106 rfl (lv_at hl 1 rfl) ?_
            refine va_get (D := D) (ci := 10) (v := .ref (y 200)) hx hb hts hiX11 hown hK hw.1 195 kg195 rfl 7 (by decide) lf57 (fun _ h9 => h9) rfl dX11_meeting_107 ?_
            refine va_get (D := D) (ci := 9) (v := .ref (y 204)) hx hb hts hiX10 hown hK hw.1 200 kg200 rfl 6 (by decide) lf287 (fun _ h9 => h9) rfl dX11_meeting_110 ?_
            refine lv_iload_n hx hb dX11_meeting_113 rfl (lv_at hl 3 rfl) ?_
            refine miald hx hb hK hw 204 kg204 k18 (by decide) dX11_meeting_114 (zgen (zI.top _) (fun v19 _ => ?_))
            refine lv_icmp_ge (tgt := 120) hx hb dX11_meeting_115 (by decide) (fun c20 => ?_) (fun c20 => ?_)
            · exact cut120 w71_2 hw71_1 (k18.w (c := (-1)) (d := 5) (by decide)) k11 H locs ls hw hS (lv_sub hl [1, 2, 3, 4] rfl)
            · exact cut118 hw71_1 k11 H locs ls hw hS (lv_sub hl [1, 2, 4] rfl)
  have cut24 : ∀ (n : Nat) (w24_2 : Int32) (rw24 : zRr) (hw24_1 : zI 0 1 a1) (hw24_2 : zI 0 6 w24_2) (jw24 : kJ rw24) (fw24 : zFt r rw24), 6 - w24_2.toInt < (n : Int) → zKf p l e ({ frames := 7, cells := 0, slots := 0, locals := 320 }) s m a9 below meth c Q D A 24 5 [] (kW ct E y rw24 q) [(0, .ref (y 195)), (1, .int a1), (2, .int w24_2)] := by
    intro n
    induction n with
    | zero => intro w24_2 rw24 hw24_1 hw24_2 jw24 fw24 hm24; exact zI.no hw24_2 (by decide) hm24
    | succ n ih24 =>
      intro w24_2 rw24 hw24_1 hw24_2 jw24 fw24 hm24
      intro H locs ls hw hS hl
      refine lv_iload_n hx hb dX11_meeting_24 rfl (lv_at hl 2 rfl) ?_
      refine lv_aload_n hx hb dX11_meeting_25 rfl (lv_at hl 0 rfl) ?_
      refine va_get (D := D) (ci := 10) (v := .ref (y 171)) hx hb hts hiX11 hown hK hw.1 195 kg195 rfl 1 (by decide) lf19 (fun _ h9 => h9) rfl dX11_meeting_26 ?_
      refine va_get (D := D) (ci := 2) (v := .int (rw24 171 10)) hx hb hts hiX2 hown hK hw.1 171 kg171 rfl 10 (by decide) lf172 (fun _ h9 => h9) rfl dX11_meeting_29 (zgen (lo := 0) (hi := 6) ((show zI 0 6 (rw24 171 10) from jw24.i 171 10)) (fun v21 hv21 => ?_))
      refine lv_icmp_ge (tgt := 67) hx hb dX11_meeting_32 (by decide) (fun c22 => ?_) (fun c22 => ?_)
      · refine lv_iconst (v := (-1)) hx hb dX11_meeting_67 (by decide) ?_
        refine lv_istore_n (lv' := [(2, .int (-1)), (0, .ref (y 195)), (1, .int a1)]) hx hb dX11_meeting_68 rfl hl (by decide) rfl (fun ls hl => ?_)
        refine lv_iconst (v := 0) hx hb dX11_meeting_69 (by decide) ?_
        refine lv_istore_n (lv' := [(3, .int 0), (2, .int (-1)), (0, .ref (y 195)), (1, .int a1)]) hx hb dX11_meeting_70 rfl hl (by decide) rfl (fun ls hl => ?_)
        exact cut71 7 (-1) 0 rw24 hw24_1 ((zI.lit (a := (-1)) (b := (-1)) (c := (-1)) (by decide)).w (c := (-1)) (d := 5) (by decide)) ((zI.lit (a := 0) (b := 0) (c := 0) (by decide)).w (c := 0) (d := 6) (by decide)) jw24 fw24 (zI.m0 (zI.lit (a := 0) (b := 0) (c := 0) (by decide)) (by decide)) H locs ls hw hS (lv_sub hl [2, 3, 1, 0] rfl)
      · have k23 : zI 0 5 (w24_2) := zI.ltU (zI.nle c22) hw24_2 hv21 (by decide)
        have k24 : zI 1 6 (v21) := zI.ltD (zI.nle c22) hw24_2 hv21 (by decide)
        refine lv_aload_n hx hb dX11_meeting_35 rfl (lv_at hl 0 rfl) ?_
        refine va_get (D := D) (ci := 10) (v := .ref (y 200)) hx hb hts hiX11 hown hK hw.1 195 kg195 rfl 7 (by decide) lf57 (fun _ h9 => h9) rfl dX11_meeting_36 ?_
        refine lv_aload_n hx hb dX11_meeting_39 rfl (lv_at hl 0 rfl) ?_
        refine va_get (D := D) (ci := 10) (v := .ref (y 6)) hx hb hts hiX11 hown hK hw.1 195 kg195 rfl 8 (by decide) lf64 (fun _ h9 => h9) rfl dX11_meeting_40 ?_
        refine lv_iload_n hx hb dX11_meeting_43 rfl (lv_at hl 2 rfl) ?_
        refine lv_aload_n hx hb dX11_meeting_44 rfl (lv_at hl 0 rfl) ?_
        refine va_get (D := D) (ci := 10) (v := .ref (y 171)) hx hb hts hiX11 hown hK hw.1 195 kg195 rfl 1 (by decide) lf19 (fun _ h9 => h9) rfl dX11_meeting_45 ?_
        refine kcallV (As := []) (rest := [.int w24_2, .ref (y 6), .ref (y 200)]) ⟨hx, hb, hml, hown, hts⟩ (kc_allTowns l D ct E y rw24 q jw24 hEi) (wqX11_296_kc_allTowns hts ⟨Nat.le_of_ble_eq_true rfl, Nat.le_of_ble_eq_true rfl⟩) hw hS hA hK hZ hN 2 171 rfl kg171 rfl hl.1 rfl (Nat.le_of_ble_eq_true rfl) dX11_meeting_48 51 rfl (fun u25 H locs pu25 hw hS => ?_)
        have hu25 : zI 0 63 u25 := pu25.1
        have hw : zPD D A (kW ct E y rw24 q) H := hw
        refine zfr 51 [.int u25, .int w24_2, .ref (y 6), .ref (y 200)] rfl rfl ?_
        refine kcallV (As := [.ref (y 6), .int w24_2, .int u25]) (rest := []) ⟨hx, hb, hml, hown, hts⟩ (kc_findSoonest l D ct E y w24_2 u25 rw24 q k23 jw24 hEi) (wqX11_265_kc_findSoonest hts ⟨Nat.le_of_ble_eq_true rfl, Nat.le_of_ble_eq_true rfl⟩) hw hS hA hK hZ hN 9 200 rfl kg200 rfl hl.1 rfl (Nat.le_of_ble_eq_true rfl) dX11_meeting_51 54 rfl (fun u27 H locs pu27 hw hS => ?_)
        have ju27 : kJ u27 := pu27.1
        have fu27 : zFt rw24 u27 := pu27.2.1
        have hw : zPD D A (kW ct E y u27 q) H := hw
        refine zfr 54 [] rfl rfl ?_
        refine lv_aload_n hx hb dX11_meeting_54 rfl (lv_at hl 0 rfl) ?_
        refine va_get (D := D) (ci := 10) (v := .ref (y 200)) hx hb hts hiX11 hown hK hw.1 195 kg195 rfl 7 (by decide) lf57 (fun _ h9 => h9) rfl dX11_meeting_55 ?_
        refine kcallV (As := []) (rest := []) ⟨hx, hb, hml, hown, hts⟩ (kc_waitForSoonest l D ct E y u27 q ju27 hEi) (wqX11_299_kc_waitForSoonest hts ⟨Nat.le_of_ble_eq_true rfl, Nat.le_of_ble_eq_true rfl⟩) hw hS hA hK hZ hN 9 200 rfl kg200 rfl hl.1 rfl (Nat.le_of_ble_eq_true rfl) dX11_meeting_58 61 rfl (fun u29 H locs pu29 hw hS => ?_)
        have ju29 : kJ u29 := pu29.1
        have fu29 : zFr [204] u27 u29 := pu29.2.1
        have hw : zPD D A (kW ct E y u29 q) H := hw
        refine zfr 61 [] rfl rfl ?_
        refine lv_iinc (v := w24_2 + 1) (lv' := [(2, .int (w24_2 + 1)), (0, .ref (y 195)), (1, .int a1)]) hx hb dX11_meeting_61 hl (k := 2) rfl (rfl) (by decide) rfl (fun ls hl => ?_)
        have k31 : zI 1 6 (w24_2 + 1) := zI.add k23 (zI.lit (a := 1) (b := 1) (by decide)) (by decide)
        refine lv_goto (tgt := 24) hx hb dX11_meeting_64 (by decide) ?_
        exact ih24 (w24_2 + 1) u29 hw24_1 (k31.w (c := 0) (d := 6) (by decide)) ju29 ((fw24.tr fu27).trF fu29 rfl) (zI.up k23 (by decide) hm24) H locs ls hw hS (lv_sub hl [1, 2, 0] rfl)
  have cut11 : ∀ (hw11_1 : zI 0 1 a1), zKf p l e ({ frames := 7, cells := 0, slots := 0, locals := 320 }) s m a9 below meth c Q D A 11 5 [] (kW ct E y r q) [(0, .ref (y 195)), (1, .int a1)] := by
    intro hw11_1 H locs ls hw hS hl
    refine lv_aload_n hx hb dX11_meeting_11 rfl (lv_at hl 0 rfl) ?_
    refine va_get (D := D) (ci := 10) (v := .ref (y 200)) hx hb hts hiX11 hown hK hw.1 195 kg195 rfl 7 (by decide) lf57 (fun _ h9 => h9) rfl dX11_meeting_12 ?_
    refine va_get (D := D) (ci := 9) (v := .ref (y 204)) hx hb hts hiX10 hown hK hw.1 200 kg200 rfl 6 (by decide) lf287 (fun _ h9 => h9) rfl dX11_meeting_15 ?_
    refine lv_iconst (v := 0) hx hb dX11_meeting_18 (by decide) ?_
    refine kcallZS (As := [.ref (y 204), .int 0]) (rest := []) [204] (by decide) rfl ⟨hx, hb, hml, hown, hts⟩ (c_fill l D ct (y 204) (0 : Int32) 6 (r 204) (by decide)) (va_cwS 2 hts (kgSm (zr49 8 rfl) (zr10 23 rfl) (zr11 0 rfl) mL_J7_fill_53178) rfl rfl rfl (by decide +kernel) ⟨Nat.le_of_ble_eq_true rfl, Nat.le_of_ble_eq_true rfl⟩) hw hS hA hK hN rfl rfl hl.1 rfl (Nat.le_of_ble_eq_true rfl) dX11_meeting_19 22 rfl (zset r 204 (zfl (r 204) (0 : Int32) 6)) q (fun _ => rfl) kset1x (fun _ H locs _ hw hS => ?_)
    refine zfr 22 [] rfl rfl ?_
    refine cmgen (P := fun x => kJ x ∧ zFt r x) hw ⟨hJ0.fill rfl (fun _ => zI.top _), (zFt.refl).set rfl⟩ (fun r32 er32 hw pr32 => ?_)
    refine lv_iconst (v := 0) hx hb dX11_meeting_22 (by decide) ?_
    refine lv_istore_n (lv' := [(2, .int 0), (0, .ref (y 195)), (1, .int a1)]) hx hb dX11_meeting_23 rfl hl (by decide) rfl (fun ls hl => ?_)
    exact cut24 7 0 r32 hw11_1 ((zI.lit (a := 0) (b := 0) (c := 0) (by decide)).w (c := 0) (d := 6) (by decide)) pr32.1 pr32.2 (zI.m0 (zI.lit (a := 0) (b := 0) (c := 0) (by decide)) (by decide)) H locs ls hw hS (lv_sub hl [1, 2, 0] rfl)
  intro H locs hw hS ls hl
  have hl : lv_has ls 5 [(0, .ref (y 195)), (1, .int a1)] := hl
  refine lv_iload_n hx hb dX11_meeting_0 rfl (lv_at hl 1 rfl) ?_
  refine lv_if_eq (tgt := 11) hx hb dX11_meeting_1 (by decide) (fun c33 => ?_) (fun c33 => ?_)
  · have k34 : zI 0 0 (a1) := zI.eqq c33 (zI.lit (a := 0) (b := 0) (c := 0) (by decide))
    exact cut11 (k34.w (c := 0) (d := 1) (by decide)) H locs ls hw hS (lv_sub hl [0, 1] rfl)
  · refine lv_iload_n hx hb dX11_meeting_4 rfl (lv_at hl 1 rfl) ?_
    refine lv_iconst (v := 1) hx hb dX11_meeting_5 (by decide) ?_
    refine lv_icmp_eq (tgt := 11) hx hb dX11_meeting_6 (by decide) (fun c35 => ?_) (fun c35 => ?_)
    · have k36 : zI 1 1 (a1) := zI.eqq c35 (zI.lit (a := 1) (b := 1) (c := 1) (by decide))
      exact cut11 (k36.w (c := 0) (d := 1) (by decide)) H locs ls hw hS (lv_sub hl [0, 1] rfl)
    · refine lv_iconst (v := (-1)) hx hb dX11_meeting_9 (by decide) ?_
      exact ziretQ hQ hx hb hr rfl hlocks (((-1) : Int32), r) rfl ⟨(zI.top _), hJ0, (zFt.refl), trivial⟩ hw hS dX11_meeting_10

set_option maxHeartbeats 4000000 in
set_option maxRecDepth 100000 in
theorem kc_speakers (l : Launch) (D : va_G) (ct : Nat → ClassId) (E : Nat → Nat) (y : Nat → Nat) (a1 : Int32) (a2 : Int32) (r : zRr) (q : zRq) (hJ0 : kJ r) (hEi : kEi E) : cC l yX11_speakers (.code yX11_speakers cX11_speakers 3 (some .int) :: wsL_law0) ({ frames := 5, cells := 0, slots := 0, locals := 240 }) D ct E [.ref (y 195), .int a1, .int a2] (kW ct E y r q) (S := Int32 × zRr) (fun u => some (.int u.1)) (fun u => zI (-2147483648) 2147483647 u.1 ∧ kJ u.2 ∧ zFt r u.2 ∧ True) (fun u => kW ct E y u.2 q) := by
  refine cofQ cX11_speakers 3 (some .int) (by decide) rfl (Nat.le_of_ble_eq_true rfl) ?_
  intro p e s m below meth c A a9 Q ha9 hx hb hr hml hts hown hlocks hname hK hA hZ hN hQ
  have hown : s.vm.findClass RX11 = some m.cls := hown
  have hiX11 : ∀ w ∈ wsX110, w ∈ .code yX11_speakers cX11_speakers 3 (some .int) :: wsL_law0 := fun _ h => ki (zs_wsX110 _ h)
  have hiX2 : ∀ w ∈ wsX20, w ∈ .code yX11_speakers cX11_speakers 3 (some .int) :: wsL_law0 := fun _ h => ki (zs_wsX20 _ h)
  have hiX8 : ∀ w ∈ wsX80, w ∈ .code yX11_speakers cX11_speakers 3 (some .int) :: wsL_law0 := fun _ h => ki (zs_wsX80 _ h)
  have lf19 := hts (.fieldLink RX11 19 "BeardPass" "told" "LBeardPass$Land;") (ki (zr1 21 rfl))
  have lf48 := hts (.fieldLink RX11 48 "BeardPass" "frontier" "LBeardPass$Frontier;") (ki (zr2 11 rfl))
  have lf64 := hts (.fieldLink RX11 64 "BeardPass" "now" "LBeardPass$Standing;") (ki (zr2 19 rfl))
  have lf137 := hts (.fieldLink RX11 137 "BeardPass$Land" "kinds" "[I") (ki (zr30 14 rfl))
  have lf141 := hts (.fieldLink RX11 141 "BeardPass$Standing" "places" "[I") (ki (zr30 15 rfl))
  intro H locs hw hS ls hl
  have hl : lv_has ls 3 [(0, .ref (y 195)), (1, .int a1), (2, .int a2)] := hl
  refine lv_aload_n hx hb dX11_speakers_0 rfl (lv_at hl 0 rfl) ?_
  refine lv_iload_n hx hb dX11_speakers_1 rfl (lv_at hl 1 rfl) ?_
  refine kcallV (As := [.int a1]) (rest := []) ⟨hx, hb, hml, hown, hts⟩ (kc_isPerson l D ct E y a1 r q hJ0 hEi) (wqX11_133_kc_isPerson hts ⟨Nat.le_of_ble_eq_true rfl, Nat.le_of_ble_eq_true rfl⟩) hw hS hA hK hZ hN 10 195 rfl kg195 rfl hl.1 rfl (Nat.le_of_ble_eq_true rfl) dX11_speakers_2 5 rfl (fun u1 H locs pu1 hw hS => ?_)
  have hu1 : zI 0 1 u1 := pu1.1
  have yu1_0 : (¬ u1 = 0 → zI 0 5 a1) := pu1.2.1
  have xu1 : u1 = (Gk_isPerson a1 r q) := pu1.2.2.1
  have hw : zPD D A (kW ct E y r q) H := hw
  refine zfr 5 [.int u1] rfl rfl ?_
  refine lv_if_eq (tgt := 29) hx hb dX11_speakers_5 (by decide) (fun c3 => ?_) (fun c3 => ?_)
  · have k4 : zI 0 0 (u1) := zI.eqq c3 (zI.lit (a := 0) (b := 0) (c := 0) (by decide))
    refine lv_iconst (v := (-1)) hx hb dX11_speakers_29 (by decide) ?_
    exact ziretQ hQ hx hb hr rfl hlocks (((-1) : Int32), r) rfl ⟨(zI.top _), hJ0, (zFt.refl), trivial⟩ hw hS dX11_speakers_30
  · have k5 : zI 1 1 (u1) := zI.neD c3 hu1 (zI.lit (a := 0) (b := 0) (c := 0) (by decide)) (by decide)
    refine lv_aload_n hx hb dX11_speakers_8 rfl (lv_at hl 0 rfl) ?_
    refine lv_iload_n hx hb dX11_speakers_9 rfl (lv_at hl 2 rfl) ?_
    refine kcallV (As := [.int a2]) (rest := []) ⟨hx, hb, hml, hown, hts⟩ (kc_isTown l D ct E y a2 r q hJ0 hEi) (wqX11_156_kc_isTown hts ⟨Nat.le_of_ble_eq_true rfl, Nat.le_of_ble_eq_true rfl⟩) hw hS hA hK hZ hN 10 195 rfl kg195 rfl hl.1 rfl (Nat.le_of_ble_eq_true rfl) dX11_speakers_10 13 rfl (fun u6 H locs pu6 hw hS => ?_)
    have hu6 : zI 0 1 u6 := pu6.1
    have yu6_0 : (¬ u6 = 0 → zI 0 5 a2) := pu6.2.1
    have xu6 : u6 = (Gk_isTown a2 r q) := pu6.2.2.1
    have hw : zPD D A (kW ct E y r q) H := hw
    refine zfr 13 [.int u6] rfl rfl ?_
    refine lv_if_eq (tgt := 29) hx hb dX11_speakers_13 (by decide) (fun c8 => ?_) (fun c8 => ?_)
    · have k9 : zI 0 0 (u6) := zI.eqq c8 (zI.lit (a := 0) (b := 0) (c := 0) (by decide))
      refine lv_iconst (v := (-1)) hx hb dX11_speakers_29 (by decide) ?_
      exact ziretQ hQ hx hb hr rfl hlocks (((-1) : Int32), r) rfl ⟨(zI.top _), hJ0, (zFt.refl), trivial⟩ hw hS dX11_speakers_30
    · have k10 : zI 1 1 (u6) := zI.neD c8 hu6 (zI.lit (a := 0) (b := 0) (c := 0) (by decide)) (by decide)
      refine lv_aload_n hx hb dX11_speakers_16 rfl (lv_at hl 0 rfl) ?_
      refine va_get (D := D) (ci := 10) (v := .ref (y 171)) hx hb hts hiX11 hown hK hw.1 195 kg195 rfl 1 (by decide) lf19 (fun _ h9 => h9) rfl dX11_speakers_17 ?_
      refine va_get (D := D) (ci := 2) (v := .ref (y 175)) hx hb hts hiX2 hown hK hw.1 171 kg171 rfl 3 (by decide) lf137 (fun _ h9 => h9) rfl dX11_speakers_20 ?_
      refine lv_iload_n hx hb dX11_speakers_23 rfl (lv_at hl 1 rfl) ?_
      refine miald hx hb hK hw 175 kg175 (yu1_0 c3) (by decide) dX11_speakers_24 (zgen (zI.top _) (fun v11 _ => ?_))
      refine lv_iconst (v := 1) hx hb dX11_speakers_25 (by decide) ?_
      refine lv_icmp_eq (tgt := 31) hx hb dX11_speakers_26 (by decide) (fun c12 => ?_) (fun c12 => ?_)
      · have k13 : zI 1 1 (v11) := zI.eqq c12 (zI.lit (a := 1) (b := 1) (c := 1) (by decide))
        refine lv_aload_n hx hb dX11_speakers_31 rfl (lv_at hl 0 rfl) ?_
        refine va_get (D := D) (ci := 10) (v := .ref (y 199)) hx hb hts hiX11 hown hK hw.1 195 kg195 rfl 6 (by decide) lf48 (fun _ h9 => h9) rfl dX11_speakers_32 ?_
        refine lv_aload_n hx hb dX11_speakers_35 rfl (lv_at hl 0 rfl) ?_
        refine va_get (D := D) (ci := 10) (v := .ref (y 6)) hx hb hts hiX11 hown hK hw.1 195 kg195 rfl 8 (by decide) lf64 (fun _ h9 => h9) rfl dX11_speakers_36 ?_
        refine lv_aload_n hx hb dX11_speakers_39 rfl (lv_at hl 0 rfl) ?_
        refine va_get (D := D) (ci := 10) (v := .ref (y 6)) hx hb hts hiX11 hown hK hw.1 195 kg195 rfl 8 (by decide) lf64 (fun _ h9 => h9) rfl dX11_speakers_40 ?_
        refine va_get (D := D) (ci := 7) (v := .ref (y 7)) hx hb hts hiX8 hown hK hw.1 6 kg6 rfl 0 (by decide) lf141 (fun _ h9 => h9) rfl dX11_speakers_43 ?_
        refine lv_iload_n hx hb dX11_speakers_46 rfl (lv_at hl 1 rfl) ?_
        refine miald hx hb hK hw 7 kg7 (yu1_0 c3) (by decide) dX11_speakers_47 (zgen (lo := 0) (hi := 5) ((show zI 0 5 (r 7 _) from hJ0.i 7 _)) (fun v14 hv14 => ?_))
        refine lv_iload_n hx hb dX11_speakers_48 rfl (lv_at hl 2 rfl) ?_
        refine kcallV (As := [.ref (y 6), .int v14, .int a2]) (rest := []) ⟨hx, hb, hml, hown, hts⟩ (kc_voicesN l D ct E y v14 a2 r q (yu6_0 c8) hJ0 hEi) (wqX11_302_kc_voicesN hts ⟨Nat.le_of_ble_eq_true rfl, Nat.le_of_ble_eq_true rfl⟩) hw hS hA hK hZ hN 0 199 rfl kg199 rfl hl.1 rfl (Nat.le_of_ble_eq_true rfl) dX11_speakers_49 52 rfl (fun u15 H locs pu15 hw hS => ?_)
        obtain ⟨v16, r17⟩ := u15
        have hv16 : zI (-2147483648) 2147483647 v16 := pu15.1
        have ju15 : kJ r17 := pu15.2.1
        have fu15 : zFr [182] r r17 := pu15.2.2.1
        have xu15 : (v16, r17) = (Gk_voicesN v14 a2 r q) := pu15.2.2.2.1
        have hw : zPD D A (kW ct E y r17 q) H := hw
        refine zfr 52 [.int v16] rfl rfl ?_
        exact ziretQ hQ hx hb hr rfl hlocks (v16, r17) rfl ⟨(zI.top _), ju15, ((zFt.refl).trF fu15 rfl), trivial⟩ hw hS dX11_speakers_52
      · refine lv_iconst (v := (-1)) hx hb dX11_speakers_29 (by decide) ?_
        exact ziretQ hQ hx hb hr rfl hlocks (((-1) : Int32), r) rfl ⟨(zI.top _), hJ0, (zFt.refl), trivial⟩ hw hS dX11_speakers_30

set_option maxHeartbeats 4000000 in
set_option maxRecDepth 100000 in
theorem kc_strict (l : Launch) (D : va_G) (ct : Nat → ClassId) (E : Nat → Nat) (y : Nat → Nat) (r : zRr) (q : zRq) (hJ0 : kJ r) (hEi : kEi E) : cC l yX11_strict (.code yX11_strict cX11_strict 5 (some .int) :: wsL_law0) ({ frames := 7, cells := 0, slots := 0, locals := 320 }) D ct E [.ref (y 195)] (kW ct E y r q) (S := Int32 × zRr) (fun u => some (.int u.1)) (fun u => zI (-2147483648) 2147483647 u.1 ∧ kJ u.2 ∧ zFt r u.2 ∧ True) (fun u => kW ct E y u.2 q) := by
  refine cofQ cX11_strict 5 (some .int) (by decide) rfl (Nat.le_of_ble_eq_true rfl) ?_
  intro p e s m below meth c A a9 Q ha9 hx hb hr hml hts hown hlocks hname hK hA hZ hN hQ
  have hown : s.vm.findClass RX11 = some m.cls := hown
  have hiX11 : ∀ w ∈ wsX110, w ∈ .code yX11_strict cX11_strict 5 (some .int) :: wsL_law0 := fun _ h => ki (zs_wsX110 _ h)
  have hiX2 : ∀ w ∈ wsX20, w ∈ .code yX11_strict cX11_strict 5 (some .int) :: wsL_law0 := fun _ h => ki (zs_wsX20 _ h)
  have lf19 := hts (.fieldLink RX11 19 "BeardPass" "told" "LBeardPass$Land;") (ki (zr1 21 rfl))
  have lf48 := hts (.fieldLink RX11 48 "BeardPass" "frontier" "LBeardPass$Frontier;") (ki (zr2 11 rfl))
  have lf64 := hts (.fieldLink RX11 64 "BeardPass" "now" "LBeardPass$Standing;") (ki (zr2 19 rfl))
  have lf169 := hts (.fieldLink RX11 169 "BeardPass$Land" "towns" "I") (ki (zr31 19 rfl))
  have cut7 : ∀ (n : Nat) (w7_1 : Int32) (w7_2 : Int32) (w7_3 : Int32) (rw7 : zRr) (hw7_1 : zI (-1) 5 w7_1) (hw7_2 : zI (-2147483648) 7 w7_2) (hw7_3 : zI 0 6 w7_3) (jw7 : kJ rw7) (fw7 : zFt r rw7), 6 - w7_3.toInt < (n : Int) → zKf p l e ({ frames := 7, cells := 0, slots := 0, locals := 320 }) s m a9 below meth c Q D A 7 5 [] (kW ct E y rw7 q) [(0, .ref (y 195)), (1, .int w7_1), (2, .int w7_2), (3, .int w7_3)] := by
    intro n
    induction n with
    | zero => intro w7_1 w7_2 w7_3 rw7 hw7_1 hw7_2 hw7_3 jw7 fw7 hm7; exact zI.no hw7_3 (by decide) hm7
    | succ n ih7 =>
      intro w7_1 w7_2 w7_3 rw7 hw7_1 hw7_2 hw7_3 jw7 fw7 hm7
      have cut46 : ∀ (w46_1 : Int32) (w46_2 : Int32) (rw46 : zRr) (hw46_1 : zI (-1) 5 w46_1) (hw46_2 : zI (-2147483648) 7 w46_2) (hw46_3 : zI 0 5 w7_3) (jw46 : kJ rw46) (fw46 : zFt r rw46), zKf p l e ({ frames := 7, cells := 0, slots := 0, locals := 320 }) s m a9 below meth c Q D A 46 5 [] (kW ct E y rw46 q) [(0, .ref (y 195)), (1, .int w46_1), (2, .int w46_2), (3, .int w7_3)] := by
        intro w46_1 w46_2 rw46 hw46_1 hw46_2 hw46_3 jw46 fw46 H locs ls hw hS hl
        refine lv_iinc (v := w7_3 + 1) (lv' := [(3, .int (w7_3 + 1)), (0, .ref (y 195)), (1, .int w46_1), (2, .int w46_2)]) hx hb dX11_strict_46 hl (k := 3) rfl (rfl) (by decide) rfl (fun ls hl => ?_)
        have k1 : zI 1 6 (w7_3 + 1) := zI.add hw46_3 (zI.lit (a := 1) (b := 1) (by decide)) (by decide)
        refine lv_goto (tgt := 7) hx hb dX11_strict_49 (by decide) ?_
        exact ih7 w46_1 w46_2 (w7_3 + 1) rw46 hw46_1 hw46_2 (k1.w (c := 0) (d := 6) (by decide)) jw46 fw46 (zI.up hw46_3 (by decide) hm7) H locs ls hw hS (lv_sub hl [1, 2, 3, 0] rfl)
      intro H locs ls hw hS hl
      refine lv_iload_n hx hb dX11_strict_7 rfl (lv_at hl 3 rfl) ?_
      refine lv_aload_n hx hb dX11_strict_8 rfl (lv_at hl 0 rfl) ?_
      refine va_get (D := D) (ci := 10) (v := .ref (y 171)) hx hb hts hiX11 hown hK hw.1 195 kg195 rfl 1 (by decide) lf19 (fun _ h9 => h9) rfl dX11_strict_9 ?_
      refine va_get (D := D) (ci := 2) (v := .int (rw7 171 9)) hx hb hts hiX2 hown hK hw.1 171 kg171 rfl 9 (by decide) lf169 (fun _ h9 => h9) rfl dX11_strict_12 (zgen (lo := 0) (hi := 6) ((show zI 0 6 (rw7 171 9) from jw7.i 171 9)) (fun v2 hv2 => ?_))
      refine lv_icmp_ge (tgt := 52) hx hb dX11_strict_15 (by decide) (fun c3 => ?_) (fun c3 => ?_)
      · refine lv_iload_n hx hb dX11_strict_52 rfl (lv_at hl 1 rfl) ?_
        exact ziretQ hQ hx hb hr rfl hlocks (w7_1, rw7) rfl ⟨(zI.top _), jw7, fw7, trivial⟩ hw hS dX11_strict_53
      · have k4 : zI 0 5 (w7_3) := zI.ltU (zI.nle c3) hw7_3 hv2 (by decide)
        have k5 : zI 1 6 (v2) := zI.ltD (zI.nle c3) hw7_3 hv2 (by decide)
        refine lv_aload_n hx hb dX11_strict_18 rfl (lv_at hl 0 rfl) ?_
        refine va_get (D := D) (ci := 10) (v := .ref (y 199)) hx hb hts hiX11 hown hK hw.1 195 kg195 rfl 6 (by decide) lf48 (fun _ h9 => h9) rfl dX11_strict_19 ?_
        refine lv_aload_n hx hb dX11_strict_22 rfl (lv_at hl 0 rfl) ?_
        refine va_get (D := D) (ci := 10) (v := .ref (y 6)) hx hb hts hiX11 hown hK hw.1 195 kg195 rfl 8 (by decide) lf64 (fun _ h9 => h9) rfl dX11_strict_23 ?_
        refine lv_iload_n hx hb dX11_strict_26 rfl (lv_at hl 3 rfl) ?_
        refine kcallV (As := [.ref (y 6), .int w7_3]) (rest := []) ⟨hx, hb, hml, hown, hts⟩ (kc_letThrough l D ct E y w7_3 rw7 q k4 jw7 hEi) (wqX11_165_kc_letThrough hts ⟨Nat.le_of_ble_eq_true rfl, Nat.le_of_ble_eq_true rfl⟩) hw hS hA hK hZ hN 0 199 rfl kg199 rfl hl.1 rfl (Nat.le_of_ble_eq_true rfl) dX11_strict_27 30 rfl (fun u6 H locs pu6 hw hS => ?_)
        obtain ⟨v7, r8⟩ := u6
        have hv7 : zI (-2147483648) 2147483647 v7 := pu6.1
        have ju6 : kJ r8 := pu6.2.1
        have fu6 : zFr [182] rw7 r8 := pu6.2.2.1
        have hw : zPD D A (kW ct E y r8 q) H := hw
        refine zfr 30 [.int v7] rfl rfl ?_
        refine scallE (As := [.int v7]) (rest := []) ⟨hx, hb, hml, hown, hts⟩ (kc_bitCount l D ct v7) (va_cwS 1 hts (kgS (zr50 12 rfl) (zr50 13 rfl) (zr50 14 rfl) (zr50 15 rfl)) rfl rfl rfl (by decide +kernel) ⟨Nat.le_of_ble_eq_true rfl, Nat.le_of_ble_eq_true rfl⟩) hw hS hA hK hN kWn rfl hl.1 rfl (Nat.le_of_ble_eq_true rfl) dX11_strict_30 33 rfl (fun u9 H locs pu9 hw hS => ?_)
        have hu9 : zI (-2147483648) 2147483647 u9 := pu9.1
        refine zfr 33 [.int u9] rfl rfl ?_
        refine lv_istore (lv' := [(4, .int u9), (0, .ref (y 195)), (1, .int w7_1), (2, .int w7_2), (3, .int w7_3)]) hx hb dX11_strict_33 hl (by decide) rfl (fun ls hl => ?_)
        refine lv_iload hx hb dX11_strict_35 (lv_at hl 0 rfl) ?_
        refine lv_iload_n hx hb dX11_strict_37 rfl (lv_at hl 3 rfl) ?_
        refine lv_icmp_ge (tgt := 46) hx hb dX11_strict_38 (by decide) (fun c11 => ?_) (fun c11 => ?_)
        · exact cut46 w7_1 w7_2 r8 hw7_1 hw7_2 k4 ju6 (fw7.trF fu6 rfl) H locs ls hw hS (lv_sub hl [1, 2, 3, 4] rfl)
        · have k12 : zI (-2147483648) 6 (u9) := zI.ltU (zI.nle c11) (zI.top _) hw7_2 (by decide)
          have k13 : zI (-2147483647) 7 (w7_2) := zI.ltD (zI.nle c11) (zI.top _) hw7_2 (by decide)
          refine lv_iload hx hb dX11_strict_41 (lv_at hl 0 rfl) ?_
          refine lv_istore_n (lv' := [(2, .int u9), (4, .int u9), (0, .ref (y 195)), (1, .int w7_1), (3, .int w7_3)]) hx hb dX11_strict_43 rfl hl (by decide) rfl (fun ls hl => ?_)
          refine lv_iload_n hx hb dX11_strict_44 rfl (lv_at hl 4 rfl) ?_
          refine lv_istore_n (lv' := [(1, .int w7_3), (2, .int u9), (4, .int u9), (0, .ref (y 195)), (3, .int w7_3)]) hx hb dX11_strict_45 rfl hl (by decide) rfl (fun ls hl => ?_)
          exact cut46 w7_3 u9 r8 (k4.w (c := (-1)) (d := 5) (by decide)) (k12.w (c := (-2147483648)) (d := 7) (by decide)) k4 ju6 (fw7.trF fu6 rfl) H locs ls hw hS (lv_sub hl [3, 0, 1, 4] rfl)
  intro H locs hw hS ls hl
  have hl : lv_has ls 5 [(0, .ref (y 195))] := hl
  refine lv_iconst (v := (-1)) hx hb dX11_strict_0 (by decide) ?_
  refine lv_istore_n (lv' := [(1, .int (-1)), (0, .ref (y 195))]) hx hb dX11_strict_1 rfl hl (by decide) rfl (fun ls hl => ?_)
  refine lv_bipush (v := 7) hx hb dX11_strict_2 (by decide) ?_
  refine lv_istore_n (lv' := [(2, .int 7), (1, .int (-1)), (0, .ref (y 195))]) hx hb dX11_strict_4 rfl hl (by decide) rfl (fun ls hl => ?_)
  refine lv_iconst (v := 0) hx hb dX11_strict_5 (by decide) ?_
  refine lv_istore_n (lv' := [(3, .int 0), (2, .int 7), (1, .int (-1)), (0, .ref (y 195))]) hx hb dX11_strict_6 rfl hl (by decide) rfl (fun ls hl => ?_)
  exact cut7 7 (-1) 7 0 r ((zI.lit (a := (-1)) (b := (-1)) (c := (-1)) (by decide)).w (c := (-1)) (d := 5) (by decide)) ((zI.lit (a := 7) (b := 7) (c := 7) (by decide)).w (c := (-2147483648)) (d := 7) (by decide)) ((zI.lit (a := 0) (b := 0) (c := 0) (by decide)).w (c := 0) (d := 6) (by decide)) hJ0 (zFt.refl) (zI.m0 (zI.lit (a := 0) (b := 0) (c := 0) (by decide)) (by decide)) H locs ls hw hS (lv_sub hl [3, 2, 1, 0] rfl)

set_option maxHeartbeats 4000000 in
set_option maxRecDepth 100000 in
theorem kc_alike (l : Launch) (D : va_G) (ct : Nat → ClassId) (E : Nat → Nat) (y : Nat → Nat) (r : zRr) (q : zRq) (hJ0 : kJ r) (hEi : kEi E) : cC l yX11_alike (.code yX11_alike cX11_alike 5 (some .int) :: wsL_law0) ({ frames := 7, cells := 0, slots := 0, locals := 320 }) D ct E [.ref (y 195)] (kW ct E y r q) (S := Int32 × zRr) (fun u => some (.int u.1)) (fun u => zI (-2147483648) 2147483647 u.1 ∧ kJ u.2 ∧ zFt r u.2 ∧ True) (fun u => kW ct E y u.2 q) := by
  refine cofQ cX11_alike 5 (some .int) (by decide) rfl (Nat.le_of_ble_eq_true rfl) ?_
  intro p e s m below meth c A a9 Q ha9 hx hb hr hml hts hown hlocks hname hK hA hZ hN hQ
  have hown : s.vm.findClass RX11 = some m.cls := hown
  have hiX11 : ∀ w ∈ wsX110, w ∈ .code yX11_alike cX11_alike 5 (some .int) :: wsL_law0 := fun _ h => ki (zs_wsX110 _ h)
  have hiX2 : ∀ w ∈ wsX20, w ∈ .code yX11_alike cX11_alike 5 (some .int) :: wsL_law0 := fun _ h => ki (zs_wsX20 _ h)
  have lf19 := hts (.fieldLink RX11 19 "BeardPass" "told" "LBeardPass$Land;") (ki (zr1 21 rfl))
  have lf48 := hts (.fieldLink RX11 48 "BeardPass" "frontier" "LBeardPass$Frontier;") (ki (zr2 11 rfl))
  have lf64 := hts (.fieldLink RX11 64 "BeardPass" "now" "LBeardPass$Standing;") (ki (zr2 19 rfl))
  have lf169 := hts (.fieldLink RX11 169 "BeardPass$Land" "towns" "I") (ki (zr31 19 rfl))
  have cut4 : ∀ (n : Nat) (w4_1 : Int32) (w4_2 : Int32) (rw4 : zRr) (hw4_2 : zI 0 6 w4_2) (jw4 : kJ rw4) (fw4 : zFt r rw4), 6 - w4_2.toInt < (n : Int) → zKf p l e ({ frames := 7, cells := 0, slots := 0, locals := 320 }) s m a9 below meth c Q D A 4 5 [] (kW ct E y rw4 q) [(0, .ref (y 195)), (1, .int w4_1), (2, .int w4_2)] := by
    intro n
    induction n with
    | zero => intro w4_1 w4_2 rw4 hw4_2 jw4 fw4 hm4; exact zI.no hw4_2 (by decide) hm4
    | succ n ih4 =>
      intro w4_1 w4_2 rw4 hw4_2 jw4 fw4 hm4
      have cut33 : ∀ (n : Nat) (w33_1 : Int32) (w33_3 : Int32) (w33_4 : Int32) (rw33 : zRr) (hw33_2 : zI 0 5 w4_2) (hw33_4 : zI 1 6 w33_4) (jw33 : kJ rw33) (fw33 : zFt r rw33), 6 - w33_4.toInt < (n : Int) → zKf p l e ({ frames := 7, cells := 0, slots := 0, locals := 320 }) s m a9 below meth c Q D A 33 5 [] (kW ct E y rw33 q) [(0, .ref (y 195)), (1, .int w33_1), (2, .int w4_2), (3, .int w33_3), (4, .int w33_4)] := by
        intro n
        induction n with
        | zero => intro w33_1 w33_3 w33_4 rw33 hw33_2 hw33_4 jw33 fw33 hm33; exact zI.no hw33_4 (by decide) hm33
        | succ n ih33 =>
          intro w33_1 w33_3 w33_4 rw33 hw33_2 hw33_4 jw33 fw33 hm33
          have cut65 : ∀ (w65_1 : Int32) (rw65 : zRr) (hw65_2 : zI 0 5 w4_2) (hw65_4 : zI 1 5 w33_4) (jw65 : kJ rw65) (fw65 : zFt r rw65), zKf p l e ({ frames := 7, cells := 0, slots := 0, locals := 320 }) s m a9 below meth c Q D A 65 5 [] (kW ct E y rw65 q) [(0, .ref (y 195)), (1, .int w65_1), (2, .int w4_2), (3, .int w33_3), (4, .int w33_4)] := by
            intro w65_1 rw65 hw65_2 hw65_4 jw65 fw65 H locs ls hw hS hl
            refine lv_iinc (v := w33_4 + 1) (lv' := [(4, .int (w33_4 + 1)), (0, .ref (y 195)), (1, .int w65_1), (2, .int w4_2), (3, .int w33_3)]) hx hb dX11_alike_65 hl (k := 4) rfl (rfl) (by decide) rfl (fun ls hl => ?_)
            have k1 : zI 2 6 (w33_4 + 1) := zI.add hw65_4 (zI.lit (a := 1) (b := 1) (by decide)) (by decide)
            refine lv_goto (tgt := 33) hx hb dX11_alike_68 (by decide) ?_
            exact ih33 w65_1 w33_3 (w33_4 + 1) rw65 hw65_2 (k1.w (c := 1) (d := 6) (by decide)) jw65 fw65 (zI.up hw65_4 (by decide) hm33) H locs ls hw hS (lv_sub hl [1, 2, 3, 4, 0] rfl)
          intro H locs ls hw hS hl
          refine lv_iload hx hb dX11_alike_33 (lv_at hl 4 rfl) ?_
          refine lv_aload_n hx hb dX11_alike_35 rfl (lv_at hl 0 rfl) ?_
          refine va_get (D := D) (ci := 10) (v := .ref (y 171)) hx hb hts hiX11 hown hK hw.1 195 kg195 rfl 1 (by decide) lf19 (fun _ h9 => h9) rfl dX11_alike_36 ?_
          refine va_get (D := D) (ci := 2) (v := .int (rw33 171 9)) hx hb hts hiX2 hown hK hw.1 171 kg171 rfl 9 (by decide) lf169 (fun _ h9 => h9) rfl dX11_alike_39 (zgen (lo := 0) (hi := 6) ((show zI 0 6 (rw33 171 9) from jw33.i 171 9)) (fun v2 hv2 => ?_))
          refine lv_icmp_ge (tgt := 71) hx hb dX11_alike_42 (by decide) (fun c3 => ?_) (fun c3 => ?_)
          · refine lv_iinc (v := w4_2 + 1) (lv' := [(2, .int (w4_2 + 1)), (0, .ref (y 195)), (1, .int w33_1), (3, .int w33_3), (4, .int w33_4)]) hx hb dX11_alike_71 hl (k := 2) rfl (rfl) (by decide) rfl (fun ls hl => ?_)
            have k4 : zI 1 6 (w4_2 + 1) := zI.add hw33_2 (zI.lit (a := 1) (b := 1) (by decide)) (by decide)
            refine lv_goto (tgt := 4) hx hb dX11_alike_74 (by decide) ?_
            exact ih4 w33_1 (w4_2 + 1) rw33 (k4.w (c := 0) (d := 6) (by decide)) jw33 fw33 (zI.up hw33_2 (by decide) hm4) H locs ls hw hS (lv_sub hl [1, 2, 0] rfl)
          · have k5 : zI 1 5 (w33_4) := zI.ltU (zI.nle c3) hw33_4 hv2 (by decide)
            have k6 : zI 2 6 (v2) := zI.ltD (zI.nle c3) hw33_4 hv2 (by decide)
            refine lv_aload_n hx hb dX11_alike_45 rfl (lv_at hl 0 rfl) ?_
            refine va_get (D := D) (ci := 10) (v := .ref (y 199)) hx hb hts hiX11 hown hK hw.1 195 kg195 rfl 6 (by decide) lf48 (fun _ h9 => h9) rfl dX11_alike_46 ?_
            refine lv_aload_n hx hb dX11_alike_49 rfl (lv_at hl 0 rfl) ?_
            refine va_get (D := D) (ci := 10) (v := .ref (y 6)) hx hb hts hiX11 hown hK hw.1 195 kg195 rfl 8 (by decide) lf64 (fun _ h9 => h9) rfl dX11_alike_50 ?_
            refine lv_iload hx hb dX11_alike_53 (lv_at hl 4 rfl) ?_
            refine kcallV (As := [.ref (y 6), .int w33_4]) (rest := []) ⟨hx, hb, hml, hown, hts⟩ (kc_letThrough l D ct E y w33_4 rw33 q (k5.w (c := 0) (d := 5) (by decide)) jw33 hEi) (wqX11_165_kc_letThrough hts ⟨Nat.le_of_ble_eq_true rfl, Nat.le_of_ble_eq_true rfl⟩) hw hS hA hK hZ hN 0 199 rfl kg199 rfl hl.1 rfl (Nat.le_of_ble_eq_true rfl) dX11_alike_55 58 rfl (fun u7 H locs pu7 hw hS => ?_)
            obtain ⟨v8, r9⟩ := u7
            have hv8 : zI (-2147483648) 2147483647 v8 := pu7.1
            have ju7 : kJ r9 := pu7.2.1
            have fu7 : zFr [182] rw33 r9 := pu7.2.2.1
            have hw : zPD D A (kW ct E y r9 q) H := hw
            refine zfr 58 [.int v8] rfl rfl ?_
            refine lv_iload_n hx hb dX11_alike_58 rfl (lv_at hl 3 rfl) ?_
            refine lv_icmp_ne (tgt := 65) hx hb dX11_alike_59 (by decide) (fun c10 => ?_) (fun c10 => ?_)
            · exact cut65 w33_1 r9 hw33_2 k5 ju7 (fw33.trF fu7 rfl) H locs ls hw hS (lv_sub hl [0, 1, 2, 3, 4] rfl)
            · refine lv_iinc (v := w33_1 + 1) (lv' := [(1, .int (w33_1 + 1)), (0, .ref (y 195)), (2, .int w4_2), (3, .int w33_3), (4, .int w33_4)]) hx hb dX11_alike_62 hl (k := 1) rfl (rfl) (by decide) rfl (fun ls hl => ?_)
              exact cut65 (w33_1 + 1) r9 hw33_2 k5 ju7 (fw33.trF fu7 rfl) H locs ls hw hS (lv_sub hl [1, 0, 2, 3, 4] rfl)
      intro H locs ls hw hS hl
      refine lv_iload_n hx hb dX11_alike_4 rfl (lv_at hl 2 rfl) ?_
      refine lv_aload_n hx hb dX11_alike_5 rfl (lv_at hl 0 rfl) ?_
      refine va_get (D := D) (ci := 10) (v := .ref (y 171)) hx hb hts hiX11 hown hK hw.1 195 kg195 rfl 1 (by decide) lf19 (fun _ h9 => h9) rfl dX11_alike_6 ?_
      refine va_get (D := D) (ci := 2) (v := .int (rw4 171 9)) hx hb hts hiX2 hown hK hw.1 171 kg171 rfl 9 (by decide) lf169 (fun _ h9 => h9) rfl dX11_alike_9 (zgen (lo := 0) (hi := 6) ((show zI 0 6 (rw4 171 9) from jw4.i 171 9)) (fun v11 hv11 => ?_))
      refine lv_icmp_ge (tgt := 77) hx hb dX11_alike_12 (by decide) (fun c12 => ?_) (fun c12 => ?_)
      · refine lv_iload_n hx hb dX11_alike_77 rfl (lv_at hl 1 rfl) ?_
        exact ziretQ hQ hx hb hr rfl hlocks (w4_1, rw4) rfl ⟨(zI.top _), jw4, fw4, trivial⟩ hw hS dX11_alike_78
      · have k13 : zI 0 5 (w4_2) := zI.ltU (zI.nle c12) hw4_2 hv11 (by decide)
        have k14 : zI 1 6 (v11) := zI.ltD (zI.nle c12) hw4_2 hv11 (by decide)
        refine lv_aload_n hx hb dX11_alike_15 rfl (lv_at hl 0 rfl) ?_
        refine va_get (D := D) (ci := 10) (v := .ref (y 199)) hx hb hts hiX11 hown hK hw.1 195 kg195 rfl 6 (by decide) lf48 (fun _ h9 => h9) rfl dX11_alike_16 ?_
        refine lv_aload_n hx hb dX11_alike_19 rfl (lv_at hl 0 rfl) ?_
        refine va_get (D := D) (ci := 10) (v := .ref (y 6)) hx hb hts hiX11 hown hK hw.1 195 kg195 rfl 8 (by decide) lf64 (fun _ h9 => h9) rfl dX11_alike_20 ?_
        refine lv_iload_n hx hb dX11_alike_23 rfl (lv_at hl 2 rfl) ?_
        refine kcallV (As := [.ref (y 6), .int w4_2]) (rest := []) ⟨hx, hb, hml, hown, hts⟩ (kc_letThrough l D ct E y w4_2 rw4 q k13 jw4 hEi) (wqX11_165_kc_letThrough hts ⟨Nat.le_of_ble_eq_true rfl, Nat.le_of_ble_eq_true rfl⟩) hw hS hA hK hZ hN 0 199 rfl kg199 rfl hl.1 rfl (Nat.le_of_ble_eq_true rfl) dX11_alike_24 27 rfl (fun u15 H locs pu15 hw hS => ?_)
        obtain ⟨v16, r17⟩ := u15
        have hv16 : zI (-2147483648) 2147483647 v16 := pu15.1
        have ju15 : kJ r17 := pu15.2.1
        have fu15 : zFr [182] rw4 r17 := pu15.2.2.1
        have hw : zPD D A (kW ct E y r17 q) H := hw
        refine zfr 27 [.int v16] rfl rfl ?_
        refine lv_istore_n (lv' := [(3, .int v16), (0, .ref (y 195)), (1, .int w4_1), (2, .int w4_2)]) hx hb dX11_alike_27 rfl hl (by decide) rfl (fun ls hl => ?_)
        refine lv_iload_n hx hb dX11_alike_28 rfl (lv_at hl 3 rfl) ?_
        refine lv_iconst (v := 1) hx hb dX11_alike_29 (by decide) ?_
        refine lv_iadd hx hb dX11_alike_30 (zgen (lo := 1) (hi := 6) (zI.add k13 (zI.lit (a := 1) (b := 1) (c := 1) (by decide)) (by decide)) (fun v18 hv18 => ?_))
        refine lv_istore (lv' := [(4, .int v18), (3, .int v16), (0, .ref (y 195)), (1, .int w4_1), (2, .int w4_2)]) hx hb dX11_alike_31 hl (by decide) rfl (fun ls hl => ?_)
        exact cut33 6 w4_1 v16 v18 r17 k13 hv18 ju15 (fw4.trF fu15 rfl) (zI.m0 hv18 (by decide)) H locs ls hw hS (lv_sub hl [2, 3, 4, 1, 0] rfl)
  intro H locs hw hS ls hl
  have hl : lv_has ls 5 [(0, .ref (y 195))] := hl
  refine lv_iconst (v := 0) hx hb dX11_alike_0 (by decide) ?_
  refine lv_istore_n (lv' := [(1, .int 0), (0, .ref (y 195))]) hx hb dX11_alike_1 rfl hl (by decide) rfl (fun ls hl => ?_)
  refine lv_iconst (v := 0) hx hb dX11_alike_2 (by decide) ?_
  refine lv_istore_n (lv' := [(2, .int 0), (1, .int 0), (0, .ref (y 195))]) hx hb dX11_alike_3 rfl hl (by decide) rfl (fun ls hl => ?_)
  exact cut4 7 0 0 r ((zI.lit (a := 0) (b := 0) (c := 0) (by decide)).w (c := 0) (d := 6) (by decide)) hJ0 (zFt.refl) (zI.m0 (zI.lit (a := 0) (b := 0) (c := 0) (by decide)) (by decide)) H locs ls hw hS (lv_sub hl [2, 1, 0] rfl)

noncomputable def Gk_see_53 (q : zRq) (w53_s0 : Int32) (rw53 : zRr) : Int32 × zRr :=
  zlet (α := zRr) ((Gk_add6 w53_s0 rw53 q)) <| fun u1 => ((1 : Int32), u1)
noncomputable def Gk_see (a1 : Int32) (a2 : Int32) (r : zRr) (q : zRq) : Int32 × zRr :=
  zlet (α := Int32) ((Gk_isTown a1 r q)) <| fun u3 => zif (u3 = (0 : Int32)) (((0 : Int32), r)) (zlet (α := Int32) (r 162 1) <| fun v8 => zif (v8 < (8 : Int32)) (zlet (α := Int32) (r 6 5) <| fun v11 => zc_vr (Gk_unreadLet a1 v11 r q) <| fun v13 r14 => zif (a2 = (0 : Int32)) (zlet (α := Int32) (v13 ^^^ (-1)) <| fun v17 => Gk_see_53 q v17 r14) (Gk_see_53 q v13 r14)) (((0 : Int32), r)))
set_option maxHeartbeats 4000000 in
set_option maxRecDepth 100000 in
theorem kc_see (l : Launch) (D : va_G) (ct : Nat → ClassId) (E : Nat → Nat) (y : Nat → Nat) (a1 : Int32) (a2 : Int32) (r : zRr) (q : zRq) (g2 : zI 0 1 a2) (hJ0 : kJ r) (hEi : kEi E) : cC l yX11_see (.code yX11_see cX11_see 4 (some .boolean) :: wsL_law0) ({ frames := 4, cells := 0, slots := 0, locals := 200 }) D ct E [.ref (y 195), .int a1, .int a2] (kW ct E y r q) (S := Int32 × zRr) (fun u => some (.int u.1)) (fun u => zI 0 1 u.1 ∧ kJ u.2 ∧ u = (Gk_see a1 a2 r q) ∧ True) (fun u => kW ct E y u.2 q) := by
  refine cofQ cX11_see 4 (some .boolean) (by decide) rfl (Nat.le_of_ble_eq_true rfl) ?_
  intro p e s m below meth c A a9 Q ha9 hx hb hr hml hts hown hlocks hname hK hA hZ hN hQ
  have hown : s.vm.findClass RX11 = some m.cls := hown
  have hiX11 : ∀ w ∈ wsX110, w ∈ .code yX11_see cX11_see 4 (some .boolean) :: wsL_law0 := fun _ h => ki (zs_wsX110 _ h)
  have hiX6 : ∀ w ∈ wsX60, w ∈ .code yX11_see cX11_see 4 (some .boolean) :: wsL_law0 := fun _ h => ki (zs_wsX60 _ h)
  have hiX8 : ∀ w ∈ wsX80, w ∈ .code yX11_see cX11_see 4 (some .boolean) :: wsL_law0 := fun _ h => ki (zs_wsX80 _ h)
  have lf19 := hts (.fieldLink RX11 19 "BeardPass" "told" "LBeardPass$Land;") (ki (zr1 21 rfl))
  have lf64 := hts (.fieldLink RX11 64 "BeardPass" "now" "LBeardPass$Standing;") (ki (zr2 19 rfl))
  have lf74 := hts (.fieldLink RX11 74 "BeardPass" "sightings" "LBeardPass$Sightings;") (ki (zr3 0 rfl))
  have lf181 := hts (.fieldLink RX11 181 "BeardPass$Standing" "weeks" "I") (ki (zr38 22 rfl))
  have lf192 := hts (.fieldLink RX11 192 "BeardPass$Sightings" "many" "I") (ki (zr51 14 rfl))
  obtain ⟨X, hX⟩ : ∃ X, X = (Gk_see a1 a2 r q) := ⟨_, rfl⟩
  have cut53 : ∀ (w53_s0 : Int32) (rw53 : zRr) (jw53 : kJ rw53) (hE : X = Gk_see_53 q w53_s0 rw53), zKf p l e ({ frames := 4, cells := 0, slots := 0, locals := 200 }) s m a9 below meth c Q D A 53 4 [.int w53_s0, .ref (y 162)] (kW ct E y rw53 q) [] := by
    intro w53_s0 rw53 jw53 hE H locs ls hw hS hl
    unfold Gk_see_53 at hE
    refine kcallV (As := [.int w53_s0]) (rest := []) ⟨hx, hb, hml, hown, hts⟩ (kc_add6 l D ct E y w53_s0 rw53 q jw53 hEi) (wqX11_313_kc_add6 hts ⟨Nat.le_of_ble_eq_true rfl, Nat.le_of_ble_eq_true rfl⟩) hw hS hA hK hZ hN 6 162 rfl kg162 rfl hl.1 rfl (Nat.le_of_ble_eq_true rfl) dX11_see_53 56 rfl (fun u1 H locs pu1 hw hS => ?_)
    have ju1 : kJ u1 := pu1.1
    have fu1 : zFr [162] rw53 u1 := pu1.2.1
    have xu1 : u1 = (Gk_add6 w53_s0 rw53 q) := pu1.2.2.1
    have hE := zletE xu1 hE
    have hw : zPD D A (kW ct E y u1 q) H := hw
    refine zfr 56 [] rfl rfl ?_
    refine lv_iconst (v := 1) hx hb dX11_see_56 (by decide) ?_
    exact ziretQ hQ hx hb hr rfl hlocks ((1 : Int32), u1) rfl ⟨((zI.lit (a := 1) (b := 1) (c := 1) (by decide)).w (c := 0) (d := 1) (by decide)), ju1, (hE.symm.trans hX), trivial⟩ hw hS dX11_see_57
  intro H locs hw hS ls hl
  have hl : lv_has ls 4 [(0, .ref (y 195)), (1, .int a1), (2, .int a2)] := hl
  have hE := hX
  unfold Gk_see at hE
  refine lv_aload_n hx hb dX11_see_0 rfl (lv_at hl 0 rfl) ?_
  refine lv_iload_n hx hb dX11_see_1 rfl (lv_at hl 1 rfl) ?_
  refine kcallV (As := [.int a1]) (rest := []) ⟨hx, hb, hml, hown, hts⟩ (kc_isTown l D ct E y a1 r q hJ0 hEi) (wqX11_156_kc_isTown hts ⟨Nat.le_of_ble_eq_true rfl, Nat.le_of_ble_eq_true rfl⟩) hw hS hA hK hZ hN 10 195 rfl kg195 rfl hl.1 rfl (Nat.le_of_ble_eq_true rfl) dX11_see_2 5 rfl (fun u3 H locs pu3 hw hS => ?_)
  have hu3 : zI 0 1 u3 := pu3.1
  have yu3_0 : (¬ u3 = 0 → zI 0 5 a1) := pu3.2.1
  have xu3 : u3 = (Gk_isTown a1 r q) := pu3.2.2.1
  have hE := zletE xu3 hE
  have hw : zPD D A (kW ct E y r q) H := hw
  refine zfr 5 [.int u3] rfl rfl ?_
  refine lv_if_eq (tgt := 20) hx hb dX11_see_5 (by decide) (fun c5 => ?_) (fun c5 => ?_)
  · have hE := zifT c5 hE
    have k6 : zI 0 0 (u3) := zI.eqq c5 (zI.lit (a := 0) (b := 0) (c := 0) (by decide))
    refine lv_iconst (v := 0) hx hb dX11_see_20 (by decide) ?_
    exact ziretQ hQ hx hb hr rfl hlocks ((0 : Int32), r) rfl ⟨((zI.lit (a := 0) (b := 0) (c := 0) (by decide)).w (c := 0) (d := 1) (by decide)), hJ0, (hE.symm.trans hX), trivial⟩ hw hS dX11_see_21
  · have hE := zifF c5 hE
    have k7 : zI 1 1 (u3) := zI.neD c5 hu3 (zI.lit (a := 0) (b := 0) (c := 0) (by decide)) (by decide)
    refine lv_aload_n hx hb dX11_see_8 rfl (lv_at hl 0 rfl) ?_
    refine va_get (D := D) (ci := 10) (v := .ref (y 162)) hx hb hts hiX11 hown hK hw.1 195 kg195 rfl 10 (by decide) lf74 (fun _ h9 => h9) rfl dX11_see_9 ?_
    refine va_get (D := D) (ci := 6) (v := .int (r 162 1)) hx hb hts hiX6 hown hK hw.1 162 kg162 rfl 1 (by decide) lf192 (fun _ h9 => h9) rfl dX11_see_12 (zgenE (zI.top _) (fun v8 ev8 _ => ?_))
    have hE := zletE ev8 hE
    refine lv_bipush (v := 8) hx hb dX11_see_15 (by decide) ?_
    refine lv_icmp_lt (tgt := 22) hx hb dX11_see_17 (by decide) (fun c9 => ?_) (fun c9 => ?_)
    · have hE := zifT c9 hE
      have k10 : zI (-2147483648) 7 (v8) := zI.ltU c9 (zI.top _) (zI.lit (a := 8) (b := 8) (c := 8) (by decide)) (by decide)
      refine lv_aload_n hx hb dX11_see_22 rfl (lv_at hl 0 rfl) ?_
      refine va_get (D := D) (ci := 10) (v := .ref (y 171)) hx hb hts hiX11 hown hK hw.1 195 kg195 rfl 1 (by decide) lf19 (fun _ h9 => h9) rfl dX11_see_23 ?_
      refine lv_iload_n hx hb dX11_see_26 rfl (lv_at hl 1 rfl) ?_
      refine lv_aload_n hx hb dX11_see_27 rfl (lv_at hl 0 rfl) ?_
      refine va_get (D := D) (ci := 10) (v := .ref (y 6)) hx hb hts hiX11 hown hK hw.1 195 kg195 rfl 8 (by decide) lf64 (fun _ h9 => h9) rfl dX11_see_28 ?_
      refine va_get (D := D) (ci := 7) (v := .int (r 6 5)) hx hb hts hiX8 hown hK hw.1 6 kg6 rfl 5 (by decide) lf181 (fun _ h9 => h9) rfl dX11_see_31 (zgenE (zI.top _) (fun v11 ev11 _ => ?_))
      have hE := zletE ev11 hE
      refine kcallV (As := [.int a1, .int v11]) (rest := []) ⟨hx, hb, hml, hown, hts⟩ (kc_unreadLet l D ct E y a1 v11 r q (yu3_0 c5) hJ0 hEi) (wqX11_310_kc_unreadLet hts ⟨Nat.le_of_ble_eq_true rfl, Nat.le_of_ble_eq_true rfl⟩) hw hS hA hK hZ hN 2 171 rfl kg171 rfl hl.1 rfl (Nat.le_of_ble_eq_true rfl) dX11_see_34 37 rfl (fun u12 H locs pu12 hw hS => ?_)
      obtain ⟨v13, r14⟩ := u12
      have hv13 : zI (-2147483648) 2147483647 v13 := pu12.1
      have ju12 : kJ r14 := pu12.2.1
      have fu12 : zFr [182] r r14 := pu12.2.2.1
      have xu12 : (v13, r14) = (Gk_unreadLet a1 v11 r q) := pu12.2.2.2.1
      have hE := zc_vrE xu12 hE
      have hw : zPD D A (kW ct E y r14 q) H := hw
      refine zfr 37 [.int v13] rfl rfl ?_
      refine lv_istore_n (lv' := [(3, .int v13), (0, .ref (y 195)), (1, .int a1), (2, .int a2)]) hx hb dX11_see_37 rfl hl (by decide) rfl (fun ls hl => ?_)
      refine lv_aload_n hx hb dX11_see_38 rfl (lv_at hl 1 rfl) ?_
      refine va_get (D := D) (ci := 10) (v := .ref (y 162)) hx hb hts hiX11 hown hK hw.1 195 kg195 rfl 10 (by decide) lf74 (fun _ h9 => h9) rfl dX11_see_39 ?_
      refine lv_iload_n hx hb dX11_see_42 rfl (lv_at hl 3 rfl) ?_
      refine lv_if_eq (tgt := 50) hx hb dX11_see_43 (by decide) (fun c15 => ?_) (fun c15 => ?_)
      · have hE := zifT c15 hE
        have k16 : zI 0 0 (a2) := zI.eqq c15 (zI.lit (a := 0) (b := 0) (c := 0) (by decide))
        refine lv_iload_n hx hb dX11_see_50 rfl (lv_at hl 0 rfl) ?_
        refine lv_iconst (v := (-1)) hx hb dX11_see_51 (by decide) ?_
        refine lv_ixor hx hb dX11_see_52 (zgenE (zI.top _) (fun v17 ev17 _ => ?_))
        have hE := zletE ev17 hE
        exact cut53 v17 r14 ju12 hE H locs ls hw hS (lv_sub hl [] rfl)
      · have hE := zifF c15 hE
        have k18 : zI 1 1 (a2) := zI.neD c15 g2 (zI.lit (a := 0) (b := 0) (c := 0) (by decide)) (by decide)
        refine lv_iload_n hx hb dX11_see_46 rfl (lv_at hl 0 rfl) ?_
        refine lv_goto (tgt := 53) hx hb dX11_see_47 (by decide) ?_
        exact cut53 v13 r14 ju12 hE H locs ls hw hS (lv_sub hl [] rfl)
    · have hE := zifF c9 hE
      have k19 : zI 8 2147483647 (v8) := zI.leD (zI.nlt c9) (zI.lit (a := 8) (b := 8) (c := 8) (by decide)) (zI.top _) (by decide)
      refine lv_iconst (v := 0) hx hb dX11_see_20 (by decide) ?_
      exact ziretQ hQ hx hb hr rfl hlocks ((0 : Int32), r) rfl ⟨((zI.lit (a := 0) (b := 0) (c := 0) (by decide)).w (c := 0) (d := 1) (by decide)), hJ0, (hE.symm.trans hX), trivial⟩ hw hS dX11_see_21

set_option maxHeartbeats 4000000 in
set_option maxRecDepth 100000 in
theorem kc_lengths (l : Launch) (D : va_G) (ct : Nat → ClassId) (E : Nat → Nat) (y : Nat → Nat) (a1 : Int32) (r : zRr) (q : zRq) (hJ0 : kJ r) (hEi : kEi E) : cC l yX11_lengths (.code yX11_lengths cX11_lengths 3 (some .int) :: wsL_law0) ({ frames := 2, cells := 0, slots := 0, locals := 120 }) D ct E [.ref (y 195), .int a1] (kW ct E y r q) (S := Int32) (fun u => some (.int u)) (fun u => zI (-2147483648) 2147483647 u ∧ True) (fun u => kW ct E y r q) := by
  refine cofQ cX11_lengths 3 (some .int) (by decide) rfl (Nat.le_of_ble_eq_true rfl) ?_
  intro p e s m below meth c A a9 Q ha9 hx hb hr hml hts hown hlocks hname hK hA hZ hN hQ
  have hown : s.vm.findClass RX11 = some m.cls := hown
  have hiX11 : ∀ w ∈ wsX110, w ∈ .code yX11_lengths cX11_lengths 3 (some .int) :: wsL_law0 := fun _ h => ki (zs_wsX110 _ h)
  have hiX6 : ∀ w ∈ wsX60, w ∈ .code yX11_lengths cX11_lengths 3 (some .int) :: wsL_law0 := fun _ h => ki (zs_wsX60 _ h)
  have lf74 := hts (.fieldLink RX11 74 "BeardPass" "sightings" "LBeardPass$Sightings;") (ki (zr3 0 rfl))
  have lf316 := hts (.fieldLink RX11 316 "BeardPass$Sightings" "possible" "I") (ki (zr52 8 rfl))
  intro H locs hw hS ls hl
  have hl : lv_has ls 3 [(0, .ref (y 195)), (1, .int a1)] := hl
  refine lv_aload_n hx hb dX11_lengths_0 rfl (lv_at hl 0 rfl) ?_
  refine va_get (D := D) (ci := 10) (v := .ref (y 162)) hx hb hts hiX11 hown hK hw.1 195 kg195 rfl 10 (by decide) lf74 (fun _ h9 => h9) rfl dX11_lengths_1 ?_
  refine va_get (D := D) (ci := 6) (v := .int (r 162 0)) hx hb hts hiX6 hown hK hw.1 162 kg162 rfl 0 (by decide) lf316 (fun _ h9 => h9) rfl dX11_lengths_4 (zgen (zI.top _) (fun v1 _ => ?_))
  refine lv_istore_n (lv' := [(2, .int v1), (0, .ref (y 195)), (1, .int a1)]) hx hb dX11_lengths_7 rfl hl (by decide) rfl (fun ls hl => ?_)
  refine lv_iload_n hx hb dX11_lengths_8 rfl (lv_at hl 2 rfl) ?_
  by_cases c2 : a1.toInt < 0 ∨ 2 < a1.toInt
  · refine lv_tableOut (tgt := 70) hx hb dX11_lengths_9 c2 (by decide) ?_
    refine lv_iconst (v := (-1)) hx hb dX11_lengths_70 (by decide) ?_
    exact ziretQ hQ hx hb hr rfl hlocks ((-1) : Int32) rfl ⟨(zI.top _), trivial⟩ hw hS dX11_lengths_71
  · obtain ⟨j3, hj4, hxj5⟩ := ksw (lo := 0) (hi := 2) (k := 3) (by decide) c2
    rcases (show j3 = 0 ∨ j3 = 1 ∨ j3 = 2 by omega) with rfl | rfl | rfl
    · refine lv_tableIn (off := 27) (tgt := 36) hx hb dX11_lengths_9 (by rw [hxj5]; decide) (by rw [hxj5]; decide) (by rw [hxj5]; rfl) (by decide) ?_
      refine lv_iload_n hx hb dX11_lengths_36 rfl (lv_at hl 0 rfl) ?_
      refine scallE (As := [.int v1]) (rest := []) ⟨hx, hb, hml, hown, hts⟩ (kc_bitCount l D ct v1) (va_cwS 1 hts (kgS (zr50 12 rfl) (zr50 13 rfl) (zr50 14 rfl) (zr50 15 rfl)) rfl rfl rfl (by decide +kernel) ⟨Nat.le_of_ble_eq_true rfl, Nat.le_of_ble_eq_true rfl⟩) hw hS hA hK hN kWn rfl hl.1 rfl (Nat.le_of_ble_eq_true rfl) dX11_lengths_37 40 rfl (fun u6 H locs pu6 hw hS => ?_)
      have hu6 : zI (-2147483648) 2147483647 u6 := pu6.1
      refine zfr 40 [.int u6] rfl rfl ?_
      exact ziretQ hQ hx hb hr rfl hlocks u6 rfl ⟨(zI.top _), trivial⟩ hw hS dX11_lengths_40
    · refine lv_tableIn (off := 32) (tgt := 41) hx hb dX11_lengths_9 (by rw [hxj5]; decide) (by rw [hxj5]; decide) (by rw [hxj5]; rfl) (by decide) ?_
      refine lv_iload_n hx hb dX11_lengths_41 rfl (lv_at hl 0 rfl) ?_
      refine lv_if_ne (tgt := 49) hx hb dX11_lengths_42 (by decide) (fun c8 => ?_) (fun c8 => ?_)
      · refine lv_iload_n hx hb dX11_lengths_49 rfl (lv_at hl 0 rfl) ?_
        refine scallE (As := [.int v1]) (rest := []) ⟨hx, hb, hml, hown, hts⟩ (kc_ntz l D ct v1) (va_cwS 1 hts (kgS (zr52 9 rfl) (zr52 10 rfl) (zr50 14 rfl) (zr52 11 rfl)) rfl rfl rfl (by decide +kernel) ⟨Nat.le_of_ble_eq_true rfl, Nat.le_of_ble_eq_true rfl⟩) hw hS hA hK hN kWn rfl hl.1 rfl (Nat.le_of_ble_eq_true rfl) dX11_lengths_50 53 rfl (fun u9 H locs pu9 hw hS => ?_)
        have hu9 : zI (-2147483648) 2147483647 u9 := pu9.1
        refine zfr 53 [.int u9] rfl rfl ?_
        exact ziretQ hQ hx hb hr rfl hlocks u9 rfl ⟨(zI.top _), trivial⟩ hw hS dX11_lengths_53
      · have k11 : zI 0 0 (v1) := zI.eqq c8 (zI.lit (a := 0) (b := 0) (c := 0) (by decide))
        refine lv_iconst (v := (-1)) hx hb dX11_lengths_45 (by decide) ?_
        refine lv_goto (tgt := 53) hx hb dX11_lengths_46 (by decide) ?_
        exact ziretQ hQ hx hb hr rfl hlocks ((-1) : Int32) rfl ⟨(zI.top _), trivial⟩ hw hS dX11_lengths_53
    · refine lv_tableIn (off := 45) (tgt := 54) hx hb dX11_lengths_9 (by rw [hxj5]; decide) (by rw [hxj5]; decide) (by rw [hxj5]; rfl) (by decide) ?_
      refine lv_iload_n hx hb dX11_lengths_54 rfl (lv_at hl 0 rfl) ?_
      refine lv_if_ne (tgt := 62) hx hb dX11_lengths_55 (by decide) (fun c12 => ?_) (fun c12 => ?_)
      · refine lv_bipush (v := 31) hx hb dX11_lengths_62 (by decide) ?_
        refine lv_iload_n hx hb dX11_lengths_64 rfl (lv_at hl 0 rfl) ?_
        refine scallE (As := [.int v1]) (rest := [.int 31]) ⟨hx, hb, hml, hown, hts⟩ (kc_nlz l D ct v1) (va_cwS 1 hts (kgS (zr52 13 rfl) (zr52 14 rfl) (zr50 14 rfl) (zr52 15 rfl)) rfl rfl rfl (by decide +kernel) ⟨Nat.le_of_ble_eq_true rfl, Nat.le_of_ble_eq_true rfl⟩) hw hS hA hK hN kWn rfl hl.1 rfl (Nat.le_of_ble_eq_true rfl) dX11_lengths_65 68 rfl (fun u13 H locs pu13 hw hS => ?_)
        have hu13 : zI (-2147483648) 2147483647 u13 := pu13.1
        refine zfr 68 [.int u13, .int 31] rfl rfl ?_
        refine lv_isub hx hb dX11_lengths_68 (zgen (zI.top _) (fun v15 _ => ?_))
        exact ziretQ hQ hx hb hr rfl hlocks v15 rfl ⟨(zI.top _), trivial⟩ hw hS dX11_lengths_69
      · have k16 : zI 0 0 (v1) := zI.eqq c12 (zI.lit (a := 0) (b := 0) (c := 0) (by decide))
        refine lv_iconst (v := (-1)) hx hb dX11_lengths_58 (by decide) ?_
        refine lv_goto (tgt := 69) hx hb dX11_lengths_59 (by decide) ?_
        exact ziretQ hQ hx hb hr rfl hlocks ((-1) : Int32) rfl ⟨(zI.top _), trivial⟩ hw hS dX11_lengths_69

set_option maxHeartbeats 4000000 in
set_option maxRecDepth 100000 in
theorem kc_ask (l : Launch) (D : va_G) (ct : Nat → ClassId) (E : Nat → Nat) (y : Nat → Nat) (r : zRr) (q : zRq) (hJ0 : kJ r) (hEi : kEi E) : cC l yX11_ask (.code yX11_ask cX11_ask 8 (some .int) :: wsL_law0) ({ frames := 4, cells := 0, slots := 0, locals := 200 }) D ct E [.ref (y 195)] (kW ct E y r q) (S := Int32 × zRr) (fun u => some (.int u.1)) (fun u => zI (-2147483648) 2147483647 u.1 ∧ kJ u.2 ∧ zFt r u.2 ∧ True) (fun u => kW ct E y u.2 q) := by
  refine cofQ cX11_ask 8 (some .int) (by decide) rfl (Nat.le_of_ble_eq_true rfl) ?_
  intro p e s m below meth c A a9 Q ha9 hx hb hr hml hts hown hlocks hname hK hA hZ hN hQ
  have hown : s.vm.findClass RX11 = some m.cls := hown
  have hiX11 : ∀ w ∈ wsX110, w ∈ .code yX11_ask cX11_ask 8 (some .int) :: wsL_law0 := fun _ h => ki (zs_wsX110 _ h)
  have hiX2 : ∀ w ∈ wsX20, w ∈ .code yX11_ask cX11_ask 8 (some .int) :: wsL_law0 := fun _ h => ki (zs_wsX20 _ h)
  have hiX6 : ∀ w ∈ wsX60, w ∈ .code yX11_ask cX11_ask 8 (some .int) :: wsL_law0 := fun _ h => ki (zs_wsX60 _ h)
  have hiX8 : ∀ w ∈ wsX80, w ∈ .code yX11_ask cX11_ask 8 (some .int) :: wsL_law0 := fun _ h => ki (zs_wsX80 _ h)
  have lf19 := hts (.fieldLink RX11 19 "BeardPass" "told" "LBeardPass$Land;") (ki (zr1 21 rfl))
  have lf64 := hts (.fieldLink RX11 64 "BeardPass" "now" "LBeardPass$Standing;") (ki (zr2 19 rfl))
  have lf74 := hts (.fieldLink RX11 74 "BeardPass" "sightings" "LBeardPass$Sightings;") (ki (zr3 0 rfl))
  have lf169 := hts (.fieldLink RX11 169 "BeardPass$Land" "towns" "I") (ki (zr31 19 rfl))
  have lf181 := hts (.fieldLink RX11 181 "BeardPass$Standing" "weeks" "I") (ki (zr38 22 rfl))
  have lf316 := hts (.fieldLink RX11 316 "BeardPass$Sightings" "possible" "I") (ki (zr52 8 rfl))
  have cut21 : ∀ (n : Nat) (w21_1 : Int32) (w21_2 : Int32) (w21_3 : Int32) (w21_4 : Int32) (w21_5 : Int32) (rw21 : zRr) (hw21_3 : zI (-1) 5 w21_3) (hw21_5 : zI 0 6 w21_5) (jw21 : kJ rw21) (fw21 : zFt r rw21), 6 - w21_5.toInt < (n : Int) → zKf p l e ({ frames := 4, cells := 0, slots := 0, locals := 200 }) s m a9 below meth c Q D A 21 8 [] (kW ct E y rw21 q) [(0, .ref (y 195)), (1, .int w21_1), (2, .int w21_2), (3, .int w21_3), (4, .int w21_4), (5, .int w21_5)] := by
    intro n
    induction n with
    | zero => intro w21_1 w21_2 w21_3 w21_4 w21_5 rw21 hw21_3 hw21_5 jw21 fw21 hm21; exact zI.no hw21_5 (by decide) hm21
    | succ n ih21 =>
      intro w21_1 w21_2 w21_3 w21_4 w21_5 rw21 hw21_3 hw21_5 jw21 fw21 hm21
      have cut81 : ∀ (w81_3 : Int32) (w81_4 : Int32) (rw81 : zRr) (hw81_3 : zI (-1) 5 w81_3) (hw81_5 : zI 0 5 w21_5) (jw81 : kJ rw81) (fw81 : zFt r rw81), zKf p l e ({ frames := 4, cells := 0, slots := 0, locals := 200 }) s m a9 below meth c Q D A 81 8 [] (kW ct E y rw81 q) [(0, .ref (y 195)), (1, .int w21_1), (2, .int w21_2), (3, .int w81_3), (4, .int w81_4), (5, .int w21_5)] := by
        intro w81_3 w81_4 rw81 hw81_3 hw81_5 jw81 fw81 H locs ls hw hS hl
        refine lv_iinc (v := w21_5 + 1) (lv' := [(5, .int (w21_5 + 1)), (0, .ref (y 195)), (1, .int w21_1), (2, .int w21_2), (3, .int w81_3), (4, .int w81_4)]) hx hb dX11_ask_81 hl (k := 5) rfl (rfl) (by decide) rfl (fun ls hl => ?_)
        have k1 : zI 1 6 (w21_5 + 1) := zI.add hw81_5 (zI.lit (a := 1) (b := 1) (by decide)) (by decide)
        refine lv_goto (tgt := 21) hx hb dX11_ask_84 (by decide) ?_
        exact ih21 w21_1 w21_2 w81_3 w81_4 (w21_5 + 1) rw81 hw81_3 (k1.w (c := 0) (d := 6) (by decide)) jw81 fw81 (zI.up hw81_5 (by decide) hm21) H locs ls hw hS (lv_sub hl [1, 2, 3, 4, 5, 0] rfl)
      intro H locs ls hw hS hl
      refine lv_iload hx hb dX11_ask_21 (lv_at hl 5 rfl) ?_
      refine lv_aload_n hx hb dX11_ask_23 rfl (lv_at hl 0 rfl) ?_
      refine va_get (D := D) (ci := 10) (v := .ref (y 171)) hx hb hts hiX11 hown hK hw.1 195 kg195 rfl 1 (by decide) lf19 (fun _ h9 => h9) rfl dX11_ask_24 ?_
      refine va_get (D := D) (ci := 2) (v := .int (rw21 171 9)) hx hb hts hiX2 hown hK hw.1 171 kg171 rfl 9 (by decide) lf169 (fun _ h9 => h9) rfl dX11_ask_27 (zgen (lo := 0) (hi := 6) ((show zI 0 6 (rw21 171 9) from jw21.i 171 9)) (fun v2 hv2 => ?_))
      refine lv_icmp_ge (tgt := 87) hx hb dX11_ask_30 (by decide) (fun c3 => ?_) (fun c3 => ?_)
      · refine lv_iload_n hx hb dX11_ask_87 rfl (lv_at hl 3 rfl) ?_
        exact ziretQ hQ hx hb hr rfl hlocks (w21_3, rw21) rfl ⟨(zI.top _), jw21, fw21, trivial⟩ hw hS dX11_ask_88
      · have k4 : zI 0 5 (w21_5) := zI.ltU (zI.nle c3) hw21_5 hv2 (by decide)
        have k5 : zI 1 6 (v2) := zI.ltD (zI.nle c3) hw21_5 hv2 (by decide)
        refine lv_iload_n hx hb dX11_ask_33 rfl (lv_at hl 1 rfl) ?_
        refine lv_aload_n hx hb dX11_ask_34 rfl (lv_at hl 0 rfl) ?_
        refine va_get (D := D) (ci := 10) (v := .ref (y 171)) hx hb hts hiX11 hown hK hw.1 195 kg195 rfl 1 (by decide) lf19 (fun _ h9 => h9) rfl dX11_ask_35 ?_
        refine lv_iload hx hb dX11_ask_38 (lv_at hl 5 rfl) ?_
        refine lv_aload_n hx hb dX11_ask_40 rfl (lv_at hl 0 rfl) ?_
        refine va_get (D := D) (ci := 10) (v := .ref (y 6)) hx hb hts hiX11 hown hK hw.1 195 kg195 rfl 8 (by decide) lf64 (fun _ h9 => h9) rfl dX11_ask_41 ?_
        refine va_get (D := D) (ci := 7) (v := .int (rw21 6 5)) hx hb hts hiX8 hown hK hw.1 6 kg6 rfl 5 (by decide) lf181 (fun _ h9 => h9) rfl dX11_ask_44 (zgen (zI.top _) (fun v6 _ => ?_))
        refine kcallV (As := [.int w21_5, .int v6]) (rest := [.int w21_1]) ⟨hx, hb, hml, hown, hts⟩ (kc_unreadLet l D ct E y w21_5 v6 rw21 q k4 jw21 hEi) (wqX11_310_kc_unreadLet hts ⟨Nat.le_of_ble_eq_true rfl, Nat.le_of_ble_eq_true rfl⟩) hw hS hA hK hZ hN 2 171 rfl kg171 rfl hl.1 rfl (Nat.le_of_ble_eq_true rfl) dX11_ask_47 50 rfl (fun u7 H locs pu7 hw hS => ?_)
        obtain ⟨v8, r9⟩ := u7
        have hv8 : zI (-2147483648) 2147483647 v8 := pu7.1
        have ju7 : kJ r9 := pu7.2.1
        have fu7 : zFr [182] rw21 r9 := pu7.2.2.1
        have xu7 : (v8, r9) = (Gk_unreadLet w21_5 v6 rw21 q) := pu7.2.2.2.1
        have hw : zPD D A (kW ct E y r9 q) H := hw
        refine zfr 50 [.int v8, .int w21_1] rfl rfl ?_
        refine lv_iand hx hb dX11_ask_50 (zgen (zI.top _) (fun v10 _ => ?_))
        refine scallE (As := [.int v10]) (rest := []) ⟨hx, hb, hml, hown, hts⟩ (kc_bitCount l D ct v10) (va_cwS 1 hts (kgS (zr50 12 rfl) (zr50 13 rfl) (zr50 14 rfl) (zr50 15 rfl)) rfl rfl rfl (by decide +kernel) ⟨Nat.le_of_ble_eq_true rfl, Nat.le_of_ble_eq_true rfl⟩) hw hS hA hK hN kWn rfl hl.1 rfl (Nat.le_of_ble_eq_true rfl) dX11_ask_51 54 rfl (fun u11 H locs pu11 hw hS => ?_)
        have hu11 : zI (-2147483648) 2147483647 u11 := pu11.1
        refine zfr 54 [.int u11] rfl rfl ?_
        refine lv_istore (lv' := [(6, .int u11), (0, .ref (y 195)), (1, .int w21_1), (2, .int w21_2), (3, .int w21_3), (4, .int w21_4), (5, .int w21_5)]) hx hb dX11_ask_54 hl (by decide) rfl (fun ls hl => ?_)
        refine lv_iload hx hb dX11_ask_56 (lv_at hl 0 rfl) ?_
        refine lv_iload_n hx hb dX11_ask_58 rfl (lv_at hl 3 rfl) ?_
        refine lv_iload hx hb dX11_ask_59 (lv_at hl 0 rfl) ?_
        refine lv_isub hx hb dX11_ask_61 (zgen (zI.top _) (fun v13 _ => ?_))
        refine va_mmax hx hb (hml.trans hl.1.symm) hown (hts (.methodLink RX11 284 Lib.Math.max.name) (ki (zr48 5 rfl))) (hts (.static Lib.Math.max.name) (ki (zr40 8 rfl))) (hts (.initialized "java/lang/Math") (ki (zr35 18 rfl))) (hts (.code Lib.Math.max.name Lib.Math.max.code 2 (some .int)) (ki (zr40 9 rfl))) (Nat.le_of_ble_eq_true rfl) (Nat.le_of_ble_eq_true rfl) (Nat.le_of_ble_eq_true rfl) (Nat.le_of_ble_eq_true rfl) dX11_ask_62 (zgen (zI.top _) (fun v14 _ => ?_))
        refine lv_istore (lv' := [(7, .int v14), (6, .int u11), (0, .ref (y 195)), (1, .int w21_1), (2, .int w21_2), (3, .int w21_3), (4, .int w21_4), (5, .int w21_5)]) hx hb dX11_ask_65 hl (by decide) rfl (fun ls hl => ?_)
        refine lv_iload hx hb dX11_ask_67 (lv_at hl 0 rfl) ?_
        refine lv_iload hx hb dX11_ask_69 (lv_at hl 6 rfl) ?_
        refine lv_icmp_ge (tgt := 81) hx hb dX11_ask_71 (by decide) (fun c15 => ?_) (fun c15 => ?_)
        · exact cut81 w21_3 w21_4 r9 hw21_3 k4 ju7 (fw21.trF fu7 rfl) H locs ls hw hS (lv_sub hl [2, 3, 4, 5, 6, 7] rfl)
        · refine lv_iload hx hb dX11_ask_74 (lv_at hl 0 rfl) ?_
          refine lv_istore (lv' := [(4, .int v14), (7, .int v14), (6, .int u11), (0, .ref (y 195)), (1, .int w21_1), (2, .int w21_2), (3, .int w21_3), (5, .int w21_5)]) hx hb dX11_ask_76 hl (by decide) rfl (fun ls hl => ?_)
          refine lv_iload hx hb dX11_ask_78 (lv_at hl 7 rfl) ?_
          refine lv_istore_n (lv' := [(3, .int w21_5), (4, .int v14), (7, .int v14), (6, .int u11), (0, .ref (y 195)), (1, .int w21_1), (2, .int w21_2), (5, .int w21_5)]) hx hb dX11_ask_80 rfl hl (by decide) rfl (fun ls hl => ?_)
          exact cut81 w21_5 v14 r9 (k4.w (c := (-1)) (d := 5) (by decide)) k4 ju7 (fw21.trF fu7 rfl) H locs ls hw hS (lv_sub hl [4, 5, 6, 0, 1, 7] rfl)
  intro H locs hw hS ls hl
  have hl : lv_has ls 8 [(0, .ref (y 195))] := hl
  refine lv_aload_n hx hb dX11_ask_0 rfl (lv_at hl 0 rfl) ?_
  refine va_get (D := D) (ci := 10) (v := .ref (y 162)) hx hb hts hiX11 hown hK hw.1 195 kg195 rfl 10 (by decide) lf74 (fun _ h9 => h9) rfl dX11_ask_1 ?_
  refine va_get (D := D) (ci := 6) (v := .int (r 162 0)) hx hb hts hiX6 hown hK hw.1 162 kg162 rfl 0 (by decide) lf316 (fun _ h9 => h9) rfl dX11_ask_4 (zgen (zI.top _) (fun v16 _ => ?_))
  refine lv_istore_n (lv' := [(1, .int v16), (0, .ref (y 195))]) hx hb dX11_ask_7 rfl hl (by decide) rfl (fun ls hl => ?_)
  refine lv_iload_n hx hb dX11_ask_8 rfl (lv_at hl 0 rfl) ?_
  refine scallE (As := [.int v16]) (rest := []) ⟨hx, hb, hml, hown, hts⟩ (kc_bitCount l D ct v16) (va_cwS 1 hts (kgS (zr50 12 rfl) (zr50 13 rfl) (zr50 14 rfl) (zr50 15 rfl)) rfl rfl rfl (by decide +kernel) ⟨Nat.le_of_ble_eq_true rfl, Nat.le_of_ble_eq_true rfl⟩) hw hS hA hK hN kWn rfl hl.1 rfl (Nat.le_of_ble_eq_true rfl) dX11_ask_9 12 rfl (fun u17 H locs pu17 hw hS => ?_)
  have hu17 : zI (-2147483648) 2147483647 u17 := pu17.1
  refine zfr 12 [.int u17] rfl rfl ?_
  refine lv_istore_n (lv' := [(2, .int u17), (1, .int v16), (0, .ref (y 195))]) hx hb dX11_ask_12 rfl hl (by decide) rfl (fun ls hl => ?_)
  refine lv_iconst (v := (-1)) hx hb dX11_ask_13 (by decide) ?_
  refine lv_istore_n (lv' := [(3, .int (-1)), (2, .int u17), (1, .int v16), (0, .ref (y 195))]) hx hb dX11_ask_14 rfl hl (by decide) rfl (fun ls hl => ?_)
  refine lv_iload_n hx hb dX11_ask_15 rfl (lv_at hl 1 rfl) ?_
  refine lv_istore (lv' := [(4, .int u17), (3, .int (-1)), (2, .int u17), (1, .int v16), (0, .ref (y 195))]) hx hb dX11_ask_16 hl (by decide) rfl (fun ls hl => ?_)
  refine lv_iconst (v := 0) hx hb dX11_ask_18 (by decide) ?_
  refine lv_istore (lv' := [(5, .int 0), (4, .int u17), (3, .int (-1)), (2, .int u17), (1, .int v16), (0, .ref (y 195))]) hx hb dX11_ask_19 hl (by decide) rfl (fun ls hl => ?_)
  exact cut21 7 v16 u17 (-1) u17 0 r ((zI.lit (a := (-1)) (b := (-1)) (c := (-1)) (by decide)).w (c := (-1)) (d := 5) (by decide)) ((zI.lit (a := 0) (b := 0) (c := 0) (by decide)).w (c := 0) (d := 6) (by decide)) hJ0 (zFt.refl) (zI.m0 (zI.lit (a := 0) (b := 0) (c := 0) (by decide)) (by decide)) H locs ls hw hS (lv_sub hl [5, 4, 3, 2, 1, 0] rfl)

set_option maxHeartbeats 4000000 in
set_option maxRecDepth 100000 in
theorem kc_years (l : Launch) (D : va_G) (ct : Nat → ClassId) (E : Nat → Nat) (y : Nat → Nat) (a1 : Int32) (a2 : Int32) (a3 : Int32) (r : zRr) (q : zRq) (hJ0 : kJ r) (hEi : kEi E) : cC l yX11_years (.code yX11_years cX11_years 11 (some .int) :: wsL_law0) ({ frames := 7, cells := 0, slots := 0, locals := 320 }) D ct E [.ref (y 195), .int a1, .int a2, .int a3] (kW ct E y r q) (S := Int32 × zRr) (fun u => some (.int u.1)) (fun u => zI (-2147483648) 2147483647 u.1 ∧ kJ u.2 ∧ zFt r u.2 ∧ True) (fun u => kW ct E y u.2 q) := by
  refine cofQ cX11_years 11 (some .int) (by decide) rfl (Nat.le_of_ble_eq_true rfl) ?_
  intro p e s m below meth c A a9 Q ha9 hx hb hr hml hts hown hlocks hname hK hA hZ hN hQ
  have hown : s.vm.findClass RX11 = some m.cls := hown
  have hiX11 : ∀ w ∈ wsX110, w ∈ .code yX11_years cX11_years 11 (some .int) :: wsL_law0 := fun _ h => ki (zs_wsX110 _ h)
  have hiX2 : ∀ w ∈ wsX20, w ∈ .code yX11_years cX11_years 11 (some .int) :: wsL_law0 := fun _ h => ki (zs_wsX20 _ h)
  have hiX8 : ∀ w ∈ wsX80, w ∈ .code yX11_years cX11_years 11 (some .int) :: wsL_law0 := fun _ h => ki (zs_wsX80 _ h)
  have lf19 := hts (.fieldLink RX11 19 "BeardPass" "told" "LBeardPass$Land;") (ki (zr1 21 rfl))
  have lf48 := hts (.fieldLink RX11 48 "BeardPass" "frontier" "LBeardPass$Frontier;") (ki (zr2 11 rfl))
  have lf64 := hts (.fieldLink RX11 64 "BeardPass" "now" "LBeardPass$Standing;") (ki (zr2 19 rfl))
  have lf68 := hts (.fieldLink RX11 68 "BeardPass" "trial" "LBeardPass$Standing;") (ki (zr2 20 rfl))
  have lf141 := hts (.fieldLink RX11 141 "BeardPass$Standing" "places" "[I") (ki (zr30 15 rfl))
  have lf162 := hts (.fieldLink RX11 162 "BeardPass$Land" "roads" "[I") (ki (zr31 14 rfl))
  have lf169 := hts (.fieldLink RX11 169 "BeardPass$Land" "towns" "I") (ki (zr31 19 rfl))
  have lf172 := hts (.fieldLink RX11 172 "BeardPass$Land" "persons" "I") (ki (zr31 0 rfl))
  have cut57 : ∀ (n : Nat) (w57_4 : Int64) (w57_6 : Int32) (w57_7 : Int32) (w57_8 : Int32) (rw57 : zRr) (hw57_2 : zI 1 99 a2) (hw57_3 : zI 0 2 a3) (hw57_8 : zI 0 99 w57_8) (jw57 : kJ rw57) (fw57 : zFt r rw57) (xq57 : mQ w57_4), 99 - w57_8.toInt < (n : Int) → zKf p l e ({ frames := 7, cells := 0, slots := 0, locals := 320 }) s m a9 below meth c Q D A 57 11 [] (kW ct E y rw57 q) [(0, .ref (y 195)), (2, .int a2), (3, .int a3), (4, .long w57_4), (6, .int w57_6), (7, .int w57_7), (8, .int w57_8)] := by
    intro n
    induction n with
    | zero => intro w57_4 w57_6 w57_7 w57_8 rw57 hw57_2 hw57_3 hw57_8 jw57 fw57 xq57 hm57; exact zI.no hw57_8 (by decide) hm57
    | succ n ih57 =>
      intro w57_4 w57_6 w57_7 w57_8 rw57 hw57_2 hw57_3 hw57_8 jw57 fw57 xq57 hm57
      have cut66 : ∀ (n : Nat) (w66_4 : Int64) (w66_6 : Int32) (w66_7 : Int32) (w66_9 : Int32) (rw66 : zRr) (hw66_2 : zI 1 99 a2) (hw66_3 : zI 0 2 a3) (hw66_8 : zI 0 98 w57_8) (hw66_9 : zI 0 6 w66_9) (jw66 : kJ rw66) (fw66 : zFt r rw66) (xq66 : mQ w66_4), 6 - w66_9.toInt < (n : Int) → zKf p l e ({ frames := 7, cells := 0, slots := 0, locals := 320 }) s m a9 below meth c Q D A 66 11 [] (kW ct E y rw66 q) [(0, .ref (y 195)), (2, .int a2), (3, .int a3), (4, .long w66_4), (6, .int w66_6), (7, .int w66_7), (8, .int w57_8), (9, .int w66_9)] := by
        intro n
        induction n with
        | zero => intro w66_4 w66_6 w66_7 w66_9 rw66 hw66_2 hw66_3 hw66_8 hw66_9 jw66 fw66 xq66 hm66; exact zI.no hw66_9 (by decide) hm66
        | succ n ih66 =>
          intro w66_4 w66_6 w66_7 w66_9 rw66 hw66_2 hw66_3 hw66_8 hw66_9 jw66 fw66 xq66 hm66
          have cut189 : ∀ (w189_4 : Int64) (w189_6 : Int32) (w189_7 : Int32) (rw189 : zRr) (hw189_2 : zI 1 99 a2) (hw189_3 : zI 0 2 a3) (hw189_8 : zI 0 98 w57_8) (hw189_9 : zI 0 5 w66_9) (jw189 : kJ rw189) (fw189 : zFt r rw189) (xq189 : mQ w189_4), zKf p l e ({ frames := 7, cells := 0, slots := 0, locals := 320 }) s m a9 below meth c Q D A 189 11 [] (kW ct E y rw189 q) [(0, .ref (y 195)), (2, .int a2), (3, .int a3), (4, .long w189_4), (6, .int w189_6), (7, .int w189_7), (8, .int w57_8), (9, .int w66_9)] := by
            intro w189_4 w189_6 w189_7 rw189 hw189_2 hw189_3 hw189_8 hw189_9 jw189 fw189 xq189 H locs ls hw hS hl
            refine lv_iinc (v := w66_9 + 1) (lv' := [(9, .int (w66_9 + 1)), (0, .ref (y 195)), (2, .int a2), (3, .int a3), (4, .long w189_4), (6, .int w189_6), (7, .int w189_7), (8, .int w57_8)]) hx hb dX11_years_189 hl (k := 7) rfl (rfl) (by decide) rfl (fun ls hl => ?_)
            have k1 : zI 1 6 (w66_9 + 1) := zI.add hw189_9 (zI.lit (a := 1) (b := 1) (by decide)) (by decide)
            refine lv_goto (tgt := 66) hx hb dX11_years_192 (by decide) ?_
            exact ih66 w189_4 w189_6 w189_7 (w66_9 + 1) rw189 hw189_2 hw189_3 hw189_8 (k1.w (c := 0) (d := 6) (by decide)) jw189 fw189 (xq189) (zI.up hw189_9 (by decide) hm66) H locs ls hw hS (lv_sub hl [1, 2, 3, 4, 5, 6, 7, 0] rfl)
          have cut163 : ∀ (w163_4 : Int64) (w163_6 : Int32) (w163_7 : Int32) (rw163 : zRr) (hw163_2 : zI 1 99 a2) (hw163_3 : zI 0 2 a3) (hw163_8 : zI 0 98 w57_8) (hw163_9 : zI 0 5 w66_9) (jw163 : kJ rw163) (fw163 : zFt r rw163) (xq163 : mQ w163_4), zKf p l e ({ frames := 7, cells := 0, slots := 0, locals := 320 }) s m a9 below meth c Q D A 163 11 [] (kW ct E y rw163 q) [(0, .ref (y 195)), (2, .int a2), (3, .int a3), (4, .long w163_4), (6, .int w163_6), (7, .int w163_7), (8, .int w57_8), (9, .int w66_9)] := by
            intro w163_4 w163_6 w163_7 rw163 hw163_2 hw163_3 hw163_8 hw163_9 jw163 fw163 xq163 H locs ls hw hS hl
            refine lv_lload hx hb dX11_years_163 (lv_at hl 3 rfl) ?_
            refine scallE (As := [.long w163_4]) (rest := []) ⟨hx, hb, hml, hown, hts⟩ (kc_nextDraw l D ct w163_4 (xq163)) (va_cwS 1 hts (kgS (zr55 6 rfl) (zr55 7 rfl) (zr1 2 rfl) (zr55 8 rfl)) rfl rfl rfl (by decide +kernel) ⟨Nat.le_of_ble_eq_true rfl, Nat.le_of_ble_eq_true rfl⟩) hw hS hA hK hN kWn rfl hl.1 rfl (Nat.le_of_ble_eq_true rfl) dX11_years_165 168 rfl (fun u2 H locs pu2 hw hS => ?_)
            have yu2_0 : (mQ u2) := pu2.1
            refine zfr 168 [.long u2] rfl rfl ?_
            refine lv_lstore (lv' := [(4, .long u2), (0, .ref (y 195)), (2, .int a2), (3, .int a3), (6, .int w163_6), (7, .int w163_7), (8, .int w57_8), (9, .int w66_9)]) hx hb dX11_years_168 hl (by decide) rfl (fun ls hl => ?_)
            refine lv_lload hx hb dX11_years_170 (lv_at hl 0 rfl) ?_
            refine lv_bipush (v := 20) hx hb dX11_years_172 (by decide) ?_
            refine scallE (As := [.long u2, .int 20]) (rest := []) ⟨hx, hb, hml, hown, hts⟩ (kc_below20 l D ct u2) (va_cwS 2 hts (kgS (zr55 12 rfl) (zr55 13 rfl) (zr1 2 rfl) (zr55 14 rfl)) rfl rfl rfl (by decide +kernel) ⟨Nat.le_of_ble_eq_true rfl, Nat.le_of_ble_eq_true rfl⟩) hw hS hA hK hN kWn rfl hl.1 rfl (Nat.le_of_ble_eq_true rfl) dX11_years_174 177 rfl (fun u4 H locs pu4 hw hS => ?_)
            have hu4 : zI (-2147483648) 2147483647 u4 := pu4.1
            refine zfr 177 [.int u4] rfl rfl ?_
            refine lv_if_ne (tgt := 189) hx hb dX11_years_177 (by decide) (fun c6 => ?_) (fun c6 => ?_)
            · exact cut189 u2 w163_6 w163_7 rw163 hw163_2 hw163_3 hw163_8 hw163_9 jw163 fw163 (yu2_0) H locs ls hw hS (lv_sub hl [1, 2, 3, 0, 4, 5, 6, 7] rfl)
            · have k7 : zI 0 0 (u4) := zI.eqq c6 (zI.lit (a := 0) (b := 0) (c := 0) (by decide))
              refine lv_aload_n hx hb dX11_years_180 rfl (lv_at hl 1 rfl) ?_
              refine va_get (D := D) (ci := 10) (v := .ref (y 12)) hx hb hts hiX11 hown hK hw.1 195 kg195 rfl 9 (by decide) lf68 (fun _ h9 => h9) rfl dX11_years_181 ?_
              refine lv_iload hx hb dX11_years_184 (lv_at hl 7 rfl) ?_
              refine kcallV (As := [.int w66_9]) (rest := []) ⟨hx, hb, hml, hown, hts⟩ (kc_loseBeardT l D ct E y w66_9 rw163 q hw163_9 jw163 hEi) (wqX11_213_kc_loseBeardT hts ⟨Nat.le_of_ble_eq_true rfl, Nat.le_of_ble_eq_true rfl⟩) hw hS hA hK hZ hN 7 12 rfl kg12 rfl hl.1 rfl (Nat.le_of_ble_eq_true rfl) dX11_years_186 189 rfl (fun u8 H locs pu8 hw hS => ?_)
              have ju8 : kJ u8 := pu8.1
              have fu8 : zFt rw163 u8 := pu8.2.1
              have hw : zPD D A (kW ct E y u8 q) H := hw
              refine zfr 189 [] rfl rfl ?_
              exact cut189 u2 w163_6 w163_7 u8 hw163_2 hw163_3 hw163_8 hw163_9 ju8 (fw163.tr fu8) (yu2_0) H locs ls hw hS (lv_sub hl [1, 2, 3, 0, 4, 5, 6, 7] rfl)
          intro H locs ls hw hS hl
          refine lv_iload hx hb dX11_years_66 (lv_at hl 7 rfl) ?_
          refine lv_aload_n hx hb dX11_years_68 rfl (lv_at hl 0 rfl) ?_
          refine va_get (D := D) (ci := 10) (v := .ref (y 171)) hx hb hts hiX11 hown hK hw.1 195 kg195 rfl 1 (by decide) lf19 (fun _ h9 => h9) rfl dX11_years_69 ?_
          refine va_get (D := D) (ci := 2) (v := .int (rw66 171 10)) hx hb hts hiX2 hown hK hw.1 171 kg171 rfl 10 (by decide) lf172 (fun _ h9 => h9) rfl dX11_years_72 (zgen (lo := 0) (hi := 6) ((show zI 0 6 (rw66 171 10) from jw66.i 171 10)) (fun v10 hv10 => ?_))
          refine lv_icmp_ge (tgt := 195) hx hb dX11_years_75 (by decide) (fun c11 => ?_) (fun c11 => ?_)
          · refine lv_aload_n hx hb dX11_years_195 rfl (lv_at hl 0 rfl) ?_
            refine va_get (D := D) (ci := 10) (v := .ref (y 199)) hx hb hts hiX11 hown hK hw.1 195 kg195 rfl 6 (by decide) lf48 (fun _ h9 => h9) rfl dX11_years_196 ?_
            refine lv_aload_n hx hb dX11_years_199 rfl (lv_at hl 0 rfl) ?_
            refine va_get (D := D) (ci := 10) (v := .ref (y 12)) hx hb hts hiX11 hown hK hw.1 195 kg195 rfl 9 (by decide) lf68 (fun _ h9 => h9) rfl dX11_years_200 ?_
            refine kcallV (As := [.ref (y 12)]) (rest := []) ⟨hx, hb, hml, hown, hts⟩ (kc_passWeekT l D ct E y rw66 q jw66 hEi) (wqX11_217_kc_passWeekT hts ⟨Nat.le_of_ble_eq_true rfl, Nat.le_of_ble_eq_true rfl⟩) hw hS hA hK hZ hN 0 199 rfl kg199 rfl hl.1 rfl (Nat.le_of_ble_eq_true rfl) dX11_years_203 206 rfl (fun u12 H locs pu12 hw hS => ?_)
            have ju12 : kJ u12 := pu12.1
            have fu12 : zFt rw66 u12 := pu12.2.1
            have hw : zPD D A (kW ct E y u12 q) H := hw
            refine zfr 206 [] rfl rfl ?_
            refine lv_iinc (v := w57_8 + 1) (lv' := [(8, .int (w57_8 + 1)), (0, .ref (y 195)), (2, .int a2), (3, .int a3), (4, .long w66_4), (6, .int w66_6), (7, .int w66_7), (9, .int w66_9)]) hx hb dX11_years_206 hl (k := 6) rfl (rfl) (by decide) rfl (fun ls hl => ?_)
            have k14 : zI 1 99 (w57_8 + 1) := zI.add hw66_8 (zI.lit (a := 1) (b := 1) (by decide)) (by decide)
            refine lv_goto (tgt := 57) hx hb dX11_years_209 (by decide) ?_
            exact ih57 w66_4 w66_6 w66_7 (w57_8 + 1) u12 hw66_2 hw66_3 (k14.w (c := 0) (d := 99) (by decide)) ju12 (fw66.tr fu12) (xq66) (zI.up hw66_8 (by decide) hm57) H locs ls hw hS (lv_sub hl [1, 2, 3, 4, 5, 6, 0] rfl)
          · have k15 : zI 0 5 (w66_9) := zI.ltU (zI.nle c11) hw66_9 hv10 (by decide)
            have k16 : zI 1 6 (v10) := zI.ltD (zI.nle c11) hw66_9 hv10 (by decide)
            refine lv_lload hx hb dX11_years_78 (lv_at hl 3 rfl) ?_
            refine scallE (As := [.long w66_4]) (rest := []) ⟨hx, hb, hml, hown, hts⟩ (kc_nextDraw l D ct w66_4 (xq66)) (va_cwS 1 hts (kgS (zr55 6 rfl) (zr55 7 rfl) (zr1 2 rfl) (zr55 8 rfl)) rfl rfl rfl (by decide +kernel) ⟨Nat.le_of_ble_eq_true rfl, Nat.le_of_ble_eq_true rfl⟩) hw hS hA hK hN kWn rfl hl.1 rfl (Nat.le_of_ble_eq_true rfl) dX11_years_80 83 rfl (fun u17 H locs pu17 hw hS => ?_)
            have yu17_0 : (mQ u17) := pu17.1
            refine zfr 83 [.long u17] rfl rfl ?_
            refine lv_lstore (lv' := [(4, .long u17), (0, .ref (y 195)), (2, .int a2), (3, .int a3), (6, .int w66_6), (7, .int w66_7), (8, .int w57_8), (9, .int w66_9)]) hx hb dX11_years_83 hl (by decide) rfl (fun ls hl => ?_)
            refine lv_lload hx hb dX11_years_85 (lv_at hl 0 rfl) ?_
            refine lv_aload_n hx hb dX11_years_87 rfl (lv_at hl 1 rfl) ?_
            refine va_get (D := D) (ci := 10) (v := .ref (y 171)) hx hb hts hiX11 hown hK hw.1 195 kg195 rfl 1 (by decide) lf19 (fun _ h9 => h9) rfl dX11_years_88 ?_
            refine va_get (D := D) (ci := 2) (v := .int (rw66 171 9)) hx hb hts hiX2 hown hK hw.1 171 kg171 rfl 9 (by decide) lf169 (fun _ h9 => h9) rfl dX11_years_91 (zgen (lo := 0) (hi := 6) ((show zI 0 6 (rw66 171 9) from jw66.i 171 9)) (fun v19 hv19 => ?_))
            refine scallE (As := [.long u17, .int v19]) (rest := []) ⟨hx, hb, hml, hown, hts⟩ (kc_below6 l D ct u17 v19 hv19 (yu17_0)) (va_cwS 2 hts (kgS (zr55 12 rfl) (zr55 13 rfl) (zr1 2 rfl) (zr55 14 rfl)) rfl rfl rfl (by decide +kernel) ⟨Nat.le_of_ble_eq_true rfl, Nat.le_of_ble_eq_true rfl⟩) hw hS hA hK hN kWn rfl hl.1 rfl (Nat.le_of_ble_eq_true rfl) dX11_years_94 97 rfl (fun u20 H locs pu20 hw hS => ?_)
            have hu20 : zI 0 5 u20 := pu20.1
            refine zfr 97 [.int u20] rfl rfl ?_
            refine lv_istore (lv' := [(10, .int u20), (4, .long u17), (0, .ref (y 195)), (2, .int a2), (3, .int a3), (6, .int w66_6), (7, .int w66_7), (8, .int w57_8), (9, .int w66_9)]) hx hb dX11_years_97 hl (by decide) rfl (fun ls hl => ?_)
            refine lv_aload_n hx hb dX11_years_99 rfl (lv_at hl 2 rfl) ?_
            refine va_get (D := D) (ci := 10) (v := .ref (y 199)) hx hb hts hiX11 hown hK hw.1 195 kg195 rfl 6 (by decide) lf48 (fun _ h9 => h9) rfl dX11_years_100 ?_
            refine lv_aload_n hx hb dX11_years_103 rfl (lv_at hl 2 rfl) ?_
            refine va_get (D := D) (ci := 10) (v := .ref (y 12)) hx hb hts hiX11 hown hK hw.1 195 kg195 rfl 9 (by decide) lf68 (fun _ h9 => h9) rfl dX11_years_104 ?_
            refine lv_iload hx hb dX11_years_107 (lv_at hl 8 rfl) ?_
            refine lv_iload hx hb dX11_years_109 (lv_at hl 0 rfl) ?_
            refine kcallV (As := [.ref (y 12), .int w66_9, .int u20]) (rest := []) ⟨hx, hb, hml, hown, hts⟩ (kc_canGoT l D ct E y w66_9 u20 rw66 q k15 hu20 jw66 hEi) (wqX11_195_kc_canGoT hts ⟨Nat.le_of_ble_eq_true rfl, Nat.le_of_ble_eq_true rfl⟩) hw hS hA hK hZ hN 0 199 rfl kg199 rfl hl.1 rfl (Nat.le_of_ble_eq_true rfl) dX11_years_111 114 rfl (fun u22 H locs pu22 hw hS => ?_)
            obtain ⟨v23, r24⟩ := u22
            have hv23 : zI 0 1 v23 := pu22.1
            have ju22 : kJ r24 := pu22.2.1
            have fu22 : zFr [182] rw66 r24 := pu22.2.2.1
            have hw : zPD D A (kW ct E y r24 q) H := hw
            refine zfr 114 [.int v23] rfl rfl ?_
            refine lv_if_eq (tgt := 134) hx hb dX11_years_114 (by decide) (fun c25 => ?_) (fun c25 => ?_)
            · have k26 : zI 0 0 (v23) := zI.eqq c25 (zI.lit (a := 0) (b := 0) (c := 0) (by decide))
              refine lv_aload_n hx hb dX11_years_134 rfl (lv_at hl 2 rfl) ?_
              refine va_get (D := D) (ci := 10) (v := .ref (y 171)) hx hb hts hiX11 hown hK hw.1 195 kg195 rfl 1 (by decide) lf19 (fun _ h9 => h9) rfl dX11_years_135 ?_
              refine va_get (D := D) (ci := 2) (v := .ref (y 173)) hx hb hts hiX2 hown hK hw.1 171 kg171 rfl 1 (by decide) lf162 (fun _ h9 => h9) rfl dX11_years_138 ?_
              refine lv_aload_n hx hb dX11_years_141 rfl (lv_at hl 2 rfl) ?_
              refine va_get (D := D) (ci := 10) (v := .ref (y 12)) hx hb hts hiX11 hown hK hw.1 195 kg195 rfl 9 (by decide) lf68 (fun _ h9 => h9) rfl dX11_years_142 ?_
              refine va_get (D := D) (ci := 7) (v := .ref (y 13)) hx hb hts hiX8 hown hK hw.1 12 kg12 rfl 0 (by decide) lf141 (fun _ h9 => h9) rfl dX11_years_145 ?_
              refine lv_iload hx hb dX11_years_148 (lv_at hl 8 rfl) ?_
              refine miald hx hb hK hw 13 kg13 k15 (by decide) dX11_years_150 (zgen (lo := 0) (hi := 5) ((show zI 0 5 (r24 13 _) from ju22.i 13 _)) (fun v27 hv27 => ?_))
              refine miald hx hb hK hw 173 kg173 hv27 (by decide) dX11_years_151 (zgen (zI.top _) (fun v28 _ => ?_))
              refine lv_iload hx hb dX11_years_152 (lv_at hl 0 rfl) ?_
              refine scallE (As := [.int v28, .int u20]) (rest := []) ⟨hx, hb, hml, hown, hts⟩ (kc_has l D ct v28 u20) (va_cwS 2 hts (kgS (zr46 18 rfl) (zr16 22 rfl) (zr1 2 rfl) (zr16 23 rfl)) rfl rfl rfl (by decide +kernel) ⟨Nat.le_of_ble_eq_true rfl, Nat.le_of_ble_eq_true rfl⟩) hw hS hA hK hN kWn rfl hl.1 rfl (Nat.le_of_ble_eq_true rfl) dX11_years_154 157 rfl (fun u29 H locs pu29 hw hS => ?_)
              have hu29 : zI 0 1 u29 := pu29.1
              have xu29 : u29 = (Gk_has v28 u20) := pu29.2.1
              refine zfr 157 [.int u29] rfl rfl ?_
              refine lv_if_eq (tgt := 163) hx hb dX11_years_157 (by decide) (fun c31 => ?_) (fun c31 => ?_)
              · have k32 : zI 0 0 (u29) := zI.eqq c31 (zI.lit (a := 0) (b := 0) (c := 0) (by decide))
                exact cut163 u17 w66_6 w66_7 r24 hw66_2 hw66_3 hw66_8 k15 ju22 (fw66.trF fu22 rfl) (yu17_0) H locs ls hw hS (lv_sub hl [2, 3, 4, 1, 5, 6, 7, 8] rfl)
              · have k33 : zI 1 1 (u29) := zI.neD c31 hu29 (zI.lit (a := 0) (b := 0) (c := 0) (by decide)) (by decide)
                refine lv_iinc (v := w66_7 + 1) (lv' := [(7, .int (w66_7 + 1)), (10, .int u20), (4, .long u17), (0, .ref (y 195)), (2, .int a2), (3, .int a3), (6, .int w66_6), (8, .int w57_8), (9, .int w66_9)]) hx hb dX11_years_160 hl (k := 6) rfl (rfl) (by decide) rfl (fun ls hl => ?_)
                exact cut163 u17 w66_6 (w66_7 + 1) r24 hw66_2 hw66_3 hw66_8 k15 ju22 (fw66.trF fu22 rfl) (yu17_0) H locs ls hw hS (lv_sub hl [3, 4, 5, 2, 6, 0, 7, 8] rfl)
            · have k34 : zI 1 1 (v23) := zI.neD c25 hv23 (zI.lit (a := 0) (b := 0) (c := 0) (by decide)) (by decide)
              refine lv_aload_n hx hb dX11_years_117 rfl (lv_at hl 2 rfl) ?_
              refine va_get (D := D) (ci := 10) (v := .ref (y 12)) hx hb hts hiX11 hown hK hw.1 195 kg195 rfl 9 (by decide) lf68 (fun _ h9 => h9) rfl dX11_years_118 ?_
              refine lv_iload hx hb dX11_years_121 (lv_at hl 8 rfl) ?_
              refine lv_iload hx hb dX11_years_123 (lv_at hl 0 rfl) ?_
              refine kcallV (As := [.int w66_9, .int u20]) (rest := []) ⟨hx, hb, hml, hown, hts⟩ (kc_arriveT l D ct E y w66_9 u20 r24 q k15 hu20 ju22 hEi) (wqX11_202_kc_arriveT hts ⟨Nat.le_of_ble_eq_true rfl, Nat.le_of_ble_eq_true rfl⟩) hw hS hA hK hZ hN 7 12 rfl kg12 rfl hl.1 rfl (Nat.le_of_ble_eq_true rfl) dX11_years_125 128 rfl (fun u35 H locs pu35 hw hS => ?_)
              have ju35 : kJ u35 := pu35.1
              have fu35 : zFt r24 u35 := pu35.2.1
              have hw : zPD D A (kW ct E y u35 q) H := hw
              refine zfr 128 [] rfl rfl ?_
              refine lv_iinc (v := w66_6 + 1) (lv' := [(6, .int (w66_6 + 1)), (10, .int u20), (4, .long u17), (0, .ref (y 195)), (2, .int a2), (3, .int a3), (7, .int w66_7), (8, .int w57_8), (9, .int w66_9)]) hx hb dX11_years_128 hl (k := 5) rfl (rfl) (by decide) rfl (fun ls hl => ?_)
              refine lv_goto (tgt := 163) hx hb dX11_years_131 (by decide) ?_
              exact cut163 u17 (w66_6 + 1) w66_7 u35 hw66_2 hw66_3 hw66_8 k15 ju35 ((fw66.trF fu22 rfl).tr fu35) (yu17_0) H locs ls hw hS (lv_sub hl [3, 4, 5, 2, 0, 6, 7, 8] rfl)
      intro H locs ls hw hS hl
      refine lv_iload hx hb dX11_years_57 (lv_at hl 6 rfl) ?_
      refine lv_iload_n hx hb dX11_years_59 rfl (lv_at hl 1 rfl) ?_
      refine lv_icmp_ge (tgt := 212) hx hb dX11_years_60 (by decide) (fun c37 => ?_) (fun c37 => ?_)
      · have k38 : zI 1 99 (w57_8) := zI.leD c37 hw57_2 hw57_8 (by decide)
        refine lv_iload_n hx hb dX11_years_212 rfl (lv_at hl 2 rfl) ?_
        refine lv_iconst (v := 2) hx hb dX11_years_213 (by decide) ?_
        refine lv_icmp_ne (tgt := 232) hx hb dX11_years_214 (by decide) (fun c39 => ?_) (fun c39 => ?_)
        · have k40 : zI 0 1 (a3) := zI.neU c39 hw57_3 (zI.lit (a := 2) (b := 2) (c := 2) (by decide)) (by decide)
          refine lv_iload_n hx hb dX11_years_232 rfl (lv_at hl 2 rfl) ?_
          refine lv_if_ne (tgt := 241) hx hb dX11_years_233 (by decide) (fun c41 => ?_) (fun c41 => ?_)
          · have k42 : zI 1 1 (a3) := zI.neD c41 k40 (zI.lit (a := 0) (b := 0) (c := 0) (by decide)) (by decide)
            refine lv_iload hx hb dX11_years_241 (lv_at hl 5 rfl) ?_
            exact ziretQ hQ hx hb hr rfl hlocks (w57_7, rw57) rfl ⟨(zI.top _), jw57, fw57, trivial⟩ hw hS dX11_years_243
          · have k43 : zI 0 0 (a3) := zI.eqq c41 (zI.lit (a := 0) (b := 0) (c := 0) (by decide))
            refine lv_iload hx hb dX11_years_236 (lv_at hl 4 rfl) ?_
            refine lv_goto (tgt := 243) hx hb dX11_years_238 (by decide) ?_
            exact ziretQ hQ hx hb hr rfl hlocks (w57_6, rw57) rfl ⟨(zI.top _), jw57, fw57, trivial⟩ hw hS dX11_years_243
        · have k44 : zI 2 2 (a3) := zI.eqq c39 (zI.lit (a := 2) (b := 2) (c := 2) (by decide))
          refine lv_aload_n hx hb dX11_years_217 rfl (lv_at hl 0 rfl) ?_
          refine va_get (D := D) (ci := 10) (v := .ref (y 12)) hx hb hts hiX11 hown hK hw.1 195 kg195 rfl 9 (by decide) lf68 (fun _ h9 => h9) rfl dX11_years_218 ?_
          refine lv_aload_n hx hb dX11_years_221 rfl (lv_at hl 0 rfl) ?_
          refine va_get (D := D) (ci := 10) (v := .ref (y 171)) hx hb hts hiX11 hown hK hw.1 195 kg195 rfl 1 (by decide) lf19 (fun _ h9 => h9) rfl dX11_years_222 ?_
          refine va_get (D := D) (ci := 2) (v := .int (rw57 171 10)) hx hb hts hiX2 hown hK hw.1 171 kg171 rfl 10 (by decide) lf172 (fun _ h9 => h9) rfl dX11_years_225 (zgen (lo := 0) (hi := 6) ((show zI 0 6 (rw57 171 10) from jw57.i 171 10)) (fun v45 hv45 => ?_))
          refine kcallV (As := [.int v45]) (rest := []) ⟨hx, hb, hml, hown, hts⟩ (kc_peopledT l D ct E y v45 rw57 q hv45 jw57 hEi) (wqX11_184_kc_peopledT hts ⟨Nat.le_of_ble_eq_true rfl, Nat.le_of_ble_eq_true rfl⟩) hw hS hA hK hZ hN 7 12 rfl kg12 rfl hl.1 rfl (Nat.le_of_ble_eq_true rfl) dX11_years_228 231 rfl (fun u46 H locs pu46 hw hS => ?_)
          have hu46 : zI (-2147483648) 2147483647 u46 := pu46.1
          have hw : zPD D A (kW ct E y rw57 q) H := hw
          refine zfr 231 [.int u46] rfl rfl ?_
          exact ziretQ hQ hx hb hr rfl hlocks (u46, rw57) rfl ⟨(zI.top _), jw57, fw57, trivial⟩ hw hS dX11_years_231
      · have k48 : zI 0 98 (w57_8) := zI.ltU (zI.nle c37) hw57_8 hw57_2 (by decide)
        refine lv_iconst (v := 0) hx hb dX11_years_63 (by decide) ?_
        refine lv_istore (lv' := [(9, .int 0), (0, .ref (y 195)), (2, .int a2), (3, .int a3), (4, .long w57_4), (6, .int w57_6), (7, .int w57_7), (8, .int w57_8)]) hx hb dX11_years_64 hl (by decide) rfl (fun ls hl => ?_)
        exact cut66 7 w57_4 w57_6 w57_7 0 rw57 hw57_2 hw57_3 k48 ((zI.lit (a := 0) (b := 0) (c := 0) (by decide)).w (c := 0) (d := 6) (by decide)) jw57 fw57 (xq57) (zI.m0 (zI.lit (a := 0) (b := 0) (c := 0) (by decide)) (by decide)) H locs ls hw hS (lv_sub hl [1, 2, 3, 4, 5, 6, 7, 0] rfl)
  intro H locs hw hS ls hl
  have hl : lv_has ls 11 [(0, .ref (y 195)), (1, .int a1), (2, .int a2), (3, .int a3)] := hl
  refine lv_iload_n hx hb dX11_years_0 rfl (lv_at hl 1 rfl) ?_
  refine lv_if_lt (tgt := 31) hx hb dX11_years_1 (by decide) (fun c49 => ?_) (fun c49 => ?_)
  · have k50 : zI (-2147483648) (-1) (a1) := zI.ltU c49 (zI.top _) (zI.lit (a := 0) (b := 0) (c := 0) (by decide)) (by decide)
    refine lv_iconst (v := (-1)) hx hb dX11_years_31 (by decide) ?_
    exact ziretQ hQ hx hb hr rfl hlocks (((-1) : Int32), r) rfl ⟨(zI.top _), hJ0, (zFt.refl), trivial⟩ hw hS dX11_years_32
  · have k51 : zI 0 2147483647 (a1) := zI.leD (zI.nlt c49) (zI.lit (a := 0) (b := 0) (c := 0) (by decide)) (zI.top _) (by decide)
    refine lv_iload_n hx hb dX11_years_4 rfl (lv_at hl 1 rfl) ?_
    refine lv_sipush (v := 9999) hx hb dX11_years_5 (by decide) ?_
    refine lv_icmp_gt (tgt := 31) hx hb dX11_years_8 (by decide) (fun c52 => ?_) (fun c52 => ?_)
    · have k53 : zI 10000 2147483647 (a1) := zI.ltD c52 (zI.lit (a := 9999) (b := 9999) (c := 9999) (by decide)) k51 (by decide)
      refine lv_iconst (v := (-1)) hx hb dX11_years_31 (by decide) ?_
      exact ziretQ hQ hx hb hr rfl hlocks (((-1) : Int32), r) rfl ⟨(zI.top _), hJ0, (zFt.refl), trivial⟩ hw hS dX11_years_32
    · have k54 : zI 0 9999 (a1) := zI.leU (zI.nlt c52) k51 (zI.lit (a := 9999) (b := 9999) (c := 9999) (by decide)) (by decide)
      refine lv_iload_n hx hb dX11_years_11 rfl (lv_at hl 2 rfl) ?_
      refine lv_iconst (v := 1) hx hb dX11_years_12 (by decide) ?_
      refine lv_icmp_lt (tgt := 31) hx hb dX11_years_13 (by decide) (fun c55 => ?_) (fun c55 => ?_)
      · have k56 : zI (-2147483648) 0 (a2) := zI.ltU c55 (zI.top _) (zI.lit (a := 1) (b := 1) (c := 1) (by decide)) (by decide)
        refine lv_iconst (v := (-1)) hx hb dX11_years_31 (by decide) ?_
        exact ziretQ hQ hx hb hr rfl hlocks (((-1) : Int32), r) rfl ⟨(zI.top _), hJ0, (zFt.refl), trivial⟩ hw hS dX11_years_32
      · have k57 : zI 1 2147483647 (a2) := zI.leD (zI.nlt c55) (zI.lit (a := 1) (b := 1) (c := 1) (by decide)) (zI.top _) (by decide)
        refine lv_iload_n hx hb dX11_years_16 rfl (lv_at hl 2 rfl) ?_
        refine lv_bipush (v := 99) hx hb dX11_years_17 (by decide) ?_
        refine lv_icmp_gt (tgt := 31) hx hb dX11_years_19 (by decide) (fun c58 => ?_) (fun c58 => ?_)
        · have k59 : zI 100 2147483647 (a2) := zI.ltD c58 (zI.lit (a := 99) (b := 99) (c := 99) (by decide)) k57 (by decide)
          refine lv_iconst (v := (-1)) hx hb dX11_years_31 (by decide) ?_
          exact ziretQ hQ hx hb hr rfl hlocks (((-1) : Int32), r) rfl ⟨(zI.top _), hJ0, (zFt.refl), trivial⟩ hw hS dX11_years_32
        · have k60 : zI 1 99 (a2) := zI.leU (zI.nlt c58) k57 (zI.lit (a := 99) (b := 99) (c := 99) (by decide)) (by decide)
          refine lv_iload_n hx hb dX11_years_22 rfl (lv_at hl 3 rfl) ?_
          refine lv_if_lt (tgt := 31) hx hb dX11_years_23 (by decide) (fun c61 => ?_) (fun c61 => ?_)
          · have k62 : zI (-2147483648) (-1) (a3) := zI.ltU c61 (zI.top _) (zI.lit (a := 0) (b := 0) (c := 0) (by decide)) (by decide)
            refine lv_iconst (v := (-1)) hx hb dX11_years_31 (by decide) ?_
            exact ziretQ hQ hx hb hr rfl hlocks (((-1) : Int32), r) rfl ⟨(zI.top _), hJ0, (zFt.refl), trivial⟩ hw hS dX11_years_32
          · have k63 : zI 0 2147483647 (a3) := zI.leD (zI.nlt c61) (zI.lit (a := 0) (b := 0) (c := 0) (by decide)) (zI.top _) (by decide)
            refine lv_iload_n hx hb dX11_years_26 rfl (lv_at hl 3 rfl) ?_
            refine lv_iconst (v := 2) hx hb dX11_years_27 (by decide) ?_
            refine lv_icmp_le (tgt := 33) hx hb dX11_years_28 (by decide) (fun c64 => ?_) (fun c64 => ?_)
            · have k65 : zI 0 2 (a3) := zI.leU c64 k63 (zI.lit (a := 2) (b := 2) (c := 2) (by decide)) (by decide)
              refine lv_aload_n hx hb dX11_years_33 rfl (lv_at hl 0 rfl) ?_
              refine va_get (D := D) (ci := 10) (v := .ref (y 12)) hx hb hts hiX11 hown hK hw.1 195 kg195 rfl 9 (by decide) lf68 (fun _ h9 => h9) rfl dX11_years_34 ?_
              refine lv_aload_n hx hb dX11_years_37 rfl (lv_at hl 0 rfl) ?_
              refine va_get (D := D) (ci := 10) (v := .ref (y 6)) hx hb hts hiX11 hown hK hw.1 195 kg195 rfl 8 (by decide) lf64 (fun _ h9 => h9) rfl dX11_years_38 ?_
              refine kcallZ (As := [.ref (y 6)]) (rest := []) (kis8 12 6) (kis8l ⟨by decide, by decide⟩ ⟨by decide, by decide⟩) (kis8w ⟨by decide, by decide⟩ ⟨by decide, by decide⟩) ⟨hx, hb, hml, hown, hts⟩ (c_X8_copy l D ct (y 12) (y 6) (y (12 + 1)) (y (12 + 2)) (y (12 + 3)) (y (12 + 4)) (y (12 + 5)) (y (6 + 1)) (y (6 + 2)) (y (6 + 3)) (y (6 + 4)) (y (6 + 5)) (r (12 + 1)) (r (12 + 2)) (r (12 + 3)) (r (12 + 4)) (r (12 + 5)) (r (6 + 1)) (r (6 + 2)) (r (6 + 3)) (r (6 + 4)) (r (6 + 5)) (r 12 5) (r 6 5)) (cwV 1 hts (kgVm (zr35 20 rfl) (zr35 21 rfl) (zr35 22 rfl) (zr2 18 rfl) mL_X8_copy) rfl rfl rfl (by decide +kernel) ⟨Nat.le_of_ble_eq_true rfl, Nat.le_of_ble_eq_true rfl⟩) hw hS hA hK hN (kis8n ⟨by decide, by decide⟩ ⟨by decide, by decide⟩ (by decide)) 7 12 rfl (kis8o ⟨by decide, by decide⟩) rfl hl.1 rfl (Nat.le_of_ble_eq_true rfl) dX11_years_41 44 rfl (kcp8 r 12 6) q (fun _ => kis8B ⟨by decide, by decide⟩ ⟨by decide, by decide⟩ (by decide)) kis8x (fun _ H locs _ hw hS => ?_)
              refine zfr 44 [] rfl rfl ?_
              refine cmgen (P := fun x => kJ x ∧ zFt r x) hw ⟨hJ0.copy8 ⟨by decide, by decide⟩ ⟨by decide, by decide⟩, ((zFt.refl).cp8 (by decide))⟩ (fun r66 er66 hw pr66 => ?_)
              refine lv_iload_n hx hb dX11_years_44 rfl (lv_at hl 1 rfl) ?_
              refine lv_i2l (v := a1.toInt64) hx hb dX11_years_45 rfl ?_
              refine lv_lstore (lv' := [(4, .long a1.toInt64), (0, .ref (y 195)), (1, .int a1), (2, .int a2), (3, .int a3)]) hx hb dX11_years_46 hl (by decide) rfl (fun ls hl => ?_)
              refine lv_iconst (v := 0) hx hb dX11_years_48 (by decide) ?_
              refine lv_istore (lv' := [(6, .int 0), (4, .long a1.toInt64), (0, .ref (y 195)), (1, .int a1), (2, .int a2), (3, .int a3)]) hx hb dX11_years_49 hl (by decide) rfl (fun ls hl => ?_)
              refine lv_iconst (v := 0) hx hb dX11_years_51 (by decide) ?_
              refine lv_istore (lv' := [(7, .int 0), (6, .int 0), (4, .long a1.toInt64), (0, .ref (y 195)), (1, .int a1), (2, .int a2), (3, .int a3)]) hx hb dX11_years_52 hl (by decide) rfl (fun ls hl => ?_)
              refine lv_iconst (v := 0) hx hb dX11_years_54 (by decide) ?_
              refine lv_istore (lv' := [(8, .int 0), (7, .int 0), (6, .int 0), (4, .long a1.toInt64), (0, .ref (y 195)), (1, .int a1), (2, .int a2), (3, .int a3)]) hx hb dX11_years_55 hl (by decide) rfl (fun ls hl => ?_)
              exact cut57 100 a1.toInt64 0 0 0 r66 k60 k65 ((zI.lit (a := 0) (b := 0) (c := 0) (by decide)).w (c := 0) (d := 99) (by decide)) pr66.1 pr66.2 ((mQ.of k54 (by decide))) (zI.m0 (zI.lit (a := 0) (b := 0) (c := 0) (by decide)) (by decide)) H locs ls hw hS (lv_sub hl [4, 6, 7, 3, 2, 1, 0] rfl)
            · have k67 : zI 3 2147483647 (a3) := zI.ltD (zI.nle c64) (zI.lit (a := 2) (b := 2) (c := 2) (by decide)) k63 (by decide)
              refine lv_iconst (v := (-1)) hx hb dX11_years_31 (by decide) ?_
              exact ziretQ hQ hx hb hr rfl hlocks (((-1) : Int32), r) rfl ⟨(zI.top _), hJ0, (zFt.refl), trivial⟩ hw hS dX11_years_32
/-! ===== what land answers; the tapes alike ===== -/
theorem xl79 : ∀ (n i : Nat) (r : zRr) (q : zRq), i ≤ 4 → 4 < n + i → (Gk_land_79 n (nI i) r q).1 = 0 := by
  intro n
  induction n with
  | zero => intro i r q h1 h2; omega
  | succ n ih =>
    intro i r q h1 h2
    have e0 : Gk_land_79 (n + 1) (nI i) r q = Bk_land_79 (Gk_land_79 n) (nI i) r q := rfl
    rw [e0]
    unfold Bk_land_79
    simp only [zifQ, zletQ, xzn (show i < 2 ^ 31 by omega), nI_1]
    by_cases h4 : 4 ≤ i
    · have c4 : (4 : Int32) ≤ nI i := (nI_leI (a := 4) (by omega) (by omega)).mpr h4
      rw [if_pos c4]
    · have c4 : ¬ (4 : Int32) ≤ nI i := fun h => h4 ((nI_leI (a := 4) (by omega) (by omega)).mp h)
      rw [if_neg c4]
      rcases (show i = 0 ∨ i = 1 ∨ i = 2 ∨ i = 3 by omega) with rfl | rfl | rfl | rfl
      · rw [if_pos rfl]; exact ih 1 _ _ (by omega) (by omega)
      · rw [if_neg (by decide), if_pos rfl]; exact ih 2 _ _ (by omega) (by omega)
      · rw [if_neg (by decide), if_neg (by decide), if_pos rfl]; exact ih 3 _ _ (by omega) (by omega)
      · rw [if_neg (by decide), if_neg (by decide), if_neg (by decide), if_pos rfl]; exact ih 4 _ _ (by omega) (by omega)
theorem xm46 : ∀ (n i : Nat) (r : zRr) (q : zRq), i ≤ 4 → 4 < n + i → (Gm_land_46 n (nI i) r q).1 = 0 := by
  intro n
  induction n with
  | zero => intro i r q h1 h2; omega
  | succ n ih =>
    intro i r q h1 h2
    have e0 : Gm_land_46 (n + 1) (nI i) r q = Bm_land_46 (Gm_land_46 n) (nI i) r q := rfl
    rw [e0]
    unfold Bm_land_46
    simp only [zifQ, zletQ, nI_1]
    by_cases h4 : 4 ≤ i
    · have c4 : (4 : Int32) ≤ nI i := (nI_leI (a := 4) (by omega) (by omega)).mpr h4
      rw [if_pos c4]
    · have c4 : ¬ (4 : Int32) ≤ nI i := fun h => h4 ((nI_leI (a := 4) (by omega) (by omega)).mp h)
      rw [if_neg c4]
      exact ih (i + 1) _ _ (by omega) (by omega)
theorem xlA {r : zRr} {q : zRq} : (Gk_land r q).1 = if (Gk_readL r q).1 = 0 then (Gk_readL r q).2.1 196 7 else 0 := by
  unfold Gk_land
  generalize Gk_readL r q = o
  obtain ⟨v, r15, q16⟩ := o
  rw [xcvrq (r := r15)]
  simp only [zletQ, zifnQ]
  by_cases hv : v = 0
  · rw [if_pos hv, if_pos hv]
    show (zset r15 196 (upd (r15 196) 1 0)) 196 7 = r15 196 7
    rw [zset_eq, pk_un (by decide)]
  · rw [if_neg hv, if_neg hv]
    exact xl79 5 0 _ _ (by omega) (by omega)
theorem xmA {r : zRr} {q : zRq} : (Gm_land r q).1 = if (Gm_readsAll (zset r 100 (fun _ => 0)) q).1 = 0 then (Gm_readsAll (zset r 100 (fun _ => 0)) q).2.1 109 0 else 0 := by
  unfold Gm_land
  simp only [zletQ]
  generalize Gm_readsAll (zset r 100 (fun _ => 0)) q = o
  obtain ⟨v, r9, q10⟩ := o
  rw [xcvrq (r := r9)]
  simp only [zletQ, zifnQ]
  by_cases hv : v = 0
  · rw [if_pos hv, if_pos hv]
  · rw [if_neg hv, if_neg hv, zc_rqQ]
    exact xm46 5 0 _ _ (by omega) (by omega)
theorem xLandA {L : Nat} {r : zRr} {q : zRq} {rm : zRr} {qm : zRq} (h : xTp L r rm) : (Gk_land r q).1 = (Gm_land rm qm).1 := by
  obtain ⟨_, _, k⟩ := xland (q := q) (qm := qm) (show xTp L r (zset rm 100 (fun _ => 0)) from h)
  rw [xlA, xmA]
  rcases k with ⟨a1, a2, a3⟩ | ⟨a1, a2, _⟩
  · rw [if_pos a1, if_pos a2]; exact a3
  · rw [if_neg (by rw [a1]; decide), if_neg (by rw [a2]; decide)]
/-- the two tapes hold the same -/
noncomputable def lT (r rm : zRr) : Prop := r 196 1 = rm 101 0 ∧ ∀ i, i < zn (rm 101 0) → r 197 i = rm 0 i
theorem lT.p {r rm : zRr} {B : Int} (h : lT r rm) (hM : mJ B rm) : xTp (zn (rm 101 0)) r rm := by
  obtain ⟨e1, e2⟩ := (show zI 0 1000 (rm 101 0) from hM.i 101 0).ix (n := 1001) (by decide)
  exact ⟨h.1.trans e1, e1, by omega, h.2⟩
theorem lT.k {r r1 rm : zRr} (h : lT r rm) (f : r1 196 = r 196 ∧ r1 197 = r 197) : lT r1 rm := by
  unfold lT at h ⊢
  rw [f.1, f.2]; exact h
theorem lT.m {r rm rm1 : zRr} (h : lT r rm) (f0 : rm1 0 = rm 0) (f1 : rm1 101 = rm 101) : lT r rm1 := by
  unfold lT at h ⊢
  rw [f0, f1]; exact h
theorem lT.z {r rm : zRr} (h : r 196 1 = 0) (hm : rm 101 0 = 0) : lT r rm := ⟨h.trans hm.symm, fun i hi => by rw [hm] at hi; exact absurd hi (Nat.not_lt_zero _)⟩
theorem zstep_ag {x : Int32} {t t' : Nat × (Nat → Int32)} (h : t.1 = t'.1 ∧ ∀ i, i < t.1 → t.2 i = t'.2 i) : (zstep x t).1 = (zstep x t').1 ∧ ∀ i, i < (zstep x t).1 → (zstep x t).2 i = (zstep x t').2 i := by
  obtain ⟨h, k⟩ := h
  unfold zstep
  by_cases h1 : x = 10 ∨ (32 ≤ x ∧ x ≤ 126)
  · by_cases h2 : t.1 < 1000
    · rw [if_pos h1, if_pos h2, if_pos h1, if_pos (h ▸ h2)]
      refine ⟨congrArg (· + 1) h, fun i hi => ?_⟩
      show upd t.2 t.1 x i = upd t'.2 t'.1 x i
      rw [← h]
      by_cases e : i = t.1
      · subst e; rw [pk_us, pk_us]
      · rw [pk_un e, pk_un e]; exact k i (by have hi : i < t.1 + 1 := hi; omega)
    · rw [if_pos h1, if_neg h2, if_pos h1, if_neg (h ▸ h2)]; exact ⟨h, k⟩
  · rw [if_neg h1, if_neg h1]; exact ⟨h, k⟩
theorem ztp3_ag {a b c : Int64} {j : Nat} {t t' : Nat × (Nat → Int32)} (h : t.1 = t'.1 ∧ ∀ i, i < t.1 → t.2 i = t'.2 i) : (ztp3 a b c j t).1 = (ztp3 a b c j t').1 ∧ ∀ i, i < (ztp3 a b c j t).1 → (ztp3 a b c j t).2 i = (ztp3 a b c j t').2 i := by
  induction j with
  | zero => exact h
  | succ j ih => exact zstep_ag ih
/-! ===== what land and journey leave told ===== -/
theorem xb8 : ∀ (n i p : Nat) (r : zRr), r 171 10 = nI p → p ≤ 6 → i ≤ p → p < n + i → zFr [6, 7, 8, 9, 10, 11] r (Gk_begin8N_7 n (nI i) r) := by
  intro n
  induction n with
  | zero => intro i p r h1 h2 h3 h4; omega
  | succ n ih =>
    intro i p r h1 h2 h3 h4
    have e0 : Gk_begin8N_7 (n + 1) (nI i) r = Bk_begin8N_7 (Gk_begin8N_7 n) (nI i) r := rfl
    rw [e0]
    unfold Bk_begin8N_7
    simp only [zifQ, zletQ, h1, nI_1]
    by_cases hp : p ≤ i
    · have c : nI p ≤ nI i := (nI_leI (by omega) (by omega)).mpr hp
      rw [if_pos c]
      exact zFr.refl
    · have c : ¬ nI p ≤ nI i := fun h => hp ((nI_leI (by omega) (by omega)).mp h)
      rw [if_neg c]
      refine zFr.tr ?_ (ih (i + 1) p _ ?_ h2 (by omega) (by omega)) (by decide)
      · exact ((((zFr.refl.set rfl).set rfl).set rfl).set rfl).set rfl
      · exact h1
theorem xbegin8 {p : Nat} {r : zRr} {q : zRq} (h1 : r 171 10 = nI p) (h2 : p ≤ 6) : zFr [6, 7, 8, 9, 10, 11] r (Gk_begin8N r q) := by
  unfold Gk_begin8N
  rw [zletQ]
  have f : zFr [6, 7, 8, 9, 10, 11] r (zset r 6 (upd (r 6) 5 0)) := zFr.refl.set rfl
  exact f.tr (xb8 7 0 p _ h1 h2 (by omega) (by omega)) (by decide)
theorem xclear6 {r : zRr} {q : zRq} : zFr [162] r (Gk_clear6 r q) := by
  unfold Gk_clear6
  simp only [zletQ]
  exact (zFr.refl.set rfl).set rfl
theorem xforget {r : zRr} {q : zRq} : zFr [195] r (Gk_forgetPast r q) := by
  unfold Gk_forgetPast
  simp only [zletQ]
  exact (zFr.refl.set rfl).set rfl
theorem xl79f : ∀ (n i : Nat) (r : zRr) (q : zRq), i ≤ 4 → 4 < n + i → zFr [167, 168, 169, 170] r (Gk_land_79 n (nI i) r q).2.1 ∧ (Gk_land_79 n (nI i) r q).2.2 = q := by
  intro n
  induction n with
  | zero => intro i r q h1 h2; omega
  | succ n ih =>
    intro i r q h1 h2
    have e0 : Gk_land_79 (n + 1) (nI i) r q = Bk_land_79 (Gk_land_79 n) (nI i) r q := rfl
    rw [e0]
    unfold Bk_land_79
    simp only [zifQ, zletQ, xzn (show i < 2 ^ 31 by omega), nI_1]
    by_cases h4 : 4 ≤ i
    · have c4 : (4 : Int32) ≤ nI i := (nI_leI (a := 4) (by omega) (by omega)).mpr h4
      rw [if_pos c4]
      exact ⟨zFr.refl, rfl⟩
    · have c4 : ¬ (4 : Int32) ≤ nI i := fun h => h4 ((nI_leI (a := 4) (by omega) (by omega)).mp h)
      rw [if_neg c4]
      have k : ∀ (a : Nat), [167, 168, 169, 170].contains a = true → zFr [167, 168, 169, 170] r (Gk_land_79 n (nI (i + 1)) (zset r a (upd (r a) 3 0)) q).2.1 ∧ (Gk_land_79 n (nI (i + 1)) (zset r a (upd (r a) 3 0)) q).2.2 = q := by
        intro a ha
        obtain ⟨k1, k2⟩ := ih (i + 1) (zset r a (upd (r a) 3 0)) q (by omega) (by omega)
        exact ⟨(zFr.refl.set ha).tr k1 (by decide), k2⟩
      rcases (show i = 0 ∨ i = 1 ∨ i = 2 ∨ i = 3 by omega) with rfl | rfl | rfl | rfl
      · rw [if_pos rfl]; exact k 167 rfl
      · rw [if_neg (by decide), if_pos rfl]; exact k 168 rfl
      · rw [if_neg (by decide), if_neg (by decide), if_pos rfl]; exact k 169 rfl
      · rw [if_neg (by decide), if_neg (by decide), if_neg (by decide), if_pos rfl]; exact k 170 rfl
theorem xm46f : ∀ (n i : Nat) (r : zRr) (q : zRq), i ≤ 4 → 4 < n + i → zFr [37] r (Gm_land_46 n (nI i) r q).2.1 ∧ (Gm_land_46 n (nI i) r q).2.2 = q := by
  intro n
  induction n with
  | zero => intro i r q h1 h2; omega
  | succ n ih =>
    intro i r q h1 h2
    have e0 : Gm_land_46 (n + 1) (nI i) r q = Bm_land_46 (Gm_land_46 n) (nI i) r q := rfl
    rw [e0]
    unfold Bm_land_46
    simp only [zifQ, zletQ, nI_1]
    by_cases h4 : 4 ≤ i
    · have c4 : (4 : Int32) ≤ nI i := (nI_leI (a := 4) (by omega) (by omega)).mpr h4
      rw [if_pos c4]
      exact ⟨zFr.refl, rfl⟩
    · have c4 : ¬ (4 : Int32) ≤ nI i := fun h => h4 ((nI_leI (a := 4) (by omega) (by omega)).mp h)
      rw [if_neg c4]
      obtain ⟨k1, k2⟩ := ih (i + 1) (zset r 37 (upd (r 37) (zn (nI i)) 0)) q (by omega) (by omega)
      exact ⟨(zFr.refl.set rfl).tr k1 (by decide), k2⟩
theorem xfr23 : ∀ (n i p : Nat) (r : zRr), r 1 1 = nI p → p ≤ 6 → i ≤ p → p < n + i → zFr [32] r (Gm_fresh0_23 n (nI i) r) := by
  intro n
  induction n with
  | zero => intro i p r h1 h2 h3 h4; omega
  | succ n ih =>
    intro i p r h1 h2 h3 h4
    have e0 : Gm_fresh0_23 (n + 1) (nI i) r = Bm_fresh0_23 (Gm_fresh0_23 n) (nI i) r := rfl
    rw [e0]
    unfold Bm_fresh0_23
    simp only [zifQ, zletQ, h1, nI_1]
    by_cases hp : p ≤ i
    · have c : nI p ≤ nI i := (nI_leI (by omega) (by omega)).mpr hp
      rw [if_pos c]
      exact zFr.refl
    · have c : ¬ nI p ≤ nI i := fun h => hp ((nI_leI (by omega) (by omega)).mp h)
      rw [if_neg c]
      refine zFr.tr ?_ (ih (i + 1) p _ ?_ h2 (by omega) (by omega)) (by decide)
      · exact (((zFr.refl.set rfl).set rfl).set rfl).set rfl
      · exact h1
theorem xfr2 : ∀ (n i p : Nat) (r : zRr), r 1 1 = nI p → p ≤ 6 → i ≤ 31 → 31 < n + i → zFr [32] r (Gm_fresh0_2 n (nI i) r) := by
  intro n
  induction n with
  | zero => intro i p r h1 h2 h3 h4; omega
  | succ n ih =>
    intro i p r h1 h2 h3 h4
    have e0 : Gm_fresh0_2 (n + 1) (nI i) r = Bm_fresh0_2 (Gm_fresh0_2 n) (nI i) r := rfl
    rw [e0]
    unfold Bm_fresh0_2
    simp only [zifQ, zletQ, nI_1]
    by_cases hp : 31 ≤ i
    · have c : (31 : Int32) ≤ nI i := (nI_leI (a := 31) (by omega) (by omega)).mpr hp
      rw [if_pos c]
      exact xfr23 7 0 p r h1 h2 (by omega) (by omega)
    · have c : ¬ (31 : Int32) ≤ nI i := fun h => hp ((nI_leI (a := 31) (by omega) (by omega)).mp h)
      rw [if_neg c]
      refine zFr.tr ?_ (ih (i + 1) p _ ?_ h2 (by omega) (by omega)) (by decide)
      · exact zFr.refl.set rfl
      · exact h1
theorem xfresh {p : Nat} {r : zRr} {q : zRq} (h1 : r 1 1 = nI p) (h2 : p ≤ 6) : zFr [32] r (Gm_fresh0 r q) := by
  unfold Gm_fresh0
  exact xfr2 32 0 p r h1 h2 (by omega) (by omega)
theorem xlays14 {a b : Int32} : ∀ (n i : Nat) (r : zRr), i ≤ 40 → 40 < n + i → zFr [26, 27, 28] r (Gm_laysLines_14 a b n (nI i) r) := by
  intro n
  induction n with
  | zero => intro i r h1 h2; omega
  | succ n ih =>
    intro i r h1 h2
    have e0 : Gm_laysLines_14 a b (n + 1) (nI i) r = Bm_laysLines_14 a b (Gm_laysLines_14 a b n) (nI i) r := rfl
    rw [e0]
    unfold Bm_laysLines_14
    simp only [zifQ, zletQ, nI_1]
    by_cases hp : 40 ≤ i
    · have c : (40 : Int32) ≤ nI i := (nI_leI (a := 40) (by omega) (by omega)).mpr hp
      rw [if_pos c]
      exact zFr.refl
    · have c : ¬ (40 : Int32) ≤ nI i := fun h => hp ((nI_leI (a := 40) (by omega) (by omega)).mp h)
      rw [if_neg c]
      refine zFr.tr ?_ (ih (i + 1) _ (by omega) (by omega)) (by decide)
      exact ((zFr.refl.set rfl).set rfl).set rfl
theorem xlaysL {a b : Int32} {r : zRr} {q : zRq} : zFr [25, 26, 27, 28] r (Gm_laysLines a b r q) := by
  unfold Gm_laysLines
  rw [zletQ]
  have f : zFr [25, 26, 27, 28] r (zset r 25 (upd (r 25) (zn b) (r 25 (zn a)))) := zFr.refl.set rfl
  exact f.tr (xlays14 41 0 _ (by omega) (by omega)) (by decide)
/-- rows of the LAND that is told, of frames that leave them -/
theorem xKk.of {M : List Nat} {r r1 : zRr} {q q1 : zRq} (f : zFr M r r1) (g : q1 = q) (h : ([171, 172, 173, 174, 175, 176, 177, 178, 179, 180, 181].all fun k => !M.contains k) = true) : xKk r q r1 q1 := by
  subst g
  refine ⟨fun a h1 h2 => f a ?_, rfl, rfl⟩
  have := List.all_eq_true.mp h a (by
    rcases (show a = 171 ∨ a = 172 ∨ a = 173 ∨ a = 174 ∨ a = 175 ∨ a = 176 ∨ a = 177 ∨ a = 178 ∨ a = 179 ∨ a = 180 ∨ a = 181 by omega) with rfl | rfl | rfl | rfl | rfl | rfl | rfl | rfl | rfl | rfl | rfl <;> decide)
  cases e : M.contains a with
  | false => rfl
  | true => rw [e] at this; cases this
theorem xLow.of_ {M : List Nat} {r r1 : zRr} {q q1 : zRq} (f : zFr M r r1) (g : q1 = q) (h : ([1, 4, 5, 6, 7, 8, 9, 10, 11, 12].all fun k => !M.contains k) = true) : xLow r q r1 q1 := by
  subst g
  have k : ∀ a, a ∈ [1, 4, 5, 6, 7, 8, 9, 10, 11, 12] → r1 a = r a := by
    intro a ha
    have := List.all_eq_true.mp h a ha
    refine f a ?_
    cases e : M.contains a with
    | false => rfl
    | true => rw [e] at this; cases this
  refine xLow.of (k 1 (by decide)) (fun a h1 h2 => k a ?_) rfl rfl
  rcases (show a = 4 ∨ a = 5 ∨ a = 6 ∨ a = 7 ∨ a = 8 ∨ a = 9 ∨ a = 10 ∨ a = 11 ∨ a = 12 by omega) with rfl | rfl | rfl | rfl | rfl | rfl | rfl | rfl | rfl <;> decide
theorem xKk.tr {r r1 r2 : zRr} {q q1 q2 : zRq} (h : xKk r q r1 q1) (k : xKk r1 q1 r2 q2) : xKk r q r2 q2 :=
  ⟨fun a h1 h2 => (k.1 a h1 h2).trans (h.1 a h1 h2), k.2.1.trans h.2.1, k.2.2.trans h.2.2⟩
theorem xKk.g {r r1 : zRr} {q q1 : zRq} (h : xGk r q r1 q1) : xKk r q r1 q1 := by
  refine ⟨fun a h1 h2 => h.1 a ?_, h.2 174 (by decide), h.2 179 (by decide)⟩
  rcases (show a = 171 ∨ a = 172 ∨ a = 173 ∨ a = 174 ∨ a = 175 ∨ a = 176 ∨ a = 177 ∨ a = 178 ∨ a = 179 ∨ a = 180 ∨ a = 181 by omega) with rfl | rfl | rfl | rfl | rfl | rfl | rfl | rfl | rfl | rfl | rfl <;> decide
theorem xD.len {t p : Nat} {r : zRr} {q : zRq} {rm : zRr} {qm : zRq} (h : xD t p r q rm qm) : ∃ m, r 192 2 = nI m ∧ m ≤ 1000 := by
  rcases h.2.2.2.2 with ⟨_, _, g⟩ | ⟨_, C, F, _, _, _, g4, _, g6⟩
  · exact ⟨4, g.c1, by decide⟩
  · exact ⟨C.length, g6.c1, g4⟩
theorem xLand {L t p : Nat} {r : zRr} {q : zRq} {rm : zRr} {qm : zRq} (h : xTp L r rm) (hD : xTd t p r q rm qm) : ∃ t p, xTd t p (Gk_land r q).2.1 (Gk_land r q).2.2 (Gm_land rm qm).2.1 (Gm_land rm qm).2.2 := by
  obtain ⟨gk, gm, k⟩ := xland (q := q) (qm := qm) (show xTp L r (zset rm 100 (fun _ => 0)) from h)
  obtain ⟨_, _, _, _, _, _, _, _, c9⟩ := xclear (r := r) (q := q) (rm := zset rm 122 (fun _ => 1000)) rfl
  unfold Gk_land Gm_land
  simp only [zletQ]
  generalize Gk_readL r q = o at gk k ⊢
  generalize Gm_readsAll (zset rm 100 (fun _ => 0)) qm = om at gm k ⊢
  obtain ⟨v, r15, q16⟩ := o
  obtain ⟨w, rm9, qm10⟩ := om
  have gk : xGk (xRa (Gk_clear r q)) q r15 q16 := gk
  have gm : xGm (xMb (zset rm 100 (fun _ => 0))) qm rm9 qm10 := gm
  rw [xcvrq (r := r15), xcvrq (r := rm9)]
  simp only [zletQ, zifnQ]
  rcases k with ⟨a1, a2, a3⟩ | ⟨a1, a2, t', p', a3⟩
  · have a1 : v = 0 := a1
    have a2 : w = 0 := a2
    rw [if_pos a1, if_pos a2]
    refine ⟨t, p, hD.fr ?_ ?_⟩
    · have f1 : xKk r q (Gk_clear r q) q := xKk.of c9 rfl (by decide)
      have f2 : xKk (Gk_clear r q) q (xRa (Gk_clear r q)) q := xKk.of (M := [196, 198]) (((((zFr.refl.set rfl).set rfl).set rfl).set rfl).set rfl) rfl (by decide)
      have f3 : xKk r15 q16 (zset r15 196 (upd (r15 196) 1 0)) q16 := xKk.of (M := [196]) (zFr.refl.set rfl) rfl (by decide)
      exact ((f1.tr f2).tr (xKk.g gk)).tr f3
    · have m0 : xGm rm qm (zset rm 100 (fun _ => 0)) qm → True := fun _ => trivial
      have l1 : xLow rm qm (zset rm 100 (fun _ => 0)) qm := xLow.of_ (M := [100]) (zFr.refl.set rfl) rfl (by decide)
      have g1 : xGm (zset rm 100 (fun _ => 0)) qm (xMa (zset rm 100 (fun _ => 0))) qm := by
        refine xGm.fld (xGm.fld (k := 123) ?_ (by decide) (by decide)) (by decide) (by decide)
        exact (((((xGm.refl.cell (k := 1) (j := 4) (by decide) (by omega) (by omega) (by omega) (by omega)).cell (k := 1) (j := 5) (by decide) (by omega) (by omega) (by omega) (by omega)).cell (k := 1) (j := 6) (by decide) (by omega) (by omega) (by omega) (by omega)).cell (k := 1) (j := 7) (by decide) (by omega) (by omega) (by omega) (by omega)).cell (k := 10) (j := 1) (by decide) (by omega) (by omega) (by omega) (by omega)).cell (k := 11) (j := 1) (by decide) (by omega) (by omega) (by omega) (by omega)
      have l2 : xLow (xMa (zset rm 100 (fun _ => 0))) qm (xMb (zset rm 100 (fun _ => 0))) qm := xLow.of_ (M := [101, 103, 104]) (((zFr.refl.set rfl).set rfl).set rfl) rfl (by decide)
      exact ((l1.tr g1.2.2).tr l2).tr gm.2.2
  · have a1 : v = 1 := a1
    have a2 : w = 1 := a2
    have a3 : xD t' p' r15 q16 rm9 qm10 := a3
    rw [if_neg (show ¬ v = 0 by rw [a1]; decide), if_neg (show ¬ w = 0 by rw [a2]; decide)]
    have hD17 : xD t' p' (zset r15 196 (upd (r15 196) 1 0)) q16 rm9 qm10 := a3.tok (q1 := q16) (qm1 := qm10) ⟨zFr.refl.set rfl, xFq.refl⟩ xFm9.refl
    generalize zset r15 196 (upd (r15 196) 1 0) = r17 at hD17 ⊢
    obtain ⟨m, em, hm⟩ := hD17.len
    have hT : xTd t' p' (kcpL r17 (zn (r17 192 2))) (kcpLq q16) (Gm_lays rm9 qm10).1 (Gm_lays rm9 qm10).2 := by
      refine xtell hD17 rfl (fun a h1 h2 h3 => ?_) ?_ rfl rfl rfl ?_ (fun a h1 h2 => ?_) ?_ ?_ ?_ ?_ ?_
      · unfold kcpL
        rw [if_neg (by omega), if_neg (by omega), if_neg (by omega), if_pos ⟨h1, h2, h3⟩]
      · show upd (r17 180) 2 (nI (zn (r17 192 2))) 2 = r17 192 2
        rw [pk_us, em, xzn (by omega)]
      all_goals (unfold Gm_lays; simp only [zletQ])
      · rfl
      · rcases (show a = 4 ∨ a = 5 ∨ a = 6 ∨ a = 7 ∨ a = 8 ∨ a = 9 by omega) with rfl | rfl | rfl | rfl | rfl | rfl <;> rfl
      · rfl
      · rfl
      · rfl
      · rfl
      · rfl
    generalize kcpLq q16 = q20 at hT ⊢
    generalize kcpL r17 (zn (r17 192 2)) = r21 at hT ⊢
    generalize Gm_lays rm9 qm10 = ol at hT ⊢
    obtain ⟨rm14, qm15⟩ := ol
    have hT : xTd t' p' r21 q20 rm14 qm15 := hT
    rw [xcrq (r := rm14)]
    have f8 := xbegin8 (q := q20) hT.2.1.1 hT.2.1.2.2
    have g8 := xfresh (q := qm15) hT.2.1.2.1 hT.2.1.2.2
    generalize Gk_begin8N r21 q20 = u22 at f8 ⊢
    generalize Gm_fresh0 rm14 qm15 = um at g8 ⊢
    have f6 := xclear6 (r := zset u22 138 (upd (u22 138) 3 0)) (q := q20)
    generalize Gk_clear6 (zset u22 138 (upd (u22 138) 3 0)) q20 = u25 at f6 ⊢
    have f5 := xforget (r := u25) (q := q20)
    generalize Gk_forgetPast u25 q20 = u27 at f5 ⊢
    obtain ⟨f4, f4q⟩ := xl79f 5 0 u27 q20 (by omega) (by omega)
    rw [nI_0] at f4 f4q
    have b1 : zFr [6, 7, 8, 9, 10, 11, 138, 162, 167, 168, 169, 170, 195] r21 (zset u22 138 (upd (u22 138) 3 0)) := (f8.up (by decide)).set (by decide)
    have b4 := ((b1.tr f6 (by decide)).tr f5 (by decide)).tr f4 (by decide)
    refine ⟨t', p', hT.fr (xKk.of b4 f4q (by decide)) (xLow.of_ (M := [25, 29, 32, 37, 151]) ?_ ?_ (by decide))⟩
    · refine zFr.tr ?_ (xm46f 5 0 _ qm15 (by omega) (by omega)).1 (by decide)
      exact (((g8.up (by decide)).set (by decide)).set (by decide)).set (by decide)
    · exact (xm46f 5 0 _ qm15 (by omega) (by omega)).2
/-- journey: what it answers, what it leaves told -/
theorem xJour {L t p : Nat} {r : zRr} {q : zRq} {rm : zRr} {qm : zRq} (h : xTp L r rm) (hD : xTd t p r q rm qm) : (Gk_journey r q).1 = (Gm_journey rm qm).1 ∧ xTd t p (Gk_journey r q).2.1 (Gk_journey r q).2.2 (Gm_journey rm qm).2.1 (Gm_journey rm qm).2.2 := by
  obtain ⟨⟨hk, k⟩, hD1⟩ := xjourney h hD
  unfold Gk_journey
  generalize Gk_readJ r q = o at hk k ⊢
  generalize Gm_journey rm qm = om at k ⊢
  obtain ⟨v, r3, q4⟩ := o
  obtain ⟨w, rm3, qm4⟩ := om
  have hk : xJk (xRj r) q r3 q4 := hk
  have hk5 : xJk (xRj r) q (zset r3 196 (upd (r3 196) 1 0)) q4 := hk.set (by decide)
  rw [xcvrq (r := r3)]
  simp only [zletQ, zifnQ]
  rcases k with ⟨g1, g2, g3⟩ | ⟨g1, g2, n, rm1, g3, g4, g5⟩
  · have g1 : v = 0 := g1
    have g2 : xJm (xMk rm) qm rm3 qm4 := g2
    have g3 : w = r3 196 7 := g3
    rw [if_pos g1]
    refine ⟨?_, hD1.j hk5 g2⟩
    show zset r3 196 (upd (r3 196) 1 0) 196 7 = w
    rw [zset_eq, pk_un (by decide), g3]
  · have g1 : v = 1 := g1
    have g2 : w = 0 := g2
    have g3 : xJm (xMk rm) qm rm1 qm4 := g3
    have g4 : rm3 = Gm_laysLines 5 0 rm1 qm4 := g4
    rw [if_neg (show ¬ v = 0 by rw [g1]; decide)]
    have hD2 := hD1.j hk5 g3
    generalize zset r3 196 (upd (r3 196) 1 0) = r5 at hD2 ⊢
    refine ⟨g2.symm, hD2.fr ⟨fun a h1 h2 => kcp1_o (by omega), rfl, rfl⟩ ?_⟩
    show xLow rm1 qm4 rm3 qm4
    rw [g4]
    exact xLow.of_ xlaysL rfl (by decide)
/-- the LAND that is told -/
noncomputable def lD (r : zRr) (q : zRq) (rm : zRr) (qm : zRq) : Prop := ∃ t p, xTd t p r q rm qm
theorem lD.fr {r r1 : zRr} {q q1 : zRq} {rm rm1 : zRr} {qm qm1 : zRq} (h : lD r q rm qm) (k : xKk r q r1 q1) (m : xLow rm qm rm1 qm1) : lD r1 q1 rm1 qm1 := by
  obtain ⟨t, p, h⟩ := h
  exact ⟨t, p, h.fr k m⟩
