set_option maxHeartbeats 4000000 in
set_option maxRecDepth 100000 in
theorem c_rests11 (l : Launch) (hst : l.stackTraces = false) (D : va_G) (ct : Nat → ClassId) (h0 : Nat) (p1 p2 p3 : Int32) (sa sb sz : Nat) : vx_Met l yX11_rests zwsR ({ frames := 9, cells := 1, slots := 6, locals := 400 }) (zPx D ct sa sb [.ref h0, .int p1, .int p2, .int p3] [] sz) (zQ D (va_A [] sz) (S := Int32) (fun v => some (.int v)) (fun v => zrs p1 p2 p3 = some v) (fun _ => [])) (vx_X (S := Unit) (fun _ => zrs p1 p2 p3 = none) (fun E _ _ => E = "java/util/NoSuchElementException") (va_A [] sz)) 1 6 (va_A [] sz) := by
  refine vx_ofW (cc := cX11_rests) (maxL := 6) (ret := some .int) (by decide) rfl ?_
  intro p e s m args below meth c s₁ Bd hml htab hv
  obtain ⟨⟨rfl, hsz, hP, hK, hD0, hZ, hN⟩, hX⟩ := hv
  have hts := atoms_spec (ws := zwsR) Bd.pre
  subst hsz
  have hD := hD0.self (sz := s.heap.size)
  have hl := lv_entry [.ref h0, .int p1, .int p2, .int p3] (n := 6) (Nat.le_of_ble_eq_true rfl)
  rw [lg_entry_eq]
  have hx := Bd.exec
  have hb := Bd.bytes
  have hr := Bd.returns
  have hown : s.vm.findClass RX11 = some m.cls := findClass_of_methodNamed Bd.named
  have hlocks := Bd.notSynchronized
  have hA : ∀ q, s.heap.size ≤ q → va_A [] s.heap.size q := fun q h => Or.inr h
  have hS : va_S (va_A [] s.heap.size) s.heap s.heap [] := va_S.rf
  have hw : zPD D (va_A [] s.heap.size) [] s.heap := ⟨hP, hD⟩
  generalize va_A [] s.heap.size = A at hX hA hS hw ⊢
  have hat : ∀ w ∈ zAt, w.before _ s = true := fun w h => hts w (zRa w h)
  generalize (lg_sl ([.ref h0, .int p1, .int p2, .int p3] : List Value) ++ List.replicate (6 - (lg_sl ([.ref h0, .int p1, .int p2, .int p3] : List Value)).length) Slot.unset).toArray = ls at hl ⊢
  have hl : lv_has ls 6 [(0, .ref h0), (1, .int p1), (2, .int p2), (3, .int p3)] := hl
  generalize hH0 : s.heap = H at hw
  have hS : va_S A s.heap H [] := hH0 ▸ hS
  generalize hlo : ([] : List Loc) = locs at hS
  show W p l e ({ frames := 9, cells := 1, slots := 6, locals := 400 }) s m _ below meth c H locs 0 0 _ _
  refine lv_iload_n hx hb dX11_rests_0 rfl (lv_at hl 1 rfl) ?_
  refine scall0 (As := [.int p1]) (rest := []) ⟨hx, hb, hml, hown, hts⟩ (c_stake l D ct p1) (va_cwS 1 hts gX11_rests_X11_isStake rfl rfl rfl (by decide +kernel) ⟨Nat.le_of_ble_eq_true rfl, Nat.le_of_ble_eq_true rfl⟩) hw hS hA hK hN rfl rfl hl.1 rfl (Nat.le_of_ble_eq_true rfl) dX11_rests_1 (fun _ H locs hp1 hw hS => ?_)
  have hw : zPD D A [] H := hw
  refine zfr 4 [.int (zwi p1 0 9)] rfl rfl ?_
  refine lv_if_eq (tgt := 19) hx hb dX11_rests_4 (by decide) (fun c_2 => ?_) (fun c_2 => ?_)
  · exact zthrow (text := "no such frontier") (is := 330) (A := A) hx hb hst hown (hts (.classLink RX11 328 "java/util/NoSuchElementException") (zRp 1 rfl)) (hts (.initialized "java/util/NoSuchElementException") (zRp 2 rfl)) hX.2.2.1 hat hX.1 hX.2.1 hS (hl.1.trans hml.symm) dX11_rests_19 dX11_rests_22 dX11_rests_23 dX11_rests_26 dX11_rests_29 (fun x hx => (htab x hx).elim) (by decide) (by decide) (Nat.le_of_ble_eq_true rfl) (Nat.le_of_ble_eq_true rfl) hlocks (fun t hvm hz hk => ⟨(), by rw [zrs, if_pos c_2], rfl, Nat.le_trans hS.1 hz, fun q h1 h2 => (hk q (Nat.lt_of_lt_of_le h1 hS.1)).trans (hS.2.1 q h1 h2)⟩) hS.2.2 (Nat.le_of_ble_eq_true rfl) (Nat.le_of_ble_eq_true rfl)
  · refine lv_iload_n hx hb dX11_rests_7 rfl (lv_at hl 2 rfl) ?_
    refine scall0 (As := [.int p2]) (rest := []) ⟨hx, hb, hml, hown, hts⟩ (c_stake l D ct p2) (va_cwS 1 hts gX11_rests_X11_isStake rfl rfl rfl (by decide +kernel) ⟨Nat.le_of_ble_eq_true rfl, Nat.le_of_ble_eq_true rfl⟩) hw hS hA hK hN rfl rfl hl.1 rfl (Nat.le_of_ble_eq_true rfl) dX11_rests_8 (fun _ H locs hp3 hw hS => ?_)
    have hw : zPD D A [] H := hw
    refine zfr 11 [.int (zwi p2 0 9)] rfl rfl ?_
    refine lv_if_eq (tgt := 19) hx hb dX11_rests_11 (by decide) (fun c_4 => ?_) (fun c_4 => ?_)
    · exact zthrow (text := "no such frontier") (is := 330) (A := A) hx hb hst hown (hts (.classLink RX11 328 "java/util/NoSuchElementException") (zRp 1 rfl)) (hts (.initialized "java/util/NoSuchElementException") (zRp 2 rfl)) hX.2.2.1 hat hX.1 hX.2.1 hS (hl.1.trans hml.symm) dX11_rests_19 dX11_rests_22 dX11_rests_23 dX11_rests_26 dX11_rests_29 (fun x hx => (htab x hx).elim) (by decide) (by decide) (Nat.le_of_ble_eq_true rfl) (Nat.le_of_ble_eq_true rfl) hlocks (fun t hvm hz hk => ⟨(), by rw [zrs, if_neg c_2, if_pos c_4], rfl, Nat.le_trans hS.1 hz, fun q h1 h2 => (hk q (Nat.lt_of_lt_of_le h1 hS.1)).trans (hS.2.1 q h1 h2)⟩) hS.2.2 (Nat.le_of_ble_eq_true rfl) (Nat.le_of_ble_eq_true rfl)
    · refine lv_iload_n hx hb dX11_rests_14 rfl (lv_at hl 3 rfl) ?_
      refine lv_iconst (v := (-1)) hx hb dX11_rests_15 (by decide) ?_
      refine lv_icmp_ge (tgt := 30) hx hb dX11_rests_16 (by decide) (fun c_5 => ?_) (fun c_5 => ?_)
      · refine lv_iconst (v := 0) hx hb dX11_rests_30 (by decide) ?_
        refine lv_istore (lv' := [(4, .int 0), (0, .ref h0), (1, .int p1), (2, .int p2), (3, .int p3)]) hx hb dX11_rests_31 hl (by decide) rfl (fun ls hl => ?_)
        refine lv_iconst (v := 0) hx hb dX11_rests_33 (by decide) ?_
        refine lv_istore (lv' := [(5, .int 0), (4, .int 0), (0, .ref h0), (1, .int p1), (2, .int p2), (3, .int p3)]) hx hb dX11_rests_34 hl (by decide) rfl (fun ls hl => ?_)
        refine lv_iload hx hb dX11_rests_36 (lv_at hl 0 rfl) ?_
        refine lv_iconst (v := 4) hx hb dX11_rests_38 (by decide) ?_
        refine lv_icmp_ge (tgt := 70) hx hb dX11_rests_39 (by decide) (fun h => absurd h (by decide)) (fun _ => ?_)
        refine lv_iload_n hx hb dX11_rests_42 rfl (lv_at hl 3 rfl) ?_
        refine lv_iload_n hx hb dX11_rests_43 rfl (lv_at hl 4 rfl) ?_
        refine lv_iload hx hb dX11_rests_44 (lv_at hl 0 rfl) ?_
        refine scall0 (As := [.int p1, .int p2, .int 0]) (rest := []) ⟨hx, hb, hml, hown, hts⟩ (c_ar0 l D ct p1 p2) (va_cwS 3 hts gX11_rests_X11_isAtRest rfl rfl rfl (by decide +kernel) ⟨Nat.le_of_ble_eq_true rfl, Nat.le_of_ble_eq_true rfl⟩) hw hS hA hK hN rfl rfl hl.1 rfl (Nat.le_of_ble_eq_true rfl) dX11_rests_46 (fun _ H locs hp7 hw hS => ?_)
        have hw : zPD D A [] H := hw
        refine zfr 49 [.int (zat0 p2)] rfl rfl ?_
        refine lv_if_eq (tgt := 64) hx hb dX11_rests_49 (by decide) (fun c_8 => ?_) (fun c_8 => ?_)
        · refine lv_iinc (v := 1) (lv' := [(5, .int 1), (4, .int 0), (0, .ref h0), (1, .int p1), (2, .int p2), (3, .int p3)]) hx hb dX11_rests_64 hl (k := 0) rfl (by decide) (by decide) rfl (fun ls hl => ?_)
          refine lv_goto (tgt := 36) hx hb dX11_rests_67 (by decide) ?_
          refine lv_iload hx hb dX11_rests_36 (lv_at hl 0 rfl) ?_
          refine lv_iconst (v := 4) hx hb dX11_rests_38 (by decide) ?_
          refine lv_icmp_ge (tgt := 70) hx hb dX11_rests_39 (by decide) (fun h => absurd h (by decide)) (fun _ => ?_)
          refine lv_iload_n hx hb dX11_rests_42 rfl (lv_at hl 3 rfl) ?_
          refine lv_iload_n hx hb dX11_rests_43 rfl (lv_at hl 4 rfl) ?_
          refine lv_iload hx hb dX11_rests_44 (lv_at hl 0 rfl) ?_
          refine scall0 (As := [.int p1, .int p2, .int 1]) (rest := []) ⟨hx, hb, hml, hown, hts⟩ (c_ar1 l D ct p1 p2) (va_cwS 3 hts gX11_rests_X11_isAtRest rfl rfl rfl (by decide +kernel) ⟨Nat.le_of_ble_eq_true rfl, Nat.le_of_ble_eq_true rfl⟩) hw hS hA hK hN rfl rfl hl.1 rfl (Nat.le_of_ble_eq_true rfl) dX11_rests_46 (fun _ H locs hp10 hw hS => ?_)
          have hw : zPD D A [] H := hw
          refine zfr 49 [.int (zat1 p1 p2)] rfl rfl ?_
          refine lv_if_eq (tgt := 64) hx hb dX11_rests_49 (by decide) (fun c_11 => ?_) (fun c_11 => ?_)
          · refine lv_iinc (v := 2) (lv' := [(5, .int 2), (4, .int 0), (0, .ref h0), (1, .int p1), (2, .int p2), (3, .int p3)]) hx hb dX11_rests_64 hl (k := 0) rfl (by decide) (by decide) rfl (fun ls hl => ?_)
            refine lv_goto (tgt := 36) hx hb dX11_rests_67 (by decide) ?_
            refine lv_iload hx hb dX11_rests_36 (lv_at hl 0 rfl) ?_
            refine lv_iconst (v := 4) hx hb dX11_rests_38 (by decide) ?_
            refine lv_icmp_ge (tgt := 70) hx hb dX11_rests_39 (by decide) (fun h => absurd h (by decide)) (fun _ => ?_)
            refine lv_iload_n hx hb dX11_rests_42 rfl (lv_at hl 3 rfl) ?_
            refine lv_iload_n hx hb dX11_rests_43 rfl (lv_at hl 4 rfl) ?_
            refine lv_iload hx hb dX11_rests_44 (lv_at hl 0 rfl) ?_
            refine scall0 (As := [.int p1, .int p2, .int 2]) (rest := []) ⟨hx, hb, hml, hown, hts⟩ (c_ar2 l D ct p1 p2) (va_cwS 3 hts gX11_rests_X11_isAtRest rfl rfl rfl (by decide +kernel) ⟨Nat.le_of_ble_eq_true rfl, Nat.le_of_ble_eq_true rfl⟩) hw hS hA hK hN rfl rfl hl.1 rfl (Nat.le_of_ble_eq_true rfl) dX11_rests_46 (fun _ H locs hp13 hw hS => ?_)
            have hw : zPD D A [] H := hw
            refine zfr 49 [.int 0] rfl rfl ?_
            refine lv_if_eq (tgt := 64) hx hb dX11_rests_49 (by decide) (fun _ => ?_) (fun h => absurd (by decide) h)
            refine lv_iinc (v := 3) (lv' := [(5, .int 3), (4, .int 0), (0, .ref h0), (1, .int p1), (2, .int p2), (3, .int p3)]) hx hb dX11_rests_64 hl (k := 0) rfl (by decide) (by decide) rfl (fun ls hl => ?_)
            refine lv_goto (tgt := 36) hx hb dX11_rests_67 (by decide) ?_
            refine lv_iload hx hb dX11_rests_36 (lv_at hl 0 rfl) ?_
            refine lv_iconst (v := 4) hx hb dX11_rests_38 (by decide) ?_
            refine lv_icmp_ge (tgt := 70) hx hb dX11_rests_39 (by decide) (fun h => absurd h (by decide)) (fun _ => ?_)
            refine lv_iload_n hx hb dX11_rests_42 rfl (lv_at hl 3 rfl) ?_
            refine lv_iload_n hx hb dX11_rests_43 rfl (lv_at hl 4 rfl) ?_
            refine lv_iload hx hb dX11_rests_44 (lv_at hl 0 rfl) ?_
            refine scall0 (As := [.int p1, .int p2, .int 3]) (rest := []) ⟨hx, hb, hml, hown, hts⟩ (c_ar3 l D ct p1 p2) (va_cwS 3 hts gX11_rests_X11_isAtRest rfl rfl rfl (by decide +kernel) ⟨Nat.le_of_ble_eq_true rfl, Nat.le_of_ble_eq_true rfl⟩) hw hS hA hK hN rfl rfl hl.1 rfl (Nat.le_of_ble_eq_true rfl) dX11_rests_46 (fun _ H locs hp16 hw hS => ?_)
            have hw : zPD D A [] H := hw
            refine zfr 49 [.int (zat3 p1 p2)] rfl rfl ?_
            refine lv_if_eq (tgt := 64) hx hb dX11_rests_49 (by decide) (fun c_17 => ?_) (fun c_17 => ?_)
            · refine lv_iinc (v := 4) (lv' := [(5, .int 4), (4, .int 0), (0, .ref h0), (1, .int p1), (2, .int p2), (3, .int p3)]) hx hb dX11_rests_64 hl (k := 0) rfl (by decide) (by decide) rfl (fun ls hl => ?_)
              refine lv_goto (tgt := 36) hx hb dX11_rests_67 (by decide) ?_
              refine lv_iload hx hb dX11_rests_36 (lv_at hl 0 rfl) ?_
              refine lv_iconst (v := 4) hx hb dX11_rests_38 (by decide) ?_
              refine lv_icmp_ge (tgt := 70) hx hb dX11_rests_39 (by decide) (fun _ => ?_) (fun h => absurd (by decide) h)
              refine lv_iload_n hx hb dX11_rests_70 rfl (lv_at hl 5 rfl) ?_
              refine lv_iconst (v := (-1)) hx hb dX11_rests_71 (by decide) ?_
              refine lv_icmp_eq (tgt := 86) hx hb dX11_rests_72 (by decide) (fun c_19 => ?_) (fun c_19 => ?_)
              · refine lv_iload hx hb dX11_rests_86 (lv_at hl 1 rfl) ?_
                exact vx_ret (ziret hx hb hr rfl hlocks (S := Int32) 0 rfl (by rw [zrs, if_neg c_2, if_neg c_4, if_pos c_5, zrq0, if_pos c_8, zrq1, if_pos c_11, zrq3, if_pos c_17, zrq4, if_pos c_19]) hw [] rfl rfl hS (Nat.le_of_ble_eq_true rfl) (Nat.le_of_ble_eq_true rfl) dX11_rests_88)
              · exact zthrow (text := "no such rest") (is := 339) (A := A) hx hb hst hown (hts (.classLink RX11 328 "java/util/NoSuchElementException") (zRp 1 rfl)) (hts (.initialized "java/util/NoSuchElementException") (zRp 2 rfl)) hX.2.2.2 hat hX.1 hX.2.1 hS (hl.1.trans hml.symm) dX11_rests_75 dX11_rests_78 dX11_rests_79 dX11_rests_82 dX11_rests_85 (fun x hx => (htab x hx).elim) (by decide) (by decide) (Nat.le_of_ble_eq_true rfl) (Nat.le_of_ble_eq_true rfl) hlocks (fun t hvm hz hk => ⟨(), by rw [zrs, if_neg c_2, if_neg c_4, if_pos c_5, zrq0, if_pos c_8, zrq1, if_pos c_11, zrq3, if_pos c_17, zrq4, if_neg c_19], rfl, Nat.le_trans hS.1 hz, fun q h1 h2 => (hk q (Nat.lt_of_lt_of_le h1 hS.1)).trans (hS.2.1 q h1 h2)⟩) hS.2.2 (Nat.le_of_ble_eq_true rfl) (Nat.le_of_ble_eq_true rfl)
            · refine lv_iload hx hb dX11_rests_52 (lv_at hl 1 rfl) ?_
              refine lv_iload_n hx hb dX11_rests_54 rfl (lv_at hl 5 rfl) ?_
              refine lv_icmp_ne (tgt := 61) hx hb dX11_rests_55 (by decide) (fun c_20 => ?_) (fun c_20 => ?_)
              · refine lv_iinc (v := 1) (lv' := [(4, .int 1), (5, .int 3), (0, .ref h0), (1, .int p1), (2, .int p2), (3, .int p3)]) hx hb dX11_rests_61 hl (k := 1) rfl (by decide) (by decide) rfl (fun ls hl => ?_)
                refine lv_iinc (v := 4) (lv' := [(5, .int 4), (4, .int 1), (0, .ref h0), (1, .int p1), (2, .int p2), (3, .int p3)]) hx hb dX11_rests_64 hl (k := 1) rfl (by decide) (by decide) rfl (fun ls hl => ?_)
                refine lv_goto (tgt := 36) hx hb dX11_rests_67 (by decide) ?_
                refine lv_iload hx hb dX11_rests_36 (lv_at hl 0 rfl) ?_
                refine lv_iconst (v := 4) hx hb dX11_rests_38 (by decide) ?_
                refine lv_icmp_ge (tgt := 70) hx hb dX11_rests_39 (by decide) (fun _ => ?_) (fun h => absurd (by decide) h)
                refine lv_iload_n hx hb dX11_rests_70 rfl (lv_at hl 5 rfl) ?_
                refine lv_iconst (v := (-1)) hx hb dX11_rests_71 (by decide) ?_
                refine lv_icmp_eq (tgt := 86) hx hb dX11_rests_72 (by decide) (fun c_22 => ?_) (fun c_22 => ?_)
                · refine lv_iload hx hb dX11_rests_86 (lv_at hl 1 rfl) ?_
                  exact vx_ret (ziret hx hb hr rfl hlocks (S := Int32) 1 rfl (by rw [zrs, if_neg c_2, if_neg c_4, if_pos c_5, zrq0, if_pos c_8, zrq1, if_pos c_11, zrq3, if_neg c_17, if_neg c_20, zrq4, if_pos c_22]) hw [] rfl rfl hS (Nat.le_of_ble_eq_true rfl) (Nat.le_of_ble_eq_true rfl) dX11_rests_88)
                · exact zthrow (text := "no such rest") (is := 339) (A := A) hx hb hst hown (hts (.classLink RX11 328 "java/util/NoSuchElementException") (zRp 1 rfl)) (hts (.initialized "java/util/NoSuchElementException") (zRp 2 rfl)) hX.2.2.2 hat hX.1 hX.2.1 hS (hl.1.trans hml.symm) dX11_rests_75 dX11_rests_78 dX11_rests_79 dX11_rests_82 dX11_rests_85 (fun x hx => (htab x hx).elim) (by decide) (by decide) (Nat.le_of_ble_eq_true rfl) (Nat.le_of_ble_eq_true rfl) hlocks (fun t hvm hz hk => ⟨(), by rw [zrs, if_neg c_2, if_neg c_4, if_pos c_5, zrq0, if_pos c_8, zrq1, if_pos c_11, zrq3, if_neg c_17, if_neg c_20, zrq4, if_neg c_22], rfl, Nat.le_trans hS.1 hz, fun q h1 h2 => (hk q (Nat.lt_of_lt_of_le h1 hS.1)).trans (hS.2.1 q h1 h2)⟩) hS.2.2 (Nat.le_of_ble_eq_true rfl) (Nat.le_of_ble_eq_true rfl)
              · refine lv_iload hx hb dX11_rests_58 (lv_at hl 0 rfl) ?_
                exact vx_ret (ziret hx hb hr rfl hlocks (S := Int32) 3 rfl (by rw [zrs, if_neg c_2, if_neg c_4, if_pos c_5, zrq0, if_pos c_8, zrq1, if_pos c_11, zrq3, if_neg c_17, if_pos c_20]) hw [] rfl rfl hS (Nat.le_of_ble_eq_true rfl) (Nat.le_of_ble_eq_true rfl) dX11_rests_60)
          · refine lv_iload hx hb dX11_rests_52 (lv_at hl 1 rfl) ?_
            refine lv_iload_n hx hb dX11_rests_54 rfl (lv_at hl 5 rfl) ?_
            refine lv_icmp_ne (tgt := 61) hx hb dX11_rests_55 (by decide) (fun c_23 => ?_) (fun c_23 => ?_)
            · refine lv_iinc (v := 1) (lv' := [(4, .int 1), (5, .int 1), (0, .ref h0), (1, .int p1), (2, .int p2), (3, .int p3)]) hx hb dX11_rests_61 hl (k := 1) rfl (by decide) (by decide) rfl (fun ls hl => ?_)
              refine lv_iinc (v := 2) (lv' := [(5, .int 2), (4, .int 1), (0, .ref h0), (1, .int p1), (2, .int p2), (3, .int p3)]) hx hb dX11_rests_64 hl (k := 1) rfl (by decide) (by decide) rfl (fun ls hl => ?_)
              refine lv_goto (tgt := 36) hx hb dX11_rests_67 (by decide) ?_
              refine lv_iload hx hb dX11_rests_36 (lv_at hl 0 rfl) ?_
              refine lv_iconst (v := 4) hx hb dX11_rests_38 (by decide) ?_
              refine lv_icmp_ge (tgt := 70) hx hb dX11_rests_39 (by decide) (fun h => absurd h (by decide)) (fun _ => ?_)
              refine lv_iload_n hx hb dX11_rests_42 rfl (lv_at hl 3 rfl) ?_
              refine lv_iload_n hx hb dX11_rests_43 rfl (lv_at hl 4 rfl) ?_
              refine lv_iload hx hb dX11_rests_44 (lv_at hl 0 rfl) ?_
              refine scall0 (As := [.int p1, .int p2, .int 2]) (rest := []) ⟨hx, hb, hml, hown, hts⟩ (c_ar2 l D ct p1 p2) (va_cwS 3 hts gX11_rests_X11_isAtRest rfl rfl rfl (by decide +kernel) ⟨Nat.le_of_ble_eq_true rfl, Nat.le_of_ble_eq_true rfl⟩) hw hS hA hK hN rfl rfl hl.1 rfl (Nat.le_of_ble_eq_true rfl) dX11_rests_46 (fun _ H locs hp25 hw hS => ?_)
              have hw : zPD D A [] H := hw
              refine zfr 49 [.int 0] rfl rfl ?_
              refine lv_if_eq (tgt := 64) hx hb dX11_rests_49 (by decide) (fun _ => ?_) (fun h => absurd (by decide) h)
              refine lv_iinc (v := 3) (lv' := [(5, .int 3), (4, .int 1), (0, .ref h0), (1, .int p1), (2, .int p2), (3, .int p3)]) hx hb dX11_rests_64 hl (k := 0) rfl (by decide) (by decide) rfl (fun ls hl => ?_)
              refine lv_goto (tgt := 36) hx hb dX11_rests_67 (by decide) ?_
              refine lv_iload hx hb dX11_rests_36 (lv_at hl 0 rfl) ?_
              refine lv_iconst (v := 4) hx hb dX11_rests_38 (by decide) ?_
              refine lv_icmp_ge (tgt := 70) hx hb dX11_rests_39 (by decide) (fun h => absurd h (by decide)) (fun _ => ?_)
              refine lv_iload_n hx hb dX11_rests_42 rfl (lv_at hl 3 rfl) ?_
              refine lv_iload_n hx hb dX11_rests_43 rfl (lv_at hl 4 rfl) ?_
              refine lv_iload hx hb dX11_rests_44 (lv_at hl 0 rfl) ?_
              refine scall0 (As := [.int p1, .int p2, .int 3]) (rest := []) ⟨hx, hb, hml, hown, hts⟩ (c_ar3 l D ct p1 p2) (va_cwS 3 hts gX11_rests_X11_isAtRest rfl rfl rfl (by decide +kernel) ⟨Nat.le_of_ble_eq_true rfl, Nat.le_of_ble_eq_true rfl⟩) hw hS hA hK hN rfl rfl hl.1 rfl (Nat.le_of_ble_eq_true rfl) dX11_rests_46 (fun _ H locs hp28 hw hS => ?_)
              have hw : zPD D A [] H := hw
              refine zfr 49 [.int (zat3 p1 p2)] rfl rfl ?_
              refine lv_if_eq (tgt := 64) hx hb dX11_rests_49 (by decide) (fun c_29 => ?_) (fun c_29 => ?_)
              · refine lv_iinc (v := 4) (lv' := [(5, .int 4), (4, .int 1), (0, .ref h0), (1, .int p1), (2, .int p2), (3, .int p3)]) hx hb dX11_rests_64 hl (k := 0) rfl (by decide) (by decide) rfl (fun ls hl => ?_)
                refine lv_goto (tgt := 36) hx hb dX11_rests_67 (by decide) ?_
                refine lv_iload hx hb dX11_rests_36 (lv_at hl 0 rfl) ?_
                refine lv_iconst (v := 4) hx hb dX11_rests_38 (by decide) ?_
                refine lv_icmp_ge (tgt := 70) hx hb dX11_rests_39 (by decide) (fun _ => ?_) (fun h => absurd (by decide) h)
                refine lv_iload_n hx hb dX11_rests_70 rfl (lv_at hl 5 rfl) ?_
                refine lv_iconst (v := (-1)) hx hb dX11_rests_71 (by decide) ?_
                refine lv_icmp_eq (tgt := 86) hx hb dX11_rests_72 (by decide) (fun c_31 => ?_) (fun c_31 => ?_)
                · refine lv_iload hx hb dX11_rests_86 (lv_at hl 1 rfl) ?_
                  exact vx_ret (ziret hx hb hr rfl hlocks (S := Int32) 1 rfl (by rw [zrs, if_neg c_2, if_neg c_4, if_pos c_5, zrq0, if_pos c_8, zrq1, if_neg c_11, if_neg c_23, zrq3, if_pos c_29, zrq4, if_pos c_31]) hw [] rfl rfl hS (Nat.le_of_ble_eq_true rfl) (Nat.le_of_ble_eq_true rfl) dX11_rests_88)
                · exact zthrow (text := "no such rest") (is := 339) (A := A) hx hb hst hown (hts (.classLink RX11 328 "java/util/NoSuchElementException") (zRp 1 rfl)) (hts (.initialized "java/util/NoSuchElementException") (zRp 2 rfl)) hX.2.2.2 hat hX.1 hX.2.1 hS (hl.1.trans hml.symm) dX11_rests_75 dX11_rests_78 dX11_rests_79 dX11_rests_82 dX11_rests_85 (fun x hx => (htab x hx).elim) (by decide) (by decide) (Nat.le_of_ble_eq_true rfl) (Nat.le_of_ble_eq_true rfl) hlocks (fun t hvm hz hk => ⟨(), by rw [zrs, if_neg c_2, if_neg c_4, if_pos c_5, zrq0, if_pos c_8, zrq1, if_neg c_11, if_neg c_23, zrq3, if_pos c_29, zrq4, if_neg c_31], rfl, Nat.le_trans hS.1 hz, fun q h1 h2 => (hk q (Nat.lt_of_lt_of_le h1 hS.1)).trans (hS.2.1 q h1 h2)⟩) hS.2.2 (Nat.le_of_ble_eq_true rfl) (Nat.le_of_ble_eq_true rfl)
              · refine lv_iload hx hb dX11_rests_52 (lv_at hl 1 rfl) ?_
                refine lv_iload_n hx hb dX11_rests_54 rfl (lv_at hl 5 rfl) ?_
                refine lv_icmp_ne (tgt := 61) hx hb dX11_rests_55 (by decide) (fun c_32 => ?_) (fun c_32 => ?_)
                · refine lv_iinc (v := 2) (lv' := [(4, .int 2), (5, .int 3), (0, .ref h0), (1, .int p1), (2, .int p2), (3, .int p3)]) hx hb dX11_rests_61 hl (k := 1) rfl (by decide) (by decide) rfl (fun ls hl => ?_)
                  refine lv_iinc (v := 4) (lv' := [(5, .int 4), (4, .int 2), (0, .ref h0), (1, .int p1), (2, .int p2), (3, .int p3)]) hx hb dX11_rests_64 hl (k := 1) rfl (by decide) (by decide) rfl (fun ls hl => ?_)
                  refine lv_goto (tgt := 36) hx hb dX11_rests_67 (by decide) ?_
                  refine lv_iload hx hb dX11_rests_36 (lv_at hl 0 rfl) ?_
                  refine lv_iconst (v := 4) hx hb dX11_rests_38 (by decide) ?_
                  refine lv_icmp_ge (tgt := 70) hx hb dX11_rests_39 (by decide) (fun _ => ?_) (fun h => absurd (by decide) h)
                  refine lv_iload_n hx hb dX11_rests_70 rfl (lv_at hl 5 rfl) ?_
                  refine lv_iconst (v := (-1)) hx hb dX11_rests_71 (by decide) ?_
                  refine lv_icmp_eq (tgt := 86) hx hb dX11_rests_72 (by decide) (fun c_34 => ?_) (fun c_34 => ?_)
                  · refine lv_iload hx hb dX11_rests_86 (lv_at hl 1 rfl) ?_
                    exact vx_ret (ziret hx hb hr rfl hlocks (S := Int32) 2 rfl (by rw [zrs, if_neg c_2, if_neg c_4, if_pos c_5, zrq0, if_pos c_8, zrq1, if_neg c_11, if_neg c_23, zrq3, if_neg c_29, if_neg c_32, zrq4, if_pos c_34]) hw [] rfl rfl hS (Nat.le_of_ble_eq_true rfl) (Nat.le_of_ble_eq_true rfl) dX11_rests_88)
                  · exact zthrow (text := "no such rest") (is := 339) (A := A) hx hb hst hown (hts (.classLink RX11 328 "java/util/NoSuchElementException") (zRp 1 rfl)) (hts (.initialized "java/util/NoSuchElementException") (zRp 2 rfl)) hX.2.2.2 hat hX.1 hX.2.1 hS (hl.1.trans hml.symm) dX11_rests_75 dX11_rests_78 dX11_rests_79 dX11_rests_82 dX11_rests_85 (fun x hx => (htab x hx).elim) (by decide) (by decide) (Nat.le_of_ble_eq_true rfl) (Nat.le_of_ble_eq_true rfl) hlocks (fun t hvm hz hk => ⟨(), by rw [zrs, if_neg c_2, if_neg c_4, if_pos c_5, zrq0, if_pos c_8, zrq1, if_neg c_11, if_neg c_23, zrq3, if_neg c_29, if_neg c_32, zrq4, if_neg c_34], rfl, Nat.le_trans hS.1 hz, fun q h1 h2 => (hk q (Nat.lt_of_lt_of_le h1 hS.1)).trans (hS.2.1 q h1 h2)⟩) hS.2.2 (Nat.le_of_ble_eq_true rfl) (Nat.le_of_ble_eq_true rfl)
                · refine lv_iload hx hb dX11_rests_58 (lv_at hl 0 rfl) ?_
                  exact vx_ret (ziret hx hb hr rfl hlocks (S := Int32) 3 rfl (by rw [zrs, if_neg c_2, if_neg c_4, if_pos c_5, zrq0, if_pos c_8, zrq1, if_neg c_11, if_neg c_23, zrq3, if_neg c_29, if_pos c_32]) hw [] rfl rfl hS (Nat.le_of_ble_eq_true rfl) (Nat.le_of_ble_eq_true rfl) dX11_rests_60)
            · refine lv_iload hx hb dX11_rests_58 (lv_at hl 0 rfl) ?_
              exact vx_ret (ziret hx hb hr rfl hlocks (S := Int32) 1 rfl (by rw [zrs, if_neg c_2, if_neg c_4, if_pos c_5, zrq0, if_pos c_8, zrq1, if_neg c_11, if_pos c_23]) hw [] rfl rfl hS (Nat.le_of_ble_eq_true rfl) (Nat.le_of_ble_eq_true rfl) dX11_rests_60)
        · refine lv_iload hx hb dX11_rests_52 (lv_at hl 1 rfl) ?_
          refine lv_iload_n hx hb dX11_rests_54 rfl (lv_at hl 5 rfl) ?_
          refine lv_icmp_ne (tgt := 61) hx hb dX11_rests_55 (by decide) (fun c_35 => ?_) (fun c_35 => ?_)
          · refine lv_iinc (v := 1) (lv' := [(4, .int 1), (5, .int 0), (0, .ref h0), (1, .int p1), (2, .int p2), (3, .int p3)]) hx hb dX11_rests_61 hl (k := 1) rfl (by decide) (by decide) rfl (fun ls hl => ?_)
            refine lv_iinc (v := 1) (lv' := [(5, .int 1), (4, .int 1), (0, .ref h0), (1, .int p1), (2, .int p2), (3, .int p3)]) hx hb dX11_rests_64 hl (k := 1) rfl (by decide) (by decide) rfl (fun ls hl => ?_)
            refine lv_goto (tgt := 36) hx hb dX11_rests_67 (by decide) ?_
            refine lv_iload hx hb dX11_rests_36 (lv_at hl 0 rfl) ?_
            refine lv_iconst (v := 4) hx hb dX11_rests_38 (by decide) ?_
            refine lv_icmp_ge (tgt := 70) hx hb dX11_rests_39 (by decide) (fun h => absurd h (by decide)) (fun _ => ?_)
            refine lv_iload_n hx hb dX11_rests_42 rfl (lv_at hl 3 rfl) ?_
            refine lv_iload_n hx hb dX11_rests_43 rfl (lv_at hl 4 rfl) ?_
            refine lv_iload hx hb dX11_rests_44 (lv_at hl 0 rfl) ?_
            refine scall0 (As := [.int p1, .int p2, .int 1]) (rest := []) ⟨hx, hb, hml, hown, hts⟩ (c_ar1 l D ct p1 p2) (va_cwS 3 hts gX11_rests_X11_isAtRest rfl rfl rfl (by decide +kernel) ⟨Nat.le_of_ble_eq_true rfl, Nat.le_of_ble_eq_true rfl⟩) hw hS hA hK hN rfl rfl hl.1 rfl (Nat.le_of_ble_eq_true rfl) dX11_rests_46 (fun _ H locs hp37 hw hS => ?_)
            have hw : zPD D A [] H := hw
            refine zfr 49 [.int (zat1 p1 p2)] rfl rfl ?_
            refine lv_if_eq (tgt := 64) hx hb dX11_rests_49 (by decide) (fun c_38 => ?_) (fun c_38 => ?_)
            · refine lv_iinc (v := 2) (lv' := [(5, .int 2), (4, .int 1), (0, .ref h0), (1, .int p1), (2, .int p2), (3, .int p3)]) hx hb dX11_rests_64 hl (k := 0) rfl (by decide) (by decide) rfl (fun ls hl => ?_)
              refine lv_goto (tgt := 36) hx hb dX11_rests_67 (by decide) ?_
              refine lv_iload hx hb dX11_rests_36 (lv_at hl 0 rfl) ?_
              refine lv_iconst (v := 4) hx hb dX11_rests_38 (by decide) ?_
              refine lv_icmp_ge (tgt := 70) hx hb dX11_rests_39 (by decide) (fun h => absurd h (by decide)) (fun _ => ?_)
              refine lv_iload_n hx hb dX11_rests_42 rfl (lv_at hl 3 rfl) ?_
              refine lv_iload_n hx hb dX11_rests_43 rfl (lv_at hl 4 rfl) ?_
              refine lv_iload hx hb dX11_rests_44 (lv_at hl 0 rfl) ?_
              refine scall0 (As := [.int p1, .int p2, .int 2]) (rest := []) ⟨hx, hb, hml, hown, hts⟩ (c_ar2 l D ct p1 p2) (va_cwS 3 hts gX11_rests_X11_isAtRest rfl rfl rfl (by decide +kernel) ⟨Nat.le_of_ble_eq_true rfl, Nat.le_of_ble_eq_true rfl⟩) hw hS hA hK hN rfl rfl hl.1 rfl (Nat.le_of_ble_eq_true rfl) dX11_rests_46 (fun _ H locs hp40 hw hS => ?_)
              have hw : zPD D A [] H := hw
              refine zfr 49 [.int 0] rfl rfl ?_
              refine lv_if_eq (tgt := 64) hx hb dX11_rests_49 (by decide) (fun _ => ?_) (fun h => absurd (by decide) h)
              refine lv_iinc (v := 3) (lv' := [(5, .int 3), (4, .int 1), (0, .ref h0), (1, .int p1), (2, .int p2), (3, .int p3)]) hx hb dX11_rests_64 hl (k := 0) rfl (by decide) (by decide) rfl (fun ls hl => ?_)
              refine lv_goto (tgt := 36) hx hb dX11_rests_67 (by decide) ?_
              refine lv_iload hx hb dX11_rests_36 (lv_at hl 0 rfl) ?_
              refine lv_iconst (v := 4) hx hb dX11_rests_38 (by decide) ?_
              refine lv_icmp_ge (tgt := 70) hx hb dX11_rests_39 (by decide) (fun h => absurd h (by decide)) (fun _ => ?_)
              refine lv_iload_n hx hb dX11_rests_42 rfl (lv_at hl 3 rfl) ?_
              refine lv_iload_n hx hb dX11_rests_43 rfl (lv_at hl 4 rfl) ?_
              refine lv_iload hx hb dX11_rests_44 (lv_at hl 0 rfl) ?_
              refine scall0 (As := [.int p1, .int p2, .int 3]) (rest := []) ⟨hx, hb, hml, hown, hts⟩ (c_ar3 l D ct p1 p2) (va_cwS 3 hts gX11_rests_X11_isAtRest rfl rfl rfl (by decide +kernel) ⟨Nat.le_of_ble_eq_true rfl, Nat.le_of_ble_eq_true rfl⟩) hw hS hA hK hN rfl rfl hl.1 rfl (Nat.le_of_ble_eq_true rfl) dX11_rests_46 (fun _ H locs hp43 hw hS => ?_)
              have hw : zPD D A [] H := hw
              refine zfr 49 [.int (zat3 p1 p2)] rfl rfl ?_
              refine lv_if_eq (tgt := 64) hx hb dX11_rests_49 (by decide) (fun c_44 => ?_) (fun c_44 => ?_)
              · refine lv_iinc (v := 4) (lv' := [(5, .int 4), (4, .int 1), (0, .ref h0), (1, .int p1), (2, .int p2), (3, .int p3)]) hx hb dX11_rests_64 hl (k := 0) rfl (by decide) (by decide) rfl (fun ls hl => ?_)
                refine lv_goto (tgt := 36) hx hb dX11_rests_67 (by decide) ?_
                refine lv_iload hx hb dX11_rests_36 (lv_at hl 0 rfl) ?_
                refine lv_iconst (v := 4) hx hb dX11_rests_38 (by decide) ?_
                refine lv_icmp_ge (tgt := 70) hx hb dX11_rests_39 (by decide) (fun _ => ?_) (fun h => absurd (by decide) h)
                refine lv_iload_n hx hb dX11_rests_70 rfl (lv_at hl 5 rfl) ?_
                refine lv_iconst (v := (-1)) hx hb dX11_rests_71 (by decide) ?_
                refine lv_icmp_eq (tgt := 86) hx hb dX11_rests_72 (by decide) (fun c_46 => ?_) (fun c_46 => ?_)
                · refine lv_iload hx hb dX11_rests_86 (lv_at hl 1 rfl) ?_
                  exact vx_ret (ziret hx hb hr rfl hlocks (S := Int32) 1 rfl (by rw [zrs, if_neg c_2, if_neg c_4, if_pos c_5, zrq0, if_neg c_8, if_neg c_35, zrq1, if_pos c_38, zrq3, if_pos c_44, zrq4, if_pos c_46]) hw [] rfl rfl hS (Nat.le_of_ble_eq_true rfl) (Nat.le_of_ble_eq_true rfl) dX11_rests_88)
                · exact zthrow (text := "no such rest") (is := 339) (A := A) hx hb hst hown (hts (.classLink RX11 328 "java/util/NoSuchElementException") (zRp 1 rfl)) (hts (.initialized "java/util/NoSuchElementException") (zRp 2 rfl)) hX.2.2.2 hat hX.1 hX.2.1 hS (hl.1.trans hml.symm) dX11_rests_75 dX11_rests_78 dX11_rests_79 dX11_rests_82 dX11_rests_85 (fun x hx => (htab x hx).elim) (by decide) (by decide) (Nat.le_of_ble_eq_true rfl) (Nat.le_of_ble_eq_true rfl) hlocks (fun t hvm hz hk => ⟨(), by rw [zrs, if_neg c_2, if_neg c_4, if_pos c_5, zrq0, if_neg c_8, if_neg c_35, zrq1, if_pos c_38, zrq3, if_pos c_44, zrq4, if_neg c_46], rfl, Nat.le_trans hS.1 hz, fun q h1 h2 => (hk q (Nat.lt_of_lt_of_le h1 hS.1)).trans (hS.2.1 q h1 h2)⟩) hS.2.2 (Nat.le_of_ble_eq_true rfl) (Nat.le_of_ble_eq_true rfl)
              · refine lv_iload hx hb dX11_rests_52 (lv_at hl 1 rfl) ?_
                refine lv_iload_n hx hb dX11_rests_54 rfl (lv_at hl 5 rfl) ?_
                refine lv_icmp_ne (tgt := 61) hx hb dX11_rests_55 (by decide) (fun c_47 => ?_) (fun c_47 => ?_)
                · refine lv_iinc (v := 2) (lv' := [(4, .int 2), (5, .int 3), (0, .ref h0), (1, .int p1), (2, .int p2), (3, .int p3)]) hx hb dX11_rests_61 hl (k := 1) rfl (by decide) (by decide) rfl (fun ls hl => ?_)
                  refine lv_iinc (v := 4) (lv' := [(5, .int 4), (4, .int 2), (0, .ref h0), (1, .int p1), (2, .int p2), (3, .int p3)]) hx hb dX11_rests_64 hl (k := 1) rfl (by decide) (by decide) rfl (fun ls hl => ?_)
                  refine lv_goto (tgt := 36) hx hb dX11_rests_67 (by decide) ?_
                  refine lv_iload hx hb dX11_rests_36 (lv_at hl 0 rfl) ?_
                  refine lv_iconst (v := 4) hx hb dX11_rests_38 (by decide) ?_
                  refine lv_icmp_ge (tgt := 70) hx hb dX11_rests_39 (by decide) (fun _ => ?_) (fun h => absurd (by decide) h)
                  refine lv_iload_n hx hb dX11_rests_70 rfl (lv_at hl 5 rfl) ?_
                  refine lv_iconst (v := (-1)) hx hb dX11_rests_71 (by decide) ?_
                  refine lv_icmp_eq (tgt := 86) hx hb dX11_rests_72 (by decide) (fun c_49 => ?_) (fun c_49 => ?_)
                  · refine lv_iload hx hb dX11_rests_86 (lv_at hl 1 rfl) ?_
                    exact vx_ret (ziret hx hb hr rfl hlocks (S := Int32) 2 rfl (by rw [zrs, if_neg c_2, if_neg c_4, if_pos c_5, zrq0, if_neg c_8, if_neg c_35, zrq1, if_pos c_38, zrq3, if_neg c_44, if_neg c_47, zrq4, if_pos c_49]) hw [] rfl rfl hS (Nat.le_of_ble_eq_true rfl) (Nat.le_of_ble_eq_true rfl) dX11_rests_88)
                  · exact zthrow (text := "no such rest") (is := 339) (A := A) hx hb hst hown (hts (.classLink RX11 328 "java/util/NoSuchElementException") (zRp 1 rfl)) (hts (.initialized "java/util/NoSuchElementException") (zRp 2 rfl)) hX.2.2.2 hat hX.1 hX.2.1 hS (hl.1.trans hml.symm) dX11_rests_75 dX11_rests_78 dX11_rests_79 dX11_rests_82 dX11_rests_85 (fun x hx => (htab x hx).elim) (by decide) (by decide) (Nat.le_of_ble_eq_true rfl) (Nat.le_of_ble_eq_true rfl) hlocks (fun t hvm hz hk => ⟨(), by rw [zrs, if_neg c_2, if_neg c_4, if_pos c_5, zrq0, if_neg c_8, if_neg c_35, zrq1, if_pos c_38, zrq3, if_neg c_44, if_neg c_47, zrq4, if_neg c_49], rfl, Nat.le_trans hS.1 hz, fun q h1 h2 => (hk q (Nat.lt_of_lt_of_le h1 hS.1)).trans (hS.2.1 q h1 h2)⟩) hS.2.2 (Nat.le_of_ble_eq_true rfl) (Nat.le_of_ble_eq_true rfl)
                · refine lv_iload hx hb dX11_rests_58 (lv_at hl 0 rfl) ?_
                  exact vx_ret (ziret hx hb hr rfl hlocks (S := Int32) 3 rfl (by rw [zrs, if_neg c_2, if_neg c_4, if_pos c_5, zrq0, if_neg c_8, if_neg c_35, zrq1, if_pos c_38, zrq3, if_neg c_44, if_pos c_47]) hw [] rfl rfl hS (Nat.le_of_ble_eq_true rfl) (Nat.le_of_ble_eq_true rfl) dX11_rests_60)
            · refine lv_iload hx hb dX11_rests_52 (lv_at hl 1 rfl) ?_
              refine lv_iload_n hx hb dX11_rests_54 rfl (lv_at hl 5 rfl) ?_
              refine lv_icmp_ne (tgt := 61) hx hb dX11_rests_55 (by decide) (fun c_50 => ?_) (fun c_50 => ?_)
              · refine lv_iinc (v := 2) (lv' := [(4, .int 2), (5, .int 1), (0, .ref h0), (1, .int p1), (2, .int p2), (3, .int p3)]) hx hb dX11_rests_61 hl (k := 1) rfl (by decide) (by decide) rfl (fun ls hl => ?_)
                refine lv_iinc (v := 2) (lv' := [(5, .int 2), (4, .int 2), (0, .ref h0), (1, .int p1), (2, .int p2), (3, .int p3)]) hx hb dX11_rests_64 hl (k := 1) rfl (by decide) (by decide) rfl (fun ls hl => ?_)
                refine lv_goto (tgt := 36) hx hb dX11_rests_67 (by decide) ?_
                refine lv_iload hx hb dX11_rests_36 (lv_at hl 0 rfl) ?_
                refine lv_iconst (v := 4) hx hb dX11_rests_38 (by decide) ?_
                refine lv_icmp_ge (tgt := 70) hx hb dX11_rests_39 (by decide) (fun h => absurd h (by decide)) (fun _ => ?_)
                refine lv_iload_n hx hb dX11_rests_42 rfl (lv_at hl 3 rfl) ?_
                refine lv_iload_n hx hb dX11_rests_43 rfl (lv_at hl 4 rfl) ?_
                refine lv_iload hx hb dX11_rests_44 (lv_at hl 0 rfl) ?_
                refine scall0 (As := [.int p1, .int p2, .int 2]) (rest := []) ⟨hx, hb, hml, hown, hts⟩ (c_ar2 l D ct p1 p2) (va_cwS 3 hts gX11_rests_X11_isAtRest rfl rfl rfl (by decide +kernel) ⟨Nat.le_of_ble_eq_true rfl, Nat.le_of_ble_eq_true rfl⟩) hw hS hA hK hN rfl rfl hl.1 rfl (Nat.le_of_ble_eq_true rfl) dX11_rests_46 (fun _ H locs hp52 hw hS => ?_)
                have hw : zPD D A [] H := hw
                refine zfr 49 [.int 0] rfl rfl ?_
                refine lv_if_eq (tgt := 64) hx hb dX11_rests_49 (by decide) (fun _ => ?_) (fun h => absurd (by decide) h)
                refine lv_iinc (v := 3) (lv' := [(5, .int 3), (4, .int 2), (0, .ref h0), (1, .int p1), (2, .int p2), (3, .int p3)]) hx hb dX11_rests_64 hl (k := 0) rfl (by decide) (by decide) rfl (fun ls hl => ?_)
                refine lv_goto (tgt := 36) hx hb dX11_rests_67 (by decide) ?_
                refine lv_iload hx hb dX11_rests_36 (lv_at hl 0 rfl) ?_
                refine lv_iconst (v := 4) hx hb dX11_rests_38 (by decide) ?_
                refine lv_icmp_ge (tgt := 70) hx hb dX11_rests_39 (by decide) (fun h => absurd h (by decide)) (fun _ => ?_)
                refine lv_iload_n hx hb dX11_rests_42 rfl (lv_at hl 3 rfl) ?_
                refine lv_iload_n hx hb dX11_rests_43 rfl (lv_at hl 4 rfl) ?_
                refine lv_iload hx hb dX11_rests_44 (lv_at hl 0 rfl) ?_
                refine scall0 (As := [.int p1, .int p2, .int 3]) (rest := []) ⟨hx, hb, hml, hown, hts⟩ (c_ar3 l D ct p1 p2) (va_cwS 3 hts gX11_rests_X11_isAtRest rfl rfl rfl (by decide +kernel) ⟨Nat.le_of_ble_eq_true rfl, Nat.le_of_ble_eq_true rfl⟩) hw hS hA hK hN rfl rfl hl.1 rfl (Nat.le_of_ble_eq_true rfl) dX11_rests_46 (fun _ H locs hp55 hw hS => ?_)
                have hw : zPD D A [] H := hw
                refine zfr 49 [.int (zat3 p1 p2)] rfl rfl ?_
                refine lv_if_eq (tgt := 64) hx hb dX11_rests_49 (by decide) (fun c_56 => ?_) (fun c_56 => ?_)
                · refine lv_iinc (v := 4) (lv' := [(5, .int 4), (4, .int 2), (0, .ref h0), (1, .int p1), (2, .int p2), (3, .int p3)]) hx hb dX11_rests_64 hl (k := 0) rfl (by decide) (by decide) rfl (fun ls hl => ?_)
                  refine lv_goto (tgt := 36) hx hb dX11_rests_67 (by decide) ?_
                  refine lv_iload hx hb dX11_rests_36 (lv_at hl 0 rfl) ?_
                  refine lv_iconst (v := 4) hx hb dX11_rests_38 (by decide) ?_
                  refine lv_icmp_ge (tgt := 70) hx hb dX11_rests_39 (by decide) (fun _ => ?_) (fun h => absurd (by decide) h)
                  refine lv_iload_n hx hb dX11_rests_70 rfl (lv_at hl 5 rfl) ?_
                  refine lv_iconst (v := (-1)) hx hb dX11_rests_71 (by decide) ?_
                  refine lv_icmp_eq (tgt := 86) hx hb dX11_rests_72 (by decide) (fun c_58 => ?_) (fun c_58 => ?_)
                  · refine lv_iload hx hb dX11_rests_86 (lv_at hl 1 rfl) ?_
                    exact vx_ret (ziret hx hb hr rfl hlocks (S := Int32) 2 rfl (by rw [zrs, if_neg c_2, if_neg c_4, if_pos c_5, zrq0, if_neg c_8, if_neg c_35, zrq1, if_neg c_38, if_neg c_50, zrq3, if_pos c_56, zrq4, if_pos c_58]) hw [] rfl rfl hS (Nat.le_of_ble_eq_true rfl) (Nat.le_of_ble_eq_true rfl) dX11_rests_88)
                  · exact zthrow (text := "no such rest") (is := 339) (A := A) hx hb hst hown (hts (.classLink RX11 328 "java/util/NoSuchElementException") (zRp 1 rfl)) (hts (.initialized "java/util/NoSuchElementException") (zRp 2 rfl)) hX.2.2.2 hat hX.1 hX.2.1 hS (hl.1.trans hml.symm) dX11_rests_75 dX11_rests_78 dX11_rests_79 dX11_rests_82 dX11_rests_85 (fun x hx => (htab x hx).elim) (by decide) (by decide) (Nat.le_of_ble_eq_true rfl) (Nat.le_of_ble_eq_true rfl) hlocks (fun t hvm hz hk => ⟨(), by rw [zrs, if_neg c_2, if_neg c_4, if_pos c_5, zrq0, if_neg c_8, if_neg c_35, zrq1, if_neg c_38, if_neg c_50, zrq3, if_pos c_56, zrq4, if_neg c_58], rfl, Nat.le_trans hS.1 hz, fun q h1 h2 => (hk q (Nat.lt_of_lt_of_le h1 hS.1)).trans (hS.2.1 q h1 h2)⟩) hS.2.2 (Nat.le_of_ble_eq_true rfl) (Nat.le_of_ble_eq_true rfl)
                · refine lv_iload hx hb dX11_rests_52 (lv_at hl 1 rfl) ?_
                  refine lv_iload_n hx hb dX11_rests_54 rfl (lv_at hl 5 rfl) ?_
                  refine lv_icmp_ne (tgt := 61) hx hb dX11_rests_55 (by decide) (fun c_59 => ?_) (fun c_59 => ?_)
                  · refine lv_iinc (v := 3) (lv' := [(4, .int 3), (5, .int 3), (0, .ref h0), (1, .int p1), (2, .int p2), (3, .int p3)]) hx hb dX11_rests_61 hl (k := 1) rfl (by decide) (by decide) rfl (fun ls hl => ?_)
                    refine lv_iinc (v := 4) (lv' := [(5, .int 4), (4, .int 3), (0, .ref h0), (1, .int p1), (2, .int p2), (3, .int p3)]) hx hb dX11_rests_64 hl (k := 1) rfl (by decide) (by decide) rfl (fun ls hl => ?_)
                    refine lv_goto (tgt := 36) hx hb dX11_rests_67 (by decide) ?_
                    refine lv_iload hx hb dX11_rests_36 (lv_at hl 0 rfl) ?_
                    refine lv_iconst (v := 4) hx hb dX11_rests_38 (by decide) ?_
                    refine lv_icmp_ge (tgt := 70) hx hb dX11_rests_39 (by decide) (fun _ => ?_) (fun h => absurd (by decide) h)
                    refine lv_iload_n hx hb dX11_rests_70 rfl (lv_at hl 5 rfl) ?_
                    refine lv_iconst (v := (-1)) hx hb dX11_rests_71 (by decide) ?_
                    refine lv_icmp_eq (tgt := 86) hx hb dX11_rests_72 (by decide) (fun c_61 => ?_) (fun c_61 => ?_)
                    · refine lv_iload hx hb dX11_rests_86 (lv_at hl 1 rfl) ?_
                      exact vx_ret (ziret hx hb hr rfl hlocks (S := Int32) 3 rfl (by rw [zrs, if_neg c_2, if_neg c_4, if_pos c_5, zrq0, if_neg c_8, if_neg c_35, zrq1, if_neg c_38, if_neg c_50, zrq3, if_neg c_56, if_neg c_59, zrq4, if_pos c_61]) hw [] rfl rfl hS (Nat.le_of_ble_eq_true rfl) (Nat.le_of_ble_eq_true rfl) dX11_rests_88)
                    · exact zthrow (text := "no such rest") (is := 339) (A := A) hx hb hst hown (hts (.classLink RX11 328 "java/util/NoSuchElementException") (zRp 1 rfl)) (hts (.initialized "java/util/NoSuchElementException") (zRp 2 rfl)) hX.2.2.2 hat hX.1 hX.2.1 hS (hl.1.trans hml.symm) dX11_rests_75 dX11_rests_78 dX11_rests_79 dX11_rests_82 dX11_rests_85 (fun x hx => (htab x hx).elim) (by decide) (by decide) (Nat.le_of_ble_eq_true rfl) (Nat.le_of_ble_eq_true rfl) hlocks (fun t hvm hz hk => ⟨(), by rw [zrs, if_neg c_2, if_neg c_4, if_pos c_5, zrq0, if_neg c_8, if_neg c_35, zrq1, if_neg c_38, if_neg c_50, zrq3, if_neg c_56, if_neg c_59, zrq4, if_neg c_61], rfl, Nat.le_trans hS.1 hz, fun q h1 h2 => (hk q (Nat.lt_of_lt_of_le h1 hS.1)).trans (hS.2.1 q h1 h2)⟩) hS.2.2 (Nat.le_of_ble_eq_true rfl) (Nat.le_of_ble_eq_true rfl)
                  · refine lv_iload hx hb dX11_rests_58 (lv_at hl 0 rfl) ?_
                    exact vx_ret (ziret hx hb hr rfl hlocks (S := Int32) 3 rfl (by rw [zrs, if_neg c_2, if_neg c_4, if_pos c_5, zrq0, if_neg c_8, if_neg c_35, zrq1, if_neg c_38, if_neg c_50, zrq3, if_neg c_56, if_pos c_59]) hw [] rfl rfl hS (Nat.le_of_ble_eq_true rfl) (Nat.le_of_ble_eq_true rfl) dX11_rests_60)
              · refine lv_iload hx hb dX11_rests_58 (lv_at hl 0 rfl) ?_
                exact vx_ret (ziret hx hb hr rfl hlocks (S := Int32) 1 rfl (by rw [zrs, if_neg c_2, if_neg c_4, if_pos c_5, zrq0, if_neg c_8, if_neg c_35, zrq1, if_neg c_38, if_pos c_50]) hw [] rfl rfl hS (Nat.le_of_ble_eq_true rfl) (Nat.le_of_ble_eq_true rfl) dX11_rests_60)
          · refine lv_iload hx hb dX11_rests_58 (lv_at hl 0 rfl) ?_
            exact vx_ret (ziret hx hb hr rfl hlocks (S := Int32) 0 rfl (by rw [zrs, if_neg c_2, if_neg c_4, if_pos c_5, zrq0, if_neg c_8, if_pos c_35]) hw [] rfl rfl hS (Nat.le_of_ble_eq_true rfl) (Nat.le_of_ble_eq_true rfl) dX11_rests_60)
      · exact zthrow (text := "no such frontier") (is := 330) (A := A) hx hb hst hown (hts (.classLink RX11 328 "java/util/NoSuchElementException") (zRp 1 rfl)) (hts (.initialized "java/util/NoSuchElementException") (zRp 2 rfl)) hX.2.2.1 hat hX.1 hX.2.1 hS (hl.1.trans hml.symm) dX11_rests_19 dX11_rests_22 dX11_rests_23 dX11_rests_26 dX11_rests_29 (fun x hx => (htab x hx).elim) (by decide) (by decide) (Nat.le_of_ble_eq_true rfl) (Nat.le_of_ble_eq_true rfl) hlocks (fun t hvm hz hk => ⟨(), by rw [zrs, if_neg c_2, if_neg c_4, if_neg c_5], rfl, Nat.le_trans hS.1 hz, fun q h1 h2 => (hk q (Nat.lt_of_lt_of_le h1 hS.1)).trans (hS.2.1 q h1 h2)⟩) hS.2.2 (Nat.le_of_ble_eq_true rfl) (Nat.le_of_ble_eq_true rfl)

set_option maxHeartbeats 4000000 in
set_option maxRecDepth 100000 in
theorem c_restsL (l : Launch) (hst : l.stackTraces = false) (D : va_G) (ct : Nat → ClassId) (h1 h3 : Nat) (fs : List Value) (fo : Nat → Int64) (p1 p2 p3 : Int32) (sa sb sz : Nat) : vx_Met l yL_rests zwsRL ({ frames := 12, cells := 1, slots := 6, locals := 500 }) (zPx D ct sa sb [.ref h1, .int p1, .int p2, .int p3, .ref h3] [(h1, .inr (10, fs)), (h3, .inl (ct 1, 1, .inr (.inl fo)))] sz) (zQ D (va_A [(h1, .inr (10, fs)), (h3, .inl (ct 1, 1, .inr (.inl fo)))] sz) (S := Unit) (fun _ => some (.int (zth p1 p2 p3))) (fun _ => True) (fun _ => [(h1, .inr (10, fs)), (h3, .inl (ct 1, 1, .inr (.inl (zou fo p1 p2 p3))))])) (vx_X (S := Unit) (fun _ => False) (fun _ _ _ => True) (va_A [(h1, .inr (10, fs)), (h3, .inl (ct 1, 1, .inr (.inl fo)))] sz)) 1 6 (va_A [(h1, .inr (10, fs)), (h3, .inl (ct 1, 1, .inr (.inl fo)))] sz) := by
  refine vx_ofWH (cc := cL_rests) (maxL := 6) (ret := some .int) (hh := [(0, 12, 15, 13)]) (by decide) rfl ?_
  intro p e s m args below meth c s₁ Bd hml hv
  obtain ⟨⟨rfl, hsz, hP, hK, hD0, hZ, hN⟩, hX⟩ := hv
  have hts := atoms_spec (ws := zwsRL) Bd.pre
  have htab := vx_table (x := yL_rests) Bd (hts _ List.mem_cons_self)
  subst hsz
  have hD := hD0.self (sz := s.heap.size)
  have hl := lv_entry [.ref h1, .int p1, .int p2, .int p3, .ref h3] (n := 6) (Nat.le_of_ble_eq_true rfl)
  rw [lg_entry_eq]
  have hx := Bd.exec
  have hb := Bd.bytes
  have hr := Bd.returns
  have hown : s.vm.findClass RL = some m.cls := findClass_of_methodNamed Bd.named
  have hlocks := Bd.notSynchronized
  have hA : ∀ q, s.heap.size ≤ q → va_A [(h1, .inr (10, fs)), (h3, .inl (ct 1, 1, .inr (.inl fo)))] s.heap.size q := fun q h => Or.inr h
  have hS : va_S (va_A [(h1, .inr (10, fs)), (h3, .inl (ct 1, 1, .inr (.inl fo)))] s.heap.size) s.heap s.heap [] := va_S.rf
  have hw : zPD D (va_A [(h1, .inr (10, fs)), (h3, .inl (ct 1, 1, .inr (.inl fo)))] s.heap.size) [(h1, .inr (10, fs)), (h3, .inl (ct 1, 1, .inr (.inl fo)))] s.heap := ⟨hP, hD⟩
  generalize va_A [(h1, .inr (10, fs)), (h3, .inl (ct 1, 1, .inr (.inl fo)))] s.heap.size = A at hX hA hS hw ⊢
  generalize (lg_sl ([.ref h1, .int p1, .int p2, .int p3, .ref h3] : List Value) ++ List.replicate (6 - (lg_sl ([.ref h1, .int p1, .int p2, .int p3, .ref h3] : List Value)).length) Slot.unset).toArray = ls at hl ⊢
  have hl : lv_has ls 6 [(0, .ref h1), (1, .int p1), (2, .int p2), (3, .int p3), (4, .ref h3)] := hl
  generalize hH0 : s.heap = H at hw
  have hS : va_S A s.heap H [] := hH0 ▸ hS
  generalize hlo : ([] : List Loc) = locs at hS
  show W p l e ({ frames := 12, cells := 1, slots := 6, locals := 500 }) s m _ below meth c H locs 0 0 _ _
  refine lv_aload hx hb dL_rests_0 (lv_at hl 4 rfl) ?_
  refine lv_iconst (v := 0) hx hb dL_rests_2 (by decide) ?_
  refine lv_aload_n hx hb dL_rests_3 rfl (lv_at hl 0 rfl) ?_
  refine lv_iload_n hx hb dL_rests_4 rfl (lv_at hl 1 rfl) ?_
  refine lv_iload_n hx hb dL_rests_5 rfl (lv_at hl 2 rfl) ?_
  refine lv_iload_n hx hb dL_rests_6 rfl (lv_at hl 3 rfl) ?_
  refine zxcall (w0 := []) (wr := [(h1, .inr (10, fs)), (h3, .inl (ct 1, 1, .inr (.inl fo)))]) (vx_runV (As := [.int p1, .int p2, .int p3]) (rest := [.int 0, .ref h3]) ⟨hx, hb, hml, hown, hts⟩ (c_rests11 l hst D ct h1 p1 p2 p3 sa sb H.size) (cwV 3 hts gL_rests_X11_rests rfl rfl rfl (by decide +kernel) ⟨Nat.le_of_ble_eq_true rfl, Nat.le_of_ble_eq_true rfl⟩) (zprexV hK hw hS hA hX hN [] rfl rfl 10 0 rfl rfl) rfl rfl hl.1 rfl (lv_room (Nat.le_of_ble_eq_true rfl)) dL_rests_7 ⟨Nat.le_of_ble_eq_true rfl, Nat.le_of_ble_eq_true rfl⟩) hw hS hA [] [0, 1] rfl rfl rfl (by decide) (fun E ce q9 t H locs hp hE hw hS hce hcv hcl => ?_) (fun v H locs hp hw hS => ?_)
  · subst hE
    refine vx_catch (name := "java/util/NoSuchElementException") hown [] ⟨0, 12, 15, 13⟩ [] htab (fun z hz => nomatch hz) (by decide) (by decide) (hts (.classLink RL 13 "java/util/NoSuchElementException") (zLp 1 rfl)) (zcastR hcl) hce hcv hcl ?_
    refine lv_astore (lv' := [(5, .ref q9), (0, .ref h1), (1, .int p1), (2, .int p2), (3, .int p3), (4, .ref h3)]) hx hb dL_rests_15 hl (by decide) rfl (fun ls hl => ?_)
    refine lv_iconst (v := 1) hx hb dL_rests_17 (by decide) ?_
    exact vx_ret (ziret hx hb hr rfl hlocks (S := Unit) () (congrArg (fun z => some (Value.int z)) (zth_none hp)) trivial hw [0, 1] rfl (by rw [zou_none hp]; rfl) hS (Nat.le_of_ble_eq_true rfl) (Nat.le_of_ble_eq_true rfl) dL_rests_18)
  · refine zfr 10 [.int v, .int 0, .ref h3] rfl rfl ?_
    have hw : zPD D A [(h1, .inr (10, fs)), (h3, .inl (ct 1, 1, .inr (.inl fo)))] H := hw
    refine lv_i2l (v := v.toInt64) hx hb dL_rests_10 rfl ?_
    refine zlast hx hb hK hw hS 1 rfl 0 (by decide) (by decide) (by decide) dL_rests_11 [(h1, .inr (10, fs)), (h3, .inl (ct 1, 1, .inr (.inl (vp_updL fo 0 v.toInt64))))] rfl (fun H locs hw hS => ?_)
    refine lv_goto (tgt := 19) hx hb dL_rests_12 (by decide) ?_
    refine lv_iconst (v := 0) hx hb dL_rests_19 (by decide) ?_
    exact vx_ret (ziret hx hb hr rfl hlocks (S := Unit) () (congrArg (fun z => some (Value.int z)) (zth_some hp)) trivial hw [0, 1] rfl (by rw [zou_some hp]; rfl) hS (Nat.le_of_ble_eq_true rfl) (Nat.le_of_ble_eq_true rfl) dL_rests_20)
set_option maxHeartbeats 4000000 in
set_option maxRecDepth 100000 in
theorem zknow {s : State} {args : Array Value} (hts : ∀ w ∈ lw_tbl, w.before args s = true) : ∃ (D : va_G) (ct : Nat → ClassId), va_K D vwCl (zT ct) s := by
  obtain ⟨c0, i0, k0⟩ := u_known (C := RX0) (T := TX0) (N := 1) (n := 1) hts in_wsX00 (hts (.instantiable RX0 1) (ztm1 223 (by decide +kernel)))
  obtain ⟨c1, i1, k1⟩ := u_known (C := RX1) (T := TX1) (N := 4) (n := 4) hts in_wsX10 (hts (.instantiable RX1 4) (ztm1 203 (by decide +kernel)))
  obtain ⟨c2, i2, k2⟩ := u_known (C := RX2) (T := TX2) (N := 13) (n := 13) hts in_wsX20 (hts (.instantiable RX2 13) (ztm1 77 (by decide +kernel)))
  obtain ⟨c3, i3, k3⟩ := u_known (C := RX3) (T := TX3) (N := 3) (n := 3) hts in_wsX30 (hts (.instantiable RX3 3) (ztm1 187 (by decide +kernel)))
  obtain ⟨c4, i4, k4⟩ := u_known (C := RX4) (T := TX4) (N := 3) (n := 3) hts in_wsX40 (hts (.instantiable RX4 3) (ztm1 83 (by decide +kernel)))
  obtain ⟨c5, i5, k5⟩ := u_known (C := RX5) (T := TX5) (N := 4) (n := 4) hts in_wsX50 (hts (.instantiable RX5 4) (ztm2 82 (by decide +kernel)))
  obtain ⟨c6, i6, k6⟩ := u_known (C := RX6) (T := TX6) (N := 2) (n := 2) hts in_wsX60 (hts (.instantiable RX6 2) (ztm2 64 (by decide +kernel)))
  obtain ⟨c7, i7, k7⟩ := u_known (C := RX8) (T := TX8) (N := 6) (n := 6) hts in_wsX80 (hts (.instantiable RX8 6) (ztm1 239 (by decide +kernel)))
  obtain ⟨c8, i8, k8⟩ := u_known (C := RX9) (T := TX9) (N := 8) (n := 8) hts in_wsX90 (hts (.instantiable RX9 8) (ztm1 36 (by decide +kernel)))
  obtain ⟨c9, i9, k9⟩ := u_known (C := RX10) (T := TX10) (N := 7) (n := 7) hts in_wsX100 (hts (.instantiable RX10 7) (ztm1 233 (by decide +kernel)))
  obtain ⟨c10, i10, k10⟩ := u_known (C := RX11) (T := TX11) (N := 15) (n := 15) hts in_wsX110 (hts (.instantiable RX11 15) (ztm1 28 (by decide +kernel)))
  obtain ⟨c11, i11, k11⟩ := u_known (C := RX12) (T := TX12) (N := 57) (n := 57) hts in_wsX120 (hts (.instantiable RX12 57) (ztm5 186 (by decide +kernel)))
  obtain ⟨aI, kaI, cmI, faI, hkI, hdI⟩ := Cond.arrayClass_spec (hts (.arrayClass .int) (ztm1 99 (by decide +kernel)))
  obtain ⟨aJ, kaJ, cmJ, faJ, hkJ, hdJ⟩ := Cond.arrayClass_spec (hts (.arrayClass .long) (ztm1 100 (by decide +kernel)))
  obtain ⟨aC, kaC, cmC, faC, hkC, hdC⟩ := Cond.arrayClass_spec (hts (.arrayClass .char) (ztm1 75 (by decide +kernel)))
  obtain ⟨aZ, kaZ, cmZ, faZ, hkZ, hdZ⟩ := Cond.arrayClass_spec (hts (.arrayClass .boolean) (ztm6 123 (by decide +kernel)))
  obtain ⟨cmS, aS, kaS, fcS, ixS, hkS, hdS, faS⟩ := Cond.arrayOver_spec (hts (.arrayOver (.object RX8)) (ztm2 79 (by decide +kernel)))
  obtain ⟨cmM, aM, kaM, fcM, ixM, hkM, hdM, faM⟩ := Cond.arrayOver_spec (hts (.arrayOver (.object RX5)) (ztm2 81 (by decide +kernel)))
  refine ⟨(fun k => ([c0, c1, c2, c3, c4, c5, c6, c7, c8, c9, c10, c11] : List ClassId).getD k c0, fun k => ([i0, i1, i2, i3, i4, i5, i6, i7, i8, i9, i10, i11] : List (Nat → Nat)).getD k i0), fun k => ([aI, aJ, aC, aZ, aS, aM] : List ClassId).getD k aI, ?_, ?_⟩
  · intro k q hq
    match k, hq with
    | 0, hq => cases hq; exact k0
    | 1, hq => cases hq; exact k1
    | 2, hq => cases hq; exact k2
    | 3, hq => cases hq; exact k3
    | 4, hq => cases hq; exact k4
    | 5, hq => cases hq; exact k5
    | 6, hq => cases hq; exact k6
    | 7, hq => cases hq; exact k7
    | 8, hq => cases hq; exact k8
    | 9, hq => cases hq; exact k9
    | 10, hq => cases hq; exact k10
    | 11, hq => cases hq; exact k11
    | k + 12, hq => simp [vwCl] at hq
  · intro k q hq
    match k, hq with
    | 0, hq => cases hq; exact ⟨fun n z => ⟨fun k h => (by cases h), kaI, hkI, cmI, hdI⟩, faI⟩
    | 1, hq => cases hq; exact ⟨fun n z => ⟨fun k h => (by cases h), kaJ, hkJ, cmJ, hdJ⟩, faJ⟩
    | 2, hq => cases hq; exact ⟨fun n z => ⟨fun k h => (by cases h), kaC, hkC, cmC, hdC⟩, faC⟩
    | 3, hq => cases hq; exact ⟨fun n z => ⟨fun k h => (by cases h), kaZ, hkZ, cmZ, hdZ⟩, faZ⟩
    | 4, hq => cases hq; exact ⟨fun n z => ⟨fun k h => (by cases h), kaS, hkS, cmS, hdS⟩, kaS, cmS, hkS, hdS, fcS, faS⟩
    | 5, hq => cases hq; exact ⟨fun n z => ⟨fun k h => (by cases h), kaM, hkM, cmM, hdM⟩, kaM, cmM, hkM, hdM, fcM, faM⟩
    | k + 6, hq => simp [zT] at hq

theorem zNc {q : String × Nat × MethodName × String} {l : List (String × Nat × MethodName × String)} {U : State} (h : va_Nw (.methodLinkNest q.1 q.2.1 q.2.2.1 q.2.2.2) U) (hl : ∀ q ∈ l, va_Nw (.methodLinkNest q.1 q.2.1 q.2.2.1 q.2.2.2) U) : ∀ q9 ∈ q :: l, va_Nw (.methodLinkNest q9.1 q9.2.1 q9.2.2.1 q9.2.2.2) U := List.forall_mem_cons.mpr ⟨h, hl⟩
set_option maxRecDepth 100000 in
theorem zNof {s : State} {args : Array Value} (hts : ∀ w ∈ lw_tbl, w.before args s = true) : zN s := ⟨zNc (va_Nw.of rfl (hts (.methodLinkNest RX11 9 yX9_init RX11) (ztm1 37 (by decide +kernel)))) (zNc (va_Nw.of rfl (hts (.methodLinkNest RX2 39 yX4_init RX11) (ztm1 84 (by decide +kernel)))) (zNc (va_Nw.of rfl (hts (.methodLinkNest RX11 28 yX3_init RX11) (ztm1 188 (by decide +kernel)))) (zNc (va_Nw.of rfl (hts (.methodLinkNest RX11 35 yX1_init RX11) (ztm1 204 (by decide +kernel)))) (zNc (va_Nw.of rfl (hts (.methodLinkNest RX10 11 yX8_init RX11) (ztm2 0 (by decide +kernel)))) (zNc (va_Nw.of rfl (hts (.methodLinkNest RX11 63 yX8_init RX11) (ztm2 62 (by decide +kernel)))) (zNc (va_Nw.of rfl (hts (.methodLinkNest RX11 73 yX6_init RX11) (ztm2 65 (by decide +kernel)))) (zNc (va_Nw.of rfl (hts (.methodLinkNest RX11 95 yX5_init RX11) (ztm2 83 (by decide +kernel)))) (zNc (va_Nw.of rfl (hts (.methodLinkNest RX5 9 yX8_init RX11) (ztm2 88 (by decide +kernel)))) (zNc (va_Nw.of rfl (hts (.methodLinkNest RX5 18 yX1_init RX11) (ztm2 90 (by decide +kernel)))) (zNc (va_Nw.of rfl (hts (.methodLinkNest RX5 25 yX6_init RX11) (ztm2 92 (by decide +kernel)))) (zNc (va_Nw.of rfl (hts (.methodLinkNest RX3 144 yX11_has RX11) (ztm3 76 (by decide +kernel)))) (zNc (va_Nw.of rfl (hts (.methodLinkNest RX3 99 yX4_readWhole RX11) (ztm3 124 (by decide +kernel)))) (zNc (va_Nw.of rfl (hts (.methodLinkNest RX0 70 yX11_has RX11) (ztm4 72 (by decide +kernel)))) (zNc (va_Nw.of rfl (hts (.methodLinkNest RX10 69 yX11_has RX11) (ztm4 187 (by decide +kernel)))) (fun _ h => nomatch h))))))))))))))), va_AO.of (hts (.arrayOver (.object RX8)) (ztm2 79 (by decide +kernel))), va_AO.of (hts (.arrayOver (.object RX5)) (ztm2 81 (by decide +kernel)))⟩
set_option maxRecDepth 100000 in
theorem zXof {s : State} {args : Array Value} (hts : ∀ w ∈ lw_tbl, w.before args s = true) (hgv : (Jvm.Cond.and given_1 narrow_1).before args s = true) : ∃ sa sb : Nat, zXF (fun q : Nat => s.heap.size ≤ q) s s.heap sa sb := by
  have hs := flat_of_before _ hgv
  obtain ⟨sa, _, _, _, q1, -⟩ := Cond.exactly_spec (hs (.exactly (.string "BeardPass" 330) "java/lang/String") (by decide +kernel))
  obtain ⟨sb, _, _, _, q2, -⟩ := Cond.exactly_spec (hs (.exactly (.string "BeardPass" 339) "java/lang/String") (by decide +kernel))
  refine ⟨sa, sb, vx_Zqof (hts (.laysStatic "java/lang/Throwable" "UNASSIGNED_STACK" "[Ljava/lang/StackTraceElement;") (ztm5 137 (by decide +kernel))) (hts (.initialized "java/lang/Throwable") (ztm1 23 (by decide +kernel))) (hs (.isRef (.static "java/lang/Throwable" "UNASSIGNED_STACK" "[Ljava/lang/StackTraceElement;")) (by decide +kernel)) (fun a h => Nat.not_le.mpr h), vx_Zqof (hts (.laysStatic "java/lang/Throwable" "SUPPRESSED_SENTINEL" "Ljava/util/List;") (ztm5 139 (by decide +kernel))) (hts (.initialized "java/lang/Throwable") (ztm1 23 (by decide +kernel))) (hs (.isRef (.static "java/lang/Throwable" "SUPPRESSED_SENTINEL" "Ljava/util/List;")) (by decide +kernel)) (fun a h => Nat.not_le.mpr h), vk_R.of (hts (.stringRef RX11 330 "no such frontier") (ztm5 149 (by decide +kernel))) q1, vk_R.of (hts (.stringRef RX11 339 "no such rest") (ztm5 184 (by decide +kernel))) q2⟩
