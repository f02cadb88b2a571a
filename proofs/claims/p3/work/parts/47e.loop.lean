theorem lcmp1 {L t : Nat} (hL : L ≤ 3584) (ht : t ≤ 512) (h : ¬ 7 * t + 7 ≤ L) : Int32.ofNat L - 7 < nI (7 * t) := by
  have e1 : (Int32.ofNat L).toInt = L := nI_toInt (n := L) (by omega)
  have e2 : (nI (7 * t)).toInt = (7 * t : Nat) := nI_toInt (by omega)
  have e7 : (7 : Int32).toInt = 7 := by decide
  rw [Int32.lt_iff_toInt_lt, Jvm.Kit.i32_sub (by rw [e1, e7]; omega) (by rw [e1, e7]; omega), e1, e2, e7]
  omega
theorem lcmp2 {L t : Nat} (hL : L ≤ 3584) (h : 7 * t + 7 ≤ L) : ¬ Int32.ofNat L - 7 < nI (7 * t) := by
  have e1 : (Int32.ofNat L).toInt = L := nI_toInt (n := L) (by omega)
  have e2 : (nI (7 * t)).toInt = (7 * t : Nat) := nI_toInt (by omega)
  have e7 : (7 : Int32).toInt = 7 := by decide
  rw [Int32.lt_iff_toInt_lt, Jvm.Kit.i32_sub (by rw [e1, e7]; omega) (by rw [e1, e7]; omega), e1, e2, e7]
  omega
set_option maxHeartbeats 4000000 in
set_option maxRecDepth 100000 in
theorem kloop {p : Program} {l : Launch} {e : Env} {s : State} {m : MethodId} {below : List Frame} {meth : Method} {c : Code} {b L : Nat} {xs : Nat → Int32} (hst : l.stackTraces = false) (C0 : lw_At p s m meth c b L xs) {D : va_G} {ct : Nat → ClassId} {E : Nat → Nat} (hK : va_K D vwCl (zT ct) s) (hN : zN s) (hZ : eZ E (fun q : Nat => s.heap.size ≤ q) s s.heap) (hEi : kEi E) (y ym : Nat → Nat) (h2 h3 : Nat) (hL : L ≤ 3584) : ∀ (n t : Nat), L < 7 * (t + n) + 7 → t + n ≤ 512 → ∀ (r : zRr) (q : zRq) (rm : zRr) (qm : zRq) (fo : Nat → Int64) (cells slots : Nat), kJ r → mJ 20 rm → lR r q rm qm → cells + n ≤ 600000 → slots + 6 * n ≤ 7290000 → ∀ (H : Heap) (locs : List Loc) (ls : Array Slot), zPD D (fun q : Nat => s.heap.size ≤ q) (lW ct E y r q h2 ym rm qm h3 fo) H → va_S (fun q : Nat => s.heap.size ≤ q) s.heap H locs → lv_has ls 7 [(4, .int (nI (7 * t))), (3, .ref h3), (2, .ref h2), (1, .ref (y 195)), (0, .ref b)] → W p l e room_1 s m #[Value.ref b] below meth c H locs cells slots (lw_Z below #[Value.ref b] s) (F0 m 23 ls []) := by
  obtain ⟨hx, hb, hr, hml, hown, hts, hX, hbl, hlocks, hgv⟩ := id C0
  have hbA : ¬ (fun q : Nat => s.heap.size ≤ q) b := Nat.not_le.mpr hbl
  have out : ∀ (t cells slots : Nat), t ≤ 512 → ¬ 7 * t + 7 ≤ L → cells ≤ 600000 → slots ≤ 7290000 → ∀ (H : Heap) (locs : List Loc) (ls : Array Slot), va_S (fun q : Nat => s.heap.size ≤ q) s.heap H locs → lv_has ls 7 [(4, .int (nI (7 * t))), (3, .ref h3), (2, .ref h2), (1, .ref (y 195)), (0, .ref b)] → W p l e room_1 s m #[Value.ref b] below meth c H locs cells slots (lw_Z below #[Value.ref b] s) (F0 m 23 ls []) := by
    intro t cells slots ht h7 hc hs H locs ls hS hl
    refine lv_iload hx hb dL_law_23 (lv_at hl 0 rfl) ?_
    refine lv_aload_n hx hb dL_law_25 rfl (lv_at hl 4 rfl) ?_
    refine va_slen hx hb hX hbl hbA hS dL_law_26 ?_
    refine lv_bipush (v := 7) hx hb dL_law_27 (by decide) ?_
    refine lv_isub hx hb dL_law_29 ?_
    refine lv_icmp_gt (tgt := 1284) hx hb dL_law_30 (by decide) (fun _ => ?_) (fun h => absurd (lcmp1 hL ht h7) h)
    refine lv_iconst (v := 1) hx hb dL_law_1284 (by decide) ?_
    refine va_forget (fun q hq => hS.2.2 q hq) ?_
    refine W.widen (k := 601024) (n := 7293034) (by omega) (by omega) ?_
    exact lw_ret hx hb hr hlocks dL_law_1285
  intro n
  induction n with
  | zero =>
    intro t h1 ht r q rm qm fo cells slots hJ hM hT hc hs H locs ls hw hS hl
    exact out t cells slots (by omega) (by omega) (by omega) (by omega) H locs ls hS hl
  | succ n ih =>
    intro t h1 ht r q rm qm fo cells slots hJ hM hT hc hs H locs ls hw hS hl
    by_cases h7 : 7 * t + 7 ≤ L
    · have kk : kEnd p l e s m below meth c b D ct E y ym h2 h3 t cells slots := by
        intro r q rm qm fo cells1 slots1 hJ hM hT hc1 hs1 H locs ls hw hS hl
        refine lv_iinc (v := nI (7 * (t + 1))) (lv' := [(4, .int (nI (7 * (t + 1)))), (3, .ref h3), (2, .ref h2), (1, .ref (y 195)), (0, .ref b)]) hx hb dL_law_1278 hl (k := 0) rfl ((nI_add _ 7).trans (congrArg nI (by omega))) (by decide) rfl (fun ls hl => ?_)
        refine lv_goto (tgt := 23) hx hb dL_law_1281 (by decide) ?_
        exact ih (t + 1) (by omega) (by omega) r q rm qm fo cells1 slots1 hJ hM hT (by omega) (by omega) H locs ls hw hS hl
      have hcs : cells ≤ 600000 ∧ slots ≤ 7290000 := ⟨by omega, by omega⟩
      refine lv_iload hx hb dL_law_23 (lv_at hl 0 rfl) ?_
      refine lv_aload_n hx hb dL_law_25 rfl (lv_at hl 4 rfl) ?_
      refine va_slen hx hb hX hbl hbA hS dL_law_26 ?_
      refine lv_bipush (v := 7) hx hb dL_law_27 (by decide) ?_
      refine lv_isub hx hb dL_law_29 ?_
      refine lv_icmp_gt (tgt := 1284) hx hb dL_law_30 (by decide) (fun h => absurd h (lcmp2 hL h7)) (fun _ => ?_)
      refine lv_aload_n hx hb dL_law_33 rfl (lv_at hl 4 rfl) ?_
      refine lv_iload hx hb dL_law_34 (lv_at hl 0 rfl) ?_
      refine va_sld hx hb hX hbl hbA hS (zix (k := 7 * t) rfl (by omega) (by omega)).1 dL_law_36 (zgen (zI.top _) (fun z0 _ => ?_))
      refine lv_bipush (v := 63) hx hb dL_law_37 (by decide) ?_
      refine lv_iand hx hb dL_law_39 (zgen (zI.top _) (fun z _ => ?_))
      by_cases hc9 : z.toInt < 0 ∨ 32 < z.toInt
      · refine lv_tableOut (tgt := 1278) hx hb dL_law_40 hc9 (by decide) ?_
        exact kk r q rm qm fo cells slots hJ hM hT (Nat.le_succ _) (Nat.le_add_right _ _) H locs ls hw hS hl
      · obtain ⟨j, hj, hxj⟩ := ksw (lo := 0) (hi := 32) (k := 33) (by decide) hc9
        rcases (show j = 0 ∨ j = 1 ∨ j = 2 ∨ j = 3 ∨ j = 4 ∨ j = 5 ∨ j = 6 ∨ j = 7 ∨ j = 8 ∨ j = 9 ∨ j = 10 ∨ j = 11 ∨ j = 12 ∨ j = 13 ∨ j = 14 ∨ j = 15 ∨ j = 16 ∨ j = 17 ∨ j = 18 ∨ j = 19 ∨ j = 20 ∨ j = 21 ∨ j = 22 ∨ j = 23 ∨ j = 24 ∨ j = 25 ∨ j = 26 ∨ j = 27 ∨ j = 28 ∨ j = 29 ∨ j = 30 ∨ j = 31 ∨ j = 32 by omega) with rfl | rfl | rfl | rfl | rfl | rfl | rfl | rfl | rfl | rfl | rfl | rfl | rfl | rfl | rfl | rfl | rfl | rfl | rfl | rfl | rfl | rfl | rfl | rfl | rfl | rfl | rfl | rfl | rfl | rfl | rfl | rfl | rfl
        · refine lv_tableIn (off := 148) (tgt := 188) hx hb dL_law_40 (by rw [hxj]; decide) (by rw [hxj]; decide) (by rw [hxj]; rfl) (by decide) ?_
          exact kl_0 C0 hK hN hZ y ym h2 h3 t h7 hL r q rm qm fo hJ hM hT hEi cells slots hcs kk H locs hw hS ls hl
        · refine lv_tableIn (off := 295) (tgt := 335) hx hb dL_law_40 (by rw [hxj]; decide) (by rw [hxj]; decide) (by rw [hxj]; rfl) (by decide) ?_
          exact kl_1 C0 hK hN hZ y ym h2 h3 t h7 hL r q rm qm fo hJ hM hT hEi cells slots hcs kk H locs hw hS ls hl
        · refine lv_tableIn (off := 308) (tgt := 348) hx hb dL_law_40 (by rw [hxj]; decide) (by rw [hxj]; decide) (by rw [hxj]; rfl) (by decide) ?_
          exact kl_2 C0 hK hN hZ y ym h2 h3 t h7 hL r q rm qm fo hJ hM hT hEi cells slots hcs kk H locs hw hS ls hl
        · refine lv_tableIn (off := 321) (tgt := 361) hx hb dL_law_40 (by rw [hxj]; decide) (by rw [hxj]; decide) (by rw [hxj]; rfl) (by decide) ?_
          exact kl_3 C0 hK hN hZ y ym h2 h3 t h7 hL r q rm qm fo hJ hM hT hEi cells slots hcs kk H locs hw hS ls hl
        · refine lv_tableIn (off := 358) (tgt := 398) hx hb dL_law_40 (by rw [hxj]; decide) (by rw [hxj]; decide) (by rw [hxj]; rfl) (by decide) ?_
          exact kl_4 C0 hK hN hZ y ym h2 h3 t h7 hL r q rm qm fo hJ hM hT hEi cells slots hcs kk H locs hw hS ls hl
        · refine lv_tableIn (off := 395) (tgt := 435) hx hb dL_law_40 (by rw [hxj]; decide) (by rw [hxj]; decide) (by rw [hxj]; rfl) (by decide) ?_
          exact kl_5 C0 hK hN hZ y ym h2 h3 t h7 hL r q rm qm fo hJ hM hT hEi cells slots hcs kk H locs hw hS ls hl
        · refine lv_tableIn (off := 432) (tgt := 472) hx hb dL_law_40 (by rw [hxj]; decide) (by rw [hxj]; decide) (by rw [hxj]; rfl) (by decide) ?_
          exact kl_6 C0 hK hN hZ y ym h2 h3 t h7 hL r q rm qm fo hJ hM hT hEi cells slots hcs kk H locs hw hS ls hl
        · refine lv_tableIn (off := 469) (tgt := 509) hx hb dL_law_40 (by rw [hxj]; decide) (by rw [hxj]; decide) (by rw [hxj]; rfl) (by decide) ?_
          exact kl_7 C0 hK hN hZ y ym h2 h3 t h7 hL r q rm qm fo hJ hM hT hEi cells slots hcs kk H locs hw hS ls hl
        · refine lv_tableIn (off := 494) (tgt := 534) hx hb dL_law_40 (by rw [hxj]; decide) (by rw [hxj]; decide) (by rw [hxj]; rfl) (by decide) ?_
          exact kl_8 C0 hK hN hZ y ym h2 h3 t h7 hL r q rm qm fo hJ hM hT hEi cells slots hcs kk H locs hw hS ls hl
        · refine lv_tableIn (off := 507) (tgt := 547) hx hb dL_law_40 (by rw [hxj]; decide) (by rw [hxj]; decide) (by rw [hxj]; rfl) (by decide) ?_
          exact kl_9 C0 hK hN hZ y ym h2 h3 t h7 hL r q rm qm fo hJ hM hT hEi cells slots hcs kk H locs hw hS ls hl
        · refine lv_tableIn (off := 520) (tgt := 560) hx hb dL_law_40 (by rw [hxj]; decide) (by rw [hxj]; decide) (by rw [hxj]; rfl) (by decide) ?_
          exact kl_10 C0 hK hN hZ y ym h2 h3 t h7 hL r q rm qm fo hJ hM hT hEi cells slots hcs kk H locs hw hS ls hl
        · refine lv_tableIn (off := 545) (tgt := 585) hx hb dL_law_40 (by rw [hxj]; decide) (by rw [hxj]; decide) (by rw [hxj]; rfl) (by decide) ?_
          exact kl_11 C0 hK hN hZ y ym h2 h3 t h7 hL r q rm qm fo hJ hM hT hEi cells slots hcs kk H locs hw hS ls hl
        · refine lv_tableIn (off := 570) (tgt := 610) hx hb dL_law_40 (by rw [hxj]; decide) (by rw [hxj]; decide) (by rw [hxj]; rfl) (by decide) ?_
          exact kl_12 C0 hK hN hZ y ym h2 h3 t h7 hL r q rm qm fo hJ hM hT hEi cells slots hcs kk H locs hw hS ls hl
        · refine lv_tableIn (off := 607) (tgt := 647) hx hb dL_law_40 (by rw [hxj]; decide) (by rw [hxj]; decide) (by rw [hxj]; rfl) (by decide) ?_
          exact kl_13 C0 hK hN hZ y ym h2 h3 t h7 hL r q rm qm fo hJ hM hT hEi cells slots hcs kk H locs hw hS ls hl
        · refine lv_tableIn (off := 644) (tgt := 684) hx hb dL_law_40 (by rw [hxj]; decide) (by rw [hxj]; decide) (by rw [hxj]; rfl) (by decide) ?_
          exact kl_14 C0 hK hN hZ y ym h2 h3 t h7 hL r q rm qm fo hJ hM hT hEi cells slots hcs kk H locs hw hS ls hl
        · refine lv_tableIn (off := 669) (tgt := 709) hx hb dL_law_40 (by rw [hxj]; decide) (by rw [hxj]; decide) (by rw [hxj]; rfl) (by decide) ?_
          exact kl_15 C0 hK hN hZ y ym h2 h3 t h7 hL r q rm qm fo hJ hM hT hEi cells slots hcs kk H locs hw hS ls hl
        · refine lv_tableIn (off := 706) (tgt := 746) hx hb dL_law_40 (by rw [hxj]; decide) (by rw [hxj]; decide) (by rw [hxj]; rfl) (by decide) ?_
          exact kl_16 C0 hK hN hZ y ym h2 h3 t h7 hL r q rm qm fo hJ hM hT hEi cells slots hcs kk H locs hw hS ls hl
        · refine lv_tableIn (off := 743) (tgt := 783) hx hb dL_law_40 (by rw [hxj]; decide) (by rw [hxj]; decide) (by rw [hxj]; rfl) (by decide) ?_
          exact kl_17 C0 hK hN hZ y ym h2 h3 t h7 hL r q rm qm fo hJ hM hT hEi cells slots hcs kk H locs hw hS ls hl
        · refine lv_tableIn (off := 768) (tgt := 808) hx hb dL_law_40 (by rw [hxj]; decide) (by rw [hxj]; decide) (by rw [hxj]; rfl) (by decide) ?_
          exact kl_18 C0 hK hN hZ y ym h2 h3 t h7 hL r q rm qm fo hJ hM hT hEi cells slots hcs kk H locs hw hS ls hl
        · refine lv_tableIn (off := 805) (tgt := 845) hx hb dL_law_40 (by rw [hxj]; decide) (by rw [hxj]; decide) (by rw [hxj]; rfl) (by decide) ?_
          exact kl_19 C0 hK hN hZ y ym h2 h3 t h7 hL r q rm qm fo hJ hM hT hEi cells slots hcs kk H locs hw hS ls hl
        · refine lv_tableIn (off := 818) (tgt := 858) hx hb dL_law_40 (by rw [hxj]; decide) (by rw [hxj]; decide) (by rw [hxj]; rfl) (by decide) ?_
          exact kl_20 C0 hK hN hZ y ym h2 h3 t h7 hL r q rm qm fo hJ hM hT hEi cells slots hcs kk H locs hw hS ls hl
        · refine lv_tableIn (off := 843) (tgt := 883) hx hb dL_law_40 (by rw [hxj]; decide) (by rw [hxj]; decide) (by rw [hxj]; rfl) (by decide) ?_
          exact kl_21 C0 hK hN hZ y ym h2 h3 t h7 hL r q rm qm fo hJ hM hT hEi cells slots hcs kk H locs hw hS ls hl
        · refine lv_tableIn (off := 868) (tgt := 908) hx hb dL_law_40 (by rw [hxj]; decide) (by rw [hxj]; decide) (by rw [hxj]; rfl) (by decide) ?_
          exact kl_22 C0 hK hN hZ y ym h2 h3 t h7 hL r q rm qm fo hJ hM hT hEi cells slots hcs kk H locs hw hS ls hl
        · refine lv_tableIn (off := 905) (tgt := 945) hx hb dL_law_40 (by rw [hxj]; decide) (by rw [hxj]; decide) (by rw [hxj]; rfl) (by decide) ?_
          exact kl_23 C0 hK hN hZ y ym h2 h3 t h7 hL r q rm qm fo hJ hM hT hEi cells slots hcs kk H locs hw hS ls hl
        · refine lv_tableIn (off := 918) (tgt := 958) hx hb dL_law_40 (by rw [hxj]; decide) (by rw [hxj]; decide) (by rw [hxj]; rfl) (by decide) ?_
          exact kl_24 C0 hK hN hZ y ym h2 h3 t h7 hL r q rm qm fo hJ hM hT hEi cells slots hcs kk H locs hw hS ls hl
        · refine lv_tableIn (off := 931) (tgt := 971) hx hb dL_law_40 (by rw [hxj]; decide) (by rw [hxj]; decide) (by rw [hxj]; rfl) (by decide) ?_
          exact kl_25 C0 hK hN hZ y ym h2 h3 t h7 hL r q rm qm fo hJ hM hT hEi cells slots hcs kk H locs hw hS ls hl
        · refine lv_tableIn (off := 984) (tgt := 1024) hx hb dL_law_40 (by rw [hxj]; decide) (by rw [hxj]; decide) (by rw [hxj]; rfl) (by decide) ?_
          exact kl_26 C0 hK hN hZ y ym h2 h3 t h7 hL r q rm qm fo hJ hM hT hEi cells slots hcs kk H locs hw hS ls hl
        · refine lv_tableIn (off := 1009) (tgt := 1049) hx hb dL_law_40 (by rw [hxj]; decide) (by rw [hxj]; decide) (by rw [hxj]; rfl) (by decide) ?_
          exact kl_27 C0 hK hN hZ y ym h2 h3 t h7 hL r q rm qm fo hJ hM hT hEi cells slots hcs kk H locs hw hS ls hl
        · refine lv_tableIn (off := 1022) (tgt := 1062) hx hb dL_law_40 (by rw [hxj]; decide) (by rw [hxj]; decide) (by rw [hxj]; rfl) (by decide) ?_
          exact kl_28 C0 hK hN hZ y ym h2 h3 t h7 hL r q rm qm fo hJ hM hT hEi cells slots hcs kk H locs hw hS ls hl
        · refine lv_tableIn (off := 1059) (tgt := 1099) hx hb dL_law_40 (by rw [hxj]; decide) (by rw [hxj]; decide) (by rw [hxj]; rfl) (by decide) ?_
          exact kl_29 hst C0 hK hN hZ y ym h2 h3 t h7 hL r q rm qm fo hJ hM hT hEi cells slots hcs kk H locs hw hS ls hl
        · refine lv_tableIn (off := 1111) (tgt := 1151) hx hb dL_law_40 (by rw [hxj]; decide) (by rw [hxj]; decide) (by rw [hxj]; rfl) (by decide) ?_
          exact kl_30 C0 hK hN hZ y ym h2 h3 t h7 hL r q rm qm fo hJ hM hT hEi cells slots hcs kk H locs hw hS ls hl
        · refine lv_tableIn (off := 1160) (tgt := 1200) hx hb dL_law_40 (by rw [hxj]; decide) (by rw [hxj]; decide) (by rw [hxj]; rfl) (by decide) ?_
          exact kl_31 C0 hK hN hZ y ym h2 h3 t h7 hL r q rm qm fo hJ hM hT hEi cells slots hcs kk H locs hw hS ls hl
        · refine lv_tableIn (off := 1213) (tgt := 1253) hx hb dL_law_40 (by rw [hxj]; decide) (by rw [hxj]; decide) (by rw [hxj]; rfl) (by decide) ?_
          exact kl_32 C0 hK hN hZ y ym h2 h3 t h7 hL r q rm qm fo hJ hM hT hEi cells slots hcs kk H locs hw hS ls hl
    · exact out t cells slots (by omega) h7 (by omega) (by omega) H locs ls hS hl
