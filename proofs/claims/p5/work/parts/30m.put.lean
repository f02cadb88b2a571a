theorem zI.ofN {n : Nat} (h : n ≤ 1000) : zI 0 1000 (nI n) := by
  have e := nI_toInt (n := n) (by omega)
  constructor <;> rw [e] <;> omega
theorem zn_nI {n : Nat} (h : n ≤ 1000) : zn (nI n) = n := by
  have e := nI_toInt (n := n) (by omega)
  unfold zn; omega
/-- the tape of the class: how long, its signs -/
def kTp (r : zRr) : Nat × (Nat → Int32) := (zn (r 196 1), r 197)
def kput (r : zRr) (w : Int64) : zRr := zset (zset r 196 (upd (r 196) 1 (nI (ztp w 8 (kTp r)).1))) 197 (ztp w 8 (kTp r)).2
section KP
variable {ct : Nat → ClassId} {E y : Nat → Nat} {r : zRr} {q : zRq} {w : Int64}
theorem kTp_ix (h : kJ r) : r 196 1 = nI (kTp r).1 ∧ (kTp r).1 ≤ 1000 := by
  have h9 := (show zI 0 1000 (r 196 1) from h.i 196 1).ix (n := 1001) (by decide)
  exact ⟨h9.1, Nat.le_of_lt_succ h9.2⟩
theorem kputw (h : r 196 1 = nI (kTp r).1) : [196, 197].map (kcl ct E y r q) = [(y 196, .inr (8, [.ref (y 197), .int (nI (kTp r).1), .int (r 196 2), .int (r 196 3), .ref (E (zn (r 196 4))), .int (r 196 5), .long (q 196 6), .int (r 196 7)])), (y 197, .inl (ct 2, 1000, .inl (kTp r).2))] := by
  rw [← h]; rfl
theorem kputB : [196, 197].map (kcl ct E y (kput r w) q) = [(y 196, .inr (8, [.ref (y 197), .int (nI (ztp w 8 ((kTp r).1, (kTp r).2)).1), .int (r 196 2), .int (r 196 3), .ref (E (zn (r 196 4))), .int (r 196 5), .long (q 196 6), .int (r 196 7)])), (y 197, .inl (ct 2, 1000, .inl (ztp w 8 ((kTp r).1, (kTp r).2)).2))] := rfl
theorem kputx (a : Nat) (ha : a ∉ [196, 197]) : kput r w a = r a ∧ q a = q a := by
  refine ⟨?_, rfl⟩
  unfold kput
  rw [zset_ne (fun e => ha (by rw [e]; decide)), zset_ne (fun e => ha (by rw [e]; decide))]
theorem kputT (h : kJ r) : kTp (kput r w) = ztp w 8 (kTp r) := by
  have e := ztp_le (w := w) (j := 8) (kTp_ix h).2
  show (zn (nI (ztp w 8 (kTp r)).1), (ztp w 8 (kTp r)).2) = _
  rw [zn_nI e]
theorem kputJ (h : kJ r) : kJ (kput r w) := (h.set (k := 196) (j := 1) rfl (show zI 0 1000 (nI (ztp w 8 (kTp r)).1) from zI.ofN (ztp_le (kTp_ix h).2))).setr rfl (fun _ => zI.top _)
end KP
set_option maxRecDepth 20000 in
theorem mL_X9_put : ∀ w ∈ wsX9_put, w ∈ wsL_law0 := (zcm (zr9 19 rfl) (zmem (zcm (zr9 20 rfl) (zcm (zr3 13 rfl) (zcm (zr3 12 rfl) znm))) zs_wsX90))
set_option maxHeartbeats 4000000 in
set_option maxRecDepth 100000 in
theorem kc_feed (l : Launch) (D : va_G) (ct : Nat → ClassId) (E : Nat → Nat) (y : Nat → Nat) (a1 : Int64) (a2 : Int64) (a3 : Int64) (r : zRr) (q : zRq) (hJ0 : kJ r) : cC l yX11_feed (.code yX11_feed cX11_feed 7 (some .int) :: wsL_law0) ({ frames := 2, cells := 0, slots := 0, locals := 120 }) D ct E [.ref (y 195), .long a1, .long a2, .long a3] (kW ct E y r q) (S := Int32 × zRr) (fun u => some (.int u.1)) (fun u => zI (-2147483648) 2147483647 u.1 ∧ kJ u.2 ∧ (u.1 = u.2 196 1) ∧ (kTp u.2 = ztp a3 8 (ztp a2 8 (ztp a1 8 (kTp r)))) ∧ (zFr [196, 197] r u.2) ∧ True) (fun u => kW ct E y u.2 q) := by
  refine cofQ cX11_feed 7 (some .int) (by decide) rfl (Nat.le_of_ble_eq_true rfl) ?_
  intro p e s m below meth c A a9 Q ha9 hx hb hr hml hts hown hlocks hname hK hA hZ hN hQ
  have hown : s.vm.findClass RX11 = some m.cls := hown
  have hiX11 : ∀ w ∈ wsX110, w ∈ .code yX11_feed cX11_feed 7 (some .int) :: wsL_law0 := fun _ h => ki (zs_wsX110 _ h)
  have hiX9 : ∀ w ∈ wsX90, w ∈ .code yX11_feed cX11_feed 7 (some .int) :: wsL_law0 := fun _ h => ki (zs_wsX90 _ h)
  have lf10 := hts (.fieldLink RX11 10 "BeardPass" "tape" "LBeardPass$Tape;") (ki (zr1 17 rfl))
  have lf100 := hts (.fieldLink RX11 100 "BeardPass$Tape" "length" "I") (ki (zr9 15 rfl))
  intro H locs hw hS ls hl
  have hl : lv_has ls 7 [(0, .ref (y 195)), (1, .long a1), (3, .long a2), (5, .long a3)] := hl
  refine lv_aload_n hx hb dX11_feed_0 rfl (lv_at hl 0 rfl) ?_
  refine va_get (D := D) (ci := 10) (v := .ref (y 196)) hx hb hts hiX11 hown hK hw.1 195 kg195 rfl 0 (by decide) lf10 (fun _ h9 => h9) rfl dX11_feed_1 ?_
  refine lv_lload_n hx hb dX11_feed_4 rfl (lv_at hl 1 rfl) ?_
  refine kcall [196, 197] (by decide) (kputw (kTp_ix hJ0).1) (va_runV (As := [.long a1]) (rest := []) ⟨hx, hb, hml, hown, hts⟩ (c_put l D ct (y 196) (y 197) (kTp r).1 (kTp r).2 a1 (r 196 2) (r 196 3) (E (zn (r 196 4))) (r 196 5) (q 196 6) (r 196 7) (kTp_ix hJ0).2 H.size) (cwV 1 hts (kgVm (zr9 16 rfl) (zr9 17 rfl) (zr9 18 rfl) (zr1 16 rfl) mL_X9_put) rfl rfl rfl (by decide +kernel) ⟨Nat.le_of_ble_eq_true rfl, Nat.le_of_ble_eq_true rfl⟩) (zpreV hK hw hS hA zZ.nil hN [196, 197] (by decide) ((kmap (by decide)).trans (congrArg (List.map some) (kputw (kTp_ix hJ0).1))) 8 196 rfl kg196) rfl rfl hl.1 rfl (lv_room (Nat.le_of_ble_eq_true rfl)) dX11_feed_5 ⟨Nat.le_of_ble_eq_true rfl, Nat.le_of_ble_eq_true rfl⟩) hw hS hA 8 rfl (kput r a1) q (fun _ => kputB) kputx (fun _ H locs _ hw hS => ?_)
  refine zfr 8 [] rfl rfl ?_
  refine cmgen (P := fun x => kJ x) hw (kputJ hJ0) (fun r1 er1 hw pr1 => ?_)
  have yt2 : kTp r1 = ztp a1 8 (kTp r) := by rw [er1]; exact kputT hJ0
  have yf3 : zFr [196, 197] r r1 := by rw [er1]; exact (zFr.refl.set rfl).set rfl
  refine lv_aload_n hx hb dX11_feed_8 rfl (lv_at hl 0 rfl) ?_
  refine va_get (D := D) (ci := 10) (v := .ref (y 196)) hx hb hts hiX11 hown hK hw.1 195 kg195 rfl 0 (by decide) lf10 (fun _ h9 => h9) rfl dX11_feed_9 ?_
  refine lv_lload_n hx hb dX11_feed_12 rfl (lv_at hl 2 rfl) ?_
  refine kcall [196, 197] (by decide) (kputw (kTp_ix pr1).1) (va_runV (As := [.long a2]) (rest := []) ⟨hx, hb, hml, hown, hts⟩ (c_put l D ct (y 196) (y 197) (kTp r1).1 (kTp r1).2 a2 (r1 196 2) (r1 196 3) (E (zn (r1 196 4))) (r1 196 5) (q 196 6) (r1 196 7) (kTp_ix pr1).2 H.size) (cwV 1 hts (kgVm (zr9 16 rfl) (zr9 17 rfl) (zr9 18 rfl) (zr1 16 rfl) mL_X9_put) rfl rfl rfl (by decide +kernel) ⟨Nat.le_of_ble_eq_true rfl, Nat.le_of_ble_eq_true rfl⟩) (zpreV hK hw hS hA zZ.nil hN [196, 197] (by decide) ((kmap (by decide)).trans (congrArg (List.map some) (kputw (kTp_ix pr1).1))) 8 196 rfl kg196) rfl rfl hl.1 rfl (lv_room (Nat.le_of_ble_eq_true rfl)) dX11_feed_13 ⟨Nat.le_of_ble_eq_true rfl, Nat.le_of_ble_eq_true rfl⟩) hw hS hA 16 rfl (kput r1 a2) q (fun _ => kputB) kputx (fun _ H locs _ hw hS => ?_)
  refine zfr 16 [] rfl rfl ?_
  refine cmgen (P := fun x => kJ x) hw (kputJ pr1) (fun r4 er4 hw pr4 => ?_)
  have yt5 : kTp r4 = ztp a2 8 (kTp r1) := by rw [er4]; exact kputT pr1
  have yf6 : zFr [196, 197] r1 r4 := by rw [er4]; exact (zFr.refl.set rfl).set rfl
  refine lv_aload_n hx hb dX11_feed_16 rfl (lv_at hl 0 rfl) ?_
  refine va_get (D := D) (ci := 10) (v := .ref (y 196)) hx hb hts hiX11 hown hK hw.1 195 kg195 rfl 0 (by decide) lf10 (fun _ h9 => h9) rfl dX11_feed_17 ?_
  refine lv_lload hx hb dX11_feed_20 (lv_at hl 3 rfl) ?_
  refine kcall [196, 197] (by decide) (kputw (kTp_ix pr4).1) (va_runV (As := [.long a3]) (rest := []) ⟨hx, hb, hml, hown, hts⟩ (c_put l D ct (y 196) (y 197) (kTp r4).1 (kTp r4).2 a3 (r4 196 2) (r4 196 3) (E (zn (r4 196 4))) (r4 196 5) (q 196 6) (r4 196 7) (kTp_ix pr4).2 H.size) (cwV 1 hts (kgVm (zr9 16 rfl) (zr9 17 rfl) (zr9 18 rfl) (zr1 16 rfl) mL_X9_put) rfl rfl rfl (by decide +kernel) ⟨Nat.le_of_ble_eq_true rfl, Nat.le_of_ble_eq_true rfl⟩) (zpreV hK hw hS hA zZ.nil hN [196, 197] (by decide) ((kmap (by decide)).trans (congrArg (List.map some) (kputw (kTp_ix pr4).1))) 8 196 rfl kg196) rfl rfl hl.1 rfl (lv_room (Nat.le_of_ble_eq_true rfl)) dX11_feed_22 ⟨Nat.le_of_ble_eq_true rfl, Nat.le_of_ble_eq_true rfl⟩) hw hS hA 25 rfl (kput r4 a3) q (fun _ => kputB) kputx (fun _ H locs _ hw hS => ?_)
  refine zfr 25 [] rfl rfl ?_
  refine cmgen (P := fun x => kJ x) hw (kputJ pr4) (fun r7 er7 hw pr7 => ?_)
  have yt8 : kTp r7 = ztp a3 8 (kTp r4) := by rw [er7]; exact kputT pr4
  have yf9 : zFr [196, 197] r4 r7 := by rw [er7]; exact (zFr.refl.set rfl).set rfl
  refine lv_aload_n hx hb dX11_feed_25 rfl (lv_at hl 0 rfl) ?_
  refine va_get (D := D) (ci := 10) (v := .ref (y 196)) hx hb hts hiX11 hown hK hw.1 195 kg195 rfl 0 (by decide) lf10 (fun _ h9 => h9) rfl dX11_feed_26 ?_
  refine va_get (D := D) (ci := 8) (v := .int (r7 196 1)) hx hb hts hiX9 hown hK hw.1 196 kg196 rfl 1 (by decide) lf100 (fun _ h9 => h9) rfl dX11_feed_29 ?_
  exact ziretQ hQ hx hb hr rfl hlocks (r7 196 1, r7) rfl ⟨(zI.top _), pr7, (show (r7 196 1) = r7 196 1 from rfl), (show kTp r7 = ztp a3 8 (ztp a2 8 (ztp a1 8 (kTp r))) from (yt8.trans (by rw [yt5, yt2]))), (show zFr [196, 197] r r7 from ((yf3.tr yf6 rfl).tr yf9 rfl)), trivial⟩ hw hS dX11_feed_32
