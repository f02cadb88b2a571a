set_option maxHeartbeats 4000000 in
set_option maxRecDepth 100000 in
theorem kl_0 {p : Program} {l : Launch} {e : Env} {s : State} {m : MethodId} {below : List Frame} {meth : Method} {c : Code} {b L : Nat} {xs : Nat → Int32} (C0 : lw_At p s m meth c b L xs) {D : va_G} {ct : Nat → ClassId} {E : Nat → Nat} (hK : va_K D vwCl (zT ct) s) (hN : zN s) (hZ : eZ E (fun q : Nat => s.heap.size ≤ q) s s.heap) (y ym : Nat → Nat) (h2 h3 t : Nat) (ht : 7 * t + 7 ≤ L) (hL : L ≤ 3584) (r : zRr) (q : zRq) (rm : zRr) (qm : zRq) (fo : Nat → Int64) (hJ : kJ r) (hM : mJ 20 rm) (hT : lR r q rm qm) (hEi : kEi E) (cells slots : Nat) (hcs : cells ≤ 600000 ∧ slots ≤ 7290000)
    (kk : kEnd p l e s m below meth c b D ct E y ym h2 h3 t cells slots) (H : Heap) (locs : List Loc) (hw : zPD D (fun q : Nat => s.heap.size ≤ q) (lW ct E y r q h2 ym rm qm h3 fo) H) (hS : va_S (fun q : Nat => s.heap.size ≤ q) s.heap H locs) (ls : Array Slot) (hl : lv_has ls 7 [(4, .int (nI (7 * t))), (3, .ref h3), (2, .ref h2), (1, .ref (y 195)), (0, .ref b)]) : W p l e room_1 s m #[Value.ref b] below meth c H locs cells slots (lw_Z below #[Value.ref b] s) (F0 m 188 ls []) := by
  obtain ⟨hx, hb, hr, hml, hown, hts, hX, hbl, hlocks, hgv⟩ := id C0
  have hown : s.vm.findClass RL = some m.cls := hown
  have htl : ∀ w ∈ wsL_law0, w.before #[Value.ref b] s = true := fun w h => hts w (wsL_law_in0 w h)
  have hA : ∀ q : Nat, s.heap.size ≤ q → (fun q : Nat => s.heap.size ≤ q) q := fun _ h => h
  have hbA : ¬ (fun q : Nat => s.heap.size ≤ q) b := Nat.not_le.mpr hbl
  refine lv_aload_n hx hb dL_law_188 rfl (lv_at hl 3 rfl) ?_
  refine lv_aload_n hx hb dL_law_189 rfl (lv_at hl 4 rfl) ?_
  refine lv_iload hx hb dL_law_190 (lv_at hl 0 rfl) ?_
  refine lv_iconst (v := 1) hx hb dL_law_192 (by decide) ?_
  refine lv_iadd hx hb dL_law_193 (ztop (.int (nI (7 * t + 1))) (congrArg Value.int (nI_add _ 1)) ?_)
  refine va_sld hx hb hX hbl hbA hS (zix (k := 7 * t + 1) rfl (by omega) (by omega)).1 dL_law_194 (ztop (.int (xs (7 * t + 1))) (congrArg Value.int (congrArg xs (nI_clamp (by omega)))) ?_)
  refine lv_i2l (v := (xs (7 * t + 1)).toInt64) hx hb dL_law_195 rfl ?_
  refine lv_bipush (v := 32) hx hb dL_law_196 (by decide) ?_
  refine lv_lshl (v := (xs (7 * t + 1)).toInt64 <<< ((32 : Int32).toInt64 &&& 63)) hx hb dL_law_198 rfl ?_
  refine lv_aload_n hx hb dL_law_199 rfl (lv_at hl 4 rfl) ?_
  refine lv_iload hx hb dL_law_200 (lv_at hl 0 rfl) ?_
  refine lv_iconst (v := 2) hx hb dL_law_202 (by decide) ?_
  refine lv_iadd hx hb dL_law_203 (ztop (.int (nI (7 * t + 2))) (congrArg Value.int (nI_add _ 2)) ?_)
  refine va_sld hx hb hX hbl hbA hS (zix (k := 7 * t + 2) rfl (by omega) (by omega)).1 dL_law_204 (ztop (.int (xs (7 * t + 2))) (congrArg Value.int (congrArg xs (nI_clamp (by omega)))) ?_)
  refine lv_i2l (v := (xs (7 * t + 2)).toInt64) hx hb dL_law_205 rfl ?_
  refine lv_ldc2 hx hb hown (htl (.constantLong RL 19 4294967295) (zr1 7 rfl)) dL_law_206 ?_
  refine lv_land hx hb dL_law_209 ?_
  refine lv_lor hx hb dL_law_210 (ztop (.long (lLg (xs (7 * t + 1)) (xs (7 * t + 2)))) rfl ?_)
  refine lv_aload_n hx hb dL_law_211 rfl (lv_at hl 4 rfl) ?_
  refine lv_iload hx hb dL_law_212 (lv_at hl 0 rfl) ?_
  refine lv_iconst (v := 3) hx hb dL_law_214 (by decide) ?_
  refine lv_iadd hx hb dL_law_215 (ztop (.int (nI (7 * t + 3))) (congrArg Value.int (nI_add _ 3)) ?_)
  refine va_sld hx hb hX hbl hbA hS (zix (k := 7 * t + 3) rfl (by omega) (by omega)).1 dL_law_216 (ztop (.int (xs (7 * t + 3))) (congrArg Value.int (congrArg xs (nI_clamp (by omega)))) ?_)
  refine lv_i2l (v := (xs (7 * t + 3)).toInt64) hx hb dL_law_217 rfl ?_
  refine lv_bipush (v := 32) hx hb dL_law_218 (by decide) ?_
  refine lv_lshl (v := (xs (7 * t + 3)).toInt64 <<< ((32 : Int32).toInt64 &&& 63)) hx hb dL_law_220 rfl ?_
  refine lv_aload_n hx hb dL_law_221 rfl (lv_at hl 4 rfl) ?_
  refine lv_iload hx hb dL_law_222 (lv_at hl 0 rfl) ?_
  refine lv_iconst (v := 4) hx hb dL_law_224 (by decide) ?_
  refine lv_iadd hx hb dL_law_225 (ztop (.int (nI (7 * t + 4))) (congrArg Value.int (nI_add _ 4)) ?_)
  refine va_sld hx hb hX hbl hbA hS (zix (k := 7 * t + 4) rfl (by omega) (by omega)).1 dL_law_226 (ztop (.int (xs (7 * t + 4))) (congrArg Value.int (congrArg xs (nI_clamp (by omega)))) ?_)
  refine lv_i2l (v := (xs (7 * t + 4)).toInt64) hx hb dL_law_227 rfl ?_
  refine lv_ldc2 hx hb hown (htl (.constantLong RL 19 4294967295) (zr1 7 rfl)) dL_law_228 ?_
  refine lv_land hx hb dL_law_231 ?_
  refine lv_lor hx hb dL_law_232 (ztop (.long (lLg (xs (7 * t + 3)) (xs (7 * t + 4)))) rfl ?_)
  refine lv_aload_n hx hb dL_law_233 rfl (lv_at hl 4 rfl) ?_
  refine lv_iload hx hb dL_law_234 (lv_at hl 0 rfl) ?_
  refine lv_iconst (v := 5) hx hb dL_law_236 (by decide) ?_
  refine lv_iadd hx hb dL_law_237 (ztop (.int (nI (7 * t + 5))) (congrArg Value.int (nI_add _ 5)) ?_)
  refine va_sld hx hb hX hbl hbA hS (zix (k := 7 * t + 5) rfl (by omega) (by omega)).1 dL_law_238 (ztop (.int (xs (7 * t + 5))) (congrArg Value.int (congrArg xs (nI_clamp (by omega)))) ?_)
  refine lv_i2l (v := (xs (7 * t + 5)).toInt64) hx hb dL_law_239 rfl ?_
  refine lv_bipush (v := 32) hx hb dL_law_240 (by decide) ?_
  refine lv_lshl (v := (xs (7 * t + 5)).toInt64 <<< ((32 : Int32).toInt64 &&& 63)) hx hb dL_law_242 rfl ?_
  refine lv_aload_n hx hb dL_law_243 rfl (lv_at hl 4 rfl) ?_
  refine lv_iload hx hb dL_law_244 (lv_at hl 0 rfl) ?_
  refine lv_bipush (v := 6) hx hb dL_law_246 (by decide) ?_
  refine lv_iadd hx hb dL_law_248 (ztop (.int (nI (7 * t + 6))) (congrArg Value.int (nI_add _ 6)) ?_)
  refine va_sld hx hb hX hbl hbA hS (zix (k := 7 * t + 6) rfl (by omega) (by omega)).1 dL_law_249 (ztop (.int (xs (7 * t + 6))) (congrArg Value.int (congrArg xs (nI_clamp (by omega)))) ?_)
  refine lv_i2l (v := (xs (7 * t + 6)).toInt64) hx hb dL_law_250 rfl ?_
  refine lv_ldc2 hx hb hown (htl (.constantLong RL 19 4294967295) (zr1 7 rfl)) dL_law_251 ?_
  refine lv_land hx hb dL_law_254 ?_
  refine lv_lor hx hb dL_law_255 (ztop (.long (lLg (xs (7 * t + 5)) (xs (7 * t + 6)))) rfl ?_)
  refine lcallX (va_runV (As := [.long (lLg (xs (7 * t + 1)) (xs (7 * t + 2))), .long (lLg (xs (7 * t + 3)) (xs (7 * t + 4))), .long (lLg (xs (7 * t + 5)) (xs (7 * t + 6)))]) (rest := []) ⟨hx, hb, hml, hown, htl⟩ (kc_feed l D ct E y (lLg (xs (7 * t + 1)) (xs (7 * t + 2))) (lLg (xs (7 * t + 3)) (xs (7 * t + 4))) (lLg (xs (7 * t + 5)) (xs (7 * t + 6))) r q hJ H.size) (cwV 3 htl (klV (zr9 11 rfl) (zr9 12 rfl) (zr9 13 rfl) (zr1 2 rfl) (zr9 14 rfl)) rfl rfl rfl (by decide +kernel) ⟨Nat.le_of_ble_eq_true rfl, Nat.le_of_ble_eq_true rfl⟩) (lpreC hK hw hS hA hZ hN kWlen (by decide +kernel) 10 195 rfl kg195) rfl rfl hl.1 rfl (lv_room (Nat.le_of_ble_eq_true rfl)) dL_law_256 (lroom hcs)) hw hS hA 259 rfl (fun u16 H locs pu16 hw hS => ?_)
  have kh17 := pu16.2.1
  have hw : zPD D (fun q : Nat => s.heap.size ≤ q) (lW ct E y u16.2 q h2 ym rm qm h3 fo) H := hw
  refine zfr 259 [.int u16.1] rfl rfl ?_
  refine lv_pop hx hb dL_law_259 rfl ?_
  refine lv_aload_n hx hb dL_law_260 rfl (lv_at hl 2 rfl) ?_
  refine lv_aload_n hx hb dL_law_261 rfl (lv_at hl 4 rfl) ?_
  refine lv_iload hx hb dL_law_262 (lv_at hl 0 rfl) ?_
  refine lv_iconst (v := 1) hx hb dL_law_264 (by decide) ?_
  refine lv_iadd hx hb dL_law_265 (ztop (.int (nI (7 * t + 1))) (congrArg Value.int (nI_add _ 1)) ?_)
  refine va_sld hx hb hX hbl hbA hS (zix (k := 7 * t + 1) rfl (by omega) (by omega)).1 dL_law_266 (ztop (.int (xs (7 * t + 1))) (congrArg Value.int (congrArg xs (nI_clamp (by omega)))) ?_)
  refine lv_i2l (v := (xs (7 * t + 1)).toInt64) hx hb dL_law_267 rfl ?_
  refine lv_bipush (v := 32) hx hb dL_law_268 (by decide) ?_
  refine lv_lshl (v := (xs (7 * t + 1)).toInt64 <<< ((32 : Int32).toInt64 &&& 63)) hx hb dL_law_270 rfl ?_
  refine lv_aload_n hx hb dL_law_271 rfl (lv_at hl 4 rfl) ?_
  refine lv_iload hx hb dL_law_272 (lv_at hl 0 rfl) ?_
  refine lv_iconst (v := 2) hx hb dL_law_274 (by decide) ?_
  refine lv_iadd hx hb dL_law_275 (ztop (.int (nI (7 * t + 2))) (congrArg Value.int (nI_add _ 2)) ?_)
  refine va_sld hx hb hX hbl hbA hS (zix (k := 7 * t + 2) rfl (by omega) (by omega)).1 dL_law_276 (ztop (.int (xs (7 * t + 2))) (congrArg Value.int (congrArg xs (nI_clamp (by omega)))) ?_)
  refine lv_i2l (v := (xs (7 * t + 2)).toInt64) hx hb dL_law_277 rfl ?_
  refine lv_ldc2 hx hb hown (htl (.constantLong RL 19 4294967295) (zr1 7 rfl)) dL_law_278 ?_
  refine lv_land hx hb dL_law_281 ?_
  refine lv_lor hx hb dL_law_282 (ztop (.long (lLg (xs (7 * t + 1)) (xs (7 * t + 2)))) rfl ?_)
  refine lv_aload_n hx hb dL_law_283 rfl (lv_at hl 4 rfl) ?_
  refine lv_iload hx hb dL_law_284 (lv_at hl 0 rfl) ?_
  refine lv_iconst (v := 3) hx hb dL_law_286 (by decide) ?_
  refine lv_iadd hx hb dL_law_287 (ztop (.int (nI (7 * t + 3))) (congrArg Value.int (nI_add _ 3)) ?_)
  refine va_sld hx hb hX hbl hbA hS (zix (k := 7 * t + 3) rfl (by omega) (by omega)).1 dL_law_288 (ztop (.int (xs (7 * t + 3))) (congrArg Value.int (congrArg xs (nI_clamp (by omega)))) ?_)
  refine lv_i2l (v := (xs (7 * t + 3)).toInt64) hx hb dL_law_289 rfl ?_
  refine lv_bipush (v := 32) hx hb dL_law_290 (by decide) ?_
  refine lv_lshl (v := (xs (7 * t + 3)).toInt64 <<< ((32 : Int32).toInt64 &&& 63)) hx hb dL_law_292 rfl ?_
  refine lv_aload_n hx hb dL_law_293 rfl (lv_at hl 4 rfl) ?_
  refine lv_iload hx hb dL_law_294 (lv_at hl 0 rfl) ?_
  refine lv_iconst (v := 4) hx hb dL_law_296 (by decide) ?_
  refine lv_iadd hx hb dL_law_297 (ztop (.int (nI (7 * t + 4))) (congrArg Value.int (nI_add _ 4)) ?_)
  refine va_sld hx hb hX hbl hbA hS (zix (k := 7 * t + 4) rfl (by omega) (by omega)).1 dL_law_298 (ztop (.int (xs (7 * t + 4))) (congrArg Value.int (congrArg xs (nI_clamp (by omega)))) ?_)
  refine lv_i2l (v := (xs (7 * t + 4)).toInt64) hx hb dL_law_299 rfl ?_
  refine lv_ldc2 hx hb hown (htl (.constantLong RL 19 4294967295) (zr1 7 rfl)) dL_law_300 ?_
  refine lv_land hx hb dL_law_303 ?_
  refine lv_lor hx hb dL_law_304 (ztop (.long (lLg (xs (7 * t + 3)) (xs (7 * t + 4)))) rfl ?_)
  refine lv_aload_n hx hb dL_law_305 rfl (lv_at hl 4 rfl) ?_
  refine lv_iload hx hb dL_law_306 (lv_at hl 0 rfl) ?_
  refine lv_iconst (v := 5) hx hb dL_law_308 (by decide) ?_
  refine lv_iadd hx hb dL_law_309 (ztop (.int (nI (7 * t + 5))) (congrArg Value.int (nI_add _ 5)) ?_)
  refine va_sld hx hb hX hbl hbA hS (zix (k := 7 * t + 5) rfl (by omega) (by omega)).1 dL_law_310 (ztop (.int (xs (7 * t + 5))) (congrArg Value.int (congrArg xs (nI_clamp (by omega)))) ?_)
  refine lv_i2l (v := (xs (7 * t + 5)).toInt64) hx hb dL_law_311 rfl ?_
  refine lv_bipush (v := 32) hx hb dL_law_312 (by decide) ?_
  refine lv_lshl (v := (xs (7 * t + 5)).toInt64 <<< ((32 : Int32).toInt64 &&& 63)) hx hb dL_law_314 rfl ?_
  refine lv_aload_n hx hb dL_law_315 rfl (lv_at hl 4 rfl) ?_
  refine lv_iload hx hb dL_law_316 (lv_at hl 0 rfl) ?_
  refine lv_bipush (v := 6) hx hb dL_law_318 (by decide) ?_
  refine lv_iadd hx hb dL_law_320 (ztop (.int (nI (7 * t + 6))) (congrArg Value.int (nI_add _ 6)) ?_)
  refine va_sld hx hb hX hbl hbA hS (zix (k := 7 * t + 6) rfl (by omega) (by omega)).1 dL_law_321 (ztop (.int (xs (7 * t + 6))) (congrArg Value.int (congrArg xs (nI_clamp (by omega)))) ?_)
  refine lv_i2l (v := (xs (7 * t + 6)).toInt64) hx hb dL_law_322 rfl ?_
  refine lv_ldc2 hx hb hown (htl (.constantLong RL 19 4294967295) (zr1 7 rfl)) dL_law_323 ?_
  refine lv_land hx hb dL_law_326 ?_
  refine lv_lor hx hb dL_law_327 (ztop (.long (lLg (xs (7 * t + 5)) (xs (7 * t + 6)))) rfl ?_)
  have hw := lrot2 hw
  refine lcallF (va_runV (As := [.long (lLg (xs (7 * t + 1)) (xs (7 * t + 2))), .long (lLg (xs (7 * t + 3)) (xs (7 * t + 4))), .long (lLg (xs (7 * t + 5)) (xs (7 * t + 6)))]) (rest := []) ⟨hx, hb, hml, hown, htl⟩ (r_feedM l D ct h2 ym (lLg (xs (7 * t + 1)) (xs (7 * t + 2))) (lLg (xs (7 * t + 3)) (xs (7 * t + 4))) (lLg (xs (7 * t + 5)) (xs (7 * t + 6))) rm qm hM H.size) (cwV 3 htl (klVm (zr9 21 rfl) (zr9 22 rfl) (zr9 23 rfl) (zr1 5 rfl) mL_X12_feed) rfl rfl rfl (by decide +kernel) ⟨Nat.le_of_ble_eq_true rfl, Nat.le_of_ble_eq_true rfl⟩) (lpreZ hK hw hS hA hN (show (mW2 ct h2 ym rm qm).length = 2 from rfl) (by decide +kernel) 11 0 rfl rfl) rfl rfl hl.1 rfl (lv_room (Nat.le_of_ble_eq_true rfl)) dL_law_328 (lroom hcs)) hw hS hA 331 rfl (fun u34 H locs _ hw hS => ?_)
  have hf9 := lR.feed (a := (lLg (xs (7 * t + 1)) (xs (7 * t + 2)))) (b := (lLg (xs (7 * t + 3)) (xs (7 * t + 4)))) (c := (lLg (xs (7 * t + 5)) (xs (7 * t + 6)))) hM kh17 hT pu16.2.2.2.2.1 pu16.2.2.2.1
  have hM9 : mJ 20 (mfd rm (lLg (xs (7 * t + 1)) (xs (7 * t + 2))) (lLg (xs (7 * t + 3)) (xs (7 * t + 4))) (lLg (xs (7 * t + 5)) (xs (7 * t + 6)))) := mfdJ hM
  have hw : zPD D (fun q : Nat => s.heap.size ≤ q) (lW ct E y u16.2 q h2 ym (mfd rm (lLg (xs (7 * t + 1)) (xs (7 * t + 2))) (lLg (xs (7 * t + 3)) (xs (7 * t + 4))) (lLg (xs (7 * t + 5)) (xs (7 * t + 6)))) qm h3 fo) H := hw
  refine zfr 331 [.int (nI (ztp3 (lLg (xs (7 * t + 1)) (xs (7 * t + 2))) (lLg (xs (7 * t + 3)) (xs (7 * t + 4))) (lLg (xs (7 * t + 5)) (xs (7 * t + 6))) 24 (mTp rm)).1)] rfl rfl ?_
  refine lv_pop hx hb dL_law_331 rfl ?_
  refine lv_goto (tgt := 1278) hx hb dL_law_332 (by decide) ?_
  exact kk u16.2 q (mfd rm (lLg (xs (7 * t + 1)) (xs (7 * t + 2))) (lLg (xs (7 * t + 3)) (xs (7 * t + 4))) (lLg (xs (7 * t + 5)) (xs (7 * t + 6)))) qm fo cells slots kh17 hM9 hf9 (Nat.le_succ _) (Nat.le_add_right _ _) H locs ls hw hS (lv_sub hl [0, 1, 2, 3, 4] rfl)

set_option maxHeartbeats 4000000 in
set_option maxRecDepth 100000 in
theorem kl_1 {p : Program} {l : Launch} {e : Env} {s : State} {m : MethodId} {below : List Frame} {meth : Method} {c : Code} {b L : Nat} {xs : Nat → Int32} (C0 : lw_At p s m meth c b L xs) {D : va_G} {ct : Nat → ClassId} {E : Nat → Nat} (hK : va_K D vwCl (zT ct) s) (hN : zN s) (hZ : eZ E (fun q : Nat => s.heap.size ≤ q) s s.heap) (y ym : Nat → Nat) (h2 h3 t : Nat) (ht : 7 * t + 7 ≤ L) (hL : L ≤ 3584) (r : zRr) (q : zRq) (rm : zRr) (qm : zRq) (fo : Nat → Int64) (hJ : kJ r) (hM : mJ 20 rm) (hT : lR r q rm qm) (hEi : kEi E) (cells slots : Nat) (hcs : cells ≤ 600000 ∧ slots ≤ 7290000)
    (kk : kEnd p l e s m below meth c b D ct E y ym h2 h3 t cells slots) (H : Heap) (locs : List Loc) (hw : zPD D (fun q : Nat => s.heap.size ≤ q) (lW ct E y r q h2 ym rm qm h3 fo) H) (hS : va_S (fun q : Nat => s.heap.size ≤ q) s.heap H locs) (ls : Array Slot) (hl : lv_has ls 7 [(4, .int (nI (7 * t))), (3, .ref h3), (2, .ref h2), (1, .ref (y 195)), (0, .ref b)]) : W p l e room_1 s m #[Value.ref b] below meth c H locs cells slots (lw_Z below #[Value.ref b] s) (F0 m 335 ls []) := by
  obtain ⟨hx, hb, hr, hml, hown, hts, hX, hbl, hlocks, hgv⟩ := id C0
  have hown : s.vm.findClass RL = some m.cls := hown
  have htl : ∀ w ∈ wsL_law0, w.before #[Value.ref b] s = true := fun w h => hts w (wsL_law_in0 w h)
  have hA : ∀ q : Nat, s.heap.size ≤ q → (fun q : Nat => s.heap.size ≤ q) q := fun _ h => h
  have hbA : ¬ (fun q : Nat => s.heap.size ≤ q) b := Nat.not_le.mpr hbl
  refine lv_aload_n hx hb dL_law_335 rfl (lv_at hl 3 rfl) ?_
  refine lcallX (va_runV (As := []) (rest := []) ⟨hx, hb, hml, hown, htl⟩ (kc_land l D ct E y r q hJ hEi H.size) (cwV 0 htl (klV (zr10 4 rfl) (zr10 5 rfl) (zr10 6 rfl) (zr1 2 rfl) (zr10 7 rfl)) rfl rfl rfl (by decide +kernel) ⟨Nat.le_of_ble_eq_true rfl, Nat.le_of_ble_eq_true rfl⟩) (lpreC hK hw hS hA hZ hN kWlen (by decide +kernel) 10 195 rfl kg195) rfl rfl hl.1 rfl (lv_room (Nat.le_of_ble_eq_true rfl)) dL_law_336 (lroom hcs)) hw hS hA 339 rfl (fun u1 H locs pu1 hw hS => ?_)
  have kh2 := pu1.2.1
  have hw : zPD D (fun q : Nat => s.heap.size ≤ q) (lW ct E y u1.2.1 u1.2.2 h2 ym rm qm h3 fo) H := hw
  refine zfr 339 [.int u1.1] rfl rfl ?_
  refine lv_pop hx hb dL_law_339 rfl ?_
  refine lv_aload_n hx hb dL_law_340 rfl (lv_at hl 2 rfl) ?_
  have hw := lrot hw
  refine lcallM (va_runV (As := []) (rest := []) ⟨hx, hb, hml, hown, htl⟩ (mc_land l D ct h2 ym 20 rm qm hM H.size) (cwV 0 htl (klV (zr21 12 rfl) (zr21 13 rfl) (zr21 14 rfl) (zr1 5 rfl) (zr21 15 rfl)) rfl rfl rfl (by decide +kernel) ⟨Nat.le_of_ble_eq_true rfl, Nat.le_of_ble_eq_true rfl⟩) (lpreZ hK hw hS hA hN mWl (by decide +kernel) 11 0 rfl mWo) rfl rfl hl.1 rfl (lv_room (Nat.le_of_ble_eq_true rfl)) dL_law_341 (lroom hcs)) hw hS hA 344 rfl (fun u4 H locs pu4 hw hS => ?_)
  have kh5 := pu4.2.1
  have hA9 := lR.land pu1.2.2.2.1 pu4.2.2.2.2.1 hM hT pu1.2.2.1 pu4.2.2.2.1
  have ht7 : lR u1.2.1 u1.2.2 u4.2.1 u4.2.2 := hA9.2
  have hw : zPD D (fun q : Nat => s.heap.size ≤ q) (lW ct E y u1.2.1 u1.2.2 h2 ym u4.2.1 u4.2.2 h3 fo) H := hw
  refine zfr 344 [.int u4.1] rfl rfl ?_
  refine lv_pop hx hb dL_law_344 rfl ?_
  refine lv_goto (tgt := 1278) hx hb dL_law_345 (by decide) ?_
  exact kk u1.2.1 u1.2.2 u4.2.1 u4.2.2 fo cells slots kh2 kh5 ht7 (Nat.le_succ _) (Nat.le_add_right _ _) H locs ls hw hS (lv_sub hl [0, 1, 2, 3, 4] rfl)

set_option maxHeartbeats 4000000 in
set_option maxRecDepth 100000 in
theorem kl_2 {p : Program} {l : Launch} {e : Env} {s : State} {m : MethodId} {below : List Frame} {meth : Method} {c : Code} {b L : Nat} {xs : Nat → Int32} (C0 : lw_At p s m meth c b L xs) {D : va_G} {ct : Nat → ClassId} {E : Nat → Nat} (hK : va_K D vwCl (zT ct) s) (hN : zN s) (hZ : eZ E (fun q : Nat => s.heap.size ≤ q) s s.heap) (y ym : Nat → Nat) (h2 h3 t : Nat) (ht : 7 * t + 7 ≤ L) (hL : L ≤ 3584) (r : zRr) (q : zRq) (rm : zRr) (qm : zRq) (fo : Nat → Int64) (hJ : kJ r) (hM : mJ 20 rm) (hT : lR r q rm qm) (hEi : kEi E) (cells slots : Nat) (hcs : cells ≤ 600000 ∧ slots ≤ 7290000)
    (kk : kEnd p l e s m below meth c b D ct E y ym h2 h3 t cells slots) (H : Heap) (locs : List Loc) (hw : zPD D (fun q : Nat => s.heap.size ≤ q) (lW ct E y r q h2 ym rm qm h3 fo) H) (hS : va_S (fun q : Nat => s.heap.size ≤ q) s.heap H locs) (ls : Array Slot) (hl : lv_has ls 7 [(4, .int (nI (7 * t))), (3, .ref h3), (2, .ref h2), (1, .ref (y 195)), (0, .ref b)]) : W p l e room_1 s m #[Value.ref b] below meth c H locs cells slots (lw_Z below #[Value.ref b] s) (F0 m 348 ls []) := by
  obtain ⟨hx, hb, hr, hml, hown, hts, hX, hbl, hlocks, hgv⟩ := id C0
  have hown : s.vm.findClass RL = some m.cls := hown
  have htl : ∀ w ∈ wsL_law0, w.before #[Value.ref b] s = true := fun w h => hts w (wsL_law_in0 w h)
  have hA : ∀ q : Nat, s.heap.size ≤ q → (fun q : Nat => s.heap.size ≤ q) q := fun _ h => h
  have hbA : ¬ (fun q : Nat => s.heap.size ≤ q) b := Nat.not_le.mpr hbl
  refine lv_aload_n hx hb dL_law_348 rfl (lv_at hl 3 rfl) ?_
  refine lcallX (va_runV (As := []) (rest := []) ⟨hx, hb, hml, hown, htl⟩ (kc_journey l D ct E y r q hJ hEi H.size) (cwV 0 htl (klV (zr28 0 rfl) (zr28 1 rfl) (zr28 2 rfl) (zr1 2 rfl) (zr28 3 rfl)) rfl rfl rfl (by decide +kernel) ⟨Nat.le_of_ble_eq_true rfl, Nat.le_of_ble_eq_true rfl⟩) (lpreC hK hw hS hA hZ hN kWlen (by decide +kernel) 10 195 rfl kg195) rfl rfl hl.1 rfl (lv_room (Nat.le_of_ble_eq_true rfl)) dL_law_349 (lroom hcs)) hw hS hA 352 rfl (fun u1 H locs pu1 hw hS => ?_)
  have kh2 := pu1.2.1
  have hw : zPD D (fun q : Nat => s.heap.size ≤ q) (lW ct E y u1.2.1 u1.2.2 h2 ym rm qm h3 fo) H := hw
  refine zfr 352 [.int u1.1] rfl rfl ?_
  refine lv_pop hx hb dL_law_352 rfl ?_
  refine lv_aload_n hx hb dL_law_353 rfl (lv_at hl 2 rfl) ?_
  have hw := lrot hw
  refine lcallM (va_runV (As := []) (rest := []) ⟨hx, hb, hml, hown, htl⟩ (mc_journey l D ct h2 ym 20 rm qm hM H.size) (cwV 0 htl (klV (zr29 18 rfl) (zr29 19 rfl) (zr29 20 rfl) (zr1 5 rfl) (zr29 21 rfl)) rfl rfl rfl (by decide +kernel) ⟨Nat.le_of_ble_eq_true rfl, Nat.le_of_ble_eq_true rfl⟩) (lpreZ hK hw hS hA hN mWl (by decide +kernel) 11 0 rfl mWo) rfl rfl hl.1 rfl (lv_room (Nat.le_of_ble_eq_true rfl)) dL_law_354 (lroom hcs)) hw hS hA 357 rfl (fun u4 H locs pu4 hw hS => ?_)
  have kh5 := pu4.2.1
  have hA9 := lR.jour pu1.2.2.2.1 pu4.2.2.2.2.1 hM hT pu1.2.2.1 pu4.2.2.2.1 pu4.2.2.1 rfl rfl
  have ht7 : lR u1.2.1 u1.2.2 u4.2.1 u4.2.2 := hA9.2
  have hw : zPD D (fun q : Nat => s.heap.size ≤ q) (lW ct E y u1.2.1 u1.2.2 h2 ym u4.2.1 u4.2.2 h3 fo) H := hw
  refine zfr 357 [.int u4.1] rfl rfl ?_
  refine lv_pop hx hb dL_law_357 rfl ?_
  refine lv_goto (tgt := 1278) hx hb dL_law_358 (by decide) ?_
  exact kk u1.2.1 u1.2.2 u4.2.1 u4.2.2 fo cells slots kh2 kh5 ht7 (Nat.le_succ _) (Nat.le_add_right _ _) H locs ls hw hS (lv_sub hl [0, 1, 2, 3, 4] rfl)

set_option maxHeartbeats 4000000 in
set_option maxRecDepth 100000 in
theorem kl_3 {p : Program} {l : Launch} {e : Env} {s : State} {m : MethodId} {below : List Frame} {meth : Method} {c : Code} {b L : Nat} {xs : Nat → Int32} (C0 : lw_At p s m meth c b L xs) {D : va_G} {ct : Nat → ClassId} {E : Nat → Nat} (hK : va_K D vwCl (zT ct) s) (hN : zN s) (hZ : eZ E (fun q : Nat => s.heap.size ≤ q) s s.heap) (y ym : Nat → Nat) (h2 h3 t : Nat) (ht : 7 * t + 7 ≤ L) (hL : L ≤ 3584) (r : zRr) (q : zRq) (rm : zRr) (qm : zRq) (fo : Nat → Int64) (hJ : kJ r) (hM : mJ 20 rm) (hT : lR r q rm qm) (hEi : kEi E) (cells slots : Nat) (hcs : cells ≤ 600000 ∧ slots ≤ 7290000)
    (kk : kEnd p l e s m below meth c b D ct E y ym h2 h3 t cells slots) (H : Heap) (locs : List Loc) (hw : zPD D (fun q : Nat => s.heap.size ≤ q) (lW ct E y r q h2 ym rm qm h3 fo) H) (hS : va_S (fun q : Nat => s.heap.size ≤ q) s.heap H locs) (ls : Array Slot) (hl : lv_has ls 7 [(4, .int (nI (7 * t))), (3, .ref h3), (2, .ref h2), (1, .ref (y 195)), (0, .ref b)]) : W p l e room_1 s m #[Value.ref b] below meth c H locs cells slots (lw_Z below #[Value.ref b] s) (F0 m 361 ls []) := by
  obtain ⟨hx, hb, hr, hml, hown, hts, hX, hbl, hlocks, hgv⟩ := id C0
  have hown : s.vm.findClass RL = some m.cls := hown
  have htl : ∀ w ∈ wsL_law0, w.before #[Value.ref b] s = true := fun w h => hts w (wsL_law_in0 w h)
  have hA : ∀ q : Nat, s.heap.size ≤ q → (fun q : Nat => s.heap.size ≤ q) q := fun _ h => h
  have hbA : ¬ (fun q : Nat => s.heap.size ≤ q) b := Nat.not_le.mpr hbl
  refine lv_aload_n hx hb dL_law_361 rfl (lv_at hl 3 rfl) ?_
  refine lv_aload_n hx hb dL_law_362 rfl (lv_at hl 4 rfl) ?_
  refine lv_iload hx hb dL_law_363 (lv_at hl 0 rfl) ?_
  refine lv_iconst (v := 1) hx hb dL_law_365 (by decide) ?_
  refine lv_iadd hx hb dL_law_366 (ztop (.int (nI (7 * t + 1))) (congrArg Value.int (nI_add _ 1)) ?_)
  refine va_sld hx hb hX hbl hbA hS (zix (k := 7 * t + 1) rfl (by omega) (by omega)).1 dL_law_367 (ztop (.int (xs (7 * t + 1))) (congrArg Value.int (congrArg xs (nI_clamp (by omega)))) ?_)
  refine lv_aload_n hx hb dL_law_368 rfl (lv_at hl 4 rfl) ?_
  refine lv_iload hx hb dL_law_369 (lv_at hl 0 rfl) ?_
  refine lv_iconst (v := 2) hx hb dL_law_371 (by decide) ?_
  refine lv_iadd hx hb dL_law_372 (ztop (.int (nI (7 * t + 2))) (congrArg Value.int (nI_add _ 2)) ?_)
  refine va_sld hx hb hX hbl hbA hS (zix (k := 7 * t + 2) rfl (by omega) (by omega)).1 dL_law_373 (ztop (.int (xs (7 * t + 2))) (congrArg Value.int (congrArg xs (nI_clamp (by omega)))) ?_)
  refine lcallX (va_runV (As := [.int (xs (7 * t + 1)), .int (xs (7 * t + 2))]) (rest := []) ⟨hx, hb, hml, hown, htl⟩ (kc_person l D ct E y (xs (7 * t + 1)) (xs (7 * t + 2)) r q hJ hEi H.size) (cwV 2 htl (klV (zr30 10 rfl) (zr30 11 rfl) (zr30 12 rfl) (zr1 2 rfl) (zr30 13 rfl)) rfl rfl rfl (by decide +kernel) ⟨Nat.le_of_ble_eq_true rfl, Nat.le_of_ble_eq_true rfl⟩) (lpreC hK hw hS hA hZ hN kWlen (by decide +kernel) 10 195 rfl kg195) rfl rfl hl.1 rfl (lv_room (Nat.le_of_ble_eq_true rfl)) dL_law_374 (lroom hcs)) hw hS hA 377 rfl (fun u1 H locs pu1 hw hS => ?_)
  have hw : zPD D (fun q : Nat => s.heap.size ≤ q) (lW ct E y r q h2 ym rm qm h3 fo) H := hw
  refine zfr 377 [.int u1] rfl rfl ?_
  refine lv_aload_n hx hb dL_law_377 rfl (lv_at hl 2 rfl) ?_
  refine lv_aload_n hx hb dL_law_378 rfl (lv_at hl 4 rfl) ?_
  refine lv_iload hx hb dL_law_379 (lv_at hl 0 rfl) ?_
  refine lv_iconst (v := 1) hx hb dL_law_381 (by decide) ?_
  refine lv_iadd hx hb dL_law_382 (ztop (.int (nI (7 * t + 1))) (congrArg Value.int (nI_add _ 1)) ?_)
  refine va_sld hx hb hX hbl hbA hS (zix (k := 7 * t + 1) rfl (by omega) (by omega)).1 dL_law_383 (ztop (.int (xs (7 * t + 1))) (congrArg Value.int (congrArg xs (nI_clamp (by omega)))) ?_)
  refine lv_aload_n hx hb dL_law_384 rfl (lv_at hl 4 rfl) ?_
  refine lv_iload hx hb dL_law_385 (lv_at hl 0 rfl) ?_
  refine lv_iconst (v := 2) hx hb dL_law_387 (by decide) ?_
  refine lv_iadd hx hb dL_law_388 (ztop (.int (nI (7 * t + 2))) (congrArg Value.int (nI_add _ 2)) ?_)
  refine va_sld hx hb hX hbl hbA hS (zix (k := 7 * t + 2) rfl (by omega) (by omega)).1 dL_law_389 (ztop (.int (xs (7 * t + 2))) (congrArg Value.int (congrArg xs (nI_clamp (by omega)))) ?_)
  have hw := lrot hw
  refine lcallM (va_runV (As := [.int (xs (7 * t + 1)), .int (xs (7 * t + 2))]) (rest := [.int u1]) ⟨hx, hb, hml, hown, htl⟩ (mc_person l D ct h2 ym 20 (xs (7 * t + 1)) (xs (7 * t + 2)) rm qm hM H.size) (cwV 2 htl (klV (zr31 1 rfl) (zr31 2 rfl) (zr31 3 rfl) (zr1 5 rfl) (zr31 4 rfl)) rfl rfl rfl (by decide +kernel) ⟨Nat.le_of_ble_eq_true rfl, Nat.le_of_ble_eq_true rfl⟩) (lpreZ hK hw hS hA hN mWl (by decide +kernel) 11 0 rfl mWo) rfl rfl hl.1 rfl (lv_room (Nat.le_of_ble_eq_true rfl)) dL_law_390 (lroom hcs)) hw hS hA 393 rfl (fun u2 H locs pu2 hw hS => ?_)
  have kh3 := pu2.2.1
  have hA9 := lR.cPerson pu1.2.1 pu2.2.2.2.1 hM hJ hT
  have ht5 : lR r q u2.2 qm := (lR.q hT zFt.refl pu2.2.2.1 rfl rfl rfl)
  have hw : zPD D (fun q : Nat => s.heap.size ≤ q) (lW ct E y r q h2 ym u2.2 qm h3 fo) H := hw
  refine zfr 393 [.int u2.1, .int u1] rfl rfl ?_
  refine lv_icmp_eq (tgt := 1278) hx hb dL_law_393 (by decide) (fun _ => ?_) (fun h => absurd hA9 h)
  exact kk r q u2.2 qm fo cells slots hJ kh3 ht5 (Nat.le_succ _) (Nat.le_add_right _ _) H locs ls hw hS (lv_sub hl [0, 1, 2, 3, 4] rfl)

set_option maxHeartbeats 4000000 in
set_option maxRecDepth 100000 in
theorem kl_4 {p : Program} {l : Launch} {e : Env} {s : State} {m : MethodId} {below : List Frame} {meth : Method} {c : Code} {b L : Nat} {xs : Nat → Int32} (C0 : lw_At p s m meth c b L xs) {D : va_G} {ct : Nat → ClassId} {E : Nat → Nat} (hK : va_K D vwCl (zT ct) s) (hN : zN s) (hZ : eZ E (fun q : Nat => s.heap.size ≤ q) s s.heap) (y ym : Nat → Nat) (h2 h3 t : Nat) (ht : 7 * t + 7 ≤ L) (hL : L ≤ 3584) (r : zRr) (q : zRq) (rm : zRr) (qm : zRq) (fo : Nat → Int64) (hJ : kJ r) (hM : mJ 20 rm) (hT : lR r q rm qm) (hEi : kEi E) (cells slots : Nat) (hcs : cells ≤ 600000 ∧ slots ≤ 7290000)
    (kk : kEnd p l e s m below meth c b D ct E y ym h2 h3 t cells slots) (H : Heap) (locs : List Loc) (hw : zPD D (fun q : Nat => s.heap.size ≤ q) (lW ct E y r q h2 ym rm qm h3 fo) H) (hS : va_S (fun q : Nat => s.heap.size ≤ q) s.heap H locs) (ls : Array Slot) (hl : lv_has ls 7 [(4, .int (nI (7 * t))), (3, .ref h3), (2, .ref h2), (1, .ref (y 195)), (0, .ref b)]) : W p l e room_1 s m #[Value.ref b] below meth c H locs cells slots (lw_Z below #[Value.ref b] s) (F0 m 398 ls []) := by
  obtain ⟨hx, hb, hr, hml, hown, hts, hX, hbl, hlocks, hgv⟩ := id C0
  have hown : s.vm.findClass RL = some m.cls := hown
  have htl : ∀ w ∈ wsL_law0, w.before #[Value.ref b] s = true := fun w h => hts w (wsL_law_in0 w h)
  have hA : ∀ q : Nat, s.heap.size ≤ q → (fun q : Nat => s.heap.size ≤ q) q := fun _ h => h
  have hbA : ¬ (fun q : Nat => s.heap.size ≤ q) b := Nat.not_le.mpr hbl
  refine lv_aload_n hx hb dL_law_398 rfl (lv_at hl 3 rfl) ?_
  refine lv_aload_n hx hb dL_law_399 rfl (lv_at hl 4 rfl) ?_
  refine lv_iload hx hb dL_law_400 (lv_at hl 0 rfl) ?_
  refine lv_iconst (v := 1) hx hb dL_law_402 (by decide) ?_
  refine lv_iadd hx hb dL_law_403 (ztop (.int (nI (7 * t + 1))) (congrArg Value.int (nI_add _ 1)) ?_)
  refine va_sld hx hb hX hbl hbA hS (zix (k := 7 * t + 1) rfl (by omega) (by omega)).1 dL_law_404 (ztop (.int (xs (7 * t + 1))) (congrArg Value.int (congrArg xs (nI_clamp (by omega)))) ?_)
  refine lv_aload_n hx hb dL_law_405 rfl (lv_at hl 4 rfl) ?_
  refine lv_iload hx hb dL_law_406 (lv_at hl 0 rfl) ?_
  refine lv_iconst (v := 2) hx hb dL_law_408 (by decide) ?_
  refine lv_iadd hx hb dL_law_409 (ztop (.int (nI (7 * t + 2))) (congrArg Value.int (nI_add _ 2)) ?_)
  refine va_sld hx hb hX hbl hbA hS (zix (k := 7 * t + 2) rfl (by omega) (by omega)).1 dL_law_410 (ztop (.int (xs (7 * t + 2))) (congrArg Value.int (congrArg xs (nI_clamp (by omega)))) ?_)
  refine lcallX (va_runV (As := [.int (xs (7 * t + 1)), .int (xs (7 * t + 2))]) (rest := []) ⟨hx, hb, hml, hown, htl⟩ (kc_town l D ct E y (xs (7 * t + 1)) (xs (7 * t + 2)) r q hJ hEi H.size) (cwV 2 htl (klV (zr31 9 rfl) (zr31 10 rfl) (zr31 11 rfl) (zr1 2 rfl) (zr31 12 rfl)) rfl rfl rfl (by decide +kernel) ⟨Nat.le_of_ble_eq_true rfl, Nat.le_of_ble_eq_true rfl⟩) (lpreC hK hw hS hA hZ hN kWlen (by decide +kernel) 10 195 rfl kg195) rfl rfl hl.1 rfl (lv_room (Nat.le_of_ble_eq_true rfl)) dL_law_411 (lroom hcs)) hw hS hA 414 rfl (fun u1 H locs pu1 hw hS => ?_)
  have kh2 := pu1.2.1
  have hw : zPD D (fun q : Nat => s.heap.size ≤ q) (lW ct E y u1.2 q h2 ym rm qm h3 fo) H := hw
  refine zfr 414 [.int u1.1] rfl rfl ?_
  refine lv_pop hx hb dL_law_414 rfl ?_
  refine lv_aload_n hx hb dL_law_415 rfl (lv_at hl 2 rfl) ?_
  refine lv_aload_n hx hb dL_law_416 rfl (lv_at hl 4 rfl) ?_
  refine lv_iload hx hb dL_law_417 (lv_at hl 0 rfl) ?_
  refine lv_iconst (v := 1) hx hb dL_law_419 (by decide) ?_
  refine lv_iadd hx hb dL_law_420 (ztop (.int (nI (7 * t + 1))) (congrArg Value.int (nI_add _ 1)) ?_)
  refine va_sld hx hb hX hbl hbA hS (zix (k := 7 * t + 1) rfl (by omega) (by omega)).1 dL_law_421 (ztop (.int (xs (7 * t + 1))) (congrArg Value.int (congrArg xs (nI_clamp (by omega)))) ?_)
  refine lv_aload_n hx hb dL_law_422 rfl (lv_at hl 4 rfl) ?_
  refine lv_iload hx hb dL_law_423 (lv_at hl 0 rfl) ?_
  refine lv_iconst (v := 2) hx hb dL_law_425 (by decide) ?_
  refine lv_iadd hx hb dL_law_426 (ztop (.int (nI (7 * t + 2))) (congrArg Value.int (nI_add _ 2)) ?_)
  refine va_sld hx hb hX hbl hbA hS (zix (k := 7 * t + 2) rfl (by omega) (by omega)).1 dL_law_427 (ztop (.int (xs (7 * t + 2))) (congrArg Value.int (congrArg xs (nI_clamp (by omega)))) ?_)
  have hw := lrot hw
  refine lcallM (va_runV (As := [.int (xs (7 * t + 1)), .int (xs (7 * t + 2))]) (rest := []) ⟨hx, hb, hml, hown, htl⟩ (mc_town l D ct h2 ym 20 (xs (7 * t + 1)) (xs (7 * t + 2)) rm qm hM H.size) (cwV 2 htl (klV (zr33 6 rfl) (zr33 7 rfl) (zr33 8 rfl) (zr1 5 rfl) (zr33 9 rfl)) rfl rfl rfl (by decide +kernel) ⟨Nat.le_of_ble_eq_true rfl, Nat.le_of_ble_eq_true rfl⟩) (lpreZ hK hw hS hA hN mWl (by decide +kernel) 11 0 rfl mWo) rfl rfl hl.1 rfl (lv_room (Nat.le_of_ble_eq_true rfl)) dL_law_428 (lroom hcs)) hw hS hA 431 rfl (fun u4 H locs pu4 hw hS => ?_)
  have kh5 := pu4.2.1
  have ht7 : lR u1.2 q u4.2 qm := (lR.q hT pu1.2.2.1 pu4.2.2.1 rfl rfl rfl)
  have hw : zPD D (fun q : Nat => s.heap.size ≤ q) (lW ct E y u1.2 q h2 ym u4.2 qm h3 fo) H := hw
  refine zfr 431 [.int u4.1] rfl rfl ?_
  refine lv_pop hx hb dL_law_431 rfl ?_
  refine lv_goto (tgt := 1278) hx hb dL_law_432 (by decide) ?_
  exact kk u1.2 q u4.2 qm fo cells slots kh2 kh5 ht7 (Nat.le_succ _) (Nat.le_add_right _ _) H locs ls hw hS (lv_sub hl [0, 1, 2, 3, 4] rfl)

set_option maxHeartbeats 4000000 in
set_option maxRecDepth 100000 in
theorem kl_5 {p : Program} {l : Launch} {e : Env} {s : State} {m : MethodId} {below : List Frame} {meth : Method} {c : Code} {b L : Nat} {xs : Nat → Int32} (C0 : lw_At p s m meth c b L xs) {D : va_G} {ct : Nat → ClassId} {E : Nat → Nat} (hK : va_K D vwCl (zT ct) s) (hN : zN s) (hZ : eZ E (fun q : Nat => s.heap.size ≤ q) s s.heap) (y ym : Nat → Nat) (h2 h3 t : Nat) (ht : 7 * t + 7 ≤ L) (hL : L ≤ 3584) (r : zRr) (q : zRq) (rm : zRr) (qm : zRq) (fo : Nat → Int64) (hJ : kJ r) (hM : mJ 20 rm) (hT : lR r q rm qm) (hEi : kEi E) (cells slots : Nat) (hcs : cells ≤ 600000 ∧ slots ≤ 7290000)
    (kk : kEnd p l e s m below meth c b D ct E y ym h2 h3 t cells slots) (H : Heap) (locs : List Loc) (hw : zPD D (fun q : Nat => s.heap.size ≤ q) (lW ct E y r q h2 ym rm qm h3 fo) H) (hS : va_S (fun q : Nat => s.heap.size ≤ q) s.heap H locs) (ls : Array Slot) (hl : lv_has ls 7 [(4, .int (nI (7 * t))), (3, .ref h3), (2, .ref h2), (1, .ref (y 195)), (0, .ref b)]) : W p l e room_1 s m #[Value.ref b] below meth c H locs cells slots (lw_Z below #[Value.ref b] s) (F0 m 435 ls []) := by
  obtain ⟨hx, hb, hr, hml, hown, hts, hX, hbl, hlocks, hgv⟩ := id C0
  have hown : s.vm.findClass RL = some m.cls := hown
  have htl : ∀ w ∈ wsL_law0, w.before #[Value.ref b] s = true := fun w h => hts w (wsL_law_in0 w h)
  have hA : ∀ q : Nat, s.heap.size ≤ q → (fun q : Nat => s.heap.size ≤ q) q := fun _ h => h
  have hbA : ¬ (fun q : Nat => s.heap.size ≤ q) b := Nat.not_le.mpr hbl
  refine lv_aload_n hx hb dL_law_435 rfl (lv_at hl 3 rfl) ?_
  refine lv_aload_n hx hb dL_law_436 rfl (lv_at hl 4 rfl) ?_
  refine lv_iload hx hb dL_law_437 (lv_at hl 0 rfl) ?_
  refine lv_iconst (v := 1) hx hb dL_law_439 (by decide) ?_
  refine lv_iadd hx hb dL_law_440 (ztop (.int (nI (7 * t + 1))) (congrArg Value.int (nI_add _ 1)) ?_)
  refine va_sld hx hb hX hbl hbA hS (zix (k := 7 * t + 1) rfl (by omega) (by omega)).1 dL_law_441 (ztop (.int (xs (7 * t + 1))) (congrArg Value.int (congrArg xs (nI_clamp (by omega)))) ?_)
  refine lv_aload_n hx hb dL_law_442 rfl (lv_at hl 4 rfl) ?_
  refine lv_iload hx hb dL_law_443 (lv_at hl 0 rfl) ?_
  refine lv_iconst (v := 2) hx hb dL_law_445 (by decide) ?_
  refine lv_iadd hx hb dL_law_446 (ztop (.int (nI (7 * t + 2))) (congrArg Value.int (nI_add _ 2)) ?_)
  refine va_sld hx hb hX hbl hbA hS (zix (k := 7 * t + 2) rfl (by omega) (by omega)).1 dL_law_447 (ztop (.int (xs (7 * t + 2))) (congrArg Value.int (congrArg xs (nI_clamp (by omega)))) ?_)
  refine lcallX (va_runV (As := [.int (xs (7 * t + 1)), .int (xs (7 * t + 2))]) (rest := []) ⟨hx, hb, hml, hown, htl⟩ (kc_go l D ct E y (xs (7 * t + 1)) (xs (7 * t + 2)) r q hJ hEi H.size) (cwV 2 htl (klV (zr35 3 rfl) (zr35 4 rfl) (zr35 5 rfl) (zr1 2 rfl) (zr35 6 rfl)) rfl rfl rfl (by decide +kernel) ⟨Nat.le_of_ble_eq_true rfl, Nat.le_of_ble_eq_true rfl⟩) (lpreC hK hw hS hA hZ hN kWlen (by decide +kernel) 10 195 rfl kg195) rfl rfl hl.1 rfl (lv_room (Nat.le_of_ble_eq_true rfl)) dL_law_448 (lroom hcs)) hw hS hA 451 rfl (fun u1 H locs pu1 hw hS => ?_)
  have kh2 := pu1.2.1
  have hw : zPD D (fun q : Nat => s.heap.size ≤ q) (lW ct E y u1.2 q h2 ym rm qm h3 fo) H := hw
  refine zfr 451 [.int u1.1] rfl rfl ?_
  refine lv_pop hx hb dL_law_451 rfl ?_
  refine lv_aload_n hx hb dL_law_452 rfl (lv_at hl 2 rfl) ?_
  refine lv_aload_n hx hb dL_law_453 rfl (lv_at hl 4 rfl) ?_
  refine lv_iload hx hb dL_law_454 (lv_at hl 0 rfl) ?_
  refine lv_iconst (v := 1) hx hb dL_law_456 (by decide) ?_
  refine lv_iadd hx hb dL_law_457 (ztop (.int (nI (7 * t + 1))) (congrArg Value.int (nI_add _ 1)) ?_)
  refine va_sld hx hb hX hbl hbA hS (zix (k := 7 * t + 1) rfl (by omega) (by omega)).1 dL_law_458 (ztop (.int (xs (7 * t + 1))) (congrArg Value.int (congrArg xs (nI_clamp (by omega)))) ?_)
  refine lv_aload_n hx hb dL_law_459 rfl (lv_at hl 4 rfl) ?_
  refine lv_iload hx hb dL_law_460 (lv_at hl 0 rfl) ?_
  refine lv_iconst (v := 2) hx hb dL_law_462 (by decide) ?_
  refine lv_iadd hx hb dL_law_463 (ztop (.int (nI (7 * t + 2))) (congrArg Value.int (nI_add _ 2)) ?_)
  refine va_sld hx hb hX hbl hbA hS (zix (k := 7 * t + 2) rfl (by omega) (by omega)).1 dL_law_464 (ztop (.int (xs (7 * t + 2))) (congrArg Value.int (congrArg xs (nI_clamp (by omega)))) ?_)
  have hw := lrot hw
  refine lcallM (va_runV (As := [.int (xs (7 * t + 1)), .int (xs (7 * t + 2))]) (rest := []) ⟨hx, hb, hml, hown, htl⟩ (mc_go l D ct h2 ym (xs (7 * t + 1)) (xs (7 * t + 2)) rm qm hM H.size) (cwV 2 htl (klV (zr36 5 rfl) (zr36 6 rfl) (zr36 7 rfl) (zr1 5 rfl) (zr36 8 rfl)) rfl rfl rfl (by decide +kernel) ⟨Nat.le_of_ble_eq_true rfl, Nat.le_of_ble_eq_true rfl⟩) (lpreZ hK hw hS hA hN mWl (by decide +kernel) 11 0 rfl mWo) rfl rfl hl.1 rfl (lv_room (Nat.le_of_ble_eq_true rfl)) dL_law_465 (lroom hcs)) hw hS hA 468 rfl (fun u4 H locs pu4 hw hS => ?_)
  have kh5 := pu4.2.1
  have hA9 := lR.go pu1.2.2.1 pu4.2.2.2.1 hT pu4.2.2.1 rfl
  have ht7 : lR u1.2 q u4.2 qm := hA9.2
  have hw : zPD D (fun q : Nat => s.heap.size ≤ q) (lW ct E y u1.2 q h2 ym u4.2 qm h3 fo) H := hw
  refine zfr 468 [.int u4.1] rfl rfl ?_
  refine lv_pop hx hb dL_law_468 rfl ?_
  refine lv_goto (tgt := 1278) hx hb dL_law_469 (by decide) ?_
  exact kk u1.2 q u4.2 qm fo cells slots kh2 kh5 ht7 (Nat.le_succ _) (Nat.le_add_right _ _) H locs ls hw hS (lv_sub hl [0, 1, 2, 3, 4] rfl)

set_option maxHeartbeats 4000000 in
set_option maxRecDepth 100000 in
theorem kl_6 {p : Program} {l : Launch} {e : Env} {s : State} {m : MethodId} {below : List Frame} {meth : Method} {c : Code} {b L : Nat} {xs : Nat → Int32} (C0 : lw_At p s m meth c b L xs) {D : va_G} {ct : Nat → ClassId} {E : Nat → Nat} (hK : va_K D vwCl (zT ct) s) (hN : zN s) (hZ : eZ E (fun q : Nat => s.heap.size ≤ q) s s.heap) (y ym : Nat → Nat) (h2 h3 t : Nat) (ht : 7 * t + 7 ≤ L) (hL : L ≤ 3584) (r : zRr) (q : zRq) (rm : zRr) (qm : zRq) (fo : Nat → Int64) (hJ : kJ r) (hM : mJ 20 rm) (hT : lR r q rm qm) (hEi : kEi E) (cells slots : Nat) (hcs : cells ≤ 600000 ∧ slots ≤ 7290000)
    (kk : kEnd p l e s m below meth c b D ct E y ym h2 h3 t cells slots) (H : Heap) (locs : List Loc) (hw : zPD D (fun q : Nat => s.heap.size ≤ q) (lW ct E y r q h2 ym rm qm h3 fo) H) (hS : va_S (fun q : Nat => s.heap.size ≤ q) s.heap H locs) (ls : Array Slot) (hl : lv_has ls 7 [(4, .int (nI (7 * t))), (3, .ref h3), (2, .ref h2), (1, .ref (y 195)), (0, .ref b)]) : W p l e room_1 s m #[Value.ref b] below meth c H locs cells slots (lw_Z below #[Value.ref b] s) (F0 m 472 ls []) := by
  obtain ⟨hx, hb, hr, hml, hown, hts, hX, hbl, hlocks, hgv⟩ := id C0
  have hown : s.vm.findClass RL = some m.cls := hown
  have htl : ∀ w ∈ wsL_law0, w.before #[Value.ref b] s = true := fun w h => hts w (wsL_law_in0 w h)
  have hA : ∀ q : Nat, s.heap.size ≤ q → (fun q : Nat => s.heap.size ≤ q) q := fun _ h => h
  have hbA : ¬ (fun q : Nat => s.heap.size ≤ q) b := Nat.not_le.mpr hbl
  refine lv_aload_n hx hb dL_law_472 rfl (lv_at hl 3 rfl) ?_
  refine lv_aload_n hx hb dL_law_473 rfl (lv_at hl 4 rfl) ?_
  refine lv_iload hx hb dL_law_474 (lv_at hl 0 rfl) ?_
  refine lv_iconst (v := 1) hx hb dL_law_476 (by decide) ?_
  refine lv_iadd hx hb dL_law_477 (ztop (.int (nI (7 * t + 1))) (congrArg Value.int (nI_add _ 1)) ?_)
  refine va_sld hx hb hX hbl hbA hS (zix (k := 7 * t + 1) rfl (by omega) (by omega)).1 dL_law_478 (ztop (.int (xs (7 * t + 1))) (congrArg Value.int (congrArg xs (nI_clamp (by omega)))) ?_)
  refine lv_aload_n hx hb dL_law_479 rfl (lv_at hl 4 rfl) ?_
  refine lv_iload hx hb dL_law_480 (lv_at hl 0 rfl) ?_
  refine lv_iconst (v := 2) hx hb dL_law_482 (by decide) ?_
  refine lv_iadd hx hb dL_law_483 (ztop (.int (nI (7 * t + 2))) (congrArg Value.int (nI_add _ 2)) ?_)
  refine va_sld hx hb hX hbl hbA hS (zix (k := 7 * t + 2) rfl (by omega) (by omega)).1 dL_law_484 (ztop (.int (xs (7 * t + 2))) (congrArg Value.int (congrArg xs (nI_clamp (by omega)))) ?_)
  refine lcallX (va_runV (As := [.int (xs (7 * t + 1)), .int (xs (7 * t + 2))]) (rest := []) ⟨hx, hb, hml, hown, htl⟩ (kc_forge l D ct E y (xs (7 * t + 1)) (xs (7 * t + 2)) r q hJ hEi H.size) (cwV 2 htl (klV (zr37 0 rfl) (zr37 1 rfl) (zr37 2 rfl) (zr1 2 rfl) (zr37 3 rfl)) rfl rfl rfl (by decide +kernel) ⟨Nat.le_of_ble_eq_true rfl, Nat.le_of_ble_eq_true rfl⟩) (lpreC hK hw hS hA hZ hN kWlen (by decide +kernel) 10 195 rfl kg195) rfl rfl hl.1 rfl (lv_room (Nat.le_of_ble_eq_true rfl)) dL_law_485 (lroom hcs)) hw hS hA 488 rfl (fun u1 H locs pu1 hw hS => ?_)
  have kh2 := pu1.2.1
  have hw : zPD D (fun q : Nat => s.heap.size ≤ q) (lW ct E y u1.2 q h2 ym rm qm h3 fo) H := hw
  refine zfr 488 [.int u1.1] rfl rfl ?_
  refine lv_pop hx hb dL_law_488 rfl ?_
  refine lv_aload_n hx hb dL_law_489 rfl (lv_at hl 2 rfl) ?_
  refine lv_aload_n hx hb dL_law_490 rfl (lv_at hl 4 rfl) ?_
  refine lv_iload hx hb dL_law_491 (lv_at hl 0 rfl) ?_
  refine lv_iconst (v := 1) hx hb dL_law_493 (by decide) ?_
  refine lv_iadd hx hb dL_law_494 (ztop (.int (nI (7 * t + 1))) (congrArg Value.int (nI_add _ 1)) ?_)
  refine va_sld hx hb hX hbl hbA hS (zix (k := 7 * t + 1) rfl (by omega) (by omega)).1 dL_law_495 (ztop (.int (xs (7 * t + 1))) (congrArg Value.int (congrArg xs (nI_clamp (by omega)))) ?_)
  refine lv_aload_n hx hb dL_law_496 rfl (lv_at hl 4 rfl) ?_
  refine lv_iload hx hb dL_law_497 (lv_at hl 0 rfl) ?_
  refine lv_iconst (v := 2) hx hb dL_law_499 (by decide) ?_
  refine lv_iadd hx hb dL_law_500 (ztop (.int (nI (7 * t + 2))) (congrArg Value.int (nI_add _ 2)) ?_)
  refine va_sld hx hb hX hbl hbA hS (zix (k := 7 * t + 2) rfl (by omega) (by omega)).1 dL_law_501 (ztop (.int (xs (7 * t + 2))) (congrArg Value.int (congrArg xs (nI_clamp (by omega)))) ?_)
  have hw := lrot hw
  refine lcallM (va_runV (As := [.int (xs (7 * t + 1)), .int (xs (7 * t + 2))]) (rest := []) ⟨hx, hb, hml, hown, htl⟩ (mc_forge l D ct h2 ym (xs (7 * t + 1)) (xs (7 * t + 2)) rm qm hM H.size) (cwV 2 htl (klV (zr37 14 rfl) (zr37 15 rfl) (zr37 16 rfl) (zr1 5 rfl) (zr37 17 rfl)) rfl rfl rfl (by decide +kernel) ⟨Nat.le_of_ble_eq_true rfl, Nat.le_of_ble_eq_true rfl⟩) (lpreZ hK hw hS hA hN mWl (by decide +kernel) 11 0 rfl mWo) rfl rfl hl.1 rfl (lv_room (Nat.le_of_ble_eq_true rfl)) dL_law_502 (lroom hcs)) hw hS hA 505 rfl (fun u4 H locs pu4 hw hS => ?_)
  have kh5 := pu4.2.1
  have hA9 := lR.forge pu1.2.2.1 pu4.2.2.2.1 hM hT pu4.2.2.1 rfl
  have ht7 : lR u1.2 q u4.2 qm := hA9.2
  have hw : zPD D (fun q : Nat => s.heap.size ≤ q) (lW ct E y u1.2 q h2 ym u4.2 qm h3 fo) H := hw
  refine zfr 505 [.int u4.1] rfl rfl ?_
  refine lv_pop hx hb dL_law_505 rfl ?_
  refine lv_goto (tgt := 1278) hx hb dL_law_506 (by decide) ?_
  exact kk u1.2 q u4.2 qm fo cells slots kh2 kh5 ht7 (Nat.le_succ _) (Nat.le_add_right _ _) H locs ls hw hS (lv_sub hl [0, 1, 2, 3, 4] rfl)

set_option maxHeartbeats 4000000 in
set_option maxRecDepth 100000 in
theorem kl_7 {p : Program} {l : Launch} {e : Env} {s : State} {m : MethodId} {below : List Frame} {meth : Method} {c : Code} {b L : Nat} {xs : Nat → Int32} (C0 : lw_At p s m meth c b L xs) {D : va_G} {ct : Nat → ClassId} {E : Nat → Nat} (hK : va_K D vwCl (zT ct) s) (hN : zN s) (hZ : eZ E (fun q : Nat => s.heap.size ≤ q) s s.heap) (y ym : Nat → Nat) (h2 h3 t : Nat) (ht : 7 * t + 7 ≤ L) (hL : L ≤ 3584) (r : zRr) (q : zRq) (rm : zRr) (qm : zRq) (fo : Nat → Int64) (hJ : kJ r) (hM : mJ 20 rm) (hT : lR r q rm qm) (hEi : kEi E) (cells slots : Nat) (hcs : cells ≤ 600000 ∧ slots ≤ 7290000)
    (kk : kEnd p l e s m below meth c b D ct E y ym h2 h3 t cells slots) (H : Heap) (locs : List Loc) (hw : zPD D (fun q : Nat => s.heap.size ≤ q) (lW ct E y r q h2 ym rm qm h3 fo) H) (hS : va_S (fun q : Nat => s.heap.size ≤ q) s.heap H locs) (ls : Array Slot) (hl : lv_has ls 7 [(4, .int (nI (7 * t))), (3, .ref h3), (2, .ref h2), (1, .ref (y 195)), (0, .ref b)]) : W p l e room_1 s m #[Value.ref b] below meth c H locs cells slots (lw_Z below #[Value.ref b] s) (F0 m 509 ls []) := by
  obtain ⟨hx, hb, hr, hml, hown, hts, hX, hbl, hlocks, hgv⟩ := id C0
  have hown : s.vm.findClass RL = some m.cls := hown
  have htl : ∀ w ∈ wsL_law0, w.before #[Value.ref b] s = true := fun w h => hts w (wsL_law_in0 w h)
  have hA : ∀ q : Nat, s.heap.size ≤ q → (fun q : Nat => s.heap.size ≤ q) q := fun _ h => h
  have hbA : ¬ (fun q : Nat => s.heap.size ≤ q) b := Nat.not_le.mpr hbl
  refine lv_aload_n hx hb dL_law_509 rfl (lv_at hl 3 rfl) ?_
  refine lv_aload_n hx hb dL_law_510 rfl (lv_at hl 4 rfl) ?_
  refine lv_iload hx hb dL_law_511 (lv_at hl 0 rfl) ?_
  refine lv_iconst (v := 1) hx hb dL_law_513 (by decide) ?_
  refine lv_iadd hx hb dL_law_514 (ztop (.int (nI (7 * t + 1))) (congrArg Value.int (nI_add _ 1)) ?_)
  refine va_sld hx hb hX hbl hbA hS (zix (k := 7 * t + 1) rfl (by omega) (by omega)).1 dL_law_515 (ztop (.int (xs (7 * t + 1))) (congrArg Value.int (congrArg xs (nI_clamp (by omega)))) ?_)
  refine lcallX (va_runV (As := [.int (xs (7 * t + 1))]) (rest := []) ⟨hx, hb, hml, hown, htl⟩ (kc_shave l D ct E y (xs (7 * t + 1)) r q hJ hEi H.size) (cwV 1 htl (klV (zr38 2 rfl) (zr38 3 rfl) (zr38 4 rfl) (zr1 2 rfl) (zr38 5 rfl)) rfl rfl rfl (by decide +kernel) ⟨Nat.le_of_ble_eq_true rfl, Nat.le_of_ble_eq_true rfl⟩) (lpreC hK hw hS hA hZ hN kWlen (by decide +kernel) 10 195 rfl kg195) rfl rfl hl.1 rfl (lv_room (Nat.le_of_ble_eq_true rfl)) dL_law_516 (lroom hcs)) hw hS hA 519 rfl (fun u1 H locs pu1 hw hS => ?_)
  have kh2 := pu1.2.1
  have hw : zPD D (fun q : Nat => s.heap.size ≤ q) (lW ct E y u1.2 q h2 ym rm qm h3 fo) H := hw
  refine zfr 519 [.int u1.1] rfl rfl ?_
  refine lv_pop hx hb dL_law_519 rfl ?_
  refine lv_aload_n hx hb dL_law_520 rfl (lv_at hl 2 rfl) ?_
  refine lv_aload_n hx hb dL_law_521 rfl (lv_at hl 4 rfl) ?_
  refine lv_iload hx hb dL_law_522 (lv_at hl 0 rfl) ?_
  refine lv_iconst (v := 1) hx hb dL_law_524 (by decide) ?_
  refine lv_iadd hx hb dL_law_525 (ztop (.int (nI (7 * t + 1))) (congrArg Value.int (nI_add _ 1)) ?_)
  refine va_sld hx hb hX hbl hbA hS (zix (k := 7 * t + 1) rfl (by omega) (by omega)).1 dL_law_526 (ztop (.int (xs (7 * t + 1))) (congrArg Value.int (congrArg xs (nI_clamp (by omega)))) ?_)
  have hw := lrot hw
  refine lcallM (va_runV (As := [.int (xs (7 * t + 1))]) (rest := []) ⟨hx, hb, hml, hown, htl⟩ (mc_shave l D ct h2 ym (xs (7 * t + 1)) rm qm hM H.size) (cwV 1 htl (klV (zr38 10 rfl) (zr38 11 rfl) (zr38 12 rfl) (zr1 5 rfl) (zr38 13 rfl)) rfl rfl rfl (by decide +kernel) ⟨Nat.le_of_ble_eq_true rfl, Nat.le_of_ble_eq_true rfl⟩) (lpreZ hK hw hS hA hN mWl (by decide +kernel) 11 0 rfl mWo) rfl rfl hl.1 rfl (lv_room (Nat.le_of_ble_eq_true rfl)) dL_law_527 (lroom hcs)) hw hS hA 530 rfl (fun u4 H locs pu4 hw hS => ?_)
  have kh5 := pu4.2.1
  have hA9 := lR.shave pu1.2.2.1 pu4.2.2.2.1 hT pu4.2.2.1 rfl
  have ht7 : lR u1.2 q u4.2 qm := hA9.2
  have hw : zPD D (fun q : Nat => s.heap.size ≤ q) (lW ct E y u1.2 q h2 ym u4.2 qm h3 fo) H := hw
  refine zfr 530 [.int u4.1] rfl rfl ?_
  refine lv_pop hx hb dL_law_530 rfl ?_
  refine lv_goto (tgt := 1278) hx hb dL_law_531 (by decide) ?_
  exact kk u1.2 q u4.2 qm fo cells slots kh2 kh5 ht7 (Nat.le_succ _) (Nat.le_add_right _ _) H locs ls hw hS (lv_sub hl [0, 1, 2, 3, 4] rfl)

set_option maxHeartbeats 4000000 in
set_option maxRecDepth 100000 in
theorem kl_8 {p : Program} {l : Launch} {e : Env} {s : State} {m : MethodId} {below : List Frame} {meth : Method} {c : Code} {b L : Nat} {xs : Nat → Int32} (C0 : lw_At p s m meth c b L xs) {D : va_G} {ct : Nat → ClassId} {E : Nat → Nat} (hK : va_K D vwCl (zT ct) s) (hN : zN s) (hZ : eZ E (fun q : Nat => s.heap.size ≤ q) s s.heap) (y ym : Nat → Nat) (h2 h3 t : Nat) (ht : 7 * t + 7 ≤ L) (hL : L ≤ 3584) (r : zRr) (q : zRq) (rm : zRr) (qm : zRq) (fo : Nat → Int64) (hJ : kJ r) (hM : mJ 20 rm) (hT : lR r q rm qm) (hEi : kEi E) (cells slots : Nat) (hcs : cells ≤ 600000 ∧ slots ≤ 7290000)
    (kk : kEnd p l e s m below meth c b D ct E y ym h2 h3 t cells slots) (H : Heap) (locs : List Loc) (hw : zPD D (fun q : Nat => s.heap.size ≤ q) (lW ct E y r q h2 ym rm qm h3 fo) H) (hS : va_S (fun q : Nat => s.heap.size ≤ q) s.heap H locs) (ls : Array Slot) (hl : lv_has ls 7 [(4, .int (nI (7 * t))), (3, .ref h3), (2, .ref h2), (1, .ref (y 195)), (0, .ref b)]) : W p l e room_1 s m #[Value.ref b] below meth c H locs cells slots (lw_Z below #[Value.ref b] s) (F0 m 534 ls []) := by
  obtain ⟨hx, hb, hr, hml, hown, hts, hX, hbl, hlocks, hgv⟩ := id C0
  have hown : s.vm.findClass RL = some m.cls := hown
  have htl : ∀ w ∈ wsL_law0, w.before #[Value.ref b] s = true := fun w h => hts w (wsL_law_in0 w h)
  have hA : ∀ q : Nat, s.heap.size ≤ q → (fun q : Nat => s.heap.size ≤ q) q := fun _ h => h
  have hbA : ¬ (fun q : Nat => s.heap.size ≤ q) b := Nat.not_le.mpr hbl
  refine lv_aload_n hx hb dL_law_534 rfl (lv_at hl 3 rfl) ?_
  refine lcallX (va_runV (As := []) (rest := []) ⟨hx, hb, hml, hown, htl⟩ (kc_week l D ct E y r q hJ hEi H.size) (cwV 0 htl (klV (zr38 18 rfl) (zr38 19 rfl) (zr38 20 rfl) (zr1 2 rfl) (zr38 21 rfl)) rfl rfl rfl (by decide +kernel) ⟨Nat.le_of_ble_eq_true rfl, Nat.le_of_ble_eq_true rfl⟩) (lpreC hK hw hS hA hZ hN kWlen (by decide +kernel) 10 195 rfl kg195) rfl rfl hl.1 rfl (lv_room (Nat.le_of_ble_eq_true rfl)) dL_law_535 (lroom hcs)) hw hS hA 538 rfl (fun u1 H locs pu1 hw hS => ?_)
  have kh2 := pu1.2.1
  have hw : zPD D (fun q : Nat => s.heap.size ≤ q) (lW ct E y u1.2 q h2 ym rm qm h3 fo) H := hw
  refine zfr 538 [.int u1.1] rfl rfl ?_
  refine lv_pop hx hb dL_law_538 rfl ?_
  refine lv_aload_n hx hb dL_law_539 rfl (lv_at hl 2 rfl) ?_
  have hw := lrot hw
  refine lcallM (va_runV (As := []) (rest := []) ⟨hx, hb, hml, hown, htl⟩ (mc_week l D ct h2 ym rm qm hM H.size) (cwV 0 htl (klV (zr39 5 rfl) (zr39 6 rfl) (zr39 7 rfl) (zr1 5 rfl) (zr39 8 rfl)) rfl rfl rfl (by decide +kernel) ⟨Nat.le_of_ble_eq_true rfl, Nat.le_of_ble_eq_true rfl⟩) (lpreZ hK hw hS hA hN mWl (by decide +kernel) 11 0 rfl mWo) rfl rfl hl.1 rfl (lv_room (Nat.le_of_ble_eq_true rfl)) dL_law_540 (lroom hcs)) hw hS hA 543 rfl (fun u4 H locs pu4 hw hS => ?_)
  have kh5 := pu4.2.1
  have hA9 := lR.week pu1.2.2.1 pu4.2.2.2.1 hT pu4.2.2.1 rfl
  have ht7 : lR u1.2 q u4.2 qm := hA9.2
  have hw : zPD D (fun q : Nat => s.heap.size ≤ q) (lW ct E y u1.2 q h2 ym u4.2 qm h3 fo) H := hw
  refine zfr 543 [.int u4.1] rfl rfl ?_
  refine lv_pop hx hb dL_law_543 rfl ?_
  refine lv_goto (tgt := 1278) hx hb dL_law_544 (by decide) ?_
  exact kk u1.2 q u4.2 qm fo cells slots kh2 kh5 ht7 (Nat.le_succ _) (Nat.le_add_right _ _) H locs ls hw hS (lv_sub hl [0, 1, 2, 3, 4] rfl)

set_option maxHeartbeats 4000000 in
set_option maxRecDepth 100000 in
theorem kl_9 {p : Program} {l : Launch} {e : Env} {s : State} {m : MethodId} {below : List Frame} {meth : Method} {c : Code} {b L : Nat} {xs : Nat → Int32} (C0 : lw_At p s m meth c b L xs) {D : va_G} {ct : Nat → ClassId} {E : Nat → Nat} (hK : va_K D vwCl (zT ct) s) (hN : zN s) (hZ : eZ E (fun q : Nat => s.heap.size ≤ q) s s.heap) (y ym : Nat → Nat) (h2 h3 t : Nat) (ht : 7 * t + 7 ≤ L) (hL : L ≤ 3584) (r : zRr) (q : zRq) (rm : zRr) (qm : zRq) (fo : Nat → Int64) (hJ : kJ r) (hM : mJ 20 rm) (hT : lR r q rm qm) (hEi : kEi E) (cells slots : Nat) (hcs : cells ≤ 600000 ∧ slots ≤ 7290000)
    (kk : kEnd p l e s m below meth c b D ct E y ym h2 h3 t cells slots) (H : Heap) (locs : List Loc) (hw : zPD D (fun q : Nat => s.heap.size ≤ q) (lW ct E y r q h2 ym rm qm h3 fo) H) (hS : va_S (fun q : Nat => s.heap.size ≤ q) s.heap H locs) (ls : Array Slot) (hl : lv_has ls 7 [(4, .int (nI (7 * t))), (3, .ref h3), (2, .ref h2), (1, .ref (y 195)), (0, .ref b)]) : W p l e room_1 s m #[Value.ref b] below meth c H locs cells slots (lw_Z below #[Value.ref b] s) (F0 m 547 ls []) := by
  obtain ⟨hx, hb, hr, hml, hown, hts, hX, hbl, hlocks, hgv⟩ := id C0
  have hown : s.vm.findClass RL = some m.cls := hown
  have htl : ∀ w ∈ wsL_law0, w.before #[Value.ref b] s = true := fun w h => hts w (wsL_law_in0 w h)
  have hA : ∀ q : Nat, s.heap.size ≤ q → (fun q : Nat => s.heap.size ≤ q) q := fun _ h => h
  have hbA : ¬ (fun q : Nat => s.heap.size ≤ q) b := Nat.not_le.mpr hbl
  refine lv_aload_n hx hb dL_law_547 rfl (lv_at hl 3 rfl) ?_
  refine lcallX (va_runV (As := []) (rest := []) ⟨hx, hb, hml, hown, htl⟩ (kc_undo l D ct E y r q hJ hEi H.size) (cwV 0 htl (klV (zr39 14 rfl) (zr39 15 rfl) (zr39 16 rfl) (zr1 2 rfl) (zr39 17 rfl)) rfl rfl rfl (by decide +kernel) ⟨Nat.le_of_ble_eq_true rfl, Nat.le_of_ble_eq_true rfl⟩) (lpreC hK hw hS hA hZ hN kWlen (by decide +kernel) 10 195 rfl kg195) rfl rfl hl.1 rfl (lv_room (Nat.le_of_ble_eq_true rfl)) dL_law_548 (lroom hcs)) hw hS hA 551 rfl (fun u1 H locs pu1 hw hS => ?_)
  have kh2 := pu1.2.1
  have hw : zPD D (fun q : Nat => s.heap.size ≤ q) (lW ct E y u1.2 q h2 ym rm qm h3 fo) H := hw
  refine zfr 551 [.int u1.1] rfl rfl ?_
  refine lv_pop hx hb dL_law_551 rfl ?_
  refine lv_aload_n hx hb dL_law_552 rfl (lv_at hl 2 rfl) ?_
  have hw := lrot hw
  refine lcallM (va_runV (As := []) (rest := []) ⟨hx, hb, hml, hown, htl⟩ (mc_undo l D ct h2 ym rm qm hM H.size) (cwV 0 htl (klV (zr39 18 rfl) (zr39 19 rfl) (zr39 20 rfl) (zr1 5 rfl) (zr39 21 rfl)) rfl rfl rfl (by decide +kernel) ⟨Nat.le_of_ble_eq_true rfl, Nat.le_of_ble_eq_true rfl⟩) (lpreZ hK hw hS hA hN mWl (by decide +kernel) 11 0 rfl mWo) rfl rfl hl.1 rfl (lv_room (Nat.le_of_ble_eq_true rfl)) dL_law_553 (lroom hcs)) hw hS hA 556 rfl (fun u4 H locs pu4 hw hS => ?_)
  have kh5 := pu4.2.1
  have hA9 := lR.undo pu1.2.2.1 pu4.2.2.2.1 hT pu4.2.2.1 rfl
  have ht7 : lR u1.2 q u4.2 qm := hA9.2
  have hw : zPD D (fun q : Nat => s.heap.size ≤ q) (lW ct E y u1.2 q h2 ym u4.2 qm h3 fo) H := hw
  refine zfr 556 [.int u4.1] rfl rfl ?_
  refine lv_pop hx hb dL_law_556 rfl ?_
  refine lv_goto (tgt := 1278) hx hb dL_law_557 (by decide) ?_
  exact kk u1.2 q u4.2 qm fo cells slots kh2 kh5 ht7 (Nat.le_succ _) (Nat.le_add_right _ _) H locs ls hw hS (lv_sub hl [0, 1, 2, 3, 4] rfl)

set_option maxHeartbeats 4000000 in
set_option maxRecDepth 100000 in
theorem kl_10 {p : Program} {l : Launch} {e : Env} {s : State} {m : MethodId} {below : List Frame} {meth : Method} {c : Code} {b L : Nat} {xs : Nat → Int32} (C0 : lw_At p s m meth c b L xs) {D : va_G} {ct : Nat → ClassId} {E : Nat → Nat} (hK : va_K D vwCl (zT ct) s) (hN : zN s) (hZ : eZ E (fun q : Nat => s.heap.size ≤ q) s s.heap) (y ym : Nat → Nat) (h2 h3 t : Nat) (ht : 7 * t + 7 ≤ L) (hL : L ≤ 3584) (r : zRr) (q : zRq) (rm : zRr) (qm : zRq) (fo : Nat → Int64) (hJ : kJ r) (hM : mJ 20 rm) (hT : lR r q rm qm) (hEi : kEi E) (cells slots : Nat) (hcs : cells ≤ 600000 ∧ slots ≤ 7290000)
    (kk : kEnd p l e s m below meth c b D ct E y ym h2 h3 t cells slots) (H : Heap) (locs : List Loc) (hw : zPD D (fun q : Nat => s.heap.size ≤ q) (lW ct E y r q h2 ym rm qm h3 fo) H) (hS : va_S (fun q : Nat => s.heap.size ≤ q) s.heap H locs) (ls : Array Slot) (hl : lv_has ls 7 [(4, .int (nI (7 * t))), (3, .ref h3), (2, .ref h2), (1, .ref (y 195)), (0, .ref b)]) : W p l e room_1 s m #[Value.ref b] below meth c H locs cells slots (lw_Z below #[Value.ref b] s) (F0 m 560 ls []) := by
  obtain ⟨hx, hb, hr, hml, hown, hts, hX, hbl, hlocks, hgv⟩ := id C0
  have hown : s.vm.findClass RL = some m.cls := hown
  have htl : ∀ w ∈ wsL_law0, w.before #[Value.ref b] s = true := fun w h => hts w (wsL_law_in0 w h)
  have hA : ∀ q : Nat, s.heap.size ≤ q → (fun q : Nat => s.heap.size ≤ q) q := fun _ h => h
  have hbA : ¬ (fun q : Nat => s.heap.size ≤ q) b := Nat.not_le.mpr hbl
  refine lv_aload_n hx hb dL_law_560 rfl (lv_at hl 3 rfl) ?_
  refine lv_aload_n hx hb dL_law_561 rfl (lv_at hl 4 rfl) ?_
  refine lv_iload hx hb dL_law_562 (lv_at hl 0 rfl) ?_
  refine lv_iconst (v := 1) hx hb dL_law_564 (by decide) ?_
  refine lv_iadd hx hb dL_law_565 (ztop (.int (nI (7 * t + 1))) (congrArg Value.int (nI_add _ 1)) ?_)
  refine va_sld hx hb hX hbl hbA hS (zix (k := 7 * t + 1) rfl (by omega) (by omega)).1 dL_law_566 (ztop (.int (xs (7 * t + 1))) (congrArg Value.int (congrArg xs (nI_clamp (by omega)))) ?_)
  refine lcallX (va_runV (As := [.int (xs (7 * t + 1))]) (rest := []) ⟨hx, hb, hml, hown, htl⟩ (kc_judged l D ct E y (xs (7 * t + 1)) r q hJ hEi H.size) (cwV 1 htl (klV (zr39 22 rfl) (zr39 23 rfl) (zr40 0 rfl) (zr1 2 rfl) (zr40 1 rfl)) rfl rfl rfl (by decide +kernel) ⟨Nat.le_of_ble_eq_true rfl, Nat.le_of_ble_eq_true rfl⟩) (lpreC hK hw hS hA hZ hN kWlen (by decide +kernel) 10 195 rfl kg195) rfl rfl hl.1 rfl (lv_room (Nat.le_of_ble_eq_true rfl)) dL_law_567 (lroom hcs)) hw hS hA 570 rfl (fun u1 H locs pu1 hw hS => ?_)
  have kh2 := pu1.2.1
  have hw : zPD D (fun q : Nat => s.heap.size ≤ q) (lW ct E y u1.2 q h2 ym rm qm h3 fo) H := hw
  refine zfr 570 [.int u1.1] rfl rfl ?_
  refine lv_pop hx hb dL_law_570 rfl ?_
  refine lv_aload_n hx hb dL_law_571 rfl (lv_at hl 2 rfl) ?_
  refine lv_aload_n hx hb dL_law_572 rfl (lv_at hl 4 rfl) ?_
  refine lv_iload hx hb dL_law_573 (lv_at hl 0 rfl) ?_
  refine lv_iconst (v := 1) hx hb dL_law_575 (by decide) ?_
  refine lv_iadd hx hb dL_law_576 (ztop (.int (nI (7 * t + 1))) (congrArg Value.int (nI_add _ 1)) ?_)
  refine va_sld hx hb hX hbl hbA hS (zix (k := 7 * t + 1) rfl (by omega) (by omega)).1 dL_law_577 (ztop (.int (xs (7 * t + 1))) (congrArg Value.int (congrArg xs (nI_clamp (by omega)))) ?_)
  have hw := lrot hw
  refine lcallM (va_runV (As := [.int (xs (7 * t + 1))]) (rest := []) ⟨hx, hb, hml, hown, htl⟩ (mc_judged l D ct h2 ym (xs (7 * t + 1)) rm qm hM H.size) (cwV 1 htl (klV (zr41 4 rfl) (zr41 5 rfl) (zr41 6 rfl) (zr1 5 rfl) (zr41 7 rfl)) rfl rfl rfl (by decide +kernel) ⟨Nat.le_of_ble_eq_true rfl, Nat.le_of_ble_eq_true rfl⟩) (lpreZ hK hw hS hA hN mWl (by decide +kernel) 11 0 rfl mWo) rfl rfl hl.1 rfl (lv_room (Nat.le_of_ble_eq_true rfl)) dL_law_578 (lroom hcs)) hw hS hA 581 rfl (fun u4 H locs pu4 hw hS => ?_)
  have kh5 := pu4.2.1
  have ht7 : lR u1.2 q u4.2 qm := (lR.s hT pu1.2.2.1 pu4.2.2.1 (lR.sJ pu4.2.2.2.1 hT) rfl rfl)
  have hw : zPD D (fun q : Nat => s.heap.size ≤ q) (lW ct E y u1.2 q h2 ym u4.2 qm h3 fo) H := hw
  refine zfr 581 [.int u4.1] rfl rfl ?_
  refine lv_pop hx hb dL_law_581 rfl ?_
  refine lv_goto (tgt := 1278) hx hb dL_law_582 (by decide) ?_
  exact kk u1.2 q u4.2 qm fo cells slots kh2 kh5 ht7 (Nat.le_succ _) (Nat.le_add_right _ _) H locs ls hw hS (lv_sub hl [0, 1, 2, 3, 4] rfl)

set_option maxHeartbeats 4000000 in
set_option maxRecDepth 100000 in
theorem kl_11 {p : Program} {l : Launch} {e : Env} {s : State} {m : MethodId} {below : List Frame} {meth : Method} {c : Code} {b L : Nat} {xs : Nat → Int32} (C0 : lw_At p s m meth c b L xs) {D : va_G} {ct : Nat → ClassId} {E : Nat → Nat} (hK : va_K D vwCl (zT ct) s) (hN : zN s) (hZ : eZ E (fun q : Nat => s.heap.size ≤ q) s s.heap) (y ym : Nat → Nat) (h2 h3 t : Nat) (ht : 7 * t + 7 ≤ L) (hL : L ≤ 3584) (r : zRr) (q : zRq) (rm : zRr) (qm : zRq) (fo : Nat → Int64) (hJ : kJ r) (hM : mJ 20 rm) (hT : lR r q rm qm) (hEi : kEi E) (cells slots : Nat) (hcs : cells ≤ 600000 ∧ slots ≤ 7290000)
    (kk : kEnd p l e s m below meth c b D ct E y ym h2 h3 t cells slots) (H : Heap) (locs : List Loc) (hw : zPD D (fun q : Nat => s.heap.size ≤ q) (lW ct E y r q h2 ym rm qm h3 fo) H) (hS : va_S (fun q : Nat => s.heap.size ≤ q) s.heap H locs) (ls : Array Slot) (hl : lv_has ls 7 [(4, .int (nI (7 * t))), (3, .ref h3), (2, .ref h2), (1, .ref (y 195)), (0, .ref b)]) : W p l e room_1 s m #[Value.ref b] below meth c H locs cells slots (lw_Z below #[Value.ref b] s) (F0 m 585 ls []) := by
  obtain ⟨hx, hb, hr, hml, hown, hts, hX, hbl, hlocks, hgv⟩ := id C0
  have hown : s.vm.findClass RL = some m.cls := hown
  have htl : ∀ w ∈ wsL_law0, w.before #[Value.ref b] s = true := fun w h => hts w (wsL_law_in0 w h)
  have hA : ∀ q : Nat, s.heap.size ≤ q → (fun q : Nat => s.heap.size ≤ q) q := fun _ h => h
  have hbA : ¬ (fun q : Nat => s.heap.size ≤ q) b := Nat.not_le.mpr hbl
  refine lv_aload_n hx hb dL_law_585 rfl (lv_at hl 3 rfl) ?_
  refine lv_aload_n hx hb dL_law_586 rfl (lv_at hl 4 rfl) ?_
  refine lv_iload hx hb dL_law_587 (lv_at hl 0 rfl) ?_
  refine lv_iconst (v := 1) hx hb dL_law_589 (by decide) ?_
  refine lv_iadd hx hb dL_law_590 (ztop (.int (nI (7 * t + 1))) (congrArg Value.int (nI_add _ 1)) ?_)
  refine va_sld hx hb hX hbl hbA hS (zix (k := 7 * t + 1) rfl (by omega) (by omega)).1 dL_law_591 (ztop (.int (xs (7 * t + 1))) (congrArg Value.int (congrArg xs (nI_clamp (by omega)))) ?_)
  refine lcallX (va_runV (As := [.int (xs (7 * t + 1))]) (rest := []) ⟨hx, hb, hml, hown, htl⟩ (kc_reach l D ct E y (xs (7 * t + 1)) r q hJ hEi H.size) (cwV 1 htl (klV (zr41 21 rfl) (zr41 22 rfl) (zr41 23 rfl) (zr1 2 rfl) (zr42 0 rfl)) rfl rfl rfl (by decide +kernel) ⟨Nat.le_of_ble_eq_true rfl, Nat.le_of_ble_eq_true rfl⟩) (lpreC hK hw hS hA hZ hN kWlen (by decide +kernel) 10 195 rfl kg195) rfl rfl hl.1 rfl (lv_room (Nat.le_of_ble_eq_true rfl)) dL_law_592 (lroom hcs)) hw hS hA 595 rfl (fun u1 H locs pu1 hw hS => ?_)
  have kh2 := pu1.2.1
  have hw : zPD D (fun q : Nat => s.heap.size ≤ q) (lW ct E y u1.2 q h2 ym rm qm h3 fo) H := hw
  refine zfr 595 [.int u1.1] rfl rfl ?_
  refine lv_pop hx hb dL_law_595 rfl ?_
  refine lv_aload_n hx hb dL_law_596 rfl (lv_at hl 2 rfl) ?_
  refine lv_aload_n hx hb dL_law_597 rfl (lv_at hl 4 rfl) ?_
  refine lv_iload hx hb dL_law_598 (lv_at hl 0 rfl) ?_
  refine lv_iconst (v := 1) hx hb dL_law_600 (by decide) ?_
  refine lv_iadd hx hb dL_law_601 (ztop (.int (nI (7 * t + 1))) (congrArg Value.int (nI_add _ 1)) ?_)
  refine va_sld hx hb hX hbl hbA hS (zix (k := 7 * t + 1) rfl (by omega) (by omega)).1 dL_law_602 (ztop (.int (xs (7 * t + 1))) (congrArg Value.int (congrArg xs (nI_clamp (by omega)))) ?_)
  have hw := lrot hw
  refine lcallM (va_runV (As := [.int (xs (7 * t + 1))]) (rest := []) ⟨hx, hb, hml, hown, htl⟩ (mc_reach l D ct h2 ym 20 (xs (7 * t + 1)) rm qm hM H.size) (cwV 1 htl (klV (zr43 4 rfl) (zr43 5 rfl) (zr43 6 rfl) (zr1 5 rfl) (zr43 7 rfl)) rfl rfl rfl (by decide +kernel) ⟨Nat.le_of_ble_eq_true rfl, Nat.le_of_ble_eq_true rfl⟩) (lpreZ hK hw hS hA hN mWl (by decide +kernel) 11 0 rfl mWo) rfl rfl hl.1 rfl (lv_room (Nat.le_of_ble_eq_true rfl)) dL_law_603 (lroom hcs)) hw hS hA 606 rfl (fun u4 H locs pu4 hw hS => ?_)
  have kh5 := pu4.2.1
  have ht7 : lR u1.2 q u4.2 qm := (lR.q hT pu1.2.2.1 pu4.2.2.1 rfl rfl rfl)
  have hw : zPD D (fun q : Nat => s.heap.size ≤ q) (lW ct E y u1.2 q h2 ym u4.2 qm h3 fo) H := hw
  refine zfr 606 [.int u4.1] rfl rfl ?_
  refine lv_pop hx hb dL_law_606 rfl ?_
  refine lv_goto (tgt := 1278) hx hb dL_law_607 (by decide) ?_
  exact kk u1.2 q u4.2 qm fo cells slots kh2 kh5 ht7 (Nat.le_succ _) (Nat.le_add_right _ _) H locs ls hw hS (lv_sub hl [0, 1, 2, 3, 4] rfl)

set_option maxHeartbeats 4000000 in
set_option maxRecDepth 100000 in
theorem kl_12 {p : Program} {l : Launch} {e : Env} {s : State} {m : MethodId} {below : List Frame} {meth : Method} {c : Code} {b L : Nat} {xs : Nat → Int32} (C0 : lw_At p s m meth c b L xs) {D : va_G} {ct : Nat → ClassId} {E : Nat → Nat} (hK : va_K D vwCl (zT ct) s) (hN : zN s) (hZ : eZ E (fun q : Nat => s.heap.size ≤ q) s s.heap) (y ym : Nat → Nat) (h2 h3 t : Nat) (ht : 7 * t + 7 ≤ L) (hL : L ≤ 3584) (r : zRr) (q : zRq) (rm : zRr) (qm : zRq) (fo : Nat → Int64) (hJ : kJ r) (hM : mJ 20 rm) (hT : lR r q rm qm) (hEi : kEi E) (cells slots : Nat) (hcs : cells ≤ 600000 ∧ slots ≤ 7290000)
    (kk : kEnd p l e s m below meth c b D ct E y ym h2 h3 t cells slots) (H : Heap) (locs : List Loc) (hw : zPD D (fun q : Nat => s.heap.size ≤ q) (lW ct E y r q h2 ym rm qm h3 fo) H) (hS : va_S (fun q : Nat => s.heap.size ≤ q) s.heap H locs) (ls : Array Slot) (hl : lv_has ls 7 [(4, .int (nI (7 * t))), (3, .ref h3), (2, .ref h2), (1, .ref (y 195)), (0, .ref b)]) : W p l e room_1 s m #[Value.ref b] below meth c H locs cells slots (lw_Z below #[Value.ref b] s) (F0 m 610 ls []) := by
  obtain ⟨hx, hb, hr, hml, hown, hts, hX, hbl, hlocks, hgv⟩ := id C0
  have hown : s.vm.findClass RL = some m.cls := hown
  have htl : ∀ w ∈ wsL_law0, w.before #[Value.ref b] s = true := fun w h => hts w (wsL_law_in0 w h)
  have hA : ∀ q : Nat, s.heap.size ≤ q → (fun q : Nat => s.heap.size ≤ q) q := fun _ h => h
  have hbA : ¬ (fun q : Nat => s.heap.size ≤ q) b := Nat.not_le.mpr hbl
  refine lv_aload_n hx hb dL_law_610 rfl (lv_at hl 3 rfl) ?_
  refine lv_aload_n hx hb dL_law_611 rfl (lv_at hl 4 rfl) ?_
  refine lv_iload hx hb dL_law_612 (lv_at hl 0 rfl) ?_
  refine lv_iconst (v := 1) hx hb dL_law_614 (by decide) ?_
  refine lv_iadd hx hb dL_law_615 (ztop (.int (nI (7 * t + 1))) (congrArg Value.int (nI_add _ 1)) ?_)
  refine va_sld hx hb hX hbl hbA hS (zix (k := 7 * t + 1) rfl (by omega) (by omega)).1 dL_law_616 (ztop (.int (xs (7 * t + 1))) (congrArg Value.int (congrArg xs (nI_clamp (by omega)))) ?_)
  refine lv_aload_n hx hb dL_law_617 rfl (lv_at hl 4 rfl) ?_
  refine lv_iload hx hb dL_law_618 (lv_at hl 0 rfl) ?_
  refine lv_iconst (v := 2) hx hb dL_law_620 (by decide) ?_
  refine lv_iadd hx hb dL_law_621 (ztop (.int (nI (7 * t + 2))) (congrArg Value.int (nI_add _ 2)) ?_)
  refine va_sld hx hb hX hbl hbA hS (zix (k := 7 * t + 2) rfl (by omega) (by omega)).1 dL_law_622 (ztop (.int (xs (7 * t + 2))) (congrArg Value.int (congrArg xs (nI_clamp (by omega)))) ?_)
  refine lcallX (va_runV (As := [.int (xs (7 * t + 1)), .int (xs (7 * t + 2))]) (rest := []) ⟨hx, hb, hml, hown, htl⟩ (kc_frontiers l D ct E y (xs (7 * t + 1)) (xs (7 * t + 2)) r q hJ hEi H.size) (cwV 2 htl (klV (zr43 16 rfl) (zr43 17 rfl) (zr43 18 rfl) (zr1 2 rfl) (zr43 19 rfl)) rfl rfl rfl (by decide +kernel) ⟨Nat.le_of_ble_eq_true rfl, Nat.le_of_ble_eq_true rfl⟩) (lpreC hK hw hS hA hZ hN kWlen (by decide +kernel) 10 195 rfl kg195) rfl rfl hl.1 rfl (lv_room (Nat.le_of_ble_eq_true rfl)) dL_law_623 (lroom hcs)) hw hS hA 626 rfl (fun u1 H locs pu1 hw hS => ?_)
  have kh2 := pu1.2.1
  have hw : zPD D (fun q : Nat => s.heap.size ≤ q) (lW ct E y u1.2 q h2 ym rm qm h3 fo) H := hw
  refine zfr 626 [.int u1.1] rfl rfl ?_
  refine lv_pop hx hb dL_law_626 rfl ?_
  refine lv_aload_n hx hb dL_law_627 rfl (lv_at hl 2 rfl) ?_
  refine lv_aload_n hx hb dL_law_628 rfl (lv_at hl 4 rfl) ?_
  refine lv_iload hx hb dL_law_629 (lv_at hl 0 rfl) ?_
  refine lv_iconst (v := 1) hx hb dL_law_631 (by decide) ?_
  refine lv_iadd hx hb dL_law_632 (ztop (.int (nI (7 * t + 1))) (congrArg Value.int (nI_add _ 1)) ?_)
  refine va_sld hx hb hX hbl hbA hS (zix (k := 7 * t + 1) rfl (by omega) (by omega)).1 dL_law_633 (ztop (.int (xs (7 * t + 1))) (congrArg Value.int (congrArg xs (nI_clamp (by omega)))) ?_)
  refine lv_aload_n hx hb dL_law_634 rfl (lv_at hl 4 rfl) ?_
  refine lv_iload hx hb dL_law_635 (lv_at hl 0 rfl) ?_
  refine lv_iconst (v := 2) hx hb dL_law_637 (by decide) ?_
  refine lv_iadd hx hb dL_law_638 (ztop (.int (nI (7 * t + 2))) (congrArg Value.int (nI_add _ 2)) ?_)
  refine va_sld hx hb hX hbl hbA hS (zix (k := 7 * t + 2) rfl (by omega) (by omega)).1 dL_law_639 (ztop (.int (xs (7 * t + 2))) (congrArg Value.int (congrArg xs (nI_clamp (by omega)))) ?_)
  have hw := lrot hw
  refine lcallM (va_runV (As := [.int (xs (7 * t + 1)), .int (xs (7 * t + 2))]) (rest := []) ⟨hx, hb, hml, hown, htl⟩ (mc_frontiers l D ct h2 ym 20 (xs (7 * t + 1)) (xs (7 * t + 2)) rm qm hM H.size) (cwV 2 htl (klV (zr44 1 rfl) (zr44 2 rfl) (zr44 3 rfl) (zr1 5 rfl) (zr44 4 rfl)) rfl rfl rfl (by decide +kernel) ⟨Nat.le_of_ble_eq_true rfl, Nat.le_of_ble_eq_true rfl⟩) (lpreZ hK hw hS hA hN mWl (by decide +kernel) 11 0 rfl mWo) rfl rfl hl.1 rfl (lv_room (Nat.le_of_ble_eq_true rfl)) dL_law_640 (lroom hcs)) hw hS hA 643 rfl (fun u4 H locs pu4 hw hS => ?_)
  have kh5 := pu4.2.1
  have ht7 : lR u1.2 q u4.2 qm := (lR.q hT pu1.2.2.1 pu4.2.2.1 rfl rfl rfl)
  have hw : zPD D (fun q : Nat => s.heap.size ≤ q) (lW ct E y u1.2 q h2 ym u4.2 qm h3 fo) H := hw
  refine zfr 643 [.int u4.1] rfl rfl ?_
  refine lv_pop hx hb dL_law_643 rfl ?_
  refine lv_goto (tgt := 1278) hx hb dL_law_644 (by decide) ?_
  exact kk u1.2 q u4.2 qm fo cells slots kh2 kh5 ht7 (Nat.le_succ _) (Nat.le_add_right _ _) H locs ls hw hS (lv_sub hl [0, 1, 2, 3, 4] rfl)

set_option maxHeartbeats 4000000 in
set_option maxRecDepth 100000 in
theorem kl_13 {p : Program} {l : Launch} {e : Env} {s : State} {m : MethodId} {below : List Frame} {meth : Method} {c : Code} {b L : Nat} {xs : Nat → Int32} (C0 : lw_At p s m meth c b L xs) {D : va_G} {ct : Nat → ClassId} {E : Nat → Nat} (hK : va_K D vwCl (zT ct) s) (hN : zN s) (hZ : eZ E (fun q : Nat => s.heap.size ≤ q) s s.heap) (y ym : Nat → Nat) (h2 h3 t : Nat) (ht : 7 * t + 7 ≤ L) (hL : L ≤ 3584) (r : zRr) (q : zRq) (rm : zRr) (qm : zRq) (fo : Nat → Int64) (hJ : kJ r) (hM : mJ 20 rm) (hT : lR r q rm qm) (hEi : kEi E) (cells slots : Nat) (hcs : cells ≤ 600000 ∧ slots ≤ 7290000)
    (kk : kEnd p l e s m below meth c b D ct E y ym h2 h3 t cells slots) (H : Heap) (locs : List Loc) (hw : zPD D (fun q : Nat => s.heap.size ≤ q) (lW ct E y r q h2 ym rm qm h3 fo) H) (hS : va_S (fun q : Nat => s.heap.size ≤ q) s.heap H locs) (ls : Array Slot) (hl : lv_has ls 7 [(4, .int (nI (7 * t))), (3, .ref h3), (2, .ref h2), (1, .ref (y 195)), (0, .ref b)]) : W p l e room_1 s m #[Value.ref b] below meth c H locs cells slots (lw_Z below #[Value.ref b] s) (F0 m 647 ls []) := by
  obtain ⟨hx, hb, hr, hml, hown, hts, hX, hbl, hlocks, hgv⟩ := id C0
  have hown : s.vm.findClass RL = some m.cls := hown
  have htl : ∀ w ∈ wsL_law0, w.before #[Value.ref b] s = true := fun w h => hts w (wsL_law_in0 w h)
  have hA : ∀ q : Nat, s.heap.size ≤ q → (fun q : Nat => s.heap.size ≤ q) q := fun _ h => h
  have hbA : ¬ (fun q : Nat => s.heap.size ≤ q) b := Nat.not_le.mpr hbl
  refine lv_aload_n hx hb dL_law_647 rfl (lv_at hl 3 rfl) ?_
  refine lv_aload_n hx hb dL_law_648 rfl (lv_at hl 4 rfl) ?_
  refine lv_iload hx hb dL_law_649 (lv_at hl 0 rfl) ?_
  refine lv_iconst (v := 1) hx hb dL_law_651 (by decide) ?_
  refine lv_iadd hx hb dL_law_652 (ztop (.int (nI (7 * t + 1))) (congrArg Value.int (nI_add _ 1)) ?_)
  refine va_sld hx hb hX hbl hbA hS (zix (k := 7 * t + 1) rfl (by omega) (by omega)).1 dL_law_653 (ztop (.int (xs (7 * t + 1))) (congrArg Value.int (congrArg xs (nI_clamp (by omega)))) ?_)
  refine lv_aload_n hx hb dL_law_654 rfl (lv_at hl 4 rfl) ?_
  refine lv_iload hx hb dL_law_655 (lv_at hl 0 rfl) ?_
  refine lv_iconst (v := 2) hx hb dL_law_657 (by decide) ?_
  refine lv_iadd hx hb dL_law_658 (ztop (.int (nI (7 * t + 2))) (congrArg Value.int (nI_add _ 2)) ?_)
  refine va_sld hx hb hX hbl hbA hS (zix (k := 7 * t + 2) rfl (by omega) (by omega)).1 dL_law_659 (ztop (.int (xs (7 * t + 2))) (congrArg Value.int (congrArg xs (nI_clamp (by omega)))) ?_)
  refine lcallX (va_runV (As := [.int (xs (7 * t + 1)), .int (xs (7 * t + 2))]) (rest := []) ⟨hx, hb, hml, hown, htl⟩ (kc_when l D ct E y (xs (7 * t + 1)) (xs (7 * t + 2)) r q hJ hEi H.size) (cwV 2 htl (klV (zr44 9 rfl) (zr44 10 rfl) (zr44 11 rfl) (zr1 2 rfl) (zr44 12 rfl)) rfl rfl rfl (by decide +kernel) ⟨Nat.le_of_ble_eq_true rfl, Nat.le_of_ble_eq_true rfl⟩) (lpreC hK hw hS hA hZ hN kWlen (by decide +kernel) 10 195 rfl kg195) rfl rfl hl.1 rfl (lv_room (Nat.le_of_ble_eq_true rfl)) dL_law_660 (lroom hcs)) hw hS hA 663 rfl (fun u1 H locs pu1 hw hS => ?_)
  have kh2 := pu1.2.1
  have hw : zPD D (fun q : Nat => s.heap.size ≤ q) (lW ct E y u1.2 q h2 ym rm qm h3 fo) H := hw
  refine zfr 663 [.int u1.1] rfl rfl ?_
  refine lv_pop hx hb dL_law_663 rfl ?_
  refine lv_aload_n hx hb dL_law_664 rfl (lv_at hl 2 rfl) ?_
  refine lv_aload_n hx hb dL_law_665 rfl (lv_at hl 4 rfl) ?_
  refine lv_iload hx hb dL_law_666 (lv_at hl 0 rfl) ?_
  refine lv_iconst (v := 1) hx hb dL_law_668 (by decide) ?_
  refine lv_iadd hx hb dL_law_669 (ztop (.int (nI (7 * t + 1))) (congrArg Value.int (nI_add _ 1)) ?_)
  refine va_sld hx hb hX hbl hbA hS (zix (k := 7 * t + 1) rfl (by omega) (by omega)).1 dL_law_670 (ztop (.int (xs (7 * t + 1))) (congrArg Value.int (congrArg xs (nI_clamp (by omega)))) ?_)
  refine lv_aload_n hx hb dL_law_671 rfl (lv_at hl 4 rfl) ?_
  refine lv_iload hx hb dL_law_672 (lv_at hl 0 rfl) ?_
  refine lv_iconst (v := 2) hx hb dL_law_674 (by decide) ?_
  refine lv_iadd hx hb dL_law_675 (ztop (.int (nI (7 * t + 2))) (congrArg Value.int (nI_add _ 2)) ?_)
  refine va_sld hx hb hX hbl hbA hS (zix (k := 7 * t + 2) rfl (by omega) (by omega)).1 dL_law_676 (ztop (.int (xs (7 * t + 2))) (congrArg Value.int (congrArg xs (nI_clamp (by omega)))) ?_)
  have hw := lrot hw
  refine lcallM (va_runV (As := [.int (xs (7 * t + 1)), .int (xs (7 * t + 2))]) (rest := []) ⟨hx, hb, hml, hown, htl⟩ (mc_when l D ct h2 ym (xs (7 * t + 1)) (xs (7 * t + 2)) rm qm hM H.size) (cwV 2 htl (klV (zr45 1 rfl) (zr45 2 rfl) (zr45 3 rfl) (zr1 5 rfl) (zr45 4 rfl)) rfl rfl rfl (by decide +kernel) ⟨Nat.le_of_ble_eq_true rfl, Nat.le_of_ble_eq_true rfl⟩) (lpreZ hK hw hS hA hN mWl (by decide +kernel) 11 0 rfl mWo) rfl rfl hl.1 rfl (lv_room (Nat.le_of_ble_eq_true rfl)) dL_law_677 (lroom hcs)) hw hS hA 680 rfl (fun u4 H locs pu4 hw hS => ?_)
  have kh5 := pu4.2.1
  have ht7 : lR u1.2 q u4.2 qm := (lR.s hT pu1.2.2.1 pu4.2.2.1 (by rw [show u4 = _ from pu4.2.2.2.1]; exact rs_when) rfl rfl)
  have hw : zPD D (fun q : Nat => s.heap.size ≤ q) (lW ct E y u1.2 q h2 ym u4.2 qm h3 fo) H := hw
  refine zfr 680 [.int u4.1] rfl rfl ?_
  refine lv_pop hx hb dL_law_680 rfl ?_
  refine lv_goto (tgt := 1278) hx hb dL_law_681 (by decide) ?_
  exact kk u1.2 q u4.2 qm fo cells slots kh2 kh5 ht7 (Nat.le_succ _) (Nat.le_add_right _ _) H locs ls hw hS (lv_sub hl [0, 1, 2, 3, 4] rfl)

set_option maxHeartbeats 4000000 in
set_option maxRecDepth 100000 in
theorem kl_14 {p : Program} {l : Launch} {e : Env} {s : State} {m : MethodId} {below : List Frame} {meth : Method} {c : Code} {b L : Nat} {xs : Nat → Int32} (C0 : lw_At p s m meth c b L xs) {D : va_G} {ct : Nat → ClassId} {E : Nat → Nat} (hK : va_K D vwCl (zT ct) s) (hN : zN s) (hZ : eZ E (fun q : Nat => s.heap.size ≤ q) s s.heap) (y ym : Nat → Nat) (h2 h3 t : Nat) (ht : 7 * t + 7 ≤ L) (hL : L ≤ 3584) (r : zRr) (q : zRq) (rm : zRr) (qm : zRq) (fo : Nat → Int64) (hJ : kJ r) (hM : mJ 20 rm) (hT : lR r q rm qm) (hEi : kEi E) (cells slots : Nat) (hcs : cells ≤ 600000 ∧ slots ≤ 7290000)
    (kk : kEnd p l e s m below meth c b D ct E y ym h2 h3 t cells slots) (H : Heap) (locs : List Loc) (hw : zPD D (fun q : Nat => s.heap.size ≤ q) (lW ct E y r q h2 ym rm qm h3 fo) H) (hS : va_S (fun q : Nat => s.heap.size ≤ q) s.heap H locs) (ls : Array Slot) (hl : lv_has ls 7 [(4, .int (nI (7 * t))), (3, .ref h3), (2, .ref h2), (1, .ref (y 195)), (0, .ref b)]) : W p l e room_1 s m #[Value.ref b] below meth c H locs cells slots (lw_Z below #[Value.ref b] s) (F0 m 684 ls []) := by
  obtain ⟨hx, hb, hr, hml, hown, hts, hX, hbl, hlocks, hgv⟩ := id C0
  have hown : s.vm.findClass RL = some m.cls := hown
  have htl : ∀ w ∈ wsL_law0, w.before #[Value.ref b] s = true := fun w h => hts w (wsL_law_in0 w h)
  have hA : ∀ q : Nat, s.heap.size ≤ q → (fun q : Nat => s.heap.size ≤ q) q := fun _ h => h
  have hbA : ¬ (fun q : Nat => s.heap.size ≤ q) b := Nat.not_le.mpr hbl
  refine lv_aload_n hx hb dL_law_684 rfl (lv_at hl 3 rfl) ?_
  refine lv_aload_n hx hb dL_law_685 rfl (lv_at hl 4 rfl) ?_
  refine lv_iload hx hb dL_law_686 (lv_at hl 0 rfl) ?_
  refine lv_iconst (v := 1) hx hb dL_law_688 (by decide) ?_
  refine lv_iadd hx hb dL_law_689 (ztop (.int (nI (7 * t + 1))) (congrArg Value.int (nI_add _ 1)) ?_)
  refine va_sld hx hb hX hbl hbA hS (zix (k := 7 * t + 1) rfl (by omega) (by omega)).1 dL_law_690 (ztop (.int (xs (7 * t + 1))) (congrArg Value.int (congrArg xs (nI_clamp (by omega)))) ?_)
  refine lcallX (va_runV (As := [.int (xs (7 * t + 1))]) (rest := []) ⟨hx, hb, hml, hown, htl⟩ (kc_round l D ct E y (xs (7 * t + 1)) r q hJ hEi H.size) (cwV 1 htl (klV (zr45 9 rfl) (zr45 10 rfl) (zr45 11 rfl) (zr1 2 rfl) (zr45 12 rfl)) rfl rfl rfl (by decide +kernel) ⟨Nat.le_of_ble_eq_true rfl, Nat.le_of_ble_eq_true rfl⟩) (lpreC hK hw hS hA hZ hN kWlen (by decide +kernel) 10 195 rfl kg195) rfl rfl hl.1 rfl (lv_room (Nat.le_of_ble_eq_true rfl)) dL_law_691 (lroom hcs)) hw hS hA 694 rfl (fun u1 H locs pu1 hw hS => ?_)
  have kh2 := pu1.2.1
  have hw : zPD D (fun q : Nat => s.heap.size ≤ q) (lW ct E y u1.2 q h2 ym rm qm h3 fo) H := hw
  refine zfr 694 [.int u1.1] rfl rfl ?_
  refine lv_pop hx hb dL_law_694 rfl ?_
  refine lv_aload_n hx hb dL_law_695 rfl (lv_at hl 2 rfl) ?_
  refine lv_aload_n hx hb dL_law_696 rfl (lv_at hl 4 rfl) ?_
  refine lv_iload hx hb dL_law_697 (lv_at hl 0 rfl) ?_
  refine lv_iconst (v := 1) hx hb dL_law_699 (by decide) ?_
  refine lv_iadd hx hb dL_law_700 (ztop (.int (nI (7 * t + 1))) (congrArg Value.int (nI_add _ 1)) ?_)
  refine va_sld hx hb hX hbl hbA hS (zix (k := 7 * t + 1) rfl (by omega) (by omega)).1 dL_law_701 (ztop (.int (xs (7 * t + 1))) (congrArg Value.int (congrArg xs (nI_clamp (by omega)))) ?_)
  have hw := lrot hw
  refine lcallM (va_runV (As := [.int (xs (7 * t + 1))]) (rest := []) ⟨hx, hb, hml, hown, htl⟩ (mc_round l D ct h2 ym (xs (7 * t + 1)) rm qm hM H.size) (cwV 1 htl (klV (zr46 2 rfl) (zr46 3 rfl) (zr46 4 rfl) (zr1 5 rfl) (zr46 5 rfl)) rfl rfl rfl (by decide +kernel) ⟨Nat.le_of_ble_eq_true rfl, Nat.le_of_ble_eq_true rfl⟩) (lpreZ hK hw hS hA hN mWl (by decide +kernel) 11 0 rfl mWo) rfl rfl hl.1 rfl (lv_room (Nat.le_of_ble_eq_true rfl)) dL_law_702 (lroom hcs)) hw hS hA 705 rfl (fun u4 H locs pu4 hw hS => ?_)
  have kh5 := pu4.2.1
  have ht7 : lR u1.2 q u4.2 qm := (lR.s hT pu1.2.2.1 pu4.2.2.1 (by rw [show u4 = _ from pu4.2.2.2.1]; exact rs_round) rfl rfl)
  have hw : zPD D (fun q : Nat => s.heap.size ≤ q) (lW ct E y u1.2 q h2 ym u4.2 qm h3 fo) H := hw
  refine zfr 705 [.int u4.1] rfl rfl ?_
  refine lv_pop hx hb dL_law_705 rfl ?_
  refine lv_goto (tgt := 1278) hx hb dL_law_706 (by decide) ?_
  exact kk u1.2 q u4.2 qm fo cells slots kh2 kh5 ht7 (Nat.le_succ _) (Nat.le_add_right _ _) H locs ls hw hS (lv_sub hl [0, 1, 2, 3, 4] rfl)

set_option maxHeartbeats 4000000 in
set_option maxRecDepth 100000 in
theorem kl_15 {p : Program} {l : Launch} {e : Env} {s : State} {m : MethodId} {below : List Frame} {meth : Method} {c : Code} {b L : Nat} {xs : Nat → Int32} (C0 : lw_At p s m meth c b L xs) {D : va_G} {ct : Nat → ClassId} {E : Nat → Nat} (hK : va_K D vwCl (zT ct) s) (hN : zN s) (hZ : eZ E (fun q : Nat => s.heap.size ≤ q) s s.heap) (y ym : Nat → Nat) (h2 h3 t : Nat) (ht : 7 * t + 7 ≤ L) (hL : L ≤ 3584) (r : zRr) (q : zRq) (rm : zRr) (qm : zRq) (fo : Nat → Int64) (hJ : kJ r) (hM : mJ 20 rm) (hT : lR r q rm qm) (hEi : kEi E) (cells slots : Nat) (hcs : cells ≤ 600000 ∧ slots ≤ 7290000)
    (kk : kEnd p l e s m below meth c b D ct E y ym h2 h3 t cells slots) (H : Heap) (locs : List Loc) (hw : zPD D (fun q : Nat => s.heap.size ≤ q) (lW ct E y r q h2 ym rm qm h3 fo) H) (hS : va_S (fun q : Nat => s.heap.size ≤ q) s.heap H locs) (ls : Array Slot) (hl : lv_has ls 7 [(4, .int (nI (7 * t))), (3, .ref h3), (2, .ref h2), (1, .ref (y 195)), (0, .ref b)]) : W p l e room_1 s m #[Value.ref b] below meth c H locs cells slots (lw_Z below #[Value.ref b] s) (F0 m 709 ls []) := by
  obtain ⟨hx, hb, hr, hml, hown, hts, hX, hbl, hlocks, hgv⟩ := id C0
  have hown : s.vm.findClass RL = some m.cls := hown
  have htl : ∀ w ∈ wsL_law0, w.before #[Value.ref b] s = true := fun w h => hts w (wsL_law_in0 w h)
  have hA : ∀ q : Nat, s.heap.size ≤ q → (fun q : Nat => s.heap.size ≤ q) q := fun _ h => h
  have hbA : ¬ (fun q : Nat => s.heap.size ≤ q) b := Nat.not_le.mpr hbl
  refine lv_aload_n hx hb dL_law_709 rfl (lv_at hl 3 rfl) ?_
  refine lv_aload_n hx hb dL_law_710 rfl (lv_at hl 4 rfl) ?_
  refine lv_iload hx hb dL_law_711 (lv_at hl 0 rfl) ?_
  refine lv_iconst (v := 1) hx hb dL_law_713 (by decide) ?_
  refine lv_iadd hx hb dL_law_714 (ztop (.int (nI (7 * t + 1))) (congrArg Value.int (nI_add _ 1)) ?_)
  refine va_sld hx hb hX hbl hbA hS (zix (k := 7 * t + 1) rfl (by omega) (by omega)).1 dL_law_715 (ztop (.int (xs (7 * t + 1))) (congrArg Value.int (congrArg xs (nI_clamp (by omega)))) ?_)
  refine lv_aload_n hx hb dL_law_716 rfl (lv_at hl 4 rfl) ?_
  refine lv_iload hx hb dL_law_717 (lv_at hl 0 rfl) ?_
  refine lv_iconst (v := 2) hx hb dL_law_719 (by decide) ?_
  refine lv_iadd hx hb dL_law_720 (ztop (.int (nI (7 * t + 2))) (congrArg Value.int (nI_add _ 2)) ?_)
  refine va_sld hx hb hX hbl hbA hS (zix (k := 7 * t + 2) rfl (by omega) (by omega)).1 dL_law_721 (ztop (.int (xs (7 * t + 2))) (congrArg Value.int (congrArg xs (nI_clamp (by omega)))) ?_)
  refine lcallX (va_runV (As := [.int (xs (7 * t + 1)), .int (xs (7 * t + 2))]) (rest := []) ⟨hx, hb, hml, hown, htl⟩ (kc_need l D ct E y (xs (7 * t + 1)) (xs (7 * t + 2)) r q hJ hEi H.size) (cwV 2 htl (klV (zr46 10 rfl) (zr46 11 rfl) (zr46 12 rfl) (zr1 2 rfl) (zr46 13 rfl)) rfl rfl rfl (by decide +kernel) ⟨Nat.le_of_ble_eq_true rfl, Nat.le_of_ble_eq_true rfl⟩) (lpreC hK hw hS hA hZ hN kWlen (by decide +kernel) 10 195 rfl kg195) rfl rfl hl.1 rfl (lv_room (Nat.le_of_ble_eq_true rfl)) dL_law_722 (lroom hcs)) hw hS hA 725 rfl (fun u1 H locs pu1 hw hS => ?_)
  have kh2 := pu1.2.1
  have hw : zPD D (fun q : Nat => s.heap.size ≤ q) (lW ct E y u1.2 q h2 ym rm qm h3 fo) H := hw
  refine zfr 725 [.int u1.1] rfl rfl ?_
  refine lv_pop hx hb dL_law_725 rfl ?_
  refine lv_aload_n hx hb dL_law_726 rfl (lv_at hl 2 rfl) ?_
  refine lv_aload_n hx hb dL_law_727 rfl (lv_at hl 4 rfl) ?_
  refine lv_iload hx hb dL_law_728 (lv_at hl 0 rfl) ?_
  refine lv_iconst (v := 1) hx hb dL_law_730 (by decide) ?_
  refine lv_iadd hx hb dL_law_731 (ztop (.int (nI (7 * t + 1))) (congrArg Value.int (nI_add _ 1)) ?_)
  refine va_sld hx hb hX hbl hbA hS (zix (k := 7 * t + 1) rfl (by omega) (by omega)).1 dL_law_732 (ztop (.int (xs (7 * t + 1))) (congrArg Value.int (congrArg xs (nI_clamp (by omega)))) ?_)
  refine lv_aload_n hx hb dL_law_733 rfl (lv_at hl 4 rfl) ?_
  refine lv_iload hx hb dL_law_734 (lv_at hl 0 rfl) ?_
  refine lv_iconst (v := 2) hx hb dL_law_736 (by decide) ?_
  refine lv_iadd hx hb dL_law_737 (ztop (.int (nI (7 * t + 2))) (congrArg Value.int (nI_add _ 2)) ?_)
  refine va_sld hx hb hX hbl hbA hS (zix (k := 7 * t + 2) rfl (by omega) (by omega)).1 dL_law_738 (ztop (.int (xs (7 * t + 2))) (congrArg Value.int (congrArg xs (nI_clamp (by omega)))) ?_)
  have hw := lrot hw
  refine lcallM (va_runV (As := [.int (xs (7 * t + 1)), .int (xs (7 * t + 2))]) (rest := []) ⟨hx, hb, hml, hown, htl⟩ (mc_need l D ct h2 ym (xs (7 * t + 1)) (xs (7 * t + 2)) rm qm hM H.size) (cwV 2 htl (klV (zr46 19 rfl) (zr46 20 rfl) (zr46 21 rfl) (zr1 5 rfl) (zr46 22 rfl)) rfl rfl rfl (by decide +kernel) ⟨Nat.le_of_ble_eq_true rfl, Nat.le_of_ble_eq_true rfl⟩) (lpreZ hK hw hS hA hN mWl (by decide +kernel) 11 0 rfl mWo) rfl rfl hl.1 rfl (lv_room (Nat.le_of_ble_eq_true rfl)) dL_law_739 (lroom hcs)) hw hS hA 742 rfl (fun u4 H locs pu4 hw hS => ?_)
  have kh5 := pu4.2.1
  have ht7 : lR u1.2 q u4.2 qm := (lR.s hT pu1.2.2.1 pu4.2.2.1 (lR.sN pu4.2.2.2.1 hM hT) rfl rfl)
  have hw : zPD D (fun q : Nat => s.heap.size ≤ q) (lW ct E y u1.2 q h2 ym u4.2 qm h3 fo) H := hw
  refine zfr 742 [.int u4.1] rfl rfl ?_
  refine lv_pop hx hb dL_law_742 rfl ?_
  refine lv_goto (tgt := 1278) hx hb dL_law_743 (by decide) ?_
  exact kk u1.2 q u4.2 qm fo cells slots kh2 kh5 ht7 (Nat.le_succ _) (Nat.le_add_right _ _) H locs ls hw hS (lv_sub hl [0, 1, 2, 3, 4] rfl)
