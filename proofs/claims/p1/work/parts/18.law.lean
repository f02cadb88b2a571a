set_option maxHeartbeats 4000000 in
set_option maxRecDepth 100000 in
theorem law_0 {p : Program} {l : Launch} {e : Env} {s : State} {m : MethodId} {below : List Frame} {meth : Method} {c : Code} {b : Nat} {xs : Nat → Int32} (C0 : lw_At p s m meth c b 7 xs) {D : va_G} {ct : Nat → ClassId} {eE : Nat} (hK : va_K D vwCl (zT ct) s) (hN : zN s) (hZ : zZ [("END", eE)] (fun q : Nat => s.heap.size ≤ q) s s.heap) (h1 h2 h3 : Nat) (x y : Nat → Nat) (pf : Nat → Option Nat) (hpf : pf 0 = some (x 62)) (H : Heap) (locs : List Loc) (hw : zPD D (fun q : Nat => s.heap.size ≤ q) [(h1, .inr (10, [.ref (x 1), .ref (x 3), .ref (x 15), .ref (x 27), .ref (x 28), .ref (x 32), .ref (x 36), .ref (x 37), .ref (x 48), .ref (x 54), .ref (x 60), .ref (x 61), .ref (x 68), .int 0, .int 0])), (x 1, .inr (8, [.ref (x 2), .int 0, .int 0, .int 0, .ref eE, .int 0, .long 0, .int 0])), (x 2, .inl (ct 2, 1000, .inl (fun _ => 0))), (h2, .inr (11, [.int 0, .int 0, .ref (y 0), .int 0, .int 0, .int 0, .int 0, .long 0, .int 0, .int 0, .ref (y 1), .ref (y 2), .ref (y 3), .ref (y 4), .ref (y 5), .ref (y 6), .ref (y 7), .ref (y 8), .ref (y 9), .ref (y 10), .ref (y 11), .ref (y 12), .int 0, .int 0, .ref (y 13), .ref (y 14), .ref (y 15), .ref (y 16), .ref (y 17), .ref (y 18), .ref (y 19), .ref (y 20), .ref (y 21), .ref (y 22), .ref (y 23), .ref (y 24), .int 0, .long 0, .ref (y 25), .ref (y 26), .ref (y 27), .ref (y 28), .ref (y 29), .ref (y 30), .ref (y 31), .ref (y 32), .ref (y 33), .ref (y 34), .ref (y 35), .ref (y 36), .ref (y 37), .int 0, .int 0, .ref (y 38), .long 0, .int 0, .int 0])), (y 0, .inl (ct 0, 1000, .inl (fun _ => 0)))] H) (hS : va_S (fun q : Nat => s.heap.size ≤ q) s.heap H locs) (ls : Array Slot) (hl : lv_has ls 7 [(4, .int 0), (3, .ref h3), (2, .ref h2), (1, .ref h1), (0, .ref b)]) : W p l e room_1 s m #[Value.ref b] below meth c H locs 248 10101 (lw_Z below #[Value.ref b] s) (F0 m 188 ls []) := by
  obtain ⟨hx, hb, hr, hml, hown, hts, hX, hbl, hlocks, hgv⟩ := id C0
  have hown : s.vm.findClass RL = some m.cls := hown
  have htl : ∀ w ∈ wsL_law0, w.before #[Value.ref b] s = true := fun w h => hts w (wsL_law_in0 w h)
  have hA : ∀ q : Nat, s.heap.size ≤ q → (fun q : Nat => s.heap.size ≤ q) q := fun _ h => h
  have hbA : ¬ (fun q : Nat => s.heap.size ≤ q) b := Nat.not_le.mpr hbl
  refine lv_aload_n hx hb dL_law_188 rfl (lv_at hl 3 rfl) ?_
  refine lv_aload_n hx hb dL_law_189 rfl (lv_at hl 4 rfl) ?_
  refine lv_iload hx hb dL_law_190 (lv_at hl 0 rfl) ?_
  refine lv_iconst (v := 1) hx hb dL_law_192 (by decide) ?_
  refine lv_iadd hx hb dL_law_193 ?_
  refine ztop (.int 1) (congrArg Value.int (by decide)) ?_
  refine va_sld hx hb hX hbl hbA hS (zix (k := 1) (by decide) (by decide) (by decide)).1 dL_law_194 ?_
  refine ztop (.int (xs 1)) (congrArg Value.int (congrArg xs (by decide))) ?_
  refine lv_i2l (v := (xs 1).toInt64) hx hb dL_law_195 rfl ?_
  refine lv_bipush (v := 32) hx hb dL_law_196 (by decide) ?_
  refine lv_lshl (v := ((xs 1).toInt64) <<< ((32 : Int32).toInt64 &&& 63)) hx hb dL_law_198 rfl ?_
  refine lv_aload_n hx hb dL_law_199 rfl (lv_at hl 4 rfl) ?_
  refine lv_iload hx hb dL_law_200 (lv_at hl 0 rfl) ?_
  refine lv_iconst (v := 2) hx hb dL_law_202 (by decide) ?_
  refine lv_iadd hx hb dL_law_203 ?_
  refine ztop (.int 2) (congrArg Value.int (by decide)) ?_
  refine va_sld hx hb hX hbl hbA hS (zix (k := 2) (by decide) (by decide) (by decide)).1 dL_law_204 ?_
  refine ztop (.int (xs 2)) (congrArg Value.int (congrArg xs (by decide))) ?_
  refine lv_i2l (v := (xs 2).toInt64) hx hb dL_law_205 rfl ?_
  refine lv_ldc2 hx hb hown (hts (.constantLong RL 19 4294967295) (ztm8 84 (by decide +kernel))) dL_law_206 ?_
  refine lv_land hx hb dL_law_209 ?_
  refine lv_lor hx hb dL_law_210 ?_
  refine lv_aload_n hx hb dL_law_211 rfl (lv_at hl 4 rfl) ?_
  refine lv_iload hx hb dL_law_212 (lv_at hl 0 rfl) ?_
  refine lv_iconst (v := 3) hx hb dL_law_214 (by decide) ?_
  refine lv_iadd hx hb dL_law_215 ?_
  refine ztop (.int 3) (congrArg Value.int (by decide)) ?_
  refine va_sld hx hb hX hbl hbA hS (zix (k := 3) (by decide) (by decide) (by decide)).1 dL_law_216 ?_
  refine ztop (.int (xs 3)) (congrArg Value.int (congrArg xs (by decide))) ?_
  refine lv_i2l (v := (xs 3).toInt64) hx hb dL_law_217 rfl ?_
  refine lv_bipush (v := 32) hx hb dL_law_218 (by decide) ?_
  refine lv_lshl (v := ((xs 3).toInt64) <<< ((32 : Int32).toInt64 &&& 63)) hx hb dL_law_220 rfl ?_
  refine lv_aload_n hx hb dL_law_221 rfl (lv_at hl 4 rfl) ?_
  refine lv_iload hx hb dL_law_222 (lv_at hl 0 rfl) ?_
  refine lv_iconst (v := 4) hx hb dL_law_224 (by decide) ?_
  refine lv_iadd hx hb dL_law_225 ?_
  refine ztop (.int 4) (congrArg Value.int (by decide)) ?_
  refine va_sld hx hb hX hbl hbA hS (zix (k := 4) (by decide) (by decide) (by decide)).1 dL_law_226 ?_
  refine ztop (.int (xs 4)) (congrArg Value.int (congrArg xs (by decide))) ?_
  refine lv_i2l (v := (xs 4).toInt64) hx hb dL_law_227 rfl ?_
  refine lv_ldc2 hx hb hown (hts (.constantLong RL 19 4294967295) (ztm8 84 (by decide +kernel))) dL_law_228 ?_
  refine lv_land hx hb dL_law_231 ?_
  refine lv_lor hx hb dL_law_232 ?_
  refine lv_aload_n hx hb dL_law_233 rfl (lv_at hl 4 rfl) ?_
  refine lv_iload hx hb dL_law_234 (lv_at hl 0 rfl) ?_
  refine lv_iconst (v := 5) hx hb dL_law_236 (by decide) ?_
  refine lv_iadd hx hb dL_law_237 ?_
  refine ztop (.int 5) (congrArg Value.int (by decide)) ?_
  refine va_sld hx hb hX hbl hbA hS (zix (k := 5) (by decide) (by decide) (by decide)).1 dL_law_238 ?_
  refine ztop (.int (xs 5)) (congrArg Value.int (congrArg xs (by decide))) ?_
  refine lv_i2l (v := (xs 5).toInt64) hx hb dL_law_239 rfl ?_
  refine lv_bipush (v := 32) hx hb dL_law_240 (by decide) ?_
  refine lv_lshl (v := ((xs 5).toInt64) <<< ((32 : Int32).toInt64 &&& 63)) hx hb dL_law_242 rfl ?_
  refine lv_aload_n hx hb dL_law_243 rfl (lv_at hl 4 rfl) ?_
  refine lv_iload hx hb dL_law_244 (lv_at hl 0 rfl) ?_
  refine lv_bipush (v := 6) hx hb dL_law_246 (by decide) ?_
  refine lv_iadd hx hb dL_law_248 ?_
  refine ztop (.int 6) (congrArg Value.int (by decide)) ?_
  refine va_sld hx hb hX hbl hbA hS (zix (k := 6) (by decide) (by decide) (by decide)).1 dL_law_249 ?_
  refine ztop (.int (xs 6)) (congrArg Value.int (congrArg xs (by decide))) ?_
  refine lv_i2l (v := (xs 6).toInt64) hx hb dL_law_250 rfl ?_
  refine lv_ldc2 hx hb hown (hts (.constantLong RL 19 4294967295) (ztm8 84 (by decide +kernel))) dL_law_251 ?_
  refine lv_land hx hb dL_law_254 ?_
  refine lv_lor hx hb dL_law_255 ?_
  refine zcall2 (va_runV (As := [.long ((((xs 1).toInt64) <<< ((32 : Int32).toInt64 &&& 63)) ||| (((xs 2).toInt64) &&& 4294967295)), .long ((((xs 3).toInt64) <<< ((32 : Int32).toInt64 &&& 63)) ||| (((xs 4).toInt64) &&& 4294967295)), .long ((((xs 5).toInt64) <<< ((32 : Int32).toInt64 &&& 63)) ||| (((xs 6).toInt64) &&& 4294967295))]) (rest := []) ⟨hx, hb, hml, hown, htl⟩ (k_feed l D ct h1 x ((((xs 1).toInt64) <<< ((32 : Int32).toInt64 &&& 63)) ||| (((xs 2).toInt64) &&& 4294967295)) ((((xs 3).toInt64) <<< ((32 : Int32).toInt64 &&& 63)) ||| (((xs 4).toInt64) &&& 4294967295)) ((((xs 5).toInt64) <<< ((32 : Int32).toInt64 &&& 63)) ||| (((xs 6).toInt64) &&& 4294967295)) eE H.size) (cwV 3 htl gL_law_X11_feed rfl rfl rfl (by decide +kernel) ⟨Nat.le_of_ble_eq_true rfl, Nat.le_of_ble_eq_true rfl⟩) (zpreV hK hw hS hA zZ.nil hN [0, 1, 2] rfl rfl 10 0 rfl rfl) rfl rfl hl.1 rfl (lv_room (Nat.le_of_ble_eq_true rfl)) dL_law_256 ⟨Nat.le_of_ble_eq_true rfl, Nat.le_of_ble_eq_true rfl⟩) hw hS hA [0, 1, 2] [3, 4] rfl rfl rfl rfl (fun _ H locs hp1 hw hS => ?_)
  have hw : zPD D (fun q : Nat => s.heap.size ≤ q) [(h2, .inr (11, [.int 0, .int 0, .ref (y 0), .int 0, .int 0, .int 0, .int 0, .long 0, .int 0, .int 0, .ref (y 1), .ref (y 2), .ref (y 3), .ref (y 4), .ref (y 5), .ref (y 6), .ref (y 7), .ref (y 8), .ref (y 9), .ref (y 10), .ref (y 11), .ref (y 12), .int 0, .int 0, .ref (y 13), .ref (y 14), .ref (y 15), .ref (y 16), .ref (y 17), .ref (y 18), .ref (y 19), .ref (y 20), .ref (y 21), .ref (y 22), .ref (y 23), .ref (y 24), .int 0, .long 0, .ref (y 25), .ref (y 26), .ref (y 27), .ref (y 28), .ref (y 29), .ref (y 30), .ref (y 31), .ref (y 32), .ref (y 33), .ref (y 34), .ref (y 35), .ref (y 36), .ref (y 37), .int 0, .int 0, .ref (y 38), .long 0, .int 0, .int 0])), (y 0, .inl (ct 0, 1000, .inl (fun _ => 0)))] H := hw
  refine zfr 259 [.int (nI (ztp ((((xs 5).toInt64) <<< ((32 : Int32).toInt64 &&& 63)) ||| (((xs 6).toInt64) &&& 4294967295)) 8 (ztp ((((xs 3).toInt64) <<< ((32 : Int32).toInt64 &&& 63)) ||| (((xs 4).toInt64) &&& 4294967295)) 8 (ztp ((((xs 1).toInt64) <<< ((32 : Int32).toInt64 &&& 63)) ||| (((xs 2).toInt64) &&& 4294967295)) 8 (0, fun _ => 0)))).1)] rfl rfl ?_
  refine lv_aload_n hx hb dL_law_259 rfl (lv_at hl 2 rfl) ?_
  refine lv_aload_n hx hb dL_law_260 rfl (lv_at hl 4 rfl) ?_
  refine lv_iload hx hb dL_law_261 (lv_at hl 0 rfl) ?_
  refine lv_iconst (v := 1) hx hb dL_law_263 (by decide) ?_
  refine lv_iadd hx hb dL_law_264 ?_
  refine ztop (.int 1) (congrArg Value.int (by decide)) ?_
  refine va_sld hx hb hX hbl hbA hS (zix (k := 1) (by decide) (by decide) (by decide)).1 dL_law_265 ?_
  refine ztop (.int (xs 1)) (congrArg Value.int (congrArg xs (by decide))) ?_
  refine lv_i2l (v := (xs 1).toInt64) hx hb dL_law_266 rfl ?_
  refine lv_bipush (v := 32) hx hb dL_law_267 (by decide) ?_
  refine lv_lshl (v := ((xs 1).toInt64) <<< ((32 : Int32).toInt64 &&& 63)) hx hb dL_law_269 rfl ?_
  refine lv_aload_n hx hb dL_law_270 rfl (lv_at hl 4 rfl) ?_
  refine lv_iload hx hb dL_law_271 (lv_at hl 0 rfl) ?_
  refine lv_iconst (v := 2) hx hb dL_law_273 (by decide) ?_
  refine lv_iadd hx hb dL_law_274 ?_
  refine ztop (.int 2) (congrArg Value.int (by decide)) ?_
  refine va_sld hx hb hX hbl hbA hS (zix (k := 2) (by decide) (by decide) (by decide)).1 dL_law_275 ?_
  refine ztop (.int (xs 2)) (congrArg Value.int (congrArg xs (by decide))) ?_
  refine lv_i2l (v := (xs 2).toInt64) hx hb dL_law_276 rfl ?_
  refine lv_ldc2 hx hb hown (hts (.constantLong RL 19 4294967295) (ztm8 84 (by decide +kernel))) dL_law_277 ?_
  refine lv_land hx hb dL_law_280 ?_
  refine lv_lor hx hb dL_law_281 ?_
  refine lv_aload_n hx hb dL_law_282 rfl (lv_at hl 4 rfl) ?_
  refine lv_iload hx hb dL_law_283 (lv_at hl 0 rfl) ?_
  refine lv_iconst (v := 3) hx hb dL_law_285 (by decide) ?_
  refine lv_iadd hx hb dL_law_286 ?_
  refine ztop (.int 3) (congrArg Value.int (by decide)) ?_
  refine va_sld hx hb hX hbl hbA hS (zix (k := 3) (by decide) (by decide) (by decide)).1 dL_law_287 ?_
  refine ztop (.int (xs 3)) (congrArg Value.int (congrArg xs (by decide))) ?_
  refine lv_i2l (v := (xs 3).toInt64) hx hb dL_law_288 rfl ?_
  refine lv_bipush (v := 32) hx hb dL_law_289 (by decide) ?_
  refine lv_lshl (v := ((xs 3).toInt64) <<< ((32 : Int32).toInt64 &&& 63)) hx hb dL_law_291 rfl ?_
  refine lv_aload_n hx hb dL_law_292 rfl (lv_at hl 4 rfl) ?_
  refine lv_iload hx hb dL_law_293 (lv_at hl 0 rfl) ?_
  refine lv_iconst (v := 4) hx hb dL_law_295 (by decide) ?_
  refine lv_iadd hx hb dL_law_296 ?_
  refine ztop (.int 4) (congrArg Value.int (by decide)) ?_
  refine va_sld hx hb hX hbl hbA hS (zix (k := 4) (by decide) (by decide) (by decide)).1 dL_law_297 ?_
  refine ztop (.int (xs 4)) (congrArg Value.int (congrArg xs (by decide))) ?_
  refine lv_i2l (v := (xs 4).toInt64) hx hb dL_law_298 rfl ?_
  refine lv_ldc2 hx hb hown (hts (.constantLong RL 19 4294967295) (ztm8 84 (by decide +kernel))) dL_law_299 ?_
  refine lv_land hx hb dL_law_302 ?_
  refine lv_lor hx hb dL_law_303 ?_
  refine lv_aload_n hx hb dL_law_304 rfl (lv_at hl 4 rfl) ?_
  refine lv_iload hx hb dL_law_305 (lv_at hl 0 rfl) ?_
  refine lv_iconst (v := 5) hx hb dL_law_307 (by decide) ?_
  refine lv_iadd hx hb dL_law_308 ?_
  refine ztop (.int 5) (congrArg Value.int (by decide)) ?_
  refine va_sld hx hb hX hbl hbA hS (zix (k := 5) (by decide) (by decide) (by decide)).1 dL_law_309 ?_
  refine ztop (.int (xs 5)) (congrArg Value.int (congrArg xs (by decide))) ?_
  refine lv_i2l (v := (xs 5).toInt64) hx hb dL_law_310 rfl ?_
  refine lv_bipush (v := 32) hx hb dL_law_311 (by decide) ?_
  refine lv_lshl (v := ((xs 5).toInt64) <<< ((32 : Int32).toInt64 &&& 63)) hx hb dL_law_313 rfl ?_
  refine lv_aload_n hx hb dL_law_314 rfl (lv_at hl 4 rfl) ?_
  refine lv_iload hx hb dL_law_315 (lv_at hl 0 rfl) ?_
  refine lv_bipush (v := 6) hx hb dL_law_317 (by decide) ?_
  refine lv_iadd hx hb dL_law_319 ?_
  refine ztop (.int 6) (congrArg Value.int (by decide)) ?_
  refine va_sld hx hb hX hbl hbA hS (zix (k := 6) (by decide) (by decide) (by decide)).1 dL_law_320 ?_
  refine ztop (.int (xs 6)) (congrArg Value.int (congrArg xs (by decide))) ?_
  refine lv_i2l (v := (xs 6).toInt64) hx hb dL_law_321 rfl ?_
  refine lv_ldc2 hx hb hown (hts (.constantLong RL 19 4294967295) (ztm8 84 (by decide +kernel))) dL_law_322 ?_
  refine lv_land hx hb dL_law_325 ?_
  refine lv_lor hx hb dL_law_326 ?_
  refine zcall2 (va_runV (As := [.long ((((xs 1).toInt64) <<< ((32 : Int32).toInt64 &&& 63)) ||| (((xs 2).toInt64) &&& 4294967295)), .long ((((xs 3).toInt64) <<< ((32 : Int32).toInt64 &&& 63)) ||| (((xs 4).toInt64) &&& 4294967295)), .long ((((xs 5).toInt64) <<< ((32 : Int32).toInt64 &&& 63)) ||| (((xs 6).toInt64) &&& 4294967295))]) (rest := [.int (nI (ztp ((((xs 5).toInt64) <<< ((32 : Int32).toInt64 &&& 63)) ||| (((xs 6).toInt64) &&& 4294967295)) 8 (ztp ((((xs 3).toInt64) <<< ((32 : Int32).toInt64 &&& 63)) ||| (((xs 4).toInt64) &&& 4294967295)) 8 (ztp ((((xs 1).toInt64) <<< ((32 : Int32).toInt64 &&& 63)) ||| (((xs 2).toInt64) &&& 4294967295)) 8 (0, fun _ => 0)))).1)]) ⟨hx, hb, hml, hown, htl⟩ (r_feed l D ct h2 y ((((xs 1).toInt64) <<< ((32 : Int32).toInt64 &&& 63)) ||| (((xs 2).toInt64) &&& 4294967295)) ((((xs 3).toInt64) <<< ((32 : Int32).toInt64 &&& 63)) ||| (((xs 4).toInt64) &&& 4294967295)) ((((xs 5).toInt64) <<< ((32 : Int32).toInt64 &&& 63)) ||| (((xs 6).toInt64) &&& 4294967295)) H.size) (cwV 3 htl gL_law_X12_feed rfl rfl rfl (by decide +kernel) ⟨Nat.le_of_ble_eq_true rfl, Nat.le_of_ble_eq_true rfl⟩) (zpreV hK hw hS hA zZ.nil hN [0, 1] rfl rfl 11 0 rfl rfl) rfl rfl hl.1 rfl (lv_room (Nat.le_of_ble_eq_true rfl)) dL_law_327 ⟨Nat.le_of_ble_eq_true rfl, Nat.le_of_ble_eq_true rfl⟩) hw hS hA [0, 1] [] rfl rfl rfl rfl (fun _ H locs hp2 hw hS => ?_)
  have hw : zPD D (fun q : Nat => s.heap.size ≤ q) [] H := hw
  refine zfr 330 [.int (nI (ztp3 ((((xs 1).toInt64) <<< ((32 : Int32).toInt64 &&& 63)) ||| (((xs 2).toInt64) &&& 4294967295)) ((((xs 3).toInt64) <<< ((32 : Int32).toInt64 &&& 63)) ||| (((xs 4).toInt64) &&& 4294967295)) ((((xs 5).toInt64) <<< ((32 : Int32).toInt64 &&& 63)) ||| (((xs 6).toInt64) &&& 4294967295)) 24 (0, fun _ => 0)).1), .int (nI (ztp ((((xs 5).toInt64) <<< ((32 : Int32).toInt64 &&& 63)) ||| (((xs 6).toInt64) &&& 4294967295)) 8 (ztp ((((xs 3).toInt64) <<< ((32 : Int32).toInt64 &&& 63)) ||| (((xs 4).toInt64) &&& 4294967295)) 8 (ztp ((((xs 1).toInt64) <<< ((32 : Int32).toInt64 &&& 63)) ||| (((xs 2).toInt64) &&& 4294967295)) 8 (0, fun _ => 0)))).1)] rfl rfl ?_
  refine lv_icmp_eq (tgt := 1306) hx hb dL_law_330 (by decide) (fun _ => ?_) (fun h => absurd (congrArg (fun t => nI (Prod.fst t)) (ztp3_24 _ _ _ _).symm) h)
  exact law_end C0 hS ls (lv_sub hl [0, 4] rfl)

set_option maxHeartbeats 4000000 in
set_option maxRecDepth 100000 in
theorem law_1 {p : Program} {l : Launch} {e : Env} {s : State} {m : MethodId} {below : List Frame} {meth : Method} {c : Code} {b : Nat} {xs : Nat → Int32} (C0 : lw_At p s m meth c b 7 xs) {D : va_G} {ct : Nat → ClassId} {eE : Nat} (hK : va_K D vwCl (zT ct) s) (hN : zN s) (hZ : zZ [("END", eE)] (fun q : Nat => s.heap.size ≤ q) s s.heap) (h1 h2 h3 : Nat) (x y : Nat → Nat) (pf : Nat → Option Nat) (hpf : pf 0 = some (x 62)) (H : Heap) (locs : List Loc) (hw : zPD D (fun q : Nat => s.heap.size ≤ q) [(h1, .inr (10, [.ref (x 1), .ref (x 3), .ref (x 15), .ref (x 27), .ref (x 28), .ref (x 32), .ref (x 36), .ref (x 37), .ref (x 48), .ref (x 54), .ref (x 60), .ref (x 61), .ref (x 68), .int 0, .int 0])), (x 1, .inr (8, [.ref (x 2), .int 0, .int 0, .int 0, .ref eE, .int 0, .long 0, .int 0])), (x 3, .inr (2, [.ref (x 4), .ref (x 5), .ref (x 6), .ref (x 7), .ref (x 8), .ref (x 9), .ref (x 10), .ref (x 11), .ref (x 12), .int 0, .int 0, .int 1, .int 2])), (x 4, .inl (ct 0, 6, .inl (fun _ => 0))), (x 5, .inl (ct 0, 6, .inl (fun _ => 0))), (x 6, .inl (ct 1, 6, .inr (.inl (fun _ => 0)))), (x 7, .inl (ct 0, 6, .inl (fun _ => 0))), (x 8, .inl (ct 0, 6, .inl (fun _ => 0))), (x 9, .inl (ct 0, 6, .inl (fun _ => 0))), (x 10, .inl (ct 0, 6, .inl (fun _ => 0))), (x 11, .inl (ct 1, 6, .inr (.inl (fun _ => 0)))), (x 12, .inr (4, [.ref (x 13), .ref (x 14), .int (nI (0 + 1 + 1 + 1 + 1))])), (x 13, .inl (ct 0, 1000, .inl (upd (upd (upd (upd (fun _ => 0) 0 (-1)) (0 + 1) (-3)) (0 + 1 + 1) (-8)) (0 + 1 + 1 + 1) (-5)))), (x 15, .inr (2, [.ref (x 16), .ref (x 17), .ref (x 18), .ref (x 19), .ref (x 20), .ref (x 21), .ref (x 22), .ref (x 23), .ref (x 24), .int 0, .int 0, .int 1, .int 2])), (x 16, .inl (ct 0, 6, .inl (fun _ => 0))), (x 17, .inl (ct 0, 6, .inl (fun _ => 0))), (x 18, .inl (ct 1, 6, .inr (.inl (fun _ => 0)))), (x 19, .inl (ct 0, 6, .inl (fun _ => 0))), (x 20, .inl (ct 0, 6, .inl (fun _ => 0))), (x 21, .inl (ct 0, 6, .inl (fun _ => 0))), (x 22, .inl (ct 0, 6, .inl (fun _ => 0))), (x 23, .inl (ct 1, 6, .inr (.inl (fun _ => 0)))), (x 24, .inr (4, [.ref (x 25), .ref (x 26), .int (nI (0 + 1 + 1 + 1 + 1))])), (x 25, .inl (ct 0, 1000, .inl (upd (upd (upd (upd (fun _ => 0) 0 (-1)) (0 + 1) (-3)) (0 + 1 + 1) (-8)) (0 + 1 + 1 + 1) (-5)))), (x 27, .inr (3, [.int 0, .int 0, .int 0])), (x 28, .inr (1, [.ref (x 29), .ref (x 30), .ref (x 31), .int 0])), (x 48, .inr (7, [.ref (x 49), .ref (x 50), .ref (x 51), .ref (x 52), .ref (x 53), .int 0])), (x 60, .inr (6, [.int 2147483647, .int 0])), (x 68, .inl (ct 5, 4, .inr (.inr (.inr (.inr (va_up (va_up (va_up (va_up (fun _ => none) 0 (some (x 69))) 1 (some (x 81))) 2 (some (x 93))) 3 (some (x 105)))))))), (x 69, .inr (5, [.ref (x 70), .ref (x 76), .ref (x 80), .int 0])), (x 81, .inr (5, [.ref (x 82), .ref (x 88), .ref (x 92), .int 0])), (x 93, .inr (5, [.ref (x 94), .ref (x 100), .ref (x 104), .int 0])), (x 105, .inr (5, [.ref (x 106), .ref (x 112), .ref (x 116), .int 0])), (h2, .inr (11, [.int 0, .int 0, .ref (y 0), .int 0, .int 0, .int 0, .int 0, .long 0, .int 0, .int 0, .ref (y 1), .ref (y 2), .ref (y 3), .ref (y 4), .ref (y 5), .ref (y 6), .ref (y 7), .ref (y 8), .ref (y 9), .ref (y 10), .ref (y 11), .ref (y 12), .int 0, .int 0, .ref (y 13), .ref (y 14), .ref (y 15), .ref (y 16), .ref (y 17), .ref (y 18), .ref (y 19), .ref (y 20), .ref (y 21), .ref (y 22), .ref (y 23), .ref (y 24), .int 0, .long 0, .ref (y 25), .ref (y 26), .ref (y 27), .ref (y 28), .ref (y 29), .ref (y 30), .ref (y 31), .ref (y 32), .ref (y 33), .ref (y 34), .ref (y 35), .ref (y 36), .ref (y 37), .int 0, .int 0, .ref (y 38), .long 0, .int 0, .int 0])), (y 1, .inl (ct 0, 8, .inl (upd (upd (fun _ => 0) 2 1) 3 2))), (y 2, .inl (ct 1, 12, .inr (.inl (fun _ => 0)))), (y 3, .inl (ct 1, 12, .inr (.inl (fun _ => 0)))), (y 4, .inl (ct 0, 12, .inl (fun _ => 0))), (y 5, .inl (ct 0, 12, .inl (fun _ => 0))), (y 6, .inl (ct 0, 12, .inl (fun _ => 0))), (y 7, .inl (ct 0, 12, .inl (fun _ => 0))), (y 8, .inl (ct 0, 12, .inl (fun _ => 0))), (y 9, .inl (ct 0, 12, .inl (fun _ => 0))), (y 12, .inl (ct 0, 2000, .inl (fun _ => 0))), (y 10, .inl (ct 0, 2, .inl (fun _ => 0))), (y 11, .inl (ct 0, 2, .inl (fun _ => 0))), (y 32, .inl (ct 0, 31, .inl (fun _ => 0))), (y 25, .inl (ct 0, 6, .inl (fun _ => 0))), (y 29, .inl (ct 0, 5, .inl (fun _ => 0))), (y 37, .inl (ct 3, 4, .inl (fun _ => 0)))] H) (hS : va_S (fun q : Nat => s.heap.size ≤ q) s.heap H locs) (ls : Array Slot) (hl : lv_has ls 7 [(4, .int 0), (3, .ref h3), (2, .ref h2), (1, .ref h1), (0, .ref b)]) : W p l e room_1 s m #[Value.ref b] below meth c H locs 248 10101 (lw_Z below #[Value.ref b] s) (F0 m 335 ls []) := by
  obtain ⟨hx, hb, hr, hml, hown, hts, hX, hbl, hlocks, hgv⟩ := id C0
  have hown : s.vm.findClass RL = some m.cls := hown
  have htl : ∀ w ∈ wsL_law0, w.before #[Value.ref b] s = true := fun w h => hts w (wsL_law_in0 w h)
  have hA : ∀ q : Nat, s.heap.size ≤ q → (fun q : Nat => s.heap.size ≤ q) q := fun _ h => h
  have hbA : ¬ (fun q : Nat => s.heap.size ≤ q) b := Nat.not_le.mpr hbl
  refine lv_aload_n hx hb dL_law_335 rfl (lv_at hl 3 rfl) ?_
  refine zcall2 (va_runV (As := []) (rest := []) ⟨hx, hb, hml, hown, htl⟩ (k_land l D ct h1 x eE H.size) (cwV 0 htl gL_law_X11_land rfl rfl rfl (by decide +kernel) ⟨Nat.le_of_ble_eq_true rfl, Nat.le_of_ble_eq_true rfl⟩) (zpreV hK hw hS hA hZ hN [0, 1, 2, 3, 4, 5, 6, 7, 8, 9, 10, 11, 12, 13, 14, 15, 16, 17, 18, 19, 20, 21, 22, 23, 24, 25, 26, 27, 28, 29, 30, 31, 32] rfl rfl 10 0 rfl rfl) rfl rfl hl.1 rfl (lv_room (Nat.le_of_ble_eq_true rfl)) dL_law_336 ⟨Nat.le_of_ble_eq_true rfl, Nat.le_of_ble_eq_true rfl⟩) hw hS hA [0, 1, 2, 3, 4, 5, 6, 7, 8, 9, 10, 11, 12, 13, 14, 15, 16, 17, 18, 19, 20, 21, 22, 23, 24, 25, 26, 27, 28, 29, 30, 31, 32] [33, 34, 35, 36, 37, 38, 39, 40, 41, 42, 43, 44, 45, 46, 47, 48, 49] rfl rfl rfl rfl (fun _ H locs hp1 hw hS => ?_)
  have hw : zPD D (fun q : Nat => s.heap.size ≤ q) [(h2, .inr (11, [.int 0, .int 0, .ref (y 0), .int 0, .int 0, .int 0, .int 0, .long 0, .int 0, .int 0, .ref (y 1), .ref (y 2), .ref (y 3), .ref (y 4), .ref (y 5), .ref (y 6), .ref (y 7), .ref (y 8), .ref (y 9), .ref (y 10), .ref (y 11), .ref (y 12), .int 0, .int 0, .ref (y 13), .ref (y 14), .ref (y 15), .ref (y 16), .ref (y 17), .ref (y 18), .ref (y 19), .ref (y 20), .ref (y 21), .ref (y 22), .ref (y 23), .ref (y 24), .int 0, .long 0, .ref (y 25), .ref (y 26), .ref (y 27), .ref (y 28), .ref (y 29), .ref (y 30), .ref (y 31), .ref (y 32), .ref (y 33), .ref (y 34), .ref (y 35), .ref (y 36), .ref (y 37), .int 0, .int 0, .ref (y 38), .long 0, .int 0, .int 0])), (y 1, .inl (ct 0, 8, .inl (upd (upd (fun _ => 0) 2 1) 3 2))), (y 2, .inl (ct 1, 12, .inr (.inl (fun _ => 0)))), (y 3, .inl (ct 1, 12, .inr (.inl (fun _ => 0)))), (y 4, .inl (ct 0, 12, .inl (fun _ => 0))), (y 5, .inl (ct 0, 12, .inl (fun _ => 0))), (y 6, .inl (ct 0, 12, .inl (fun _ => 0))), (y 7, .inl (ct 0, 12, .inl (fun _ => 0))), (y 8, .inl (ct 0, 12, .inl (fun _ => 0))), (y 9, .inl (ct 0, 12, .inl (fun _ => 0))), (y 12, .inl (ct 0, 2000, .inl (fun _ => 0))), (y 10, .inl (ct 0, 2, .inl (fun _ => 0))), (y 11, .inl (ct 0, 2, .inl (fun _ => 0))), (y 32, .inl (ct 0, 31, .inl (fun _ => 0))), (y 25, .inl (ct 0, 6, .inl (fun _ => 0))), (y 29, .inl (ct 0, 5, .inl (fun _ => 0))), (y 37, .inl (ct 3, 4, .inl (fun _ => 0)))] H := hw
  refine zfr 339 [.int 0] rfl rfl ?_
  refine lv_aload_n hx hb dL_law_339 rfl (lv_at hl 2 rfl) ?_
  refine zcall2 (va_runV (As := []) (rest := [.int 0]) ⟨hx, hb, hml, hown, htl⟩ (r_land l D ct h2 y H.size) (cwV 0 htl gL_law_X12_land rfl rfl rfl (by decide +kernel) ⟨Nat.le_of_ble_eq_true rfl, Nat.le_of_ble_eq_true rfl⟩) (zpreV hK hw hS hA zZ.nil hN [0, 1, 2, 3, 4, 5, 6, 7, 8, 9, 10, 11, 12, 13, 14, 15, 16] rfl rfl 11 0 rfl rfl) rfl rfl hl.1 rfl (lv_room (Nat.le_of_ble_eq_true rfl)) dL_law_340 ⟨Nat.le_of_ble_eq_true rfl, Nat.le_of_ble_eq_true rfl⟩) hw hS hA [0, 1, 2, 3, 4, 5, 6, 7, 8, 9, 10, 11, 12, 13, 14, 15, 16] [] rfl rfl rfl rfl (fun _ H locs hp2 hw hS => ?_)
  have hw : zPD D (fun q : Nat => s.heap.size ≤ q) [] H := hw
  refine zfr 343 [.int 0, .int 0] rfl rfl ?_
  refine lv_icmp_eq (tgt := 1306) hx hb dL_law_343 (by decide) (fun _ => ?_) (fun h => absurd (by decide) h)
  exact law_end C0 hS ls (lv_sub hl [0, 4] rfl)

set_option maxHeartbeats 4000000 in
set_option maxRecDepth 100000 in
theorem law_2 {p : Program} {l : Launch} {e : Env} {s : State} {m : MethodId} {below : List Frame} {meth : Method} {c : Code} {b : Nat} {xs : Nat → Int32} (C0 : lw_At p s m meth c b 7 xs) {D : va_G} {ct : Nat → ClassId} {eE : Nat} (hK : va_K D vwCl (zT ct) s) (hN : zN s) (hZ : zZ [("END", eE)] (fun q : Nat => s.heap.size ≤ q) s s.heap) (h1 h2 h3 : Nat) (x y : Nat → Nat) (pf : Nat → Option Nat) (hpf : pf 0 = some (x 62)) (H : Heap) (locs : List Loc) (hw : zPD D (fun q : Nat => s.heap.size ≤ q) [(h1, .inr (10, [.ref (x 1), .ref (x 3), .ref (x 15), .ref (x 27), .ref (x 28), .ref (x 32), .ref (x 36), .ref (x 37), .ref (x 48), .ref (x 54), .ref (x 60), .ref (x 61), .ref (x 68), .int 0, .int 0])), (x 1, .inr (8, [.ref (x 2), .int 0, .int 0, .int 0, .ref eE, .int 0, .long 0, .int 0])), (x 3, .inr (2, [.ref (x 4), .ref (x 5), .ref (x 6), .ref (x 7), .ref (x 8), .ref (x 9), .ref (x 10), .ref (x 11), .ref (x 12), .int 0, .int 0, .int 1, .int 2])), (x 28, .inr (1, [.ref (x 29), .ref (x 30), .ref (x 31), .int 0])), (x 29, .inl (ct 0, 40, .inl (fun _ => 0))), (x 30, .inl (ct 0, 40, .inl (fun _ => 0))), (x 31, .inl (ct 0, 40, .inl (fun _ => 0))), (x 32, .inr (1, [.ref (x 33), .ref (x 34), .ref (x 35), .int 0])), (x 33, .inl (ct 0, 40, .inl (fun _ => 0))), (x 34, .inl (ct 0, 40, .inl (fun _ => 0))), (x 35, .inl (ct 0, 40, .inl (fun _ => 0))), (h2, .inr (11, [.int 0, .int 0, .ref (y 0), .int 0, .int 0, .int 0, .int 0, .long 0, .int 0, .int 0, .ref (y 1), .ref (y 2), .ref (y 3), .ref (y 4), .ref (y 5), .ref (y 6), .ref (y 7), .ref (y 8), .ref (y 9), .ref (y 10), .ref (y 11), .ref (y 12), .int 0, .int 0, .ref (y 13), .ref (y 14), .ref (y 15), .ref (y 16), .ref (y 17), .ref (y 18), .ref (y 19), .ref (y 20), .ref (y 21), .ref (y 22), .ref (y 23), .ref (y 24), .int 0, .long 0, .ref (y 25), .ref (y 26), .ref (y 27), .ref (y 28), .ref (y 29), .ref (y 30), .ref (y 31), .ref (y 32), .ref (y 33), .ref (y 34), .ref (y 35), .ref (y 36), .ref (y 37), .int 0, .int 0, .ref (y 38), .long 0, .int 0, .int 0])), (y 25, .inl (ct 0, 6, .inl (fun _ => 0))), (y 26, .inl (ct 0, 240, .inl (fun _ => 0))), (y 27, .inl (ct 0, 240, .inl (fun _ => 0))), (y 28, .inl (ct 0, 240, .inl (fun _ => 0)))] H) (hS : va_S (fun q : Nat => s.heap.size ≤ q) s.heap H locs) (ls : Array Slot) (hl : lv_has ls 7 [(4, .int 0), (3, .ref h3), (2, .ref h2), (1, .ref h1), (0, .ref b)]) : W p l e room_1 s m #[Value.ref b] below meth c H locs 248 10101 (lw_Z below #[Value.ref b] s) (F0 m 348 ls []) := by
  obtain ⟨hx, hb, hr, hml, hown, hts, hX, hbl, hlocks, hgv⟩ := id C0
  have hown : s.vm.findClass RL = some m.cls := hown
  have htl : ∀ w ∈ wsL_law0, w.before #[Value.ref b] s = true := fun w h => hts w (wsL_law_in0 w h)
  have hA : ∀ q : Nat, s.heap.size ≤ q → (fun q : Nat => s.heap.size ≤ q) q := fun _ h => h
  have hbA : ¬ (fun q : Nat => s.heap.size ≤ q) b := Nat.not_le.mpr hbl
  refine lv_aload_n hx hb dL_law_348 rfl (lv_at hl 3 rfl) ?_
  refine zcall2 (va_runV (As := []) (rest := []) ⟨hx, hb, hml, hown, htl⟩ (k_journey l D ct h1 x eE H.size) (cwV 0 htl gL_law_X11_journey rfl rfl rfl (by decide +kernel) ⟨Nat.le_of_ble_eq_true rfl, Nat.le_of_ble_eq_true rfl⟩) (zpreV hK hw hS hA hZ hN [0, 1, 2, 3, 4, 5, 6, 7, 8, 9, 10] rfl rfl 10 0 rfl rfl) rfl rfl hl.1 rfl (lv_room (Nat.le_of_ble_eq_true rfl)) dL_law_349 ⟨Nat.le_of_ble_eq_true rfl, Nat.le_of_ble_eq_true rfl⟩) hw hS hA [0, 1, 2, 3, 4, 5, 6, 7, 8, 9, 10] [11, 12, 13, 14, 15] rfl rfl rfl rfl (fun _ H locs hp1 hw hS => ?_)
  have hw : zPD D (fun q : Nat => s.heap.size ≤ q) [(h2, .inr (11, [.int 0, .int 0, .ref (y 0), .int 0, .int 0, .int 0, .int 0, .long 0, .int 0, .int 0, .ref (y 1), .ref (y 2), .ref (y 3), .ref (y 4), .ref (y 5), .ref (y 6), .ref (y 7), .ref (y 8), .ref (y 9), .ref (y 10), .ref (y 11), .ref (y 12), .int 0, .int 0, .ref (y 13), .ref (y 14), .ref (y 15), .ref (y 16), .ref (y 17), .ref (y 18), .ref (y 19), .ref (y 20), .ref (y 21), .ref (y 22), .ref (y 23), .ref (y 24), .int 0, .long 0, .ref (y 25), .ref (y 26), .ref (y 27), .ref (y 28), .ref (y 29), .ref (y 30), .ref (y 31), .ref (y 32), .ref (y 33), .ref (y 34), .ref (y 35), .ref (y 36), .ref (y 37), .int 0, .int 0, .ref (y 38), .long 0, .int 0, .int 0])), (y 25, .inl (ct 0, 6, .inl (fun _ => 0))), (y 26, .inl (ct 0, 240, .inl (fun _ => 0))), (y 27, .inl (ct 0, 240, .inl (fun _ => 0))), (y 28, .inl (ct 0, 240, .inl (fun _ => 0)))] H := hw
  refine zfr 352 [.int 0] rfl rfl ?_
  refine lv_aload_n hx hb dL_law_352 rfl (lv_at hl 2 rfl) ?_
  refine zcall2 (va_runV (As := []) (rest := [.int 0]) ⟨hx, hb, hml, hown, htl⟩ (r_journey l D ct h2 y H.size) (cwV 0 htl gL_law_X12_journey rfl rfl rfl (by decide +kernel) ⟨Nat.le_of_ble_eq_true rfl, Nat.le_of_ble_eq_true rfl⟩) (zpreV hK hw hS hA zZ.nil hN [0, 1, 2, 3, 4] rfl rfl 11 0 rfl rfl) rfl rfl hl.1 rfl (lv_room (Nat.le_of_ble_eq_true rfl)) dL_law_353 ⟨Nat.le_of_ble_eq_true rfl, Nat.le_of_ble_eq_true rfl⟩) hw hS hA [0, 1, 2, 3, 4] [] rfl rfl rfl rfl (fun _ H locs hp2 hw hS => ?_)
  have hw : zPD D (fun q : Nat => s.heap.size ≤ q) [] H := hw
  refine zfr 356 [.int 0, .int 0] rfl rfl ?_
  refine lv_icmp_eq (tgt := 1306) hx hb dL_law_356 (by decide) (fun _ => ?_) (fun h => absurd (by decide) h)
  exact law_end C0 hS ls (lv_sub hl [0, 4] rfl)

set_option maxHeartbeats 4000000 in
set_option maxRecDepth 100000 in
theorem law_3 {p : Program} {l : Launch} {e : Env} {s : State} {m : MethodId} {below : List Frame} {meth : Method} {c : Code} {b : Nat} {xs : Nat → Int32} (C0 : lw_At p s m meth c b 7 xs) {D : va_G} {ct : Nat → ClassId} {eE : Nat} (hK : va_K D vwCl (zT ct) s) (hN : zN s) (hZ : zZ [("END", eE)] (fun q : Nat => s.heap.size ≤ q) s s.heap) (h1 h2 h3 : Nat) (x y : Nat → Nat) (pf : Nat → Option Nat) (hpf : pf 0 = some (x 62)) (H : Heap) (locs : List Loc) (hw : zPD D (fun q : Nat => s.heap.size ≤ q) [(h1, .inr (10, [.ref (x 1), .ref (x 3), .ref (x 15), .ref (x 27), .ref (x 28), .ref (x 32), .ref (x 36), .ref (x 37), .ref (x 48), .ref (x 54), .ref (x 60), .ref (x 61), .ref (x 68), .int 0, .int 0])), (x 3, .inr (2, [.ref (x 4), .ref (x 5), .ref (x 6), .ref (x 7), .ref (x 8), .ref (x 9), .ref (x 10), .ref (x 11), .ref (x 12), .int 0, .int 0, .int 1, .int 2])), (h2, .inr (11, [.int 0, .int 0, .ref (y 0), .int 0, .int 0, .int 0, .int 0, .long 0, .int 0, .int 0, .ref (y 1), .ref (y 2), .ref (y 3), .ref (y 4), .ref (y 5), .ref (y 6), .ref (y 7), .ref (y 8), .ref (y 9), .ref (y 10), .ref (y 11), .ref (y 12), .int 0, .int 0, .ref (y 13), .ref (y 14), .ref (y 15), .ref (y 16), .ref (y 17), .ref (y 18), .ref (y 19), .ref (y 20), .ref (y 21), .ref (y 22), .ref (y 23), .ref (y 24), .int 0, .long 0, .ref (y 25), .ref (y 26), .ref (y 27), .ref (y 28), .ref (y 29), .ref (y 30), .ref (y 31), .ref (y 32), .ref (y 33), .ref (y 34), .ref (y 35), .ref (y 36), .ref (y 37), .int 0, .int 0, .ref (y 38), .long 0, .int 0, .int 0])), (y 1, .inl (ct 0, 8, .inl (upd (upd (fun _ => 0) 2 1) 3 2)))] H) (hS : va_S (fun q : Nat => s.heap.size ≤ q) s.heap H locs) (ls : Array Slot) (hl : lv_has ls 7 [(4, .int 0), (3, .ref h3), (2, .ref h2), (1, .ref h1), (0, .ref b)]) : W p l e room_1 s m #[Value.ref b] below meth c H locs 248 10101 (lw_Z below #[Value.ref b] s) (F0 m 361 ls []) := by
  obtain ⟨hx, hb, hr, hml, hown, hts, hX, hbl, hlocks, hgv⟩ := id C0
  have hown : s.vm.findClass RL = some m.cls := hown
  have htl : ∀ w ∈ wsL_law0, w.before #[Value.ref b] s = true := fun w h => hts w (wsL_law_in0 w h)
  have hA : ∀ q : Nat, s.heap.size ≤ q → (fun q : Nat => s.heap.size ≤ q) q := fun _ h => h
  have hbA : ¬ (fun q : Nat => s.heap.size ≤ q) b := Nat.not_le.mpr hbl
  refine lv_aload_n hx hb dL_law_361 rfl (lv_at hl 3 rfl) ?_
  refine lv_aload_n hx hb dL_law_362 rfl (lv_at hl 4 rfl) ?_
  refine lv_iload hx hb dL_law_363 (lv_at hl 0 rfl) ?_
  refine lv_iconst (v := 1) hx hb dL_law_365 (by decide) ?_
  refine lv_iadd hx hb dL_law_366 ?_
  refine ztop (.int 1) (congrArg Value.int (by decide)) ?_
  refine va_sld hx hb hX hbl hbA hS (zix (k := 1) (by decide) (by decide) (by decide)).1 dL_law_367 ?_
  refine ztop (.int (xs 1)) (congrArg Value.int (congrArg xs (by decide))) ?_
  refine lv_aload_n hx hb dL_law_368 rfl (lv_at hl 4 rfl) ?_
  refine lv_iload hx hb dL_law_369 (lv_at hl 0 rfl) ?_
  refine lv_iconst (v := 2) hx hb dL_law_371 (by decide) ?_
  refine lv_iadd hx hb dL_law_372 ?_
  refine ztop (.int 2) (congrArg Value.int (by decide)) ?_
  refine va_sld hx hb hX hbl hbA hS (zix (k := 2) (by decide) (by decide) (by decide)).1 dL_law_373 ?_
  refine ztop (.int (xs 2)) (congrArg Value.int (congrArg xs (by decide))) ?_
  refine zcall2 (va_runV (As := [.int (xs 1), .int (xs 2)]) (rest := []) ⟨hx, hb, hml, hown, htl⟩ (k_person l D ct h1 x (xs 1) (xs 2) H.size) (cwV 2 htl gL_law_X11_person rfl rfl rfl (by decide +kernel) ⟨Nat.le_of_ble_eq_true rfl, Nat.le_of_ble_eq_true rfl⟩) (zpreV hK hw hS hA zZ.nil hN [0, 1] rfl rfl 10 0 rfl rfl) rfl rfl hl.1 rfl (lv_room (Nat.le_of_ble_eq_true rfl)) dL_law_374 ⟨Nat.le_of_ble_eq_true rfl, Nat.le_of_ble_eq_true rfl⟩) hw hS hA [0, 1] [2, 3] rfl rfl rfl rfl (fun _ H locs hp1 hw hS => ?_)
  have hw : zPD D (fun q : Nat => s.heap.size ≤ q) [(h2, .inr (11, [.int 0, .int 0, .ref (y 0), .int 0, .int 0, .int 0, .int 0, .long 0, .int 0, .int 0, .ref (y 1), .ref (y 2), .ref (y 3), .ref (y 4), .ref (y 5), .ref (y 6), .ref (y 7), .ref (y 8), .ref (y 9), .ref (y 10), .ref (y 11), .ref (y 12), .int 0, .int 0, .ref (y 13), .ref (y 14), .ref (y 15), .ref (y 16), .ref (y 17), .ref (y 18), .ref (y 19), .ref (y 20), .ref (y 21), .ref (y 22), .ref (y 23), .ref (y 24), .int 0, .long 0, .ref (y 25), .ref (y 26), .ref (y 27), .ref (y 28), .ref (y 29), .ref (y 30), .ref (y 31), .ref (y 32), .ref (y 33), .ref (y 34), .ref (y 35), .ref (y 36), .ref (y 37), .int 0, .int 0, .ref (y 38), .long 0, .int 0, .int 0])), (y 1, .inl (ct 0, 8, .inl (upd (upd (fun _ => 0) 2 1) 3 2)))] H := hw
  refine zfr 377 [.int (-1)] rfl rfl ?_
  refine lv_aload_n hx hb dL_law_377 rfl (lv_at hl 2 rfl) ?_
  refine lv_aload_n hx hb dL_law_378 rfl (lv_at hl 4 rfl) ?_
  refine lv_iload hx hb dL_law_379 (lv_at hl 0 rfl) ?_
  refine lv_iconst (v := 1) hx hb dL_law_381 (by decide) ?_
  refine lv_iadd hx hb dL_law_382 ?_
  refine ztop (.int 1) (congrArg Value.int (by decide)) ?_
  refine va_sld hx hb hX hbl hbA hS (zix (k := 1) (by decide) (by decide) (by decide)).1 dL_law_383 ?_
  refine ztop (.int (xs 1)) (congrArg Value.int (congrArg xs (by decide))) ?_
  refine lv_aload_n hx hb dL_law_384 rfl (lv_at hl 4 rfl) ?_
  refine lv_iload hx hb dL_law_385 (lv_at hl 0 rfl) ?_
  refine lv_iconst (v := 2) hx hb dL_law_387 (by decide) ?_
  refine lv_iadd hx hb dL_law_388 ?_
  refine ztop (.int 2) (congrArg Value.int (by decide)) ?_
  refine va_sld hx hb hX hbl hbA hS (zix (k := 2) (by decide) (by decide) (by decide)).1 dL_law_389 ?_
  refine ztop (.int (xs 2)) (congrArg Value.int (congrArg xs (by decide))) ?_
  refine zcall2 (va_runV (As := [.int (xs 1), .int (xs 2)]) (rest := [.int (-1)]) ⟨hx, hb, hml, hown, htl⟩ (r_person l D ct h2 y (xs 1) (xs 2) H.size) (cwV 2 htl gL_law_X12_person rfl rfl rfl (by decide +kernel) ⟨Nat.le_of_ble_eq_true rfl, Nat.le_of_ble_eq_true rfl⟩) (zpreV hK hw hS hA zZ.nil hN [0, 1] rfl rfl 11 0 rfl rfl) rfl rfl hl.1 rfl (lv_room (Nat.le_of_ble_eq_true rfl)) dL_law_390 ⟨Nat.le_of_ble_eq_true rfl, Nat.le_of_ble_eq_true rfl⟩) hw hS hA [0, 1] [] rfl rfl rfl rfl (fun _ H locs hp2 hw hS => ?_)
  have hw : zPD D (fun q : Nat => s.heap.size ≤ q) [(h2, .inr (11, [.int 0, .int 0, .ref (y 0), .int 0, .int 0, .int 0, .int 0, .long 0, .int 0, .int 0, .ref (y 1), .ref (y 2), .ref (y 3), .ref (y 4), .ref (y 5), .ref (y 6), .ref (y 7), .ref (y 8), .ref (y 9), .ref (y 10), .ref (y 11), .ref (y 12), .int 0, .int 0, .ref (y 13), .ref (y 14), .ref (y 15), .ref (y 16), .ref (y 17), .ref (y 18), .ref (y 19), .ref (y 20), .ref (y 21), .ref (y 22), .ref (y 23), .ref (y 24), .int 0, .long 0, .ref (y 25), .ref (y 26), .ref (y 27), .ref (y 28), .ref (y 29), .ref (y 30), .ref (y 31), .ref (y 32), .ref (y 33), .ref (y 34), .ref (y 35), .ref (y 36), .ref (y 37), .int 0, .int 0, .ref (y 38), .long 0, .int 0, .int 0])), (y 1, .inl (ct 0, 8, .inl (upd (upd (fun _ => 0) 2 1) 3 2)))] H := hw
  refine zfr 393 [.int (-1), .int (-1)] rfl rfl ?_
  refine lv_icmp_eq (tgt := 1306) hx hb dL_law_393 (by decide) (fun _ => ?_) (fun h => absurd (by decide) h)
  exact law_end C0 hS ls (lv_sub hl [0, 4] rfl)

set_option maxHeartbeats 4000000 in
set_option maxRecDepth 100000 in
theorem law_4 {p : Program} {l : Launch} {e : Env} {s : State} {m : MethodId} {below : List Frame} {meth : Method} {c : Code} {b : Nat} {xs : Nat → Int32} (C0 : lw_At p s m meth c b 7 xs) {D : va_G} {ct : Nat → ClassId} {eE : Nat} (hK : va_K D vwCl (zT ct) s) (hN : zN s) (hZ : zZ [("END", eE)] (fun q : Nat => s.heap.size ≤ q) s s.heap) (h1 h2 h3 : Nat) (x y : Nat → Nat) (pf : Nat → Option Nat) (hpf : pf 0 = some (x 62)) (H : Heap) (locs : List Loc) (hw : zPD D (fun q : Nat => s.heap.size ≤ q) [(h1, .inr (10, [.ref (x 1), .ref (x 3), .ref (x 15), .ref (x 27), .ref (x 28), .ref (x 32), .ref (x 36), .ref (x 37), .ref (x 48), .ref (x 54), .ref (x 60), .ref (x 61), .ref (x 68), .int 0, .int 0])), (x 3, .inr (2, [.ref (x 4), .ref (x 5), .ref (x 6), .ref (x 7), .ref (x 8), .ref (x 9), .ref (x 10), .ref (x 11), .ref (x 12), .int 0, .int 0, .int 1, .int 2])), (h2, .inr (11, [.int 0, .int 0, .ref (y 0), .int 0, .int 0, .int 0, .int 0, .long 0, .int 0, .int 0, .ref (y 1), .ref (y 2), .ref (y 3), .ref (y 4), .ref (y 5), .ref (y 6), .ref (y 7), .ref (y 8), .ref (y 9), .ref (y 10), .ref (y 11), .ref (y 12), .int 0, .int 0, .ref (y 13), .ref (y 14), .ref (y 15), .ref (y 16), .ref (y 17), .ref (y 18), .ref (y 19), .ref (y 20), .ref (y 21), .ref (y 22), .ref (y 23), .ref (y 24), .int 0, .long 0, .ref (y 25), .ref (y 26), .ref (y 27), .ref (y 28), .ref (y 29), .ref (y 30), .ref (y 31), .ref (y 32), .ref (y 33), .ref (y 34), .ref (y 35), .ref (y 36), .ref (y 37), .int 0, .int 0, .ref (y 38), .long 0, .int 0, .int 0])), (y 1, .inl (ct 0, 8, .inl (upd (upd (fun _ => 0) 2 1) 3 2)))] H) (hS : va_S (fun q : Nat => s.heap.size ≤ q) s.heap H locs) (ls : Array Slot) (hl : lv_has ls 7 [(4, .int 0), (3, .ref h3), (2, .ref h2), (1, .ref h1), (0, .ref b)]) : W p l e room_1 s m #[Value.ref b] below meth c H locs 248 10101 (lw_Z below #[Value.ref b] s) (F0 m 398 ls []) := by
  obtain ⟨hx, hb, hr, hml, hown, hts, hX, hbl, hlocks, hgv⟩ := id C0
  have hown : s.vm.findClass RL = some m.cls := hown
  have htl : ∀ w ∈ wsL_law0, w.before #[Value.ref b] s = true := fun w h => hts w (wsL_law_in0 w h)
  have hA : ∀ q : Nat, s.heap.size ≤ q → (fun q : Nat => s.heap.size ≤ q) q := fun _ h => h
  have hbA : ¬ (fun q : Nat => s.heap.size ≤ q) b := Nat.not_le.mpr hbl
  refine lv_aload_n hx hb dL_law_398 rfl (lv_at hl 3 rfl) ?_
  refine lv_aload_n hx hb dL_law_399 rfl (lv_at hl 4 rfl) ?_
  refine lv_iload hx hb dL_law_400 (lv_at hl 0 rfl) ?_
  refine lv_iconst (v := 1) hx hb dL_law_402 (by decide) ?_
  refine lv_iadd hx hb dL_law_403 ?_
  refine ztop (.int 1) (congrArg Value.int (by decide)) ?_
  refine va_sld hx hb hX hbl hbA hS (zix (k := 1) (by decide) (by decide) (by decide)).1 dL_law_404 ?_
  refine ztop (.int (xs 1)) (congrArg Value.int (congrArg xs (by decide))) ?_
  refine lv_aload_n hx hb dL_law_405 rfl (lv_at hl 4 rfl) ?_
  refine lv_iload hx hb dL_law_406 (lv_at hl 0 rfl) ?_
  refine lv_iconst (v := 2) hx hb dL_law_408 (by decide) ?_
  refine lv_iadd hx hb dL_law_409 ?_
  refine ztop (.int 2) (congrArg Value.int (by decide)) ?_
  refine va_sld hx hb hX hbl hbA hS (zix (k := 2) (by decide) (by decide) (by decide)).1 dL_law_410 ?_
  refine ztop (.int (xs 2)) (congrArg Value.int (congrArg xs (by decide))) ?_
  refine zcall2 (va_runV (As := [.int (xs 1), .int (xs 2)]) (rest := []) ⟨hx, hb, hml, hown, htl⟩ (k_town l D ct h1 x (xs 1) (xs 2) H.size) (cwV 2 htl gL_law_X11_town rfl rfl rfl (by decide +kernel) ⟨Nat.le_of_ble_eq_true rfl, Nat.le_of_ble_eq_true rfl⟩) (zpreV hK hw hS hA zZ.nil hN [0, 1] rfl rfl 10 0 rfl rfl) rfl rfl hl.1 rfl (lv_room (Nat.le_of_ble_eq_true rfl)) dL_law_411 ⟨Nat.le_of_ble_eq_true rfl, Nat.le_of_ble_eq_true rfl⟩) hw hS hA [0, 1] [2, 3] rfl rfl rfl rfl (fun _ H locs hp1 hw hS => ?_)
  have hw : zPD D (fun q : Nat => s.heap.size ≤ q) [(h2, .inr (11, [.int 0, .int 0, .ref (y 0), .int 0, .int 0, .int 0, .int 0, .long 0, .int 0, .int 0, .ref (y 1), .ref (y 2), .ref (y 3), .ref (y 4), .ref (y 5), .ref (y 6), .ref (y 7), .ref (y 8), .ref (y 9), .ref (y 10), .ref (y 11), .ref (y 12), .int 0, .int 0, .ref (y 13), .ref (y 14), .ref (y 15), .ref (y 16), .ref (y 17), .ref (y 18), .ref (y 19), .ref (y 20), .ref (y 21), .ref (y 22), .ref (y 23), .ref (y 24), .int 0, .long 0, .ref (y 25), .ref (y 26), .ref (y 27), .ref (y 28), .ref (y 29), .ref (y 30), .ref (y 31), .ref (y 32), .ref (y 33), .ref (y 34), .ref (y 35), .ref (y 36), .ref (y 37), .int 0, .int 0, .ref (y 38), .long 0, .int 0, .int 0])), (y 1, .inl (ct 0, 8, .inl (upd (upd (fun _ => 0) 2 1) 3 2)))] H := hw
  refine zfr 414 [.int (-1)] rfl rfl ?_
  refine lv_aload_n hx hb dL_law_414 rfl (lv_at hl 2 rfl) ?_
  refine lv_aload_n hx hb dL_law_415 rfl (lv_at hl 4 rfl) ?_
  refine lv_iload hx hb dL_law_416 (lv_at hl 0 rfl) ?_
  refine lv_iconst (v := 1) hx hb dL_law_418 (by decide) ?_
  refine lv_iadd hx hb dL_law_419 ?_
  refine ztop (.int 1) (congrArg Value.int (by decide)) ?_
  refine va_sld hx hb hX hbl hbA hS (zix (k := 1) (by decide) (by decide) (by decide)).1 dL_law_420 ?_
  refine ztop (.int (xs 1)) (congrArg Value.int (congrArg xs (by decide))) ?_
  refine lv_aload_n hx hb dL_law_421 rfl (lv_at hl 4 rfl) ?_
  refine lv_iload hx hb dL_law_422 (lv_at hl 0 rfl) ?_
  refine lv_iconst (v := 2) hx hb dL_law_424 (by decide) ?_
  refine lv_iadd hx hb dL_law_425 ?_
  refine ztop (.int 2) (congrArg Value.int (by decide)) ?_
  refine va_sld hx hb hX hbl hbA hS (zix (k := 2) (by decide) (by decide) (by decide)).1 dL_law_426 ?_
  refine ztop (.int (xs 2)) (congrArg Value.int (congrArg xs (by decide))) ?_
  refine zcall2 (va_runV (As := [.int (xs 1), .int (xs 2)]) (rest := [.int (-1)]) ⟨hx, hb, hml, hown, htl⟩ (r_town l D ct h2 y (xs 1) (xs 2) H.size) (cwV 2 htl gL_law_X12_town rfl rfl rfl (by decide +kernel) ⟨Nat.le_of_ble_eq_true rfl, Nat.le_of_ble_eq_true rfl⟩) (zpreV hK hw hS hA zZ.nil hN [0, 1] rfl rfl 11 0 rfl rfl) rfl rfl hl.1 rfl (lv_room (Nat.le_of_ble_eq_true rfl)) dL_law_427 ⟨Nat.le_of_ble_eq_true rfl, Nat.le_of_ble_eq_true rfl⟩) hw hS hA [0, 1] [] rfl rfl rfl rfl (fun _ H locs hp2 hw hS => ?_)
  have hw : zPD D (fun q : Nat => s.heap.size ≤ q) [(h2, .inr (11, [.int 0, .int 0, .ref (y 0), .int 0, .int 0, .int 0, .int 0, .long 0, .int 0, .int 0, .ref (y 1), .ref (y 2), .ref (y 3), .ref (y 4), .ref (y 5), .ref (y 6), .ref (y 7), .ref (y 8), .ref (y 9), .ref (y 10), .ref (y 11), .ref (y 12), .int 0, .int 0, .ref (y 13), .ref (y 14), .ref (y 15), .ref (y 16), .ref (y 17), .ref (y 18), .ref (y 19), .ref (y 20), .ref (y 21), .ref (y 22), .ref (y 23), .ref (y 24), .int 0, .long 0, .ref (y 25), .ref (y 26), .ref (y 27), .ref (y 28), .ref (y 29), .ref (y 30), .ref (y 31), .ref (y 32), .ref (y 33), .ref (y 34), .ref (y 35), .ref (y 36), .ref (y 37), .int 0, .int 0, .ref (y 38), .long 0, .int 0, .int 0])), (y 1, .inl (ct 0, 8, .inl (upd (upd (fun _ => 0) 2 1) 3 2)))] H := hw
  refine zfr 430 [.int (-1), .int (-1)] rfl rfl ?_
  refine lv_icmp_eq (tgt := 1306) hx hb dL_law_430 (by decide) (fun _ => ?_) (fun h => absurd (by decide) h)
  exact law_end C0 hS ls (lv_sub hl [0, 4] rfl)

set_option maxHeartbeats 4000000 in
set_option maxRecDepth 100000 in
theorem law_5 {p : Program} {l : Launch} {e : Env} {s : State} {m : MethodId} {below : List Frame} {meth : Method} {c : Code} {b : Nat} {xs : Nat → Int32} (C0 : lw_At p s m meth c b 7 xs) {D : va_G} {ct : Nat → ClassId} {eE : Nat} (hK : va_K D vwCl (zT ct) s) (hN : zN s) (hZ : zZ [("END", eE)] (fun q : Nat => s.heap.size ≤ q) s s.heap) (h1 h2 h3 : Nat) (x y : Nat → Nat) (pf : Nat → Option Nat) (hpf : pf 0 = some (x 62)) (H : Heap) (locs : List Loc) (hw : zPD D (fun q : Nat => s.heap.size ≤ q) [(h1, .inr (10, [.ref (x 1), .ref (x 3), .ref (x 15), .ref (x 27), .ref (x 28), .ref (x 32), .ref (x 36), .ref (x 37), .ref (x 48), .ref (x 54), .ref (x 60), .ref (x 61), .ref (x 68), .int 0, .int 0])), (x 3, .inr (2, [.ref (x 4), .ref (x 5), .ref (x 6), .ref (x 7), .ref (x 8), .ref (x 9), .ref (x 10), .ref (x 11), .ref (x 12), .int 0, .int 0, .int 1, .int 2])), (h2, .inr (11, [.int 0, .int 0, .ref (y 0), .int 0, .int 0, .int 0, .int 0, .long 0, .int 0, .int 0, .ref (y 1), .ref (y 2), .ref (y 3), .ref (y 4), .ref (y 5), .ref (y 6), .ref (y 7), .ref (y 8), .ref (y 9), .ref (y 10), .ref (y 11), .ref (y 12), .int 0, .int 0, .ref (y 13), .ref (y 14), .ref (y 15), .ref (y 16), .ref (y 17), .ref (y 18), .ref (y 19), .ref (y 20), .ref (y 21), .ref (y 22), .ref (y 23), .ref (y 24), .int 0, .long 0, .ref (y 25), .ref (y 26), .ref (y 27), .ref (y 28), .ref (y 29), .ref (y 30), .ref (y 31), .ref (y 32), .ref (y 33), .ref (y 34), .ref (y 35), .ref (y 36), .ref (y 37), .int 0, .int 0, .ref (y 38), .long 0, .int 0, .int 0])), (y 1, .inl (ct 0, 8, .inl (upd (upd (fun _ => 0) 2 1) 3 2)))] H) (hS : va_S (fun q : Nat => s.heap.size ≤ q) s.heap H locs) (ls : Array Slot) (hl : lv_has ls 7 [(4, .int 0), (3, .ref h3), (2, .ref h2), (1, .ref h1), (0, .ref b)]) : W p l e room_1 s m #[Value.ref b] below meth c H locs 248 10101 (lw_Z below #[Value.ref b] s) (F0 m 435 ls []) := by
  obtain ⟨hx, hb, hr, hml, hown, hts, hX, hbl, hlocks, hgv⟩ := id C0
  have hown : s.vm.findClass RL = some m.cls := hown
  have htl : ∀ w ∈ wsL_law0, w.before #[Value.ref b] s = true := fun w h => hts w (wsL_law_in0 w h)
  have hA : ∀ q : Nat, s.heap.size ≤ q → (fun q : Nat => s.heap.size ≤ q) q := fun _ h => h
  have hbA : ¬ (fun q : Nat => s.heap.size ≤ q) b := Nat.not_le.mpr hbl
  refine lv_aload_n hx hb dL_law_435 rfl (lv_at hl 3 rfl) ?_
  refine lv_aload_n hx hb dL_law_436 rfl (lv_at hl 4 rfl) ?_
  refine lv_iload hx hb dL_law_437 (lv_at hl 0 rfl) ?_
  refine lv_iconst (v := 1) hx hb dL_law_439 (by decide) ?_
  refine lv_iadd hx hb dL_law_440 ?_
  refine ztop (.int 1) (congrArg Value.int (by decide)) ?_
  refine va_sld hx hb hX hbl hbA hS (zix (k := 1) (by decide) (by decide) (by decide)).1 dL_law_441 ?_
  refine ztop (.int (xs 1)) (congrArg Value.int (congrArg xs (by decide))) ?_
  refine lv_aload_n hx hb dL_law_442 rfl (lv_at hl 4 rfl) ?_
  refine lv_iload hx hb dL_law_443 (lv_at hl 0 rfl) ?_
  refine lv_iconst (v := 2) hx hb dL_law_445 (by decide) ?_
  refine lv_iadd hx hb dL_law_446 ?_
  refine ztop (.int 2) (congrArg Value.int (by decide)) ?_
  refine va_sld hx hb hX hbl hbA hS (zix (k := 2) (by decide) (by decide) (by decide)).1 dL_law_447 ?_
  refine ztop (.int (xs 2)) (congrArg Value.int (congrArg xs (by decide))) ?_
  refine zcall2 (va_runV (As := [.int (xs 1), .int (xs 2)]) (rest := []) ⟨hx, hb, hml, hown, htl⟩ (k_go l D ct h1 x (xs 1) (xs 2) H.size) (cwV 2 htl gL_law_X11_go rfl rfl rfl (by decide +kernel) ⟨Nat.le_of_ble_eq_true rfl, Nat.le_of_ble_eq_true rfl⟩) (zpreV hK hw hS hA zZ.nil hN [0, 1] rfl rfl 10 0 rfl rfl) rfl rfl hl.1 rfl (lv_room (Nat.le_of_ble_eq_true rfl)) dL_law_448 ⟨Nat.le_of_ble_eq_true rfl, Nat.le_of_ble_eq_true rfl⟩) hw hS hA [0, 1] [2, 3] rfl rfl rfl rfl (fun _ H locs hp1 hw hS => ?_)
  have hw : zPD D (fun q : Nat => s.heap.size ≤ q) [(h2, .inr (11, [.int 0, .int 0, .ref (y 0), .int 0, .int 0, .int 0, .int 0, .long 0, .int 0, .int 0, .ref (y 1), .ref (y 2), .ref (y 3), .ref (y 4), .ref (y 5), .ref (y 6), .ref (y 7), .ref (y 8), .ref (y 9), .ref (y 10), .ref (y 11), .ref (y 12), .int 0, .int 0, .ref (y 13), .ref (y 14), .ref (y 15), .ref (y 16), .ref (y 17), .ref (y 18), .ref (y 19), .ref (y 20), .ref (y 21), .ref (y 22), .ref (y 23), .ref (y 24), .int 0, .long 0, .ref (y 25), .ref (y 26), .ref (y 27), .ref (y 28), .ref (y 29), .ref (y 30), .ref (y 31), .ref (y 32), .ref (y 33), .ref (y 34), .ref (y 35), .ref (y 36), .ref (y 37), .int 0, .int 0, .ref (y 38), .long 0, .int 0, .int 0])), (y 1, .inl (ct 0, 8, .inl (upd (upd (fun _ => 0) 2 1) 3 2)))] H := hw
  refine zfr 451 [.int 0] rfl rfl ?_
  refine lv_aload_n hx hb dL_law_451 rfl (lv_at hl 2 rfl) ?_
  refine lv_aload_n hx hb dL_law_452 rfl (lv_at hl 4 rfl) ?_
  refine lv_iload hx hb dL_law_453 (lv_at hl 0 rfl) ?_
  refine lv_iconst (v := 1) hx hb dL_law_455 (by decide) ?_
  refine lv_iadd hx hb dL_law_456 ?_
  refine ztop (.int 1) (congrArg Value.int (by decide)) ?_
  refine va_sld hx hb hX hbl hbA hS (zix (k := 1) (by decide) (by decide) (by decide)).1 dL_law_457 ?_
  refine ztop (.int (xs 1)) (congrArg Value.int (congrArg xs (by decide))) ?_
  refine lv_aload_n hx hb dL_law_458 rfl (lv_at hl 4 rfl) ?_
  refine lv_iload hx hb dL_law_459 (lv_at hl 0 rfl) ?_
  refine lv_iconst (v := 2) hx hb dL_law_461 (by decide) ?_
  refine lv_iadd hx hb dL_law_462 ?_
  refine ztop (.int 2) (congrArg Value.int (by decide)) ?_
  refine va_sld hx hb hX hbl hbA hS (zix (k := 2) (by decide) (by decide) (by decide)).1 dL_law_463 ?_
  refine ztop (.int (xs 2)) (congrArg Value.int (congrArg xs (by decide))) ?_
  refine zcall2 (va_runV (As := [.int (xs 1), .int (xs 2)]) (rest := [.int 0]) ⟨hx, hb, hml, hown, htl⟩ (r_go l D ct h2 y (xs 1) (xs 2) H.size) (cwV 2 htl gL_law_X12_go rfl rfl rfl (by decide +kernel) ⟨Nat.le_of_ble_eq_true rfl, Nat.le_of_ble_eq_true rfl⟩) (zpreV hK hw hS hA zZ.nil hN [0, 1] rfl rfl 11 0 rfl rfl) rfl rfl hl.1 rfl (lv_room (Nat.le_of_ble_eq_true rfl)) dL_law_464 ⟨Nat.le_of_ble_eq_true rfl, Nat.le_of_ble_eq_true rfl⟩) hw hS hA [0, 1] [] rfl rfl rfl rfl (fun _ H locs hp2 hw hS => ?_)
  have hw : zPD D (fun q : Nat => s.heap.size ≤ q) [(h2, .inr (11, [.int 0, .int 0, .ref (y 0), .int 0, .int 0, .int 0, .int 0, .long 0, .int 0, .int 0, .ref (y 1), .ref (y 2), .ref (y 3), .ref (y 4), .ref (y 5), .ref (y 6), .ref (y 7), .ref (y 8), .ref (y 9), .ref (y 10), .ref (y 11), .ref (y 12), .int 0, .int 0, .ref (y 13), .ref (y 14), .ref (y 15), .ref (y 16), .ref (y 17), .ref (y 18), .ref (y 19), .ref (y 20), .ref (y 21), .ref (y 22), .ref (y 23), .ref (y 24), .int 0, .long 0, .ref (y 25), .ref (y 26), .ref (y 27), .ref (y 28), .ref (y 29), .ref (y 30), .ref (y 31), .ref (y 32), .ref (y 33), .ref (y 34), .ref (y 35), .ref (y 36), .ref (y 37), .int 0, .int 0, .ref (y 38), .long 0, .int 0, .int 0])), (y 1, .inl (ct 0, 8, .inl (upd (upd (fun _ => 0) 2 1) 3 2)))] H := hw
  refine zfr 467 [.int 0, .int 0] rfl rfl ?_
  refine lv_icmp_eq (tgt := 1306) hx hb dL_law_467 (by decide) (fun _ => ?_) (fun h => absurd (by decide) h)
  exact law_end C0 hS ls (lv_sub hl [0, 4] rfl)

set_option maxHeartbeats 4000000 in
set_option maxRecDepth 100000 in
theorem law_6 {p : Program} {l : Launch} {e : Env} {s : State} {m : MethodId} {below : List Frame} {meth : Method} {c : Code} {b : Nat} {xs : Nat → Int32} (C0 : lw_At p s m meth c b 7 xs) {D : va_G} {ct : Nat → ClassId} {eE : Nat} (hK : va_K D vwCl (zT ct) s) (hN : zN s) (hZ : zZ [("END", eE)] (fun q : Nat => s.heap.size ≤ q) s s.heap) (h1 h2 h3 : Nat) (x y : Nat → Nat) (pf : Nat → Option Nat) (hpf : pf 0 = some (x 62)) (H : Heap) (locs : List Loc) (hw : zPD D (fun q : Nat => s.heap.size ≤ q) [(h1, .inr (10, [.ref (x 1), .ref (x 3), .ref (x 15), .ref (x 27), .ref (x 28), .ref (x 32), .ref (x 36), .ref (x 37), .ref (x 48), .ref (x 54), .ref (x 60), .ref (x 61), .ref (x 68), .int 0, .int 0])), (x 3, .inr (2, [.ref (x 4), .ref (x 5), .ref (x 6), .ref (x 7), .ref (x 8), .ref (x 9), .ref (x 10), .ref (x 11), .ref (x 12), .int 0, .int 0, .int 1, .int 2])), (h2, .inr (11, [.int 0, .int 0, .ref (y 0), .int 0, .int 0, .int 0, .int 0, .long 0, .int 0, .int 0, .ref (y 1), .ref (y 2), .ref (y 3), .ref (y 4), .ref (y 5), .ref (y 6), .ref (y 7), .ref (y 8), .ref (y 9), .ref (y 10), .ref (y 11), .ref (y 12), .int 0, .int 0, .ref (y 13), .ref (y 14), .ref (y 15), .ref (y 16), .ref (y 17), .ref (y 18), .ref (y 19), .ref (y 20), .ref (y 21), .ref (y 22), .ref (y 23), .ref (y 24), .int 0, .long 0, .ref (y 25), .ref (y 26), .ref (y 27), .ref (y 28), .ref (y 29), .ref (y 30), .ref (y 31), .ref (y 32), .ref (y 33), .ref (y 34), .ref (y 35), .ref (y 36), .ref (y 37), .int 0, .int 0, .ref (y 38), .long 0, .int 0, .int 0])), (y 1, .inl (ct 0, 8, .inl (upd (upd (fun _ => 0) 2 1) 3 2)))] H) (hS : va_S (fun q : Nat => s.heap.size ≤ q) s.heap H locs) (ls : Array Slot) (hl : lv_has ls 7 [(4, .int 0), (3, .ref h3), (2, .ref h2), (1, .ref h1), (0, .ref b)]) : W p l e room_1 s m #[Value.ref b] below meth c H locs 248 10101 (lw_Z below #[Value.ref b] s) (F0 m 472 ls []) := by
  obtain ⟨hx, hb, hr, hml, hown, hts, hX, hbl, hlocks, hgv⟩ := id C0
  have hown : s.vm.findClass RL = some m.cls := hown
  have htl : ∀ w ∈ wsL_law0, w.before #[Value.ref b] s = true := fun w h => hts w (wsL_law_in0 w h)
  have hA : ∀ q : Nat, s.heap.size ≤ q → (fun q : Nat => s.heap.size ≤ q) q := fun _ h => h
  have hbA : ¬ (fun q : Nat => s.heap.size ≤ q) b := Nat.not_le.mpr hbl
  refine lv_aload_n hx hb dL_law_472 rfl (lv_at hl 3 rfl) ?_
  refine lv_aload_n hx hb dL_law_473 rfl (lv_at hl 4 rfl) ?_
  refine lv_iload hx hb dL_law_474 (lv_at hl 0 rfl) ?_
  refine lv_iconst (v := 1) hx hb dL_law_476 (by decide) ?_
  refine lv_iadd hx hb dL_law_477 ?_
  refine ztop (.int 1) (congrArg Value.int (by decide)) ?_
  refine va_sld hx hb hX hbl hbA hS (zix (k := 1) (by decide) (by decide) (by decide)).1 dL_law_478 ?_
  refine ztop (.int (xs 1)) (congrArg Value.int (congrArg xs (by decide))) ?_
  refine lv_aload_n hx hb dL_law_479 rfl (lv_at hl 4 rfl) ?_
  refine lv_iload hx hb dL_law_480 (lv_at hl 0 rfl) ?_
  refine lv_iconst (v := 2) hx hb dL_law_482 (by decide) ?_
  refine lv_iadd hx hb dL_law_483 ?_
  refine ztop (.int 2) (congrArg Value.int (by decide)) ?_
  refine va_sld hx hb hX hbl hbA hS (zix (k := 2) (by decide) (by decide) (by decide)).1 dL_law_484 ?_
  refine ztop (.int (xs 2)) (congrArg Value.int (congrArg xs (by decide))) ?_
  refine zcall2 (va_runV (As := [.int (xs 1), .int (xs 2)]) (rest := []) ⟨hx, hb, hml, hown, htl⟩ (k_forge l D ct h1 x (xs 1) (xs 2) H.size) (cwV 2 htl gL_law_X11_forge rfl rfl rfl (by decide +kernel) ⟨Nat.le_of_ble_eq_true rfl, Nat.le_of_ble_eq_true rfl⟩) (zpreV hK hw hS hA zZ.nil hN [0, 1] rfl rfl 10 0 rfl rfl) rfl rfl hl.1 rfl (lv_room (Nat.le_of_ble_eq_true rfl)) dL_law_485 ⟨Nat.le_of_ble_eq_true rfl, Nat.le_of_ble_eq_true rfl⟩) hw hS hA [0, 1] [2, 3] rfl rfl rfl rfl (fun _ H locs hp1 hw hS => ?_)
  have hw : zPD D (fun q : Nat => s.heap.size ≤ q) [(h2, .inr (11, [.int 0, .int 0, .ref (y 0), .int 0, .int 0, .int 0, .int 0, .long 0, .int 0, .int 0, .ref (y 1), .ref (y 2), .ref (y 3), .ref (y 4), .ref (y 5), .ref (y 6), .ref (y 7), .ref (y 8), .ref (y 9), .ref (y 10), .ref (y 11), .ref (y 12), .int 0, .int 0, .ref (y 13), .ref (y 14), .ref (y 15), .ref (y 16), .ref (y 17), .ref (y 18), .ref (y 19), .ref (y 20), .ref (y 21), .ref (y 22), .ref (y 23), .ref (y 24), .int 0, .long 0, .ref (y 25), .ref (y 26), .ref (y 27), .ref (y 28), .ref (y 29), .ref (y 30), .ref (y 31), .ref (y 32), .ref (y 33), .ref (y 34), .ref (y 35), .ref (y 36), .ref (y 37), .int 0, .int 0, .ref (y 38), .long 0, .int 0, .int 0])), (y 1, .inl (ct 0, 8, .inl (upd (upd (fun _ => 0) 2 1) 3 2)))] H := hw
  refine zfr 488 [.int (-1)] rfl rfl ?_
  refine lv_aload_n hx hb dL_law_488 rfl (lv_at hl 2 rfl) ?_
  refine lv_aload_n hx hb dL_law_489 rfl (lv_at hl 4 rfl) ?_
  refine lv_iload hx hb dL_law_490 (lv_at hl 0 rfl) ?_
  refine lv_iconst (v := 1) hx hb dL_law_492 (by decide) ?_
  refine lv_iadd hx hb dL_law_493 ?_
  refine ztop (.int 1) (congrArg Value.int (by decide)) ?_
  refine va_sld hx hb hX hbl hbA hS (zix (k := 1) (by decide) (by decide) (by decide)).1 dL_law_494 ?_
  refine ztop (.int (xs 1)) (congrArg Value.int (congrArg xs (by decide))) ?_
  refine lv_aload_n hx hb dL_law_495 rfl (lv_at hl 4 rfl) ?_
  refine lv_iload hx hb dL_law_496 (lv_at hl 0 rfl) ?_
  refine lv_iconst (v := 2) hx hb dL_law_498 (by decide) ?_
  refine lv_iadd hx hb dL_law_499 ?_
  refine ztop (.int 2) (congrArg Value.int (by decide)) ?_
  refine va_sld hx hb hX hbl hbA hS (zix (k := 2) (by decide) (by decide) (by decide)).1 dL_law_500 ?_
  refine ztop (.int (xs 2)) (congrArg Value.int (congrArg xs (by decide))) ?_
  refine zcall2 (va_runV (As := [.int (xs 1), .int (xs 2)]) (rest := [.int (-1)]) ⟨hx, hb, hml, hown, htl⟩ (r_forge l D ct h2 y (xs 1) (xs 2) H.size) (cwV 2 htl gL_law_X12_forge rfl rfl rfl (by decide +kernel) ⟨Nat.le_of_ble_eq_true rfl, Nat.le_of_ble_eq_true rfl⟩) (zpreV hK hw hS hA zZ.nil hN [0, 1] rfl rfl 11 0 rfl rfl) rfl rfl hl.1 rfl (lv_room (Nat.le_of_ble_eq_true rfl)) dL_law_501 ⟨Nat.le_of_ble_eq_true rfl, Nat.le_of_ble_eq_true rfl⟩) hw hS hA [0, 1] [] rfl rfl rfl rfl (fun _ H locs hp2 hw hS => ?_)
  have hw : zPD D (fun q : Nat => s.heap.size ≤ q) [(h2, .inr (11, [.int 0, .int 0, .ref (y 0), .int 0, .int 0, .int 0, .int 0, .long 0, .int 0, .int 0, .ref (y 1), .ref (y 2), .ref (y 3), .ref (y 4), .ref (y 5), .ref (y 6), .ref (y 7), .ref (y 8), .ref (y 9), .ref (y 10), .ref (y 11), .ref (y 12), .int 0, .int 0, .ref (y 13), .ref (y 14), .ref (y 15), .ref (y 16), .ref (y 17), .ref (y 18), .ref (y 19), .ref (y 20), .ref (y 21), .ref (y 22), .ref (y 23), .ref (y 24), .int 0, .long 0, .ref (y 25), .ref (y 26), .ref (y 27), .ref (y 28), .ref (y 29), .ref (y 30), .ref (y 31), .ref (y 32), .ref (y 33), .ref (y 34), .ref (y 35), .ref (y 36), .ref (y 37), .int 0, .int 0, .ref (y 38), .long 0, .int 0, .int 0])), (y 1, .inl (ct 0, 8, .inl (upd (upd (fun _ => 0) 2 1) 3 2)))] H := hw
  refine zfr 504 [.int (-1), .int (-1)] rfl rfl ?_
  refine lv_icmp_eq (tgt := 1306) hx hb dL_law_504 (by decide) (fun _ => ?_) (fun h => absurd (by decide) h)
  exact law_end C0 hS ls (lv_sub hl [0, 4] rfl)

set_option maxHeartbeats 4000000 in
set_option maxRecDepth 100000 in
theorem law_7 {p : Program} {l : Launch} {e : Env} {s : State} {m : MethodId} {below : List Frame} {meth : Method} {c : Code} {b : Nat} {xs : Nat → Int32} (C0 : lw_At p s m meth c b 7 xs) {D : va_G} {ct : Nat → ClassId} {eE : Nat} (hK : va_K D vwCl (zT ct) s) (hN : zN s) (hZ : zZ [("END", eE)] (fun q : Nat => s.heap.size ≤ q) s s.heap) (h1 h2 h3 : Nat) (x y : Nat → Nat) (pf : Nat → Option Nat) (hpf : pf 0 = some (x 62)) (H : Heap) (locs : List Loc) (hw : zPD D (fun q : Nat => s.heap.size ≤ q) [(h1, .inr (10, [.ref (x 1), .ref (x 3), .ref (x 15), .ref (x 27), .ref (x 28), .ref (x 32), .ref (x 36), .ref (x 37), .ref (x 48), .ref (x 54), .ref (x 60), .ref (x 61), .ref (x 68), .int 0, .int 0])), (x 3, .inr (2, [.ref (x 4), .ref (x 5), .ref (x 6), .ref (x 7), .ref (x 8), .ref (x 9), .ref (x 10), .ref (x 11), .ref (x 12), .int 0, .int 0, .int 1, .int 2])), (h2, .inr (11, [.int 0, .int 0, .ref (y 0), .int 0, .int 0, .int 0, .int 0, .long 0, .int 0, .int 0, .ref (y 1), .ref (y 2), .ref (y 3), .ref (y 4), .ref (y 5), .ref (y 6), .ref (y 7), .ref (y 8), .ref (y 9), .ref (y 10), .ref (y 11), .ref (y 12), .int 0, .int 0, .ref (y 13), .ref (y 14), .ref (y 15), .ref (y 16), .ref (y 17), .ref (y 18), .ref (y 19), .ref (y 20), .ref (y 21), .ref (y 22), .ref (y 23), .ref (y 24), .int 0, .long 0, .ref (y 25), .ref (y 26), .ref (y 27), .ref (y 28), .ref (y 29), .ref (y 30), .ref (y 31), .ref (y 32), .ref (y 33), .ref (y 34), .ref (y 35), .ref (y 36), .ref (y 37), .int 0, .int 0, .ref (y 38), .long 0, .int 0, .int 0])), (y 1, .inl (ct 0, 8, .inl (upd (upd (fun _ => 0) 2 1) 3 2)))] H) (hS : va_S (fun q : Nat => s.heap.size ≤ q) s.heap H locs) (ls : Array Slot) (hl : lv_has ls 7 [(4, .int 0), (3, .ref h3), (2, .ref h2), (1, .ref h1), (0, .ref b)]) : W p l e room_1 s m #[Value.ref b] below meth c H locs 248 10101 (lw_Z below #[Value.ref b] s) (F0 m 509 ls []) := by
  obtain ⟨hx, hb, hr, hml, hown, hts, hX, hbl, hlocks, hgv⟩ := id C0
  have hown : s.vm.findClass RL = some m.cls := hown
  have htl : ∀ w ∈ wsL_law0, w.before #[Value.ref b] s = true := fun w h => hts w (wsL_law_in0 w h)
  have hA : ∀ q : Nat, s.heap.size ≤ q → (fun q : Nat => s.heap.size ≤ q) q := fun _ h => h
  have hbA : ¬ (fun q : Nat => s.heap.size ≤ q) b := Nat.not_le.mpr hbl
  refine lv_aload_n hx hb dL_law_509 rfl (lv_at hl 3 rfl) ?_
  refine lv_aload_n hx hb dL_law_510 rfl (lv_at hl 4 rfl) ?_
  refine lv_iload hx hb dL_law_511 (lv_at hl 0 rfl) ?_
  refine lv_iconst (v := 1) hx hb dL_law_513 (by decide) ?_
  refine lv_iadd hx hb dL_law_514 ?_
  refine ztop (.int 1) (congrArg Value.int (by decide)) ?_
  refine va_sld hx hb hX hbl hbA hS (zix (k := 1) (by decide) (by decide) (by decide)).1 dL_law_515 ?_
  refine ztop (.int (xs 1)) (congrArg Value.int (congrArg xs (by decide))) ?_
  refine zcall2 (va_runV (As := [.int (xs 1)]) (rest := []) ⟨hx, hb, hml, hown, htl⟩ (k_shave l D ct h1 x (xs 1) H.size) (cwV 1 htl gL_law_X11_shave rfl rfl rfl (by decide +kernel) ⟨Nat.le_of_ble_eq_true rfl, Nat.le_of_ble_eq_true rfl⟩) (zpreV hK hw hS hA zZ.nil hN [0, 1] rfl rfl 10 0 rfl rfl) rfl rfl hl.1 rfl (lv_room (Nat.le_of_ble_eq_true rfl)) dL_law_516 ⟨Nat.le_of_ble_eq_true rfl, Nat.le_of_ble_eq_true rfl⟩) hw hS hA [0, 1] [2, 3] rfl rfl rfl rfl (fun _ H locs hp1 hw hS => ?_)
  have hw : zPD D (fun q : Nat => s.heap.size ≤ q) [(h2, .inr (11, [.int 0, .int 0, .ref (y 0), .int 0, .int 0, .int 0, .int 0, .long 0, .int 0, .int 0, .ref (y 1), .ref (y 2), .ref (y 3), .ref (y 4), .ref (y 5), .ref (y 6), .ref (y 7), .ref (y 8), .ref (y 9), .ref (y 10), .ref (y 11), .ref (y 12), .int 0, .int 0, .ref (y 13), .ref (y 14), .ref (y 15), .ref (y 16), .ref (y 17), .ref (y 18), .ref (y 19), .ref (y 20), .ref (y 21), .ref (y 22), .ref (y 23), .ref (y 24), .int 0, .long 0, .ref (y 25), .ref (y 26), .ref (y 27), .ref (y 28), .ref (y 29), .ref (y 30), .ref (y 31), .ref (y 32), .ref (y 33), .ref (y 34), .ref (y 35), .ref (y 36), .ref (y 37), .int 0, .int 0, .ref (y 38), .long 0, .int 0, .int 0])), (y 1, .inl (ct 0, 8, .inl (upd (upd (fun _ => 0) 2 1) 3 2)))] H := hw
  refine zfr 519 [.int 0] rfl rfl ?_
  refine lv_aload_n hx hb dL_law_519 rfl (lv_at hl 2 rfl) ?_
  refine lv_aload_n hx hb dL_law_520 rfl (lv_at hl 4 rfl) ?_
  refine lv_iload hx hb dL_law_521 (lv_at hl 0 rfl) ?_
  refine lv_iconst (v := 1) hx hb dL_law_523 (by decide) ?_
  refine lv_iadd hx hb dL_law_524 ?_
  refine ztop (.int 1) (congrArg Value.int (by decide)) ?_
  refine va_sld hx hb hX hbl hbA hS (zix (k := 1) (by decide) (by decide) (by decide)).1 dL_law_525 ?_
  refine ztop (.int (xs 1)) (congrArg Value.int (congrArg xs (by decide))) ?_
  refine zcall2 (va_runV (As := [.int (xs 1)]) (rest := [.int 0]) ⟨hx, hb, hml, hown, htl⟩ (r_shave l D ct h2 y (xs 1) H.size) (cwV 1 htl gL_law_X12_shave rfl rfl rfl (by decide +kernel) ⟨Nat.le_of_ble_eq_true rfl, Nat.le_of_ble_eq_true rfl⟩) (zpreV hK hw hS hA zZ.nil hN [0, 1] rfl rfl 11 0 rfl rfl) rfl rfl hl.1 rfl (lv_room (Nat.le_of_ble_eq_true rfl)) dL_law_526 ⟨Nat.le_of_ble_eq_true rfl, Nat.le_of_ble_eq_true rfl⟩) hw hS hA [0, 1] [] rfl rfl rfl rfl (fun _ H locs hp2 hw hS => ?_)
  have hw : zPD D (fun q : Nat => s.heap.size ≤ q) [(h2, .inr (11, [.int 0, .int 0, .ref (y 0), .int 0, .int 0, .int 0, .int 0, .long 0, .int 0, .int 0, .ref (y 1), .ref (y 2), .ref (y 3), .ref (y 4), .ref (y 5), .ref (y 6), .ref (y 7), .ref (y 8), .ref (y 9), .ref (y 10), .ref (y 11), .ref (y 12), .int 0, .int 0, .ref (y 13), .ref (y 14), .ref (y 15), .ref (y 16), .ref (y 17), .ref (y 18), .ref (y 19), .ref (y 20), .ref (y 21), .ref (y 22), .ref (y 23), .ref (y 24), .int 0, .long 0, .ref (y 25), .ref (y 26), .ref (y 27), .ref (y 28), .ref (y 29), .ref (y 30), .ref (y 31), .ref (y 32), .ref (y 33), .ref (y 34), .ref (y 35), .ref (y 36), .ref (y 37), .int 0, .int 0, .ref (y 38), .long 0, .int 0, .int 0])), (y 1, .inl (ct 0, 8, .inl (upd (upd (fun _ => 0) 2 1) 3 2)))] H := hw
  refine zfr 529 [.int 0, .int 0] rfl rfl ?_
  refine lv_icmp_eq (tgt := 1306) hx hb dL_law_529 (by decide) (fun _ => ?_) (fun h => absurd (by decide) h)
  exact law_end C0 hS ls (lv_sub hl [0, 4] rfl)

set_option maxHeartbeats 4000000 in
set_option maxRecDepth 100000 in
theorem law_8 {p : Program} {l : Launch} {e : Env} {s : State} {m : MethodId} {below : List Frame} {meth : Method} {c : Code} {b : Nat} {xs : Nat → Int32} (C0 : lw_At p s m meth c b 7 xs) {D : va_G} {ct : Nat → ClassId} {eE : Nat} (hK : va_K D vwCl (zT ct) s) (hN : zN s) (hZ : zZ [("END", eE)] (fun q : Nat => s.heap.size ≤ q) s s.heap) (h1 h2 h3 : Nat) (x y : Nat → Nat) (pf : Nat → Option Nat) (hpf : pf 0 = some (x 62)) (H : Heap) (locs : List Loc) (hw : zPD D (fun q : Nat => s.heap.size ≤ q) [(h1, .inr (10, [.ref (x 1), .ref (x 3), .ref (x 15), .ref (x 27), .ref (x 28), .ref (x 32), .ref (x 36), .ref (x 37), .ref (x 48), .ref (x 54), .ref (x 60), .ref (x 61), .ref (x 68), .int 0, .int 0])), (x 3, .inr (2, [.ref (x 4), .ref (x 5), .ref (x 6), .ref (x 7), .ref (x 8), .ref (x 9), .ref (x 10), .ref (x 11), .ref (x 12), .int 0, .int 0, .int 1, .int 2])), (x 36, .inr (0, [.ref (x 3)])), (x 61, .inl (ct 4, 16, .inr (.inr (.inr (.inr pf))))), (x 48, .inr (7, [.ref (x 49), .ref (x 50), .ref (x 51), .ref (x 52), .ref (x 53), .int 0])), (x 49, .inl (ct 0, 6, .inl (fun _ => 0))), (x 50, .inl (ct 0, 6, .inl (fun _ => 0))), (x 51, .inl (ct 0, 6, .inl (fun _ => 0))), (x 52, .inl (ct 0, 6, .inl (fun _ => 0))), (x 53, .inl (ct 0, 6, .inl (fun _ => 0))), (x 62, .inr (7, [.ref (x 63), .ref (x 64), .ref (x 65), .ref (x 66), .ref (x 67), .int 0])), (x 63, .inl (ct 0, 6, .inl (fun _ => 0))), (x 64, .inl (ct 0, 6, .inl (fun _ => 0))), (x 65, .inl (ct 0, 6, .inl (fun _ => 0))), (x 66, .inl (ct 0, 6, .inl (fun _ => 0))), (x 67, .inl (ct 0, 6, .inl (fun _ => 0))), (h2, .inr (11, [.int 0, .int 0, .ref (y 0), .int 0, .int 0, .int 0, .int 0, .long 0, .int 0, .int 0, .ref (y 1), .ref (y 2), .ref (y 3), .ref (y 4), .ref (y 5), .ref (y 6), .ref (y 7), .ref (y 8), .ref (y 9), .ref (y 10), .ref (y 11), .ref (y 12), .int 0, .int 0, .ref (y 13), .ref (y 14), .ref (y 15), .ref (y 16), .ref (y 17), .ref (y 18), .ref (y 19), .ref (y 20), .ref (y 21), .ref (y 22), .ref (y 23), .ref (y 24), .int 0, .long 0, .ref (y 25), .ref (y 26), .ref (y 27), .ref (y 28), .ref (y 29), .ref (y 30), .ref (y 31), .ref (y 32), .ref (y 33), .ref (y 34), .ref (y 35), .ref (y 36), .ref (y 37), .int 0, .int 0, .ref (y 38), .long 0, .int 0, .int 0])), (y 1, .inl (ct 0, 8, .inl (upd (upd (fun _ => 0) 2 1) 3 2))), (y 32, .inl (ct 0, 31, .inl (fun _ => 0))), (y 36, .inl (ct 0, 496, .inl (fun _ => 0)))] H) (hS : va_S (fun q : Nat => s.heap.size ≤ q) s.heap H locs) (ls : Array Slot) (hl : lv_has ls 7 [(4, .int 0), (3, .ref h3), (2, .ref h2), (1, .ref h1), (0, .ref b)]) : W p l e room_1 s m #[Value.ref b] below meth c H locs 248 10101 (lw_Z below #[Value.ref b] s) (F0 m 534 ls []) := by
  obtain ⟨hx, hb, hr, hml, hown, hts, hX, hbl, hlocks, hgv⟩ := id C0
  have hown : s.vm.findClass RL = some m.cls := hown
  have htl : ∀ w ∈ wsL_law0, w.before #[Value.ref b] s = true := fun w h => hts w (wsL_law_in0 w h)
  have hA : ∀ q : Nat, s.heap.size ≤ q → (fun q : Nat => s.heap.size ≤ q) q := fun _ h => h
  have hbA : ¬ (fun q : Nat => s.heap.size ≤ q) b := Nat.not_le.mpr hbl
  refine lv_aload_n hx hb dL_law_534 rfl (lv_at hl 3 rfl) ?_
  refine zcall2 (va_runV (As := []) (rest := []) ⟨hx, hb, hml, hown, htl⟩ (k_week l D ct h1 x pf (hpf) H.size) (cwV 0 htl gL_law_X11_week rfl rfl rfl (by decide +kernel) ⟨Nat.le_of_ble_eq_true rfl, Nat.le_of_ble_eq_true rfl⟩) (zpreV hK hw hS hA zZ.nil hN [0, 1, 2, 3, 4, 5, 6, 7, 8, 9, 10, 11, 12, 13, 14, 15] rfl rfl 10 0 rfl rfl) rfl rfl hl.1 rfl (lv_room (Nat.le_of_ble_eq_true rfl)) dL_law_535 ⟨Nat.le_of_ble_eq_true rfl, Nat.le_of_ble_eq_true rfl⟩) hw hS hA [0, 1, 2, 3, 4, 5, 6, 7, 8, 9, 10, 11, 12, 13, 14, 15] [16, 17, 18, 19] rfl rfl rfl rfl (fun _ H locs hp1 hw hS => ?_)
  have hw : zPD D (fun q : Nat => s.heap.size ≤ q) [(h2, .inr (11, [.int 0, .int 0, .ref (y 0), .int 0, .int 0, .int 0, .int 0, .long 0, .int 0, .int 0, .ref (y 1), .ref (y 2), .ref (y 3), .ref (y 4), .ref (y 5), .ref (y 6), .ref (y 7), .ref (y 8), .ref (y 9), .ref (y 10), .ref (y 11), .ref (y 12), .int 0, .int 0, .ref (y 13), .ref (y 14), .ref (y 15), .ref (y 16), .ref (y 17), .ref (y 18), .ref (y 19), .ref (y 20), .ref (y 21), .ref (y 22), .ref (y 23), .ref (y 24), .int 0, .long 0, .ref (y 25), .ref (y 26), .ref (y 27), .ref (y 28), .ref (y 29), .ref (y 30), .ref (y 31), .ref (y 32), .ref (y 33), .ref (y 34), .ref (y 35), .ref (y 36), .ref (y 37), .int 0, .int 0, .ref (y 38), .long 0, .int 0, .int 0])), (y 1, .inl (ct 0, 8, .inl (upd (upd (fun _ => 0) 2 1) 3 2))), (y 32, .inl (ct 0, 31, .inl (fun _ => 0))), (y 36, .inl (ct 0, 496, .inl (fun _ => 0)))] H := hw
  refine zfr 538 [.int 1] rfl rfl ?_
  refine lv_aload_n hx hb dL_law_538 rfl (lv_at hl 2 rfl) ?_
  refine zcall2 (va_runV (As := []) (rest := [.int 1]) ⟨hx, hb, hml, hown, htl⟩ (r_week l D ct h2 y H.size) (cwV 0 htl gL_law_X12_week rfl rfl rfl (by decide +kernel) ⟨Nat.le_of_ble_eq_true rfl, Nat.le_of_ble_eq_true rfl⟩) (zpreV hK hw hS hA zZ.nil hN [0, 1, 2, 3] rfl rfl 11 0 rfl rfl) rfl rfl hl.1 rfl (lv_room (Nat.le_of_ble_eq_true rfl)) dL_law_539 ⟨Nat.le_of_ble_eq_true rfl, Nat.le_of_ble_eq_true rfl⟩) hw hS hA [0, 1, 2, 3] [] rfl rfl rfl rfl (fun _ H locs hp2 hw hS => ?_)
  have hw : zPD D (fun q : Nat => s.heap.size ≤ q) [] H := hw
  refine zfr 542 [.int 1, .int 1] rfl rfl ?_
  refine lv_icmp_eq (tgt := 1306) hx hb dL_law_542 (by decide) (fun _ => ?_) (fun h => absurd (by decide) h)
  exact law_end C0 hS ls (lv_sub hl [0, 4] rfl)

set_option maxHeartbeats 4000000 in
set_option maxRecDepth 100000 in
theorem law_9 {p : Program} {l : Launch} {e : Env} {s : State} {m : MethodId} {below : List Frame} {meth : Method} {c : Code} {b : Nat} {xs : Nat → Int32} (C0 : lw_At p s m meth c b 7 xs) {D : va_G} {ct : Nat → ClassId} {eE : Nat} (hK : va_K D vwCl (zT ct) s) (hN : zN s) (hZ : zZ [("END", eE)] (fun q : Nat => s.heap.size ≤ q) s s.heap) (h1 h2 h3 : Nat) (x y : Nat → Nat) (pf : Nat → Option Nat) (hpf : pf 0 = some (x 62)) (H : Heap) (locs : List Loc) (hw : zPD D (fun q : Nat => s.heap.size ≤ q) [(h1, .inr (10, [.ref (x 1), .ref (x 3), .ref (x 15), .ref (x 27), .ref (x 28), .ref (x 32), .ref (x 36), .ref (x 37), .ref (x 48), .ref (x 54), .ref (x 60), .ref (x 61), .ref (x 68), .int 0, .int 0])), (x 3, .inr (2, [.ref (x 4), .ref (x 5), .ref (x 6), .ref (x 7), .ref (x 8), .ref (x 9), .ref (x 10), .ref (x 11), .ref (x 12), .int 0, .int 0, .int 1, .int 2])), (h2, .inr (11, [.int 0, .int 0, .ref (y 0), .int 0, .int 0, .int 0, .int 0, .long 0, .int 0, .int 0, .ref (y 1), .ref (y 2), .ref (y 3), .ref (y 4), .ref (y 5), .ref (y 6), .ref (y 7), .ref (y 8), .ref (y 9), .ref (y 10), .ref (y 11), .ref (y 12), .int 0, .int 0, .ref (y 13), .ref (y 14), .ref (y 15), .ref (y 16), .ref (y 17), .ref (y 18), .ref (y 19), .ref (y 20), .ref (y 21), .ref (y 22), .ref (y 23), .ref (y 24), .int 0, .long 0, .ref (y 25), .ref (y 26), .ref (y 27), .ref (y 28), .ref (y 29), .ref (y 30), .ref (y 31), .ref (y 32), .ref (y 33), .ref (y 34), .ref (y 35), .ref (y 36), .ref (y 37), .int 0, .int 0, .ref (y 38), .long 0, .int 0, .int 0])), (y 1, .inl (ct 0, 8, .inl (upd (upd (fun _ => 0) 2 1) 3 2)))] H) (hS : va_S (fun q : Nat => s.heap.size ≤ q) s.heap H locs) (ls : Array Slot) (hl : lv_has ls 7 [(4, .int 0), (3, .ref h3), (2, .ref h2), (1, .ref h1), (0, .ref b)]) : W p l e room_1 s m #[Value.ref b] below meth c H locs 248 10101 (lw_Z below #[Value.ref b] s) (F0 m 547 ls []) := by
  obtain ⟨hx, hb, hr, hml, hown, hts, hX, hbl, hlocks, hgv⟩ := id C0
  have hown : s.vm.findClass RL = some m.cls := hown
  have htl : ∀ w ∈ wsL_law0, w.before #[Value.ref b] s = true := fun w h => hts w (wsL_law_in0 w h)
  have hA : ∀ q : Nat, s.heap.size ≤ q → (fun q : Nat => s.heap.size ≤ q) q := fun _ h => h
  have hbA : ¬ (fun q : Nat => s.heap.size ≤ q) b := Nat.not_le.mpr hbl
  refine lv_aload_n hx hb dL_law_547 rfl (lv_at hl 3 rfl) ?_
  refine zcall2 (va_runV (As := []) (rest := []) ⟨hx, hb, hml, hown, htl⟩ (k_undo l D ct h1 x H.size) (cwV 0 htl gL_law_X11_undo rfl rfl rfl (by decide +kernel) ⟨Nat.le_of_ble_eq_true rfl, Nat.le_of_ble_eq_true rfl⟩) (zpreV hK hw hS hA zZ.nil hN [0, 1] rfl rfl 10 0 rfl rfl) rfl rfl hl.1 rfl (lv_room (Nat.le_of_ble_eq_true rfl)) dL_law_548 ⟨Nat.le_of_ble_eq_true rfl, Nat.le_of_ble_eq_true rfl⟩) hw hS hA [0, 1] [2, 3] rfl rfl rfl rfl (fun _ H locs hp1 hw hS => ?_)
  have hw : zPD D (fun q : Nat => s.heap.size ≤ q) [(h2, .inr (11, [.int 0, .int 0, .ref (y 0), .int 0, .int 0, .int 0, .int 0, .long 0, .int 0, .int 0, .ref (y 1), .ref (y 2), .ref (y 3), .ref (y 4), .ref (y 5), .ref (y 6), .ref (y 7), .ref (y 8), .ref (y 9), .ref (y 10), .ref (y 11), .ref (y 12), .int 0, .int 0, .ref (y 13), .ref (y 14), .ref (y 15), .ref (y 16), .ref (y 17), .ref (y 18), .ref (y 19), .ref (y 20), .ref (y 21), .ref (y 22), .ref (y 23), .ref (y 24), .int 0, .long 0, .ref (y 25), .ref (y 26), .ref (y 27), .ref (y 28), .ref (y 29), .ref (y 30), .ref (y 31), .ref (y 32), .ref (y 33), .ref (y 34), .ref (y 35), .ref (y 36), .ref (y 37), .int 0, .int 0, .ref (y 38), .long 0, .int 0, .int 0])), (y 1, .inl (ct 0, 8, .inl (upd (upd (fun _ => 0) 2 1) 3 2)))] H := hw
  refine zfr 551 [.int 0] rfl rfl ?_
  refine lv_aload_n hx hb dL_law_551 rfl (lv_at hl 2 rfl) ?_
  refine zcall2 (va_runV (As := []) (rest := [.int 0]) ⟨hx, hb, hml, hown, htl⟩ (r_undo l D ct h2 y H.size) (cwV 0 htl gL_law_X12_undo rfl rfl rfl (by decide +kernel) ⟨Nat.le_of_ble_eq_true rfl, Nat.le_of_ble_eq_true rfl⟩) (zpreV hK hw hS hA zZ.nil hN [0, 1] rfl rfl 11 0 rfl rfl) rfl rfl hl.1 rfl (lv_room (Nat.le_of_ble_eq_true rfl)) dL_law_552 ⟨Nat.le_of_ble_eq_true rfl, Nat.le_of_ble_eq_true rfl⟩) hw hS hA [0, 1] [] rfl rfl rfl rfl (fun _ H locs hp2 hw hS => ?_)
  have hw : zPD D (fun q : Nat => s.heap.size ≤ q) [(h2, .inr (11, [.int 0, .int 0, .ref (y 0), .int 0, .int 0, .int 0, .int 0, .long 0, .int 0, .int 0, .ref (y 1), .ref (y 2), .ref (y 3), .ref (y 4), .ref (y 5), .ref (y 6), .ref (y 7), .ref (y 8), .ref (y 9), .ref (y 10), .ref (y 11), .ref (y 12), .int 0, .int 0, .ref (y 13), .ref (y 14), .ref (y 15), .ref (y 16), .ref (y 17), .ref (y 18), .ref (y 19), .ref (y 20), .ref (y 21), .ref (y 22), .ref (y 23), .ref (y 24), .int 0, .long 0, .ref (y 25), .ref (y 26), .ref (y 27), .ref (y 28), .ref (y 29), .ref (y 30), .ref (y 31), .ref (y 32), .ref (y 33), .ref (y 34), .ref (y 35), .ref (y 36), .ref (y 37), .int 0, .int 0, .ref (y 38), .long 0, .int 0, .int 0])), (y 1, .inl (ct 0, 8, .inl (upd (upd (fun _ => 0) 2 1) 3 2)))] H := hw
  refine zfr 555 [.int 0, .int 0] rfl rfl ?_
  refine lv_icmp_eq (tgt := 1306) hx hb dL_law_555 (by decide) (fun _ => ?_) (fun h => absurd (by decide) h)
  exact law_end C0 hS ls (lv_sub hl [0, 4] rfl)

set_option maxHeartbeats 4000000 in
set_option maxRecDepth 100000 in
theorem law_10 {p : Program} {l : Launch} {e : Env} {s : State} {m : MethodId} {below : List Frame} {meth : Method} {c : Code} {b : Nat} {xs : Nat → Int32} (C0 : lw_At p s m meth c b 7 xs) {D : va_G} {ct : Nat → ClassId} {eE : Nat} (hK : va_K D vwCl (zT ct) s) (hN : zN s) (hZ : zZ [("END", eE)] (fun q : Nat => s.heap.size ≤ q) s s.heap) (h1 h2 h3 : Nat) (x y : Nat → Nat) (pf : Nat → Option Nat) (hpf : pf 0 = some (x 62)) (H : Heap) (locs : List Loc) (hw : zPD D (fun q : Nat => s.heap.size ≤ q) [(h1, .inr (10, [.ref (x 1), .ref (x 3), .ref (x 15), .ref (x 27), .ref (x 28), .ref (x 32), .ref (x 36), .ref (x 37), .ref (x 48), .ref (x 54), .ref (x 60), .ref (x 61), .ref (x 68), .int 0, .int 0])), (x 3, .inr (2, [.ref (x 4), .ref (x 5), .ref (x 6), .ref (x 7), .ref (x 8), .ref (x 9), .ref (x 10), .ref (x 11), .ref (x 12), .int 0, .int 0, .int 1, .int 2])), (x 10, .inl (ct 0, 6, .inl (fun _ => 0))), (x 28, .inr (1, [.ref (x 29), .ref (x 30), .ref (x 31), .int 0])), (x 54, .inr (7, [.ref (x 55), .ref (x 56), .ref (x 57), .ref (x 58), .ref (x 59), .int 0])), (x 58, .inl (ct 0, 6, .inl (fun _ => 0))), (h2, .inr (11, [.int 0, .int 0, .ref (y 0), .int 0, .int 0, .int 0, .int 0, .long 0, .int 0, .int 0, .ref (y 1), .ref (y 2), .ref (y 3), .ref (y 4), .ref (y 5), .ref (y 6), .ref (y 7), .ref (y 8), .ref (y 9), .ref (y 10), .ref (y 11), .ref (y 12), .int 0, .int 0, .ref (y 13), .ref (y 14), .ref (y 15), .ref (y 16), .ref (y 17), .ref (y 18), .ref (y 19), .ref (y 20), .ref (y 21), .ref (y 22), .ref (y 23), .ref (y 24), .int 0, .long 0, .ref (y 25), .ref (y 26), .ref (y 27), .ref (y 28), .ref (y 29), .ref (y 30), .ref (y 31), .ref (y 32), .ref (y 33), .ref (y 34), .ref (y 35), .ref (y 36), .ref (y 37), .int 0, .int 0, .ref (y 38), .long 0, .int 0, .int 0])), (y 1, .inl (ct 0, 8, .inl (upd (upd (fun _ => 0) 2 1) 3 2))), (y 32, .inl (ct 0, 31, .inl (fun _ => 0))), (y 33, .inl (ct 0, 31, .inl (fun _ => 0))), (y 25, .inl (ct 0, 6, .inl (fun _ => 0)))] H) (hS : va_S (fun q : Nat => s.heap.size ≤ q) s.heap H locs) (ls : Array Slot) (hl : lv_has ls 7 [(4, .int 0), (3, .ref h3), (2, .ref h2), (1, .ref h1), (0, .ref b)]) : W p l e room_1 s m #[Value.ref b] below meth c H locs 248 10101 (lw_Z below #[Value.ref b] s) (F0 m 560 ls []) := by
  obtain ⟨hx, hb, hr, hml, hown, hts, hX, hbl, hlocks, hgv⟩ := id C0
  have hown : s.vm.findClass RL = some m.cls := hown
  have htl : ∀ w ∈ wsL_law0, w.before #[Value.ref b] s = true := fun w h => hts w (wsL_law_in0 w h)
  have hA : ∀ q : Nat, s.heap.size ≤ q → (fun q : Nat => s.heap.size ≤ q) q := fun _ h => h
  have hbA : ¬ (fun q : Nat => s.heap.size ≤ q) b := Nat.not_le.mpr hbl
  refine lv_aload_n hx hb dL_law_560 rfl (lv_at hl 3 rfl) ?_
  refine lv_aload_n hx hb dL_law_561 rfl (lv_at hl 4 rfl) ?_
  refine lv_iload hx hb dL_law_562 (lv_at hl 0 rfl) ?_
  refine lv_iconst (v := 1) hx hb dL_law_564 (by decide) ?_
  refine lv_iadd hx hb dL_law_565 ?_
  refine ztop (.int 1) (congrArg Value.int (by decide)) ?_
  refine va_sld hx hb hX hbl hbA hS (zix (k := 1) (by decide) (by decide) (by decide)).1 dL_law_566 ?_
  refine ztop (.int (xs 1)) (congrArg Value.int (congrArg xs (by decide))) ?_
  refine zcall2 (va_runV (As := [.int (xs 1)]) (rest := []) ⟨hx, hb, hml, hown, htl⟩ (k_judged l D ct h1 x (xs 1) H.size) (cwV 1 htl gL_law_X11_judged rfl rfl rfl (by decide +kernel) ⟨Nat.le_of_ble_eq_true rfl, Nat.le_of_ble_eq_true rfl⟩) (zpreV hK hw hS hA zZ.nil hN [0, 1, 2, 3, 4, 5] rfl rfl 10 0 rfl rfl) rfl rfl hl.1 rfl (lv_room (Nat.le_of_ble_eq_true rfl)) dL_law_567 ⟨Nat.le_of_ble_eq_true rfl, Nat.le_of_ble_eq_true rfl⟩) hw hS hA [0, 1, 2, 3, 4, 5] [6, 7, 8, 9, 10] rfl rfl rfl rfl (fun _ H locs hp1 hw hS => ?_)
  have hw : zPD D (fun q : Nat => s.heap.size ≤ q) [(h2, .inr (11, [.int 0, .int 0, .ref (y 0), .int 0, .int 0, .int 0, .int 0, .long 0, .int 0, .int 0, .ref (y 1), .ref (y 2), .ref (y 3), .ref (y 4), .ref (y 5), .ref (y 6), .ref (y 7), .ref (y 8), .ref (y 9), .ref (y 10), .ref (y 11), .ref (y 12), .int 0, .int 0, .ref (y 13), .ref (y 14), .ref (y 15), .ref (y 16), .ref (y 17), .ref (y 18), .ref (y 19), .ref (y 20), .ref (y 21), .ref (y 22), .ref (y 23), .ref (y 24), .int 0, .long 0, .ref (y 25), .ref (y 26), .ref (y 27), .ref (y 28), .ref (y 29), .ref (y 30), .ref (y 31), .ref (y 32), .ref (y 33), .ref (y 34), .ref (y 35), .ref (y 36), .ref (y 37), .int 0, .int 0, .ref (y 38), .long 0, .int 0, .int 0])), (y 1, .inl (ct 0, 8, .inl (upd (upd (fun _ => 0) 2 1) 3 2))), (y 32, .inl (ct 0, 31, .inl (fun _ => 0))), (y 33, .inl (ct 0, 31, .inl (fun _ => 0))), (y 25, .inl (ct 0, 6, .inl (fun _ => 0)))] H := hw
  refine zfr 570 [.int (zjd (xs 1))] rfl rfl ?_
  refine lv_aload_n hx hb dL_law_570 rfl (lv_at hl 2 rfl) ?_
  refine lv_aload_n hx hb dL_law_571 rfl (lv_at hl 4 rfl) ?_
  refine lv_iload hx hb dL_law_572 (lv_at hl 0 rfl) ?_
  refine lv_iconst (v := 1) hx hb dL_law_574 (by decide) ?_
  refine lv_iadd hx hb dL_law_575 ?_
  refine ztop (.int 1) (congrArg Value.int (by decide)) ?_
  refine va_sld hx hb hX hbl hbA hS (zix (k := 1) (by decide) (by decide) (by decide)).1 dL_law_576 ?_
  refine ztop (.int (xs 1)) (congrArg Value.int (congrArg xs (by decide))) ?_
  refine zcall2 (va_runV (As := [.int (xs 1)]) (rest := [.int (zjd (xs 1))]) ⟨hx, hb, hml, hown, htl⟩ (r_judged l D ct h2 y (xs 1) H.size) (cwV 1 htl gL_law_X12_judged rfl rfl rfl (by decide +kernel) ⟨Nat.le_of_ble_eq_true rfl, Nat.le_of_ble_eq_true rfl⟩) (zpreV hK hw hS hA zZ.nil hN [0, 1, 2, 3, 4] rfl rfl 11 0 rfl rfl) rfl rfl hl.1 rfl (lv_room (Nat.le_of_ble_eq_true rfl)) dL_law_577 ⟨Nat.le_of_ble_eq_true rfl, Nat.le_of_ble_eq_true rfl⟩) hw hS hA [0, 1, 2, 3, 4] [] rfl rfl rfl rfl (fun _ H locs hp2 hw hS => ?_)
  have hw : zPD D (fun q : Nat => s.heap.size ≤ q) [] H := hw
  refine zfr 580 [.int (zjd (xs 1)), .int (zjd (xs 1))] rfl rfl ?_
  refine lv_icmp_eq (tgt := 1306) hx hb dL_law_580 (by decide) (fun _ => ?_) (fun h => absurd (rfl) h)
  exact law_end C0 hS ls (lv_sub hl [0, 4] rfl)

set_option maxHeartbeats 4000000 in
set_option maxRecDepth 100000 in
theorem law_11 {p : Program} {l : Launch} {e : Env} {s : State} {m : MethodId} {below : List Frame} {meth : Method} {c : Code} {b : Nat} {xs : Nat → Int32} (C0 : lw_At p s m meth c b 7 xs) {D : va_G} {ct : Nat → ClassId} {eE : Nat} (hK : va_K D vwCl (zT ct) s) (hN : zN s) (hZ : zZ [("END", eE)] (fun q : Nat => s.heap.size ≤ q) s s.heap) (h1 h2 h3 : Nat) (x y : Nat → Nat) (pf : Nat → Option Nat) (hpf : pf 0 = some (x 62)) (H : Heap) (locs : List Loc) (hw : zPD D (fun q : Nat => s.heap.size ≤ q) [(h1, .inr (10, [.ref (x 1), .ref (x 3), .ref (x 15), .ref (x 27), .ref (x 28), .ref (x 32), .ref (x 36), .ref (x 37), .ref (x 48), .ref (x 54), .ref (x 60), .ref (x 61), .ref (x 68), .int 0, .int 0])), (x 3, .inr (2, [.ref (x 4), .ref (x 5), .ref (x 6), .ref (x 7), .ref (x 8), .ref (x 9), .ref (x 10), .ref (x 11), .ref (x 12), .int 0, .int 0, .int 1, .int 2])), (h2, .inr (11, [.int 0, .int 0, .ref (y 0), .int 0, .int 0, .int 0, .int 0, .long 0, .int 0, .int 0, .ref (y 1), .ref (y 2), .ref (y 3), .ref (y 4), .ref (y 5), .ref (y 6), .ref (y 7), .ref (y 8), .ref (y 9), .ref (y 10), .ref (y 11), .ref (y 12), .int 0, .int 0, .ref (y 13), .ref (y 14), .ref (y 15), .ref (y 16), .ref (y 17), .ref (y 18), .ref (y 19), .ref (y 20), .ref (y 21), .ref (y 22), .ref (y 23), .ref (y 24), .int 0, .long 0, .ref (y 25), .ref (y 26), .ref (y 27), .ref (y 28), .ref (y 29), .ref (y 30), .ref (y 31), .ref (y 32), .ref (y 33), .ref (y 34), .ref (y 35), .ref (y 36), .ref (y 37), .int 0, .int 0, .ref (y 38), .long 0, .int 0, .int 0])), (y 1, .inl (ct 0, 8, .inl (upd (upd (fun _ => 0) 2 1) 3 2)))] H) (hS : va_S (fun q : Nat => s.heap.size ≤ q) s.heap H locs) (ls : Array Slot) (hl : lv_has ls 7 [(4, .int 0), (3, .ref h3), (2, .ref h2), (1, .ref h1), (0, .ref b)]) : W p l e room_1 s m #[Value.ref b] below meth c H locs 248 10101 (lw_Z below #[Value.ref b] s) (F0 m 585 ls []) := by
  obtain ⟨hx, hb, hr, hml, hown, hts, hX, hbl, hlocks, hgv⟩ := id C0
  have hown : s.vm.findClass RL = some m.cls := hown
  have htl : ∀ w ∈ wsL_law0, w.before #[Value.ref b] s = true := fun w h => hts w (wsL_law_in0 w h)
  have hA : ∀ q : Nat, s.heap.size ≤ q → (fun q : Nat => s.heap.size ≤ q) q := fun _ h => h
  have hbA : ¬ (fun q : Nat => s.heap.size ≤ q) b := Nat.not_le.mpr hbl
  refine lv_aload_n hx hb dL_law_585 rfl (lv_at hl 3 rfl) ?_
  refine lv_aload_n hx hb dL_law_586 rfl (lv_at hl 4 rfl) ?_
  refine lv_iload hx hb dL_law_587 (lv_at hl 0 rfl) ?_
  refine lv_iconst (v := 1) hx hb dL_law_589 (by decide) ?_
  refine lv_iadd hx hb dL_law_590 ?_
  refine ztop (.int 1) (congrArg Value.int (by decide)) ?_
  refine va_sld hx hb hX hbl hbA hS (zix (k := 1) (by decide) (by decide) (by decide)).1 dL_law_591 ?_
  refine ztop (.int (xs 1)) (congrArg Value.int (congrArg xs (by decide))) ?_
  refine zcall2 (va_runV (As := [.int (xs 1)]) (rest := []) ⟨hx, hb, hml, hown, htl⟩ (k_reach l D ct h1 x (xs 1) H.size) (cwV 1 htl gL_law_X11_reach rfl rfl rfl (by decide +kernel) ⟨Nat.le_of_ble_eq_true rfl, Nat.le_of_ble_eq_true rfl⟩) (zpreV hK hw hS hA zZ.nil hN [0, 1] rfl rfl 10 0 rfl rfl) rfl rfl hl.1 rfl (lv_room (Nat.le_of_ble_eq_true rfl)) dL_law_592 ⟨Nat.le_of_ble_eq_true rfl, Nat.le_of_ble_eq_true rfl⟩) hw hS hA [0, 1] [2, 3] rfl rfl rfl rfl (fun _ H locs hp1 hw hS => ?_)
  have hw : zPD D (fun q : Nat => s.heap.size ≤ q) [(h2, .inr (11, [.int 0, .int 0, .ref (y 0), .int 0, .int 0, .int 0, .int 0, .long 0, .int 0, .int 0, .ref (y 1), .ref (y 2), .ref (y 3), .ref (y 4), .ref (y 5), .ref (y 6), .ref (y 7), .ref (y 8), .ref (y 9), .ref (y 10), .ref (y 11), .ref (y 12), .int 0, .int 0, .ref (y 13), .ref (y 14), .ref (y 15), .ref (y 16), .ref (y 17), .ref (y 18), .ref (y 19), .ref (y 20), .ref (y 21), .ref (y 22), .ref (y 23), .ref (y 24), .int 0, .long 0, .ref (y 25), .ref (y 26), .ref (y 27), .ref (y 28), .ref (y 29), .ref (y 30), .ref (y 31), .ref (y 32), .ref (y 33), .ref (y 34), .ref (y 35), .ref (y 36), .ref (y 37), .int 0, .int 0, .ref (y 38), .long 0, .int 0, .int 0])), (y 1, .inl (ct 0, 8, .inl (upd (upd (fun _ => 0) 2 1) 3 2)))] H := hw
  refine zfr 595 [.int (-1)] rfl rfl ?_
  refine lv_aload_n hx hb dL_law_595 rfl (lv_at hl 2 rfl) ?_
  refine lv_aload_n hx hb dL_law_596 rfl (lv_at hl 4 rfl) ?_
  refine lv_iload hx hb dL_law_597 (lv_at hl 0 rfl) ?_
  refine lv_iconst (v := 1) hx hb dL_law_599 (by decide) ?_
  refine lv_iadd hx hb dL_law_600 ?_
  refine ztop (.int 1) (congrArg Value.int (by decide)) ?_
  refine va_sld hx hb hX hbl hbA hS (zix (k := 1) (by decide) (by decide) (by decide)).1 dL_law_601 ?_
  refine ztop (.int (xs 1)) (congrArg Value.int (congrArg xs (by decide))) ?_
  refine zcall2 (va_runV (As := [.int (xs 1)]) (rest := [.int (-1)]) ⟨hx, hb, hml, hown, htl⟩ (r_reach l D ct h2 y (xs 1) H.size) (cwV 1 htl gL_law_X12_reach rfl rfl rfl (by decide +kernel) ⟨Nat.le_of_ble_eq_true rfl, Nat.le_of_ble_eq_true rfl⟩) (zpreV hK hw hS hA zZ.nil hN [0, 1] rfl rfl 11 0 rfl rfl) rfl rfl hl.1 rfl (lv_room (Nat.le_of_ble_eq_true rfl)) dL_law_602 ⟨Nat.le_of_ble_eq_true rfl, Nat.le_of_ble_eq_true rfl⟩) hw hS hA [0, 1] [] rfl rfl rfl rfl (fun _ H locs hp2 hw hS => ?_)
  have hw : zPD D (fun q : Nat => s.heap.size ≤ q) [(h2, .inr (11, [.int 0, .int 0, .ref (y 0), .int 0, .int 0, .int 0, .int 0, .long 0, .int 0, .int 0, .ref (y 1), .ref (y 2), .ref (y 3), .ref (y 4), .ref (y 5), .ref (y 6), .ref (y 7), .ref (y 8), .ref (y 9), .ref (y 10), .ref (y 11), .ref (y 12), .int 0, .int 0, .ref (y 13), .ref (y 14), .ref (y 15), .ref (y 16), .ref (y 17), .ref (y 18), .ref (y 19), .ref (y 20), .ref (y 21), .ref (y 22), .ref (y 23), .ref (y 24), .int 0, .long 0, .ref (y 25), .ref (y 26), .ref (y 27), .ref (y 28), .ref (y 29), .ref (y 30), .ref (y 31), .ref (y 32), .ref (y 33), .ref (y 34), .ref (y 35), .ref (y 36), .ref (y 37), .int 0, .int 0, .ref (y 38), .long 0, .int 0, .int 0])), (y 1, .inl (ct 0, 8, .inl (upd (upd (fun _ => 0) 2 1) 3 2)))] H := hw
  refine zfr 605 [.int (-1), .int (-1)] rfl rfl ?_
  refine lv_icmp_eq (tgt := 1306) hx hb dL_law_605 (by decide) (fun _ => ?_) (fun h => absurd (by decide) h)
  exact law_end C0 hS ls (lv_sub hl [0, 4] rfl)

set_option maxHeartbeats 4000000 in
set_option maxRecDepth 100000 in
theorem law_12 {p : Program} {l : Launch} {e : Env} {s : State} {m : MethodId} {below : List Frame} {meth : Method} {c : Code} {b : Nat} {xs : Nat → Int32} (C0 : lw_At p s m meth c b 7 xs) {D : va_G} {ct : Nat → ClassId} {eE : Nat} (hK : va_K D vwCl (zT ct) s) (hN : zN s) (hZ : zZ [("END", eE)] (fun q : Nat => s.heap.size ≤ q) s s.heap) (h1 h2 h3 : Nat) (x y : Nat → Nat) (pf : Nat → Option Nat) (hpf : pf 0 = some (x 62)) (H : Heap) (locs : List Loc) (hw : zPD D (fun q : Nat => s.heap.size ≤ q) [(h1, .inr (10, [.ref (x 1), .ref (x 3), .ref (x 15), .ref (x 27), .ref (x 28), .ref (x 32), .ref (x 36), .ref (x 37), .ref (x 48), .ref (x 54), .ref (x 60), .ref (x 61), .ref (x 68), .int 0, .int 0])), (x 3, .inr (2, [.ref (x 4), .ref (x 5), .ref (x 6), .ref (x 7), .ref (x 8), .ref (x 9), .ref (x 10), .ref (x 11), .ref (x 12), .int 0, .int 0, .int 1, .int 2])), (h2, .inr (11, [.int 0, .int 0, .ref (y 0), .int 0, .int 0, .int 0, .int 0, .long 0, .int 0, .int 0, .ref (y 1), .ref (y 2), .ref (y 3), .ref (y 4), .ref (y 5), .ref (y 6), .ref (y 7), .ref (y 8), .ref (y 9), .ref (y 10), .ref (y 11), .ref (y 12), .int 0, .int 0, .ref (y 13), .ref (y 14), .ref (y 15), .ref (y 16), .ref (y 17), .ref (y 18), .ref (y 19), .ref (y 20), .ref (y 21), .ref (y 22), .ref (y 23), .ref (y 24), .int 0, .long 0, .ref (y 25), .ref (y 26), .ref (y 27), .ref (y 28), .ref (y 29), .ref (y 30), .ref (y 31), .ref (y 32), .ref (y 33), .ref (y 34), .ref (y 35), .ref (y 36), .ref (y 37), .int 0, .int 0, .ref (y 38), .long 0, .int 0, .int 0])), (y 1, .inl (ct 0, 8, .inl (upd (upd (fun _ => 0) 2 1) 3 2)))] H) (hS : va_S (fun q : Nat => s.heap.size ≤ q) s.heap H locs) (ls : Array Slot) (hl : lv_has ls 7 [(4, .int 0), (3, .ref h3), (2, .ref h2), (1, .ref h1), (0, .ref b)]) : W p l e room_1 s m #[Value.ref b] below meth c H locs 248 10101 (lw_Z below #[Value.ref b] s) (F0 m 610 ls []) := by
  obtain ⟨hx, hb, hr, hml, hown, hts, hX, hbl, hlocks, hgv⟩ := id C0
  have hown : s.vm.findClass RL = some m.cls := hown
  have htl : ∀ w ∈ wsL_law0, w.before #[Value.ref b] s = true := fun w h => hts w (wsL_law_in0 w h)
  have hA : ∀ q : Nat, s.heap.size ≤ q → (fun q : Nat => s.heap.size ≤ q) q := fun _ h => h
  have hbA : ¬ (fun q : Nat => s.heap.size ≤ q) b := Nat.not_le.mpr hbl
  refine lv_aload_n hx hb dL_law_610 rfl (lv_at hl 3 rfl) ?_
  refine lv_aload_n hx hb dL_law_611 rfl (lv_at hl 4 rfl) ?_
  refine lv_iload hx hb dL_law_612 (lv_at hl 0 rfl) ?_
  refine lv_iconst (v := 1) hx hb dL_law_614 (by decide) ?_
  refine lv_iadd hx hb dL_law_615 ?_
  refine ztop (.int 1) (congrArg Value.int (by decide)) ?_
  refine va_sld hx hb hX hbl hbA hS (zix (k := 1) (by decide) (by decide) (by decide)).1 dL_law_616 ?_
  refine ztop (.int (xs 1)) (congrArg Value.int (congrArg xs (by decide))) ?_
  refine lv_aload_n hx hb dL_law_617 rfl (lv_at hl 4 rfl) ?_
  refine lv_iload hx hb dL_law_618 (lv_at hl 0 rfl) ?_
  refine lv_iconst (v := 2) hx hb dL_law_620 (by decide) ?_
  refine lv_iadd hx hb dL_law_621 ?_
  refine ztop (.int 2) (congrArg Value.int (by decide)) ?_
  refine va_sld hx hb hX hbl hbA hS (zix (k := 2) (by decide) (by decide) (by decide)).1 dL_law_622 ?_
  refine ztop (.int (xs 2)) (congrArg Value.int (congrArg xs (by decide))) ?_
  refine zcall2 (va_runV (As := [.int (xs 1), .int (xs 2)]) (rest := []) ⟨hx, hb, hml, hown, htl⟩ (k_frontiers l D ct h1 x (xs 1) (xs 2) H.size) (cwV 2 htl gL_law_X11_frontiers rfl rfl rfl (by decide +kernel) ⟨Nat.le_of_ble_eq_true rfl, Nat.le_of_ble_eq_true rfl⟩) (zpreV hK hw hS hA zZ.nil hN [0, 1] rfl rfl 10 0 rfl rfl) rfl rfl hl.1 rfl (lv_room (Nat.le_of_ble_eq_true rfl)) dL_law_623 ⟨Nat.le_of_ble_eq_true rfl, Nat.le_of_ble_eq_true rfl⟩) hw hS hA [0, 1] [2, 3] rfl rfl rfl rfl (fun _ H locs hp1 hw hS => ?_)
  have hw : zPD D (fun q : Nat => s.heap.size ≤ q) [(h2, .inr (11, [.int 0, .int 0, .ref (y 0), .int 0, .int 0, .int 0, .int 0, .long 0, .int 0, .int 0, .ref (y 1), .ref (y 2), .ref (y 3), .ref (y 4), .ref (y 5), .ref (y 6), .ref (y 7), .ref (y 8), .ref (y 9), .ref (y 10), .ref (y 11), .ref (y 12), .int 0, .int 0, .ref (y 13), .ref (y 14), .ref (y 15), .ref (y 16), .ref (y 17), .ref (y 18), .ref (y 19), .ref (y 20), .ref (y 21), .ref (y 22), .ref (y 23), .ref (y 24), .int 0, .long 0, .ref (y 25), .ref (y 26), .ref (y 27), .ref (y 28), .ref (y 29), .ref (y 30), .ref (y 31), .ref (y 32), .ref (y 33), .ref (y 34), .ref (y 35), .ref (y 36), .ref (y 37), .int 0, .int 0, .ref (y 38), .long 0, .int 0, .int 0])), (y 1, .inl (ct 0, 8, .inl (upd (upd (fun _ => 0) 2 1) 3 2)))] H := hw
  refine zfr 626 [.int (-1)] rfl rfl ?_
  refine lv_aload_n hx hb dL_law_626 rfl (lv_at hl 2 rfl) ?_
  refine lv_aload_n hx hb dL_law_627 rfl (lv_at hl 4 rfl) ?_
  refine lv_iload hx hb dL_law_628 (lv_at hl 0 rfl) ?_
  refine lv_iconst (v := 1) hx hb dL_law_630 (by decide) ?_
  refine lv_iadd hx hb dL_law_631 ?_
  refine ztop (.int 1) (congrArg Value.int (by decide)) ?_
  refine va_sld hx hb hX hbl hbA hS (zix (k := 1) (by decide) (by decide) (by decide)).1 dL_law_632 ?_
  refine ztop (.int (xs 1)) (congrArg Value.int (congrArg xs (by decide))) ?_
  refine lv_aload_n hx hb dL_law_633 rfl (lv_at hl 4 rfl) ?_
  refine lv_iload hx hb dL_law_634 (lv_at hl 0 rfl) ?_
  refine lv_iconst (v := 2) hx hb dL_law_636 (by decide) ?_
  refine lv_iadd hx hb dL_law_637 ?_
  refine ztop (.int 2) (congrArg Value.int (by decide)) ?_
  refine va_sld hx hb hX hbl hbA hS (zix (k := 2) (by decide) (by decide) (by decide)).1 dL_law_638 ?_
  refine ztop (.int (xs 2)) (congrArg Value.int (congrArg xs (by decide))) ?_
  refine zcall2 (va_runV (As := [.int (xs 1), .int (xs 2)]) (rest := [.int (-1)]) ⟨hx, hb, hml, hown, htl⟩ (r_frontiers l D ct h2 y (xs 1) (xs 2) H.size) (cwV 2 htl gL_law_X12_frontiers rfl rfl rfl (by decide +kernel) ⟨Nat.le_of_ble_eq_true rfl, Nat.le_of_ble_eq_true rfl⟩) (zpreV hK hw hS hA zZ.nil hN [0, 1] rfl rfl 11 0 rfl rfl) rfl rfl hl.1 rfl (lv_room (Nat.le_of_ble_eq_true rfl)) dL_law_639 ⟨Nat.le_of_ble_eq_true rfl, Nat.le_of_ble_eq_true rfl⟩) hw hS hA [0, 1] [] rfl rfl rfl rfl (fun _ H locs hp2 hw hS => ?_)
  have hw : zPD D (fun q : Nat => s.heap.size ≤ q) [(h2, .inr (11, [.int 0, .int 0, .ref (y 0), .int 0, .int 0, .int 0, .int 0, .long 0, .int 0, .int 0, .ref (y 1), .ref (y 2), .ref (y 3), .ref (y 4), .ref (y 5), .ref (y 6), .ref (y 7), .ref (y 8), .ref (y 9), .ref (y 10), .ref (y 11), .ref (y 12), .int 0, .int 0, .ref (y 13), .ref (y 14), .ref (y 15), .ref (y 16), .ref (y 17), .ref (y 18), .ref (y 19), .ref (y 20), .ref (y 21), .ref (y 22), .ref (y 23), .ref (y 24), .int 0, .long 0, .ref (y 25), .ref (y 26), .ref (y 27), .ref (y 28), .ref (y 29), .ref (y 30), .ref (y 31), .ref (y 32), .ref (y 33), .ref (y 34), .ref (y 35), .ref (y 36), .ref (y 37), .int 0, .int 0, .ref (y 38), .long 0, .int 0, .int 0])), (y 1, .inl (ct 0, 8, .inl (upd (upd (fun _ => 0) 2 1) 3 2)))] H := hw
  refine zfr 642 [.int (-1), .int (-1)] rfl rfl ?_
  refine lv_icmp_eq (tgt := 1306) hx hb dL_law_642 (by decide) (fun _ => ?_) (fun h => absurd (by decide) h)
  exact law_end C0 hS ls (lv_sub hl [0, 4] rfl)

set_option maxHeartbeats 4000000 in
set_option maxRecDepth 100000 in
theorem law_13 {p : Program} {l : Launch} {e : Env} {s : State} {m : MethodId} {below : List Frame} {meth : Method} {c : Code} {b : Nat} {xs : Nat → Int32} (C0 : lw_At p s m meth c b 7 xs) {D : va_G} {ct : Nat → ClassId} {eE : Nat} (hK : va_K D vwCl (zT ct) s) (hN : zN s) (hZ : zZ [("END", eE)] (fun q : Nat => s.heap.size ≤ q) s s.heap) (h1 h2 h3 : Nat) (x y : Nat → Nat) (pf : Nat → Option Nat) (hpf : pf 0 = some (x 62)) (H : Heap) (locs : List Loc) (hw : zPD D (fun q : Nat => s.heap.size ≤ q) [(h1, .inr (10, [.ref (x 1), .ref (x 3), .ref (x 15), .ref (x 27), .ref (x 28), .ref (x 32), .ref (x 36), .ref (x 37), .ref (x 48), .ref (x 54), .ref (x 60), .ref (x 61), .ref (x 68), .int 0, .int 0])), (x 3, .inr (2, [.ref (x 4), .ref (x 5), .ref (x 6), .ref (x 7), .ref (x 8), .ref (x 9), .ref (x 10), .ref (x 11), .ref (x 12), .int 0, .int 0, .int 1, .int 2])), (h2, .inr (11, [.int 0, .int 0, .ref (y 0), .int 0, .int 0, .int 0, .int 0, .long 0, .int 0, .int 0, .ref (y 1), .ref (y 2), .ref (y 3), .ref (y 4), .ref (y 5), .ref (y 6), .ref (y 7), .ref (y 8), .ref (y 9), .ref (y 10), .ref (y 11), .ref (y 12), .int 0, .int 0, .ref (y 13), .ref (y 14), .ref (y 15), .ref (y 16), .ref (y 17), .ref (y 18), .ref (y 19), .ref (y 20), .ref (y 21), .ref (y 22), .ref (y 23), .ref (y 24), .int 0, .long 0, .ref (y 25), .ref (y 26), .ref (y 27), .ref (y 28), .ref (y 29), .ref (y 30), .ref (y 31), .ref (y 32), .ref (y 33), .ref (y 34), .ref (y 35), .ref (y 36), .ref (y 37), .int 0, .int 0, .ref (y 38), .long 0, .int 0, .int 0])), (y 1, .inl (ct 0, 8, .inl (upd (upd (fun _ => 0) 2 1) 3 2)))] H) (hS : va_S (fun q : Nat => s.heap.size ≤ q) s.heap H locs) (ls : Array Slot) (hl : lv_has ls 7 [(4, .int 0), (3, .ref h3), (2, .ref h2), (1, .ref h1), (0, .ref b)]) : W p l e room_1 s m #[Value.ref b] below meth c H locs 248 10101 (lw_Z below #[Value.ref b] s) (F0 m 647 ls []) := by
  obtain ⟨hx, hb, hr, hml, hown, hts, hX, hbl, hlocks, hgv⟩ := id C0
  have hown : s.vm.findClass RL = some m.cls := hown
  have htl : ∀ w ∈ wsL_law0, w.before #[Value.ref b] s = true := fun w h => hts w (wsL_law_in0 w h)
  have hA : ∀ q : Nat, s.heap.size ≤ q → (fun q : Nat => s.heap.size ≤ q) q := fun _ h => h
  have hbA : ¬ (fun q : Nat => s.heap.size ≤ q) b := Nat.not_le.mpr hbl
  refine lv_aload_n hx hb dL_law_647 rfl (lv_at hl 3 rfl) ?_
  refine lv_aload_n hx hb dL_law_648 rfl (lv_at hl 4 rfl) ?_
  refine lv_iload hx hb dL_law_649 (lv_at hl 0 rfl) ?_
  refine lv_iconst (v := 1) hx hb dL_law_651 (by decide) ?_
  refine lv_iadd hx hb dL_law_652 ?_
  refine ztop (.int 1) (congrArg Value.int (by decide)) ?_
  refine va_sld hx hb hX hbl hbA hS (zix (k := 1) (by decide) (by decide) (by decide)).1 dL_law_653 ?_
  refine ztop (.int (xs 1)) (congrArg Value.int (congrArg xs (by decide))) ?_
  refine lv_aload_n hx hb dL_law_654 rfl (lv_at hl 4 rfl) ?_
  refine lv_iload hx hb dL_law_655 (lv_at hl 0 rfl) ?_
  refine lv_iconst (v := 2) hx hb dL_law_657 (by decide) ?_
  refine lv_iadd hx hb dL_law_658 ?_
  refine ztop (.int 2) (congrArg Value.int (by decide)) ?_
  refine va_sld hx hb hX hbl hbA hS (zix (k := 2) (by decide) (by decide) (by decide)).1 dL_law_659 ?_
  refine ztop (.int (xs 2)) (congrArg Value.int (congrArg xs (by decide))) ?_
  refine zcall2 (va_runV (As := [.int (xs 1), .int (xs 2)]) (rest := []) ⟨hx, hb, hml, hown, htl⟩ (k_when l D ct h1 x (xs 1) (xs 2) H.size) (cwV 2 htl gL_law_X11_when rfl rfl rfl (by decide +kernel) ⟨Nat.le_of_ble_eq_true rfl, Nat.le_of_ble_eq_true rfl⟩) (zpreV hK hw hS hA zZ.nil hN [0, 1] rfl rfl 10 0 rfl rfl) rfl rfl hl.1 rfl (lv_room (Nat.le_of_ble_eq_true rfl)) dL_law_660 ⟨Nat.le_of_ble_eq_true rfl, Nat.le_of_ble_eq_true rfl⟩) hw hS hA [0, 1] [2, 3] rfl rfl rfl rfl (fun _ H locs hp1 hw hS => ?_)
  have hw : zPD D (fun q : Nat => s.heap.size ≤ q) [(h2, .inr (11, [.int 0, .int 0, .ref (y 0), .int 0, .int 0, .int 0, .int 0, .long 0, .int 0, .int 0, .ref (y 1), .ref (y 2), .ref (y 3), .ref (y 4), .ref (y 5), .ref (y 6), .ref (y 7), .ref (y 8), .ref (y 9), .ref (y 10), .ref (y 11), .ref (y 12), .int 0, .int 0, .ref (y 13), .ref (y 14), .ref (y 15), .ref (y 16), .ref (y 17), .ref (y 18), .ref (y 19), .ref (y 20), .ref (y 21), .ref (y 22), .ref (y 23), .ref (y 24), .int 0, .long 0, .ref (y 25), .ref (y 26), .ref (y 27), .ref (y 28), .ref (y 29), .ref (y 30), .ref (y 31), .ref (y 32), .ref (y 33), .ref (y 34), .ref (y 35), .ref (y 36), .ref (y 37), .int 0, .int 0, .ref (y 38), .long 0, .int 0, .int 0])), (y 1, .inl (ct 0, 8, .inl (upd (upd (fun _ => 0) 2 1) 3 2)))] H := hw
  refine zfr 663 [.int (-1)] rfl rfl ?_
  refine lv_aload_n hx hb dL_law_663 rfl (lv_at hl 2 rfl) ?_
  refine lv_aload_n hx hb dL_law_664 rfl (lv_at hl 4 rfl) ?_
  refine lv_iload hx hb dL_law_665 (lv_at hl 0 rfl) ?_
  refine lv_iconst (v := 1) hx hb dL_law_667 (by decide) ?_
  refine lv_iadd hx hb dL_law_668 ?_
  refine ztop (.int 1) (congrArg Value.int (by decide)) ?_
  refine va_sld hx hb hX hbl hbA hS (zix (k := 1) (by decide) (by decide) (by decide)).1 dL_law_669 ?_
  refine ztop (.int (xs 1)) (congrArg Value.int (congrArg xs (by decide))) ?_
  refine lv_aload_n hx hb dL_law_670 rfl (lv_at hl 4 rfl) ?_
  refine lv_iload hx hb dL_law_671 (lv_at hl 0 rfl) ?_
  refine lv_iconst (v := 2) hx hb dL_law_673 (by decide) ?_
  refine lv_iadd hx hb dL_law_674 ?_
  refine ztop (.int 2) (congrArg Value.int (by decide)) ?_
  refine va_sld hx hb hX hbl hbA hS (zix (k := 2) (by decide) (by decide) (by decide)).1 dL_law_675 ?_
  refine ztop (.int (xs 2)) (congrArg Value.int (congrArg xs (by decide))) ?_
  refine zcall2 (va_runV (As := [.int (xs 1), .int (xs 2)]) (rest := [.int (-1)]) ⟨hx, hb, hml, hown, htl⟩ (r_when l D ct h2 y (xs 1) (xs 2) H.size) (cwV 2 htl gL_law_X12_when rfl rfl rfl (by decide +kernel) ⟨Nat.le_of_ble_eq_true rfl, Nat.le_of_ble_eq_true rfl⟩) (zpreV hK hw hS hA zZ.nil hN [0, 1] rfl rfl 11 0 rfl rfl) rfl rfl hl.1 rfl (lv_room (Nat.le_of_ble_eq_true rfl)) dL_law_676 ⟨Nat.le_of_ble_eq_true rfl, Nat.le_of_ble_eq_true rfl⟩) hw hS hA [0, 1] [] rfl rfl rfl rfl (fun _ H locs hp2 hw hS => ?_)
  have hw : zPD D (fun q : Nat => s.heap.size ≤ q) [(h2, .inr (11, [.int 0, .int 0, .ref (y 0), .int 0, .int 0, .int 0, .int 0, .long 0, .int 0, .int 0, .ref (y 1), .ref (y 2), .ref (y 3), .ref (y 4), .ref (y 5), .ref (y 6), .ref (y 7), .ref (y 8), .ref (y 9), .ref (y 10), .ref (y 11), .ref (y 12), .int 0, .int 0, .ref (y 13), .ref (y 14), .ref (y 15), .ref (y 16), .ref (y 17), .ref (y 18), .ref (y 19), .ref (y 20), .ref (y 21), .ref (y 22), .ref (y 23), .ref (y 24), .int 0, .long 0, .ref (y 25), .ref (y 26), .ref (y 27), .ref (y 28), .ref (y 29), .ref (y 30), .ref (y 31), .ref (y 32), .ref (y 33), .ref (y 34), .ref (y 35), .ref (y 36), .ref (y 37), .int 0, .int 0, .ref (y 38), .long 0, .int 0, .int 0])), (y 1, .inl (ct 0, 8, .inl (upd (upd (fun _ => 0) 2 1) 3 2)))] H := hw
  refine zfr 679 [.int (-1), .int (-1)] rfl rfl ?_
  refine lv_icmp_eq (tgt := 1306) hx hb dL_law_679 (by decide) (fun _ => ?_) (fun h => absurd (by decide) h)
  exact law_end C0 hS ls (lv_sub hl [0, 4] rfl)

set_option maxHeartbeats 4000000 in
set_option maxRecDepth 100000 in
theorem law_14 {p : Program} {l : Launch} {e : Env} {s : State} {m : MethodId} {below : List Frame} {meth : Method} {c : Code} {b : Nat} {xs : Nat → Int32} (C0 : lw_At p s m meth c b 7 xs) {D : va_G} {ct : Nat → ClassId} {eE : Nat} (hK : va_K D vwCl (zT ct) s) (hN : zN s) (hZ : zZ [("END", eE)] (fun q : Nat => s.heap.size ≤ q) s s.heap) (h1 h2 h3 : Nat) (x y : Nat → Nat) (pf : Nat → Option Nat) (hpf : pf 0 = some (x 62)) (H : Heap) (locs : List Loc) (hw : zPD D (fun q : Nat => s.heap.size ≤ q) [(h1, .inr (10, [.ref (x 1), .ref (x 3), .ref (x 15), .ref (x 27), .ref (x 28), .ref (x 32), .ref (x 36), .ref (x 37), .ref (x 48), .ref (x 54), .ref (x 60), .ref (x 61), .ref (x 68), .int 0, .int 0])), (x 3, .inr (2, [.ref (x 4), .ref (x 5), .ref (x 6), .ref (x 7), .ref (x 8), .ref (x 9), .ref (x 10), .ref (x 11), .ref (x 12), .int 0, .int 0, .int 1, .int 2])), (h2, .inr (11, [.int 0, .int 0, .ref (y 0), .int 0, .int 0, .int 0, .int 0, .long 0, .int 0, .int 0, .ref (y 1), .ref (y 2), .ref (y 3), .ref (y 4), .ref (y 5), .ref (y 6), .ref (y 7), .ref (y 8), .ref (y 9), .ref (y 10), .ref (y 11), .ref (y 12), .int 0, .int 0, .ref (y 13), .ref (y 14), .ref (y 15), .ref (y 16), .ref (y 17), .ref (y 18), .ref (y 19), .ref (y 20), .ref (y 21), .ref (y 22), .ref (y 23), .ref (y 24), .int 0, .long 0, .ref (y 25), .ref (y 26), .ref (y 27), .ref (y 28), .ref (y 29), .ref (y 30), .ref (y 31), .ref (y 32), .ref (y 33), .ref (y 34), .ref (y 35), .ref (y 36), .ref (y 37), .int 0, .int 0, .ref (y 38), .long 0, .int 0, .int 0])), (y 1, .inl (ct 0, 8, .inl (upd (upd (fun _ => 0) 2 1) 3 2)))] H) (hS : va_S (fun q : Nat => s.heap.size ≤ q) s.heap H locs) (ls : Array Slot) (hl : lv_has ls 7 [(4, .int 0), (3, .ref h3), (2, .ref h2), (1, .ref h1), (0, .ref b)]) : W p l e room_1 s m #[Value.ref b] below meth c H locs 248 10101 (lw_Z below #[Value.ref b] s) (F0 m 684 ls []) := by
  obtain ⟨hx, hb, hr, hml, hown, hts, hX, hbl, hlocks, hgv⟩ := id C0
  have hown : s.vm.findClass RL = some m.cls := hown
  have htl : ∀ w ∈ wsL_law0, w.before #[Value.ref b] s = true := fun w h => hts w (wsL_law_in0 w h)
  have hA : ∀ q : Nat, s.heap.size ≤ q → (fun q : Nat => s.heap.size ≤ q) q := fun _ h => h
  have hbA : ¬ (fun q : Nat => s.heap.size ≤ q) b := Nat.not_le.mpr hbl
  refine lv_aload_n hx hb dL_law_684 rfl (lv_at hl 3 rfl) ?_
  refine lv_aload_n hx hb dL_law_685 rfl (lv_at hl 4 rfl) ?_
  refine lv_iload hx hb dL_law_686 (lv_at hl 0 rfl) ?_
  refine lv_iconst (v := 1) hx hb dL_law_688 (by decide) ?_
  refine lv_iadd hx hb dL_law_689 ?_
  refine ztop (.int 1) (congrArg Value.int (by decide)) ?_
  refine va_sld hx hb hX hbl hbA hS (zix (k := 1) (by decide) (by decide) (by decide)).1 dL_law_690 ?_
  refine ztop (.int (xs 1)) (congrArg Value.int (congrArg xs (by decide))) ?_
  refine zcall2 (va_runV (As := [.int (xs 1)]) (rest := []) ⟨hx, hb, hml, hown, htl⟩ (k_round l D ct h1 x (xs 1) H.size) (cwV 1 htl gL_law_X11_round rfl rfl rfl (by decide +kernel) ⟨Nat.le_of_ble_eq_true rfl, Nat.le_of_ble_eq_true rfl⟩) (zpreV hK hw hS hA zZ.nil hN [0, 1] rfl rfl 10 0 rfl rfl) rfl rfl hl.1 rfl (lv_room (Nat.le_of_ble_eq_true rfl)) dL_law_691 ⟨Nat.le_of_ble_eq_true rfl, Nat.le_of_ble_eq_true rfl⟩) hw hS hA [0, 1] [2, 3] rfl rfl rfl rfl (fun _ H locs hp1 hw hS => ?_)
  have hw : zPD D (fun q : Nat => s.heap.size ≤ q) [(h2, .inr (11, [.int 0, .int 0, .ref (y 0), .int 0, .int 0, .int 0, .int 0, .long 0, .int 0, .int 0, .ref (y 1), .ref (y 2), .ref (y 3), .ref (y 4), .ref (y 5), .ref (y 6), .ref (y 7), .ref (y 8), .ref (y 9), .ref (y 10), .ref (y 11), .ref (y 12), .int 0, .int 0, .ref (y 13), .ref (y 14), .ref (y 15), .ref (y 16), .ref (y 17), .ref (y 18), .ref (y 19), .ref (y 20), .ref (y 21), .ref (y 22), .ref (y 23), .ref (y 24), .int 0, .long 0, .ref (y 25), .ref (y 26), .ref (y 27), .ref (y 28), .ref (y 29), .ref (y 30), .ref (y 31), .ref (y 32), .ref (y 33), .ref (y 34), .ref (y 35), .ref (y 36), .ref (y 37), .int 0, .int 0, .ref (y 38), .long 0, .int 0, .int 0])), (y 1, .inl (ct 0, 8, .inl (upd (upd (fun _ => 0) 2 1) 3 2)))] H := hw
  refine zfr 694 [.int (-1)] rfl rfl ?_
  refine lv_aload_n hx hb dL_law_694 rfl (lv_at hl 2 rfl) ?_
  refine lv_aload_n hx hb dL_law_695 rfl (lv_at hl 4 rfl) ?_
  refine lv_iload hx hb dL_law_696 (lv_at hl 0 rfl) ?_
  refine lv_iconst (v := 1) hx hb dL_law_698 (by decide) ?_
  refine lv_iadd hx hb dL_law_699 ?_
  refine ztop (.int 1) (congrArg Value.int (by decide)) ?_
  refine va_sld hx hb hX hbl hbA hS (zix (k := 1) (by decide) (by decide) (by decide)).1 dL_law_700 ?_
  refine ztop (.int (xs 1)) (congrArg Value.int (congrArg xs (by decide))) ?_
  refine zcall2 (va_runV (As := [.int (xs 1)]) (rest := [.int (-1)]) ⟨hx, hb, hml, hown, htl⟩ (r_round l D ct h2 y (xs 1) H.size) (cwV 1 htl gL_law_X12_round rfl rfl rfl (by decide +kernel) ⟨Nat.le_of_ble_eq_true rfl, Nat.le_of_ble_eq_true rfl⟩) (zpreV hK hw hS hA zZ.nil hN [0, 1] rfl rfl 11 0 rfl rfl) rfl rfl hl.1 rfl (lv_room (Nat.le_of_ble_eq_true rfl)) dL_law_701 ⟨Nat.le_of_ble_eq_true rfl, Nat.le_of_ble_eq_true rfl⟩) hw hS hA [0, 1] [] rfl rfl rfl rfl (fun _ H locs hp2 hw hS => ?_)
  have hw : zPD D (fun q : Nat => s.heap.size ≤ q) [(h2, .inr (11, [.int 0, .int 0, .ref (y 0), .int 0, .int 0, .int 0, .int 0, .long 0, .int 0, .int 0, .ref (y 1), .ref (y 2), .ref (y 3), .ref (y 4), .ref (y 5), .ref (y 6), .ref (y 7), .ref (y 8), .ref (y 9), .ref (y 10), .ref (y 11), .ref (y 12), .int 0, .int 0, .ref (y 13), .ref (y 14), .ref (y 15), .ref (y 16), .ref (y 17), .ref (y 18), .ref (y 19), .ref (y 20), .ref (y 21), .ref (y 22), .ref (y 23), .ref (y 24), .int 0, .long 0, .ref (y 25), .ref (y 26), .ref (y 27), .ref (y 28), .ref (y 29), .ref (y 30), .ref (y 31), .ref (y 32), .ref (y 33), .ref (y 34), .ref (y 35), .ref (y 36), .ref (y 37), .int 0, .int 0, .ref (y 38), .long 0, .int 0, .int 0])), (y 1, .inl (ct 0, 8, .inl (upd (upd (fun _ => 0) 2 1) 3 2)))] H := hw
  refine zfr 704 [.int (-1), .int (-1)] rfl rfl ?_
  refine lv_icmp_eq (tgt := 1306) hx hb dL_law_704 (by decide) (fun _ => ?_) (fun h => absurd (by decide) h)
  exact law_end C0 hS ls (lv_sub hl [0, 4] rfl)

set_option maxHeartbeats 4000000 in
set_option maxRecDepth 100000 in
theorem law_15 {p : Program} {l : Launch} {e : Env} {s : State} {m : MethodId} {below : List Frame} {meth : Method} {c : Code} {b : Nat} {xs : Nat → Int32} (C0 : lw_At p s m meth c b 7 xs) {D : va_G} {ct : Nat → ClassId} {eE : Nat} (hK : va_K D vwCl (zT ct) s) (hN : zN s) (hZ : zZ [("END", eE)] (fun q : Nat => s.heap.size ≤ q) s s.heap) (h1 h2 h3 : Nat) (x y : Nat → Nat) (pf : Nat → Option Nat) (hpf : pf 0 = some (x 62)) (H : Heap) (locs : List Loc) (hw : zPD D (fun q : Nat => s.heap.size ≤ q) [(h1, .inr (10, [.ref (x 1), .ref (x 3), .ref (x 15), .ref (x 27), .ref (x 28), .ref (x 32), .ref (x 36), .ref (x 37), .ref (x 48), .ref (x 54), .ref (x 60), .ref (x 61), .ref (x 68), .int 0, .int 0])), (x 3, .inr (2, [.ref (x 4), .ref (x 5), .ref (x 6), .ref (x 7), .ref (x 8), .ref (x 9), .ref (x 10), .ref (x 11), .ref (x 12), .int 0, .int 0, .int 1, .int 2])), (h2, .inr (11, [.int 0, .int 0, .ref (y 0), .int 0, .int 0, .int 0, .int 0, .long 0, .int 0, .int 0, .ref (y 1), .ref (y 2), .ref (y 3), .ref (y 4), .ref (y 5), .ref (y 6), .ref (y 7), .ref (y 8), .ref (y 9), .ref (y 10), .ref (y 11), .ref (y 12), .int 0, .int 0, .ref (y 13), .ref (y 14), .ref (y 15), .ref (y 16), .ref (y 17), .ref (y 18), .ref (y 19), .ref (y 20), .ref (y 21), .ref (y 22), .ref (y 23), .ref (y 24), .int 0, .long 0, .ref (y 25), .ref (y 26), .ref (y 27), .ref (y 28), .ref (y 29), .ref (y 30), .ref (y 31), .ref (y 32), .ref (y 33), .ref (y 34), .ref (y 35), .ref (y 36), .ref (y 37), .int 0, .int 0, .ref (y 38), .long 0, .int 0, .int 0])), (y 1, .inl (ct 0, 8, .inl (upd (upd (fun _ => 0) 2 1) 3 2)))] H) (hS : va_S (fun q : Nat => s.heap.size ≤ q) s.heap H locs) (ls : Array Slot) (hl : lv_has ls 7 [(4, .int 0), (3, .ref h3), (2, .ref h2), (1, .ref h1), (0, .ref b)]) : W p l e room_1 s m #[Value.ref b] below meth c H locs 248 10101 (lw_Z below #[Value.ref b] s) (F0 m 709 ls []) := by
  obtain ⟨hx, hb, hr, hml, hown, hts, hX, hbl, hlocks, hgv⟩ := id C0
  have hown : s.vm.findClass RL = some m.cls := hown
  have htl : ∀ w ∈ wsL_law0, w.before #[Value.ref b] s = true := fun w h => hts w (wsL_law_in0 w h)
  have hA : ∀ q : Nat, s.heap.size ≤ q → (fun q : Nat => s.heap.size ≤ q) q := fun _ h => h
  have hbA : ¬ (fun q : Nat => s.heap.size ≤ q) b := Nat.not_le.mpr hbl
  refine lv_aload_n hx hb dL_law_709 rfl (lv_at hl 3 rfl) ?_
  refine lv_aload_n hx hb dL_law_710 rfl (lv_at hl 4 rfl) ?_
  refine lv_iload hx hb dL_law_711 (lv_at hl 0 rfl) ?_
  refine lv_iconst (v := 1) hx hb dL_law_713 (by decide) ?_
  refine lv_iadd hx hb dL_law_714 ?_
  refine ztop (.int 1) (congrArg Value.int (by decide)) ?_
  refine va_sld hx hb hX hbl hbA hS (zix (k := 1) (by decide) (by decide) (by decide)).1 dL_law_715 ?_
  refine ztop (.int (xs 1)) (congrArg Value.int (congrArg xs (by decide))) ?_
  refine lv_aload_n hx hb dL_law_716 rfl (lv_at hl 4 rfl) ?_
  refine lv_iload hx hb dL_law_717 (lv_at hl 0 rfl) ?_
  refine lv_iconst (v := 2) hx hb dL_law_719 (by decide) ?_
  refine lv_iadd hx hb dL_law_720 ?_
  refine ztop (.int 2) (congrArg Value.int (by decide)) ?_
  refine va_sld hx hb hX hbl hbA hS (zix (k := 2) (by decide) (by decide) (by decide)).1 dL_law_721 ?_
  refine ztop (.int (xs 2)) (congrArg Value.int (congrArg xs (by decide))) ?_
  refine zcall2 (va_runV (As := [.int (xs 1), .int (xs 2)]) (rest := []) ⟨hx, hb, hml, hown, htl⟩ (k_need l D ct h1 x (xs 1) (xs 2) H.size) (cwV 2 htl gL_law_X11_need rfl rfl rfl (by decide +kernel) ⟨Nat.le_of_ble_eq_true rfl, Nat.le_of_ble_eq_true rfl⟩) (zpreV hK hw hS hA zZ.nil hN [0, 1] rfl rfl 10 0 rfl rfl) rfl rfl hl.1 rfl (lv_room (Nat.le_of_ble_eq_true rfl)) dL_law_722 ⟨Nat.le_of_ble_eq_true rfl, Nat.le_of_ble_eq_true rfl⟩) hw hS hA [0, 1] [2, 3] rfl rfl rfl rfl (fun _ H locs hp1 hw hS => ?_)
  have hw : zPD D (fun q : Nat => s.heap.size ≤ q) [(h2, .inr (11, [.int 0, .int 0, .ref (y 0), .int 0, .int 0, .int 0, .int 0, .long 0, .int 0, .int 0, .ref (y 1), .ref (y 2), .ref (y 3), .ref (y 4), .ref (y 5), .ref (y 6), .ref (y 7), .ref (y 8), .ref (y 9), .ref (y 10), .ref (y 11), .ref (y 12), .int 0, .int 0, .ref (y 13), .ref (y 14), .ref (y 15), .ref (y 16), .ref (y 17), .ref (y 18), .ref (y 19), .ref (y 20), .ref (y 21), .ref (y 22), .ref (y 23), .ref (y 24), .int 0, .long 0, .ref (y 25), .ref (y 26), .ref (y 27), .ref (y 28), .ref (y 29), .ref (y 30), .ref (y 31), .ref (y 32), .ref (y 33), .ref (y 34), .ref (y 35), .ref (y 36), .ref (y 37), .int 0, .int 0, .ref (y 38), .long 0, .int 0, .int 0])), (y 1, .inl (ct 0, 8, .inl (upd (upd (fun _ => 0) 2 1) 3 2)))] H := hw
  refine zfr 725 [.int (-1)] rfl rfl ?_
  refine lv_aload_n hx hb dL_law_725 rfl (lv_at hl 2 rfl) ?_
  refine lv_aload_n hx hb dL_law_726 rfl (lv_at hl 4 rfl) ?_
  refine lv_iload hx hb dL_law_727 (lv_at hl 0 rfl) ?_
  refine lv_iconst (v := 1) hx hb dL_law_729 (by decide) ?_
  refine lv_iadd hx hb dL_law_730 ?_
  refine ztop (.int 1) (congrArg Value.int (by decide)) ?_
  refine va_sld hx hb hX hbl hbA hS (zix (k := 1) (by decide) (by decide) (by decide)).1 dL_law_731 ?_
  refine ztop (.int (xs 1)) (congrArg Value.int (congrArg xs (by decide))) ?_
  refine lv_aload_n hx hb dL_law_732 rfl (lv_at hl 4 rfl) ?_
  refine lv_iload hx hb dL_law_733 (lv_at hl 0 rfl) ?_
  refine lv_iconst (v := 2) hx hb dL_law_735 (by decide) ?_
  refine lv_iadd hx hb dL_law_736 ?_
  refine ztop (.int 2) (congrArg Value.int (by decide)) ?_
  refine va_sld hx hb hX hbl hbA hS (zix (k := 2) (by decide) (by decide) (by decide)).1 dL_law_737 ?_
  refine ztop (.int (xs 2)) (congrArg Value.int (congrArg xs (by decide))) ?_
  refine zcall2 (va_runV (As := [.int (xs 1), .int (xs 2)]) (rest := [.int (-1)]) ⟨hx, hb, hml, hown, htl⟩ (r_need l D ct h2 y (xs 1) (xs 2) H.size) (cwV 2 htl gL_law_X12_need rfl rfl rfl (by decide +kernel) ⟨Nat.le_of_ble_eq_true rfl, Nat.le_of_ble_eq_true rfl⟩) (zpreV hK hw hS hA zZ.nil hN [0, 1] rfl rfl 11 0 rfl rfl) rfl rfl hl.1 rfl (lv_room (Nat.le_of_ble_eq_true rfl)) dL_law_738 ⟨Nat.le_of_ble_eq_true rfl, Nat.le_of_ble_eq_true rfl⟩) hw hS hA [0, 1] [] rfl rfl rfl rfl (fun _ H locs hp2 hw hS => ?_)
  have hw : zPD D (fun q : Nat => s.heap.size ≤ q) [(h2, .inr (11, [.int 0, .int 0, .ref (y 0), .int 0, .int 0, .int 0, .int 0, .long 0, .int 0, .int 0, .ref (y 1), .ref (y 2), .ref (y 3), .ref (y 4), .ref (y 5), .ref (y 6), .ref (y 7), .ref (y 8), .ref (y 9), .ref (y 10), .ref (y 11), .ref (y 12), .int 0, .int 0, .ref (y 13), .ref (y 14), .ref (y 15), .ref (y 16), .ref (y 17), .ref (y 18), .ref (y 19), .ref (y 20), .ref (y 21), .ref (y 22), .ref (y 23), .ref (y 24), .int 0, .long 0, .ref (y 25), .ref (y 26), .ref (y 27), .ref (y 28), .ref (y 29), .ref (y 30), .ref (y 31), .ref (y 32), .ref (y 33), .ref (y 34), .ref (y 35), .ref (y 36), .ref (y 37), .int 0, .int 0, .ref (y 38), .long 0, .int 0, .int 0])), (y 1, .inl (ct 0, 8, .inl (upd (upd (fun _ => 0) 2 1) 3 2)))] H := hw
  refine zfr 741 [.int (-1), .int (-1)] rfl rfl ?_
  refine lv_icmp_eq (tgt := 1306) hx hb dL_law_741 (by decide) (fun _ => ?_) (fun h => absurd (by decide) h)
  exact law_end C0 hS ls (lv_sub hl [0, 4] rfl)

set_option maxHeartbeats 4000000 in
set_option maxRecDepth 100000 in
theorem law_16 {p : Program} {l : Launch} {e : Env} {s : State} {m : MethodId} {below : List Frame} {meth : Method} {c : Code} {b : Nat} {xs : Nat → Int32} (C0 : lw_At p s m meth c b 7 xs) {D : va_G} {ct : Nat → ClassId} {eE : Nat} (hK : va_K D vwCl (zT ct) s) (hN : zN s) (hZ : zZ [("END", eE)] (fun q : Nat => s.heap.size ≤ q) s s.heap) (h1 h2 h3 : Nat) (x y : Nat → Nat) (pf : Nat → Option Nat) (hpf : pf 0 = some (x 62)) (H : Heap) (locs : List Loc) (hw : zPD D (fun q : Nat => s.heap.size ≤ q) [(h1, .inr (10, [.ref (x 1), .ref (x 3), .ref (x 15), .ref (x 27), .ref (x 28), .ref (x 32), .ref (x 36), .ref (x 37), .ref (x 48), .ref (x 54), .ref (x 60), .ref (x 61), .ref (x 68), .int 0, .int 0])), (x 3, .inr (2, [.ref (x 4), .ref (x 5), .ref (x 6), .ref (x 7), .ref (x 8), .ref (x 9), .ref (x 10), .ref (x 11), .ref (x 12), .int 0, .int 0, .int 1, .int 2])), (h2, .inr (11, [.int 0, .int 0, .ref (y 0), .int 0, .int 0, .int 0, .int 0, .long 0, .int 0, .int 0, .ref (y 1), .ref (y 2), .ref (y 3), .ref (y 4), .ref (y 5), .ref (y 6), .ref (y 7), .ref (y 8), .ref (y 9), .ref (y 10), .ref (y 11), .ref (y 12), .int 0, .int 0, .ref (y 13), .ref (y 14), .ref (y 15), .ref (y 16), .ref (y 17), .ref (y 18), .ref (y 19), .ref (y 20), .ref (y 21), .ref (y 22), .ref (y 23), .ref (y 24), .int 0, .long 0, .ref (y 25), .ref (y 26), .ref (y 27), .ref (y 28), .ref (y 29), .ref (y 30), .ref (y 31), .ref (y 32), .ref (y 33), .ref (y 34), .ref (y 35), .ref (y 36), .ref (y 37), .int 0, .int 0, .ref (y 38), .long 0, .int 0, .int 0])), (y 1, .inl (ct 0, 8, .inl (upd (upd (fun _ => 0) 2 1) 3 2)))] H) (hS : va_S (fun q : Nat => s.heap.size ≤ q) s.heap H locs) (ls : Array Slot) (hl : lv_has ls 7 [(4, .int 0), (3, .ref h3), (2, .ref h2), (1, .ref h1), (0, .ref b)]) : W p l e room_1 s m #[Value.ref b] below meth c H locs 248 10101 (lw_Z below #[Value.ref b] s) (F0 m 746 ls []) := by
  obtain ⟨hx, hb, hr, hml, hown, hts, hX, hbl, hlocks, hgv⟩ := id C0
  have hown : s.vm.findClass RL = some m.cls := hown
  have htl : ∀ w ∈ wsL_law0, w.before #[Value.ref b] s = true := fun w h => hts w (wsL_law_in0 w h)
  have hA : ∀ q : Nat, s.heap.size ≤ q → (fun q : Nat => s.heap.size ≤ q) q := fun _ h => h
  have hbA : ¬ (fun q : Nat => s.heap.size ≤ q) b := Nat.not_le.mpr hbl
  refine lv_aload_n hx hb dL_law_746 rfl (lv_at hl 3 rfl) ?_
  refine lv_aload_n hx hb dL_law_747 rfl (lv_at hl 4 rfl) ?_
  refine lv_iload hx hb dL_law_748 (lv_at hl 0 rfl) ?_
  refine lv_iconst (v := 1) hx hb dL_law_750 (by decide) ?_
  refine lv_iadd hx hb dL_law_751 ?_
  refine ztop (.int 1) (congrArg Value.int (by decide)) ?_
  refine va_sld hx hb hX hbl hbA hS (zix (k := 1) (by decide) (by decide) (by decide)).1 dL_law_752 ?_
  refine ztop (.int (xs 1)) (congrArg Value.int (congrArg xs (by decide))) ?_
  refine lv_aload_n hx hb dL_law_753 rfl (lv_at hl 4 rfl) ?_
  refine lv_iload hx hb dL_law_754 (lv_at hl 0 rfl) ?_
  refine lv_iconst (v := 2) hx hb dL_law_756 (by decide) ?_
  refine lv_iadd hx hb dL_law_757 ?_
  refine ztop (.int 2) (congrArg Value.int (by decide)) ?_
  refine va_sld hx hb hX hbl hbA hS (zix (k := 2) (by decide) (by decide) (by decide)).1 dL_law_758 ?_
  refine ztop (.int (xs 2)) (congrArg Value.int (congrArg xs (by decide))) ?_
  refine zcall2 (va_runV (As := [.int (xs 1), .int (xs 2)]) (rest := []) ⟨hx, hb, hml, hown, htl⟩ (k_guide l D ct h1 x (xs 1) (xs 2) H.size) (cwV 2 htl gL_law_X11_guide rfl rfl rfl (by decide +kernel) ⟨Nat.le_of_ble_eq_true rfl, Nat.le_of_ble_eq_true rfl⟩) (zpreV hK hw hS hA zZ.nil hN [0, 1] rfl rfl 10 0 rfl rfl) rfl rfl hl.1 rfl (lv_room (Nat.le_of_ble_eq_true rfl)) dL_law_759 ⟨Nat.le_of_ble_eq_true rfl, Nat.le_of_ble_eq_true rfl⟩) hw hS hA [0, 1] [2, 3] rfl rfl rfl rfl (fun _ H locs hp1 hw hS => ?_)
  have hw : zPD D (fun q : Nat => s.heap.size ≤ q) [(h2, .inr (11, [.int 0, .int 0, .ref (y 0), .int 0, .int 0, .int 0, .int 0, .long 0, .int 0, .int 0, .ref (y 1), .ref (y 2), .ref (y 3), .ref (y 4), .ref (y 5), .ref (y 6), .ref (y 7), .ref (y 8), .ref (y 9), .ref (y 10), .ref (y 11), .ref (y 12), .int 0, .int 0, .ref (y 13), .ref (y 14), .ref (y 15), .ref (y 16), .ref (y 17), .ref (y 18), .ref (y 19), .ref (y 20), .ref (y 21), .ref (y 22), .ref (y 23), .ref (y 24), .int 0, .long 0, .ref (y 25), .ref (y 26), .ref (y 27), .ref (y 28), .ref (y 29), .ref (y 30), .ref (y 31), .ref (y 32), .ref (y 33), .ref (y 34), .ref (y 35), .ref (y 36), .ref (y 37), .int 0, .int 0, .ref (y 38), .long 0, .int 0, .int 0])), (y 1, .inl (ct 0, 8, .inl (upd (upd (fun _ => 0) 2 1) 3 2)))] H := hw
  refine zfr 762 [.int (-1)] rfl rfl ?_
  refine lv_aload_n hx hb dL_law_762 rfl (lv_at hl 2 rfl) ?_
  refine lv_aload_n hx hb dL_law_763 rfl (lv_at hl 4 rfl) ?_
  refine lv_iload hx hb dL_law_764 (lv_at hl 0 rfl) ?_
  refine lv_iconst (v := 1) hx hb dL_law_766 (by decide) ?_
  refine lv_iadd hx hb dL_law_767 ?_
  refine ztop (.int 1) (congrArg Value.int (by decide)) ?_
  refine va_sld hx hb hX hbl hbA hS (zix (k := 1) (by decide) (by decide) (by decide)).1 dL_law_768 ?_
  refine ztop (.int (xs 1)) (congrArg Value.int (congrArg xs (by decide))) ?_
  refine lv_aload_n hx hb dL_law_769 rfl (lv_at hl 4 rfl) ?_
  refine lv_iload hx hb dL_law_770 (lv_at hl 0 rfl) ?_
  refine lv_iconst (v := 2) hx hb dL_law_772 (by decide) ?_
  refine lv_iadd hx hb dL_law_773 ?_
  refine ztop (.int 2) (congrArg Value.int (by decide)) ?_
  refine va_sld hx hb hX hbl hbA hS (zix (k := 2) (by decide) (by decide) (by decide)).1 dL_law_774 ?_
  refine ztop (.int (xs 2)) (congrArg Value.int (congrArg xs (by decide))) ?_
  refine zcall2 (va_runV (As := [.int (xs 1), .int (xs 2)]) (rest := [.int (-1)]) ⟨hx, hb, hml, hown, htl⟩ (r_guide l D ct h2 y (xs 1) (xs 2) H.size) (cwV 2 htl gL_law_X12_guide rfl rfl rfl (by decide +kernel) ⟨Nat.le_of_ble_eq_true rfl, Nat.le_of_ble_eq_true rfl⟩) (zpreV hK hw hS hA zZ.nil hN [0, 1] rfl rfl 11 0 rfl rfl) rfl rfl hl.1 rfl (lv_room (Nat.le_of_ble_eq_true rfl)) dL_law_775 ⟨Nat.le_of_ble_eq_true rfl, Nat.le_of_ble_eq_true rfl⟩) hw hS hA [0, 1] [] rfl rfl rfl rfl (fun _ H locs hp2 hw hS => ?_)
  have hw : zPD D (fun q : Nat => s.heap.size ≤ q) [(h2, .inr (11, [.int 0, .int 0, .ref (y 0), .int 0, .int 0, .int 0, .int 0, .long 0, .int 0, .int 0, .ref (y 1), .ref (y 2), .ref (y 3), .ref (y 4), .ref (y 5), .ref (y 6), .ref (y 7), .ref (y 8), .ref (y 9), .ref (y 10), .ref (y 11), .ref (y 12), .int 0, .int 0, .ref (y 13), .ref (y 14), .ref (y 15), .ref (y 16), .ref (y 17), .ref (y 18), .ref (y 19), .ref (y 20), .ref (y 21), .ref (y 22), .ref (y 23), .ref (y 24), .int 0, .long 0, .ref (y 25), .ref (y 26), .ref (y 27), .ref (y 28), .ref (y 29), .ref (y 30), .ref (y 31), .ref (y 32), .ref (y 33), .ref (y 34), .ref (y 35), .ref (y 36), .ref (y 37), .int 0, .int 0, .ref (y 38), .long 0, .int 0, .int 0])), (y 1, .inl (ct 0, 8, .inl (upd (upd (fun _ => 0) 2 1) 3 2)))] H := hw
  refine zfr 778 [.int (-1), .int (-1)] rfl rfl ?_
  refine lv_icmp_eq (tgt := 1306) hx hb dL_law_778 (by decide) (fun _ => ?_) (fun h => absurd (by decide) h)
  exact law_end C0 hS ls (lv_sub hl [0, 4] rfl)

set_option maxHeartbeats 4000000 in
set_option maxRecDepth 100000 in
theorem law_17 {p : Program} {l : Launch} {e : Env} {s : State} {m : MethodId} {below : List Frame} {meth : Method} {c : Code} {b : Nat} {xs : Nat → Int32} (C0 : lw_At p s m meth c b 7 xs) {D : va_G} {ct : Nat → ClassId} {eE : Nat} (hK : va_K D vwCl (zT ct) s) (hN : zN s) (hZ : zZ [("END", eE)] (fun q : Nat => s.heap.size ≤ q) s s.heap) (h1 h2 h3 : Nat) (x y : Nat → Nat) (pf : Nat → Option Nat) (hpf : pf 0 = some (x 62)) (H : Heap) (locs : List Loc) (hw : zPD D (fun q : Nat => s.heap.size ≤ q) [(h1, .inr (10, [.ref (x 1), .ref (x 3), .ref (x 15), .ref (x 27), .ref (x 28), .ref (x 32), .ref (x 36), .ref (x 37), .ref (x 48), .ref (x 54), .ref (x 60), .ref (x 61), .ref (x 68), .int 0, .int 0])), (x 3, .inr (2, [.ref (x 4), .ref (x 5), .ref (x 6), .ref (x 7), .ref (x 8), .ref (x 9), .ref (x 10), .ref (x 11), .ref (x 12), .int 0, .int 0, .int 1, .int 2])), (h2, .inr (11, [.int 0, .int 0, .ref (y 0), .int 0, .int 0, .int 0, .int 0, .long 0, .int 0, .int 0, .ref (y 1), .ref (y 2), .ref (y 3), .ref (y 4), .ref (y 5), .ref (y 6), .ref (y 7), .ref (y 8), .ref (y 9), .ref (y 10), .ref (y 11), .ref (y 12), .int 0, .int 0, .ref (y 13), .ref (y 14), .ref (y 15), .ref (y 16), .ref (y 17), .ref (y 18), .ref (y 19), .ref (y 20), .ref (y 21), .ref (y 22), .ref (y 23), .ref (y 24), .int 0, .long 0, .ref (y 25), .ref (y 26), .ref (y 27), .ref (y 28), .ref (y 29), .ref (y 30), .ref (y 31), .ref (y 32), .ref (y 33), .ref (y 34), .ref (y 35), .ref (y 36), .ref (y 37), .int 0, .int 0, .ref (y 38), .long 0, .int 0, .int 0])), (y 1, .inl (ct 0, 8, .inl (upd (upd (fun _ => 0) 2 1) 3 2)))] H) (hS : va_S (fun q : Nat => s.heap.size ≤ q) s.heap H locs) (ls : Array Slot) (hl : lv_has ls 7 [(4, .int 0), (3, .ref h3), (2, .ref h2), (1, .ref h1), (0, .ref b)]) : W p l e room_1 s m #[Value.ref b] below meth c H locs 248 10101 (lw_Z below #[Value.ref b] s) (F0 m 783 ls []) := by
  obtain ⟨hx, hb, hr, hml, hown, hts, hX, hbl, hlocks, hgv⟩ := id C0
  have hown : s.vm.findClass RL = some m.cls := hown
  have htl : ∀ w ∈ wsL_law0, w.before #[Value.ref b] s = true := fun w h => hts w (wsL_law_in0 w h)
  have hA : ∀ q : Nat, s.heap.size ≤ q → (fun q : Nat => s.heap.size ≤ q) q := fun _ h => h
  have hbA : ¬ (fun q : Nat => s.heap.size ≤ q) b := Nat.not_le.mpr hbl
  refine lv_aload_n hx hb dL_law_783 rfl (lv_at hl 3 rfl) ?_
  refine lv_aload_n hx hb dL_law_784 rfl (lv_at hl 4 rfl) ?_
  refine lv_iload hx hb dL_law_785 (lv_at hl 0 rfl) ?_
  refine lv_iconst (v := 1) hx hb dL_law_787 (by decide) ?_
  refine lv_iadd hx hb dL_law_788 ?_
  refine ztop (.int 1) (congrArg Value.int (by decide)) ?_
  refine va_sld hx hb hX hbl hbA hS (zix (k := 1) (by decide) (by decide) (by decide)).1 dL_law_789 ?_
  refine ztop (.int (xs 1)) (congrArg Value.int (congrArg xs (by decide))) ?_
  refine zcall2 (va_runV (As := [.int (xs 1)]) (rest := []) ⟨hx, hb, hml, hown, htl⟩ (k_cheapest l D ct h1 x (xs 1) H.size) (cwV 1 htl gL_law_X11_cheapest rfl rfl rfl (by decide +kernel) ⟨Nat.le_of_ble_eq_true rfl, Nat.le_of_ble_eq_true rfl⟩) (zpreV hK hw hS hA zZ.nil hN [0, 1] rfl rfl 10 0 rfl rfl) rfl rfl hl.1 rfl (lv_room (Nat.le_of_ble_eq_true rfl)) dL_law_790 ⟨Nat.le_of_ble_eq_true rfl, Nat.le_of_ble_eq_true rfl⟩) hw hS hA [0, 1] [2, 3] rfl rfl rfl rfl (fun _ H locs hp1 hw hS => ?_)
  have hw : zPD D (fun q : Nat => s.heap.size ≤ q) [(h2, .inr (11, [.int 0, .int 0, .ref (y 0), .int 0, .int 0, .int 0, .int 0, .long 0, .int 0, .int 0, .ref (y 1), .ref (y 2), .ref (y 3), .ref (y 4), .ref (y 5), .ref (y 6), .ref (y 7), .ref (y 8), .ref (y 9), .ref (y 10), .ref (y 11), .ref (y 12), .int 0, .int 0, .ref (y 13), .ref (y 14), .ref (y 15), .ref (y 16), .ref (y 17), .ref (y 18), .ref (y 19), .ref (y 20), .ref (y 21), .ref (y 22), .ref (y 23), .ref (y 24), .int 0, .long 0, .ref (y 25), .ref (y 26), .ref (y 27), .ref (y 28), .ref (y 29), .ref (y 30), .ref (y 31), .ref (y 32), .ref (y 33), .ref (y 34), .ref (y 35), .ref (y 36), .ref (y 37), .int 0, .int 0, .ref (y 38), .long 0, .int 0, .int 0])), (y 1, .inl (ct 0, 8, .inl (upd (upd (fun _ => 0) 2 1) 3 2)))] H := hw
  refine zfr 793 [.int (-1)] rfl rfl ?_
  refine lv_aload_n hx hb dL_law_793 rfl (lv_at hl 2 rfl) ?_
  refine lv_aload_n hx hb dL_law_794 rfl (lv_at hl 4 rfl) ?_
  refine lv_iload hx hb dL_law_795 (lv_at hl 0 rfl) ?_
  refine lv_iconst (v := 1) hx hb dL_law_797 (by decide) ?_
  refine lv_iadd hx hb dL_law_798 ?_
  refine ztop (.int 1) (congrArg Value.int (by decide)) ?_
  refine va_sld hx hb hX hbl hbA hS (zix (k := 1) (by decide) (by decide) (by decide)).1 dL_law_799 ?_
  refine ztop (.int (xs 1)) (congrArg Value.int (congrArg xs (by decide))) ?_
  refine zcall2 (va_runV (As := [.int (xs 1)]) (rest := [.int (-1)]) ⟨hx, hb, hml, hown, htl⟩ (r_cheapest l D ct h2 y (xs 1) H.size) (cwV 1 htl gL_law_X12_cheapest rfl rfl rfl (by decide +kernel) ⟨Nat.le_of_ble_eq_true rfl, Nat.le_of_ble_eq_true rfl⟩) (zpreV hK hw hS hA zZ.nil hN [0, 1] rfl rfl 11 0 rfl rfl) rfl rfl hl.1 rfl (lv_room (Nat.le_of_ble_eq_true rfl)) dL_law_800 ⟨Nat.le_of_ble_eq_true rfl, Nat.le_of_ble_eq_true rfl⟩) hw hS hA [0, 1] [] rfl rfl rfl rfl (fun _ H locs hp2 hw hS => ?_)
  have hw : zPD D (fun q : Nat => s.heap.size ≤ q) [(h2, .inr (11, [.int 0, .int 0, .ref (y 0), .int 0, .int 0, .int 0, .int 0, .long 0, .int 0, .int 0, .ref (y 1), .ref (y 2), .ref (y 3), .ref (y 4), .ref (y 5), .ref (y 6), .ref (y 7), .ref (y 8), .ref (y 9), .ref (y 10), .ref (y 11), .ref (y 12), .int 0, .int 0, .ref (y 13), .ref (y 14), .ref (y 15), .ref (y 16), .ref (y 17), .ref (y 18), .ref (y 19), .ref (y 20), .ref (y 21), .ref (y 22), .ref (y 23), .ref (y 24), .int 0, .long 0, .ref (y 25), .ref (y 26), .ref (y 27), .ref (y 28), .ref (y 29), .ref (y 30), .ref (y 31), .ref (y 32), .ref (y 33), .ref (y 34), .ref (y 35), .ref (y 36), .ref (y 37), .int 0, .int 0, .ref (y 38), .long 0, .int 0, .int 0])), (y 1, .inl (ct 0, 8, .inl (upd (upd (fun _ => 0) 2 1) 3 2)))] H := hw
  refine zfr 803 [.int (-1), .int (-1)] rfl rfl ?_
  refine lv_icmp_eq (tgt := 1306) hx hb dL_law_803 (by decide) (fun _ => ?_) (fun h => absurd (by decide) h)
  exact law_end C0 hS ls (lv_sub hl [0, 4] rfl)

set_option maxHeartbeats 4000000 in
set_option maxRecDepth 100000 in
theorem law_18 {p : Program} {l : Launch} {e : Env} {s : State} {m : MethodId} {below : List Frame} {meth : Method} {c : Code} {b : Nat} {xs : Nat → Int32} (C0 : lw_At p s m meth c b 7 xs) {D : va_G} {ct : Nat → ClassId} {eE : Nat} (hK : va_K D vwCl (zT ct) s) (hN : zN s) (hZ : zZ [("END", eE)] (fun q : Nat => s.heap.size ≤ q) s s.heap) (h1 h2 h3 : Nat) (x y : Nat → Nat) (pf : Nat → Option Nat) (hpf : pf 0 = some (x 62)) (H : Heap) (locs : List Loc) (hw : zPD D (fun q : Nat => s.heap.size ≤ q) [(h1, .inr (10, [.ref (x 1), .ref (x 3), .ref (x 15), .ref (x 27), .ref (x 28), .ref (x 32), .ref (x 36), .ref (x 37), .ref (x 48), .ref (x 54), .ref (x 60), .ref (x 61), .ref (x 68), .int 0, .int 0])), (x 3, .inr (2, [.ref (x 4), .ref (x 5), .ref (x 6), .ref (x 7), .ref (x 8), .ref (x 9), .ref (x 10), .ref (x 11), .ref (x 12), .int 0, .int 0, .int 1, .int 2])), (h2, .inr (11, [.int 0, .int 0, .ref (y 0), .int 0, .int 0, .int 0, .int 0, .long 0, .int 0, .int 0, .ref (y 1), .ref (y 2), .ref (y 3), .ref (y 4), .ref (y 5), .ref (y 6), .ref (y 7), .ref (y 8), .ref (y 9), .ref (y 10), .ref (y 11), .ref (y 12), .int 0, .int 0, .ref (y 13), .ref (y 14), .ref (y 15), .ref (y 16), .ref (y 17), .ref (y 18), .ref (y 19), .ref (y 20), .ref (y 21), .ref (y 22), .ref (y 23), .ref (y 24), .int 0, .long 0, .ref (y 25), .ref (y 26), .ref (y 27), .ref (y 28), .ref (y 29), .ref (y 30), .ref (y 31), .ref (y 32), .ref (y 33), .ref (y 34), .ref (y 35), .ref (y 36), .ref (y 37), .int 0, .int 0, .ref (y 38), .long 0, .int 0, .int 0])), (y 1, .inl (ct 0, 8, .inl (upd (upd (fun _ => 0) 2 1) 3 2)))] H) (hS : va_S (fun q : Nat => s.heap.size ≤ q) s.heap H locs) (ls : Array Slot) (hl : lv_has ls 7 [(4, .int 0), (3, .ref h3), (2, .ref h2), (1, .ref h1), (0, .ref b)]) : W p l e room_1 s m #[Value.ref b] below meth c H locs 248 10101 (lw_Z below #[Value.ref b] s) (F0 m 808 ls []) := by
  obtain ⟨hx, hb, hr, hml, hown, hts, hX, hbl, hlocks, hgv⟩ := id C0
  have hown : s.vm.findClass RL = some m.cls := hown
  have htl : ∀ w ∈ wsL_law0, w.before #[Value.ref b] s = true := fun w h => hts w (wsL_law_in0 w h)
  have hA : ∀ q : Nat, s.heap.size ≤ q → (fun q : Nat => s.heap.size ≤ q) q := fun _ h => h
  have hbA : ¬ (fun q : Nat => s.heap.size ≤ q) b := Nat.not_le.mpr hbl
  refine lv_aload_n hx hb dL_law_808 rfl (lv_at hl 3 rfl) ?_
  refine lv_aload_n hx hb dL_law_809 rfl (lv_at hl 4 rfl) ?_
  refine lv_iload hx hb dL_law_810 (lv_at hl 0 rfl) ?_
  refine lv_iconst (v := 1) hx hb dL_law_812 (by decide) ?_
  refine lv_iadd hx hb dL_law_813 ?_
  refine ztop (.int 1) (congrArg Value.int (by decide)) ?_
  refine va_sld hx hb hX hbl hbA hS (zix (k := 1) (by decide) (by decide) (by decide)).1 dL_law_814 ?_
  refine ztop (.int (xs 1)) (congrArg Value.int (congrArg xs (by decide))) ?_
  refine lv_aload_n hx hb dL_law_815 rfl (lv_at hl 4 rfl) ?_
  refine lv_iload hx hb dL_law_816 (lv_at hl 0 rfl) ?_
  refine lv_iconst (v := 2) hx hb dL_law_818 (by decide) ?_
  refine lv_iadd hx hb dL_law_819 ?_
  refine ztop (.int 2) (congrArg Value.int (by decide)) ?_
  refine va_sld hx hb hX hbl hbA hS (zix (k := 2) (by decide) (by decide) (by decide)).1 dL_law_820 ?_
  refine ztop (.int (xs 2)) (congrArg Value.int (congrArg xs (by decide))) ?_
  refine zcall2 (va_runV (As := [.int (xs 1), .int (xs 2)]) (rest := []) ⟨hx, hb, hml, hown, htl⟩ (k_debt l D ct h1 x (xs 1) (xs 2) H.size) (cwV 2 htl gL_law_X11_debt rfl rfl rfl (by decide +kernel) ⟨Nat.le_of_ble_eq_true rfl, Nat.le_of_ble_eq_true rfl⟩) (zpreV hK hw hS hA zZ.nil hN [0, 1] rfl rfl 10 0 rfl rfl) rfl rfl hl.1 rfl (lv_room (Nat.le_of_ble_eq_true rfl)) dL_law_821 ⟨Nat.le_of_ble_eq_true rfl, Nat.le_of_ble_eq_true rfl⟩) hw hS hA [0, 1] [2, 3] rfl rfl rfl rfl (fun _ H locs hp1 hw hS => ?_)
  have hw : zPD D (fun q : Nat => s.heap.size ≤ q) [(h2, .inr (11, [.int 0, .int 0, .ref (y 0), .int 0, .int 0, .int 0, .int 0, .long 0, .int 0, .int 0, .ref (y 1), .ref (y 2), .ref (y 3), .ref (y 4), .ref (y 5), .ref (y 6), .ref (y 7), .ref (y 8), .ref (y 9), .ref (y 10), .ref (y 11), .ref (y 12), .int 0, .int 0, .ref (y 13), .ref (y 14), .ref (y 15), .ref (y 16), .ref (y 17), .ref (y 18), .ref (y 19), .ref (y 20), .ref (y 21), .ref (y 22), .ref (y 23), .ref (y 24), .int 0, .long 0, .ref (y 25), .ref (y 26), .ref (y 27), .ref (y 28), .ref (y 29), .ref (y 30), .ref (y 31), .ref (y 32), .ref (y 33), .ref (y 34), .ref (y 35), .ref (y 36), .ref (y 37), .int 0, .int 0, .ref (y 38), .long 0, .int 0, .int 0])), (y 1, .inl (ct 0, 8, .inl (upd (upd (fun _ => 0) 2 1) 3 2)))] H := hw
  refine zfr 824 [.int (-1)] rfl rfl ?_
  refine lv_aload_n hx hb dL_law_824 rfl (lv_at hl 2 rfl) ?_
  refine lv_aload_n hx hb dL_law_825 rfl (lv_at hl 4 rfl) ?_
  refine lv_iload hx hb dL_law_826 (lv_at hl 0 rfl) ?_
  refine lv_iconst (v := 1) hx hb dL_law_828 (by decide) ?_
  refine lv_iadd hx hb dL_law_829 ?_
  refine ztop (.int 1) (congrArg Value.int (by decide)) ?_
  refine va_sld hx hb hX hbl hbA hS (zix (k := 1) (by decide) (by decide) (by decide)).1 dL_law_830 ?_
  refine ztop (.int (xs 1)) (congrArg Value.int (congrArg xs (by decide))) ?_
  refine lv_aload_n hx hb dL_law_831 rfl (lv_at hl 4 rfl) ?_
  refine lv_iload hx hb dL_law_832 (lv_at hl 0 rfl) ?_
  refine lv_iconst (v := 2) hx hb dL_law_834 (by decide) ?_
  refine lv_iadd hx hb dL_law_835 ?_
  refine ztop (.int 2) (congrArg Value.int (by decide)) ?_
  refine va_sld hx hb hX hbl hbA hS (zix (k := 2) (by decide) (by decide) (by decide)).1 dL_law_836 ?_
  refine ztop (.int (xs 2)) (congrArg Value.int (congrArg xs (by decide))) ?_
  refine zcall2 (va_runV (As := [.int (xs 1), .int (xs 2)]) (rest := [.int (-1)]) ⟨hx, hb, hml, hown, htl⟩ (r_debt l D ct h2 y (xs 1) (xs 2) H.size) (cwV 2 htl gL_law_X12_debt rfl rfl rfl (by decide +kernel) ⟨Nat.le_of_ble_eq_true rfl, Nat.le_of_ble_eq_true rfl⟩) (zpreV hK hw hS hA zZ.nil hN [0, 1] rfl rfl 11 0 rfl rfl) rfl rfl hl.1 rfl (lv_room (Nat.le_of_ble_eq_true rfl)) dL_law_837 ⟨Nat.le_of_ble_eq_true rfl, Nat.le_of_ble_eq_true rfl⟩) hw hS hA [0, 1] [] rfl rfl rfl rfl (fun _ H locs hp2 hw hS => ?_)
  have hw : zPD D (fun q : Nat => s.heap.size ≤ q) [(h2, .inr (11, [.int 0, .int 0, .ref (y 0), .int 0, .int 0, .int 0, .int 0, .long 0, .int 0, .int 0, .ref (y 1), .ref (y 2), .ref (y 3), .ref (y 4), .ref (y 5), .ref (y 6), .ref (y 7), .ref (y 8), .ref (y 9), .ref (y 10), .ref (y 11), .ref (y 12), .int 0, .int 0, .ref (y 13), .ref (y 14), .ref (y 15), .ref (y 16), .ref (y 17), .ref (y 18), .ref (y 19), .ref (y 20), .ref (y 21), .ref (y 22), .ref (y 23), .ref (y 24), .int 0, .long 0, .ref (y 25), .ref (y 26), .ref (y 27), .ref (y 28), .ref (y 29), .ref (y 30), .ref (y 31), .ref (y 32), .ref (y 33), .ref (y 34), .ref (y 35), .ref (y 36), .ref (y 37), .int 0, .int 0, .ref (y 38), .long 0, .int 0, .int 0])), (y 1, .inl (ct 0, 8, .inl (upd (upd (fun _ => 0) 2 1) 3 2)))] H := hw
  refine zfr 840 [.int (-1), .int (-1)] rfl rfl ?_
  refine lv_icmp_eq (tgt := 1306) hx hb dL_law_840 (by decide) (fun _ => ?_) (fun h => absurd (by decide) h)
  exact law_end C0 hS ls (lv_sub hl [0, 4] rfl)

set_option maxHeartbeats 4000000 in
set_option maxRecDepth 100000 in
theorem law_19 {p : Program} {l : Launch} {e : Env} {s : State} {m : MethodId} {below : List Frame} {meth : Method} {c : Code} {b : Nat} {xs : Nat → Int32} (C0 : lw_At p s m meth c b 7 xs) {D : va_G} {ct : Nat → ClassId} {eE : Nat} (hK : va_K D vwCl (zT ct) s) (hN : zN s) (hZ : zZ [("END", eE)] (fun q : Nat => s.heap.size ≤ q) s s.heap) (h1 h2 h3 : Nat) (x y : Nat → Nat) (pf : Nat → Option Nat) (hpf : pf 0 = some (x 62)) (H : Heap) (locs : List Loc) (hw : zPD D (fun q : Nat => s.heap.size ≤ q) [(h1, .inr (10, [.ref (x 1), .ref (x 3), .ref (x 15), .ref (x 27), .ref (x 28), .ref (x 32), .ref (x 36), .ref (x 37), .ref (x 48), .ref (x 54), .ref (x 60), .ref (x 61), .ref (x 68), .int 0, .int 0])), (x 3, .inr (2, [.ref (x 4), .ref (x 5), .ref (x 6), .ref (x 7), .ref (x 8), .ref (x 9), .ref (x 10), .ref (x 11), .ref (x 12), .int 0, .int 0, .int 1, .int 2])), (h2, .inr (11, [.int 0, .int 0, .ref (y 0), .int 0, .int 0, .int 0, .int 0, .long 0, .int 0, .int 0, .ref (y 1), .ref (y 2), .ref (y 3), .ref (y 4), .ref (y 5), .ref (y 6), .ref (y 7), .ref (y 8), .ref (y 9), .ref (y 10), .ref (y 11), .ref (y 12), .int 0, .int 0, .ref (y 13), .ref (y 14), .ref (y 15), .ref (y 16), .ref (y 17), .ref (y 18), .ref (y 19), .ref (y 20), .ref (y 21), .ref (y 22), .ref (y 23), .ref (y 24), .int 0, .long 0, .ref (y 25), .ref (y 26), .ref (y 27), .ref (y 28), .ref (y 29), .ref (y 30), .ref (y 31), .ref (y 32), .ref (y 33), .ref (y 34), .ref (y 35), .ref (y 36), .ref (y 37), .int 0, .int 0, .ref (y 38), .long 0, .int 0, .int 0])), (y 1, .inl (ct 0, 8, .inl (upd (upd (fun _ => 0) 2 1) 3 2)))] H) (hS : va_S (fun q : Nat => s.heap.size ≤ q) s.heap H locs) (ls : Array Slot) (hl : lv_has ls 7 [(4, .int 0), (3, .ref h3), (2, .ref h2), (1, .ref h1), (0, .ref b)]) : W p l e room_1 s m #[Value.ref b] below meth c H locs 248 10101 (lw_Z below #[Value.ref b] s) (F0 m 845 ls []) := by
  obtain ⟨hx, hb, hr, hml, hown, hts, hX, hbl, hlocks, hgv⟩ := id C0
  have hown : s.vm.findClass RL = some m.cls := hown
  have htl : ∀ w ∈ wsL_law0, w.before #[Value.ref b] s = true := fun w h => hts w (wsL_law_in0 w h)
  have hA : ∀ q : Nat, s.heap.size ≤ q → (fun q : Nat => s.heap.size ≤ q) q := fun _ h => h
  have hbA : ¬ (fun q : Nat => s.heap.size ≤ q) b := Nat.not_le.mpr hbl
  refine lv_aload_n hx hb dL_law_845 rfl (lv_at hl 3 rfl) ?_
  refine zcall2 (va_runV (As := []) (rest := []) ⟨hx, hb, hml, hown, htl⟩ (k_trapped l D ct h1 x H.size) (cwV 0 htl gL_law_X11_trapped rfl rfl rfl (by decide +kernel) ⟨Nat.le_of_ble_eq_true rfl, Nat.le_of_ble_eq_true rfl⟩) (zpreV hK hw hS hA zZ.nil hN [0, 1] rfl rfl 10 0 rfl rfl) rfl rfl hl.1 rfl (lv_room (Nat.le_of_ble_eq_true rfl)) dL_law_846 ⟨Nat.le_of_ble_eq_true rfl, Nat.le_of_ble_eq_true rfl⟩) hw hS hA [0, 1] [2, 3] rfl rfl rfl rfl (fun _ H locs hp1 hw hS => ?_)
  have hw : zPD D (fun q : Nat => s.heap.size ≤ q) [(h2, .inr (11, [.int 0, .int 0, .ref (y 0), .int 0, .int 0, .int 0, .int 0, .long 0, .int 0, .int 0, .ref (y 1), .ref (y 2), .ref (y 3), .ref (y 4), .ref (y 5), .ref (y 6), .ref (y 7), .ref (y 8), .ref (y 9), .ref (y 10), .ref (y 11), .ref (y 12), .int 0, .int 0, .ref (y 13), .ref (y 14), .ref (y 15), .ref (y 16), .ref (y 17), .ref (y 18), .ref (y 19), .ref (y 20), .ref (y 21), .ref (y 22), .ref (y 23), .ref (y 24), .int 0, .long 0, .ref (y 25), .ref (y 26), .ref (y 27), .ref (y 28), .ref (y 29), .ref (y 30), .ref (y 31), .ref (y 32), .ref (y 33), .ref (y 34), .ref (y 35), .ref (y 36), .ref (y 37), .int 0, .int 0, .ref (y 38), .long 0, .int 0, .int 0])), (y 1, .inl (ct 0, 8, .inl (upd (upd (fun _ => 0) 2 1) 3 2)))] H := hw
  refine zfr 849 [.int 0] rfl rfl ?_
  refine lv_aload_n hx hb dL_law_849 rfl (lv_at hl 2 rfl) ?_
  refine zcall2 (va_runV (As := []) (rest := [.int 0]) ⟨hx, hb, hml, hown, htl⟩ (r_trapped l D ct h2 y H.size) (cwV 0 htl gL_law_X12_trapped rfl rfl rfl (by decide +kernel) ⟨Nat.le_of_ble_eq_true rfl, Nat.le_of_ble_eq_true rfl⟩) (zpreV hK hw hS hA zZ.nil hN [0, 1] rfl rfl 11 0 rfl rfl) rfl rfl hl.1 rfl (lv_room (Nat.le_of_ble_eq_true rfl)) dL_law_850 ⟨Nat.le_of_ble_eq_true rfl, Nat.le_of_ble_eq_true rfl⟩) hw hS hA [0, 1] [] rfl rfl rfl rfl (fun _ H locs hp2 hw hS => ?_)
  have hw : zPD D (fun q : Nat => s.heap.size ≤ q) [(h2, .inr (11, [.int 0, .int 0, .ref (y 0), .int 0, .int 0, .int 0, .int 0, .long 0, .int 0, .int 0, .ref (y 1), .ref (y 2), .ref (y 3), .ref (y 4), .ref (y 5), .ref (y 6), .ref (y 7), .ref (y 8), .ref (y 9), .ref (y 10), .ref (y 11), .ref (y 12), .int 0, .int 0, .ref (y 13), .ref (y 14), .ref (y 15), .ref (y 16), .ref (y 17), .ref (y 18), .ref (y 19), .ref (y 20), .ref (y 21), .ref (y 22), .ref (y 23), .ref (y 24), .int 0, .long 0, .ref (y 25), .ref (y 26), .ref (y 27), .ref (y 28), .ref (y 29), .ref (y 30), .ref (y 31), .ref (y 32), .ref (y 33), .ref (y 34), .ref (y 35), .ref (y 36), .ref (y 37), .int 0, .int 0, .ref (y 38), .long 0, .int 0, .int 0])), (y 1, .inl (ct 0, 8, .inl (upd (upd (fun _ => 0) 2 1) 3 2)))] H := hw
  refine zfr 853 [.int 0, .int 0] rfl rfl ?_
  refine lv_icmp_eq (tgt := 1306) hx hb dL_law_853 (by decide) (fun _ => ?_) (fun h => absurd (by decide) h)
  exact law_end C0 hS ls (lv_sub hl [0, 4] rfl)

set_option maxHeartbeats 4000000 in
set_option maxRecDepth 100000 in
theorem law_20 {p : Program} {l : Launch} {e : Env} {s : State} {m : MethodId} {below : List Frame} {meth : Method} {c : Code} {b : Nat} {xs : Nat → Int32} (C0 : lw_At p s m meth c b 7 xs) {D : va_G} {ct : Nat → ClassId} {eE : Nat} (hK : va_K D vwCl (zT ct) s) (hN : zN s) (hZ : zZ [("END", eE)] (fun q : Nat => s.heap.size ≤ q) s s.heap) (h1 h2 h3 : Nat) (x y : Nat → Nat) (pf : Nat → Option Nat) (hpf : pf 0 = some (x 62)) (H : Heap) (locs : List Loc) (hw : zPD D (fun q : Nat => s.heap.size ≤ q) [(h1, .inr (10, [.ref (x 1), .ref (x 3), .ref (x 15), .ref (x 27), .ref (x 28), .ref (x 32), .ref (x 36), .ref (x 37), .ref (x 48), .ref (x 54), .ref (x 60), .ref (x 61), .ref (x 68), .int 0, .int 0])), (x 3, .inr (2, [.ref (x 4), .ref (x 5), .ref (x 6), .ref (x 7), .ref (x 8), .ref (x 9), .ref (x 10), .ref (x 11), .ref (x 12), .int 0, .int 0, .int 1, .int 2])), (h2, .inr (11, [.int 0, .int 0, .ref (y 0), .int 0, .int 0, .int 0, .int 0, .long 0, .int 0, .int 0, .ref (y 1), .ref (y 2), .ref (y 3), .ref (y 4), .ref (y 5), .ref (y 6), .ref (y 7), .ref (y 8), .ref (y 9), .ref (y 10), .ref (y 11), .ref (y 12), .int 0, .int 0, .ref (y 13), .ref (y 14), .ref (y 15), .ref (y 16), .ref (y 17), .ref (y 18), .ref (y 19), .ref (y 20), .ref (y 21), .ref (y 22), .ref (y 23), .ref (y 24), .int 0, .long 0, .ref (y 25), .ref (y 26), .ref (y 27), .ref (y 28), .ref (y 29), .ref (y 30), .ref (y 31), .ref (y 32), .ref (y 33), .ref (y 34), .ref (y 35), .ref (y 36), .ref (y 37), .int 0, .int 0, .ref (y 38), .long 0, .int 0, .int 0])), (y 1, .inl (ct 0, 8, .inl (upd (upd (fun _ => 0) 2 1) 3 2)))] H) (hS : va_S (fun q : Nat => s.heap.size ≤ q) s.heap H locs) (ls : Array Slot) (hl : lv_has ls 7 [(4, .int 0), (3, .ref h3), (2, .ref h2), (1, .ref h1), (0, .ref b)]) : W p l e room_1 s m #[Value.ref b] below meth c H locs 248 10101 (lw_Z below #[Value.ref b] s) (F0 m 858 ls []) := by
  obtain ⟨hx, hb, hr, hml, hown, hts, hX, hbl, hlocks, hgv⟩ := id C0
  have hown : s.vm.findClass RL = some m.cls := hown
  have htl : ∀ w ∈ wsL_law0, w.before #[Value.ref b] s = true := fun w h => hts w (wsL_law_in0 w h)
  have hA : ∀ q : Nat, s.heap.size ≤ q → (fun q : Nat => s.heap.size ≤ q) q := fun _ h => h
  have hbA : ¬ (fun q : Nat => s.heap.size ≤ q) b := Nat.not_le.mpr hbl
  refine lv_aload_n hx hb dL_law_858 rfl (lv_at hl 3 rfl) ?_
  refine lv_aload_n hx hb dL_law_859 rfl (lv_at hl 4 rfl) ?_
  refine lv_iload hx hb dL_law_860 (lv_at hl 0 rfl) ?_
  refine lv_iconst (v := 1) hx hb dL_law_862 (by decide) ?_
  refine lv_iadd hx hb dL_law_863 ?_
  refine ztop (.int 1) (congrArg Value.int (by decide)) ?_
  refine va_sld hx hb hX hbl hbA hS (zix (k := 1) (by decide) (by decide) (by decide)).1 dL_law_864 ?_
  refine ztop (.int (xs 1)) (congrArg Value.int (congrArg xs (by decide))) ?_
  refine zcall2 (va_runV (As := [.int (xs 1)]) (rest := []) ⟨hx, hb, hml, hown, htl⟩ (k_shaven l D ct h1 x (xs 1) H.size) (cwV 1 htl gL_law_X11_shaven rfl rfl rfl (by decide +kernel) ⟨Nat.le_of_ble_eq_true rfl, Nat.le_of_ble_eq_true rfl⟩) (zpreV hK hw hS hA zZ.nil hN [0, 1] rfl rfl 10 0 rfl rfl) rfl rfl hl.1 rfl (lv_room (Nat.le_of_ble_eq_true rfl)) dL_law_865 ⟨Nat.le_of_ble_eq_true rfl, Nat.le_of_ble_eq_true rfl⟩) hw hS hA [0, 1] [2, 3] rfl rfl rfl rfl (fun _ H locs hp1 hw hS => ?_)
  have hw : zPD D (fun q : Nat => s.heap.size ≤ q) [(h2, .inr (11, [.int 0, .int 0, .ref (y 0), .int 0, .int 0, .int 0, .int 0, .long 0, .int 0, .int 0, .ref (y 1), .ref (y 2), .ref (y 3), .ref (y 4), .ref (y 5), .ref (y 6), .ref (y 7), .ref (y 8), .ref (y 9), .ref (y 10), .ref (y 11), .ref (y 12), .int 0, .int 0, .ref (y 13), .ref (y 14), .ref (y 15), .ref (y 16), .ref (y 17), .ref (y 18), .ref (y 19), .ref (y 20), .ref (y 21), .ref (y 22), .ref (y 23), .ref (y 24), .int 0, .long 0, .ref (y 25), .ref (y 26), .ref (y 27), .ref (y 28), .ref (y 29), .ref (y 30), .ref (y 31), .ref (y 32), .ref (y 33), .ref (y 34), .ref (y 35), .ref (y 36), .ref (y 37), .int 0, .int 0, .ref (y 38), .long 0, .int 0, .int 0])), (y 1, .inl (ct 0, 8, .inl (upd (upd (fun _ => 0) 2 1) 3 2)))] H := hw
  refine zfr 868 [.int (-1)] rfl rfl ?_
  refine lv_aload_n hx hb dL_law_868 rfl (lv_at hl 2 rfl) ?_
  refine lv_aload_n hx hb dL_law_869 rfl (lv_at hl 4 rfl) ?_
  refine lv_iload hx hb dL_law_870 (lv_at hl 0 rfl) ?_
  refine lv_iconst (v := 1) hx hb dL_law_872 (by decide) ?_
  refine lv_iadd hx hb dL_law_873 ?_
  refine ztop (.int 1) (congrArg Value.int (by decide)) ?_
  refine va_sld hx hb hX hbl hbA hS (zix (k := 1) (by decide) (by decide) (by decide)).1 dL_law_874 ?_
  refine ztop (.int (xs 1)) (congrArg Value.int (congrArg xs (by decide))) ?_
  refine zcall2 (va_runV (As := [.int (xs 1)]) (rest := [.int (-1)]) ⟨hx, hb, hml, hown, htl⟩ (r_shaven l D ct h2 y (xs 1) H.size) (cwV 1 htl gL_law_X12_shaven rfl rfl rfl (by decide +kernel) ⟨Nat.le_of_ble_eq_true rfl, Nat.le_of_ble_eq_true rfl⟩) (zpreV hK hw hS hA zZ.nil hN [0, 1] rfl rfl 11 0 rfl rfl) rfl rfl hl.1 rfl (lv_room (Nat.le_of_ble_eq_true rfl)) dL_law_875 ⟨Nat.le_of_ble_eq_true rfl, Nat.le_of_ble_eq_true rfl⟩) hw hS hA [0, 1] [] rfl rfl rfl rfl (fun _ H locs hp2 hw hS => ?_)
  have hw : zPD D (fun q : Nat => s.heap.size ≤ q) [(h2, .inr (11, [.int 0, .int 0, .ref (y 0), .int 0, .int 0, .int 0, .int 0, .long 0, .int 0, .int 0, .ref (y 1), .ref (y 2), .ref (y 3), .ref (y 4), .ref (y 5), .ref (y 6), .ref (y 7), .ref (y 8), .ref (y 9), .ref (y 10), .ref (y 11), .ref (y 12), .int 0, .int 0, .ref (y 13), .ref (y 14), .ref (y 15), .ref (y 16), .ref (y 17), .ref (y 18), .ref (y 19), .ref (y 20), .ref (y 21), .ref (y 22), .ref (y 23), .ref (y 24), .int 0, .long 0, .ref (y 25), .ref (y 26), .ref (y 27), .ref (y 28), .ref (y 29), .ref (y 30), .ref (y 31), .ref (y 32), .ref (y 33), .ref (y 34), .ref (y 35), .ref (y 36), .ref (y 37), .int 0, .int 0, .ref (y 38), .long 0, .int 0, .int 0])), (y 1, .inl (ct 0, 8, .inl (upd (upd (fun _ => 0) 2 1) 3 2)))] H := hw
  refine zfr 878 [.int (-1), .int (-1)] rfl rfl ?_
  refine lv_icmp_eq (tgt := 1306) hx hb dL_law_878 (by decide) (fun _ => ?_) (fun h => absurd (by decide) h)
  exact law_end C0 hS ls (lv_sub hl [0, 4] rfl)

set_option maxHeartbeats 4000000 in
set_option maxRecDepth 100000 in
theorem law_21 {p : Program} {l : Launch} {e : Env} {s : State} {m : MethodId} {below : List Frame} {meth : Method} {c : Code} {b : Nat} {xs : Nat → Int32} (C0 : lw_At p s m meth c b 7 xs) {D : va_G} {ct : Nat → ClassId} {eE : Nat} (hK : va_K D vwCl (zT ct) s) (hN : zN s) (hZ : zZ [("END", eE)] (fun q : Nat => s.heap.size ≤ q) s s.heap) (h1 h2 h3 : Nat) (x y : Nat → Nat) (pf : Nat → Option Nat) (hpf : pf 0 = some (x 62)) (H : Heap) (locs : List Loc) (hw : zPD D (fun q : Nat => s.heap.size ≤ q) [(h1, .inr (10, [.ref (x 1), .ref (x 3), .ref (x 15), .ref (x 27), .ref (x 28), .ref (x 32), .ref (x 36), .ref (x 37), .ref (x 48), .ref (x 54), .ref (x 60), .ref (x 61), .ref (x 68), .int 0, .int 0])), (x 3, .inr (2, [.ref (x 4), .ref (x 5), .ref (x 6), .ref (x 7), .ref (x 8), .ref (x 9), .ref (x 10), .ref (x 11), .ref (x 12), .int 0, .int 0, .int 1, .int 2])), (x 37, .inr (9, [.ref (x 3), .ref (x 36), .ref (x 38), .ref (x 44), .ref (x 45), .ref (x 46), .ref (x 47)])), (x 47, .inl (ct 0, 6, .inl (fun _ => 0))), (h2, .inr (11, [.int 0, .int 0, .ref (y 0), .int 0, .int 0, .int 0, .int 0, .long 0, .int 0, .int 0, .ref (y 1), .ref (y 2), .ref (y 3), .ref (y 4), .ref (y 5), .ref (y 6), .ref (y 7), .ref (y 8), .ref (y 9), .ref (y 10), .ref (y 11), .ref (y 12), .int 0, .int 0, .ref (y 13), .ref (y 14), .ref (y 15), .ref (y 16), .ref (y 17), .ref (y 18), .ref (y 19), .ref (y 20), .ref (y 21), .ref (y 22), .ref (y 23), .ref (y 24), .int 0, .long 0, .ref (y 25), .ref (y 26), .ref (y 27), .ref (y 28), .ref (y 29), .ref (y 30), .ref (y 31), .ref (y 32), .ref (y 33), .ref (y 34), .ref (y 35), .ref (y 36), .ref (y 37), .int 0, .int 0, .ref (y 38), .long 0, .int 0, .int 0])), (y 1, .inl (ct 0, 8, .inl (upd (upd (fun _ => 0) 2 1) 3 2)))] H) (hS : va_S (fun q : Nat => s.heap.size ≤ q) s.heap H locs) (ls : Array Slot) (hl : lv_has ls 7 [(4, .int 0), (3, .ref h3), (2, .ref h2), (1, .ref h1), (0, .ref b)]) : W p l e room_1 s m #[Value.ref b] below meth c H locs 248 10101 (lw_Z below #[Value.ref b] s) (F0 m 883 ls []) := by
  obtain ⟨hx, hb, hr, hml, hown, hts, hX, hbl, hlocks, hgv⟩ := id C0
  have hown : s.vm.findClass RL = some m.cls := hown
  have htl : ∀ w ∈ wsL_law0, w.before #[Value.ref b] s = true := fun w h => hts w (wsL_law_in0 w h)
  have hA : ∀ q : Nat, s.heap.size ≤ q → (fun q : Nat => s.heap.size ≤ q) q := fun _ h => h
  have hbA : ¬ (fun q : Nat => s.heap.size ≤ q) b := Nat.not_le.mpr hbl
  refine lv_aload_n hx hb dL_law_883 rfl (lv_at hl 3 rfl) ?_
  refine lv_aload_n hx hb dL_law_884 rfl (lv_at hl 4 rfl) ?_
  refine lv_iload hx hb dL_law_885 (lv_at hl 0 rfl) ?_
  refine lv_iconst (v := 1) hx hb dL_law_887 (by decide) ?_
  refine lv_iadd hx hb dL_law_888 ?_
  refine ztop (.int 1) (congrArg Value.int (by decide)) ?_
  refine va_sld hx hb hX hbl hbA hS (zix (k := 1) (by decide) (by decide) (by decide)).1 dL_law_889 ?_
  refine ztop (.int (xs 1)) (congrArg Value.int (congrArg xs (by decide))) ?_
  refine zcall2 (va_runV (As := [.int (xs 1)]) (rest := []) ⟨hx, hb, hml, hown, htl⟩ (k_meeting l D ct h1 x (xs 1) H.size) (cwV 1 htl gL_law_X11_meeting rfl rfl rfl (by decide +kernel) ⟨Nat.le_of_ble_eq_true rfl, Nat.le_of_ble_eq_true rfl⟩) (zpreV hK hw hS hA zZ.nil hN [0, 1, 2, 3] rfl rfl 10 0 rfl rfl) rfl rfl hl.1 rfl (lv_room (Nat.le_of_ble_eq_true rfl)) dL_law_890 ⟨Nat.le_of_ble_eq_true rfl, Nat.le_of_ble_eq_true rfl⟩) hw hS hA [0, 1, 2, 3] [4, 5] rfl rfl rfl rfl (fun _ H locs hp1 hw hS => ?_)
  have hw : zPD D (fun q : Nat => s.heap.size ≤ q) [(h2, .inr (11, [.int 0, .int 0, .ref (y 0), .int 0, .int 0, .int 0, .int 0, .long 0, .int 0, .int 0, .ref (y 1), .ref (y 2), .ref (y 3), .ref (y 4), .ref (y 5), .ref (y 6), .ref (y 7), .ref (y 8), .ref (y 9), .ref (y 10), .ref (y 11), .ref (y 12), .int 0, .int 0, .ref (y 13), .ref (y 14), .ref (y 15), .ref (y 16), .ref (y 17), .ref (y 18), .ref (y 19), .ref (y 20), .ref (y 21), .ref (y 22), .ref (y 23), .ref (y 24), .int 0, .long 0, .ref (y 25), .ref (y 26), .ref (y 27), .ref (y 28), .ref (y 29), .ref (y 30), .ref (y 31), .ref (y 32), .ref (y 33), .ref (y 34), .ref (y 35), .ref (y 36), .ref (y 37), .int 0, .int 0, .ref (y 38), .long 0, .int 0, .int 0])), (y 1, .inl (ct 0, 8, .inl (upd (upd (fun _ => 0) 2 1) 3 2)))] H := hw
  refine zfr 893 [.int (-1)] rfl rfl ?_
  refine lv_aload_n hx hb dL_law_893 rfl (lv_at hl 2 rfl) ?_
  refine lv_aload_n hx hb dL_law_894 rfl (lv_at hl 4 rfl) ?_
  refine lv_iload hx hb dL_law_895 (lv_at hl 0 rfl) ?_
  refine lv_iconst (v := 1) hx hb dL_law_897 (by decide) ?_
  refine lv_iadd hx hb dL_law_898 ?_
  refine ztop (.int 1) (congrArg Value.int (by decide)) ?_
  refine va_sld hx hb hX hbl hbA hS (zix (k := 1) (by decide) (by decide) (by decide)).1 dL_law_899 ?_
  refine ztop (.int (xs 1)) (congrArg Value.int (congrArg xs (by decide))) ?_
  refine zcall2 (va_runV (As := [.int (xs 1)]) (rest := [.int (-1)]) ⟨hx, hb, hml, hown, htl⟩ (r_meeting l D ct h2 y (xs 1) H.size) (cwV 1 htl gL_law_X12_meeting rfl rfl rfl (by decide +kernel) ⟨Nat.le_of_ble_eq_true rfl, Nat.le_of_ble_eq_true rfl⟩) (zpreV hK hw hS hA zZ.nil hN [0, 1] rfl rfl 11 0 rfl rfl) rfl rfl hl.1 rfl (lv_room (Nat.le_of_ble_eq_true rfl)) dL_law_900 ⟨Nat.le_of_ble_eq_true rfl, Nat.le_of_ble_eq_true rfl⟩) hw hS hA [0, 1] [] rfl rfl rfl rfl (fun _ H locs hp2 hw hS => ?_)
  have hw : zPD D (fun q : Nat => s.heap.size ≤ q) [(h2, .inr (11, [.int 0, .int 0, .ref (y 0), .int 0, .int 0, .int 0, .int 0, .long 0, .int 0, .int 0, .ref (y 1), .ref (y 2), .ref (y 3), .ref (y 4), .ref (y 5), .ref (y 6), .ref (y 7), .ref (y 8), .ref (y 9), .ref (y 10), .ref (y 11), .ref (y 12), .int 0, .int 0, .ref (y 13), .ref (y 14), .ref (y 15), .ref (y 16), .ref (y 17), .ref (y 18), .ref (y 19), .ref (y 20), .ref (y 21), .ref (y 22), .ref (y 23), .ref (y 24), .int 0, .long 0, .ref (y 25), .ref (y 26), .ref (y 27), .ref (y 28), .ref (y 29), .ref (y 30), .ref (y 31), .ref (y 32), .ref (y 33), .ref (y 34), .ref (y 35), .ref (y 36), .ref (y 37), .int 0, .int 0, .ref (y 38), .long 0, .int 0, .int 0])), (y 1, .inl (ct 0, 8, .inl (upd (upd (fun _ => 0) 2 1) 3 2)))] H := hw
  refine zfr 903 [.int (-1), .int (-1)] rfl rfl ?_
  refine lv_icmp_eq (tgt := 1306) hx hb dL_law_903 (by decide) (fun _ => ?_) (fun h => absurd (by decide) h)
  exact law_end C0 hS ls (lv_sub hl [0, 4] rfl)

set_option maxHeartbeats 4000000 in
set_option maxRecDepth 100000 in
theorem law_22 {p : Program} {l : Launch} {e : Env} {s : State} {m : MethodId} {below : List Frame} {meth : Method} {c : Code} {b : Nat} {xs : Nat → Int32} (C0 : lw_At p s m meth c b 7 xs) {D : va_G} {ct : Nat → ClassId} {eE : Nat} (hK : va_K D vwCl (zT ct) s) (hN : zN s) (hZ : zZ [("END", eE)] (fun q : Nat => s.heap.size ≤ q) s s.heap) (h1 h2 h3 : Nat) (x y : Nat → Nat) (pf : Nat → Option Nat) (hpf : pf 0 = some (x 62)) (H : Heap) (locs : List Loc) (hw : zPD D (fun q : Nat => s.heap.size ≤ q) [(h1, .inr (10, [.ref (x 1), .ref (x 3), .ref (x 15), .ref (x 27), .ref (x 28), .ref (x 32), .ref (x 36), .ref (x 37), .ref (x 48), .ref (x 54), .ref (x 60), .ref (x 61), .ref (x 68), .int 0, .int 0])), (x 3, .inr (2, [.ref (x 4), .ref (x 5), .ref (x 6), .ref (x 7), .ref (x 8), .ref (x 9), .ref (x 10), .ref (x 11), .ref (x 12), .int 0, .int 0, .int 1, .int 2])), (h2, .inr (11, [.int 0, .int 0, .ref (y 0), .int 0, .int 0, .int 0, .int 0, .long 0, .int 0, .int 0, .ref (y 1), .ref (y 2), .ref (y 3), .ref (y 4), .ref (y 5), .ref (y 6), .ref (y 7), .ref (y 8), .ref (y 9), .ref (y 10), .ref (y 11), .ref (y 12), .int 0, .int 0, .ref (y 13), .ref (y 14), .ref (y 15), .ref (y 16), .ref (y 17), .ref (y 18), .ref (y 19), .ref (y 20), .ref (y 21), .ref (y 22), .ref (y 23), .ref (y 24), .int 0, .long 0, .ref (y 25), .ref (y 26), .ref (y 27), .ref (y 28), .ref (y 29), .ref (y 30), .ref (y 31), .ref (y 32), .ref (y 33), .ref (y 34), .ref (y 35), .ref (y 36), .ref (y 37), .int 0, .int 0, .ref (y 38), .long 0, .int 0, .int 0])), (y 1, .inl (ct 0, 8, .inl (upd (upd (fun _ => 0) 2 1) 3 2)))] H) (hS : va_S (fun q : Nat => s.heap.size ≤ q) s.heap H locs) (ls : Array Slot) (hl : lv_has ls 7 [(4, .int 0), (3, .ref h3), (2, .ref h2), (1, .ref h1), (0, .ref b)]) : W p l e room_1 s m #[Value.ref b] below meth c H locs 248 10101 (lw_Z below #[Value.ref b] s) (F0 m 908 ls []) := by
  obtain ⟨hx, hb, hr, hml, hown, hts, hX, hbl, hlocks, hgv⟩ := id C0
  have hown : s.vm.findClass RL = some m.cls := hown
  have htl : ∀ w ∈ wsL_law0, w.before #[Value.ref b] s = true := fun w h => hts w (wsL_law_in0 w h)
  have hA : ∀ q : Nat, s.heap.size ≤ q → (fun q : Nat => s.heap.size ≤ q) q := fun _ h => h
  have hbA : ¬ (fun q : Nat => s.heap.size ≤ q) b := Nat.not_le.mpr hbl
  refine lv_aload_n hx hb dL_law_908 rfl (lv_at hl 3 rfl) ?_
  refine lv_aload_n hx hb dL_law_909 rfl (lv_at hl 4 rfl) ?_
  refine lv_iload hx hb dL_law_910 (lv_at hl 0 rfl) ?_
  refine lv_iconst (v := 1) hx hb dL_law_912 (by decide) ?_
  refine lv_iadd hx hb dL_law_913 ?_
  refine ztop (.int 1) (congrArg Value.int (by decide)) ?_
  refine va_sld hx hb hX hbl hbA hS (zix (k := 1) (by decide) (by decide) (by decide)).1 dL_law_914 ?_
  refine ztop (.int (xs 1)) (congrArg Value.int (congrArg xs (by decide))) ?_
  refine lv_aload_n hx hb dL_law_915 rfl (lv_at hl 4 rfl) ?_
  refine lv_iload hx hb dL_law_916 (lv_at hl 0 rfl) ?_
  refine lv_iconst (v := 2) hx hb dL_law_918 (by decide) ?_
  refine lv_iadd hx hb dL_law_919 ?_
  refine ztop (.int 2) (congrArg Value.int (by decide)) ?_
  refine va_sld hx hb hX hbl hbA hS (zix (k := 2) (by decide) (by decide) (by decide)).1 dL_law_920 ?_
  refine ztop (.int (xs 2)) (congrArg Value.int (congrArg xs (by decide))) ?_
  refine zcall2 (va_runV (As := [.int (xs 1), .int (xs 2)]) (rest := []) ⟨hx, hb, hml, hown, htl⟩ (k_speakers l D ct h1 x (xs 1) (xs 2) H.size) (cwV 2 htl gL_law_X11_speakers rfl rfl rfl (by decide +kernel) ⟨Nat.le_of_ble_eq_true rfl, Nat.le_of_ble_eq_true rfl⟩) (zpreV hK hw hS hA zZ.nil hN [0, 1] rfl rfl 10 0 rfl rfl) rfl rfl hl.1 rfl (lv_room (Nat.le_of_ble_eq_true rfl)) dL_law_921 ⟨Nat.le_of_ble_eq_true rfl, Nat.le_of_ble_eq_true rfl⟩) hw hS hA [0, 1] [2, 3] rfl rfl rfl rfl (fun _ H locs hp1 hw hS => ?_)
  have hw : zPD D (fun q : Nat => s.heap.size ≤ q) [(h2, .inr (11, [.int 0, .int 0, .ref (y 0), .int 0, .int 0, .int 0, .int 0, .long 0, .int 0, .int 0, .ref (y 1), .ref (y 2), .ref (y 3), .ref (y 4), .ref (y 5), .ref (y 6), .ref (y 7), .ref (y 8), .ref (y 9), .ref (y 10), .ref (y 11), .ref (y 12), .int 0, .int 0, .ref (y 13), .ref (y 14), .ref (y 15), .ref (y 16), .ref (y 17), .ref (y 18), .ref (y 19), .ref (y 20), .ref (y 21), .ref (y 22), .ref (y 23), .ref (y 24), .int 0, .long 0, .ref (y 25), .ref (y 26), .ref (y 27), .ref (y 28), .ref (y 29), .ref (y 30), .ref (y 31), .ref (y 32), .ref (y 33), .ref (y 34), .ref (y 35), .ref (y 36), .ref (y 37), .int 0, .int 0, .ref (y 38), .long 0, .int 0, .int 0])), (y 1, .inl (ct 0, 8, .inl (upd (upd (fun _ => 0) 2 1) 3 2)))] H := hw
  refine zfr 924 [.int (-1)] rfl rfl ?_
  refine lv_aload_n hx hb dL_law_924 rfl (lv_at hl 2 rfl) ?_
  refine lv_aload_n hx hb dL_law_925 rfl (lv_at hl 4 rfl) ?_
  refine lv_iload hx hb dL_law_926 (lv_at hl 0 rfl) ?_
  refine lv_iconst (v := 1) hx hb dL_law_928 (by decide) ?_
  refine lv_iadd hx hb dL_law_929 ?_
  refine ztop (.int 1) (congrArg Value.int (by decide)) ?_
  refine va_sld hx hb hX hbl hbA hS (zix (k := 1) (by decide) (by decide) (by decide)).1 dL_law_930 ?_
  refine ztop (.int (xs 1)) (congrArg Value.int (congrArg xs (by decide))) ?_
  refine lv_aload_n hx hb dL_law_931 rfl (lv_at hl 4 rfl) ?_
  refine lv_iload hx hb dL_law_932 (lv_at hl 0 rfl) ?_
  refine lv_iconst (v := 2) hx hb dL_law_934 (by decide) ?_
  refine lv_iadd hx hb dL_law_935 ?_
  refine ztop (.int 2) (congrArg Value.int (by decide)) ?_
  refine va_sld hx hb hX hbl hbA hS (zix (k := 2) (by decide) (by decide) (by decide)).1 dL_law_936 ?_
  refine ztop (.int (xs 2)) (congrArg Value.int (congrArg xs (by decide))) ?_
  refine zcall2 (va_runV (As := [.int (xs 1), .int (xs 2)]) (rest := [.int (-1)]) ⟨hx, hb, hml, hown, htl⟩ (r_speakers l D ct h2 y (xs 1) (xs 2) H.size) (cwV 2 htl gL_law_X12_speakers rfl rfl rfl (by decide +kernel) ⟨Nat.le_of_ble_eq_true rfl, Nat.le_of_ble_eq_true rfl⟩) (zpreV hK hw hS hA zZ.nil hN [0, 1] rfl rfl 11 0 rfl rfl) rfl rfl hl.1 rfl (lv_room (Nat.le_of_ble_eq_true rfl)) dL_law_937 ⟨Nat.le_of_ble_eq_true rfl, Nat.le_of_ble_eq_true rfl⟩) hw hS hA [0, 1] [] rfl rfl rfl rfl (fun _ H locs hp2 hw hS => ?_)
  have hw : zPD D (fun q : Nat => s.heap.size ≤ q) [(h2, .inr (11, [.int 0, .int 0, .ref (y 0), .int 0, .int 0, .int 0, .int 0, .long 0, .int 0, .int 0, .ref (y 1), .ref (y 2), .ref (y 3), .ref (y 4), .ref (y 5), .ref (y 6), .ref (y 7), .ref (y 8), .ref (y 9), .ref (y 10), .ref (y 11), .ref (y 12), .int 0, .int 0, .ref (y 13), .ref (y 14), .ref (y 15), .ref (y 16), .ref (y 17), .ref (y 18), .ref (y 19), .ref (y 20), .ref (y 21), .ref (y 22), .ref (y 23), .ref (y 24), .int 0, .long 0, .ref (y 25), .ref (y 26), .ref (y 27), .ref (y 28), .ref (y 29), .ref (y 30), .ref (y 31), .ref (y 32), .ref (y 33), .ref (y 34), .ref (y 35), .ref (y 36), .ref (y 37), .int 0, .int 0, .ref (y 38), .long 0, .int 0, .int 0])), (y 1, .inl (ct 0, 8, .inl (upd (upd (fun _ => 0) 2 1) 3 2)))] H := hw
  refine zfr 940 [.int (-1), .int (-1)] rfl rfl ?_
  refine lv_icmp_eq (tgt := 1306) hx hb dL_law_940 (by decide) (fun _ => ?_) (fun h => absurd (by decide) h)
  exact law_end C0 hS ls (lv_sub hl [0, 4] rfl)

set_option maxHeartbeats 4000000 in
set_option maxRecDepth 100000 in
theorem law_23 {p : Program} {l : Launch} {e : Env} {s : State} {m : MethodId} {below : List Frame} {meth : Method} {c : Code} {b : Nat} {xs : Nat → Int32} (C0 : lw_At p s m meth c b 7 xs) {D : va_G} {ct : Nat → ClassId} {eE : Nat} (hK : va_K D vwCl (zT ct) s) (hN : zN s) (hZ : zZ [("END", eE)] (fun q : Nat => s.heap.size ≤ q) s s.heap) (h1 h2 h3 : Nat) (x y : Nat → Nat) (pf : Nat → Option Nat) (hpf : pf 0 = some (x 62)) (H : Heap) (locs : List Loc) (hw : zPD D (fun q : Nat => s.heap.size ≤ q) [(h1, .inr (10, [.ref (x 1), .ref (x 3), .ref (x 15), .ref (x 27), .ref (x 28), .ref (x 32), .ref (x 36), .ref (x 37), .ref (x 48), .ref (x 54), .ref (x 60), .ref (x 61), .ref (x 68), .int 0, .int 0])), (x 3, .inr (2, [.ref (x 4), .ref (x 5), .ref (x 6), .ref (x 7), .ref (x 8), .ref (x 9), .ref (x 10), .ref (x 11), .ref (x 12), .int 0, .int 0, .int 1, .int 2])), (h2, .inr (11, [.int 0, .int 0, .ref (y 0), .int 0, .int 0, .int 0, .int 0, .long 0, .int 0, .int 0, .ref (y 1), .ref (y 2), .ref (y 3), .ref (y 4), .ref (y 5), .ref (y 6), .ref (y 7), .ref (y 8), .ref (y 9), .ref (y 10), .ref (y 11), .ref (y 12), .int 0, .int 0, .ref (y 13), .ref (y 14), .ref (y 15), .ref (y 16), .ref (y 17), .ref (y 18), .ref (y 19), .ref (y 20), .ref (y 21), .ref (y 22), .ref (y 23), .ref (y 24), .int 0, .long 0, .ref (y 25), .ref (y 26), .ref (y 27), .ref (y 28), .ref (y 29), .ref (y 30), .ref (y 31), .ref (y 32), .ref (y 33), .ref (y 34), .ref (y 35), .ref (y 36), .ref (y 37), .int 0, .int 0, .ref (y 38), .long 0, .int 0, .int 0])), (y 1, .inl (ct 0, 8, .inl (upd (upd (fun _ => 0) 2 1) 3 2)))] H) (hS : va_S (fun q : Nat => s.heap.size ≤ q) s.heap H locs) (ls : Array Slot) (hl : lv_has ls 7 [(4, .int 0), (3, .ref h3), (2, .ref h2), (1, .ref h1), (0, .ref b)]) : W p l e room_1 s m #[Value.ref b] below meth c H locs 248 10101 (lw_Z below #[Value.ref b] s) (F0 m 945 ls []) := by
  obtain ⟨hx, hb, hr, hml, hown, hts, hX, hbl, hlocks, hgv⟩ := id C0
  have hown : s.vm.findClass RL = some m.cls := hown
  have htl : ∀ w ∈ wsL_law0, w.before #[Value.ref b] s = true := fun w h => hts w (wsL_law_in0 w h)
  have hA : ∀ q : Nat, s.heap.size ≤ q → (fun q : Nat => s.heap.size ≤ q) q := fun _ h => h
  have hbA : ¬ (fun q : Nat => s.heap.size ≤ q) b := Nat.not_le.mpr hbl
  refine lv_aload_n hx hb dL_law_945 rfl (lv_at hl 3 rfl) ?_
  refine zcall2 (va_runV (As := []) (rest := []) ⟨hx, hb, hml, hown, htl⟩ (k_strict l D ct h1 x H.size) (cwV 0 htl gL_law_X11_strict rfl rfl rfl (by decide +kernel) ⟨Nat.le_of_ble_eq_true rfl, Nat.le_of_ble_eq_true rfl⟩) (zpreV hK hw hS hA zZ.nil hN [0, 1] rfl rfl 10 0 rfl rfl) rfl rfl hl.1 rfl (lv_room (Nat.le_of_ble_eq_true rfl)) dL_law_946 ⟨Nat.le_of_ble_eq_true rfl, Nat.le_of_ble_eq_true rfl⟩) hw hS hA [0, 1] [2, 3] rfl rfl rfl rfl (fun _ H locs hp1 hw hS => ?_)
  have hw : zPD D (fun q : Nat => s.heap.size ≤ q) [(h2, .inr (11, [.int 0, .int 0, .ref (y 0), .int 0, .int 0, .int 0, .int 0, .long 0, .int 0, .int 0, .ref (y 1), .ref (y 2), .ref (y 3), .ref (y 4), .ref (y 5), .ref (y 6), .ref (y 7), .ref (y 8), .ref (y 9), .ref (y 10), .ref (y 11), .ref (y 12), .int 0, .int 0, .ref (y 13), .ref (y 14), .ref (y 15), .ref (y 16), .ref (y 17), .ref (y 18), .ref (y 19), .ref (y 20), .ref (y 21), .ref (y 22), .ref (y 23), .ref (y 24), .int 0, .long 0, .ref (y 25), .ref (y 26), .ref (y 27), .ref (y 28), .ref (y 29), .ref (y 30), .ref (y 31), .ref (y 32), .ref (y 33), .ref (y 34), .ref (y 35), .ref (y 36), .ref (y 37), .int 0, .int 0, .ref (y 38), .long 0, .int 0, .int 0])), (y 1, .inl (ct 0, 8, .inl (upd (upd (fun _ => 0) 2 1) 3 2)))] H := hw
  refine zfr 949 [.int (-1)] rfl rfl ?_
  refine lv_aload_n hx hb dL_law_949 rfl (lv_at hl 2 rfl) ?_
  refine zcall2 (va_runV (As := []) (rest := [.int (-1)]) ⟨hx, hb, hml, hown, htl⟩ (r_strict l D ct h2 y H.size) (cwV 0 htl gL_law_X12_strict rfl rfl rfl (by decide +kernel) ⟨Nat.le_of_ble_eq_true rfl, Nat.le_of_ble_eq_true rfl⟩) (zpreV hK hw hS hA zZ.nil hN [0, 1] rfl rfl 11 0 rfl rfl) rfl rfl hl.1 rfl (lv_room (Nat.le_of_ble_eq_true rfl)) dL_law_950 ⟨Nat.le_of_ble_eq_true rfl, Nat.le_of_ble_eq_true rfl⟩) hw hS hA [0, 1] [] rfl rfl rfl rfl (fun _ H locs hp2 hw hS => ?_)
  have hw : zPD D (fun q : Nat => s.heap.size ≤ q) [(h2, .inr (11, [.int 0, .int 0, .ref (y 0), .int 0, .int 0, .int 0, .int 0, .long 0, .int 0, .int 0, .ref (y 1), .ref (y 2), .ref (y 3), .ref (y 4), .ref (y 5), .ref (y 6), .ref (y 7), .ref (y 8), .ref (y 9), .ref (y 10), .ref (y 11), .ref (y 12), .int 0, .int 0, .ref (y 13), .ref (y 14), .ref (y 15), .ref (y 16), .ref (y 17), .ref (y 18), .ref (y 19), .ref (y 20), .ref (y 21), .ref (y 22), .ref (y 23), .ref (y 24), .int 0, .long 0, .ref (y 25), .ref (y 26), .ref (y 27), .ref (y 28), .ref (y 29), .ref (y 30), .ref (y 31), .ref (y 32), .ref (y 33), .ref (y 34), .ref (y 35), .ref (y 36), .ref (y 37), .int 0, .int 0, .ref (y 38), .long 0, .int 0, .int 0])), (y 1, .inl (ct 0, 8, .inl (upd (upd (fun _ => 0) 2 1) 3 2)))] H := hw
  refine zfr 953 [.int (-1), .int (-1)] rfl rfl ?_
  refine lv_icmp_eq (tgt := 1306) hx hb dL_law_953 (by decide) (fun _ => ?_) (fun h => absurd (by decide) h)
  exact law_end C0 hS ls (lv_sub hl [0, 4] rfl)

set_option maxHeartbeats 4000000 in
set_option maxRecDepth 100000 in
theorem law_24 {p : Program} {l : Launch} {e : Env} {s : State} {m : MethodId} {below : List Frame} {meth : Method} {c : Code} {b : Nat} {xs : Nat → Int32} (C0 : lw_At p s m meth c b 7 xs) {D : va_G} {ct : Nat → ClassId} {eE : Nat} (hK : va_K D vwCl (zT ct) s) (hN : zN s) (hZ : zZ [("END", eE)] (fun q : Nat => s.heap.size ≤ q) s s.heap) (h1 h2 h3 : Nat) (x y : Nat → Nat) (pf : Nat → Option Nat) (hpf : pf 0 = some (x 62)) (H : Heap) (locs : List Loc) (hw : zPD D (fun q : Nat => s.heap.size ≤ q) [(h1, .inr (10, [.ref (x 1), .ref (x 3), .ref (x 15), .ref (x 27), .ref (x 28), .ref (x 32), .ref (x 36), .ref (x 37), .ref (x 48), .ref (x 54), .ref (x 60), .ref (x 61), .ref (x 68), .int 0, .int 0])), (x 3, .inr (2, [.ref (x 4), .ref (x 5), .ref (x 6), .ref (x 7), .ref (x 8), .ref (x 9), .ref (x 10), .ref (x 11), .ref (x 12), .int 0, .int 0, .int 1, .int 2])), (h2, .inr (11, [.int 0, .int 0, .ref (y 0), .int 0, .int 0, .int 0, .int 0, .long 0, .int 0, .int 0, .ref (y 1), .ref (y 2), .ref (y 3), .ref (y 4), .ref (y 5), .ref (y 6), .ref (y 7), .ref (y 8), .ref (y 9), .ref (y 10), .ref (y 11), .ref (y 12), .int 0, .int 0, .ref (y 13), .ref (y 14), .ref (y 15), .ref (y 16), .ref (y 17), .ref (y 18), .ref (y 19), .ref (y 20), .ref (y 21), .ref (y 22), .ref (y 23), .ref (y 24), .int 0, .long 0, .ref (y 25), .ref (y 26), .ref (y 27), .ref (y 28), .ref (y 29), .ref (y 30), .ref (y 31), .ref (y 32), .ref (y 33), .ref (y 34), .ref (y 35), .ref (y 36), .ref (y 37), .int 0, .int 0, .ref (y 38), .long 0, .int 0, .int 0])), (y 1, .inl (ct 0, 8, .inl (upd (upd (fun _ => 0) 2 1) 3 2)))] H) (hS : va_S (fun q : Nat => s.heap.size ≤ q) s.heap H locs) (ls : Array Slot) (hl : lv_has ls 7 [(4, .int 0), (3, .ref h3), (2, .ref h2), (1, .ref h1), (0, .ref b)]) : W p l e room_1 s m #[Value.ref b] below meth c H locs 248 10101 (lw_Z below #[Value.ref b] s) (F0 m 958 ls []) := by
  obtain ⟨hx, hb, hr, hml, hown, hts, hX, hbl, hlocks, hgv⟩ := id C0
  have hown : s.vm.findClass RL = some m.cls := hown
  have htl : ∀ w ∈ wsL_law0, w.before #[Value.ref b] s = true := fun w h => hts w (wsL_law_in0 w h)
  have hA : ∀ q : Nat, s.heap.size ≤ q → (fun q : Nat => s.heap.size ≤ q) q := fun _ h => h
  have hbA : ¬ (fun q : Nat => s.heap.size ≤ q) b := Nat.not_le.mpr hbl
  refine lv_aload_n hx hb dL_law_958 rfl (lv_at hl 3 rfl) ?_
  refine zcall2 (va_runV (As := []) (rest := []) ⟨hx, hb, hml, hown, htl⟩ (k_alike l D ct h1 x H.size) (cwV 0 htl gL_law_X11_alike rfl rfl rfl (by decide +kernel) ⟨Nat.le_of_ble_eq_true rfl, Nat.le_of_ble_eq_true rfl⟩) (zpreV hK hw hS hA zZ.nil hN [0, 1] rfl rfl 10 0 rfl rfl) rfl rfl hl.1 rfl (lv_room (Nat.le_of_ble_eq_true rfl)) dL_law_959 ⟨Nat.le_of_ble_eq_true rfl, Nat.le_of_ble_eq_true rfl⟩) hw hS hA [0, 1] [2, 3] rfl rfl rfl rfl (fun _ H locs hp1 hw hS => ?_)
  have hw : zPD D (fun q : Nat => s.heap.size ≤ q) [(h2, .inr (11, [.int 0, .int 0, .ref (y 0), .int 0, .int 0, .int 0, .int 0, .long 0, .int 0, .int 0, .ref (y 1), .ref (y 2), .ref (y 3), .ref (y 4), .ref (y 5), .ref (y 6), .ref (y 7), .ref (y 8), .ref (y 9), .ref (y 10), .ref (y 11), .ref (y 12), .int 0, .int 0, .ref (y 13), .ref (y 14), .ref (y 15), .ref (y 16), .ref (y 17), .ref (y 18), .ref (y 19), .ref (y 20), .ref (y 21), .ref (y 22), .ref (y 23), .ref (y 24), .int 0, .long 0, .ref (y 25), .ref (y 26), .ref (y 27), .ref (y 28), .ref (y 29), .ref (y 30), .ref (y 31), .ref (y 32), .ref (y 33), .ref (y 34), .ref (y 35), .ref (y 36), .ref (y 37), .int 0, .int 0, .ref (y 38), .long 0, .int 0, .int 0])), (y 1, .inl (ct 0, 8, .inl (upd (upd (fun _ => 0) 2 1) 3 2)))] H := hw
  refine zfr 962 [.int 0] rfl rfl ?_
  refine lv_aload_n hx hb dL_law_962 rfl (lv_at hl 2 rfl) ?_
  refine zcall2 (va_runV (As := []) (rest := [.int 0]) ⟨hx, hb, hml, hown, htl⟩ (r_alike l D ct h2 y H.size) (cwV 0 htl gL_law_X12_alike rfl rfl rfl (by decide +kernel) ⟨Nat.le_of_ble_eq_true rfl, Nat.le_of_ble_eq_true rfl⟩) (zpreV hK hw hS hA zZ.nil hN [0, 1] rfl rfl 11 0 rfl rfl) rfl rfl hl.1 rfl (lv_room (Nat.le_of_ble_eq_true rfl)) dL_law_963 ⟨Nat.le_of_ble_eq_true rfl, Nat.le_of_ble_eq_true rfl⟩) hw hS hA [0, 1] [] rfl rfl rfl rfl (fun _ H locs hp2 hw hS => ?_)
  have hw : zPD D (fun q : Nat => s.heap.size ≤ q) [(h2, .inr (11, [.int 0, .int 0, .ref (y 0), .int 0, .int 0, .int 0, .int 0, .long 0, .int 0, .int 0, .ref (y 1), .ref (y 2), .ref (y 3), .ref (y 4), .ref (y 5), .ref (y 6), .ref (y 7), .ref (y 8), .ref (y 9), .ref (y 10), .ref (y 11), .ref (y 12), .int 0, .int 0, .ref (y 13), .ref (y 14), .ref (y 15), .ref (y 16), .ref (y 17), .ref (y 18), .ref (y 19), .ref (y 20), .ref (y 21), .ref (y 22), .ref (y 23), .ref (y 24), .int 0, .long 0, .ref (y 25), .ref (y 26), .ref (y 27), .ref (y 28), .ref (y 29), .ref (y 30), .ref (y 31), .ref (y 32), .ref (y 33), .ref (y 34), .ref (y 35), .ref (y 36), .ref (y 37), .int 0, .int 0, .ref (y 38), .long 0, .int 0, .int 0])), (y 1, .inl (ct 0, 8, .inl (upd (upd (fun _ => 0) 2 1) 3 2)))] H := hw
  refine zfr 966 [.int 0, .int 0] rfl rfl ?_
  refine lv_icmp_eq (tgt := 1306) hx hb dL_law_966 (by decide) (fun _ => ?_) (fun h => absurd (by decide) h)
  exact law_end C0 hS ls (lv_sub hl [0, 4] rfl)

set_option maxHeartbeats 4000000 in
set_option maxRecDepth 100000 in
theorem law_25 {p : Program} {l : Launch} {e : Env} {s : State} {m : MethodId} {below : List Frame} {meth : Method} {c : Code} {b : Nat} {xs : Nat → Int32} (C0 : lw_At p s m meth c b 7 xs) {D : va_G} {ct : Nat → ClassId} {eE : Nat} (hK : va_K D vwCl (zT ct) s) (hN : zN s) (hZ : zZ [("END", eE)] (fun q : Nat => s.heap.size ≤ q) s s.heap) (h1 h2 h3 : Nat) (x y : Nat → Nat) (pf : Nat → Option Nat) (hpf : pf 0 = some (x 62)) (H : Heap) (locs : List Loc) (hw : zPD D (fun q : Nat => s.heap.size ≤ q) [(h1, .inr (10, [.ref (x 1), .ref (x 3), .ref (x 15), .ref (x 27), .ref (x 28), .ref (x 32), .ref (x 36), .ref (x 37), .ref (x 48), .ref (x 54), .ref (x 60), .ref (x 61), .ref (x 68), .int 0, .int 0])), (x 3, .inr (2, [.ref (x 4), .ref (x 5), .ref (x 6), .ref (x 7), .ref (x 8), .ref (x 9), .ref (x 10), .ref (x 11), .ref (x 12), .int 0, .int 0, .int 1, .int 2])), (h2, .inr (11, [.int 0, .int 0, .ref (y 0), .int 0, .int 0, .int 0, .int 0, .long 0, .int 0, .int 0, .ref (y 1), .ref (y 2), .ref (y 3), .ref (y 4), .ref (y 5), .ref (y 6), .ref (y 7), .ref (y 8), .ref (y 9), .ref (y 10), .ref (y 11), .ref (y 12), .int 0, .int 0, .ref (y 13), .ref (y 14), .ref (y 15), .ref (y 16), .ref (y 17), .ref (y 18), .ref (y 19), .ref (y 20), .ref (y 21), .ref (y 22), .ref (y 23), .ref (y 24), .int 0, .long 0, .ref (y 25), .ref (y 26), .ref (y 27), .ref (y 28), .ref (y 29), .ref (y 30), .ref (y 31), .ref (y 32), .ref (y 33), .ref (y 34), .ref (y 35), .ref (y 36), .ref (y 37), .int 0, .int 0, .ref (y 38), .long 0, .int 0, .int 0])), (y 1, .inl (ct 0, 8, .inl (upd (upd (fun _ => 0) 2 1) 3 2)))] H) (hS : va_S (fun q : Nat => s.heap.size ≤ q) s.heap H locs) (ls : Array Slot) (hl : lv_has ls 7 [(4, .int 0), (3, .ref h3), (2, .ref h2), (1, .ref h1), (0, .ref b)]) : W p l e room_1 s m #[Value.ref b] below meth c H locs 248 10101 (lw_Z below #[Value.ref b] s) (F0 m 971 ls []) := by
  obtain ⟨hx, hb, hr, hml, hown, hts, hX, hbl, hlocks, hgv⟩ := id C0
  have hown : s.vm.findClass RL = some m.cls := hown
  have htl : ∀ w ∈ wsL_law0, w.before #[Value.ref b] s = true := fun w h => hts w (wsL_law_in0 w h)
  have hA : ∀ q : Nat, s.heap.size ≤ q → (fun q : Nat => s.heap.size ≤ q) q := fun _ h => h
  have hbA : ¬ (fun q : Nat => s.heap.size ≤ q) b := Nat.not_le.mpr hbl
  refine lv_aload_n hx hb dL_law_971 rfl (lv_at hl 3 rfl) ?_
  refine lv_aload_n hx hb dL_law_972 rfl (lv_at hl 4 rfl) ?_
  refine lv_iload hx hb dL_law_973 (lv_at hl 0 rfl) ?_
  refine lv_iconst (v := 1) hx hb dL_law_975 (by decide) ?_
  refine lv_iadd hx hb dL_law_976 ?_
  refine ztop (.int 1) (congrArg Value.int (by decide)) ?_
  refine va_sld hx hb hX hbl hbA hS (zix (k := 1) (by decide) (by decide) (by decide)).1 dL_law_977 ?_
  refine ztop (.int (xs 1)) (congrArg Value.int (congrArg xs (by decide))) ?_
  refine lv_aload_n hx hb dL_law_978 rfl (lv_at hl 4 rfl) ?_
  refine lv_iload hx hb dL_law_979 (lv_at hl 0 rfl) ?_
  refine lv_iconst (v := 2) hx hb dL_law_981 (by decide) ?_
  refine lv_iadd hx hb dL_law_982 ?_
  refine ztop (.int 2) (congrArg Value.int (by decide)) ?_
  refine va_sld hx hb hX hbl hbA hS (zix (k := 2) (by decide) (by decide) (by decide)).1 dL_law_983 ?_
  refine ztop (.int (xs 2)) (congrArg Value.int (congrArg xs (by decide))) ?_
  refine lv_if_eq (tgt := 991) hx hb dL_law_984 (by decide) (fun c_1 => ?_) (fun c_1 => ?_)
  · refine lv_iconst (v := 0) hx hb dL_law_991 (by decide) ?_
    refine zcall2 (va_runV (As := [.int (xs 1), .int 0]) (rest := []) ⟨hx, hb, hml, hown, htl⟩ (k_see l D ct h1 x (xs 1) 0 H.size) (cwV 2 htl gL_law_X11_see rfl rfl rfl (by decide +kernel) ⟨Nat.le_of_ble_eq_true rfl, Nat.le_of_ble_eq_true rfl⟩) (zpreV hK hw hS hA zZ.nil hN [0, 1] rfl rfl 10 0 rfl rfl) rfl rfl hl.1 rfl (lv_room (Nat.le_of_ble_eq_true rfl)) dL_law_992 ⟨Nat.le_of_ble_eq_true rfl, Nat.le_of_ble_eq_true rfl⟩) hw hS hA [0, 1] [2, 3] rfl rfl rfl rfl (fun _ H locs hp2 hw hS => ?_)
    have hw : zPD D (fun q : Nat => s.heap.size ≤ q) [(h2, .inr (11, [.int 0, .int 0, .ref (y 0), .int 0, .int 0, .int 0, .int 0, .long 0, .int 0, .int 0, .ref (y 1), .ref (y 2), .ref (y 3), .ref (y 4), .ref (y 5), .ref (y 6), .ref (y 7), .ref (y 8), .ref (y 9), .ref (y 10), .ref (y 11), .ref (y 12), .int 0, .int 0, .ref (y 13), .ref (y 14), .ref (y 15), .ref (y 16), .ref (y 17), .ref (y 18), .ref (y 19), .ref (y 20), .ref (y 21), .ref (y 22), .ref (y 23), .ref (y 24), .int 0, .long 0, .ref (y 25), .ref (y 26), .ref (y 27), .ref (y 28), .ref (y 29), .ref (y 30), .ref (y 31), .ref (y 32), .ref (y 33), .ref (y 34), .ref (y 35), .ref (y 36), .ref (y 37), .int 0, .int 0, .ref (y 38), .long 0, .int 0, .int 0])), (y 1, .inl (ct 0, 8, .inl (upd (upd (fun _ => 0) 2 1) 3 2)))] H := hw
    refine zfr 995 [.int 0] rfl rfl ?_
    refine lv_aload_n hx hb dL_law_995 rfl (lv_at hl 2 rfl) ?_
    refine lv_aload_n hx hb dL_law_996 rfl (lv_at hl 4 rfl) ?_
    refine lv_iload hx hb dL_law_997 (lv_at hl 0 rfl) ?_
    refine lv_iconst (v := 1) hx hb dL_law_999 (by decide) ?_
    refine lv_iadd hx hb dL_law_1000 ?_
    refine ztop (.int 1) (congrArg Value.int (by decide)) ?_
    refine va_sld hx hb hX hbl hbA hS (zix (k := 1) (by decide) (by decide) (by decide)).1 dL_law_1001 ?_
    refine ztop (.int (xs 1)) (congrArg Value.int (congrArg xs (by decide))) ?_
    refine lv_aload_n hx hb dL_law_1002 rfl (lv_at hl 4 rfl) ?_
    refine lv_iload hx hb dL_law_1003 (lv_at hl 0 rfl) ?_
    refine lv_iconst (v := 2) hx hb dL_law_1005 (by decide) ?_
    refine lv_iadd hx hb dL_law_1006 ?_
    refine ztop (.int 2) (congrArg Value.int (by decide)) ?_
    refine va_sld hx hb hX hbl hbA hS (zix (k := 2) (by decide) (by decide) (by decide)).1 dL_law_1007 ?_
    refine ztop (.int (xs 2)) (congrArg Value.int (congrArg xs (by decide))) ?_
    refine lv_if_eq (tgt := 1015) hx hb dL_law_1008 (by decide) (fun _ => ?_) (fun h => absurd (c_1) h)
    refine lv_iconst (v := 0) hx hb dL_law_1015 (by decide) ?_
    refine zcall2 (va_runV (As := [.int (xs 1), .int 0]) (rest := [.int 0]) ⟨hx, hb, hml, hown, htl⟩ (r_see l D ct h2 y (xs 1) 0 H.size) (cwV 2 htl gL_law_X12_see rfl rfl rfl (by decide +kernel) ⟨Nat.le_of_ble_eq_true rfl, Nat.le_of_ble_eq_true rfl⟩) (zpreV hK hw hS hA zZ.nil hN [0, 1] rfl rfl 11 0 rfl rfl) rfl rfl hl.1 rfl (lv_room (Nat.le_of_ble_eq_true rfl)) dL_law_1016 ⟨Nat.le_of_ble_eq_true rfl, Nat.le_of_ble_eq_true rfl⟩) hw hS hA [0, 1] [] rfl rfl rfl rfl (fun _ H locs hp4 hw hS => ?_)
    have hw : zPD D (fun q : Nat => s.heap.size ≤ q) [(h2, .inr (11, [.int 0, .int 0, .ref (y 0), .int 0, .int 0, .int 0, .int 0, .long 0, .int 0, .int 0, .ref (y 1), .ref (y 2), .ref (y 3), .ref (y 4), .ref (y 5), .ref (y 6), .ref (y 7), .ref (y 8), .ref (y 9), .ref (y 10), .ref (y 11), .ref (y 12), .int 0, .int 0, .ref (y 13), .ref (y 14), .ref (y 15), .ref (y 16), .ref (y 17), .ref (y 18), .ref (y 19), .ref (y 20), .ref (y 21), .ref (y 22), .ref (y 23), .ref (y 24), .int 0, .long 0, .ref (y 25), .ref (y 26), .ref (y 27), .ref (y 28), .ref (y 29), .ref (y 30), .ref (y 31), .ref (y 32), .ref (y 33), .ref (y 34), .ref (y 35), .ref (y 36), .ref (y 37), .int 0, .int 0, .ref (y 38), .long 0, .int 0, .int 0])), (y 1, .inl (ct 0, 8, .inl (upd (upd (fun _ => 0) 2 1) 3 2)))] H := hw
    refine zfr 1019 [.int 0, .int 0] rfl rfl ?_
    refine lv_icmp_eq (tgt := 1306) hx hb dL_law_1019 (by decide) (fun _ => ?_) (fun h => absurd (by decide) h)
    exact law_end C0 hS ls (lv_sub hl [0, 4] rfl)
  · refine lv_iconst (v := 1) hx hb dL_law_987 (by decide) ?_
    refine lv_goto (tgt := 992) hx hb dL_law_988 (by decide) ?_
    refine zcall2 (va_runV (As := [.int (xs 1), .int 1]) (rest := []) ⟨hx, hb, hml, hown, htl⟩ (k_see l D ct h1 x (xs 1) 1 H.size) (cwV 2 htl gL_law_X11_see rfl rfl rfl (by decide +kernel) ⟨Nat.le_of_ble_eq_true rfl, Nat.le_of_ble_eq_true rfl⟩) (zpreV hK hw hS hA zZ.nil hN [0, 1] rfl rfl 10 0 rfl rfl) rfl rfl hl.1 rfl (lv_room (Nat.le_of_ble_eq_true rfl)) dL_law_992 ⟨Nat.le_of_ble_eq_true rfl, Nat.le_of_ble_eq_true rfl⟩) hw hS hA [0, 1] [2, 3] rfl rfl rfl rfl (fun _ H locs hp6 hw hS => ?_)
    have hw : zPD D (fun q : Nat => s.heap.size ≤ q) [(h2, .inr (11, [.int 0, .int 0, .ref (y 0), .int 0, .int 0, .int 0, .int 0, .long 0, .int 0, .int 0, .ref (y 1), .ref (y 2), .ref (y 3), .ref (y 4), .ref (y 5), .ref (y 6), .ref (y 7), .ref (y 8), .ref (y 9), .ref (y 10), .ref (y 11), .ref (y 12), .int 0, .int 0, .ref (y 13), .ref (y 14), .ref (y 15), .ref (y 16), .ref (y 17), .ref (y 18), .ref (y 19), .ref (y 20), .ref (y 21), .ref (y 22), .ref (y 23), .ref (y 24), .int 0, .long 0, .ref (y 25), .ref (y 26), .ref (y 27), .ref (y 28), .ref (y 29), .ref (y 30), .ref (y 31), .ref (y 32), .ref (y 33), .ref (y 34), .ref (y 35), .ref (y 36), .ref (y 37), .int 0, .int 0, .ref (y 38), .long 0, .int 0, .int 0])), (y 1, .inl (ct 0, 8, .inl (upd (upd (fun _ => 0) 2 1) 3 2)))] H := hw
    refine zfr 995 [.int 0] rfl rfl ?_
    refine lv_aload_n hx hb dL_law_995 rfl (lv_at hl 2 rfl) ?_
    refine lv_aload_n hx hb dL_law_996 rfl (lv_at hl 4 rfl) ?_
    refine lv_iload hx hb dL_law_997 (lv_at hl 0 rfl) ?_
    refine lv_iconst (v := 1) hx hb dL_law_999 (by decide) ?_
    refine lv_iadd hx hb dL_law_1000 ?_
    refine ztop (.int 1) (congrArg Value.int (by decide)) ?_
    refine va_sld hx hb hX hbl hbA hS (zix (k := 1) (by decide) (by decide) (by decide)).1 dL_law_1001 ?_
    refine ztop (.int (xs 1)) (congrArg Value.int (congrArg xs (by decide))) ?_
    refine lv_aload_n hx hb dL_law_1002 rfl (lv_at hl 4 rfl) ?_
    refine lv_iload hx hb dL_law_1003 (lv_at hl 0 rfl) ?_
    refine lv_iconst (v := 2) hx hb dL_law_1005 (by decide) ?_
    refine lv_iadd hx hb dL_law_1006 ?_
    refine ztop (.int 2) (congrArg Value.int (by decide)) ?_
    refine va_sld hx hb hX hbl hbA hS (zix (k := 2) (by decide) (by decide) (by decide)).1 dL_law_1007 ?_
    refine ztop (.int (xs 2)) (congrArg Value.int (congrArg xs (by decide))) ?_
    refine lv_if_eq (tgt := 1015) hx hb dL_law_1008 (by decide) (fun h => absurd h (c_1)) (fun _ => ?_)
    refine lv_iconst (v := 1) hx hb dL_law_1011 (by decide) ?_
    refine lv_goto (tgt := 1016) hx hb dL_law_1012 (by decide) ?_
    refine zcall2 (va_runV (As := [.int (xs 1), .int 1]) (rest := [.int 0]) ⟨hx, hb, hml, hown, htl⟩ (r_see l D ct h2 y (xs 1) 1 H.size) (cwV 2 htl gL_law_X12_see rfl rfl rfl (by decide +kernel) ⟨Nat.le_of_ble_eq_true rfl, Nat.le_of_ble_eq_true rfl⟩) (zpreV hK hw hS hA zZ.nil hN [0, 1] rfl rfl 11 0 rfl rfl) rfl rfl hl.1 rfl (lv_room (Nat.le_of_ble_eq_true rfl)) dL_law_1016 ⟨Nat.le_of_ble_eq_true rfl, Nat.le_of_ble_eq_true rfl⟩) hw hS hA [0, 1] [] rfl rfl rfl rfl (fun _ H locs hp8 hw hS => ?_)
    have hw : zPD D (fun q : Nat => s.heap.size ≤ q) [(h2, .inr (11, [.int 0, .int 0, .ref (y 0), .int 0, .int 0, .int 0, .int 0, .long 0, .int 0, .int 0, .ref (y 1), .ref (y 2), .ref (y 3), .ref (y 4), .ref (y 5), .ref (y 6), .ref (y 7), .ref (y 8), .ref (y 9), .ref (y 10), .ref (y 11), .ref (y 12), .int 0, .int 0, .ref (y 13), .ref (y 14), .ref (y 15), .ref (y 16), .ref (y 17), .ref (y 18), .ref (y 19), .ref (y 20), .ref (y 21), .ref (y 22), .ref (y 23), .ref (y 24), .int 0, .long 0, .ref (y 25), .ref (y 26), .ref (y 27), .ref (y 28), .ref (y 29), .ref (y 30), .ref (y 31), .ref (y 32), .ref (y 33), .ref (y 34), .ref (y 35), .ref (y 36), .ref (y 37), .int 0, .int 0, .ref (y 38), .long 0, .int 0, .int 0])), (y 1, .inl (ct 0, 8, .inl (upd (upd (fun _ => 0) 2 1) 3 2)))] H := hw
    refine zfr 1019 [.int 0, .int 0] rfl rfl ?_
    refine lv_icmp_eq (tgt := 1306) hx hb dL_law_1019 (by decide) (fun _ => ?_) (fun h => absurd (by decide) h)
    exact law_end C0 hS ls (lv_sub hl [0, 4] rfl)

set_option maxHeartbeats 4000000 in
set_option maxRecDepth 100000 in
theorem law_26 {p : Program} {l : Launch} {e : Env} {s : State} {m : MethodId} {below : List Frame} {meth : Method} {c : Code} {b : Nat} {xs : Nat → Int32} (C0 : lw_At p s m meth c b 7 xs) {D : va_G} {ct : Nat → ClassId} {eE : Nat} (hK : va_K D vwCl (zT ct) s) (hN : zN s) (hZ : zZ [("END", eE)] (fun q : Nat => s.heap.size ≤ q) s s.heap) (h1 h2 h3 : Nat) (x y : Nat → Nat) (pf : Nat → Option Nat) (hpf : pf 0 = some (x 62)) (H : Heap) (locs : List Loc) (hw : zPD D (fun q : Nat => s.heap.size ≤ q) [(h1, .inr (10, [.ref (x 1), .ref (x 3), .ref (x 15), .ref (x 27), .ref (x 28), .ref (x 32), .ref (x 36), .ref (x 37), .ref (x 48), .ref (x 54), .ref (x 60), .ref (x 61), .ref (x 68), .int 0, .int 0])), (x 60, .inr (6, [.int 2147483647, .int 0])), (h2, .inr (11, [.int 0, .int 0, .ref (y 0), .int 0, .int 0, .int 0, .int 0, .long 0, .int 0, .int 0, .ref (y 1), .ref (y 2), .ref (y 3), .ref (y 4), .ref (y 5), .ref (y 6), .ref (y 7), .ref (y 8), .ref (y 9), .ref (y 10), .ref (y 11), .ref (y 12), .int 0, .int 0, .ref (y 13), .ref (y 14), .ref (y 15), .ref (y 16), .ref (y 17), .ref (y 18), .ref (y 19), .ref (y 20), .ref (y 21), .ref (y 22), .ref (y 23), .ref (y 24), .int 0, .long 0, .ref (y 25), .ref (y 26), .ref (y 27), .ref (y 28), .ref (y 29), .ref (y 30), .ref (y 31), .ref (y 32), .ref (y 33), .ref (y 34), .ref (y 35), .ref (y 36), .ref (y 37), .int 0, .int 0, .ref (y 38), .long 0, .int 0, .int 0])), (y 1, .inl (ct 0, 8, .inl (upd (upd (fun _ => 0) 2 1) 3 2))), (y 29, .inl (ct 0, 5, .inl (fun _ => 0)))] H) (hS : va_S (fun q : Nat => s.heap.size ≤ q) s.heap H locs) (ls : Array Slot) (hl : lv_has ls 7 [(4, .int 0), (3, .ref h3), (2, .ref h2), (1, .ref h1), (0, .ref b)]) : W p l e room_1 s m #[Value.ref b] below meth c H locs 248 10101 (lw_Z below #[Value.ref b] s) (F0 m 1024 ls []) := by
  obtain ⟨hx, hb, hr, hml, hown, hts, hX, hbl, hlocks, hgv⟩ := id C0
  have hown : s.vm.findClass RL = some m.cls := hown
  have htl : ∀ w ∈ wsL_law0, w.before #[Value.ref b] s = true := fun w h => hts w (wsL_law_in0 w h)
  have hA : ∀ q : Nat, s.heap.size ≤ q → (fun q : Nat => s.heap.size ≤ q) q := fun _ h => h
  have hbA : ¬ (fun q : Nat => s.heap.size ≤ q) b := Nat.not_le.mpr hbl
  refine lv_aload_n hx hb dL_law_1024 rfl (lv_at hl 3 rfl) ?_
  refine lv_aload_n hx hb dL_law_1025 rfl (lv_at hl 4 rfl) ?_
  refine lv_iload hx hb dL_law_1026 (lv_at hl 0 rfl) ?_
  refine lv_iconst (v := 1) hx hb dL_law_1028 (by decide) ?_
  refine lv_iadd hx hb dL_law_1029 ?_
  refine ztop (.int 1) (congrArg Value.int (by decide)) ?_
  refine va_sld hx hb hX hbl hbA hS (zix (k := 1) (by decide) (by decide) (by decide)).1 dL_law_1030 ?_
  refine ztop (.int (xs 1)) (congrArg Value.int (congrArg xs (by decide))) ?_
  refine zcall2 (va_runV (As := [.int (xs 1)]) (rest := []) ⟨hx, hb, hml, hown, htl⟩ (k_lengths l D ct h1 x (xs 1) H.size) (cwV 1 htl gL_law_X11_lengths rfl rfl rfl (by decide +kernel) ⟨Nat.le_of_ble_eq_true rfl, Nat.le_of_ble_eq_true rfl⟩) (zpreV hK hw hS hA zZ.nil hN [0, 1] rfl rfl 10 0 rfl rfl) rfl rfl hl.1 rfl (lv_room (Nat.le_of_ble_eq_true rfl)) dL_law_1031 ⟨Nat.le_of_ble_eq_true rfl, Nat.le_of_ble_eq_true rfl⟩) hw hS hA [0, 1] [2, 3, 4] rfl rfl rfl rfl (fun _ H locs hp1 hw hS => ?_)
  have hw : zPD D (fun q : Nat => s.heap.size ≤ q) [(h2, .inr (11, [.int 0, .int 0, .ref (y 0), .int 0, .int 0, .int 0, .int 0, .long 0, .int 0, .int 0, .ref (y 1), .ref (y 2), .ref (y 3), .ref (y 4), .ref (y 5), .ref (y 6), .ref (y 7), .ref (y 8), .ref (y 9), .ref (y 10), .ref (y 11), .ref (y 12), .int 0, .int 0, .ref (y 13), .ref (y 14), .ref (y 15), .ref (y 16), .ref (y 17), .ref (y 18), .ref (y 19), .ref (y 20), .ref (y 21), .ref (y 22), .ref (y 23), .ref (y 24), .int 0, .long 0, .ref (y 25), .ref (y 26), .ref (y 27), .ref (y 28), .ref (y 29), .ref (y 30), .ref (y 31), .ref (y 32), .ref (y 33), .ref (y 34), .ref (y 35), .ref (y 36), .ref (y 37), .int 0, .int 0, .ref (y 38), .long 0, .int 0, .int 0])), (y 1, .inl (ct 0, 8, .inl (upd (upd (fun _ => 0) 2 1) 3 2))), (y 29, .inl (ct 0, 5, .inl (fun _ => 0)))] H := hw
  refine zfr 1034 [.int (zln (xs 1))] rfl rfl ?_
  refine lv_aload_n hx hb dL_law_1034 rfl (lv_at hl 2 rfl) ?_
  refine lv_aload_n hx hb dL_law_1035 rfl (lv_at hl 4 rfl) ?_
  refine lv_iload hx hb dL_law_1036 (lv_at hl 0 rfl) ?_
  refine lv_iconst (v := 1) hx hb dL_law_1038 (by decide) ?_
  refine lv_iadd hx hb dL_law_1039 ?_
  refine ztop (.int 1) (congrArg Value.int (by decide)) ?_
  refine va_sld hx hb hX hbl hbA hS (zix (k := 1) (by decide) (by decide) (by decide)).1 dL_law_1040 ?_
  refine ztop (.int (xs 1)) (congrArg Value.int (congrArg xs (by decide))) ?_
  refine zcall2 (va_runV (As := [.int (xs 1)]) (rest := [.int (zln (xs 1))]) ⟨hx, hb, hml, hown, htl⟩ (r_lengths l D ct h2 y (xs 1) H.size) (cwV 1 htl gL_law_X12_lengths rfl rfl rfl (by decide +kernel) ⟨Nat.le_of_ble_eq_true rfl, Nat.le_of_ble_eq_true rfl⟩) (zpreV hK hw hS hA zZ.nil hN [0, 1, 2] rfl rfl 11 0 rfl rfl) rfl rfl hl.1 rfl (lv_room (Nat.le_of_ble_eq_true rfl)) dL_law_1041 ⟨Nat.le_of_ble_eq_true rfl, Nat.le_of_ble_eq_true rfl⟩) hw hS hA [0, 1, 2] [] rfl rfl rfl rfl (fun _ H locs hp2 hw hS => ?_)
  have hw : zPD D (fun q : Nat => s.heap.size ≤ q) [(h2, .inr (11, [.int 0, .int 0, .ref (y 0), .int 0, .int 0, .int 0, .int 0, .long 0, .int 0, .int 0, .ref (y 1), .ref (y 2), .ref (y 3), .ref (y 4), .ref (y 5), .ref (y 6), .ref (y 7), .ref (y 8), .ref (y 9), .ref (y 10), .ref (y 11), .ref (y 12), .int 0, .int 0, .ref (y 13), .ref (y 14), .ref (y 15), .ref (y 16), .ref (y 17), .ref (y 18), .ref (y 19), .ref (y 20), .ref (y 21), .ref (y 22), .ref (y 23), .ref (y 24), .int 0, .long 0, .ref (y 25), .ref (y 26), .ref (y 27), .ref (y 28), .ref (y 29), .ref (y 30), .ref (y 31), .ref (y 32), .ref (y 33), .ref (y 34), .ref (y 35), .ref (y 36), .ref (y 37), .int 0, .int 0, .ref (y 38), .long 0, .int 0, .int 0])), (y 1, .inl (ct 0, 8, .inl (upd (upd (fun _ => 0) 2 1) 3 2))), (y 29, .inl (ct 0, 5, .inl (fun _ => 0)))] H := hw
  refine zfr 1044 [.int (zln (xs 1)), .int (zln (xs 1))] rfl rfl ?_
  refine lv_icmp_eq (tgt := 1306) hx hb dL_law_1044 (by decide) (fun _ => ?_) (fun h => absurd (rfl) h)
  exact law_end C0 hS ls (lv_sub hl [0, 4] rfl)

set_option maxHeartbeats 4000000 in
set_option maxRecDepth 100000 in
theorem law_27 {p : Program} {l : Launch} {e : Env} {s : State} {m : MethodId} {below : List Frame} {meth : Method} {c : Code} {b : Nat} {xs : Nat → Int32} (C0 : lw_At p s m meth c b 7 xs) {D : va_G} {ct : Nat → ClassId} {eE : Nat} (hK : va_K D vwCl (zT ct) s) (hN : zN s) (hZ : zZ [("END", eE)] (fun q : Nat => s.heap.size ≤ q) s s.heap) (h1 h2 h3 : Nat) (x y : Nat → Nat) (pf : Nat → Option Nat) (hpf : pf 0 = some (x 62)) (H : Heap) (locs : List Loc) (hw : zPD D (fun q : Nat => s.heap.size ≤ q) [(h1, .inr (10, [.ref (x 1), .ref (x 3), .ref (x 15), .ref (x 27), .ref (x 28), .ref (x 32), .ref (x 36), .ref (x 37), .ref (x 48), .ref (x 54), .ref (x 60), .ref (x 61), .ref (x 68), .int 0, .int 0])), (x 3, .inr (2, [.ref (x 4), .ref (x 5), .ref (x 6), .ref (x 7), .ref (x 8), .ref (x 9), .ref (x 10), .ref (x 11), .ref (x 12), .int 0, .int 0, .int 1, .int 2])), (x 60, .inr (6, [.int 2147483647, .int 0])), (h2, .inr (11, [.int 0, .int 0, .ref (y 0), .int 0, .int 0, .int 0, .int 0, .long 0, .int 0, .int 0, .ref (y 1), .ref (y 2), .ref (y 3), .ref (y 4), .ref (y 5), .ref (y 6), .ref (y 7), .ref (y 8), .ref (y 9), .ref (y 10), .ref (y 11), .ref (y 12), .int 0, .int 0, .ref (y 13), .ref (y 14), .ref (y 15), .ref (y 16), .ref (y 17), .ref (y 18), .ref (y 19), .ref (y 20), .ref (y 21), .ref (y 22), .ref (y 23), .ref (y 24), .int 0, .long 0, .ref (y 25), .ref (y 26), .ref (y 27), .ref (y 28), .ref (y 29), .ref (y 30), .ref (y 31), .ref (y 32), .ref (y 33), .ref (y 34), .ref (y 35), .ref (y 36), .ref (y 37), .int 0, .int 0, .ref (y 38), .long 0, .int 0, .int 0])), (y 1, .inl (ct 0, 8, .inl (upd (upd (fun _ => 0) 2 1) 3 2))), (y 29, .inl (ct 0, 5, .inl (fun _ => 0)))] H) (hS : va_S (fun q : Nat => s.heap.size ≤ q) s.heap H locs) (ls : Array Slot) (hl : lv_has ls 7 [(4, .int 0), (3, .ref h3), (2, .ref h2), (1, .ref h1), (0, .ref b)]) : W p l e room_1 s m #[Value.ref b] below meth c H locs 248 10101 (lw_Z below #[Value.ref b] s) (F0 m 1049 ls []) := by
  obtain ⟨hx, hb, hr, hml, hown, hts, hX, hbl, hlocks, hgv⟩ := id C0
  have hown : s.vm.findClass RL = some m.cls := hown
  have htl : ∀ w ∈ wsL_law0, w.before #[Value.ref b] s = true := fun w h => hts w (wsL_law_in0 w h)
  have hA : ∀ q : Nat, s.heap.size ≤ q → (fun q : Nat => s.heap.size ≤ q) q := fun _ h => h
  have hbA : ¬ (fun q : Nat => s.heap.size ≤ q) b := Nat.not_le.mpr hbl
  refine lv_aload_n hx hb dL_law_1049 rfl (lv_at hl 3 rfl) ?_
  refine zcall2 (va_runV (As := []) (rest := []) ⟨hx, hb, hml, hown, htl⟩ (k_ask l D ct h1 x H.size) (cwV 0 htl gL_law_X11_ask rfl rfl rfl (by decide +kernel) ⟨Nat.le_of_ble_eq_true rfl, Nat.le_of_ble_eq_true rfl⟩) (zpreV hK hw hS hA zZ.nil hN [0, 1, 2] rfl rfl 10 0 rfl rfl) rfl rfl hl.1 rfl (lv_room (Nat.le_of_ble_eq_true rfl)) dL_law_1050 ⟨Nat.le_of_ble_eq_true rfl, Nat.le_of_ble_eq_true rfl⟩) hw hS hA [0, 1, 2] [3, 4, 5] rfl rfl rfl rfl (fun _ H locs hp1 hw hS => ?_)
  have hw : zPD D (fun q : Nat => s.heap.size ≤ q) [(h2, .inr (11, [.int 0, .int 0, .ref (y 0), .int 0, .int 0, .int 0, .int 0, .long 0, .int 0, .int 0, .ref (y 1), .ref (y 2), .ref (y 3), .ref (y 4), .ref (y 5), .ref (y 6), .ref (y 7), .ref (y 8), .ref (y 9), .ref (y 10), .ref (y 11), .ref (y 12), .int 0, .int 0, .ref (y 13), .ref (y 14), .ref (y 15), .ref (y 16), .ref (y 17), .ref (y 18), .ref (y 19), .ref (y 20), .ref (y 21), .ref (y 22), .ref (y 23), .ref (y 24), .int 0, .long 0, .ref (y 25), .ref (y 26), .ref (y 27), .ref (y 28), .ref (y 29), .ref (y 30), .ref (y 31), .ref (y 32), .ref (y 33), .ref (y 34), .ref (y 35), .ref (y 36), .ref (y 37), .int 0, .int 0, .ref (y 38), .long 0, .int 0, .int 0])), (y 1, .inl (ct 0, 8, .inl (upd (upd (fun _ => 0) 2 1) 3 2))), (y 29, .inl (ct 0, 5, .inl (fun _ => 0)))] H := hw
  refine zfr 1053 [.int (-1)] rfl rfl ?_
  refine lv_aload_n hx hb dL_law_1053 rfl (lv_at hl 2 rfl) ?_
  refine zcall2 (va_runV (As := []) (rest := [.int (-1)]) ⟨hx, hb, hml, hown, htl⟩ (r_ask l D ct h2 y H.size) (cwV 0 htl gL_law_X12_ask rfl rfl rfl (by decide +kernel) ⟨Nat.le_of_ble_eq_true rfl, Nat.le_of_ble_eq_true rfl⟩) (zpreV hK hw hS hA zZ.nil hN [0, 1, 2] rfl rfl 11 0 rfl rfl) rfl rfl hl.1 rfl (lv_room (Nat.le_of_ble_eq_true rfl)) dL_law_1054 ⟨Nat.le_of_ble_eq_true rfl, Nat.le_of_ble_eq_true rfl⟩) hw hS hA [0, 1, 2] [] rfl rfl rfl rfl (fun _ H locs hp2 hw hS => ?_)
  have hw : zPD D (fun q : Nat => s.heap.size ≤ q) [] H := hw
  refine zfr 1057 [.int (-1), .int (-1)] rfl rfl ?_
  refine lv_icmp_eq (tgt := 1306) hx hb dL_law_1057 (by decide) (fun _ => ?_) (fun h => absurd (by decide) h)
  exact law_end C0 hS ls (lv_sub hl [0, 4] rfl)

set_option maxHeartbeats 4000000 in
set_option maxRecDepth 100000 in
theorem law_28 {p : Program} {l : Launch} {e : Env} {s : State} {m : MethodId} {below : List Frame} {meth : Method} {c : Code} {b : Nat} {xs : Nat → Int32} (C0 : lw_At p s m meth c b 7 xs) {D : va_G} {ct : Nat → ClassId} {eE : Nat} (hK : va_K D vwCl (zT ct) s) (hN : zN s) (hZ : zZ [("END", eE)] (fun q : Nat => s.heap.size ≤ q) s s.heap) (h1 h2 h3 : Nat) (x y : Nat → Nat) (pf : Nat → Option Nat) (hpf : pf 0 = some (x 62)) (H : Heap) (locs : List Loc) (hw : zPD D (fun q : Nat => s.heap.size ≤ q) [(h1, .inr (10, [.ref (x 1), .ref (x 3), .ref (x 15), .ref (x 27), .ref (x 28), .ref (x 32), .ref (x 36), .ref (x 37), .ref (x 48), .ref (x 54), .ref (x 60), .ref (x 61), .ref (x 68), .int 0, .int 0])), (x 3, .inr (2, [.ref (x 4), .ref (x 5), .ref (x 6), .ref (x 7), .ref (x 8), .ref (x 9), .ref (x 10), .ref (x 11), .ref (x 12), .int 0, .int 0, .int 1, .int 2])), (h2, .inr (11, [.int 0, .int 0, .ref (y 0), .int 0, .int 0, .int 0, .int 0, .long 0, .int 0, .int 0, .ref (y 1), .ref (y 2), .ref (y 3), .ref (y 4), .ref (y 5), .ref (y 6), .ref (y 7), .ref (y 8), .ref (y 9), .ref (y 10), .ref (y 11), .ref (y 12), .int 0, .int 0, .ref (y 13), .ref (y 14), .ref (y 15), .ref (y 16), .ref (y 17), .ref (y 18), .ref (y 19), .ref (y 20), .ref (y 21), .ref (y 22), .ref (y 23), .ref (y 24), .int 0, .long 0, .ref (y 25), .ref (y 26), .ref (y 27), .ref (y 28), .ref (y 29), .ref (y 30), .ref (y 31), .ref (y 32), .ref (y 33), .ref (y 34), .ref (y 35), .ref (y 36), .ref (y 37), .int 0, .int 0, .ref (y 38), .long 0, .int 0, .int 0])), (y 1, .inl (ct 0, 8, .inl (upd (upd (fun _ => 0) 2 1) 3 2)))] H) (hS : va_S (fun q : Nat => s.heap.size ≤ q) s.heap H locs) (ls : Array Slot) (hl : lv_has ls 7 [(4, .int 0), (3, .ref h3), (2, .ref h2), (1, .ref h1), (0, .ref b)]) : W p l e room_1 s m #[Value.ref b] below meth c H locs 248 10101 (lw_Z below #[Value.ref b] s) (F0 m 1062 ls []) := by
  obtain ⟨hx, hb, hr, hml, hown, hts, hX, hbl, hlocks, hgv⟩ := id C0
  have hown : s.vm.findClass RL = some m.cls := hown
  have htl : ∀ w ∈ wsL_law0, w.before #[Value.ref b] s = true := fun w h => hts w (wsL_law_in0 w h)
  have hA : ∀ q : Nat, s.heap.size ≤ q → (fun q : Nat => s.heap.size ≤ q) q := fun _ h => h
  have hbA : ¬ (fun q : Nat => s.heap.size ≤ q) b := Nat.not_le.mpr hbl
  refine lv_aload_n hx hb dL_law_1062 rfl (lv_at hl 3 rfl) ?_
  refine lv_aload_n hx hb dL_law_1063 rfl (lv_at hl 4 rfl) ?_
  refine lv_iload hx hb dL_law_1064 (lv_at hl 0 rfl) ?_
  refine lv_iconst (v := 1) hx hb dL_law_1066 (by decide) ?_
  refine lv_iadd hx hb dL_law_1067 ?_
  refine ztop (.int 1) (congrArg Value.int (by decide)) ?_
  refine va_sld hx hb hX hbl hbA hS (zix (k := 1) (by decide) (by decide) (by decide)).1 dL_law_1068 ?_
  refine ztop (.int (xs 1)) (congrArg Value.int (congrArg xs (by decide))) ?_
  refine lv_aload_n hx hb dL_law_1069 rfl (lv_at hl 4 rfl) ?_
  refine lv_iload hx hb dL_law_1070 (lv_at hl 0 rfl) ?_
  refine lv_iconst (v := 2) hx hb dL_law_1072 (by decide) ?_
  refine lv_iadd hx hb dL_law_1073 ?_
  refine ztop (.int 2) (congrArg Value.int (by decide)) ?_
  refine va_sld hx hb hX hbl hbA hS (zix (k := 2) (by decide) (by decide) (by decide)).1 dL_law_1074 ?_
  refine ztop (.int (xs 2)) (congrArg Value.int (congrArg xs (by decide))) ?_
  refine zcall2 (va_runV (As := [.int (xs 1), .int (xs 2)]) (rest := []) ⟨hx, hb, hml, hown, htl⟩ (k_stricter l D ct h1 x (xs 1) (xs 2) H.size) (cwV 2 htl gL_law_X11_stricter rfl rfl rfl (by decide +kernel) ⟨Nat.le_of_ble_eq_true rfl, Nat.le_of_ble_eq_true rfl⟩) (zpreV hK hw hS hA zZ.nil hN [0, 1] rfl rfl 10 0 rfl rfl) rfl rfl hl.1 rfl (lv_room (Nat.le_of_ble_eq_true rfl)) dL_law_1075 ⟨Nat.le_of_ble_eq_true rfl, Nat.le_of_ble_eq_true rfl⟩) hw hS hA [0, 1] [2, 3] rfl rfl rfl rfl (fun _ H locs hp1 hw hS => ?_)
  have hw : zPD D (fun q : Nat => s.heap.size ≤ q) [(h2, .inr (11, [.int 0, .int 0, .ref (y 0), .int 0, .int 0, .int 0, .int 0, .long 0, .int 0, .int 0, .ref (y 1), .ref (y 2), .ref (y 3), .ref (y 4), .ref (y 5), .ref (y 6), .ref (y 7), .ref (y 8), .ref (y 9), .ref (y 10), .ref (y 11), .ref (y 12), .int 0, .int 0, .ref (y 13), .ref (y 14), .ref (y 15), .ref (y 16), .ref (y 17), .ref (y 18), .ref (y 19), .ref (y 20), .ref (y 21), .ref (y 22), .ref (y 23), .ref (y 24), .int 0, .long 0, .ref (y 25), .ref (y 26), .ref (y 27), .ref (y 28), .ref (y 29), .ref (y 30), .ref (y 31), .ref (y 32), .ref (y 33), .ref (y 34), .ref (y 35), .ref (y 36), .ref (y 37), .int 0, .int 0, .ref (y 38), .long 0, .int 0, .int 0])), (y 1, .inl (ct 0, 8, .inl (upd (upd (fun _ => 0) 2 1) 3 2)))] H := hw
  refine zfr 1078 [.int (-1)] rfl rfl ?_
  refine lv_aload_n hx hb dL_law_1078 rfl (lv_at hl 2 rfl) ?_
  refine lv_aload_n hx hb dL_law_1079 rfl (lv_at hl 4 rfl) ?_
  refine lv_iload hx hb dL_law_1080 (lv_at hl 0 rfl) ?_
  refine lv_iconst (v := 1) hx hb dL_law_1082 (by decide) ?_
  refine lv_iadd hx hb dL_law_1083 ?_
  refine ztop (.int 1) (congrArg Value.int (by decide)) ?_
  refine va_sld hx hb hX hbl hbA hS (zix (k := 1) (by decide) (by decide) (by decide)).1 dL_law_1084 ?_
  refine ztop (.int (xs 1)) (congrArg Value.int (congrArg xs (by decide))) ?_
  refine lv_aload_n hx hb dL_law_1085 rfl (lv_at hl 4 rfl) ?_
  refine lv_iload hx hb dL_law_1086 (lv_at hl 0 rfl) ?_
  refine lv_iconst (v := 2) hx hb dL_law_1088 (by decide) ?_
  refine lv_iadd hx hb dL_law_1089 ?_
  refine ztop (.int 2) (congrArg Value.int (by decide)) ?_
  refine va_sld hx hb hX hbl hbA hS (zix (k := 2) (by decide) (by decide) (by decide)).1 dL_law_1090 ?_
  refine ztop (.int (xs 2)) (congrArg Value.int (congrArg xs (by decide))) ?_
  refine zcall2 (va_runV (As := [.int (xs 1), .int (xs 2)]) (rest := [.int (-1)]) ⟨hx, hb, hml, hown, htl⟩ (r_stricter l D ct h2 y (xs 1) (xs 2) H.size) (cwV 2 htl gL_law_X12_stricter rfl rfl rfl (by decide +kernel) ⟨Nat.le_of_ble_eq_true rfl, Nat.le_of_ble_eq_true rfl⟩) (zpreV hK hw hS hA zZ.nil hN [0, 1] rfl rfl 11 0 rfl rfl) rfl rfl hl.1 rfl (lv_room (Nat.le_of_ble_eq_true rfl)) dL_law_1091 ⟨Nat.le_of_ble_eq_true rfl, Nat.le_of_ble_eq_true rfl⟩) hw hS hA [0, 1] [] rfl rfl rfl rfl (fun _ H locs hp2 hw hS => ?_)
  have hw : zPD D (fun q : Nat => s.heap.size ≤ q) [(h2, .inr (11, [.int 0, .int 0, .ref (y 0), .int 0, .int 0, .int 0, .int 0, .long 0, .int 0, .int 0, .ref (y 1), .ref (y 2), .ref (y 3), .ref (y 4), .ref (y 5), .ref (y 6), .ref (y 7), .ref (y 8), .ref (y 9), .ref (y 10), .ref (y 11), .ref (y 12), .int 0, .int 0, .ref (y 13), .ref (y 14), .ref (y 15), .ref (y 16), .ref (y 17), .ref (y 18), .ref (y 19), .ref (y 20), .ref (y 21), .ref (y 22), .ref (y 23), .ref (y 24), .int 0, .long 0, .ref (y 25), .ref (y 26), .ref (y 27), .ref (y 28), .ref (y 29), .ref (y 30), .ref (y 31), .ref (y 32), .ref (y 33), .ref (y 34), .ref (y 35), .ref (y 36), .ref (y 37), .int 0, .int 0, .ref (y 38), .long 0, .int 0, .int 0])), (y 1, .inl (ct 0, 8, .inl (upd (upd (fun _ => 0) 2 1) 3 2)))] H := hw
  refine zfr 1094 [.int (-1), .int (-1)] rfl rfl ?_
  refine lv_icmp_eq (tgt := 1306) hx hb dL_law_1094 (by decide) (fun _ => ?_) (fun h => absurd (by decide) h)
  exact law_end C0 hS ls (lv_sub hl [0, 4] rfl)

set_option maxHeartbeats 4000000 in
set_option maxRecDepth 100000 in
theorem law_30 {p : Program} {l : Launch} {e : Env} {s : State} {m : MethodId} {below : List Frame} {meth : Method} {c : Code} {b : Nat} {xs : Nat → Int32} (C0 : lw_At p s m meth c b 7 xs) {D : va_G} {ct : Nat → ClassId} {eE : Nat} (hK : va_K D vwCl (zT ct) s) (hN : zN s) (hZ : zZ [("END", eE)] (fun q : Nat => s.heap.size ≤ q) s s.heap) (h1 h2 h3 : Nat) (x y : Nat → Nat) (pf : Nat → Option Nat) (hpf : pf 0 = some (x 62)) (H : Heap) (locs : List Loc) (hw : zPD D (fun q : Nat => s.heap.size ≤ q) [(h1, .inr (10, [.ref (x 1), .ref (x 3), .ref (x 15), .ref (x 27), .ref (x 28), .ref (x 32), .ref (x 36), .ref (x 37), .ref (x 48), .ref (x 54), .ref (x 60), .ref (x 61), .ref (x 68), .int 0, .int 0])), (x 3, .inr (2, [.ref (x 4), .ref (x 5), .ref (x 6), .ref (x 7), .ref (x 8), .ref (x 9), .ref (x 10), .ref (x 11), .ref (x 12), .int 0, .int 0, .int 1, .int 2])), (x 36, .inr (0, [.ref (x 3)])), (x 48, .inr (7, [.ref (x 49), .ref (x 50), .ref (x 51), .ref (x 52), .ref (x 53), .int 0])), (x 49, .inl (ct 0, 6, .inl (fun _ => 0))), (x 50, .inl (ct 0, 6, .inl (fun _ => 0))), (x 51, .inl (ct 0, 6, .inl (fun _ => 0))), (x 52, .inl (ct 0, 6, .inl (fun _ => 0))), (x 53, .inl (ct 0, 6, .inl (fun _ => 0))), (x 54, .inr (7, [.ref (x 55), .ref (x 56), .ref (x 57), .ref (x 58), .ref (x 59), .int 0])), (x 55, .inl (ct 0, 6, .inl (fun _ => 0))), (x 56, .inl (ct 0, 6, .inl (fun _ => 0))), (x 57, .inl (ct 0, 6, .inl (fun _ => 0))), (x 58, .inl (ct 0, 6, .inl (fun _ => 0))), (x 59, .inl (ct 0, 6, .inl (fun _ => 0))), (h2, .inr (11, [.int 0, .int 0, .ref (y 0), .int 0, .int 0, .int 0, .int 0, .long 0, .int 0, .int 0, .ref (y 1), .ref (y 2), .ref (y 3), .ref (y 4), .ref (y 5), .ref (y 6), .ref (y 7), .ref (y 8), .ref (y 9), .ref (y 10), .ref (y 11), .ref (y 12), .int 0, .int 0, .ref (y 13), .ref (y 14), .ref (y 15), .ref (y 16), .ref (y 17), .ref (y 18), .ref (y 19), .ref (y 20), .ref (y 21), .ref (y 22), .ref (y 23), .ref (y 24), .int 0, .long 0, .ref (y 25), .ref (y 26), .ref (y 27), .ref (y 28), .ref (y 29), .ref (y 30), .ref (y 31), .ref (y 32), .ref (y 33), .ref (y 34), .ref (y 35), .ref (y 36), .ref (y 37), .int 0, .int 0, .ref (y 38), .long 0, .int 0, .int 0])), (y 1, .inl (ct 0, 8, .inl (upd (upd (fun _ => 0) 2 1) 3 2))), (y 32, .inl (ct 0, 31, .inl (fun _ => 0))), (y 33, .inl (ct 0, 31, .inl (fun _ => 0)))] H) (hS : va_S (fun q : Nat => s.heap.size ≤ q) s.heap H locs) (ls : Array Slot) (hl : lv_has ls 7 [(4, .int 0), (3, .ref h3), (2, .ref h2), (1, .ref h1), (0, .ref b)]) : W p l e room_1 s m #[Value.ref b] below meth c H locs 248 10101 (lw_Z below #[Value.ref b] s) (F0 m 1179 ls []) := by
  obtain ⟨hx, hb, hr, hml, hown, hts, hX, hbl, hlocks, hgv⟩ := id C0
  have hown : s.vm.findClass RL = some m.cls := hown
  have htl : ∀ w ∈ wsL_law0, w.before #[Value.ref b] s = true := fun w h => hts w (wsL_law_in0 w h)
  have hA : ∀ q : Nat, s.heap.size ≤ q → (fun q : Nat => s.heap.size ≤ q) q := fun _ h => h
  have hbA : ¬ (fun q : Nat => s.heap.size ≤ q) b := Nat.not_le.mpr hbl
  refine lv_aload_n hx hb dL_law_1179 rfl (lv_at hl 3 rfl) ?_
  refine lv_aload_n hx hb dL_law_1180 rfl (lv_at hl 4 rfl) ?_
  refine lv_iload hx hb dL_law_1181 (lv_at hl 0 rfl) ?_
  refine lv_iconst (v := 1) hx hb dL_law_1183 (by decide) ?_
  refine lv_iadd hx hb dL_law_1184 ?_
  refine ztop (.int 1) (congrArg Value.int (by decide)) ?_
  refine va_sld hx hb hX hbl hbA hS (zix (k := 1) (by decide) (by decide) (by decide)).1 dL_law_1185 ?_
  refine ztop (.int (xs 1)) (congrArg Value.int (congrArg xs (by decide))) ?_
  refine lv_aload_n hx hb dL_law_1186 rfl (lv_at hl 4 rfl) ?_
  refine lv_iload hx hb dL_law_1187 (lv_at hl 0 rfl) ?_
  refine lv_iconst (v := 2) hx hb dL_law_1189 (by decide) ?_
  refine lv_iadd hx hb dL_law_1190 ?_
  refine ztop (.int 2) (congrArg Value.int (by decide)) ?_
  refine va_sld hx hb hX hbl hbA hS (zix (k := 2) (by decide) (by decide) (by decide)).1 dL_law_1191 ?_
  refine ztop (.int (xs 2)) (congrArg Value.int (congrArg xs (by decide))) ?_
  refine lv_aload_n hx hb dL_law_1192 rfl (lv_at hl 4 rfl) ?_
  refine lv_iload hx hb dL_law_1193 (lv_at hl 0 rfl) ?_
  refine lv_iconst (v := 3) hx hb dL_law_1195 (by decide) ?_
  refine lv_iadd hx hb dL_law_1196 ?_
  refine ztop (.int 3) (congrArg Value.int (by decide)) ?_
  refine va_sld hx hb hX hbl hbA hS (zix (k := 3) (by decide) (by decide) (by decide)).1 dL_law_1197 ?_
  refine ztop (.int (xs 3)) (congrArg Value.int (congrArg xs (by decide))) ?_
  refine zcall2 (va_runV (As := [.int (xs 1), .int (xs 2), .int (xs 3)]) (rest := []) ⟨hx, hb, hml, hown, htl⟩ (k_years l D ct h1 x (xs 1) (xs 2) (xs 3) H.size) (cwV 3 htl gL_law_X11_years rfl rfl rfl (by decide +kernel) ⟨Nat.le_of_ble_eq_true rfl, Nat.le_of_ble_eq_true rfl⟩) (zpreV hK hw hS hA zZ.nil hN [0, 1, 2, 3, 4, 5, 6, 7, 8, 9, 10, 11, 12, 13, 14] rfl rfl 10 0 rfl rfl) rfl rfl hl.1 rfl (lv_room (Nat.le_of_ble_eq_true rfl)) dL_law_1198 ⟨Nat.le_of_ble_eq_true rfl, Nat.le_of_ble_eq_true rfl⟩) hw hS hA [0, 1, 2, 3, 4, 5, 6, 7, 8, 9, 10, 11, 12, 13, 14] [15, 16, 17, 18] rfl rfl rfl rfl (fun _ H locs hp1 hw hS => ?_)
  have hw : zPD D (fun q : Nat => s.heap.size ≤ q) [(h2, .inr (11, [.int 0, .int 0, .ref (y 0), .int 0, .int 0, .int 0, .int 0, .long 0, .int 0, .int 0, .ref (y 1), .ref (y 2), .ref (y 3), .ref (y 4), .ref (y 5), .ref (y 6), .ref (y 7), .ref (y 8), .ref (y 9), .ref (y 10), .ref (y 11), .ref (y 12), .int 0, .int 0, .ref (y 13), .ref (y 14), .ref (y 15), .ref (y 16), .ref (y 17), .ref (y 18), .ref (y 19), .ref (y 20), .ref (y 21), .ref (y 22), .ref (y 23), .ref (y 24), .int 0, .long 0, .ref (y 25), .ref (y 26), .ref (y 27), .ref (y 28), .ref (y 29), .ref (y 30), .ref (y 31), .ref (y 32), .ref (y 33), .ref (y 34), .ref (y 35), .ref (y 36), .ref (y 37), .int 0, .int 0, .ref (y 38), .long 0, .int 0, .int 0])), (y 1, .inl (ct 0, 8, .inl (upd (upd (fun _ => 0) 2 1) 3 2))), (y 32, .inl (ct 0, 31, .inl (fun _ => 0))), (y 33, .inl (ct 0, 31, .inl (fun _ => 0)))] H := hw
  refine zfr 1201 [.int (zyr (xs 1) (xs 2) (xs 3))] rfl rfl ?_
  refine lv_aload_n hx hb dL_law_1201 rfl (lv_at hl 2 rfl) ?_
  refine lv_aload_n hx hb dL_law_1202 rfl (lv_at hl 4 rfl) ?_
  refine lv_iload hx hb dL_law_1203 (lv_at hl 0 rfl) ?_
  refine lv_iconst (v := 1) hx hb dL_law_1205 (by decide) ?_
  refine lv_iadd hx hb dL_law_1206 ?_
  refine ztop (.int 1) (congrArg Value.int (by decide)) ?_
  refine va_sld hx hb hX hbl hbA hS (zix (k := 1) (by decide) (by decide) (by decide)).1 dL_law_1207 ?_
  refine ztop (.int (xs 1)) (congrArg Value.int (congrArg xs (by decide))) ?_
  refine lv_aload_n hx hb dL_law_1208 rfl (lv_at hl 4 rfl) ?_
  refine lv_iload hx hb dL_law_1209 (lv_at hl 0 rfl) ?_
  refine lv_iconst (v := 2) hx hb dL_law_1211 (by decide) ?_
  refine lv_iadd hx hb dL_law_1212 ?_
  refine ztop (.int 2) (congrArg Value.int (by decide)) ?_
  refine va_sld hx hb hX hbl hbA hS (zix (k := 2) (by decide) (by decide) (by decide)).1 dL_law_1213 ?_
  refine ztop (.int (xs 2)) (congrArg Value.int (congrArg xs (by decide))) ?_
  refine lv_aload_n hx hb dL_law_1214 rfl (lv_at hl 4 rfl) ?_
  refine lv_iload hx hb dL_law_1215 (lv_at hl 0 rfl) ?_
  refine lv_iconst (v := 3) hx hb dL_law_1217 (by decide) ?_
  refine lv_iadd hx hb dL_law_1218 ?_
  refine ztop (.int 3) (congrArg Value.int (by decide)) ?_
  refine va_sld hx hb hX hbl hbA hS (zix (k := 3) (by decide) (by decide) (by decide)).1 dL_law_1219 ?_
  refine ztop (.int (xs 3)) (congrArg Value.int (congrArg xs (by decide))) ?_
  refine zcall2 (va_runV (As := [.int (xs 1), .int (xs 2), .int (xs 3)]) (rest := [.int (zyr (xs 1) (xs 2) (xs 3))]) ⟨hx, hb, hml, hown, htl⟩ (r_years l D ct h2 y (xs 1) (xs 2) (xs 3) H.size) (cwV 3 htl gL_law_X12_years rfl rfl rfl (by decide +kernel) ⟨Nat.le_of_ble_eq_true rfl, Nat.le_of_ble_eq_true rfl⟩) (zpreV hK hw hS hA zZ.nil hN [0, 1, 2, 3] rfl rfl 11 0 rfl rfl) rfl rfl hl.1 rfl (lv_room (Nat.le_of_ble_eq_true rfl)) dL_law_1220 ⟨Nat.le_of_ble_eq_true rfl, Nat.le_of_ble_eq_true rfl⟩) hw hS hA [0, 1, 2, 3] [] rfl rfl rfl rfl (fun _ H locs hp2 hw hS => ?_)
  have hw : zPD D (fun q : Nat => s.heap.size ≤ q) [] H := hw
  refine zfr 1223 [.int (zyr (xs 1) (xs 2) (xs 3)), .int (zyr (xs 1) (xs 2) (xs 3))] rfl rfl ?_
  refine lv_icmp_eq (tgt := 1306) hx hb dL_law_1223 (by decide) (fun _ => ?_) (fun h => absurd (rfl) h)
  exact law_end C0 hS ls (lv_sub hl [0, 4] rfl)

set_option maxHeartbeats 4000000 in
set_option maxRecDepth 100000 in
theorem law_31 {p : Program} {l : Launch} {e : Env} {s : State} {m : MethodId} {below : List Frame} {meth : Method} {c : Code} {b : Nat} {xs : Nat → Int32} (C0 : lw_At p s m meth c b 7 xs) {D : va_G} {ct : Nat → ClassId} {eE : Nat} (hK : va_K D vwCl (zT ct) s) (hN : zN s) (hZ : zZ [("END", eE)] (fun q : Nat => s.heap.size ≤ q) s s.heap) (h1 h2 h3 : Nat) (x y : Nat → Nat) (pf : Nat → Option Nat) (hpf : pf 0 = some (x 62)) (H : Heap) (locs : List Loc) (hw : zPD D (fun q : Nat => s.heap.size ≤ q) [(h1, .inr (10, [.ref (x 1), .ref (x 3), .ref (x 15), .ref (x 27), .ref (x 28), .ref (x 32), .ref (x 36), .ref (x 37), .ref (x 48), .ref (x 54), .ref (x 60), .ref (x 61), .ref (x 68), .int 0, .int 0])), (x 68, .inl (ct 5, 4, .inr (.inr (.inr (.inr (va_up (va_up (va_up (va_up (fun _ => none) 0 (some (x 69))) 1 (some (x 81))) 2 (some (x 93))) 3 (some (x 105)))))))), (x 60, .inr (6, [.int 2147483647, .int 0])), (x 48, .inr (7, [.ref (x 49), .ref (x 50), .ref (x 51), .ref (x 52), .ref (x 53), .int 0])), (x 49, .inl (ct 0, 6, .inl (fun _ => 0))), (x 50, .inl (ct 0, 6, .inl (fun _ => 0))), (x 51, .inl (ct 0, 6, .inl (fun _ => 0))), (x 52, .inl (ct 0, 6, .inl (fun _ => 0))), (x 53, .inl (ct 0, 6, .inl (fun _ => 0))), (x 28, .inr (1, [.ref (x 29), .ref (x 30), .ref (x 31), .int 0])), (x 29, .inl (ct 0, 40, .inl (fun _ => 0))), (x 30, .inl (ct 0, 40, .inl (fun _ => 0))), (x 31, .inl (ct 0, 40, .inl (fun _ => 0))), (x 69, .inr (5, [.ref (x 70), .ref (x 76), .ref (x 80), .int 0])), (x 70, .inr (7, [.ref (x 71), .ref (x 72), .ref (x 73), .ref (x 74), .ref (x 75), .int 0])), (x 71, .inl (ct 0, 6, .inl (fun _ => 0))), (x 72, .inl (ct 0, 6, .inl (fun _ => 0))), (x 73, .inl (ct 0, 6, .inl (fun _ => 0))), (x 74, .inl (ct 0, 6, .inl (fun _ => 0))), (x 75, .inl (ct 0, 6, .inl (fun _ => 0))), (x 76, .inr (1, [.ref (x 77), .ref (x 78), .ref (x 79), .int 0])), (x 77, .inl (ct 0, 40, .inl (fun _ => 0))), (x 78, .inl (ct 0, 40, .inl (fun _ => 0))), (x 79, .inl (ct 0, 40, .inl (fun _ => 0))), (x 80, .inr (6, [.int 2147483647, .int 0])), (x 81, .inr (5, [.ref (x 82), .ref (x 88), .ref (x 92), .int 0])), (x 82, .inr (7, [.ref (x 83), .ref (x 84), .ref (x 85), .ref (x 86), .ref (x 87), .int 0])), (x 83, .inl (ct 0, 6, .inl (fun _ => 0))), (x 84, .inl (ct 0, 6, .inl (fun _ => 0))), (x 85, .inl (ct 0, 6, .inl (fun _ => 0))), (x 86, .inl (ct 0, 6, .inl (fun _ => 0))), (x 87, .inl (ct 0, 6, .inl (fun _ => 0))), (x 88, .inr (1, [.ref (x 89), .ref (x 90), .ref (x 91), .int 0])), (x 89, .inl (ct 0, 40, .inl (fun _ => 0))), (x 90, .inl (ct 0, 40, .inl (fun _ => 0))), (x 91, .inl (ct 0, 40, .inl (fun _ => 0))), (x 92, .inr (6, [.int 2147483647, .int 0])), (x 93, .inr (5, [.ref (x 94), .ref (x 100), .ref (x 104), .int 0])), (x 94, .inr (7, [.ref (x 95), .ref (x 96), .ref (x 97), .ref (x 98), .ref (x 99), .int 0])), (x 95, .inl (ct 0, 6, .inl (fun _ => 0))), (x 96, .inl (ct 0, 6, .inl (fun _ => 0))), (x 97, .inl (ct 0, 6, .inl (fun _ => 0))), (x 98, .inl (ct 0, 6, .inl (fun _ => 0))), (x 99, .inl (ct 0, 6, .inl (fun _ => 0))), (x 100, .inr (1, [.ref (x 101), .ref (x 102), .ref (x 103), .int 0])), (x 101, .inl (ct 0, 40, .inl (fun _ => 0))), (x 102, .inl (ct 0, 40, .inl (fun _ => 0))), (x 103, .inl (ct 0, 40, .inl (fun _ => 0))), (x 104, .inr (6, [.int 2147483647, .int 0])), (x 105, .inr (5, [.ref (x 106), .ref (x 112), .ref (x 116), .int 0])), (x 106, .inr (7, [.ref (x 107), .ref (x 108), .ref (x 109), .ref (x 110), .ref (x 111), .int 0])), (x 107, .inl (ct 0, 6, .inl (fun _ => 0))), (x 108, .inl (ct 0, 6, .inl (fun _ => 0))), (x 109, .inl (ct 0, 6, .inl (fun _ => 0))), (x 110, .inl (ct 0, 6, .inl (fun _ => 0))), (x 111, .inl (ct 0, 6, .inl (fun _ => 0))), (x 112, .inr (1, [.ref (x 113), .ref (x 114), .ref (x 115), .int 0])), (x 113, .inl (ct 0, 40, .inl (fun _ => 0))), (x 114, .inl (ct 0, 40, .inl (fun _ => 0))), (x 115, .inl (ct 0, 40, .inl (fun _ => 0))), (x 116, .inr (6, [.int 2147483647, .int 0])), (h2, .inr (11, [.int 0, .int 0, .ref (y 0), .int 0, .int 0, .int 0, .int 0, .long 0, .int 0, .int 0, .ref (y 1), .ref (y 2), .ref (y 3), .ref (y 4), .ref (y 5), .ref (y 6), .ref (y 7), .ref (y 8), .ref (y 9), .ref (y 10), .ref (y 11), .ref (y 12), .int 0, .int 0, .ref (y 13), .ref (y 14), .ref (y 15), .ref (y 16), .ref (y 17), .ref (y 18), .ref (y 19), .ref (y 20), .ref (y 21), .ref (y 22), .ref (y 23), .ref (y 24), .int 0, .long 0, .ref (y 25), .ref (y 26), .ref (y 27), .ref (y 28), .ref (y 29), .ref (y 30), .ref (y 31), .ref (y 32), .ref (y 33), .ref (y 34), .ref (y 35), .ref (y 36), .ref (y 37), .int 0, .int 0, .ref (y 38), .long 0, .int 0, .int 0])), (y 37, .inl (ct 3, 4, .inl (fun _ => 0))), (y 25, .inl (ct 0, 6, .inl (fun _ => 0))), (y 26, .inl (ct 0, 240, .inl (fun _ => 0))), (y 27, .inl (ct 0, 240, .inl (fun _ => 0))), (y 28, .inl (ct 0, 240, .inl (fun _ => 0))), (y 29, .inl (ct 0, 5, .inl (fun _ => 0))), (y 30, .inl (ct 0, 40, .inl (fun _ => 0))), (y 31, .inl (ct 3, 40, .inl (fun _ => 0))), (y 32, .inl (ct 0, 31, .inl (fun _ => 0))), (y 35, .inl (ct 0, 124, .inl (fun _ => 0)))] H) (hS : va_S (fun q : Nat => s.heap.size ≤ q) s.heap H locs) (ls : Array Slot) (hl : lv_has ls 7 [(4, .int 0), (3, .ref h3), (2, .ref h2), (1, .ref h1), (0, .ref b)]) : W p l e room_1 s m #[Value.ref b] below meth c H locs 248 10101 (lw_Z below #[Value.ref b] s) (F0 m 1228 ls []) := by
  obtain ⟨hx, hb, hr, hml, hown, hts, hX, hbl, hlocks, hgv⟩ := id C0
  have hown : s.vm.findClass RL = some m.cls := hown
  have htl : ∀ w ∈ wsL_law0, w.before #[Value.ref b] s = true := fun w h => hts w (wsL_law_in0 w h)
  have hA : ∀ q : Nat, s.heap.size ≤ q → (fun q : Nat => s.heap.size ≤ q) q := fun _ h => h
  have hbA : ¬ (fun q : Nat => s.heap.size ≤ q) b := Nat.not_le.mpr hbl
  by_cases hm : (xs 1).toInt < 0 ∨ 3 < (xs 1).toInt
  · refine lv_aload_n hx hb dL_law_1228 rfl (lv_at hl 3 rfl) ?_
    refine lv_aload_n hx hb dL_law_1229 rfl (lv_at hl 4 rfl) ?_
    refine lv_iload hx hb dL_law_1230 (lv_at hl 0 rfl) ?_
    refine lv_iconst (v := 1) hx hb dL_law_1232 (by decide) ?_
    refine lv_iadd hx hb dL_law_1233 ?_
    refine ztop (.int 1) (congrArg Value.int (by decide)) ?_
    refine va_sld hx hb hX hbl hbA hS (zix (k := 1) (by decide) (by decide) (by decide)).1 dL_law_1234 ?_
    refine ztop (.int (xs 1)) (congrArg Value.int (congrArg xs (by decide))) ?_
    refine lv_aload_n hx hb dL_law_1235 rfl (lv_at hl 4 rfl) ?_
    refine lv_iload hx hb dL_law_1236 (lv_at hl 0 rfl) ?_
    refine lv_iconst (v := 2) hx hb dL_law_1238 (by decide) ?_
    refine lv_iadd hx hb dL_law_1239 ?_
    refine ztop (.int 2) (congrArg Value.int (by decide)) ?_
    refine va_sld hx hb hX hbl hbA hS (zix (k := 2) (by decide) (by decide) (by decide)).1 dL_law_1240 ?_
    refine ztop (.int (xs 2)) (congrArg Value.int (congrArg xs (by decide))) ?_
    refine lv_if_eq (tgt := 1248) hx hb dL_law_1241 (by decide) (fun c_1 => ?_) (fun c_1 => ?_)
    · refine lv_iconst (v := 0) hx hb dL_law_1248 (by decide) ?_
      refine zcall2 (va_runV (As := [.int (xs 1), .int 0]) (rest := []) ⟨hx, hb, hml, hown, htl⟩ (k_markout l D ct h1 x (xs 1) 0 (hm) H.size) (cwV 2 htl gL_law_X11_mark rfl rfl rfl (by decide +kernel) ⟨Nat.le_of_ble_eq_true rfl, Nat.le_of_ble_eq_true rfl⟩) (zpreV hK hw hS hA zZ.nil hN [0] rfl rfl 10 0 rfl rfl) rfl rfl hl.1 rfl (lv_room (Nat.le_of_ble_eq_true rfl)) dL_law_1249 ⟨Nat.le_of_ble_eq_true rfl, Nat.le_of_ble_eq_true rfl⟩) hw hS hA [0] [1, 2, 3, 4, 5, 6, 7, 8, 9, 10, 11, 12, 13, 14, 15, 16, 17, 18, 19, 20, 21, 22, 23, 24, 25, 26, 27, 28, 29, 30, 31, 32, 33, 34, 35, 36, 37, 38, 39, 40, 41, 42, 43, 44, 45, 46, 47, 48, 49, 50, 51, 52, 53, 54, 55, 56, 57, 58, 59, 60, 61, 62, 63, 64, 65, 66, 67, 68, 69, 70, 71] rfl rfl rfl rfl (fun _ H locs hp2 hw hS => ?_)
      have hw : zPD D (fun q : Nat => s.heap.size ≤ q) [(x 68, .inl (ct 5, 4, .inr (.inr (.inr (.inr (va_up (va_up (va_up (va_up (fun _ => none) 0 (some (x 69))) 1 (some (x 81))) 2 (some (x 93))) 3 (some (x 105)))))))), (x 60, .inr (6, [.int 2147483647, .int 0])), (x 48, .inr (7, [.ref (x 49), .ref (x 50), .ref (x 51), .ref (x 52), .ref (x 53), .int 0])), (x 49, .inl (ct 0, 6, .inl (fun _ => 0))), (x 50, .inl (ct 0, 6, .inl (fun _ => 0))), (x 51, .inl (ct 0, 6, .inl (fun _ => 0))), (x 52, .inl (ct 0, 6, .inl (fun _ => 0))), (x 53, .inl (ct 0, 6, .inl (fun _ => 0))), (x 28, .inr (1, [.ref (x 29), .ref (x 30), .ref (x 31), .int 0])), (x 29, .inl (ct 0, 40, .inl (fun _ => 0))), (x 30, .inl (ct 0, 40, .inl (fun _ => 0))), (x 31, .inl (ct 0, 40, .inl (fun _ => 0))), (x 69, .inr (5, [.ref (x 70), .ref (x 76), .ref (x 80), .int 0])), (x 70, .inr (7, [.ref (x 71), .ref (x 72), .ref (x 73), .ref (x 74), .ref (x 75), .int 0])), (x 71, .inl (ct 0, 6, .inl (fun _ => 0))), (x 72, .inl (ct 0, 6, .inl (fun _ => 0))), (x 73, .inl (ct 0, 6, .inl (fun _ => 0))), (x 74, .inl (ct 0, 6, .inl (fun _ => 0))), (x 75, .inl (ct 0, 6, .inl (fun _ => 0))), (x 76, .inr (1, [.ref (x 77), .ref (x 78), .ref (x 79), .int 0])), (x 77, .inl (ct 0, 40, .inl (fun _ => 0))), (x 78, .inl (ct 0, 40, .inl (fun _ => 0))), (x 79, .inl (ct 0, 40, .inl (fun _ => 0))), (x 80, .inr (6, [.int 2147483647, .int 0])), (x 81, .inr (5, [.ref (x 82), .ref (x 88), .ref (x 92), .int 0])), (x 82, .inr (7, [.ref (x 83), .ref (x 84), .ref (x 85), .ref (x 86), .ref (x 87), .int 0])), (x 83, .inl (ct 0, 6, .inl (fun _ => 0))), (x 84, .inl (ct 0, 6, .inl (fun _ => 0))), (x 85, .inl (ct 0, 6, .inl (fun _ => 0))), (x 86, .inl (ct 0, 6, .inl (fun _ => 0))), (x 87, .inl (ct 0, 6, .inl (fun _ => 0))), (x 88, .inr (1, [.ref (x 89), .ref (x 90), .ref (x 91), .int 0])), (x 89, .inl (ct 0, 40, .inl (fun _ => 0))), (x 90, .inl (ct 0, 40, .inl (fun _ => 0))), (x 91, .inl (ct 0, 40, .inl (fun _ => 0))), (x 92, .inr (6, [.int 2147483647, .int 0])), (x 93, .inr (5, [.ref (x 94), .ref (x 100), .ref (x 104), .int 0])), (x 94, .inr (7, [.ref (x 95), .ref (x 96), .ref (x 97), .ref (x 98), .ref (x 99), .int 0])), (x 95, .inl (ct 0, 6, .inl (fun _ => 0))), (x 96, .inl (ct 0, 6, .inl (fun _ => 0))), (x 97, .inl (ct 0, 6, .inl (fun _ => 0))), (x 98, .inl (ct 0, 6, .inl (fun _ => 0))), (x 99, .inl (ct 0, 6, .inl (fun _ => 0))), (x 100, .inr (1, [.ref (x 101), .ref (x 102), .ref (x 103), .int 0])), (x 101, .inl (ct 0, 40, .inl (fun _ => 0))), (x 102, .inl (ct 0, 40, .inl (fun _ => 0))), (x 103, .inl (ct 0, 40, .inl (fun _ => 0))), (x 104, .inr (6, [.int 2147483647, .int 0])), (x 105, .inr (5, [.ref (x 106), .ref (x 112), .ref (x 116), .int 0])), (x 106, .inr (7, [.ref (x 107), .ref (x 108), .ref (x 109), .ref (x 110), .ref (x 111), .int 0])), (x 107, .inl (ct 0, 6, .inl (fun _ => 0))), (x 108, .inl (ct 0, 6, .inl (fun _ => 0))), (x 109, .inl (ct 0, 6, .inl (fun _ => 0))), (x 110, .inl (ct 0, 6, .inl (fun _ => 0))), (x 111, .inl (ct 0, 6, .inl (fun _ => 0))), (x 112, .inr (1, [.ref (x 113), .ref (x 114), .ref (x 115), .int 0])), (x 113, .inl (ct 0, 40, .inl (fun _ => 0))), (x 114, .inl (ct 0, 40, .inl (fun _ => 0))), (x 115, .inl (ct 0, 40, .inl (fun _ => 0))), (x 116, .inr (6, [.int 2147483647, .int 0])), (h2, .inr (11, [.int 0, .int 0, .ref (y 0), .int 0, .int 0, .int 0, .int 0, .long 0, .int 0, .int 0, .ref (y 1), .ref (y 2), .ref (y 3), .ref (y 4), .ref (y 5), .ref (y 6), .ref (y 7), .ref (y 8), .ref (y 9), .ref (y 10), .ref (y 11), .ref (y 12), .int 0, .int 0, .ref (y 13), .ref (y 14), .ref (y 15), .ref (y 16), .ref (y 17), .ref (y 18), .ref (y 19), .ref (y 20), .ref (y 21), .ref (y 22), .ref (y 23), .ref (y 24), .int 0, .long 0, .ref (y 25), .ref (y 26), .ref (y 27), .ref (y 28), .ref (y 29), .ref (y 30), .ref (y 31), .ref (y 32), .ref (y 33), .ref (y 34), .ref (y 35), .ref (y 36), .ref (y 37), .int 0, .int 0, .ref (y 38), .long 0, .int 0, .int 0])), (y 37, .inl (ct 3, 4, .inl (fun _ => 0))), (y 25, .inl (ct 0, 6, .inl (fun _ => 0))), (y 26, .inl (ct 0, 240, .inl (fun _ => 0))), (y 27, .inl (ct 0, 240, .inl (fun _ => 0))), (y 28, .inl (ct 0, 240, .inl (fun _ => 0))), (y 29, .inl (ct 0, 5, .inl (fun _ => 0))), (y 30, .inl (ct 0, 40, .inl (fun _ => 0))), (y 31, .inl (ct 3, 40, .inl (fun _ => 0))), (y 32, .inl (ct 0, 31, .inl (fun _ => 0))), (y 35, .inl (ct 0, 124, .inl (fun _ => 0)))] H := hw
      refine zfr 1252 [.int 0] rfl rfl ?_
      refine lv_aload_n hx hb dL_law_1252 rfl (lv_at hl 2 rfl) ?_
      refine lv_aload_n hx hb dL_law_1253 rfl (lv_at hl 4 rfl) ?_
      refine lv_iload hx hb dL_law_1254 (lv_at hl 0 rfl) ?_
      refine lv_iconst (v := 1) hx hb dL_law_1256 (by decide) ?_
      refine lv_iadd hx hb dL_law_1257 ?_
      refine ztop (.int 1) (congrArg Value.int (by decide)) ?_
      refine va_sld hx hb hX hbl hbA hS (zix (k := 1) (by decide) (by decide) (by decide)).1 dL_law_1258 ?_
      refine ztop (.int (xs 1)) (congrArg Value.int (congrArg xs (by decide))) ?_
      refine lv_aload_n hx hb dL_law_1259 rfl (lv_at hl 4 rfl) ?_
      refine lv_iload hx hb dL_law_1260 (lv_at hl 0 rfl) ?_
      refine lv_iconst (v := 2) hx hb dL_law_1262 (by decide) ?_
      refine lv_iadd hx hb dL_law_1263 ?_
      refine ztop (.int 2) (congrArg Value.int (by decide)) ?_
      refine va_sld hx hb hX hbl hbA hS (zix (k := 2) (by decide) (by decide) (by decide)).1 dL_law_1264 ?_
      refine ztop (.int (xs 2)) (congrArg Value.int (congrArg xs (by decide))) ?_
      refine lv_if_eq (tgt := 1272) hx hb dL_law_1265 (by decide) (fun _ => ?_) (fun h => absurd (c_1) h)
      refine lv_iconst (v := 0) hx hb dL_law_1272 (by decide) ?_
      refine zcall2 (va_runV (As := [.int (xs 1), .int 0]) (rest := [.int 0]) ⟨hx, hb, hml, hown, htl⟩ (r_markout l D ct h2 y (xs 1) 0 (hm) H.size) (cwV 2 htl gL_law_X12_mark rfl rfl rfl (by decide +kernel) ⟨Nat.le_of_ble_eq_true rfl, Nat.le_of_ble_eq_true rfl⟩) (zpreV hK hw hS hA zZ.nil hN [60] rfl rfl 11 60 rfl rfl) rfl rfl hl.1 rfl (lv_room (Nat.le_of_ble_eq_true rfl)) dL_law_1273 ⟨Nat.le_of_ble_eq_true rfl, Nat.le_of_ble_eq_true rfl⟩) hw hS hA [60] [0, 1, 2, 3, 4, 5, 6, 7, 8, 9, 10, 11, 12, 13, 14, 15, 16, 17, 18, 19, 20, 21, 22, 23, 24, 25, 26, 27, 28, 29, 30, 31, 32, 33, 34, 35, 36, 37, 38, 39, 40, 41, 42, 43, 44, 45, 46, 47, 48, 49, 50, 51, 52, 53, 54, 55, 56, 57, 58, 59, 61, 62, 63, 64, 65, 66, 67, 68, 69, 70] rfl rfl rfl rfl (fun _ H locs hp4 hw hS => ?_)
      have hw : zPD D (fun q : Nat => s.heap.size ≤ q) [(x 68, .inl (ct 5, 4, .inr (.inr (.inr (.inr (va_up (va_up (va_up (va_up (fun _ => none) 0 (some (x 69))) 1 (some (x 81))) 2 (some (x 93))) 3 (some (x 105)))))))), (x 60, .inr (6, [.int 2147483647, .int 0])), (x 48, .inr (7, [.ref (x 49), .ref (x 50), .ref (x 51), .ref (x 52), .ref (x 53), .int 0])), (x 49, .inl (ct 0, 6, .inl (fun _ => 0))), (x 50, .inl (ct 0, 6, .inl (fun _ => 0))), (x 51, .inl (ct 0, 6, .inl (fun _ => 0))), (x 52, .inl (ct 0, 6, .inl (fun _ => 0))), (x 53, .inl (ct 0, 6, .inl (fun _ => 0))), (x 28, .inr (1, [.ref (x 29), .ref (x 30), .ref (x 31), .int 0])), (x 29, .inl (ct 0, 40, .inl (fun _ => 0))), (x 30, .inl (ct 0, 40, .inl (fun _ => 0))), (x 31, .inl (ct 0, 40, .inl (fun _ => 0))), (x 69, .inr (5, [.ref (x 70), .ref (x 76), .ref (x 80), .int 0])), (x 70, .inr (7, [.ref (x 71), .ref (x 72), .ref (x 73), .ref (x 74), .ref (x 75), .int 0])), (x 71, .inl (ct 0, 6, .inl (fun _ => 0))), (x 72, .inl (ct 0, 6, .inl (fun _ => 0))), (x 73, .inl (ct 0, 6, .inl (fun _ => 0))), (x 74, .inl (ct 0, 6, .inl (fun _ => 0))), (x 75, .inl (ct 0, 6, .inl (fun _ => 0))), (x 76, .inr (1, [.ref (x 77), .ref (x 78), .ref (x 79), .int 0])), (x 77, .inl (ct 0, 40, .inl (fun _ => 0))), (x 78, .inl (ct 0, 40, .inl (fun _ => 0))), (x 79, .inl (ct 0, 40, .inl (fun _ => 0))), (x 80, .inr (6, [.int 2147483647, .int 0])), (x 81, .inr (5, [.ref (x 82), .ref (x 88), .ref (x 92), .int 0])), (x 82, .inr (7, [.ref (x 83), .ref (x 84), .ref (x 85), .ref (x 86), .ref (x 87), .int 0])), (x 83, .inl (ct 0, 6, .inl (fun _ => 0))), (x 84, .inl (ct 0, 6, .inl (fun _ => 0))), (x 85, .inl (ct 0, 6, .inl (fun _ => 0))), (x 86, .inl (ct 0, 6, .inl (fun _ => 0))), (x 87, .inl (ct 0, 6, .inl (fun _ => 0))), (x 88, .inr (1, [.ref (x 89), .ref (x 90), .ref (x 91), .int 0])), (x 89, .inl (ct 0, 40, .inl (fun _ => 0))), (x 90, .inl (ct 0, 40, .inl (fun _ => 0))), (x 91, .inl (ct 0, 40, .inl (fun _ => 0))), (x 92, .inr (6, [.int 2147483647, .int 0])), (x 93, .inr (5, [.ref (x 94), .ref (x 100), .ref (x 104), .int 0])), (x 94, .inr (7, [.ref (x 95), .ref (x 96), .ref (x 97), .ref (x 98), .ref (x 99), .int 0])), (x 95, .inl (ct 0, 6, .inl (fun _ => 0))), (x 96, .inl (ct 0, 6, .inl (fun _ => 0))), (x 97, .inl (ct 0, 6, .inl (fun _ => 0))), (x 98, .inl (ct 0, 6, .inl (fun _ => 0))), (x 99, .inl (ct 0, 6, .inl (fun _ => 0))), (x 100, .inr (1, [.ref (x 101), .ref (x 102), .ref (x 103), .int 0])), (x 101, .inl (ct 0, 40, .inl (fun _ => 0))), (x 102, .inl (ct 0, 40, .inl (fun _ => 0))), (x 103, .inl (ct 0, 40, .inl (fun _ => 0))), (x 104, .inr (6, [.int 2147483647, .int 0])), (x 105, .inr (5, [.ref (x 106), .ref (x 112), .ref (x 116), .int 0])), (x 106, .inr (7, [.ref (x 107), .ref (x 108), .ref (x 109), .ref (x 110), .ref (x 111), .int 0])), (x 107, .inl (ct 0, 6, .inl (fun _ => 0))), (x 108, .inl (ct 0, 6, .inl (fun _ => 0))), (x 109, .inl (ct 0, 6, .inl (fun _ => 0))), (x 110, .inl (ct 0, 6, .inl (fun _ => 0))), (x 111, .inl (ct 0, 6, .inl (fun _ => 0))), (x 112, .inr (1, [.ref (x 113), .ref (x 114), .ref (x 115), .int 0])), (x 113, .inl (ct 0, 40, .inl (fun _ => 0))), (x 114, .inl (ct 0, 40, .inl (fun _ => 0))), (x 115, .inl (ct 0, 40, .inl (fun _ => 0))), (x 116, .inr (6, [.int 2147483647, .int 0])), (y 37, .inl (ct 3, 4, .inl (fun _ => 0))), (y 25, .inl (ct 0, 6, .inl (fun _ => 0))), (y 26, .inl (ct 0, 240, .inl (fun _ => 0))), (y 27, .inl (ct 0, 240, .inl (fun _ => 0))), (y 28, .inl (ct 0, 240, .inl (fun _ => 0))), (y 29, .inl (ct 0, 5, .inl (fun _ => 0))), (y 30, .inl (ct 0, 40, .inl (fun _ => 0))), (y 31, .inl (ct 3, 40, .inl (fun _ => 0))), (y 32, .inl (ct 0, 31, .inl (fun _ => 0))), (y 35, .inl (ct 0, 124, .inl (fun _ => 0)))] H := hw
      refine zfr 1276 [.int 0, .int 0] rfl rfl ?_
      refine lv_icmp_eq (tgt := 1306) hx hb dL_law_1276 (by decide) (fun _ => ?_) (fun h => absurd (by decide) h)
      exact law_end C0 hS ls (lv_sub hl [0, 4] rfl)
    · refine lv_iconst (v := 1) hx hb dL_law_1244 (by decide) ?_
      refine lv_goto (tgt := 1249) hx hb dL_law_1245 (by decide) ?_
      refine zcall2 (va_runV (As := [.int (xs 1), .int 1]) (rest := []) ⟨hx, hb, hml, hown, htl⟩ (k_markout l D ct h1 x (xs 1) 1 (hm) H.size) (cwV 2 htl gL_law_X11_mark rfl rfl rfl (by decide +kernel) ⟨Nat.le_of_ble_eq_true rfl, Nat.le_of_ble_eq_true rfl⟩) (zpreV hK hw hS hA zZ.nil hN [0] rfl rfl 10 0 rfl rfl) rfl rfl hl.1 rfl (lv_room (Nat.le_of_ble_eq_true rfl)) dL_law_1249 ⟨Nat.le_of_ble_eq_true rfl, Nat.le_of_ble_eq_true rfl⟩) hw hS hA [0] [1, 2, 3, 4, 5, 6, 7, 8, 9, 10, 11, 12, 13, 14, 15, 16, 17, 18, 19, 20, 21, 22, 23, 24, 25, 26, 27, 28, 29, 30, 31, 32, 33, 34, 35, 36, 37, 38, 39, 40, 41, 42, 43, 44, 45, 46, 47, 48, 49, 50, 51, 52, 53, 54, 55, 56, 57, 58, 59, 60, 61, 62, 63, 64, 65, 66, 67, 68, 69, 70, 71] rfl rfl rfl rfl (fun _ H locs hp6 hw hS => ?_)
      have hw : zPD D (fun q : Nat => s.heap.size ≤ q) [(x 68, .inl (ct 5, 4, .inr (.inr (.inr (.inr (va_up (va_up (va_up (va_up (fun _ => none) 0 (some (x 69))) 1 (some (x 81))) 2 (some (x 93))) 3 (some (x 105)))))))), (x 60, .inr (6, [.int 2147483647, .int 0])), (x 48, .inr (7, [.ref (x 49), .ref (x 50), .ref (x 51), .ref (x 52), .ref (x 53), .int 0])), (x 49, .inl (ct 0, 6, .inl (fun _ => 0))), (x 50, .inl (ct 0, 6, .inl (fun _ => 0))), (x 51, .inl (ct 0, 6, .inl (fun _ => 0))), (x 52, .inl (ct 0, 6, .inl (fun _ => 0))), (x 53, .inl (ct 0, 6, .inl (fun _ => 0))), (x 28, .inr (1, [.ref (x 29), .ref (x 30), .ref (x 31), .int 0])), (x 29, .inl (ct 0, 40, .inl (fun _ => 0))), (x 30, .inl (ct 0, 40, .inl (fun _ => 0))), (x 31, .inl (ct 0, 40, .inl (fun _ => 0))), (x 69, .inr (5, [.ref (x 70), .ref (x 76), .ref (x 80), .int 0])), (x 70, .inr (7, [.ref (x 71), .ref (x 72), .ref (x 73), .ref (x 74), .ref (x 75), .int 0])), (x 71, .inl (ct 0, 6, .inl (fun _ => 0))), (x 72, .inl (ct 0, 6, .inl (fun _ => 0))), (x 73, .inl (ct 0, 6, .inl (fun _ => 0))), (x 74, .inl (ct 0, 6, .inl (fun _ => 0))), (x 75, .inl (ct 0, 6, .inl (fun _ => 0))), (x 76, .inr (1, [.ref (x 77), .ref (x 78), .ref (x 79), .int 0])), (x 77, .inl (ct 0, 40, .inl (fun _ => 0))), (x 78, .inl (ct 0, 40, .inl (fun _ => 0))), (x 79, .inl (ct 0, 40, .inl (fun _ => 0))), (x 80, .inr (6, [.int 2147483647, .int 0])), (x 81, .inr (5, [.ref (x 82), .ref (x 88), .ref (x 92), .int 0])), (x 82, .inr (7, [.ref (x 83), .ref (x 84), .ref (x 85), .ref (x 86), .ref (x 87), .int 0])), (x 83, .inl (ct 0, 6, .inl (fun _ => 0))), (x 84, .inl (ct 0, 6, .inl (fun _ => 0))), (x 85, .inl (ct 0, 6, .inl (fun _ => 0))), (x 86, .inl (ct 0, 6, .inl (fun _ => 0))), (x 87, .inl (ct 0, 6, .inl (fun _ => 0))), (x 88, .inr (1, [.ref (x 89), .ref (x 90), .ref (x 91), .int 0])), (x 89, .inl (ct 0, 40, .inl (fun _ => 0))), (x 90, .inl (ct 0, 40, .inl (fun _ => 0))), (x 91, .inl (ct 0, 40, .inl (fun _ => 0))), (x 92, .inr (6, [.int 2147483647, .int 0])), (x 93, .inr (5, [.ref (x 94), .ref (x 100), .ref (x 104), .int 0])), (x 94, .inr (7, [.ref (x 95), .ref (x 96), .ref (x 97), .ref (x 98), .ref (x 99), .int 0])), (x 95, .inl (ct 0, 6, .inl (fun _ => 0))), (x 96, .inl (ct 0, 6, .inl (fun _ => 0))), (x 97, .inl (ct 0, 6, .inl (fun _ => 0))), (x 98, .inl (ct 0, 6, .inl (fun _ => 0))), (x 99, .inl (ct 0, 6, .inl (fun _ => 0))), (x 100, .inr (1, [.ref (x 101), .ref (x 102), .ref (x 103), .int 0])), (x 101, .inl (ct 0, 40, .inl (fun _ => 0))), (x 102, .inl (ct 0, 40, .inl (fun _ => 0))), (x 103, .inl (ct 0, 40, .inl (fun _ => 0))), (x 104, .inr (6, [.int 2147483647, .int 0])), (x 105, .inr (5, [.ref (x 106), .ref (x 112), .ref (x 116), .int 0])), (x 106, .inr (7, [.ref (x 107), .ref (x 108), .ref (x 109), .ref (x 110), .ref (x 111), .int 0])), (x 107, .inl (ct 0, 6, .inl (fun _ => 0))), (x 108, .inl (ct 0, 6, .inl (fun _ => 0))), (x 109, .inl (ct 0, 6, .inl (fun _ => 0))), (x 110, .inl (ct 0, 6, .inl (fun _ => 0))), (x 111, .inl (ct 0, 6, .inl (fun _ => 0))), (x 112, .inr (1, [.ref (x 113), .ref (x 114), .ref (x 115), .int 0])), (x 113, .inl (ct 0, 40, .inl (fun _ => 0))), (x 114, .inl (ct 0, 40, .inl (fun _ => 0))), (x 115, .inl (ct 0, 40, .inl (fun _ => 0))), (x 116, .inr (6, [.int 2147483647, .int 0])), (h2, .inr (11, [.int 0, .int 0, .ref (y 0), .int 0, .int 0, .int 0, .int 0, .long 0, .int 0, .int 0, .ref (y 1), .ref (y 2), .ref (y 3), .ref (y 4), .ref (y 5), .ref (y 6), .ref (y 7), .ref (y 8), .ref (y 9), .ref (y 10), .ref (y 11), .ref (y 12), .int 0, .int 0, .ref (y 13), .ref (y 14), .ref (y 15), .ref (y 16), .ref (y 17), .ref (y 18), .ref (y 19), .ref (y 20), .ref (y 21), .ref (y 22), .ref (y 23), .ref (y 24), .int 0, .long 0, .ref (y 25), .ref (y 26), .ref (y 27), .ref (y 28), .ref (y 29), .ref (y 30), .ref (y 31), .ref (y 32), .ref (y 33), .ref (y 34), .ref (y 35), .ref (y 36), .ref (y 37), .int 0, .int 0, .ref (y 38), .long 0, .int 0, .int 0])), (y 37, .inl (ct 3, 4, .inl (fun _ => 0))), (y 25, .inl (ct 0, 6, .inl (fun _ => 0))), (y 26, .inl (ct 0, 240, .inl (fun _ => 0))), (y 27, .inl (ct 0, 240, .inl (fun _ => 0))), (y 28, .inl (ct 0, 240, .inl (fun _ => 0))), (y 29, .inl (ct 0, 5, .inl (fun _ => 0))), (y 30, .inl (ct 0, 40, .inl (fun _ => 0))), (y 31, .inl (ct 3, 40, .inl (fun _ => 0))), (y 32, .inl (ct 0, 31, .inl (fun _ => 0))), (y 35, .inl (ct 0, 124, .inl (fun _ => 0)))] H := hw
      refine zfr 1252 [.int 0] rfl rfl ?_
      refine lv_aload_n hx hb dL_law_1252 rfl (lv_at hl 2 rfl) ?_
      refine lv_aload_n hx hb dL_law_1253 rfl (lv_at hl 4 rfl) ?_
      refine lv_iload hx hb dL_law_1254 (lv_at hl 0 rfl) ?_
      refine lv_iconst (v := 1) hx hb dL_law_1256 (by decide) ?_
      refine lv_iadd hx hb dL_law_1257 ?_
      refine ztop (.int 1) (congrArg Value.int (by decide)) ?_
      refine va_sld hx hb hX hbl hbA hS (zix (k := 1) (by decide) (by decide) (by decide)).1 dL_law_1258 ?_
      refine ztop (.int (xs 1)) (congrArg Value.int (congrArg xs (by decide))) ?_
      refine lv_aload_n hx hb dL_law_1259 rfl (lv_at hl 4 rfl) ?_
      refine lv_iload hx hb dL_law_1260 (lv_at hl 0 rfl) ?_
      refine lv_iconst (v := 2) hx hb dL_law_1262 (by decide) ?_
      refine lv_iadd hx hb dL_law_1263 ?_
      refine ztop (.int 2) (congrArg Value.int (by decide)) ?_
      refine va_sld hx hb hX hbl hbA hS (zix (k := 2) (by decide) (by decide) (by decide)).1 dL_law_1264 ?_
      refine ztop (.int (xs 2)) (congrArg Value.int (congrArg xs (by decide))) ?_
      refine lv_if_eq (tgt := 1272) hx hb dL_law_1265 (by decide) (fun h => absurd h (c_1)) (fun _ => ?_)
      refine lv_iconst (v := 1) hx hb dL_law_1268 (by decide) ?_
      refine lv_goto (tgt := 1273) hx hb dL_law_1269 (by decide) ?_
      refine zcall2 (va_runV (As := [.int (xs 1), .int 1]) (rest := [.int 0]) ⟨hx, hb, hml, hown, htl⟩ (r_markout l D ct h2 y (xs 1) 1 (hm) H.size) (cwV 2 htl gL_law_X12_mark rfl rfl rfl (by decide +kernel) ⟨Nat.le_of_ble_eq_true rfl, Nat.le_of_ble_eq_true rfl⟩) (zpreV hK hw hS hA zZ.nil hN [60] rfl rfl 11 60 rfl rfl) rfl rfl hl.1 rfl (lv_room (Nat.le_of_ble_eq_true rfl)) dL_law_1273 ⟨Nat.le_of_ble_eq_true rfl, Nat.le_of_ble_eq_true rfl⟩) hw hS hA [60] [0, 1, 2, 3, 4, 5, 6, 7, 8, 9, 10, 11, 12, 13, 14, 15, 16, 17, 18, 19, 20, 21, 22, 23, 24, 25, 26, 27, 28, 29, 30, 31, 32, 33, 34, 35, 36, 37, 38, 39, 40, 41, 42, 43, 44, 45, 46, 47, 48, 49, 50, 51, 52, 53, 54, 55, 56, 57, 58, 59, 61, 62, 63, 64, 65, 66, 67, 68, 69, 70] rfl rfl rfl rfl (fun _ H locs hp8 hw hS => ?_)
      have hw : zPD D (fun q : Nat => s.heap.size ≤ q) [(x 68, .inl (ct 5, 4, .inr (.inr (.inr (.inr (va_up (va_up (va_up (va_up (fun _ => none) 0 (some (x 69))) 1 (some (x 81))) 2 (some (x 93))) 3 (some (x 105)))))))), (x 60, .inr (6, [.int 2147483647, .int 0])), (x 48, .inr (7, [.ref (x 49), .ref (x 50), .ref (x 51), .ref (x 52), .ref (x 53), .int 0])), (x 49, .inl (ct 0, 6, .inl (fun _ => 0))), (x 50, .inl (ct 0, 6, .inl (fun _ => 0))), (x 51, .inl (ct 0, 6, .inl (fun _ => 0))), (x 52, .inl (ct 0, 6, .inl (fun _ => 0))), (x 53, .inl (ct 0, 6, .inl (fun _ => 0))), (x 28, .inr (1, [.ref (x 29), .ref (x 30), .ref (x 31), .int 0])), (x 29, .inl (ct 0, 40, .inl (fun _ => 0))), (x 30, .inl (ct 0, 40, .inl (fun _ => 0))), (x 31, .inl (ct 0, 40, .inl (fun _ => 0))), (x 69, .inr (5, [.ref (x 70), .ref (x 76), .ref (x 80), .int 0])), (x 70, .inr (7, [.ref (x 71), .ref (x 72), .ref (x 73), .ref (x 74), .ref (x 75), .int 0])), (x 71, .inl (ct 0, 6, .inl (fun _ => 0))), (x 72, .inl (ct 0, 6, .inl (fun _ => 0))), (x 73, .inl (ct 0, 6, .inl (fun _ => 0))), (x 74, .inl (ct 0, 6, .inl (fun _ => 0))), (x 75, .inl (ct 0, 6, .inl (fun _ => 0))), (x 76, .inr (1, [.ref (x 77), .ref (x 78), .ref (x 79), .int 0])), (x 77, .inl (ct 0, 40, .inl (fun _ => 0))), (x 78, .inl (ct 0, 40, .inl (fun _ => 0))), (x 79, .inl (ct 0, 40, .inl (fun _ => 0))), (x 80, .inr (6, [.int 2147483647, .int 0])), (x 81, .inr (5, [.ref (x 82), .ref (x 88), .ref (x 92), .int 0])), (x 82, .inr (7, [.ref (x 83), .ref (x 84), .ref (x 85), .ref (x 86), .ref (x 87), .int 0])), (x 83, .inl (ct 0, 6, .inl (fun _ => 0))), (x 84, .inl (ct 0, 6, .inl (fun _ => 0))), (x 85, .inl (ct 0, 6, .inl (fun _ => 0))), (x 86, .inl (ct 0, 6, .inl (fun _ => 0))), (x 87, .inl (ct 0, 6, .inl (fun _ => 0))), (x 88, .inr (1, [.ref (x 89), .ref (x 90), .ref (x 91), .int 0])), (x 89, .inl (ct 0, 40, .inl (fun _ => 0))), (x 90, .inl (ct 0, 40, .inl (fun _ => 0))), (x 91, .inl (ct 0, 40, .inl (fun _ => 0))), (x 92, .inr (6, [.int 2147483647, .int 0])), (x 93, .inr (5, [.ref (x 94), .ref (x 100), .ref (x 104), .int 0])), (x 94, .inr (7, [.ref (x 95), .ref (x 96), .ref (x 97), .ref (x 98), .ref (x 99), .int 0])), (x 95, .inl (ct 0, 6, .inl (fun _ => 0))), (x 96, .inl (ct 0, 6, .inl (fun _ => 0))), (x 97, .inl (ct 0, 6, .inl (fun _ => 0))), (x 98, .inl (ct 0, 6, .inl (fun _ => 0))), (x 99, .inl (ct 0, 6, .inl (fun _ => 0))), (x 100, .inr (1, [.ref (x 101), .ref (x 102), .ref (x 103), .int 0])), (x 101, .inl (ct 0, 40, .inl (fun _ => 0))), (x 102, .inl (ct 0, 40, .inl (fun _ => 0))), (x 103, .inl (ct 0, 40, .inl (fun _ => 0))), (x 104, .inr (6, [.int 2147483647, .int 0])), (x 105, .inr (5, [.ref (x 106), .ref (x 112), .ref (x 116), .int 0])), (x 106, .inr (7, [.ref (x 107), .ref (x 108), .ref (x 109), .ref (x 110), .ref (x 111), .int 0])), (x 107, .inl (ct 0, 6, .inl (fun _ => 0))), (x 108, .inl (ct 0, 6, .inl (fun _ => 0))), (x 109, .inl (ct 0, 6, .inl (fun _ => 0))), (x 110, .inl (ct 0, 6, .inl (fun _ => 0))), (x 111, .inl (ct 0, 6, .inl (fun _ => 0))), (x 112, .inr (1, [.ref (x 113), .ref (x 114), .ref (x 115), .int 0])), (x 113, .inl (ct 0, 40, .inl (fun _ => 0))), (x 114, .inl (ct 0, 40, .inl (fun _ => 0))), (x 115, .inl (ct 0, 40, .inl (fun _ => 0))), (x 116, .inr (6, [.int 2147483647, .int 0])), (y 37, .inl (ct 3, 4, .inl (fun _ => 0))), (y 25, .inl (ct 0, 6, .inl (fun _ => 0))), (y 26, .inl (ct 0, 240, .inl (fun _ => 0))), (y 27, .inl (ct 0, 240, .inl (fun _ => 0))), (y 28, .inl (ct 0, 240, .inl (fun _ => 0))), (y 29, .inl (ct 0, 5, .inl (fun _ => 0))), (y 30, .inl (ct 0, 40, .inl (fun _ => 0))), (y 31, .inl (ct 3, 40, .inl (fun _ => 0))), (y 32, .inl (ct 0, 31, .inl (fun _ => 0))), (y 35, .inl (ct 0, 124, .inl (fun _ => 0)))] H := hw
      refine zfr 1276 [.int 0, .int 0] rfl rfl ?_
      refine lv_icmp_eq (tgt := 1306) hx hb dL_law_1276 (by decide) (fun _ => ?_) (fun h => absurd (by decide) h)
      exact law_end C0 hS ls (lv_sub hl [0, 4] rfl)
  · obtain ⟨k, hk, hxk⟩ := zsw (lo := 0) (hi := 3) (k := 4) (by decide) (by decide) hm
    have hxk : xs 1 = nI k := by rw [hxk]; exact congrArg nI (by simp)
    rcases (show k = 0 ∨ k = 1 ∨ k = 2 ∨ k = 3 by omega) with rfl | rfl | rfl | rfl
    · refine lv_aload_n hx hb dL_law_1228 rfl (lv_at hl 3 rfl) ?_
      refine lv_aload_n hx hb dL_law_1229 rfl (lv_at hl 4 rfl) ?_
      refine lv_iload hx hb dL_law_1230 (lv_at hl 0 rfl) ?_
      refine lv_iconst (v := 1) hx hb dL_law_1232 (by decide) ?_
      refine lv_iadd hx hb dL_law_1233 ?_
      refine ztop (.int 1) (congrArg Value.int (by decide)) ?_
      refine va_sld hx hb hX hbl hbA hS (zix (k := 1) (by decide) (by decide) (by decide)).1 dL_law_1234 ?_
      refine ztop (.int (xs 1)) (congrArg Value.int (congrArg xs (by decide))) ?_
      refine ztop (.int (nI 0)) (congrArg Value.int hxk) ?_
      refine lv_aload_n hx hb dL_law_1235 rfl (lv_at hl 4 rfl) ?_
      refine lv_iload hx hb dL_law_1236 (lv_at hl 0 rfl) ?_
      refine lv_iconst (v := 2) hx hb dL_law_1238 (by decide) ?_
      refine lv_iadd hx hb dL_law_1239 ?_
      refine ztop (.int 2) (congrArg Value.int (by decide)) ?_
      refine va_sld hx hb hX hbl hbA hS (zix (k := 2) (by decide) (by decide) (by decide)).1 dL_law_1240 ?_
      refine ztop (.int (xs 2)) (congrArg Value.int (congrArg xs (by decide))) ?_
      refine lv_if_eq (tgt := 1248) hx hb dL_law_1241 (by decide) (fun c_10 => ?_) (fun c_10 => ?_)
      · refine lv_iconst (v := 0) hx hb dL_law_1248 (by decide) ?_
        refine zcall2 (va_runV (As := [.int (nI 0), .int 0]) (rest := []) ⟨hx, hb, hml, hown, htl⟩ (k_markin l D ct h1 x 0 0 (va_up (va_up (va_up (va_up (fun _ => none) 0 (some (x 69))) 1 (some (x 81))) 2 (some (x 93))) 3 (some (x 105))) (x 69) (x 70) (x 71) (x 72) (x 73) (x 74) (x 75) (x 76) (x 77) (x 78) (x 79) (x 80) (by decide) (rfl) H.size) (cwV 2 htl gL_law_X11_mark rfl rfl rfl (by decide +kernel) ⟨Nat.le_of_ble_eq_true rfl, Nat.le_of_ble_eq_true rfl⟩) (zpreV hK hw hS hA zZ.nil hN [0, 1, 2, 3, 4, 5, 6, 7, 8, 9, 10, 11, 12, 13, 14, 15, 16, 17, 18, 19, 20, 21, 22, 23, 24] rfl rfl 10 0 rfl rfl) rfl rfl hl.1 rfl (lv_room (Nat.le_of_ble_eq_true rfl)) dL_law_1249 ⟨Nat.le_of_ble_eq_true rfl, Nat.le_of_ble_eq_true rfl⟩) hw hS hA [0, 1, 2, 3, 4, 5, 6, 7, 8, 9, 10, 11, 12, 13, 14, 15, 16, 17, 18, 19, 20, 21, 22, 23, 24] [25, 26, 27, 28, 29, 30, 31, 32, 33, 34, 35, 36, 37, 38, 39, 40, 41, 42, 43, 44, 45, 46, 47, 48, 49, 50, 51, 52, 53, 54, 55, 56, 57, 58, 59, 60, 61, 62, 63, 64, 65, 66, 67, 68, 69, 70, 71] rfl rfl rfl rfl (fun _ H locs hp11 hw hS => ?_)
        have hw : zPD D (fun q : Nat => s.heap.size ≤ q) [(x 81, .inr (5, [.ref (x 82), .ref (x 88), .ref (x 92), .int 0])), (x 82, .inr (7, [.ref (x 83), .ref (x 84), .ref (x 85), .ref (x 86), .ref (x 87), .int 0])), (x 83, .inl (ct 0, 6, .inl (fun _ => 0))), (x 84, .inl (ct 0, 6, .inl (fun _ => 0))), (x 85, .inl (ct 0, 6, .inl (fun _ => 0))), (x 86, .inl (ct 0, 6, .inl (fun _ => 0))), (x 87, .inl (ct 0, 6, .inl (fun _ => 0))), (x 88, .inr (1, [.ref (x 89), .ref (x 90), .ref (x 91), .int 0])), (x 89, .inl (ct 0, 40, .inl (fun _ => 0))), (x 90, .inl (ct 0, 40, .inl (fun _ => 0))), (x 91, .inl (ct 0, 40, .inl (fun _ => 0))), (x 92, .inr (6, [.int 2147483647, .int 0])), (x 93, .inr (5, [.ref (x 94), .ref (x 100), .ref (x 104), .int 0])), (x 94, .inr (7, [.ref (x 95), .ref (x 96), .ref (x 97), .ref (x 98), .ref (x 99), .int 0])), (x 95, .inl (ct 0, 6, .inl (fun _ => 0))), (x 96, .inl (ct 0, 6, .inl (fun _ => 0))), (x 97, .inl (ct 0, 6, .inl (fun _ => 0))), (x 98, .inl (ct 0, 6, .inl (fun _ => 0))), (x 99, .inl (ct 0, 6, .inl (fun _ => 0))), (x 100, .inr (1, [.ref (x 101), .ref (x 102), .ref (x 103), .int 0])), (x 101, .inl (ct 0, 40, .inl (fun _ => 0))), (x 102, .inl (ct 0, 40, .inl (fun _ => 0))), (x 103, .inl (ct 0, 40, .inl (fun _ => 0))), (x 104, .inr (6, [.int 2147483647, .int 0])), (x 105, .inr (5, [.ref (x 106), .ref (x 112), .ref (x 116), .int 0])), (x 106, .inr (7, [.ref (x 107), .ref (x 108), .ref (x 109), .ref (x 110), .ref (x 111), .int 0])), (x 107, .inl (ct 0, 6, .inl (fun _ => 0))), (x 108, .inl (ct 0, 6, .inl (fun _ => 0))), (x 109, .inl (ct 0, 6, .inl (fun _ => 0))), (x 110, .inl (ct 0, 6, .inl (fun _ => 0))), (x 111, .inl (ct 0, 6, .inl (fun _ => 0))), (x 112, .inr (1, [.ref (x 113), .ref (x 114), .ref (x 115), .int 0])), (x 113, .inl (ct 0, 40, .inl (fun _ => 0))), (x 114, .inl (ct 0, 40, .inl (fun _ => 0))), (x 115, .inl (ct 0, 40, .inl (fun _ => 0))), (x 116, .inr (6, [.int 2147483647, .int 0])), (h2, .inr (11, [.int 0, .int 0, .ref (y 0), .int 0, .int 0, .int 0, .int 0, .long 0, .int 0, .int 0, .ref (y 1), .ref (y 2), .ref (y 3), .ref (y 4), .ref (y 5), .ref (y 6), .ref (y 7), .ref (y 8), .ref (y 9), .ref (y 10), .ref (y 11), .ref (y 12), .int 0, .int 0, .ref (y 13), .ref (y 14), .ref (y 15), .ref (y 16), .ref (y 17), .ref (y 18), .ref (y 19), .ref (y 20), .ref (y 21), .ref (y 22), .ref (y 23), .ref (y 24), .int 0, .long 0, .ref (y 25), .ref (y 26), .ref (y 27), .ref (y 28), .ref (y 29), .ref (y 30), .ref (y 31), .ref (y 32), .ref (y 33), .ref (y 34), .ref (y 35), .ref (y 36), .ref (y 37), .int 0, .int 0, .ref (y 38), .long 0, .int 0, .int 0])), (y 37, .inl (ct 3, 4, .inl (fun _ => 0))), (y 25, .inl (ct 0, 6, .inl (fun _ => 0))), (y 26, .inl (ct 0, 240, .inl (fun _ => 0))), (y 27, .inl (ct 0, 240, .inl (fun _ => 0))), (y 28, .inl (ct 0, 240, .inl (fun _ => 0))), (y 29, .inl (ct 0, 5, .inl (fun _ => 0))), (y 30, .inl (ct 0, 40, .inl (fun _ => 0))), (y 31, .inl (ct 3, 40, .inl (fun _ => 0))), (y 32, .inl (ct 0, 31, .inl (fun _ => 0))), (y 35, .inl (ct 0, 124, .inl (fun _ => 0)))] H := hw
        refine zfr 1252 [.int (if 0 = 0 then 1 else 0)] rfl rfl ?_
        refine lv_aload_n hx hb dL_law_1252 rfl (lv_at hl 2 rfl) ?_
        refine lv_aload_n hx hb dL_law_1253 rfl (lv_at hl 4 rfl) ?_
        refine lv_iload hx hb dL_law_1254 (lv_at hl 0 rfl) ?_
        refine lv_iconst (v := 1) hx hb dL_law_1256 (by decide) ?_
        refine lv_iadd hx hb dL_law_1257 ?_
        refine ztop (.int 1) (congrArg Value.int (by decide)) ?_
        refine va_sld hx hb hX hbl hbA hS (zix (k := 1) (by decide) (by decide) (by decide)).1 dL_law_1258 ?_
        refine ztop (.int (xs 1)) (congrArg Value.int (congrArg xs (by decide))) ?_
        refine ztop (.int (nI 0)) (congrArg Value.int hxk) ?_
        refine lv_aload_n hx hb dL_law_1259 rfl (lv_at hl 4 rfl) ?_
        refine lv_iload hx hb dL_law_1260 (lv_at hl 0 rfl) ?_
        refine lv_iconst (v := 2) hx hb dL_law_1262 (by decide) ?_
        refine lv_iadd hx hb dL_law_1263 ?_
        refine ztop (.int 2) (congrArg Value.int (by decide)) ?_
        refine va_sld hx hb hX hbl hbA hS (zix (k := 2) (by decide) (by decide) (by decide)).1 dL_law_1264 ?_
        refine ztop (.int (xs 2)) (congrArg Value.int (congrArg xs (by decide))) ?_
        refine lv_if_eq (tgt := 1272) hx hb dL_law_1265 (by decide) (fun _ => ?_) (fun h => absurd (c_10) h)
        refine lv_iconst (v := 0) hx hb dL_law_1272 (by decide) ?_
        refine zcall2 (va_runV (As := [.int (nI 0), .int 0]) (rest := [.int (if 0 = 0 then 1 else 0)]) ⟨hx, hb, hml, hown, htl⟩ (r_markin l D ct h2 y 0 0 (by decide) H.size) (cwV 2 htl gL_law_X12_mark rfl rfl rfl (by decide +kernel) ⟨Nat.le_of_ble_eq_true rfl, Nat.le_of_ble_eq_true rfl⟩) (zpreV hK hw hS hA zZ.nil hN [36, 37, 38, 39, 40, 41, 42, 43, 44, 45, 46] rfl rfl 11 36 rfl rfl) rfl rfl hl.1 rfl (lv_room (Nat.le_of_ble_eq_true rfl)) dL_law_1273 ⟨Nat.le_of_ble_eq_true rfl, Nat.le_of_ble_eq_true rfl⟩) hw hS hA [36, 37, 38, 39, 40, 41, 42, 43, 44, 45, 46] [0, 1, 2, 3, 4, 5, 6, 7, 8, 9, 10, 11, 12, 13, 14, 15, 16, 17, 18, 19, 20, 21, 22, 23, 24, 25, 26, 27, 28, 29, 30, 31, 32, 33, 34, 35] rfl rfl rfl rfl (fun _ H locs hp13 hw hS => ?_)
        have hw : zPD D (fun q : Nat => s.heap.size ≤ q) [(x 81, .inr (5, [.ref (x 82), .ref (x 88), .ref (x 92), .int 0])), (x 82, .inr (7, [.ref (x 83), .ref (x 84), .ref (x 85), .ref (x 86), .ref (x 87), .int 0])), (x 83, .inl (ct 0, 6, .inl (fun _ => 0))), (x 84, .inl (ct 0, 6, .inl (fun _ => 0))), (x 85, .inl (ct 0, 6, .inl (fun _ => 0))), (x 86, .inl (ct 0, 6, .inl (fun _ => 0))), (x 87, .inl (ct 0, 6, .inl (fun _ => 0))), (x 88, .inr (1, [.ref (x 89), .ref (x 90), .ref (x 91), .int 0])), (x 89, .inl (ct 0, 40, .inl (fun _ => 0))), (x 90, .inl (ct 0, 40, .inl (fun _ => 0))), (x 91, .inl (ct 0, 40, .inl (fun _ => 0))), (x 92, .inr (6, [.int 2147483647, .int 0])), (x 93, .inr (5, [.ref (x 94), .ref (x 100), .ref (x 104), .int 0])), (x 94, .inr (7, [.ref (x 95), .ref (x 96), .ref (x 97), .ref (x 98), .ref (x 99), .int 0])), (x 95, .inl (ct 0, 6, .inl (fun _ => 0))), (x 96, .inl (ct 0, 6, .inl (fun _ => 0))), (x 97, .inl (ct 0, 6, .inl (fun _ => 0))), (x 98, .inl (ct 0, 6, .inl (fun _ => 0))), (x 99, .inl (ct 0, 6, .inl (fun _ => 0))), (x 100, .inr (1, [.ref (x 101), .ref (x 102), .ref (x 103), .int 0])), (x 101, .inl (ct 0, 40, .inl (fun _ => 0))), (x 102, .inl (ct 0, 40, .inl (fun _ => 0))), (x 103, .inl (ct 0, 40, .inl (fun _ => 0))), (x 104, .inr (6, [.int 2147483647, .int 0])), (x 105, .inr (5, [.ref (x 106), .ref (x 112), .ref (x 116), .int 0])), (x 106, .inr (7, [.ref (x 107), .ref (x 108), .ref (x 109), .ref (x 110), .ref (x 111), .int 0])), (x 107, .inl (ct 0, 6, .inl (fun _ => 0))), (x 108, .inl (ct 0, 6, .inl (fun _ => 0))), (x 109, .inl (ct 0, 6, .inl (fun _ => 0))), (x 110, .inl (ct 0, 6, .inl (fun _ => 0))), (x 111, .inl (ct 0, 6, .inl (fun _ => 0))), (x 112, .inr (1, [.ref (x 113), .ref (x 114), .ref (x 115), .int 0])), (x 113, .inl (ct 0, 40, .inl (fun _ => 0))), (x 114, .inl (ct 0, 40, .inl (fun _ => 0))), (x 115, .inl (ct 0, 40, .inl (fun _ => 0))), (x 116, .inr (6, [.int 2147483647, .int 0]))] H := hw
        refine zfr 1276 [.int (if 0 = 0 then 1 else 0), .int (if 0 = 0 then 1 else 0)] rfl rfl ?_
        refine lv_icmp_eq (tgt := 1306) hx hb dL_law_1276 (by decide) (fun _ => ?_) (fun h => absurd (rfl) h)
        exact law_end C0 hS ls (lv_sub hl [0, 4] rfl)
      · refine lv_iconst (v := 1) hx hb dL_law_1244 (by decide) ?_
        refine lv_goto (tgt := 1249) hx hb dL_law_1245 (by decide) ?_
        refine zcall2 (va_runV (As := [.int (nI 0), .int 1]) (rest := []) ⟨hx, hb, hml, hown, htl⟩ (k_markin l D ct h1 x 0 1 (va_up (va_up (va_up (va_up (fun _ => none) 0 (some (x 69))) 1 (some (x 81))) 2 (some (x 93))) 3 (some (x 105))) (x 69) (x 70) (x 71) (x 72) (x 73) (x 74) (x 75) (x 76) (x 77) (x 78) (x 79) (x 80) (by decide) (rfl) H.size) (cwV 2 htl gL_law_X11_mark rfl rfl rfl (by decide +kernel) ⟨Nat.le_of_ble_eq_true rfl, Nat.le_of_ble_eq_true rfl⟩) (zpreV hK hw hS hA zZ.nil hN [0, 1, 2, 3, 4, 5, 6, 7, 8, 9, 10, 11, 12, 13, 14, 15, 16, 17, 18, 19, 20, 21, 22, 23, 24] rfl rfl 10 0 rfl rfl) rfl rfl hl.1 rfl (lv_room (Nat.le_of_ble_eq_true rfl)) dL_law_1249 ⟨Nat.le_of_ble_eq_true rfl, Nat.le_of_ble_eq_true rfl⟩) hw hS hA [0, 1, 2, 3, 4, 5, 6, 7, 8, 9, 10, 11, 12, 13, 14, 15, 16, 17, 18, 19, 20, 21, 22, 23, 24] [25, 26, 27, 28, 29, 30, 31, 32, 33, 34, 35, 36, 37, 38, 39, 40, 41, 42, 43, 44, 45, 46, 47, 48, 49, 50, 51, 52, 53, 54, 55, 56, 57, 58, 59, 60, 61, 62, 63, 64, 65, 66, 67, 68, 69, 70, 71] rfl rfl rfl rfl (fun _ H locs hp15 hw hS => ?_)
        have hw : zPD D (fun q : Nat => s.heap.size ≤ q) [(x 81, .inr (5, [.ref (x 82), .ref (x 88), .ref (x 92), .int 0])), (x 82, .inr (7, [.ref (x 83), .ref (x 84), .ref (x 85), .ref (x 86), .ref (x 87), .int 0])), (x 83, .inl (ct 0, 6, .inl (fun _ => 0))), (x 84, .inl (ct 0, 6, .inl (fun _ => 0))), (x 85, .inl (ct 0, 6, .inl (fun _ => 0))), (x 86, .inl (ct 0, 6, .inl (fun _ => 0))), (x 87, .inl (ct 0, 6, .inl (fun _ => 0))), (x 88, .inr (1, [.ref (x 89), .ref (x 90), .ref (x 91), .int 0])), (x 89, .inl (ct 0, 40, .inl (fun _ => 0))), (x 90, .inl (ct 0, 40, .inl (fun _ => 0))), (x 91, .inl (ct 0, 40, .inl (fun _ => 0))), (x 92, .inr (6, [.int 2147483647, .int 0])), (x 93, .inr (5, [.ref (x 94), .ref (x 100), .ref (x 104), .int 0])), (x 94, .inr (7, [.ref (x 95), .ref (x 96), .ref (x 97), .ref (x 98), .ref (x 99), .int 0])), (x 95, .inl (ct 0, 6, .inl (fun _ => 0))), (x 96, .inl (ct 0, 6, .inl (fun _ => 0))), (x 97, .inl (ct 0, 6, .inl (fun _ => 0))), (x 98, .inl (ct 0, 6, .inl (fun _ => 0))), (x 99, .inl (ct 0, 6, .inl (fun _ => 0))), (x 100, .inr (1, [.ref (x 101), .ref (x 102), .ref (x 103), .int 0])), (x 101, .inl (ct 0, 40, .inl (fun _ => 0))), (x 102, .inl (ct 0, 40, .inl (fun _ => 0))), (x 103, .inl (ct 0, 40, .inl (fun _ => 0))), (x 104, .inr (6, [.int 2147483647, .int 0])), (x 105, .inr (5, [.ref (x 106), .ref (x 112), .ref (x 116), .int 0])), (x 106, .inr (7, [.ref (x 107), .ref (x 108), .ref (x 109), .ref (x 110), .ref (x 111), .int 0])), (x 107, .inl (ct 0, 6, .inl (fun _ => 0))), (x 108, .inl (ct 0, 6, .inl (fun _ => 0))), (x 109, .inl (ct 0, 6, .inl (fun _ => 0))), (x 110, .inl (ct 0, 6, .inl (fun _ => 0))), (x 111, .inl (ct 0, 6, .inl (fun _ => 0))), (x 112, .inr (1, [.ref (x 113), .ref (x 114), .ref (x 115), .int 0])), (x 113, .inl (ct 0, 40, .inl (fun _ => 0))), (x 114, .inl (ct 0, 40, .inl (fun _ => 0))), (x 115, .inl (ct 0, 40, .inl (fun _ => 0))), (x 116, .inr (6, [.int 2147483647, .int 0])), (h2, .inr (11, [.int 0, .int 0, .ref (y 0), .int 0, .int 0, .int 0, .int 0, .long 0, .int 0, .int 0, .ref (y 1), .ref (y 2), .ref (y 3), .ref (y 4), .ref (y 5), .ref (y 6), .ref (y 7), .ref (y 8), .ref (y 9), .ref (y 10), .ref (y 11), .ref (y 12), .int 0, .int 0, .ref (y 13), .ref (y 14), .ref (y 15), .ref (y 16), .ref (y 17), .ref (y 18), .ref (y 19), .ref (y 20), .ref (y 21), .ref (y 22), .ref (y 23), .ref (y 24), .int 0, .long 0, .ref (y 25), .ref (y 26), .ref (y 27), .ref (y 28), .ref (y 29), .ref (y 30), .ref (y 31), .ref (y 32), .ref (y 33), .ref (y 34), .ref (y 35), .ref (y 36), .ref (y 37), .int 0, .int 0, .ref (y 38), .long 0, .int 0, .int 0])), (y 37, .inl (ct 3, 4, .inl (fun _ => 0))), (y 25, .inl (ct 0, 6, .inl (fun _ => 0))), (y 26, .inl (ct 0, 240, .inl (fun _ => 0))), (y 27, .inl (ct 0, 240, .inl (fun _ => 0))), (y 28, .inl (ct 0, 240, .inl (fun _ => 0))), (y 29, .inl (ct 0, 5, .inl (fun _ => 0))), (y 30, .inl (ct 0, 40, .inl (fun _ => 0))), (y 31, .inl (ct 3, 40, .inl (fun _ => 0))), (y 32, .inl (ct 0, 31, .inl (fun _ => 0))), (y 35, .inl (ct 0, 124, .inl (fun _ => 0)))] H := hw
        refine zfr 1252 [.int (if 1 = 0 then 1 else 0)] rfl rfl ?_
        refine lv_aload_n hx hb dL_law_1252 rfl (lv_at hl 2 rfl) ?_
        refine lv_aload_n hx hb dL_law_1253 rfl (lv_at hl 4 rfl) ?_
        refine lv_iload hx hb dL_law_1254 (lv_at hl 0 rfl) ?_
        refine lv_iconst (v := 1) hx hb dL_law_1256 (by decide) ?_
        refine lv_iadd hx hb dL_law_1257 ?_
        refine ztop (.int 1) (congrArg Value.int (by decide)) ?_
        refine va_sld hx hb hX hbl hbA hS (zix (k := 1) (by decide) (by decide) (by decide)).1 dL_law_1258 ?_
        refine ztop (.int (xs 1)) (congrArg Value.int (congrArg xs (by decide))) ?_
        refine ztop (.int (nI 0)) (congrArg Value.int hxk) ?_
        refine lv_aload_n hx hb dL_law_1259 rfl (lv_at hl 4 rfl) ?_
        refine lv_iload hx hb dL_law_1260 (lv_at hl 0 rfl) ?_
        refine lv_iconst (v := 2) hx hb dL_law_1262 (by decide) ?_
        refine lv_iadd hx hb dL_law_1263 ?_
        refine ztop (.int 2) (congrArg Value.int (by decide)) ?_
        refine va_sld hx hb hX hbl hbA hS (zix (k := 2) (by decide) (by decide) (by decide)).1 dL_law_1264 ?_
        refine ztop (.int (xs 2)) (congrArg Value.int (congrArg xs (by decide))) ?_
        refine lv_if_eq (tgt := 1272) hx hb dL_law_1265 (by decide) (fun h => absurd h (c_10)) (fun _ => ?_)
        refine lv_iconst (v := 1) hx hb dL_law_1268 (by decide) ?_
        refine lv_goto (tgt := 1273) hx hb dL_law_1269 (by decide) ?_
        refine zcall2 (va_runV (As := [.int (nI 0), .int 1]) (rest := [.int (if 1 = 0 then 1 else 0)]) ⟨hx, hb, hml, hown, htl⟩ (r_markin l D ct h2 y 0 1 (by decide) H.size) (cwV 2 htl gL_law_X12_mark rfl rfl rfl (by decide +kernel) ⟨Nat.le_of_ble_eq_true rfl, Nat.le_of_ble_eq_true rfl⟩) (zpreV hK hw hS hA zZ.nil hN [36, 37, 38, 39, 40, 41, 42, 43, 44, 45, 46] rfl rfl 11 36 rfl rfl) rfl rfl hl.1 rfl (lv_room (Nat.le_of_ble_eq_true rfl)) dL_law_1273 ⟨Nat.le_of_ble_eq_true rfl, Nat.le_of_ble_eq_true rfl⟩) hw hS hA [36, 37, 38, 39, 40, 41, 42, 43, 44, 45, 46] [0, 1, 2, 3, 4, 5, 6, 7, 8, 9, 10, 11, 12, 13, 14, 15, 16, 17, 18, 19, 20, 21, 22, 23, 24, 25, 26, 27, 28, 29, 30, 31, 32, 33, 34, 35] rfl rfl rfl rfl (fun _ H locs hp17 hw hS => ?_)
        have hw : zPD D (fun q : Nat => s.heap.size ≤ q) [(x 81, .inr (5, [.ref (x 82), .ref (x 88), .ref (x 92), .int 0])), (x 82, .inr (7, [.ref (x 83), .ref (x 84), .ref (x 85), .ref (x 86), .ref (x 87), .int 0])), (x 83, .inl (ct 0, 6, .inl (fun _ => 0))), (x 84, .inl (ct 0, 6, .inl (fun _ => 0))), (x 85, .inl (ct 0, 6, .inl (fun _ => 0))), (x 86, .inl (ct 0, 6, .inl (fun _ => 0))), (x 87, .inl (ct 0, 6, .inl (fun _ => 0))), (x 88, .inr (1, [.ref (x 89), .ref (x 90), .ref (x 91), .int 0])), (x 89, .inl (ct 0, 40, .inl (fun _ => 0))), (x 90, .inl (ct 0, 40, .inl (fun _ => 0))), (x 91, .inl (ct 0, 40, .inl (fun _ => 0))), (x 92, .inr (6, [.int 2147483647, .int 0])), (x 93, .inr (5, [.ref (x 94), .ref (x 100), .ref (x 104), .int 0])), (x 94, .inr (7, [.ref (x 95), .ref (x 96), .ref (x 97), .ref (x 98), .ref (x 99), .int 0])), (x 95, .inl (ct 0, 6, .inl (fun _ => 0))), (x 96, .inl (ct 0, 6, .inl (fun _ => 0))), (x 97, .inl (ct 0, 6, .inl (fun _ => 0))), (x 98, .inl (ct 0, 6, .inl (fun _ => 0))), (x 99, .inl (ct 0, 6, .inl (fun _ => 0))), (x 100, .inr (1, [.ref (x 101), .ref (x 102), .ref (x 103), .int 0])), (x 101, .inl (ct 0, 40, .inl (fun _ => 0))), (x 102, .inl (ct 0, 40, .inl (fun _ => 0))), (x 103, .inl (ct 0, 40, .inl (fun _ => 0))), (x 104, .inr (6, [.int 2147483647, .int 0])), (x 105, .inr (5, [.ref (x 106), .ref (x 112), .ref (x 116), .int 0])), (x 106, .inr (7, [.ref (x 107), .ref (x 108), .ref (x 109), .ref (x 110), .ref (x 111), .int 0])), (x 107, .inl (ct 0, 6, .inl (fun _ => 0))), (x 108, .inl (ct 0, 6, .inl (fun _ => 0))), (x 109, .inl (ct 0, 6, .inl (fun _ => 0))), (x 110, .inl (ct 0, 6, .inl (fun _ => 0))), (x 111, .inl (ct 0, 6, .inl (fun _ => 0))), (x 112, .inr (1, [.ref (x 113), .ref (x 114), .ref (x 115), .int 0])), (x 113, .inl (ct 0, 40, .inl (fun _ => 0))), (x 114, .inl (ct 0, 40, .inl (fun _ => 0))), (x 115, .inl (ct 0, 40, .inl (fun _ => 0))), (x 116, .inr (6, [.int 2147483647, .int 0]))] H := hw
        refine zfr 1276 [.int (if 1 = 0 then 1 else 0), .int (if 1 = 0 then 1 else 0)] rfl rfl ?_
        refine lv_icmp_eq (tgt := 1306) hx hb dL_law_1276 (by decide) (fun _ => ?_) (fun h => absurd (rfl) h)
        exact law_end C0 hS ls (lv_sub hl [0, 4] rfl)
    · refine lv_aload_n hx hb dL_law_1228 rfl (lv_at hl 3 rfl) ?_
      refine lv_aload_n hx hb dL_law_1229 rfl (lv_at hl 4 rfl) ?_
      refine lv_iload hx hb dL_law_1230 (lv_at hl 0 rfl) ?_
      refine lv_iconst (v := 1) hx hb dL_law_1232 (by decide) ?_
      refine lv_iadd hx hb dL_law_1233 ?_
      refine ztop (.int 1) (congrArg Value.int (by decide)) ?_
      refine va_sld hx hb hX hbl hbA hS (zix (k := 1) (by decide) (by decide) (by decide)).1 dL_law_1234 ?_
      refine ztop (.int (xs 1)) (congrArg Value.int (congrArg xs (by decide))) ?_
      refine ztop (.int (nI 1)) (congrArg Value.int hxk) ?_
      refine lv_aload_n hx hb dL_law_1235 rfl (lv_at hl 4 rfl) ?_
      refine lv_iload hx hb dL_law_1236 (lv_at hl 0 rfl) ?_
      refine lv_iconst (v := 2) hx hb dL_law_1238 (by decide) ?_
      refine lv_iadd hx hb dL_law_1239 ?_
      refine ztop (.int 2) (congrArg Value.int (by decide)) ?_
      refine va_sld hx hb hX hbl hbA hS (zix (k := 2) (by decide) (by decide) (by decide)).1 dL_law_1240 ?_
      refine ztop (.int (xs 2)) (congrArg Value.int (congrArg xs (by decide))) ?_
      refine lv_if_eq (tgt := 1248) hx hb dL_law_1241 (by decide) (fun c_19 => ?_) (fun c_19 => ?_)
      · refine lv_iconst (v := 0) hx hb dL_law_1248 (by decide) ?_
        refine zcall2 (va_runV (As := [.int (nI 1), .int 0]) (rest := []) ⟨hx, hb, hml, hown, htl⟩ (k_markin l D ct h1 x 1 0 (va_up (va_up (va_up (va_up (fun _ => none) 0 (some (x 69))) 1 (some (x 81))) 2 (some (x 93))) 3 (some (x 105))) (x 81) (x 82) (x 83) (x 84) (x 85) (x 86) (x 87) (x 88) (x 89) (x 90) (x 91) (x 92) (by decide) (rfl) H.size) (cwV 2 htl gL_law_X11_mark rfl rfl rfl (by decide +kernel) ⟨Nat.le_of_ble_eq_true rfl, Nat.le_of_ble_eq_true rfl⟩) (zpreV hK hw hS hA zZ.nil hN [0, 1, 2, 3, 4, 5, 6, 7, 8, 9, 10, 11, 12, 25, 26, 27, 28, 29, 30, 31, 32, 33, 34, 35, 36] rfl rfl 10 0 rfl rfl) rfl rfl hl.1 rfl (lv_room (Nat.le_of_ble_eq_true rfl)) dL_law_1249 ⟨Nat.le_of_ble_eq_true rfl, Nat.le_of_ble_eq_true rfl⟩) hw hS hA [0, 1, 2, 3, 4, 5, 6, 7, 8, 9, 10, 11, 12, 25, 26, 27, 28, 29, 30, 31, 32, 33, 34, 35, 36] [13, 14, 15, 16, 17, 18, 19, 20, 21, 22, 23, 24, 37, 38, 39, 40, 41, 42, 43, 44, 45, 46, 47, 48, 49, 50, 51, 52, 53, 54, 55, 56, 57, 58, 59, 60, 61, 62, 63, 64, 65, 66, 67, 68, 69, 70, 71] rfl rfl rfl rfl (fun _ H locs hp20 hw hS => ?_)
        have hw : zPD D (fun q : Nat => s.heap.size ≤ q) [(x 69, .inr (5, [.ref (x 70), .ref (x 76), .ref (x 80), .int 0])), (x 70, .inr (7, [.ref (x 71), .ref (x 72), .ref (x 73), .ref (x 74), .ref (x 75), .int 0])), (x 71, .inl (ct 0, 6, .inl (fun _ => 0))), (x 72, .inl (ct 0, 6, .inl (fun _ => 0))), (x 73, .inl (ct 0, 6, .inl (fun _ => 0))), (x 74, .inl (ct 0, 6, .inl (fun _ => 0))), (x 75, .inl (ct 0, 6, .inl (fun _ => 0))), (x 76, .inr (1, [.ref (x 77), .ref (x 78), .ref (x 79), .int 0])), (x 77, .inl (ct 0, 40, .inl (fun _ => 0))), (x 78, .inl (ct 0, 40, .inl (fun _ => 0))), (x 79, .inl (ct 0, 40, .inl (fun _ => 0))), (x 80, .inr (6, [.int 2147483647, .int 0])), (x 93, .inr (5, [.ref (x 94), .ref (x 100), .ref (x 104), .int 0])), (x 94, .inr (7, [.ref (x 95), .ref (x 96), .ref (x 97), .ref (x 98), .ref (x 99), .int 0])), (x 95, .inl (ct 0, 6, .inl (fun _ => 0))), (x 96, .inl (ct 0, 6, .inl (fun _ => 0))), (x 97, .inl (ct 0, 6, .inl (fun _ => 0))), (x 98, .inl (ct 0, 6, .inl (fun _ => 0))), (x 99, .inl (ct 0, 6, .inl (fun _ => 0))), (x 100, .inr (1, [.ref (x 101), .ref (x 102), .ref (x 103), .int 0])), (x 101, .inl (ct 0, 40, .inl (fun _ => 0))), (x 102, .inl (ct 0, 40, .inl (fun _ => 0))), (x 103, .inl (ct 0, 40, .inl (fun _ => 0))), (x 104, .inr (6, [.int 2147483647, .int 0])), (x 105, .inr (5, [.ref (x 106), .ref (x 112), .ref (x 116), .int 0])), (x 106, .inr (7, [.ref (x 107), .ref (x 108), .ref (x 109), .ref (x 110), .ref (x 111), .int 0])), (x 107, .inl (ct 0, 6, .inl (fun _ => 0))), (x 108, .inl (ct 0, 6, .inl (fun _ => 0))), (x 109, .inl (ct 0, 6, .inl (fun _ => 0))), (x 110, .inl (ct 0, 6, .inl (fun _ => 0))), (x 111, .inl (ct 0, 6, .inl (fun _ => 0))), (x 112, .inr (1, [.ref (x 113), .ref (x 114), .ref (x 115), .int 0])), (x 113, .inl (ct 0, 40, .inl (fun _ => 0))), (x 114, .inl (ct 0, 40, .inl (fun _ => 0))), (x 115, .inl (ct 0, 40, .inl (fun _ => 0))), (x 116, .inr (6, [.int 2147483647, .int 0])), (h2, .inr (11, [.int 0, .int 0, .ref (y 0), .int 0, .int 0, .int 0, .int 0, .long 0, .int 0, .int 0, .ref (y 1), .ref (y 2), .ref (y 3), .ref (y 4), .ref (y 5), .ref (y 6), .ref (y 7), .ref (y 8), .ref (y 9), .ref (y 10), .ref (y 11), .ref (y 12), .int 0, .int 0, .ref (y 13), .ref (y 14), .ref (y 15), .ref (y 16), .ref (y 17), .ref (y 18), .ref (y 19), .ref (y 20), .ref (y 21), .ref (y 22), .ref (y 23), .ref (y 24), .int 0, .long 0, .ref (y 25), .ref (y 26), .ref (y 27), .ref (y 28), .ref (y 29), .ref (y 30), .ref (y 31), .ref (y 32), .ref (y 33), .ref (y 34), .ref (y 35), .ref (y 36), .ref (y 37), .int 0, .int 0, .ref (y 38), .long 0, .int 0, .int 0])), (y 37, .inl (ct 3, 4, .inl (fun _ => 0))), (y 25, .inl (ct 0, 6, .inl (fun _ => 0))), (y 26, .inl (ct 0, 240, .inl (fun _ => 0))), (y 27, .inl (ct 0, 240, .inl (fun _ => 0))), (y 28, .inl (ct 0, 240, .inl (fun _ => 0))), (y 29, .inl (ct 0, 5, .inl (fun _ => 0))), (y 30, .inl (ct 0, 40, .inl (fun _ => 0))), (y 31, .inl (ct 3, 40, .inl (fun _ => 0))), (y 32, .inl (ct 0, 31, .inl (fun _ => 0))), (y 35, .inl (ct 0, 124, .inl (fun _ => 0)))] H := hw
        refine zfr 1252 [.int (if 0 = 0 then 1 else 0)] rfl rfl ?_
        refine lv_aload_n hx hb dL_law_1252 rfl (lv_at hl 2 rfl) ?_
        refine lv_aload_n hx hb dL_law_1253 rfl (lv_at hl 4 rfl) ?_
        refine lv_iload hx hb dL_law_1254 (lv_at hl 0 rfl) ?_
        refine lv_iconst (v := 1) hx hb dL_law_1256 (by decide) ?_
        refine lv_iadd hx hb dL_law_1257 ?_
        refine ztop (.int 1) (congrArg Value.int (by decide)) ?_
        refine va_sld hx hb hX hbl hbA hS (zix (k := 1) (by decide) (by decide) (by decide)).1 dL_law_1258 ?_
        refine ztop (.int (xs 1)) (congrArg Value.int (congrArg xs (by decide))) ?_
        refine ztop (.int (nI 1)) (congrArg Value.int hxk) ?_
        refine lv_aload_n hx hb dL_law_1259 rfl (lv_at hl 4 rfl) ?_
        refine lv_iload hx hb dL_law_1260 (lv_at hl 0 rfl) ?_
        refine lv_iconst (v := 2) hx hb dL_law_1262 (by decide) ?_
        refine lv_iadd hx hb dL_law_1263 ?_
        refine ztop (.int 2) (congrArg Value.int (by decide)) ?_
        refine va_sld hx hb hX hbl hbA hS (zix (k := 2) (by decide) (by decide) (by decide)).1 dL_law_1264 ?_
        refine ztop (.int (xs 2)) (congrArg Value.int (congrArg xs (by decide))) ?_
        refine lv_if_eq (tgt := 1272) hx hb dL_law_1265 (by decide) (fun _ => ?_) (fun h => absurd (c_19) h)
        refine lv_iconst (v := 0) hx hb dL_law_1272 (by decide) ?_
        refine zcall2 (va_runV (As := [.int (nI 1), .int 0]) (rest := [.int (if 0 = 0 then 1 else 0)]) ⟨hx, hb, hml, hown, htl⟩ (r_markin l D ct h2 y 1 0 (by decide) H.size) (cwV 2 htl gL_law_X12_mark rfl rfl rfl (by decide +kernel) ⟨Nat.le_of_ble_eq_true rfl, Nat.le_of_ble_eq_true rfl⟩) (zpreV hK hw hS hA zZ.nil hN [36, 37, 38, 39, 40, 41, 42, 43, 44, 45, 46] rfl rfl 11 36 rfl rfl) rfl rfl hl.1 rfl (lv_room (Nat.le_of_ble_eq_true rfl)) dL_law_1273 ⟨Nat.le_of_ble_eq_true rfl, Nat.le_of_ble_eq_true rfl⟩) hw hS hA [36, 37, 38, 39, 40, 41, 42, 43, 44, 45, 46] [0, 1, 2, 3, 4, 5, 6, 7, 8, 9, 10, 11, 12, 13, 14, 15, 16, 17, 18, 19, 20, 21, 22, 23, 24, 25, 26, 27, 28, 29, 30, 31, 32, 33, 34, 35] rfl rfl rfl rfl (fun _ H locs hp22 hw hS => ?_)
        have hw : zPD D (fun q : Nat => s.heap.size ≤ q) [(x 69, .inr (5, [.ref (x 70), .ref (x 76), .ref (x 80), .int 0])), (x 70, .inr (7, [.ref (x 71), .ref (x 72), .ref (x 73), .ref (x 74), .ref (x 75), .int 0])), (x 71, .inl (ct 0, 6, .inl (fun _ => 0))), (x 72, .inl (ct 0, 6, .inl (fun _ => 0))), (x 73, .inl (ct 0, 6, .inl (fun _ => 0))), (x 74, .inl (ct 0, 6, .inl (fun _ => 0))), (x 75, .inl (ct 0, 6, .inl (fun _ => 0))), (x 76, .inr (1, [.ref (x 77), .ref (x 78), .ref (x 79), .int 0])), (x 77, .inl (ct 0, 40, .inl (fun _ => 0))), (x 78, .inl (ct 0, 40, .inl (fun _ => 0))), (x 79, .inl (ct 0, 40, .inl (fun _ => 0))), (x 80, .inr (6, [.int 2147483647, .int 0])), (x 93, .inr (5, [.ref (x 94), .ref (x 100), .ref (x 104), .int 0])), (x 94, .inr (7, [.ref (x 95), .ref (x 96), .ref (x 97), .ref (x 98), .ref (x 99), .int 0])), (x 95, .inl (ct 0, 6, .inl (fun _ => 0))), (x 96, .inl (ct 0, 6, .inl (fun _ => 0))), (x 97, .inl (ct 0, 6, .inl (fun _ => 0))), (x 98, .inl (ct 0, 6, .inl (fun _ => 0))), (x 99, .inl (ct 0, 6, .inl (fun _ => 0))), (x 100, .inr (1, [.ref (x 101), .ref (x 102), .ref (x 103), .int 0])), (x 101, .inl (ct 0, 40, .inl (fun _ => 0))), (x 102, .inl (ct 0, 40, .inl (fun _ => 0))), (x 103, .inl (ct 0, 40, .inl (fun _ => 0))), (x 104, .inr (6, [.int 2147483647, .int 0])), (x 105, .inr (5, [.ref (x 106), .ref (x 112), .ref (x 116), .int 0])), (x 106, .inr (7, [.ref (x 107), .ref (x 108), .ref (x 109), .ref (x 110), .ref (x 111), .int 0])), (x 107, .inl (ct 0, 6, .inl (fun _ => 0))), (x 108, .inl (ct 0, 6, .inl (fun _ => 0))), (x 109, .inl (ct 0, 6, .inl (fun _ => 0))), (x 110, .inl (ct 0, 6, .inl (fun _ => 0))), (x 111, .inl (ct 0, 6, .inl (fun _ => 0))), (x 112, .inr (1, [.ref (x 113), .ref (x 114), .ref (x 115), .int 0])), (x 113, .inl (ct 0, 40, .inl (fun _ => 0))), (x 114, .inl (ct 0, 40, .inl (fun _ => 0))), (x 115, .inl (ct 0, 40, .inl (fun _ => 0))), (x 116, .inr (6, [.int 2147483647, .int 0]))] H := hw
        refine zfr 1276 [.int (if 0 = 0 then 1 else 0), .int (if 0 = 0 then 1 else 0)] rfl rfl ?_
        refine lv_icmp_eq (tgt := 1306) hx hb dL_law_1276 (by decide) (fun _ => ?_) (fun h => absurd (rfl) h)
        exact law_end C0 hS ls (lv_sub hl [0, 4] rfl)
      · refine lv_iconst (v := 1) hx hb dL_law_1244 (by decide) ?_
        refine lv_goto (tgt := 1249) hx hb dL_law_1245 (by decide) ?_
        refine zcall2 (va_runV (As := [.int (nI 1), .int 1]) (rest := []) ⟨hx, hb, hml, hown, htl⟩ (k_markin l D ct h1 x 1 1 (va_up (va_up (va_up (va_up (fun _ => none) 0 (some (x 69))) 1 (some (x 81))) 2 (some (x 93))) 3 (some (x 105))) (x 81) (x 82) (x 83) (x 84) (x 85) (x 86) (x 87) (x 88) (x 89) (x 90) (x 91) (x 92) (by decide) (rfl) H.size) (cwV 2 htl gL_law_X11_mark rfl rfl rfl (by decide +kernel) ⟨Nat.le_of_ble_eq_true rfl, Nat.le_of_ble_eq_true rfl⟩) (zpreV hK hw hS hA zZ.nil hN [0, 1, 2, 3, 4, 5, 6, 7, 8, 9, 10, 11, 12, 25, 26, 27, 28, 29, 30, 31, 32, 33, 34, 35, 36] rfl rfl 10 0 rfl rfl) rfl rfl hl.1 rfl (lv_room (Nat.le_of_ble_eq_true rfl)) dL_law_1249 ⟨Nat.le_of_ble_eq_true rfl, Nat.le_of_ble_eq_true rfl⟩) hw hS hA [0, 1, 2, 3, 4, 5, 6, 7, 8, 9, 10, 11, 12, 25, 26, 27, 28, 29, 30, 31, 32, 33, 34, 35, 36] [13, 14, 15, 16, 17, 18, 19, 20, 21, 22, 23, 24, 37, 38, 39, 40, 41, 42, 43, 44, 45, 46, 47, 48, 49, 50, 51, 52, 53, 54, 55, 56, 57, 58, 59, 60, 61, 62, 63, 64, 65, 66, 67, 68, 69, 70, 71] rfl rfl rfl rfl (fun _ H locs hp24 hw hS => ?_)
        have hw : zPD D (fun q : Nat => s.heap.size ≤ q) [(x 69, .inr (5, [.ref (x 70), .ref (x 76), .ref (x 80), .int 0])), (x 70, .inr (7, [.ref (x 71), .ref (x 72), .ref (x 73), .ref (x 74), .ref (x 75), .int 0])), (x 71, .inl (ct 0, 6, .inl (fun _ => 0))), (x 72, .inl (ct 0, 6, .inl (fun _ => 0))), (x 73, .inl (ct 0, 6, .inl (fun _ => 0))), (x 74, .inl (ct 0, 6, .inl (fun _ => 0))), (x 75, .inl (ct 0, 6, .inl (fun _ => 0))), (x 76, .inr (1, [.ref (x 77), .ref (x 78), .ref (x 79), .int 0])), (x 77, .inl (ct 0, 40, .inl (fun _ => 0))), (x 78, .inl (ct 0, 40, .inl (fun _ => 0))), (x 79, .inl (ct 0, 40, .inl (fun _ => 0))), (x 80, .inr (6, [.int 2147483647, .int 0])), (x 93, .inr (5, [.ref (x 94), .ref (x 100), .ref (x 104), .int 0])), (x 94, .inr (7, [.ref (x 95), .ref (x 96), .ref (x 97), .ref (x 98), .ref (x 99), .int 0])), (x 95, .inl (ct 0, 6, .inl (fun _ => 0))), (x 96, .inl (ct 0, 6, .inl (fun _ => 0))), (x 97, .inl (ct 0, 6, .inl (fun _ => 0))), (x 98, .inl (ct 0, 6, .inl (fun _ => 0))), (x 99, .inl (ct 0, 6, .inl (fun _ => 0))), (x 100, .inr (1, [.ref (x 101), .ref (x 102), .ref (x 103), .int 0])), (x 101, .inl (ct 0, 40, .inl (fun _ => 0))), (x 102, .inl (ct 0, 40, .inl (fun _ => 0))), (x 103, .inl (ct 0, 40, .inl (fun _ => 0))), (x 104, .inr (6, [.int 2147483647, .int 0])), (x 105, .inr (5, [.ref (x 106), .ref (x 112), .ref (x 116), .int 0])), (x 106, .inr (7, [.ref (x 107), .ref (x 108), .ref (x 109), .ref (x 110), .ref (x 111), .int 0])), (x 107, .inl (ct 0, 6, .inl (fun _ => 0))), (x 108, .inl (ct 0, 6, .inl (fun _ => 0))), (x 109, .inl (ct 0, 6, .inl (fun _ => 0))), (x 110, .inl (ct 0, 6, .inl (fun _ => 0))), (x 111, .inl (ct 0, 6, .inl (fun _ => 0))), (x 112, .inr (1, [.ref (x 113), .ref (x 114), .ref (x 115), .int 0])), (x 113, .inl (ct 0, 40, .inl (fun _ => 0))), (x 114, .inl (ct 0, 40, .inl (fun _ => 0))), (x 115, .inl (ct 0, 40, .inl (fun _ => 0))), (x 116, .inr (6, [.int 2147483647, .int 0])), (h2, .inr (11, [.int 0, .int 0, .ref (y 0), .int 0, .int 0, .int 0, .int 0, .long 0, .int 0, .int 0, .ref (y 1), .ref (y 2), .ref (y 3), .ref (y 4), .ref (y 5), .ref (y 6), .ref (y 7), .ref (y 8), .ref (y 9), .ref (y 10), .ref (y 11), .ref (y 12), .int 0, .int 0, .ref (y 13), .ref (y 14), .ref (y 15), .ref (y 16), .ref (y 17), .ref (y 18), .ref (y 19), .ref (y 20), .ref (y 21), .ref (y 22), .ref (y 23), .ref (y 24), .int 0, .long 0, .ref (y 25), .ref (y 26), .ref (y 27), .ref (y 28), .ref (y 29), .ref (y 30), .ref (y 31), .ref (y 32), .ref (y 33), .ref (y 34), .ref (y 35), .ref (y 36), .ref (y 37), .int 0, .int 0, .ref (y 38), .long 0, .int 0, .int 0])), (y 37, .inl (ct 3, 4, .inl (fun _ => 0))), (y 25, .inl (ct 0, 6, .inl (fun _ => 0))), (y 26, .inl (ct 0, 240, .inl (fun _ => 0))), (y 27, .inl (ct 0, 240, .inl (fun _ => 0))), (y 28, .inl (ct 0, 240, .inl (fun _ => 0))), (y 29, .inl (ct 0, 5, .inl (fun _ => 0))), (y 30, .inl (ct 0, 40, .inl (fun _ => 0))), (y 31, .inl (ct 3, 40, .inl (fun _ => 0))), (y 32, .inl (ct 0, 31, .inl (fun _ => 0))), (y 35, .inl (ct 0, 124, .inl (fun _ => 0)))] H := hw
        refine zfr 1252 [.int (if 1 = 0 then 1 else 0)] rfl rfl ?_
        refine lv_aload_n hx hb dL_law_1252 rfl (lv_at hl 2 rfl) ?_
        refine lv_aload_n hx hb dL_law_1253 rfl (lv_at hl 4 rfl) ?_
        refine lv_iload hx hb dL_law_1254 (lv_at hl 0 rfl) ?_
        refine lv_iconst (v := 1) hx hb dL_law_1256 (by decide) ?_
        refine lv_iadd hx hb dL_law_1257 ?_
        refine ztop (.int 1) (congrArg Value.int (by decide)) ?_
        refine va_sld hx hb hX hbl hbA hS (zix (k := 1) (by decide) (by decide) (by decide)).1 dL_law_1258 ?_
        refine ztop (.int (xs 1)) (congrArg Value.int (congrArg xs (by decide))) ?_
        refine ztop (.int (nI 1)) (congrArg Value.int hxk) ?_
        refine lv_aload_n hx hb dL_law_1259 rfl (lv_at hl 4 rfl) ?_
        refine lv_iload hx hb dL_law_1260 (lv_at hl 0 rfl) ?_
        refine lv_iconst (v := 2) hx hb dL_law_1262 (by decide) ?_
        refine lv_iadd hx hb dL_law_1263 ?_
        refine ztop (.int 2) (congrArg Value.int (by decide)) ?_
        refine va_sld hx hb hX hbl hbA hS (zix (k := 2) (by decide) (by decide) (by decide)).1 dL_law_1264 ?_
        refine ztop (.int (xs 2)) (congrArg Value.int (congrArg xs (by decide))) ?_
        refine lv_if_eq (tgt := 1272) hx hb dL_law_1265 (by decide) (fun h => absurd h (c_19)) (fun _ => ?_)
        refine lv_iconst (v := 1) hx hb dL_law_1268 (by decide) ?_
        refine lv_goto (tgt := 1273) hx hb dL_law_1269 (by decide) ?_
        refine zcall2 (va_runV (As := [.int (nI 1), .int 1]) (rest := [.int (if 1 = 0 then 1 else 0)]) ⟨hx, hb, hml, hown, htl⟩ (r_markin l D ct h2 y 1 1 (by decide) H.size) (cwV 2 htl gL_law_X12_mark rfl rfl rfl (by decide +kernel) ⟨Nat.le_of_ble_eq_true rfl, Nat.le_of_ble_eq_true rfl⟩) (zpreV hK hw hS hA zZ.nil hN [36, 37, 38, 39, 40, 41, 42, 43, 44, 45, 46] rfl rfl 11 36 rfl rfl) rfl rfl hl.1 rfl (lv_room (Nat.le_of_ble_eq_true rfl)) dL_law_1273 ⟨Nat.le_of_ble_eq_true rfl, Nat.le_of_ble_eq_true rfl⟩) hw hS hA [36, 37, 38, 39, 40, 41, 42, 43, 44, 45, 46] [0, 1, 2, 3, 4, 5, 6, 7, 8, 9, 10, 11, 12, 13, 14, 15, 16, 17, 18, 19, 20, 21, 22, 23, 24, 25, 26, 27, 28, 29, 30, 31, 32, 33, 34, 35] rfl rfl rfl rfl (fun _ H locs hp26 hw hS => ?_)
        have hw : zPD D (fun q : Nat => s.heap.size ≤ q) [(x 69, .inr (5, [.ref (x 70), .ref (x 76), .ref (x 80), .int 0])), (x 70, .inr (7, [.ref (x 71), .ref (x 72), .ref (x 73), .ref (x 74), .ref (x 75), .int 0])), (x 71, .inl (ct 0, 6, .inl (fun _ => 0))), (x 72, .inl (ct 0, 6, .inl (fun _ => 0))), (x 73, .inl (ct 0, 6, .inl (fun _ => 0))), (x 74, .inl (ct 0, 6, .inl (fun _ => 0))), (x 75, .inl (ct 0, 6, .inl (fun _ => 0))), (x 76, .inr (1, [.ref (x 77), .ref (x 78), .ref (x 79), .int 0])), (x 77, .inl (ct 0, 40, .inl (fun _ => 0))), (x 78, .inl (ct 0, 40, .inl (fun _ => 0))), (x 79, .inl (ct 0, 40, .inl (fun _ => 0))), (x 80, .inr (6, [.int 2147483647, .int 0])), (x 93, .inr (5, [.ref (x 94), .ref (x 100), .ref (x 104), .int 0])), (x 94, .inr (7, [.ref (x 95), .ref (x 96), .ref (x 97), .ref (x 98), .ref (x 99), .int 0])), (x 95, .inl (ct 0, 6, .inl (fun _ => 0))), (x 96, .inl (ct 0, 6, .inl (fun _ => 0))), (x 97, .inl (ct 0, 6, .inl (fun _ => 0))), (x 98, .inl (ct 0, 6, .inl (fun _ => 0))), (x 99, .inl (ct 0, 6, .inl (fun _ => 0))), (x 100, .inr (1, [.ref (x 101), .ref (x 102), .ref (x 103), .int 0])), (x 101, .inl (ct 0, 40, .inl (fun _ => 0))), (x 102, .inl (ct 0, 40, .inl (fun _ => 0))), (x 103, .inl (ct 0, 40, .inl (fun _ => 0))), (x 104, .inr (6, [.int 2147483647, .int 0])), (x 105, .inr (5, [.ref (x 106), .ref (x 112), .ref (x 116), .int 0])), (x 106, .inr (7, [.ref (x 107), .ref (x 108), .ref (x 109), .ref (x 110), .ref (x 111), .int 0])), (x 107, .inl (ct 0, 6, .inl (fun _ => 0))), (x 108, .inl (ct 0, 6, .inl (fun _ => 0))), (x 109, .inl (ct 0, 6, .inl (fun _ => 0))), (x 110, .inl (ct 0, 6, .inl (fun _ => 0))), (x 111, .inl (ct 0, 6, .inl (fun _ => 0))), (x 112, .inr (1, [.ref (x 113), .ref (x 114), .ref (x 115), .int 0])), (x 113, .inl (ct 0, 40, .inl (fun _ => 0))), (x 114, .inl (ct 0, 40, .inl (fun _ => 0))), (x 115, .inl (ct 0, 40, .inl (fun _ => 0))), (x 116, .inr (6, [.int 2147483647, .int 0]))] H := hw
        refine zfr 1276 [.int (if 1 = 0 then 1 else 0), .int (if 1 = 0 then 1 else 0)] rfl rfl ?_
        refine lv_icmp_eq (tgt := 1306) hx hb dL_law_1276 (by decide) (fun _ => ?_) (fun h => absurd (rfl) h)
        exact law_end C0 hS ls (lv_sub hl [0, 4] rfl)
    · refine lv_aload_n hx hb dL_law_1228 rfl (lv_at hl 3 rfl) ?_
      refine lv_aload_n hx hb dL_law_1229 rfl (lv_at hl 4 rfl) ?_
      refine lv_iload hx hb dL_law_1230 (lv_at hl 0 rfl) ?_
      refine lv_iconst (v := 1) hx hb dL_law_1232 (by decide) ?_
      refine lv_iadd hx hb dL_law_1233 ?_
      refine ztop (.int 1) (congrArg Value.int (by decide)) ?_
      refine va_sld hx hb hX hbl hbA hS (zix (k := 1) (by decide) (by decide) (by decide)).1 dL_law_1234 ?_
      refine ztop (.int (xs 1)) (congrArg Value.int (congrArg xs (by decide))) ?_
      refine ztop (.int (nI 2)) (congrArg Value.int hxk) ?_
      refine lv_aload_n hx hb dL_law_1235 rfl (lv_at hl 4 rfl) ?_
      refine lv_iload hx hb dL_law_1236 (lv_at hl 0 rfl) ?_
      refine lv_iconst (v := 2) hx hb dL_law_1238 (by decide) ?_
      refine lv_iadd hx hb dL_law_1239 ?_
      refine ztop (.int 2) (congrArg Value.int (by decide)) ?_
      refine va_sld hx hb hX hbl hbA hS (zix (k := 2) (by decide) (by decide) (by decide)).1 dL_law_1240 ?_
      refine ztop (.int (xs 2)) (congrArg Value.int (congrArg xs (by decide))) ?_
      refine lv_if_eq (tgt := 1248) hx hb dL_law_1241 (by decide) (fun c_28 => ?_) (fun c_28 => ?_)
      · refine lv_iconst (v := 0) hx hb dL_law_1248 (by decide) ?_
        refine zcall2 (va_runV (As := [.int (nI 2), .int 0]) (rest := []) ⟨hx, hb, hml, hown, htl⟩ (k_markin l D ct h1 x 2 0 (va_up (va_up (va_up (va_up (fun _ => none) 0 (some (x 69))) 1 (some (x 81))) 2 (some (x 93))) 3 (some (x 105))) (x 93) (x 94) (x 95) (x 96) (x 97) (x 98) (x 99) (x 100) (x 101) (x 102) (x 103) (x 104) (by decide) (rfl) H.size) (cwV 2 htl gL_law_X11_mark rfl rfl rfl (by decide +kernel) ⟨Nat.le_of_ble_eq_true rfl, Nat.le_of_ble_eq_true rfl⟩) (zpreV hK hw hS hA zZ.nil hN [0, 1, 2, 3, 4, 5, 6, 7, 8, 9, 10, 11, 12, 37, 38, 39, 40, 41, 42, 43, 44, 45, 46, 47, 48] rfl rfl 10 0 rfl rfl) rfl rfl hl.1 rfl (lv_room (Nat.le_of_ble_eq_true rfl)) dL_law_1249 ⟨Nat.le_of_ble_eq_true rfl, Nat.le_of_ble_eq_true rfl⟩) hw hS hA [0, 1, 2, 3, 4, 5, 6, 7, 8, 9, 10, 11, 12, 37, 38, 39, 40, 41, 42, 43, 44, 45, 46, 47, 48] [13, 14, 15, 16, 17, 18, 19, 20, 21, 22, 23, 24, 25, 26, 27, 28, 29, 30, 31, 32, 33, 34, 35, 36, 49, 50, 51, 52, 53, 54, 55, 56, 57, 58, 59, 60, 61, 62, 63, 64, 65, 66, 67, 68, 69, 70, 71] rfl rfl rfl rfl (fun _ H locs hp29 hw hS => ?_)
        have hw : zPD D (fun q : Nat => s.heap.size ≤ q) [(x 69, .inr (5, [.ref (x 70), .ref (x 76), .ref (x 80), .int 0])), (x 70, .inr (7, [.ref (x 71), .ref (x 72), .ref (x 73), .ref (x 74), .ref (x 75), .int 0])), (x 71, .inl (ct 0, 6, .inl (fun _ => 0))), (x 72, .inl (ct 0, 6, .inl (fun _ => 0))), (x 73, .inl (ct 0, 6, .inl (fun _ => 0))), (x 74, .inl (ct 0, 6, .inl (fun _ => 0))), (x 75, .inl (ct 0, 6, .inl (fun _ => 0))), (x 76, .inr (1, [.ref (x 77), .ref (x 78), .ref (x 79), .int 0])), (x 77, .inl (ct 0, 40, .inl (fun _ => 0))), (x 78, .inl (ct 0, 40, .inl (fun _ => 0))), (x 79, .inl (ct 0, 40, .inl (fun _ => 0))), (x 80, .inr (6, [.int 2147483647, .int 0])), (x 81, .inr (5, [.ref (x 82), .ref (x 88), .ref (x 92), .int 0])), (x 82, .inr (7, [.ref (x 83), .ref (x 84), .ref (x 85), .ref (x 86), .ref (x 87), .int 0])), (x 83, .inl (ct 0, 6, .inl (fun _ => 0))), (x 84, .inl (ct 0, 6, .inl (fun _ => 0))), (x 85, .inl (ct 0, 6, .inl (fun _ => 0))), (x 86, .inl (ct 0, 6, .inl (fun _ => 0))), (x 87, .inl (ct 0, 6, .inl (fun _ => 0))), (x 88, .inr (1, [.ref (x 89), .ref (x 90), .ref (x 91), .int 0])), (x 89, .inl (ct 0, 40, .inl (fun _ => 0))), (x 90, .inl (ct 0, 40, .inl (fun _ => 0))), (x 91, .inl (ct 0, 40, .inl (fun _ => 0))), (x 92, .inr (6, [.int 2147483647, .int 0])), (x 105, .inr (5, [.ref (x 106), .ref (x 112), .ref (x 116), .int 0])), (x 106, .inr (7, [.ref (x 107), .ref (x 108), .ref (x 109), .ref (x 110), .ref (x 111), .int 0])), (x 107, .inl (ct 0, 6, .inl (fun _ => 0))), (x 108, .inl (ct 0, 6, .inl (fun _ => 0))), (x 109, .inl (ct 0, 6, .inl (fun _ => 0))), (x 110, .inl (ct 0, 6, .inl (fun _ => 0))), (x 111, .inl (ct 0, 6, .inl (fun _ => 0))), (x 112, .inr (1, [.ref (x 113), .ref (x 114), .ref (x 115), .int 0])), (x 113, .inl (ct 0, 40, .inl (fun _ => 0))), (x 114, .inl (ct 0, 40, .inl (fun _ => 0))), (x 115, .inl (ct 0, 40, .inl (fun _ => 0))), (x 116, .inr (6, [.int 2147483647, .int 0])), (h2, .inr (11, [.int 0, .int 0, .ref (y 0), .int 0, .int 0, .int 0, .int 0, .long 0, .int 0, .int 0, .ref (y 1), .ref (y 2), .ref (y 3), .ref (y 4), .ref (y 5), .ref (y 6), .ref (y 7), .ref (y 8), .ref (y 9), .ref (y 10), .ref (y 11), .ref (y 12), .int 0, .int 0, .ref (y 13), .ref (y 14), .ref (y 15), .ref (y 16), .ref (y 17), .ref (y 18), .ref (y 19), .ref (y 20), .ref (y 21), .ref (y 22), .ref (y 23), .ref (y 24), .int 0, .long 0, .ref (y 25), .ref (y 26), .ref (y 27), .ref (y 28), .ref (y 29), .ref (y 30), .ref (y 31), .ref (y 32), .ref (y 33), .ref (y 34), .ref (y 35), .ref (y 36), .ref (y 37), .int 0, .int 0, .ref (y 38), .long 0, .int 0, .int 0])), (y 37, .inl (ct 3, 4, .inl (fun _ => 0))), (y 25, .inl (ct 0, 6, .inl (fun _ => 0))), (y 26, .inl (ct 0, 240, .inl (fun _ => 0))), (y 27, .inl (ct 0, 240, .inl (fun _ => 0))), (y 28, .inl (ct 0, 240, .inl (fun _ => 0))), (y 29, .inl (ct 0, 5, .inl (fun _ => 0))), (y 30, .inl (ct 0, 40, .inl (fun _ => 0))), (y 31, .inl (ct 3, 40, .inl (fun _ => 0))), (y 32, .inl (ct 0, 31, .inl (fun _ => 0))), (y 35, .inl (ct 0, 124, .inl (fun _ => 0)))] H := hw
        refine zfr 1252 [.int (if 0 = 0 then 1 else 0)] rfl rfl ?_
        refine lv_aload_n hx hb dL_law_1252 rfl (lv_at hl 2 rfl) ?_
        refine lv_aload_n hx hb dL_law_1253 rfl (lv_at hl 4 rfl) ?_
        refine lv_iload hx hb dL_law_1254 (lv_at hl 0 rfl) ?_
        refine lv_iconst (v := 1) hx hb dL_law_1256 (by decide) ?_
        refine lv_iadd hx hb dL_law_1257 ?_
        refine ztop (.int 1) (congrArg Value.int (by decide)) ?_
        refine va_sld hx hb hX hbl hbA hS (zix (k := 1) (by decide) (by decide) (by decide)).1 dL_law_1258 ?_
        refine ztop (.int (xs 1)) (congrArg Value.int (congrArg xs (by decide))) ?_
        refine ztop (.int (nI 2)) (congrArg Value.int hxk) ?_
        refine lv_aload_n hx hb dL_law_1259 rfl (lv_at hl 4 rfl) ?_
        refine lv_iload hx hb dL_law_1260 (lv_at hl 0 rfl) ?_
        refine lv_iconst (v := 2) hx hb dL_law_1262 (by decide) ?_
        refine lv_iadd hx hb dL_law_1263 ?_
        refine ztop (.int 2) (congrArg Value.int (by decide)) ?_
        refine va_sld hx hb hX hbl hbA hS (zix (k := 2) (by decide) (by decide) (by decide)).1 dL_law_1264 ?_
        refine ztop (.int (xs 2)) (congrArg Value.int (congrArg xs (by decide))) ?_
        refine lv_if_eq (tgt := 1272) hx hb dL_law_1265 (by decide) (fun _ => ?_) (fun h => absurd (c_28) h)
        refine lv_iconst (v := 0) hx hb dL_law_1272 (by decide) ?_
        refine zcall2 (va_runV (As := [.int (nI 2), .int 0]) (rest := [.int (if 0 = 0 then 1 else 0)]) ⟨hx, hb, hml, hown, htl⟩ (r_markin l D ct h2 y 2 0 (by decide) H.size) (cwV 2 htl gL_law_X12_mark rfl rfl rfl (by decide +kernel) ⟨Nat.le_of_ble_eq_true rfl, Nat.le_of_ble_eq_true rfl⟩) (zpreV hK hw hS hA zZ.nil hN [36, 37, 38, 39, 40, 41, 42, 43, 44, 45, 46] rfl rfl 11 36 rfl rfl) rfl rfl hl.1 rfl (lv_room (Nat.le_of_ble_eq_true rfl)) dL_law_1273 ⟨Nat.le_of_ble_eq_true rfl, Nat.le_of_ble_eq_true rfl⟩) hw hS hA [36, 37, 38, 39, 40, 41, 42, 43, 44, 45, 46] [0, 1, 2, 3, 4, 5, 6, 7, 8, 9, 10, 11, 12, 13, 14, 15, 16, 17, 18, 19, 20, 21, 22, 23, 24, 25, 26, 27, 28, 29, 30, 31, 32, 33, 34, 35] rfl rfl rfl rfl (fun _ H locs hp31 hw hS => ?_)
        have hw : zPD D (fun q : Nat => s.heap.size ≤ q) [(x 69, .inr (5, [.ref (x 70), .ref (x 76), .ref (x 80), .int 0])), (x 70, .inr (7, [.ref (x 71), .ref (x 72), .ref (x 73), .ref (x 74), .ref (x 75), .int 0])), (x 71, .inl (ct 0, 6, .inl (fun _ => 0))), (x 72, .inl (ct 0, 6, .inl (fun _ => 0))), (x 73, .inl (ct 0, 6, .inl (fun _ => 0))), (x 74, .inl (ct 0, 6, .inl (fun _ => 0))), (x 75, .inl (ct 0, 6, .inl (fun _ => 0))), (x 76, .inr (1, [.ref (x 77), .ref (x 78), .ref (x 79), .int 0])), (x 77, .inl (ct 0, 40, .inl (fun _ => 0))), (x 78, .inl (ct 0, 40, .inl (fun _ => 0))), (x 79, .inl (ct 0, 40, .inl (fun _ => 0))), (x 80, .inr (6, [.int 2147483647, .int 0])), (x 81, .inr (5, [.ref (x 82), .ref (x 88), .ref (x 92), .int 0])), (x 82, .inr (7, [.ref (x 83), .ref (x 84), .ref (x 85), .ref (x 86), .ref (x 87), .int 0])), (x 83, .inl (ct 0, 6, .inl (fun _ => 0))), (x 84, .inl (ct 0, 6, .inl (fun _ => 0))), (x 85, .inl (ct 0, 6, .inl (fun _ => 0))), (x 86, .inl (ct 0, 6, .inl (fun _ => 0))), (x 87, .inl (ct 0, 6, .inl (fun _ => 0))), (x 88, .inr (1, [.ref (x 89), .ref (x 90), .ref (x 91), .int 0])), (x 89, .inl (ct 0, 40, .inl (fun _ => 0))), (x 90, .inl (ct 0, 40, .inl (fun _ => 0))), (x 91, .inl (ct 0, 40, .inl (fun _ => 0))), (x 92, .inr (6, [.int 2147483647, .int 0])), (x 105, .inr (5, [.ref (x 106), .ref (x 112), .ref (x 116), .int 0])), (x 106, .inr (7, [.ref (x 107), .ref (x 108), .ref (x 109), .ref (x 110), .ref (x 111), .int 0])), (x 107, .inl (ct 0, 6, .inl (fun _ => 0))), (x 108, .inl (ct 0, 6, .inl (fun _ => 0))), (x 109, .inl (ct 0, 6, .inl (fun _ => 0))), (x 110, .inl (ct 0, 6, .inl (fun _ => 0))), (x 111, .inl (ct 0, 6, .inl (fun _ => 0))), (x 112, .inr (1, [.ref (x 113), .ref (x 114), .ref (x 115), .int 0])), (x 113, .inl (ct 0, 40, .inl (fun _ => 0))), (x 114, .inl (ct 0, 40, .inl (fun _ => 0))), (x 115, .inl (ct 0, 40, .inl (fun _ => 0))), (x 116, .inr (6, [.int 2147483647, .int 0]))] H := hw
        refine zfr 1276 [.int (if 0 = 0 then 1 else 0), .int (if 0 = 0 then 1 else 0)] rfl rfl ?_
        refine lv_icmp_eq (tgt := 1306) hx hb dL_law_1276 (by decide) (fun _ => ?_) (fun h => absurd (rfl) h)
        exact law_end C0 hS ls (lv_sub hl [0, 4] rfl)
      · refine lv_iconst (v := 1) hx hb dL_law_1244 (by decide) ?_
        refine lv_goto (tgt := 1249) hx hb dL_law_1245 (by decide) ?_
        refine zcall2 (va_runV (As := [.int (nI 2), .int 1]) (rest := []) ⟨hx, hb, hml, hown, htl⟩ (k_markin l D ct h1 x 2 1 (va_up (va_up (va_up (va_up (fun _ => none) 0 (some (x 69))) 1 (some (x 81))) 2 (some (x 93))) 3 (some (x 105))) (x 93) (x 94) (x 95) (x 96) (x 97) (x 98) (x 99) (x 100) (x 101) (x 102) (x 103) (x 104) (by decide) (rfl) H.size) (cwV 2 htl gL_law_X11_mark rfl rfl rfl (by decide +kernel) ⟨Nat.le_of_ble_eq_true rfl, Nat.le_of_ble_eq_true rfl⟩) (zpreV hK hw hS hA zZ.nil hN [0, 1, 2, 3, 4, 5, 6, 7, 8, 9, 10, 11, 12, 37, 38, 39, 40, 41, 42, 43, 44, 45, 46, 47, 48] rfl rfl 10 0 rfl rfl) rfl rfl hl.1 rfl (lv_room (Nat.le_of_ble_eq_true rfl)) dL_law_1249 ⟨Nat.le_of_ble_eq_true rfl, Nat.le_of_ble_eq_true rfl⟩) hw hS hA [0, 1, 2, 3, 4, 5, 6, 7, 8, 9, 10, 11, 12, 37, 38, 39, 40, 41, 42, 43, 44, 45, 46, 47, 48] [13, 14, 15, 16, 17, 18, 19, 20, 21, 22, 23, 24, 25, 26, 27, 28, 29, 30, 31, 32, 33, 34, 35, 36, 49, 50, 51, 52, 53, 54, 55, 56, 57, 58, 59, 60, 61, 62, 63, 64, 65, 66, 67, 68, 69, 70, 71] rfl rfl rfl rfl (fun _ H locs hp33 hw hS => ?_)
        have hw : zPD D (fun q : Nat => s.heap.size ≤ q) [(x 69, .inr (5, [.ref (x 70), .ref (x 76), .ref (x 80), .int 0])), (x 70, .inr (7, [.ref (x 71), .ref (x 72), .ref (x 73), .ref (x 74), .ref (x 75), .int 0])), (x 71, .inl (ct 0, 6, .inl (fun _ => 0))), (x 72, .inl (ct 0, 6, .inl (fun _ => 0))), (x 73, .inl (ct 0, 6, .inl (fun _ => 0))), (x 74, .inl (ct 0, 6, .inl (fun _ => 0))), (x 75, .inl (ct 0, 6, .inl (fun _ => 0))), (x 76, .inr (1, [.ref (x 77), .ref (x 78), .ref (x 79), .int 0])), (x 77, .inl (ct 0, 40, .inl (fun _ => 0))), (x 78, .inl (ct 0, 40, .inl (fun _ => 0))), (x 79, .inl (ct 0, 40, .inl (fun _ => 0))), (x 80, .inr (6, [.int 2147483647, .int 0])), (x 81, .inr (5, [.ref (x 82), .ref (x 88), .ref (x 92), .int 0])), (x 82, .inr (7, [.ref (x 83), .ref (x 84), .ref (x 85), .ref (x 86), .ref (x 87), .int 0])), (x 83, .inl (ct 0, 6, .inl (fun _ => 0))), (x 84, .inl (ct 0, 6, .inl (fun _ => 0))), (x 85, .inl (ct 0, 6, .inl (fun _ => 0))), (x 86, .inl (ct 0, 6, .inl (fun _ => 0))), (x 87, .inl (ct 0, 6, .inl (fun _ => 0))), (x 88, .inr (1, [.ref (x 89), .ref (x 90), .ref (x 91), .int 0])), (x 89, .inl (ct 0, 40, .inl (fun _ => 0))), (x 90, .inl (ct 0, 40, .inl (fun _ => 0))), (x 91, .inl (ct 0, 40, .inl (fun _ => 0))), (x 92, .inr (6, [.int 2147483647, .int 0])), (x 105, .inr (5, [.ref (x 106), .ref (x 112), .ref (x 116), .int 0])), (x 106, .inr (7, [.ref (x 107), .ref (x 108), .ref (x 109), .ref (x 110), .ref (x 111), .int 0])), (x 107, .inl (ct 0, 6, .inl (fun _ => 0))), (x 108, .inl (ct 0, 6, .inl (fun _ => 0))), (x 109, .inl (ct 0, 6, .inl (fun _ => 0))), (x 110, .inl (ct 0, 6, .inl (fun _ => 0))), (x 111, .inl (ct 0, 6, .inl (fun _ => 0))), (x 112, .inr (1, [.ref (x 113), .ref (x 114), .ref (x 115), .int 0])), (x 113, .inl (ct 0, 40, .inl (fun _ => 0))), (x 114, .inl (ct 0, 40, .inl (fun _ => 0))), (x 115, .inl (ct 0, 40, .inl (fun _ => 0))), (x 116, .inr (6, [.int 2147483647, .int 0])), (h2, .inr (11, [.int 0, .int 0, .ref (y 0), .int 0, .int 0, .int 0, .int 0, .long 0, .int 0, .int 0, .ref (y 1), .ref (y 2), .ref (y 3), .ref (y 4), .ref (y 5), .ref (y 6), .ref (y 7), .ref (y 8), .ref (y 9), .ref (y 10), .ref (y 11), .ref (y 12), .int 0, .int 0, .ref (y 13), .ref (y 14), .ref (y 15), .ref (y 16), .ref (y 17), .ref (y 18), .ref (y 19), .ref (y 20), .ref (y 21), .ref (y 22), .ref (y 23), .ref (y 24), .int 0, .long 0, .ref (y 25), .ref (y 26), .ref (y 27), .ref (y 28), .ref (y 29), .ref (y 30), .ref (y 31), .ref (y 32), .ref (y 33), .ref (y 34), .ref (y 35), .ref (y 36), .ref (y 37), .int 0, .int 0, .ref (y 38), .long 0, .int 0, .int 0])), (y 37, .inl (ct 3, 4, .inl (fun _ => 0))), (y 25, .inl (ct 0, 6, .inl (fun _ => 0))), (y 26, .inl (ct 0, 240, .inl (fun _ => 0))), (y 27, .inl (ct 0, 240, .inl (fun _ => 0))), (y 28, .inl (ct 0, 240, .inl (fun _ => 0))), (y 29, .inl (ct 0, 5, .inl (fun _ => 0))), (y 30, .inl (ct 0, 40, .inl (fun _ => 0))), (y 31, .inl (ct 3, 40, .inl (fun _ => 0))), (y 32, .inl (ct 0, 31, .inl (fun _ => 0))), (y 35, .inl (ct 0, 124, .inl (fun _ => 0)))] H := hw
        refine zfr 1252 [.int (if 1 = 0 then 1 else 0)] rfl rfl ?_
        refine lv_aload_n hx hb dL_law_1252 rfl (lv_at hl 2 rfl) ?_
        refine lv_aload_n hx hb dL_law_1253 rfl (lv_at hl 4 rfl) ?_
        refine lv_iload hx hb dL_law_1254 (lv_at hl 0 rfl) ?_
        refine lv_iconst (v := 1) hx hb dL_law_1256 (by decide) ?_
        refine lv_iadd hx hb dL_law_1257 ?_
        refine ztop (.int 1) (congrArg Value.int (by decide)) ?_
        refine va_sld hx hb hX hbl hbA hS (zix (k := 1) (by decide) (by decide) (by decide)).1 dL_law_1258 ?_
        refine ztop (.int (xs 1)) (congrArg Value.int (congrArg xs (by decide))) ?_
        refine ztop (.int (nI 2)) (congrArg Value.int hxk) ?_
        refine lv_aload_n hx hb dL_law_1259 rfl (lv_at hl 4 rfl) ?_
        refine lv_iload hx hb dL_law_1260 (lv_at hl 0 rfl) ?_
        refine lv_iconst (v := 2) hx hb dL_law_1262 (by decide) ?_
        refine lv_iadd hx hb dL_law_1263 ?_
        refine ztop (.int 2) (congrArg Value.int (by decide)) ?_
        refine va_sld hx hb hX hbl hbA hS (zix (k := 2) (by decide) (by decide) (by decide)).1 dL_law_1264 ?_
        refine ztop (.int (xs 2)) (congrArg Value.int (congrArg xs (by decide))) ?_
        refine lv_if_eq (tgt := 1272) hx hb dL_law_1265 (by decide) (fun h => absurd h (c_28)) (fun _ => ?_)
        refine lv_iconst (v := 1) hx hb dL_law_1268 (by decide) ?_
        refine lv_goto (tgt := 1273) hx hb dL_law_1269 (by decide) ?_
        refine zcall2 (va_runV (As := [.int (nI 2), .int 1]) (rest := [.int (if 1 = 0 then 1 else 0)]) ⟨hx, hb, hml, hown, htl⟩ (r_markin l D ct h2 y 2 1 (by decide) H.size) (cwV 2 htl gL_law_X12_mark rfl rfl rfl (by decide +kernel) ⟨Nat.le_of_ble_eq_true rfl, Nat.le_of_ble_eq_true rfl⟩) (zpreV hK hw hS hA zZ.nil hN [36, 37, 38, 39, 40, 41, 42, 43, 44, 45, 46] rfl rfl 11 36 rfl rfl) rfl rfl hl.1 rfl (lv_room (Nat.le_of_ble_eq_true rfl)) dL_law_1273 ⟨Nat.le_of_ble_eq_true rfl, Nat.le_of_ble_eq_true rfl⟩) hw hS hA [36, 37, 38, 39, 40, 41, 42, 43, 44, 45, 46] [0, 1, 2, 3, 4, 5, 6, 7, 8, 9, 10, 11, 12, 13, 14, 15, 16, 17, 18, 19, 20, 21, 22, 23, 24, 25, 26, 27, 28, 29, 30, 31, 32, 33, 34, 35] rfl rfl rfl rfl (fun _ H locs hp35 hw hS => ?_)
        have hw : zPD D (fun q : Nat => s.heap.size ≤ q) [(x 69, .inr (5, [.ref (x 70), .ref (x 76), .ref (x 80), .int 0])), (x 70, .inr (7, [.ref (x 71), .ref (x 72), .ref (x 73), .ref (x 74), .ref (x 75), .int 0])), (x 71, .inl (ct 0, 6, .inl (fun _ => 0))), (x 72, .inl (ct 0, 6, .inl (fun _ => 0))), (x 73, .inl (ct 0, 6, .inl (fun _ => 0))), (x 74, .inl (ct 0, 6, .inl (fun _ => 0))), (x 75, .inl (ct 0, 6, .inl (fun _ => 0))), (x 76, .inr (1, [.ref (x 77), .ref (x 78), .ref (x 79), .int 0])), (x 77, .inl (ct 0, 40, .inl (fun _ => 0))), (x 78, .inl (ct 0, 40, .inl (fun _ => 0))), (x 79, .inl (ct 0, 40, .inl (fun _ => 0))), (x 80, .inr (6, [.int 2147483647, .int 0])), (x 81, .inr (5, [.ref (x 82), .ref (x 88), .ref (x 92), .int 0])), (x 82, .inr (7, [.ref (x 83), .ref (x 84), .ref (x 85), .ref (x 86), .ref (x 87), .int 0])), (x 83, .inl (ct 0, 6, .inl (fun _ => 0))), (x 84, .inl (ct 0, 6, .inl (fun _ => 0))), (x 85, .inl (ct 0, 6, .inl (fun _ => 0))), (x 86, .inl (ct 0, 6, .inl (fun _ => 0))), (x 87, .inl (ct 0, 6, .inl (fun _ => 0))), (x 88, .inr (1, [.ref (x 89), .ref (x 90), .ref (x 91), .int 0])), (x 89, .inl (ct 0, 40, .inl (fun _ => 0))), (x 90, .inl (ct 0, 40, .inl (fun _ => 0))), (x 91, .inl (ct 0, 40, .inl (fun _ => 0))), (x 92, .inr (6, [.int 2147483647, .int 0])), (x 105, .inr (5, [.ref (x 106), .ref (x 112), .ref (x 116), .int 0])), (x 106, .inr (7, [.ref (x 107), .ref (x 108), .ref (x 109), .ref (x 110), .ref (x 111), .int 0])), (x 107, .inl (ct 0, 6, .inl (fun _ => 0))), (x 108, .inl (ct 0, 6, .inl (fun _ => 0))), (x 109, .inl (ct 0, 6, .inl (fun _ => 0))), (x 110, .inl (ct 0, 6, .inl (fun _ => 0))), (x 111, .inl (ct 0, 6, .inl (fun _ => 0))), (x 112, .inr (1, [.ref (x 113), .ref (x 114), .ref (x 115), .int 0])), (x 113, .inl (ct 0, 40, .inl (fun _ => 0))), (x 114, .inl (ct 0, 40, .inl (fun _ => 0))), (x 115, .inl (ct 0, 40, .inl (fun _ => 0))), (x 116, .inr (6, [.int 2147483647, .int 0]))] H := hw
        refine zfr 1276 [.int (if 1 = 0 then 1 else 0), .int (if 1 = 0 then 1 else 0)] rfl rfl ?_
        refine lv_icmp_eq (tgt := 1306) hx hb dL_law_1276 (by decide) (fun _ => ?_) (fun h => absurd (rfl) h)
        exact law_end C0 hS ls (lv_sub hl [0, 4] rfl)
    · refine lv_aload_n hx hb dL_law_1228 rfl (lv_at hl 3 rfl) ?_
      refine lv_aload_n hx hb dL_law_1229 rfl (lv_at hl 4 rfl) ?_
      refine lv_iload hx hb dL_law_1230 (lv_at hl 0 rfl) ?_
      refine lv_iconst (v := 1) hx hb dL_law_1232 (by decide) ?_
      refine lv_iadd hx hb dL_law_1233 ?_
      refine ztop (.int 1) (congrArg Value.int (by decide)) ?_
      refine va_sld hx hb hX hbl hbA hS (zix (k := 1) (by decide) (by decide) (by decide)).1 dL_law_1234 ?_
      refine ztop (.int (xs 1)) (congrArg Value.int (congrArg xs (by decide))) ?_
      refine ztop (.int (nI 3)) (congrArg Value.int hxk) ?_
      refine lv_aload_n hx hb dL_law_1235 rfl (lv_at hl 4 rfl) ?_
      refine lv_iload hx hb dL_law_1236 (lv_at hl 0 rfl) ?_
      refine lv_iconst (v := 2) hx hb dL_law_1238 (by decide) ?_
      refine lv_iadd hx hb dL_law_1239 ?_
      refine ztop (.int 2) (congrArg Value.int (by decide)) ?_
      refine va_sld hx hb hX hbl hbA hS (zix (k := 2) (by decide) (by decide) (by decide)).1 dL_law_1240 ?_
      refine ztop (.int (xs 2)) (congrArg Value.int (congrArg xs (by decide))) ?_
      refine lv_if_eq (tgt := 1248) hx hb dL_law_1241 (by decide) (fun c_37 => ?_) (fun c_37 => ?_)
      · refine lv_iconst (v := 0) hx hb dL_law_1248 (by decide) ?_
        refine zcall2 (va_runV (As := [.int (nI 3), .int 0]) (rest := []) ⟨hx, hb, hml, hown, htl⟩ (k_markin l D ct h1 x 3 0 (va_up (va_up (va_up (va_up (fun _ => none) 0 (some (x 69))) 1 (some (x 81))) 2 (some (x 93))) 3 (some (x 105))) (x 105) (x 106) (x 107) (x 108) (x 109) (x 110) (x 111) (x 112) (x 113) (x 114) (x 115) (x 116) (by decide) (rfl) H.size) (cwV 2 htl gL_law_X11_mark rfl rfl rfl (by decide +kernel) ⟨Nat.le_of_ble_eq_true rfl, Nat.le_of_ble_eq_true rfl⟩) (zpreV hK hw hS hA zZ.nil hN [0, 1, 2, 3, 4, 5, 6, 7, 8, 9, 10, 11, 12, 49, 50, 51, 52, 53, 54, 55, 56, 57, 58, 59, 60] rfl rfl 10 0 rfl rfl) rfl rfl hl.1 rfl (lv_room (Nat.le_of_ble_eq_true rfl)) dL_law_1249 ⟨Nat.le_of_ble_eq_true rfl, Nat.le_of_ble_eq_true rfl⟩) hw hS hA [0, 1, 2, 3, 4, 5, 6, 7, 8, 9, 10, 11, 12, 49, 50, 51, 52, 53, 54, 55, 56, 57, 58, 59, 60] [13, 14, 15, 16, 17, 18, 19, 20, 21, 22, 23, 24, 25, 26, 27, 28, 29, 30, 31, 32, 33, 34, 35, 36, 37, 38, 39, 40, 41, 42, 43, 44, 45, 46, 47, 48, 61, 62, 63, 64, 65, 66, 67, 68, 69, 70, 71] rfl rfl rfl rfl (fun _ H locs hp38 hw hS => ?_)
        have hw : zPD D (fun q : Nat => s.heap.size ≤ q) [(x 69, .inr (5, [.ref (x 70), .ref (x 76), .ref (x 80), .int 0])), (x 70, .inr (7, [.ref (x 71), .ref (x 72), .ref (x 73), .ref (x 74), .ref (x 75), .int 0])), (x 71, .inl (ct 0, 6, .inl (fun _ => 0))), (x 72, .inl (ct 0, 6, .inl (fun _ => 0))), (x 73, .inl (ct 0, 6, .inl (fun _ => 0))), (x 74, .inl (ct 0, 6, .inl (fun _ => 0))), (x 75, .inl (ct 0, 6, .inl (fun _ => 0))), (x 76, .inr (1, [.ref (x 77), .ref (x 78), .ref (x 79), .int 0])), (x 77, .inl (ct 0, 40, .inl (fun _ => 0))), (x 78, .inl (ct 0, 40, .inl (fun _ => 0))), (x 79, .inl (ct 0, 40, .inl (fun _ => 0))), (x 80, .inr (6, [.int 2147483647, .int 0])), (x 81, .inr (5, [.ref (x 82), .ref (x 88), .ref (x 92), .int 0])), (x 82, .inr (7, [.ref (x 83), .ref (x 84), .ref (x 85), .ref (x 86), .ref (x 87), .int 0])), (x 83, .inl (ct 0, 6, .inl (fun _ => 0))), (x 84, .inl (ct 0, 6, .inl (fun _ => 0))), (x 85, .inl (ct 0, 6, .inl (fun _ => 0))), (x 86, .inl (ct 0, 6, .inl (fun _ => 0))), (x 87, .inl (ct 0, 6, .inl (fun _ => 0))), (x 88, .inr (1, [.ref (x 89), .ref (x 90), .ref (x 91), .int 0])), (x 89, .inl (ct 0, 40, .inl (fun _ => 0))), (x 90, .inl (ct 0, 40, .inl (fun _ => 0))), (x 91, .inl (ct 0, 40, .inl (fun _ => 0))), (x 92, .inr (6, [.int 2147483647, .int 0])), (x 93, .inr (5, [.ref (x 94), .ref (x 100), .ref (x 104), .int 0])), (x 94, .inr (7, [.ref (x 95), .ref (x 96), .ref (x 97), .ref (x 98), .ref (x 99), .int 0])), (x 95, .inl (ct 0, 6, .inl (fun _ => 0))), (x 96, .inl (ct 0, 6, .inl (fun _ => 0))), (x 97, .inl (ct 0, 6, .inl (fun _ => 0))), (x 98, .inl (ct 0, 6, .inl (fun _ => 0))), (x 99, .inl (ct 0, 6, .inl (fun _ => 0))), (x 100, .inr (1, [.ref (x 101), .ref (x 102), .ref (x 103), .int 0])), (x 101, .inl (ct 0, 40, .inl (fun _ => 0))), (x 102, .inl (ct 0, 40, .inl (fun _ => 0))), (x 103, .inl (ct 0, 40, .inl (fun _ => 0))), (x 104, .inr (6, [.int 2147483647, .int 0])), (h2, .inr (11, [.int 0, .int 0, .ref (y 0), .int 0, .int 0, .int 0, .int 0, .long 0, .int 0, .int 0, .ref (y 1), .ref (y 2), .ref (y 3), .ref (y 4), .ref (y 5), .ref (y 6), .ref (y 7), .ref (y 8), .ref (y 9), .ref (y 10), .ref (y 11), .ref (y 12), .int 0, .int 0, .ref (y 13), .ref (y 14), .ref (y 15), .ref (y 16), .ref (y 17), .ref (y 18), .ref (y 19), .ref (y 20), .ref (y 21), .ref (y 22), .ref (y 23), .ref (y 24), .int 0, .long 0, .ref (y 25), .ref (y 26), .ref (y 27), .ref (y 28), .ref (y 29), .ref (y 30), .ref (y 31), .ref (y 32), .ref (y 33), .ref (y 34), .ref (y 35), .ref (y 36), .ref (y 37), .int 0, .int 0, .ref (y 38), .long 0, .int 0, .int 0])), (y 37, .inl (ct 3, 4, .inl (fun _ => 0))), (y 25, .inl (ct 0, 6, .inl (fun _ => 0))), (y 26, .inl (ct 0, 240, .inl (fun _ => 0))), (y 27, .inl (ct 0, 240, .inl (fun _ => 0))), (y 28, .inl (ct 0, 240, .inl (fun _ => 0))), (y 29, .inl (ct 0, 5, .inl (fun _ => 0))), (y 30, .inl (ct 0, 40, .inl (fun _ => 0))), (y 31, .inl (ct 3, 40, .inl (fun _ => 0))), (y 32, .inl (ct 0, 31, .inl (fun _ => 0))), (y 35, .inl (ct 0, 124, .inl (fun _ => 0)))] H := hw
        refine zfr 1252 [.int (if 0 = 0 then 1 else 0)] rfl rfl ?_
        refine lv_aload_n hx hb dL_law_1252 rfl (lv_at hl 2 rfl) ?_
        refine lv_aload_n hx hb dL_law_1253 rfl (lv_at hl 4 rfl) ?_
        refine lv_iload hx hb dL_law_1254 (lv_at hl 0 rfl) ?_
        refine lv_iconst (v := 1) hx hb dL_law_1256 (by decide) ?_
        refine lv_iadd hx hb dL_law_1257 ?_
        refine ztop (.int 1) (congrArg Value.int (by decide)) ?_
        refine va_sld hx hb hX hbl hbA hS (zix (k := 1) (by decide) (by decide) (by decide)).1 dL_law_1258 ?_
        refine ztop (.int (xs 1)) (congrArg Value.int (congrArg xs (by decide))) ?_
        refine ztop (.int (nI 3)) (congrArg Value.int hxk) ?_
        refine lv_aload_n hx hb dL_law_1259 rfl (lv_at hl 4 rfl) ?_
        refine lv_iload hx hb dL_law_1260 (lv_at hl 0 rfl) ?_
        refine lv_iconst (v := 2) hx hb dL_law_1262 (by decide) ?_
        refine lv_iadd hx hb dL_law_1263 ?_
        refine ztop (.int 2) (congrArg Value.int (by decide)) ?_
        refine va_sld hx hb hX hbl hbA hS (zix (k := 2) (by decide) (by decide) (by decide)).1 dL_law_1264 ?_
        refine ztop (.int (xs 2)) (congrArg Value.int (congrArg xs (by decide))) ?_
        refine lv_if_eq (tgt := 1272) hx hb dL_law_1265 (by decide) (fun _ => ?_) (fun h => absurd (c_37) h)
        refine lv_iconst (v := 0) hx hb dL_law_1272 (by decide) ?_
        refine zcall2 (va_runV (As := [.int (nI 3), .int 0]) (rest := [.int (if 0 = 0 then 1 else 0)]) ⟨hx, hb, hml, hown, htl⟩ (r_markin l D ct h2 y 3 0 (by decide) H.size) (cwV 2 htl gL_law_X12_mark rfl rfl rfl (by decide +kernel) ⟨Nat.le_of_ble_eq_true rfl, Nat.le_of_ble_eq_true rfl⟩) (zpreV hK hw hS hA zZ.nil hN [36, 37, 38, 39, 40, 41, 42, 43, 44, 45, 46] rfl rfl 11 36 rfl rfl) rfl rfl hl.1 rfl (lv_room (Nat.le_of_ble_eq_true rfl)) dL_law_1273 ⟨Nat.le_of_ble_eq_true rfl, Nat.le_of_ble_eq_true rfl⟩) hw hS hA [36, 37, 38, 39, 40, 41, 42, 43, 44, 45, 46] [0, 1, 2, 3, 4, 5, 6, 7, 8, 9, 10, 11, 12, 13, 14, 15, 16, 17, 18, 19, 20, 21, 22, 23, 24, 25, 26, 27, 28, 29, 30, 31, 32, 33, 34, 35] rfl rfl rfl rfl (fun _ H locs hp40 hw hS => ?_)
        have hw : zPD D (fun q : Nat => s.heap.size ≤ q) [(x 69, .inr (5, [.ref (x 70), .ref (x 76), .ref (x 80), .int 0])), (x 70, .inr (7, [.ref (x 71), .ref (x 72), .ref (x 73), .ref (x 74), .ref (x 75), .int 0])), (x 71, .inl (ct 0, 6, .inl (fun _ => 0))), (x 72, .inl (ct 0, 6, .inl (fun _ => 0))), (x 73, .inl (ct 0, 6, .inl (fun _ => 0))), (x 74, .inl (ct 0, 6, .inl (fun _ => 0))), (x 75, .inl (ct 0, 6, .inl (fun _ => 0))), (x 76, .inr (1, [.ref (x 77), .ref (x 78), .ref (x 79), .int 0])), (x 77, .inl (ct 0, 40, .inl (fun _ => 0))), (x 78, .inl (ct 0, 40, .inl (fun _ => 0))), (x 79, .inl (ct 0, 40, .inl (fun _ => 0))), (x 80, .inr (6, [.int 2147483647, .int 0])), (x 81, .inr (5, [.ref (x 82), .ref (x 88), .ref (x 92), .int 0])), (x 82, .inr (7, [.ref (x 83), .ref (x 84), .ref (x 85), .ref (x 86), .ref (x 87), .int 0])), (x 83, .inl (ct 0, 6, .inl (fun _ => 0))), (x 84, .inl (ct 0, 6, .inl (fun _ => 0))), (x 85, .inl (ct 0, 6, .inl (fun _ => 0))), (x 86, .inl (ct 0, 6, .inl (fun _ => 0))), (x 87, .inl (ct 0, 6, .inl (fun _ => 0))), (x 88, .inr (1, [.ref (x 89), .ref (x 90), .ref (x 91), .int 0])), (x 89, .inl (ct 0, 40, .inl (fun _ => 0))), (x 90, .inl (ct 0, 40, .inl (fun _ => 0))), (x 91, .inl (ct 0, 40, .inl (fun _ => 0))), (x 92, .inr (6, [.int 2147483647, .int 0])), (x 93, .inr (5, [.ref (x 94), .ref (x 100), .ref (x 104), .int 0])), (x 94, .inr (7, [.ref (x 95), .ref (x 96), .ref (x 97), .ref (x 98), .ref (x 99), .int 0])), (x 95, .inl (ct 0, 6, .inl (fun _ => 0))), (x 96, .inl (ct 0, 6, .inl (fun _ => 0))), (x 97, .inl (ct 0, 6, .inl (fun _ => 0))), (x 98, .inl (ct 0, 6, .inl (fun _ => 0))), (x 99, .inl (ct 0, 6, .inl (fun _ => 0))), (x 100, .inr (1, [.ref (x 101), .ref (x 102), .ref (x 103), .int 0])), (x 101, .inl (ct 0, 40, .inl (fun _ => 0))), (x 102, .inl (ct 0, 40, .inl (fun _ => 0))), (x 103, .inl (ct 0, 40, .inl (fun _ => 0))), (x 104, .inr (6, [.int 2147483647, .int 0]))] H := hw
        refine zfr 1276 [.int (if 0 = 0 then 1 else 0), .int (if 0 = 0 then 1 else 0)] rfl rfl ?_
        refine lv_icmp_eq (tgt := 1306) hx hb dL_law_1276 (by decide) (fun _ => ?_) (fun h => absurd (rfl) h)
        exact law_end C0 hS ls (lv_sub hl [0, 4] rfl)
      · refine lv_iconst (v := 1) hx hb dL_law_1244 (by decide) ?_
        refine lv_goto (tgt := 1249) hx hb dL_law_1245 (by decide) ?_
        refine zcall2 (va_runV (As := [.int (nI 3), .int 1]) (rest := []) ⟨hx, hb, hml, hown, htl⟩ (k_markin l D ct h1 x 3 1 (va_up (va_up (va_up (va_up (fun _ => none) 0 (some (x 69))) 1 (some (x 81))) 2 (some (x 93))) 3 (some (x 105))) (x 105) (x 106) (x 107) (x 108) (x 109) (x 110) (x 111) (x 112) (x 113) (x 114) (x 115) (x 116) (by decide) (rfl) H.size) (cwV 2 htl gL_law_X11_mark rfl rfl rfl (by decide +kernel) ⟨Nat.le_of_ble_eq_true rfl, Nat.le_of_ble_eq_true rfl⟩) (zpreV hK hw hS hA zZ.nil hN [0, 1, 2, 3, 4, 5, 6, 7, 8, 9, 10, 11, 12, 49, 50, 51, 52, 53, 54, 55, 56, 57, 58, 59, 60] rfl rfl 10 0 rfl rfl) rfl rfl hl.1 rfl (lv_room (Nat.le_of_ble_eq_true rfl)) dL_law_1249 ⟨Nat.le_of_ble_eq_true rfl, Nat.le_of_ble_eq_true rfl⟩) hw hS hA [0, 1, 2, 3, 4, 5, 6, 7, 8, 9, 10, 11, 12, 49, 50, 51, 52, 53, 54, 55, 56, 57, 58, 59, 60] [13, 14, 15, 16, 17, 18, 19, 20, 21, 22, 23, 24, 25, 26, 27, 28, 29, 30, 31, 32, 33, 34, 35, 36, 37, 38, 39, 40, 41, 42, 43, 44, 45, 46, 47, 48, 61, 62, 63, 64, 65, 66, 67, 68, 69, 70, 71] rfl rfl rfl rfl (fun _ H locs hp42 hw hS => ?_)
        have hw : zPD D (fun q : Nat => s.heap.size ≤ q) [(x 69, .inr (5, [.ref (x 70), .ref (x 76), .ref (x 80), .int 0])), (x 70, .inr (7, [.ref (x 71), .ref (x 72), .ref (x 73), .ref (x 74), .ref (x 75), .int 0])), (x 71, .inl (ct 0, 6, .inl (fun _ => 0))), (x 72, .inl (ct 0, 6, .inl (fun _ => 0))), (x 73, .inl (ct 0, 6, .inl (fun _ => 0))), (x 74, .inl (ct 0, 6, .inl (fun _ => 0))), (x 75, .inl (ct 0, 6, .inl (fun _ => 0))), (x 76, .inr (1, [.ref (x 77), .ref (x 78), .ref (x 79), .int 0])), (x 77, .inl (ct 0, 40, .inl (fun _ => 0))), (x 78, .inl (ct 0, 40, .inl (fun _ => 0))), (x 79, .inl (ct 0, 40, .inl (fun _ => 0))), (x 80, .inr (6, [.int 2147483647, .int 0])), (x 81, .inr (5, [.ref (x 82), .ref (x 88), .ref (x 92), .int 0])), (x 82, .inr (7, [.ref (x 83), .ref (x 84), .ref (x 85), .ref (x 86), .ref (x 87), .int 0])), (x 83, .inl (ct 0, 6, .inl (fun _ => 0))), (x 84, .inl (ct 0, 6, .inl (fun _ => 0))), (x 85, .inl (ct 0, 6, .inl (fun _ => 0))), (x 86, .inl (ct 0, 6, .inl (fun _ => 0))), (x 87, .inl (ct 0, 6, .inl (fun _ => 0))), (x 88, .inr (1, [.ref (x 89), .ref (x 90), .ref (x 91), .int 0])), (x 89, .inl (ct 0, 40, .inl (fun _ => 0))), (x 90, .inl (ct 0, 40, .inl (fun _ => 0))), (x 91, .inl (ct 0, 40, .inl (fun _ => 0))), (x 92, .inr (6, [.int 2147483647, .int 0])), (x 93, .inr (5, [.ref (x 94), .ref (x 100), .ref (x 104), .int 0])), (x 94, .inr (7, [.ref (x 95), .ref (x 96), .ref (x 97), .ref (x 98), .ref (x 99), .int 0])), (x 95, .inl (ct 0, 6, .inl (fun _ => 0))), (x 96, .inl (ct 0, 6, .inl (fun _ => 0))), (x 97, .inl (ct 0, 6, .inl (fun _ => 0))), (x 98, .inl (ct 0, 6, .inl (fun _ => 0))), (x 99, .inl (ct 0, 6, .inl (fun _ => 0))), (x 100, .inr (1, [.ref (x 101), .ref (x 102), .ref (x 103), .int 0])), (x 101, .inl (ct 0, 40, .inl (fun _ => 0))), (x 102, .inl (ct 0, 40, .inl (fun _ => 0))), (x 103, .inl (ct 0, 40, .inl (fun _ => 0))), (x 104, .inr (6, [.int 2147483647, .int 0])), (h2, .inr (11, [.int 0, .int 0, .ref (y 0), .int 0, .int 0, .int 0, .int 0, .long 0, .int 0, .int 0, .ref (y 1), .ref (y 2), .ref (y 3), .ref (y 4), .ref (y 5), .ref (y 6), .ref (y 7), .ref (y 8), .ref (y 9), .ref (y 10), .ref (y 11), .ref (y 12), .int 0, .int 0, .ref (y 13), .ref (y 14), .ref (y 15), .ref (y 16), .ref (y 17), .ref (y 18), .ref (y 19), .ref (y 20), .ref (y 21), .ref (y 22), .ref (y 23), .ref (y 24), .int 0, .long 0, .ref (y 25), .ref (y 26), .ref (y 27), .ref (y 28), .ref (y 29), .ref (y 30), .ref (y 31), .ref (y 32), .ref (y 33), .ref (y 34), .ref (y 35), .ref (y 36), .ref (y 37), .int 0, .int 0, .ref (y 38), .long 0, .int 0, .int 0])), (y 37, .inl (ct 3, 4, .inl (fun _ => 0))), (y 25, .inl (ct 0, 6, .inl (fun _ => 0))), (y 26, .inl (ct 0, 240, .inl (fun _ => 0))), (y 27, .inl (ct 0, 240, .inl (fun _ => 0))), (y 28, .inl (ct 0, 240, .inl (fun _ => 0))), (y 29, .inl (ct 0, 5, .inl (fun _ => 0))), (y 30, .inl (ct 0, 40, .inl (fun _ => 0))), (y 31, .inl (ct 3, 40, .inl (fun _ => 0))), (y 32, .inl (ct 0, 31, .inl (fun _ => 0))), (y 35, .inl (ct 0, 124, .inl (fun _ => 0)))] H := hw
        refine zfr 1252 [.int (if 1 = 0 then 1 else 0)] rfl rfl ?_
        refine lv_aload_n hx hb dL_law_1252 rfl (lv_at hl 2 rfl) ?_
        refine lv_aload_n hx hb dL_law_1253 rfl (lv_at hl 4 rfl) ?_
        refine lv_iload hx hb dL_law_1254 (lv_at hl 0 rfl) ?_
        refine lv_iconst (v := 1) hx hb dL_law_1256 (by decide) ?_
        refine lv_iadd hx hb dL_law_1257 ?_
        refine ztop (.int 1) (congrArg Value.int (by decide)) ?_
        refine va_sld hx hb hX hbl hbA hS (zix (k := 1) (by decide) (by decide) (by decide)).1 dL_law_1258 ?_
        refine ztop (.int (xs 1)) (congrArg Value.int (congrArg xs (by decide))) ?_
        refine ztop (.int (nI 3)) (congrArg Value.int hxk) ?_
        refine lv_aload_n hx hb dL_law_1259 rfl (lv_at hl 4 rfl) ?_
        refine lv_iload hx hb dL_law_1260 (lv_at hl 0 rfl) ?_
        refine lv_iconst (v := 2) hx hb dL_law_1262 (by decide) ?_
        refine lv_iadd hx hb dL_law_1263 ?_
        refine ztop (.int 2) (congrArg Value.int (by decide)) ?_
        refine va_sld hx hb hX hbl hbA hS (zix (k := 2) (by decide) (by decide) (by decide)).1 dL_law_1264 ?_
        refine ztop (.int (xs 2)) (congrArg Value.int (congrArg xs (by decide))) ?_
        refine lv_if_eq (tgt := 1272) hx hb dL_law_1265 (by decide) (fun h => absurd h (c_37)) (fun _ => ?_)
        refine lv_iconst (v := 1) hx hb dL_law_1268 (by decide) ?_
        refine lv_goto (tgt := 1273) hx hb dL_law_1269 (by decide) ?_
        refine zcall2 (va_runV (As := [.int (nI 3), .int 1]) (rest := [.int (if 1 = 0 then 1 else 0)]) ⟨hx, hb, hml, hown, htl⟩ (r_markin l D ct h2 y 3 1 (by decide) H.size) (cwV 2 htl gL_law_X12_mark rfl rfl rfl (by decide +kernel) ⟨Nat.le_of_ble_eq_true rfl, Nat.le_of_ble_eq_true rfl⟩) (zpreV hK hw hS hA zZ.nil hN [36, 37, 38, 39, 40, 41, 42, 43, 44, 45, 46] rfl rfl 11 36 rfl rfl) rfl rfl hl.1 rfl (lv_room (Nat.le_of_ble_eq_true rfl)) dL_law_1273 ⟨Nat.le_of_ble_eq_true rfl, Nat.le_of_ble_eq_true rfl⟩) hw hS hA [36, 37, 38, 39, 40, 41, 42, 43, 44, 45, 46] [0, 1, 2, 3, 4, 5, 6, 7, 8, 9, 10, 11, 12, 13, 14, 15, 16, 17, 18, 19, 20, 21, 22, 23, 24, 25, 26, 27, 28, 29, 30, 31, 32, 33, 34, 35] rfl rfl rfl rfl (fun _ H locs hp44 hw hS => ?_)
        have hw : zPD D (fun q : Nat => s.heap.size ≤ q) [(x 69, .inr (5, [.ref (x 70), .ref (x 76), .ref (x 80), .int 0])), (x 70, .inr (7, [.ref (x 71), .ref (x 72), .ref (x 73), .ref (x 74), .ref (x 75), .int 0])), (x 71, .inl (ct 0, 6, .inl (fun _ => 0))), (x 72, .inl (ct 0, 6, .inl (fun _ => 0))), (x 73, .inl (ct 0, 6, .inl (fun _ => 0))), (x 74, .inl (ct 0, 6, .inl (fun _ => 0))), (x 75, .inl (ct 0, 6, .inl (fun _ => 0))), (x 76, .inr (1, [.ref (x 77), .ref (x 78), .ref (x 79), .int 0])), (x 77, .inl (ct 0, 40, .inl (fun _ => 0))), (x 78, .inl (ct 0, 40, .inl (fun _ => 0))), (x 79, .inl (ct 0, 40, .inl (fun _ => 0))), (x 80, .inr (6, [.int 2147483647, .int 0])), (x 81, .inr (5, [.ref (x 82), .ref (x 88), .ref (x 92), .int 0])), (x 82, .inr (7, [.ref (x 83), .ref (x 84), .ref (x 85), .ref (x 86), .ref (x 87), .int 0])), (x 83, .inl (ct 0, 6, .inl (fun _ => 0))), (x 84, .inl (ct 0, 6, .inl (fun _ => 0))), (x 85, .inl (ct 0, 6, .inl (fun _ => 0))), (x 86, .inl (ct 0, 6, .inl (fun _ => 0))), (x 87, .inl (ct 0, 6, .inl (fun _ => 0))), (x 88, .inr (1, [.ref (x 89), .ref (x 90), .ref (x 91), .int 0])), (x 89, .inl (ct 0, 40, .inl (fun _ => 0))), (x 90, .inl (ct 0, 40, .inl (fun _ => 0))), (x 91, .inl (ct 0, 40, .inl (fun _ => 0))), (x 92, .inr (6, [.int 2147483647, .int 0])), (x 93, .inr (5, [.ref (x 94), .ref (x 100), .ref (x 104), .int 0])), (x 94, .inr (7, [.ref (x 95), .ref (x 96), .ref (x 97), .ref (x 98), .ref (x 99), .int 0])), (x 95, .inl (ct 0, 6, .inl (fun _ => 0))), (x 96, .inl (ct 0, 6, .inl (fun _ => 0))), (x 97, .inl (ct 0, 6, .inl (fun _ => 0))), (x 98, .inl (ct 0, 6, .inl (fun _ => 0))), (x 99, .inl (ct 0, 6, .inl (fun _ => 0))), (x 100, .inr (1, [.ref (x 101), .ref (x 102), .ref (x 103), .int 0])), (x 101, .inl (ct 0, 40, .inl (fun _ => 0))), (x 102, .inl (ct 0, 40, .inl (fun _ => 0))), (x 103, .inl (ct 0, 40, .inl (fun _ => 0))), (x 104, .inr (6, [.int 2147483647, .int 0]))] H := hw
        refine zfr 1276 [.int (if 1 = 0 then 1 else 0), .int (if 1 = 0 then 1 else 0)] rfl rfl ?_
        refine lv_icmp_eq (tgt := 1306) hx hb dL_law_1276 (by decide) (fun _ => ?_) (fun h => absurd (rfl) h)
        exact law_end C0 hS ls (lv_sub hl [0, 4] rfl)

set_option maxHeartbeats 4000000 in
set_option maxRecDepth 100000 in
theorem law_32 {p : Program} {l : Launch} {e : Env} {s : State} {m : MethodId} {below : List Frame} {meth : Method} {c : Code} {b : Nat} {xs : Nat → Int32} (C0 : lw_At p s m meth c b 7 xs) {D : va_G} {ct : Nat → ClassId} {eE : Nat} (hK : va_K D vwCl (zT ct) s) (hN : zN s) (hZ : zZ [("END", eE)] (fun q : Nat => s.heap.size ≤ q) s s.heap) (h1 h2 h3 : Nat) (x y : Nat → Nat) (pf : Nat → Option Nat) (hpf : pf 0 = some (x 62)) (H : Heap) (locs : List Loc) (hw : zPD D (fun q : Nat => s.heap.size ≤ q) [(h1, .inr (10, [.ref (x 1), .ref (x 3), .ref (x 15), .ref (x 27), .ref (x 28), .ref (x 32), .ref (x 36), .ref (x 37), .ref (x 48), .ref (x 54), .ref (x 60), .ref (x 61), .ref (x 68), .int 0, .int 0])), (x 1, .inr (8, [.ref (x 2), .int 0, .int 0, .int 0, .ref eE, .int 0, .long 0, .int 0])), (x 3, .inr (2, [.ref (x 4), .ref (x 5), .ref (x 6), .ref (x 7), .ref (x 8), .ref (x 9), .ref (x 10), .ref (x 11), .ref (x 12), .int 0, .int 0, .int 1, .int 2])), (x 28, .inr (1, [.ref (x 29), .ref (x 30), .ref (x 31), .int 0])), (x 60, .inr (6, [.int 2147483647, .int 0])), (x 48, .inr (7, [.ref (x 49), .ref (x 50), .ref (x 51), .ref (x 52), .ref (x 53), .int 0])), (x 51, .inl (ct 0, 6, .inl (fun _ => 0))), (x 52, .inl (ct 0, 6, .inl (fun _ => 0))), (h2, .inr (11, [.int 0, .int 0, .ref (y 0), .int 0, .int 0, .int 0, .int 0, .long 0, .int 0, .int 0, .ref (y 1), .ref (y 2), .ref (y 3), .ref (y 4), .ref (y 5), .ref (y 6), .ref (y 7), .ref (y 8), .ref (y 9), .ref (y 10), .ref (y 11), .ref (y 12), .int 0, .int 0, .ref (y 13), .ref (y 14), .ref (y 15), .ref (y 16), .ref (y 17), .ref (y 18), .ref (y 19), .ref (y 20), .ref (y 21), .ref (y 22), .ref (y 23), .ref (y 24), .int 0, .long 0, .ref (y 25), .ref (y 26), .ref (y 27), .ref (y 28), .ref (y 29), .ref (y 30), .ref (y 31), .ref (y 32), .ref (y 33), .ref (y 34), .ref (y 35), .ref (y 36), .ref (y 37), .int 0, .int 0, .ref (y 38), .long 0, .int 0, .int 0])), (y 1, .inl (ct 0, 8, .inl (upd (upd (fun _ => 0) 2 1) 3 2))), (y 32, .inl (ct 0, 31, .inl (fun _ => 0))), (y 25, .inl (ct 0, 6, .inl (fun _ => 0))), (y 29, .inl (ct 0, 5, .inl (fun _ => 0)))] H) (hS : va_S (fun q : Nat => s.heap.size ≤ q) s.heap H locs) (ls : Array Slot) (hl : lv_has ls 7 [(4, .int 0), (3, .ref h3), (2, .ref h2), (1, .ref h1), (0, .ref b)]) : W p l e room_1 s m #[Value.ref b] below meth c H locs 248 10101 (lw_Z below #[Value.ref b] s) (F0 m 1281 ls []) := by
  obtain ⟨hx, hb, hr, hml, hown, hts, hX, hbl, hlocks, hgv⟩ := id C0
  have hown : s.vm.findClass RL = some m.cls := hown
  have htl : ∀ w ∈ wsL_law0, w.before #[Value.ref b] s = true := fun w h => hts w (wsL_law_in0 w h)
  have hA : ∀ q : Nat, s.heap.size ≤ q → (fun q : Nat => s.heap.size ≤ q) q := fun _ h => h
  have hbA : ¬ (fun q : Nat => s.heap.size ≤ q) b := Nat.not_le.mpr hbl
  refine lv_aload_n hx hb dL_law_1281 rfl (lv_at hl 3 rfl) ?_
  refine lv_aload_n hx hb dL_law_1282 rfl (lv_at hl 4 rfl) ?_
  refine lv_iload hx hb dL_law_1283 (lv_at hl 0 rfl) ?_
  refine lv_iconst (v := 1) hx hb dL_law_1285 (by decide) ?_
  refine lv_iadd hx hb dL_law_1286 ?_
  refine ztop (.int 1) (congrArg Value.int (by decide)) ?_
  refine va_sld hx hb hX hbl hbA hS (zix (k := 1) (by decide) (by decide) (by decide)).1 dL_law_1287 ?_
  refine ztop (.int (xs 1)) (congrArg Value.int (congrArg xs (by decide))) ?_
  refine zcall2 (va_runV (As := [.int (xs 1)]) (rest := []) ⟨hx, hb, hml, hown, htl⟩ (k_count l D ct h1 x (xs 1) eE H.size) (cwV 1 htl gL_law_X11_count rfl rfl rfl (by decide +kernel) ⟨Nat.le_of_ble_eq_true rfl, Nat.le_of_ble_eq_true rfl⟩) (zpreV hK hw hS hA zZ.nil hN [0, 1, 2, 3, 4, 5, 6, 7] rfl rfl 10 0 rfl rfl) rfl rfl hl.1 rfl (lv_room (Nat.le_of_ble_eq_true rfl)) dL_law_1288 ⟨Nat.le_of_ble_eq_true rfl, Nat.le_of_ble_eq_true rfl⟩) hw hS hA [0, 1, 2, 3, 4, 5, 6, 7] [8, 9, 10, 11, 12] rfl rfl rfl rfl (fun _ H locs hp1 hw hS => ?_)
  have hw : zPD D (fun q : Nat => s.heap.size ≤ q) [(h2, .inr (11, [.int 0, .int 0, .ref (y 0), .int 0, .int 0, .int 0, .int 0, .long 0, .int 0, .int 0, .ref (y 1), .ref (y 2), .ref (y 3), .ref (y 4), .ref (y 5), .ref (y 6), .ref (y 7), .ref (y 8), .ref (y 9), .ref (y 10), .ref (y 11), .ref (y 12), .int 0, .int 0, .ref (y 13), .ref (y 14), .ref (y 15), .ref (y 16), .ref (y 17), .ref (y 18), .ref (y 19), .ref (y 20), .ref (y 21), .ref (y 22), .ref (y 23), .ref (y 24), .int 0, .long 0, .ref (y 25), .ref (y 26), .ref (y 27), .ref (y 28), .ref (y 29), .ref (y 30), .ref (y 31), .ref (y 32), .ref (y 33), .ref (y 34), .ref (y 35), .ref (y 36), .ref (y 37), .int 0, .int 0, .ref (y 38), .long 0, .int 0, .int 0])), (y 1, .inl (ct 0, 8, .inl (upd (upd (fun _ => 0) 2 1) 3 2))), (y 32, .inl (ct 0, 31, .inl (fun _ => 0))), (y 25, .inl (ct 0, 6, .inl (fun _ => 0))), (y 29, .inl (ct 0, 5, .inl (fun _ => 0)))] H := hw
  refine zfr 1291 [.int (zct (xs 1))] rfl rfl ?_
  refine lv_aload_n hx hb dL_law_1291 rfl (lv_at hl 2 rfl) ?_
  refine lv_aload_n hx hb dL_law_1292 rfl (lv_at hl 4 rfl) ?_
  refine lv_iload hx hb dL_law_1293 (lv_at hl 0 rfl) ?_
  refine lv_iconst (v := 1) hx hb dL_law_1295 (by decide) ?_
  refine lv_iadd hx hb dL_law_1296 ?_
  refine ztop (.int 1) (congrArg Value.int (by decide)) ?_
  refine va_sld hx hb hX hbl hbA hS (zix (k := 1) (by decide) (by decide) (by decide)).1 dL_law_1297 ?_
  refine ztop (.int (xs 1)) (congrArg Value.int (congrArg xs (by decide))) ?_
  refine zcall2 (va_runV (As := [.int (xs 1)]) (rest := [.int (zct (xs 1))]) ⟨hx, hb, hml, hown, htl⟩ (r_count l D ct h2 y (xs 1) H.size) (cwV 1 htl gL_law_X12_count rfl rfl rfl (by decide +kernel) ⟨Nat.le_of_ble_eq_true rfl, Nat.le_of_ble_eq_true rfl⟩) (zpreV hK hw hS hA zZ.nil hN [0, 1, 2, 3, 4] rfl rfl 11 0 rfl rfl) rfl rfl hl.1 rfl (lv_room (Nat.le_of_ble_eq_true rfl)) dL_law_1298 ⟨Nat.le_of_ble_eq_true rfl, Nat.le_of_ble_eq_true rfl⟩) hw hS hA [0, 1, 2, 3, 4] [] rfl rfl rfl rfl (fun _ H locs hp2 hw hS => ?_)
  have hw : zPD D (fun q : Nat => s.heap.size ≤ q) [] H := hw
  refine zfr 1301 [.int (zct (xs 1)), .int (zct (xs 1))] rfl rfl ?_
  refine lv_icmp_eq (tgt := 1306) hx hb dL_law_1301 (by decide) (fun _ => ?_) (fun h => absurd (rfl) h)
  exact law_end C0 hS ls (lv_sub hl [0, 4] rfl)
