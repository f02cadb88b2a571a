section
/-! ===== BeardPass(): the rows of standings and of marks, a round each ===== -/
noncomputable def knStd (ct : Nat → ClassId) (q : Nat) (u : Nat → Nat) : va_W := [(q, .inr (7, [.ref (u 0), .ref (u 1), .ref (u 2), .ref (u 3), .ref (u 4), .int 0])), (u 0, .inl (ct 0, 6, .inl (fun _ => 0))), (u 1, .inl (ct 0, 6, .inl (fun _ => 0))), (u 2, .inl (ct 0, 6, .inl (fun _ => 0))), (u 3, .inl (ct 0, 6, .inl (fun _ => 0))), (u 4, .inl (ct 0, 6, .inl (fun _ => 0)))]
noncomputable def knMrk (ct : Nat → ClassId) (q : Nat) (u : Nat → Nat) : va_W := [(q, .inr (5, [.ref (u 0), .ref (u 6), .ref (u 10), .int 0])), (u 0, .inr (7, [.ref (u 1), .ref (u 2), .ref (u 3), .ref (u 4), .ref (u 5), .int 0])), (u 1, .inl (ct 0, 6, .inl (fun _ => 0))), (u 2, .inl (ct 0, 6, .inl (fun _ => 0))), (u 3, .inl (ct 0, 6, .inl (fun _ => 0))), (u 4, .inl (ct 0, 6, .inl (fun _ => 0))), (u 5, .inl (ct 0, 6, .inl (fun _ => 0))), (u 6, .inr (1, [.ref (u 7), .ref (u 8), .ref (u 9), .int 0])), (u 7, .inl (ct 0, 40, .inl (fun _ => 0))), (u 8, .inl (ct 0, 40, .inl (fun _ => 0))), (u 9, .inl (ct 0, 40, .inl (fun _ => 0))), (u 10, .inr (6, [.int 2147483647, .int 0]))]
noncomputable abbrev knR : Room := { frames := 4, cells := 206, slots := 4911, locals := 200 }
section KN
variable {p : Program} {l : Launch} {e : Env} {s : State} {m : MethodId} {args : Array Value} {below : List Frame} {meth : Method} {c : Code} {H : Heap} {locs : List Loc} {cells slots : Nat} {Q : State → Prop} {ls : Array Slot} {D : va_G} {ct : Nat → ClassId} {A : Nat → Prop} {ws : va_W} {h0 aP : Nat} {fs : List Value} {f : Nat → Option Nat}
/-- a call on the cell that was made last -/
theorem lnew {R : Room} {pc : Nat} {rest st0 : List Value} {x : Nat × va_E} {S : Type} {rv : S → Option Value} {post : S → Prop} {B : S → va_W} {mc ms : Nat} {a9 : Array Value} (hr : va_Run p l e R s m args below meth c H locs cells slots mc ms (F0 m pc ls st0) rest (zQ D (va_A [x] H.size) rv post B a9) (va_A [x] H.size)) (hw : zPD D A (ws ++ [x]) H) (hS : va_S A s.heap H locs) (hA : ∀ q, s.heap.size ≤ q → A q) (pc2 : Nat) (h9 : pc + 3 = pc2)
    (kk : ∀ (u : S) (H1 : Heap) (locs1 : List Loc), post u → zPD D A (ws ++ B u) H1 → va_S A s.heap H1 locs1 → W p l e R s m args below meth c H1 locs1 (cells + mc) (slots + ms) Q (F0 m pc2 ls ((rv u).toList ++ rest))) : W p l e R s m args below meth c H locs cells slots Q (F0 m pc ls st0) := by
  subst h9
  refine zcall (wr := ws) hr hw hS hA [ws.length] (List.range' 0 ws.length) (kone (by rw [List.getElem?_append_right (Nat.le_refl _), Nat.sub_self]; rfl)) (zseg0 rfl) (va_nd_of List.nodup_range') (fun i hi hc => ?_) kk
  have h3 := List.mem_range'_1.mp hi
  have h4 := List.mem_singleton.mp hc
  omega
set_option maxHeartbeats 4000000 in
set_option maxRecDepth 100000 in
theorem kn_past (hx : p.tables.exec = Jvm.exec) (hb : c.code = cX11_init) (hml : c.maxLocals = 2) (hown : s.vm.findClass RX11 = some m.cls) (hts : ∀ w ∈ wsX11_init, w.before args s = true) (hK : va_K D vwCl (zT ct) s) (hA : ∀ q, s.heap.size ≤ q → A q) (hN : zN s) (i ip : Nat) (hi : i < 16) (h0w : ws[0]? = some (h0, .inr (10, fs))) (hfs : fs[11]? = some (.ref aP)) (hp : ws[ip]? = some (aP, .inl (ct 4, 16, .inr (.inr (.inr (.inr f)))))) (hc : cells + 6 ≤ 206) (hs : slots + 36 ≤ 4911) (hw : zPD D A ws H) (hS : va_S A s.heap H locs) (hl : lv_has ls 2 [(1, .int (nI i)), (0, .ref h0)])
    (kk : ∀ (q : Nat) (u : Nat → Nat) (H1 : Heap) (locs1 : List Loc) (ls1 : Array Slot), zPD D A ((ws ++ knStd ct q u).set ip (aP, .inl (ct 4, 16, .inr (.inr (.inr (.inr (va_up f i (some q)))))))) H1 → va_S A s.heap H1 locs1 → lv_has ls1 2 [(1, .int (nI (i + 1))), (0, .ref h0)] → W p l e knR s m args below meth c H1 locs1 (cells + 6) (slots + 36) Q (F0 m 166 ls1 [])) : W p l e knR s m args below meth c H locs cells slots Q (F0 m 166 ls []) := by
  have hiX11 : ∀ w ∈ wsX110, w ∈ wsX11_init := by decide +kernel
  have hiX8 : ∀ w ∈ wsX80, w ∈ wsX11_init := by decide +kernel
  have hip := (List.getElem?_eq_some_iff.mp hp).1
  refine lv_iload_n hx hb dX11_init_166 rfl (lv_at hl 0 rfl) ?_
  refine lv_bipush (v := 16) hx hb dX11_init_167 (by decide) ?_
  refine lv_icmp_ge (tgt := 191) hx hb dX11_init_169 (by decide) (fun h => absurd h (nI_ge hi (by decide))) (fun _ => ?_)
  refine lv_aload_n hx hb dX11_init_172 rfl (lv_at hl 1 rfl) ?_
  refine va_get (D := D) (ci := 10) (v := .ref aP) hx hb hts hiX11 hown hK hw.1 0 h0w rfl 11 (by decide) (hts (.fieldLink RX11 78 "BeardPass" "past" "[LBeardPass$Standing;") (by decide +kernel)) (fun _ h9 => h9) hfs dX11_init_173 ?_
  refine lv_iload_n hx hb dX11_init_176 rfl (lv_at hl 0 rfl) ?_
  refine znew (ci := 7) (C := RX8) (T := TX8) (N := 6) hx hb hts hiX8 tyX8 tyX8_ok hown (hts (.classLink RX11 61 RX8) (by decide +kernel)) (hts (.instantiable RX8 6) (by decide +kernel)) (hts (.initialized RX8) (by decide +kernel)) hK hw hS hA rfl [.null, .null, .null, .null, .null, .int 0] rfl (by show _ ≤ 206; omega) (by show _ ≤ 4911; omega) dX11_init_177 (fun q H hw hS => ?_)
  refine lv_dup hx hb dX11_init_180 rfl ?_
  refine lnew (va_runIN (As := []) (rest := [.ref q, .int (nI i), .ref aP]) ⟨hx, hb, hml, hown, hts⟩ (c_X8_init l D ct q H.size) ⟨va_cnB 0 hts gX11_init_X8_init_n63 rfl rfl rfl (hN.1 (RX11, 63, yX8_init, RX11) (List.mem_of_getElem? (i := 5) rfl)) (hts (.initialized RX8) (by decide +kernel)) (by decide +kernel) ⟨Nat.le_of_ble_eq_true rfl, Nat.le_of_ble_eq_true rfl⟩, rfl, hts (.instanceMethod yX8_init) (by decide +kernel)⟩ (zpreS hK hw hS hA zZ.nil hN [ws.length] rfl (kone (by rw [List.getElem?_append_right (Nat.le_refl _), Nat.sub_self]; rfl))) rfl rfl hl.1 rfl (lv_room (Nat.le_of_ble_eq_true rfl)) dX11_init_181 ⟨by show _ ≤ 206; omega, by show _ ≤ 4911; omega⟩) hw hS hA 184 rfl (fun u H locs _ hw hS => ?_)
  have hw : zPD D A (ws ++ knStd ct q u) H := hw
  refine zfr 184 [.ref q, .int (nI i), .ref aP] rfl rfl ?_
  refine zaast hx hb hK hw hS ip 4 ws.length 7 (by rw [List.getElem?_append_left hip]; exact hp) rfl (by rw [List.getElem?_append_right (Nat.le_refl _), Nat.sub_self]; rfl) rfl i rfl hi (by decide) dX11_init_184 _ rfl (fun H locs hw hS => ?_)
  refine lv_iinc (v := nI (i + 1)) (lv' := [(1, .int (nI (i + 1))), (0, .ref h0)]) hx hb dX11_init_185 hl (k := 0) rfl (nI_add _ 1) (by decide) rfl (fun ls hl => ?_)
  refine lv_goto (tgt := 166) hx hb dX11_init_188 (by decide) ?_
  exact W.widen (by omega) (by omega) (kk q u H locs ls hw hS hl)
set_option maxHeartbeats 4000000 in
set_option maxRecDepth 100000 in
theorem kn_mark (hx : p.tables.exec = Jvm.exec) (hb : c.code = cX11_init) (hml : c.maxLocals = 2) (hown : s.vm.findClass RX11 = some m.cls) (hts : ∀ w ∈ wsX11_init, w.before args s = true) (hK : va_K D vwCl (zT ct) s) (hA : ∀ q, s.heap.size ≤ q → A q) (hN : zN s) (i ip : Nat) (hi : i < 4) (h0w : ws[0]? = some (h0, .inr (10, fs))) (hfs : fs[12]? = some (.ref aP)) (hp : ws[ip]? = some (aP, .inl (ct 5, 4, .inr (.inr (.inr (.inr f)))))) (hc : cells + 12 ≤ 206) (hs : slots + 166 ≤ 4911) (hw : zPD D A ws H) (hS : va_S A s.heap H locs) (hl : lv_has ls 2 [(1, .int (nI i)), (0, .ref h0)])
    (kk : ∀ (q : Nat) (u : Nat → Nat) (H1 : Heap) (locs1 : List Loc) (ls1 : Array Slot), zPD D A ((ws ++ knMrk ct q u).set ip (aP, .inl (ct 5, 4, .inr (.inr (.inr (.inr (va_up f i (some q)))))))) H1 → va_S A s.heap H1 locs1 → lv_has ls1 2 [(1, .int (nI (i + 1))), (0, .ref h0)] → W p l e knR s m args below meth c H1 locs1 (cells + 12) (slots + 166) Q (F0 m 193 ls1 [])) : W p l e knR s m args below meth c H locs cells slots Q (F0 m 193 ls []) := by
  have hiX11 : ∀ w ∈ wsX110, w ∈ wsX11_init := by decide +kernel
  have hiX5 : ∀ w ∈ wsX50, w ∈ wsX11_init := by decide +kernel
  have hip := (List.getElem?_eq_some_iff.mp hp).1
  refine lv_iload_n hx hb dX11_init_193 rfl (lv_at hl 0 rfl) ?_
  refine lv_iconst (v := 4) hx hb dX11_init_194 (by decide) ?_
  refine lv_icmp_ge (tgt := 217) hx hb dX11_init_195 (by decide) (fun h => absurd h (nI_ge hi (by decide))) (fun _ => ?_)
  refine lv_aload_n hx hb dX11_init_198 rfl (lv_at hl 1 rfl) ?_
  refine va_get (D := D) (ci := 10) (v := .ref aP) hx hb hts hiX11 hown hK hw.1 0 h0w rfl 12 (by decide) (hts (.fieldLink RX11 84 "BeardPass" "marks" "[LBeardPass$Mark;") (by decide +kernel)) (fun _ h9 => h9) hfs dX11_init_199 ?_
  refine lv_iload_n hx hb dX11_init_202 rfl (lv_at hl 0 rfl) ?_
  refine znew (ci := 5) (C := RX5) (T := TX5) (N := 4) hx hb hts hiX5 tyX5 tyX5_ok hown (hts (.classLink RX11 82 RX5) (by decide +kernel)) (hts (.instantiable RX5 4) (by decide +kernel)) (hts (.initialized RX5) (by decide +kernel)) hK hw hS hA rfl [.null, .null, .null, .int 0] rfl (by show _ ≤ 206; omega) (by show _ ≤ 4911; omega) dX11_init_203 (fun q H hw hS => ?_)
  refine lv_dup hx hb dX11_init_206 rfl ?_
  refine lnew (va_runIN (As := []) (rest := [.ref q, .int (nI i), .ref aP]) ⟨hx, hb, hml, hown, hts⟩ (c_X5_init l D ct q H.size) ⟨va_cnB 0 hts gX11_init_X5_init_n95 rfl rfl rfl (hN.1 (RX11, 95, yX5_init, RX11) (List.mem_of_getElem? (i := 7) rfl)) (hts (.initialized RX5) (by decide +kernel)) (by decide +kernel) ⟨Nat.le_of_ble_eq_true rfl, Nat.le_of_ble_eq_true rfl⟩, rfl, hts (.instanceMethod yX5_init) (by decide +kernel)⟩ (zpreS hK hw hS hA zZ.nil hN [ws.length] rfl (kone (by rw [List.getElem?_append_right (Nat.le_refl _), Nat.sub_self]; rfl))) rfl rfl hl.1 rfl (lv_room (Nat.le_of_ble_eq_true rfl)) dX11_init_207 ⟨by show _ ≤ 206; omega, by show _ ≤ 4911; omega⟩) hw hS hA 210 rfl (fun u H locs _ hw hS => ?_)
  have hw : zPD D A (ws ++ knMrk ct q u) H := hw
  refine zfr 210 [.ref q, .int (nI i), .ref aP] rfl rfl ?_
  refine zaast hx hb hK hw hS ip 5 ws.length 5 (by rw [List.getElem?_append_left hip]; exact hp) rfl (by rw [List.getElem?_append_right (Nat.le_refl _), Nat.sub_self]; rfl) rfl i rfl hi (by decide) dX11_init_210 _ rfl (fun H locs hw hS => ?_)
  refine lv_iinc (v := nI (i + 1)) (lv' := [(1, .int (nI (i + 1))), (0, .ref h0)]) hx hb dX11_init_211 hl (k := 0) rfl (nI_add _ 1) (by decide) rfl (fun ls hl => ?_)
  refine lv_goto (tgt := 193) hx hb dX11_init_214 (by decide) ?_
  exact W.widen (by omega) (by omega) (kk q u H locs ls hw hS hl)
end KN
end
