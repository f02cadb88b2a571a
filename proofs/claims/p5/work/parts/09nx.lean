/-! ===== what a throw needs of the start; a call that may throw ===== -/
def zXF (A : Nat → Prop) (U : State) (H : Heap) (sa sb : Nat) : Prop := vx_Zq Bundle.tN "UNASSIGNED_STACK" Bundle.steD A U H ∧ vx_Zq Bundle.tN "SUPPRESSED_SENTINEL" Bundle.listD A U H ∧ vk_R RX11 330 "no such frontier" sa U ∧ vk_R RX11 339 "no such rest" sb U
def zPx (D : va_G) (ct : Nat → ClassId) (sa sb : Nat) (As : List Value) (w0 : va_W) (sz : Nat) : Array Value → State → Prop := fun v U => zPc D ct [] As w0 sz v U ∧ zXF (va_A w0 sz) U U.heap sa sb
section ZX
variable {p : Program} {l : Launch} {e : Env} {R : Room} {s : State} {m : MethodId} {args : Array Value} {below : List Frame} {meth : Method} {c : Code} {H : Heap} {locs : List Loc} {cells slots : Nat} {Q : State → Prop}
variable {cc : ByteArray} {pc : Nat} {ls : Array Slot} {rest st0 : List Value} {D : va_G} {ct : Nat → ClassId} {zs : List (String × Nat)} {A : Nat → Prop} {a : Nat} {ws w0 wr : va_W} {sa sb : Nat}
theorem zPx.blind {As : List Value} {sz : Nat} : FrameBlind (zPx D ct sa sb As w0 sz) := fun a U g mk q =>
  ⟨zPc.blind a U g mk q.1, vx_Zq.moved (u := U) (U := U.calling g mk a) (Vm.Alike.refl U.vm) q.2.1, vx_Zq.moved (u := U) (U := U.calling g mk a) (Vm.Alike.refl U.vm) q.2.2.1, vk_R.same (u := U) (U := U.calling g mk a) rfl q.2.2.2.1, vk_R.same (u := U) (U := U.calling g mk a) rfl q.2.2.2.2⟩
theorem zprex {As : List Value} (hK : va_K D vwCl (zT ct) s) (hw : zPD D A ws H) (hS : va_S A s.heap H locs) (hA : ∀ q, s.heap.size ≤ q → A q) (hX : zXF A s s.heap sa sb) (hN : zN s) (isC : List Nat) (hnC : va_nd isC = true) (hC : isC.map (fun i => ws[i]?) = w0.map some) : ∀ U : State, U.heap = H → s.WarmedH U.vm → zPx D ct sa sb As w0 H.size As.toArray U := by
  intro U hU hW
  have hF := va_free (wc := w0) hw.2 hS hA isC hC
  refine ⟨zpre hK hw hS hA zZ.nil hN isC hnC hC U hU hW, ?_, ?_, vk_R.warm hW hX.2.2.1, vk_R.warm hW hX.2.2.2⟩
  · rw [hU]; exact vx_Zq.moved hW.alike ((hX.1.kept hS.2.1).narrow hF)
  · rw [hU]; exact vx_Zq.moved hW.alike ((hX.2.1.kept hS.2.1).narrow hF)
theorem zprexS {As : List Value} (hK : va_K D vwCl (zT ct) s) (hw : zPD D A ws H) (hS : va_S A s.heap H locs) (hA : ∀ q, s.heap.size ≤ q → A q) (hX : zXF A s s.heap sa sb) (hN : zN s) (isC : List Nat) (hnC : va_nd isC = true) (hC : isC.map (fun i => ws[i]?) = w0.map some) : PreS s H (zPx D ct sa sb As w0 H.size) As := ⟨zPx.blind, zprex hK hw hS hA hX hN isC hnC hC⟩
theorem zprexV {As : List Value} {b : Addr} {q : vw_C} {fs : List Value} (hK : va_K D vwCl (zT ct) s) (hw : zPD D A ws H) (hS : va_S A s.heap H locs) (hA : ∀ q, s.heap.size ≤ q → A q) (hX : zXF A s s.heap sa sb) (hN : zN s) (isC : List Nat) (hnC : va_nd isC = true) (hC : isC.map (fun i => ws[i]?) = w0.map some) (ci q0 : Nat) (hc : vwCl[ci]? = some q) (he : ws[q0]? = some (b, .inr (ci, fs))) : PreV s H q.1 b (zPx D ct sa sb (.ref b :: As) w0 H.size) As := ⟨zPx.blind, va_recv hK hw.1 hc he, zprex hK hw hS hA hX hN isC hnC hC⟩
theorem zxcall {S : Type} {rv : S → Option Value} {post : S → Prop} {B : S → va_W} {px : Unit → Prop} {BX : String → Unit → State → Prop} {mc ms : Nat} {a9 : Array Value} (hr : vx_Run p l e R s m args below meth c H locs cells slots mc ms (F0 m pc ls st0) rest (zQ D (va_A w0 H.size) rv post B a9) (vx_X px BX (va_A w0 H.size)) (va_A w0 H.size)) (hw : zPD D A ws H) (hS : va_S A s.heap H locs) (hA : ∀ q, s.heap.size ≤ q → A q)
    (isC isR : List Nat) (hC : isC.map (fun i => ws[i]?) = w0.map some) (hR : isR.map (fun i => ws[i]?) = wr.map some) (hnR : va_nd isR = true) (hdis : ∀ i ∈ isR, i ∉ isC)
    (kx : ∀ (E : String) (ce : Cell) (q9 : Addr) (t : State) (H1 : Heap) (locs1 : List Loc), px () → BX E () t → zPD D A wr H1 → va_S A s.heap H1 locs1 → H1[q9]? = some ce → ce.vm = .none → s.vm.findClass E = some ce.cls → vx_W p l e R s m args below meth c H1 locs1 (cells + mc) (slots + ms) Q (F0 m pc ls rest) q9)
    (kk : ∀ (u : S) (H1 : Heap) (locs1 : List Loc), post u → zPD D A (wr ++ B u) H1 → va_S A s.heap H1 locs1 → W p l e R s m args below meth c H1 locs1 (cells + mc) (slots + ms) Q (F0 m (pc + 3) ls ((rv u).toList ++ rest))) : W p l e R s m args below meth c H locs cells slots Q (F0 m pc ls st0) := by
  have hF := va_free (wc := w0) hw.2 hS hA isC hC
  intro T hT X
  rcases hr T hT X with ⟨v, st₀, t, T', L, h0, X', hL, e1, e2, ⟨⟨u, hv, hp, hb⟩, hF9⟩, st⟩ | ⟨q, st₀, t, T', L, E, ce, h0, X', hL, e1, e2, ⟨u, hp, hb, hF9⟩, hce, hcv, hcl, st⟩
  · cases hv
    obtain ⟨k1, k2, k3⟩ := vx_keep h0 e1 hS (fun q _ z => hF q z) hF hL hF9
    obtain ⟨j1, j2⟩ := va_join (H1 := T'.heap) hw.1 hw.2 isC isR hC hR hnR hdis k2 hF (by rw [e1]; exact hb.1) hb.2
    obtain ⟨t2, a1, b1⟩ := kk u T'.heap (locs ++ L) hp ⟨j1, j2⟩ k3 T' rfl X'
    exact ⟨t2, st t2 a1, b1⟩
  · obtain ⟨k1, k2, k3⟩ := vx_keep h0 e1 hS (fun q _ z => hF q z) hF hL hF9
    obtain ⟨j1, j2⟩ := va_join (w1 := []) (H1 := T'.heap) hw.1 hw.2 isC isR hC hR hnR hdis k2 hF (fun k q h => by simp at h) ⟨fun i j p q h => by simp at h, fun k q h => by simp at h⟩
    obtain ⟨t2, a1, b1⟩ := kx E ce q t T'.heap (locs ++ L) hp hb (by have := (⟨j1, j2⟩ : zPD D A (wr ++ []) T'.heap); rwa [List.append_nil] at this) k3 (by rw [e1]; exact hce) hcv hcl T' rfl X'
    exact ⟨t2, st.trans a1, b1⟩
end ZX
