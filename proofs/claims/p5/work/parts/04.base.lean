/-! ===== the words of every contract here: one world, one list of array classes, constants of Sort ===== -/
abbrev zT (ct : Nat → ClassId) : List (ClassId × FieldType) := [(ct 0, .int), (ct 1, .long), (ct 2, .char), (ct 3, .boolean), (ct 4, .object RX8), (ct 5, .object RX5)]
def zPD (D : va_G) (A : Nat → Prop) (ws : va_W) (H : Heap) : Prop := va_P D vwCl ws H ∧ va_D A ws
def zZ (zs : List (String × Nat)) (A : Nat → Prop) (U : State) (H : Heap) : Prop := ∀ q ∈ zs, va_Z RX7 q.1 "LBeardPass$Sort;" (.ref q.2) A U H
/-- the links between nest mates -/
def zNl : List (String × Nat × MethodName × String) := [(RX11, 9, yX9_init, RX11), (RX2, 39, yX4_init, RX11), (RX11, 28, yX3_init, RX11), (RX11, 35, yX1_init, RX11), (RX10, 11, yX8_init, RX11), (RX11, 63, yX8_init, RX11), (RX11, 73, yX6_init, RX11), (RX11, 95, yX5_init, RX11), (RX5, 9, yX8_init, RX11), (RX5, 18, yX1_init, RX11), (RX5, 25, yX6_init, RX11), (RX3, 144, yX11_has, RX11), (RX3, 99, yX4_readWhole, RX11), (RX0, 70, yX11_has, RX11), (RX10, 69, yX11_has, RX11)]
def zN (U : State) : Prop := (∀ q ∈ zNl, va_Nw (.methodLinkNest q.1 q.2.1 q.2.2.1 q.2.2.2) U) ∧ va_AO RX8 U ∧ va_AO RX5 U
def zQ (D : va_G) (A : Nat → Prop) {S : Type} (rv : S → Option Value) (post : S → Prop) (B : S → va_W) : Array Value → State → Outcome → State → Prop := fun _ st oc t => (∃ u : S, oc = .returned (rv u) ∧ post u ∧ zPD D A (B u) t.heap) ∧ va_F A st t
def zPc (D : va_G) (ct : Nat → ClassId) (zs : List (String × Nat)) (As : List Value) (w0 : va_W) (sz : Nat) : Array Value → State → Prop := va_Pc As (fun U => U.heap.size = sz ∧ va_P D vwCl w0 U.heap ∧ va_K D vwCl (zT ct) U ∧ va_D (fun _ => True) w0 ∧ zZ zs (va_A w0 sz) U U.heap ∧ zN U)
def zC (l : Launch) (y : MethodName) (ws : List Cond) (rm : Room) (D : va_G) (ct : Nat → ClassId) (zs : List (String × Nat)) (As : List Value) (w0 : va_W) {S : Type} (rv : S → Option Value) (post : S → Prop) (B : S → va_W) (mc ms : Nat) : Prop :=
  ∀ sz : Nat, Met l y ws rm (zPc D ct zs As w0 sz) (zQ D (va_A w0 sz) rv post B) mc ms (va_A w0 sz)
theorem zZ.nil {A : Nat → Prop} {U : State} {H : Heap} : zZ [] A U H := fun _ h => nomatch h
theorem zZ.sub {zs zs' : List (String × Nat)} {A : Nat → Prop} {U : State} {H : Heap} (h : zZ zs A U H) (hs : ∀ q ∈ zs', q ∈ zs) : zZ zs' A U H := fun q hq => h q (hs q hq)
theorem zsub {D : va_G} {cl : List vw_C} {ws w0 : va_W} {H : Heap} (hP : va_P D cl ws H) (isC : List Nat) (hC : isC.map (fun i => ws[i]?) = w0.map some) : va_P D cl w0 H := by
  intro k q hk
  have h1 : (isC.map (fun i => ws[i]?))[k]? = some (some q) := by rw [hC, List.getElem?_map, hk]; rfl
  rw [List.getElem?_map] at h1
  cases hi : isC[k]? with
  | none => rw [hi] at h1; cases h1
  | some i => rw [hi] at h1; exact hP i q (Option.some.inj h1)
theorem zPD.sub {D : va_G} {A : Nat → Prop} {ws w0 : va_W} {H : Heap} (h : zPD D A ws H) (isC : List Nat) (hn : va_nd isC = true) (hC : isC.map (fun i => ws[i]?) = w0.map some) : zPD D A w0 H := ⟨zsub h.1 isC hC, h.2.sub isC hn hC⟩
theorem zofW {l : Launch} {y : MethodName} {ws ws' : List Cond} {rm : Room} {D : va_G} {ct : Nat → ClassId} {zs : List (String × Nat)} {As : List Value} {w0 : va_W} {S : Type} {rv : S → Option Value} {post : S → Prop} {B : S → va_W} {mc ms : Nat} (cc : ByteArray) (maxL : Nat) (ret : Option FieldType) (hy : plainName y.cls = true) (hw : ws = Cond.code y cc maxL ret :: ws') (hlen : (lg_sl As).length ≤ maxL)
    (body : ∀ (p : Program) (e : Env) (s : State) (m : MethodId) (below : List Frame) (meth : Method) (c : Code) (A : Nat → Prop), p.tables.exec = Jvm.exec → c.code = cc → meth.sig.returnType = ret → c.maxLocals = maxL → (∀ w ∈ ws, w.before As.toArray s = true) → s.vm.findClass y.cls = some m.cls → meth.locks = false → meth.name = y.name → va_K D vwCl (zT ct) s → (∀ q, s.heap.size ≤ q → A q) → zZ zs A s s.heap → zN s →
      ∀ (H : Heap) (locs : List Loc), zPD D A w0 H → va_S A s.heap H locs → ∀ ls : Array Slot, lv_has ls maxL (lv_args 0 As) → W p l e rm s m As.toArray below meth c H locs 0 0 (MQ below (zQ D A rv post B) As.toArray s mc ms A) (F0 m 0 ls [])) : zC l y ws rm D ct zs As w0 rv post B mc ms := by
  intro sz
  refine Met.ofW (cc := cc) (maxL := maxL) (ret := ret) hy hw ?_
  intro p e s m args below meth c s₁ Bd hml hv
  obtain ⟨rfl, hsz, hP, hK, hD0, hZ, hN⟩ := hv
  have hts := atoms_spec (ws := ws) Bd.pre
  subst hsz
  have hD := hD0.self (sz := s.heap.size)
  have hl := lv_entry As (n := maxL) hlen
  rw [lg_entry_eq]
  exact body p e s m below meth c (va_A w0 s.heap.size) Bd.exec Bd.bytes Bd.returns hml hts (findClass_of_methodNamed Bd.named) Bd.notSynchronized (name_of_methodNamed Bd.named Bd.method).1 hK (fun q h => Or.inr h) hZ hN _ _ ⟨hP, hD⟩ va_S.rf _ hl
section ZB
variable {p : Program} {l : Launch} {e : Env} {R : Room} {s : State} {m : MethodId} {args : Array Value} {below : List Frame} {meth : Method} {c : Code} {H : Heap} {locs : List Loc} {cells slots : Nat} {Q : State → Prop}
variable {cc : ByteArray} {pc : Nat} {ls : Array Slot} {rest st0 : List Value} {D : va_G} {ct : Nat → ClassId} {zs : List (String × Nat)} {A : Nat → Prop} {a : Nat} {ws w0 wr : va_W}
theorem zPc.blind {As : List Value} {sz : Nat} : FrameBlind (zPc D ct zs As w0 sz) := fun a U g mk q => by
  obtain ⟨q0, q1, qP, qK, qD, qZ, qN⟩ := q
  exact ⟨q0, q1, qP, va_K.moved (u := U) (U := U.calling g mk a) (Vm.Alike.refl U.vm) qK, qD, fun x hx => va_Z.moved (u := U) (U := U.calling g mk a) (Vm.Alike.refl U.vm) (qZ x hx), ⟨fun x hx => va_Nw.same (u := U) (U := U.calling g mk a) rfl rfl (qN.1 x hx), va_AO.moved (u := U) (U := U.calling g mk a) (Vm.Alike.refl U.vm) qN.2.1, va_AO.moved (u := U) (U := U.calling g mk a) (Vm.Alike.refl U.vm) qN.2.2⟩⟩
theorem zpre {As : List Value} (hK : va_K D vwCl (zT ct) s) (hw : zPD D A ws H) (hS : va_S A s.heap H locs) (hA : ∀ q, s.heap.size ≤ q → A q) (hZ : zZ zs A s s.heap) (hN : zN s) (isC : List Nat) (hnC : va_nd isC = true) (hC : isC.map (fun i => ws[i]?) = w0.map some) : ∀ U : State, U.heap = H → s.WarmedH U.vm → zPc D ct zs As w0 H.size As.toArray U := by
  intro U hU hW
  have hF := va_free (wc := w0) hw.2 hS hA isC hC
  refine ⟨rfl, by rw [hU], by rw [hU]; exact zsub hw.1 isC hC, va_K.moved hW.alike hK, (hw.2.sub isC hnC hC).weaken (fun _ _ _ _ => trivial), fun q hq => ?_, fun q hq => va_Nw.warmM hW (hN.1 q hq), hN.2.1.moved hW.alike, hN.2.2.moved hW.alike⟩
  rw [hU]
  exact va_Z.moved hW.alike (((hZ q hq).kept hS.2.1).narrow hF)
theorem zpreS {As : List Value} (hK : va_K D vwCl (zT ct) s) (hw : zPD D A ws H) (hS : va_S A s.heap H locs) (hA : ∀ q, s.heap.size ≤ q → A q) (hZ : zZ zs A s s.heap) (hN : zN s) (isC : List Nat) (hnC : va_nd isC = true) (hC : isC.map (fun i => ws[i]?) = w0.map some) : PreS s H (zPc D ct zs As w0 H.size) As := ⟨zPc.blind, zpre hK hw hS hA hZ hN isC hnC hC⟩
theorem zpreV {As : List Value} {b : Addr} {q : vw_C} {fs : List Value} (hK : va_K D vwCl (zT ct) s) (hw : zPD D A ws H) (hS : va_S A s.heap H locs) (hA : ∀ q, s.heap.size ≤ q → A q) (hZ : zZ zs A s s.heap) (hN : zN s) (isC : List Nat) (hnC : va_nd isC = true) (hC : isC.map (fun i => ws[i]?) = w0.map some) (ci q0 : Nat) (hc : vwCl[ci]? = some q) (he : ws[q0]? = some (b, .inr (ci, fs))) : PreV s H q.1 b (zPc D ct zs (.ref b :: As) w0 H.size) As := ⟨zPc.blind, va_recv hK hw.1 hc he, zpre hK hw hS hA hZ hN isC hnC hC⟩
theorem zcall {S : Type} {rv : S → Option Value} {post : S → Prop} {B : S → va_W} {mc ms : Nat} {a9 : Array Value} (hr : va_Run p l e R s m args below meth c H locs cells slots mc ms (F0 m pc ls st0) rest (zQ D (va_A w0 H.size) rv post B a9) (va_A w0 H.size)) (hw : zPD D A ws H) (hS : va_S A s.heap H locs) (hA : ∀ q, s.heap.size ≤ q → A q)
    (isC isR : List Nat) (hC : isC.map (fun i => ws[i]?) = w0.map some) (hR : isR.map (fun i => ws[i]?) = wr.map some) (hnR : va_nd isR = true) (hdis : ∀ i ∈ isR, i ∉ isC)
    (kk : ∀ (u : S) (H1 : Heap) (locs1 : List Loc), post u → zPD D A (wr ++ B u) H1 → va_S A s.heap H1 locs1 → W p l e R s m args below meth c H1 locs1 (cells + mc) (slots + ms) Q (F0 m (pc + 3) ls ((rv u).toList ++ rest))) : W p l e R s m args below meth c H locs cells slots Q (F0 m pc ls st0) := by
  have hF := va_free (wc := w0) hw.2 hS hA isC hC
  intro T hT X
  obtain ⟨v, st₀, t, T', L, h0, X', hL, e1, e2, ⟨⟨u, hv, hp, hb⟩, hz, hk⟩, st⟩ := hr T hT X
  cases hv
  rw [h0] at hz hk
  obtain ⟨j1, j2⟩ := va_join (H1 := t.heap) hw.1 hw.2 isC isR hC hR hnR hdis hk hF hb.1 hb.2
  obtain ⟨t2, a1, b1⟩ := kk u T'.heap (locs ++ L) hp (by rw [e1]; exact ⟨j1, j2⟩)
    ⟨Nat.le_trans hS.1 (by rw [e1]; exact hz), fun q h1 h2 => by rw [e1, hk q (Nat.lt_of_lt_of_le h1 hS.1) (fun z => h2 (hF q z))]; exact hS.2.1 q h1 h2, fun q hq => by
      rcases List.mem_append.mp hq with h | h
      · exact hS.2.2 q h
      · exact hF _ (hL q h)⟩ T' rfl X'
  exact ⟨t2, st t2 a1, b1⟩
theorem zval {ws : va_W} (is : List Nat) (h : is.all (fun i => decide (i < ws.length)) = true) : is.map (fun i => ws[i]?) = (is.filterMap (fun i => ws[i]?)).map some := by
  induction is with
  | nil => rfl
  | cons i is ih =>
    simp only [List.all_cons, Bool.and_eq_true, decide_eq_true_eq] at h
    have h1 : ws[i]? = some ws[i] := List.getElem?_eq_getElem h.1
    rw [List.map_cons, List.filterMap_cons, h1]
    simp only [List.map_cons]
    rw [ih h.2]
theorem zapart {isC isR : List Nat} (h : isR.all (fun i => !(isC.contains i)) = true) : ∀ i ∈ isR, i ∉ isC := by
  intro i hi hc
  have h1 := List.all_eq_true.mp h i hi
  simp [hc] at h1
theorem zcall2 {S : Type} {rv : S → Option Value} {post : S → Prop} {B : S → va_W} {mc ms : Nat} {a9 : Array Value} (hr : va_Run p l e R s m args below meth c H locs cells slots mc ms (F0 m pc ls st0) rest (zQ D (va_A w0 H.size) rv post B a9) (va_A w0 H.size)) (hw : zPD D A ws H) (hS : va_S A s.heap H locs) (hA : ∀ q, s.heap.size ≤ q → A q)
    (isC isR : List Nat) (hC : isC.map (fun i => ws[i]?) = w0.map some) (hv : isR.all (fun i => decide (i < ws.length)) = true) (hnR : va_nd isR = true) (hdis : isR.all (fun i => !(isC.contains i)) = true)
    (kk : ∀ (u : S) (H1 : Heap) (locs1 : List Loc), post u → zPD D A (isR.filterMap (fun i => ws[i]?) ++ B u) H1 → va_S A s.heap H1 locs1 → W p l e R s m args below meth c H1 locs1 (cells + mc) (slots + ms) Q (F0 m (pc + 3) ls ((rv u).toList ++ rest))) : W p l e R s m args below meth c H locs cells slots Q (F0 m pc ls st0) :=
  zcall hr hw hS hA isC isR hC (zval isR hv) hnR (zapart hdis) kk
/-- the top of the stack under another name -/
theorem ztop {x : Value} (v : Value) (hv : x = v) (k : W p l e R s m args below meth c H locs cells slots Q (F0 m pc ls (v :: rest))) : W p l e R s m args below meth c H locs cells slots Q (F0 m pc ls (x :: rest)) := hv ▸ k
theorem zfr {st : List Value} (pc2 : Nat) (st2 : List Value) (h : pc = pc2) (h2 : st = st2) (k : W p l e R s m args below meth c H locs cells slots Q (F0 m pc2 ls st2)) : W p l e R s m args below meth c H locs cells slots Q (F0 m pc ls st) := h ▸ h2 ▸ k
section ZR
variable {S : Type} {rv : S → Option Value} {post : S → Prop} {B : S → va_W} {mc ms : Nat}
theorem zvret (hx : p.tables.exec = Jvm.exec) (hb : c.code = cc) (hr : meth.sig.returnType = none) (hlocks : meth.locks = false) (u : S) (hv : rv u = none) (hp : post u) (hw : zPD D A ws H) (isB : List Nat) (hn : va_nd isB = true) (hB : isB.map (fun i => ws[i]?) = (B u).map some) (hS : va_S A s.heap H locs) (hc : cells ≤ mc) (hs : slots ≤ ms) (hdg : decode cc pc = .ok (.return_, 1)) :
    W p l e R s m args below meth c H locs cells slots (MQ below (zQ D A rv post B) args s mc ms A) (F0 m pc ls []) :=
  W.widen hc hs (W.vret hx hb hr (fun t ht hW => ⟨⟨u, by rw [hv], hp, by rw [ht]; exact hw.sub isB hn hB⟩, hS.F ht⟩) hS.2.2 hdg hlocks)
theorem ziret {v : Int32} (hx : p.tables.exec = Jvm.exec) (hb : c.code = cc) {ty : FieldType} (hr : meth.sig.returnType = some ty) (hnar : narrow ty (.int v) = .int v) (hlocks : meth.locks = false) (u : S) (hv : rv u = some (.int v)) (hp : post u) (hw : zPD D A ws H) (isB : List Nat) (hn : va_nd isB = true) (hB : isB.map (fun i => ws[i]?) = (B u).map some) (hS : va_S A s.heap H locs) (hc : cells ≤ mc) (hs : slots ≤ ms) (hdg : decode cc pc = .ok (.ireturn, 1)) :
    W p l e R s m args below meth c H locs cells slots (MQ below (zQ D A rv post B) args s mc ms A) (F0 m pc ls [.int v]) :=
  W.widen hc hs (W.zret hx hb hr hnar (fun t ht hW => ⟨⟨u, by rw [hv], hp, by rw [ht]; exact hw.sub isB hn hB⟩, hS.F ht⟩) hS.2.2 hdg hlocks)
end ZR
/-- a field is written: the world with it -/
theorem zput (hexec : p.tables.exec = Jvm.exec) (hb : c.code = cc) {own ref C : String} {T : u_T} {N ci index : Nat} {Ts : List Cond} (hts : ∀ w ∈ Ts, w.before args s = true) (hin : ∀ w ∈ u_ws C T N, w ∈ Ts) (ty0 : Nat → FieldType) (hty : ∀ k, k < N → parseFieldDescriptor (T k).2.2.1 = some (ty0 k)) (hnm : ∀ a, a < N → ∀ b, b < N → a ≠ b → (T a).2.1 ≠ (T b).2.1) (hown : s.vm.findClass own = some m.cls) (hK : va_K D vwCl (zT ct) s) (hw : zPD D A ws H) (hS0 : va_S A s.heap H locs) (q0 : Nat) {fs : List Value} (he : ws[q0]? = some (a, .inr (ci, fs))) (hc : vwCl[ci]? = some (C, T, N)) (k : Nat) (hk : k < N) (hlink : (Cond.fieldLink own index ref (T k).2.1 (T k).2.2.1).before args s = true) (hsame : ∀ x, s.fieldFound? (T k).1 (T k).2.1 (T k).2.2.1 = some x → s.fieldFound? ref (T k).2.1 (T k).2.2.1 = some x) (hfin : (T k).2.2.2 = false) {ty : FieldType} {v : Value} (hd : parseFieldDescriptor (T k).2.2.1 = some ty) (hn : narrow ty v = v) (hfit : fits ty v = true) (hl : k < fs.length)
    (hdg : decode cc pc = .ok (.putfield index, 3)) (w2 : va_W) (hw2 : ws.set q0 (a, .inr (ci, fs.set k v)) = w2) (kk : ∀ (H1 : Heap) (locs1 : List Loc), zPD D A w2 H1 → va_S A s.heap H1 locs1 → W p l e R s m args below meth c H1 locs1 cells slots Q (F0 m (pc + 3) ls rest)) : W p l e R s m args below meth c H locs cells slots Q (F0 m pc ls (v :: .ref a :: rest)) := by
  subst hw2
  exact va_put hexec hb hts hin ty0 hty hnm hown hK hw.1 hw.2 hS0 q0 he hc k hk hlink hsame hfin hd hn hfit hl hdg (fun H1 l1 h1 h2 h3 => kk H1 l1 ⟨h1, h2⟩ h3)
theorem zputF (hexec : p.tables.exec = Jvm.exec) (hb : c.code = cc) {own ref C : String} {T : u_T} {N ci index : Nat} {Ts : List Cond} (hts : ∀ w ∈ Ts, w.before args s = true) (hin : ∀ w ∈ u_ws C T N, w ∈ Ts) (ty0 : Nat → FieldType) (hty : ∀ k, k < N → parseFieldDescriptor (T k).2.2.1 = some (ty0 k)) (hnm : ∀ a, a < N → ∀ b, b < N → a ≠ b → (T a).2.1 ≠ (T b).2.1) (hown : s.vm.findClass own = some m.cls) (hK : va_K D vwCl (zT ct) s) (hw : zPD D A ws H) (hS0 : va_S A s.heap H locs) (q0 : Nat) {fs : List Value} (he : ws[q0]? = some (a, .inr (ci, fs))) (hc : vwCl[ci]? = some (C, T, N)) (k : Nat) (hk : k < N) (hlink : (Cond.fieldLink own index ref (T k).2.1 (T k).2.2.1).before args s = true) (hsame : ∀ x, s.fieldFound? (T k).1 (T k).2.1 (T k).2.2.1 = some x → s.fieldFound? ref (T k).2.1 (T k).2.2.1 = some x) (hfin : (T k).2.2.2 = true) (hin2 : meth.name = "<init>") (hdecl : (T k).1 = own) {ty : FieldType} {v : Value} (hd : parseFieldDescriptor (T k).2.2.1 = some ty) (hn : narrow ty v = v) (hfit : fits ty v = true) (hl : k < fs.length)
    (hdg : decode cc pc = .ok (.putfield index, 3)) (w2 : va_W) (hw2 : ws.set q0 (a, .inr (ci, fs.set k v)) = w2) (kk : ∀ (H1 : Heap) (locs1 : List Loc), zPD D A w2 H1 → va_S A s.heap H1 locs1 → W p l e R s m args below meth c H1 locs1 cells slots Q (F0 m (pc + 3) ls rest)) : W p l e R s m args below meth c H locs cells slots Q (F0 m pc ls (v :: .ref a :: rest)) := by
  subst hw2
  exact va_putF hexec hb hts hin ty0 hty hnm hown hK hw.1 hw.2 hS0 q0 he hc k hk hlink hsame hfin hin2 hdecl hd hn hfit hl hdg (fun H1 l1 h1 h2 h3 => kk H1 l1 ⟨h1, h2⟩ h3)
theorem zix {i : Int32} {k n : Nat} (hi : i = nI k) (hk : k < n) (hn : n < 2 ^ 31) : vp_in i n ∧ i.toNatClampNeg = k := by
  subst hi
  exact ⟨vp_in_nI hk hn, nI_clamp (Nat.lt_trans hk hn)⟩
theorem ziald (hexec : p.tables.exec = Jvm.exec) (hb : c.code = cc) (hK : va_K D vwCl (zT ct) s) (hw : zPD D A ws H) (q0 : Nat) {n : Nat} {f : Nat → Int32} (ha : ws[q0]? = some (a, .inl (ct 0, n, .inl f))) {i : Int32} (k : Nat) (hi : i = nI k) (hk : k < n) (hn : n < 2 ^ 31) (hdg : decode cc pc = .ok (.iaload, 1))
    (kk : W p l e R s m args below meth c H locs cells slots Q (F0 m (pc + 1) ls (.int (f k) :: rest))) : W p l e R s m args below meth c H locs cells slots Q (F0 m pc ls (.int i :: .ref a :: rest)) := by
  obtain ⟨h1, h2⟩ := zix hi hk hn
  refine va_iald hexec hb hK hw.1 q0 0 ha rfl h1 hdg ?_
  rw [h2]; exact kk
theorem zcald (hexec : p.tables.exec = Jvm.exec) (hb : c.code = cc) (hK : va_K D vwCl (zT ct) s) (hw : zPD D A ws H) (q0 : Nat) {n : Nat} {f : Nat → Int32} (ha : ws[q0]? = some (a, .inl (ct 2, n, .inl f))) {i : Int32} (k : Nat) (hi : i = nI k) (hk : k < n) (hn : n < 2 ^ 31) (hdg : decode cc pc = .ok (.caload, 1))
    (kk : W p l e R s m args below meth c H locs cells slots Q (F0 m (pc + 1) ls (.int (f k) :: rest))) : W p l e R s m args below meth c H locs cells slots Q (F0 m pc ls (.int i :: .ref a :: rest)) := by
  obtain ⟨h1, h2⟩ := zix hi hk hn
  refine va_cald hexec hb hK hw.1 q0 2 ha rfl h1 hdg ?_
  rw [h2]; exact kk
theorem zzald (hexec : p.tables.exec = Jvm.exec) (hb : c.code = cc) (hK : va_K D vwCl (zT ct) s) (hw : zPD D A ws H) (q0 : Nat) {n : Nat} {f : Nat → Int32} (ha : ws[q0]? = some (a, .inl (ct 3, n, .inl f))) {i : Int32} (k : Nat) (hi : i = nI k) (hk : k < n) (hn : n < 2 ^ 31) (hdg : decode cc pc = .ok (.baload, 1))
    (kk : W p l e R s m args below meth c H locs cells slots Q (F0 m (pc + 1) ls (.int (f k) :: rest))) : W p l e R s m args below meth c H locs cells slots Q (F0 m pc ls (.int i :: .ref a :: rest)) := by
  obtain ⟨h1, h2⟩ := zix hi hk hn
  refine va_zald hexec hb hK hw.1 q0 3 ha rfl h1 hdg ?_
  rw [h2]; exact kk
theorem zlald (hexec : p.tables.exec = Jvm.exec) (hb : c.code = cc) (hK : va_K D vwCl (zT ct) s) (hw : zPD D A ws H) (q0 : Nat) {n : Nat} {f : Nat → Int64} (ha : ws[q0]? = some (a, .inl (ct 1, n, .inr (.inl f)))) {i : Int32} (k : Nat) (hi : i = nI k) (hk : k < n) (hn : n < 2 ^ 31) (hdg : decode cc pc = .ok (.laload, 1))
    (kk : W p l e R s m args below meth c H locs cells slots Q (F0 m (pc + 1) ls (.long (f k) :: rest))) : W p l e R s m args below meth c H locs cells slots Q (F0 m pc ls (.int i :: .ref a :: rest)) := by
  obtain ⟨h1, h2⟩ := zix hi hk hn
  refine va_lald hexec hb hK hw.1 q0 1 ha rfl h1 hdg ?_
  rw [h2]; exact kk
theorem ziast (hexec : p.tables.exec = Jvm.exec) (hb : c.code = cc) (hK : va_K D vwCl (zT ct) s) (hw : zPD D A ws H) (hS : va_S A s.heap H locs) (q0 : Nat) {n : Nat} {f : Nat → Int32} (ha : ws[q0]? = some (a, .inl (ct 0, n, .inl f))) {i x : Int32} (k : Nat) (hi : i = nI k) (hk : k < n) (hn : n < 2 ^ 31) (hdg : decode cc pc = .ok (.iastore, 1)) (w2 : va_W) (hw2 : ws.set q0 (a, .inl (ct 0, n, .inl (upd f k x))) = w2)
    (kk : ∀ (H1 : Heap) (locs1 : List Loc), zPD D A w2 H1 → va_S A s.heap H1 locs1 → W p l e R s m args below meth c H1 locs1 cells slots Q (F0 m (pc + 1) ls rest)) : W p l e R s m args below meth c H locs cells slots Q (F0 m pc ls (.int x :: .int i :: .ref a :: rest)) := by
  obtain ⟨h1, h2⟩ := zix hi hk hn
  subst hw2
  refine va_iast hexec hb hK hw.1 hw.2 hS q0 0 ha rfl h1 hdg ?_
  rw [h2]
  exact fun H1 l1 g1 g2 g3 => kk H1 l1 ⟨g1, g2⟩ g3
theorem zlast (hexec : p.tables.exec = Jvm.exec) (hb : c.code = cc) (hK : va_K D vwCl (zT ct) s) (hw : zPD D A ws H) (hS : va_S A s.heap H locs) (q0 : Nat) {n : Nat} {f : Nat → Int64} (ha : ws[q0]? = some (a, .inl (ct 1, n, .inr (.inl f)))) {i : Int32} {x : Int64} (k : Nat) (hi : i = nI k) (hk : k < n) (hn : n < 2 ^ 31) (hdg : decode cc pc = .ok (.lastore, 1)) (w2 : va_W) (hw2 : ws.set q0 (a, .inl (ct 1, n, .inr (.inl (vp_updL f k x)))) = w2)
    (kk : ∀ (H1 : Heap) (locs1 : List Loc), zPD D A w2 H1 → va_S A s.heap H1 locs1 → W p l e R s m args below meth c H1 locs1 cells slots Q (F0 m (pc + 1) ls rest)) : W p l e R s m args below meth c H locs cells slots Q (F0 m pc ls (.long x :: .int i :: .ref a :: rest)) := by
  obtain ⟨h1, h2⟩ := zix hi hk hn
  subst hw2
  refine va_last hexec hb hK hw.1 hw.2 hS q0 1 ha rfl h1 hdg ?_
  rw [h2]
  exact fun H1 l1 g1 g2 g3 => kk H1 l1 ⟨g1, g2⟩ g3
end ZB
