/-! ===== the contracts of the class: the constants of Sort, their texts, the words that a law names ===== -/
def eN : List String := ["TOWN", "ASKS", "ROAD", "PERSON", "AT", "BEARD", "PURSE", "GROWS", "INCH", "READS", "GO", "FORGE", "SHAVE", "WEEK", "PLAIN", "SMOOTH", "BISHOP", "GREY", "NOT", "AND", "OR", "OPEN", "CLOSE", "LESS", "SAME", "PLUS", "MINUS", "TIMES", "STOP", "NAME", "NUMBER", "END", "NO_TOKEN"]
def eT (E : Nat → Nat) (i : Nat) (A : Nat → Prop) (U : State) (H : Heap) : Prop := va_O RJ0 (E (40 + i)) A U H ∧ va_OF RJ0 "coder" "B" (.int 0) (E (40 + i)) A U H ∧ va_OF RJ0 "value" "[B" (.ref (E (80 + i))) (E (40 + i)) A U H ∧ va_T .byte (E (80 + i)) (eL.getD i 0) (fun j => .int ((eB.getD i []).getD j 0)) A U H
def eR : List (Nat × String × Nat) := [(110, "long", 73), (116, "false", 74), (118, "asked", 75), (120, "weeks", 76)]
def eZ (E : Nat → Nat) (A : Nat → Prop) (U : State) (H : Heap) : Prop :=
  (∀ i : Nat, i < 33 → va_Z RX7 (eN.getD i "") "LBeardPass$Sort;" (.ref (E i)) A U H) ∧ va_Z RX7 "ALL" "[LBeardPass$Sort;" (.ref (E 33)) A U H ∧ va_T (.object RX7) (E 33) 33 (fun j => .ref (E j)) A U H ∧
  (∀ i : Nat, i < 33 → va_OF RX7 "text" "Ljava/lang/String;" (.ref (E (40 + i))) (E i) A U H) ∧ (∀ i : Nat, i < 37 → eT E i A U H) ∧ (∀ k ∈ eR, vk_R RX4 k.1 k.2.1 (E k.2.2) U) ∧
  va_Z RJ0 "COMPACT_STRINGS" "Z" (.int 1) A U H ∧ (∃ o : Option Nat, va_Z RJ3 "SIOOBE_FORMATTER" "Ljava/util/function/BiFunction;" (va_rf o) A U H) ∧ va_Nw (.fieldLinkNest RX9 75 RX7 "ALL" "[LBeardPass$Sort;" RX11) U
theorem eT.moved {E : Nat → Nat} {i : Nat} {A : Nat → Prop} {u U : State} {H : Heap} (hvm : u.vm.Alike U.vm) (h : eT E i A u H) : eT E i A U H := ⟨va_O.moved hvm h.1, va_OF.moved hvm h.2.1, va_OF.moved hvm h.2.2.1, va_T.moved hvm h.2.2.2⟩
theorem eT.kept {E : Nat → Nat} {i : Nat} {A : Nat → Prop} {U : State} {H H1 : Heap} (h : eT E i A U H) (hq : ∀ a : Nat, a < H.size → ¬ A a → H1[a]? = H[a]?) : eT E i A U H1 := ⟨h.1.kept hq, h.2.1.kept hq, h.2.2.1.kept hq, h.2.2.2.kept hq⟩
theorem eT.narrow {E : Nat → Nat} {i : Nat} {A B : Nat → Prop} {U : State} {H : Heap} (h : eT E i A U H) (hAB : ∀ q, B q → A q) : eT E i B U H := ⟨h.1.narrow hAB, h.2.1.narrow hAB, h.2.2.1.narrow hAB, h.2.2.2.narrow hAB⟩
/-- to a callee: the heap and the words later, and less that may change -/
theorem eZ.go {E : Nat → Nat} {A B : Nat → Prop} {s U : State} {H1 : Heap} (h : eZ E A s s.heap) (hW : s.WarmedH U.vm) (hq : ∀ a : Nat, a < s.heap.size → ¬ A a → H1[a]? = s.heap[a]?) (hAB : ∀ q, B q → A q) : eZ E B U H1 := by
  obtain ⟨h1, h2, h3, h4, h5, h6, h7, ⟨o, h8⟩, h9⟩ := h
  exact ⟨fun i hi => va_Z.moved hW.alike (((h1 i hi).kept hq).narrow hAB), va_Z.moved hW.alike ((h2.kept hq).narrow hAB), va_T.moved hW.alike ((h3.kept hq).narrow hAB), fun i hi => va_OF.moved hW.alike (((h4 i hi).kept hq).narrow hAB), fun i hi => eT.moved hW.alike (((h5 i hi).kept hq).narrow hAB), fun k hk => vk_R.warm hW (h6 k hk), va_Z.moved hW.alike ((h7.kept hq).narrow hAB), ⟨o, va_Z.moved hW.alike ((h8.kept hq).narrow hAB)⟩, va_Nw.warmF hW h9⟩
theorem eZ.same {E : Nat → Nat} {A : Nat → Prop} {u U : State} {H : Heap} (hv : U.vm = u.vm) (hA : u.vm.Alike U.vm) (he : va_Nw (.fieldLinkNest RX9 75 RX7 "ALL" "[LBeardPass$Sort;" RX11) U) (h : eZ E A u H) : eZ E A U H := by
  obtain ⟨h1, h2, h3, h4, h5, h6, h7, ⟨o, h8⟩, h9⟩ := h
  exact ⟨fun i hi => va_Z.moved hA (h1 i hi), va_Z.moved hA h2, va_T.moved hA h3, fun i hi => va_OF.moved hA (h4 i hi), fun i hi => eT.moved hA (h5 i hi), fun k hk => vk_R.same hv (h6 k hk), va_Z.moved hA h7, ⟨o, va_Z.moved hA h8⟩, he⟩
def cPc (D : va_G) (ct : Nat → ClassId) (E : Nat → Nat) (As : List Value) (w0 : va_W) (sz : Nat) : Array Value → State → Prop := va_Pc As (fun U => U.heap.size = sz ∧ va_P D vwCl w0 U.heap ∧ va_K D vwCl (zT ct) U ∧ va_D (fun _ => True) w0 ∧ eZ E (va_A w0 sz) U U.heap ∧ zN U)
def cC (l : Launch) (y : MethodName) (ws : List Cond) (rm : Room) (D : va_G) (ct : Nat → ClassId) (E : Nat → Nat) (As : List Value) (w0 : va_W) {S : Type} (rv : S → Option Value) (post : S → Prop) (B : S → va_W) : Prop :=
  ∀ sz : Nat, Met l y ws rm (cPc D ct E As w0 sz) (zQ D (va_A w0 sz) rv post B) 0 0 (va_A w0 sz)
theorem cofQ {l : Launch} {y : MethodName} {ws ws' : List Cond} {rm : Room} {D : va_G} {ct : Nat → ClassId} {E : Nat → Nat} {As : List Value} {w0 : va_W} {S : Type} {rv : S → Option Value} {post : S → Prop} {B : S → va_W} (cc : ByteArray) (maxL : Nat) (ret : Option FieldType) (hy : plainName y.cls = true) (hw : ws = Cond.code y cc maxL ret :: ws') (hlen : (lg_sl As).length ≤ maxL)
    (body : ∀ (p : Program) (e : Env) (s : State) (m : MethodId) (below : List Frame) (meth : Method) (c : Code) (A : Nat → Prop) (a9 : Array Value) (Q : State → Prop), a9 = As.toArray → p.tables.exec = Jvm.exec → c.code = cc → meth.sig.returnType = ret → c.maxLocals = maxL → (∀ w ∈ ws, w.before a9 s = true) → s.vm.findClass y.cls = some m.cls → meth.locks = false → meth.name = y.name → va_K D vwCl (zT ct) s → (∀ q, s.heap.size ≤ q → A q) → eZ E A s s.heap → zN s → Q = MQ below (zQ D A rv post B) a9 s 0 0 A →
      ∀ (H : Heap) (locs : List Loc), zPD D A w0 H → va_S A s.heap H locs → ∀ ls : Array Slot, lv_has ls maxL (lv_args 0 As) → W p l e rm s m a9 below meth c H locs 0 0 Q (F0 m 0 ls [])) : cC l y ws rm D ct E As w0 rv post B := by
  intro sz
  refine Met.ofW (cc := cc) (maxL := maxL) (ret := ret) hy hw ?_
  intro p e s m args below meth c s₁ Bd hml hv
  obtain ⟨rfl, hsz, hP, hK, hD0, hZ, hN⟩ := hv
  have hts := atoms_spec (ws := ws) Bd.pre
  subst hsz
  have hD := hD0.self (sz := s.heap.size)
  have hl := lv_entry As (n := maxL) hlen
  rw [lg_entry_eq]
  exact body p e s m below meth c (va_A w0 s.heap.size) _ _ rfl Bd.exec Bd.bytes Bd.returns hml hts (findClass_of_methodNamed Bd.named) Bd.notSynchronized (name_of_methodNamed Bd.named Bd.method).1 hK (fun q h => Or.inr h) hZ hN rfl _ _ ⟨hP, hD⟩ va_S.rf _ hl
section CB
variable {p : Program} {l : Launch} {e : Env} {R : Room} {s : State} {m : MethodId} {args : Array Value} {below : List Frame} {meth : Method} {c : Code} {H : Heap} {locs : List Loc} {cells slots : Nat} {Q : State → Prop}
variable {cc : ByteArray} {pc : Nat} {ls : Array Slot} {rest st0 : List Value} {D : va_G} {ct : Nat → ClassId} {E : Nat → Nat} {A : Nat → Prop} {a : Nat} {ws w0 wr : va_W}
theorem cPc.blind {As : List Value} {sz : Nat} : FrameBlind (cPc D ct E As w0 sz) := fun a U g mk q => by
  obtain ⟨q0, q1, qP, qK, qD, qZ, qN⟩ := q
  exact ⟨q0, q1, qP, va_K.moved (u := U) (U := U.calling g mk a) (Vm.Alike.refl U.vm) qK, qD, eZ.same (u := U) (U := U.calling g mk a) rfl (Vm.Alike.refl U.vm) (va_Nw.same (u := U) (U := U.calling g mk a) rfl rfl qZ.2.2.2.2.2.2.2.2) qZ, ⟨fun x hx => va_Nw.same (u := U) (U := U.calling g mk a) rfl rfl (qN.1 x hx), va_AO.moved (u := U) (U := U.calling g mk a) (Vm.Alike.refl U.vm) qN.2.1, va_AO.moved (u := U) (U := U.calling g mk a) (Vm.Alike.refl U.vm) qN.2.2⟩⟩
theorem cpre {As : List Value} (hK : va_K D vwCl (zT ct) s) (hw : zPD D A ws H) (hS : va_S A s.heap H locs) (hA : ∀ q, s.heap.size ≤ q → A q) (hZ : eZ E A s s.heap) (hN : zN s) (isC : List Nat) (hnC : va_nd isC = true) (hC : isC.map (fun i => ws[i]?) = w0.map some) : ∀ U : State, U.heap = H → s.WarmedH U.vm → cPc D ct E As w0 H.size As.toArray U := by
  intro U hU hW
  have hF := va_free (wc := w0) hw.2 hS hA isC hC
  refine ⟨rfl, by rw [hU], by rw [hU]; exact zsub hw.1 isC hC, va_K.moved hW.alike hK, (hw.2.sub isC hnC hC).weaken (fun _ _ _ _ => trivial), ?_, fun q hq => va_Nw.warmM hW (hN.1 q hq), hN.2.1.moved hW.alike, hN.2.2.moved hW.alike⟩
  rw [hU]
  exact hZ.go hW hS.2.1 hF
theorem cpreS {As : List Value} (hK : va_K D vwCl (zT ct) s) (hw : zPD D A ws H) (hS : va_S A s.heap H locs) (hA : ∀ q, s.heap.size ≤ q → A q) (hZ : eZ E A s s.heap) (hN : zN s) (isC : List Nat) (hnC : va_nd isC = true) (hC : isC.map (fun i => ws[i]?) = w0.map some) : PreS s H (cPc D ct E As w0 H.size) As := ⟨cPc.blind, cpre hK hw hS hA hZ hN isC hnC hC⟩
theorem cpreV {As : List Value} {b : Addr} {q : vw_C} {fs : List Value} (hK : va_K D vwCl (zT ct) s) (hw : zPD D A ws H) (hS : va_S A s.heap H locs) (hA : ∀ q, s.heap.size ≤ q → A q) (hZ : eZ E A s s.heap) (hN : zN s) (isC : List Nat) (hnC : va_nd isC = true) (hC : isC.map (fun i => ws[i]?) = w0.map some) (ci q0 : Nat) (hc : vwCl[ci]? = some q) (he : ws[q0]? = some (b, .inr (ci, fs))) : PreV s H q.1 b (cPc D ct E (.ref b :: As) w0 H.size) As := ⟨cPc.blind, va_recv hK hw.1 hc he, cpre hK hw hS hA hZ hN isC hnC hC⟩
/-- a text is the receiver -/
theorem cpreT {As : List Value} {i : Nat} (hK : va_K D vwCl (zT ct) s) (hw : zPD D A ws H) (hS : va_S A s.heap H locs) (hA : ∀ q, s.heap.size ≤ q → A q) (hZ : eZ E A s s.heap) (hN : zN s) (hi : i < 37) : PreV s H RJ0 (E (40 + i)) (cPc D ct E (.ref (E (40 + i)) :: As) [] H.size) As := ⟨cPc.blind, va_Orecv (hZ.2.2.2.2.1 i hi).1 hS, cpre hK hw hS hA hZ hN [] rfl rfl⟩
section CR
variable {S : Type} {rv : S → Option Value} {post : S → Prop} {B : S → va_W}
theorem caretQ {v : Nat} (hQ : Q = MQ below (zQ D A rv post B) args s 0 0 A) (hx : p.tables.exec = Jvm.exec) (hb : c.code = cc) {n : String} (hr : meth.sig.returnType = some (.object n)) (hlocks : meth.locks = false) (u : S) (hv : rv u = some (.ref v)) (hp : post u) (hw : zPD D A (B u) H) (hS : va_S A s.heap H locs) (hdg : decode cc pc = .ok (.areturn, 1)) :
    W p l e R s m args below meth c H locs 0 0 Q (F0 m pc ls [.ref v]) := by
  subst hQ
  exact W.aret hx hb hr (Or.inl ⟨n, rfl⟩) (Or.inr ⟨v, rfl⟩) (fun t ht hW => ⟨⟨u, by rw [hv], hp, by rw [ht]; exact hw⟩, hS.F ht⟩) hS.2.2 hdg hlocks
theorem clretQ {v : Int64} (hQ : Q = MQ below (zQ D A rv post B) args s 0 0 A) (hx : p.tables.exec = Jvm.exec) (hb : c.code = cc) (hr : meth.sig.returnType = some .long) (hlocks : meth.locks = false) (u : S) (hv : rv u = some (.long v)) (hp : post u) (hw : zPD D A (B u) H) (hS : va_S A s.heap H locs) (hdg : decode cc pc = .ok (.lreturn, 1)) :
    W p l e R s m args below meth c H locs 0 0 Q (F0 m pc ls [.long v]) := by
  subst hQ
  exact W.lret hx hb hr (fun t ht hW => ⟨⟨u, by rw [hv], hp, by rw [ht]; exact hw⟩, hS.F ht⟩) hS.2.2 hdg hlocks
end CR
section CW
variable {y : Nat → Nat} {r : zRr} {q : zRq}
theorem cmgen {P : zRr → Prop} {G : Prop} {r2 : zRr} (hw : zPD D A (kW ct E y r2 q) H) (hp : P r2) (k : ∀ r1 : zRr, r1 = r2 → zPD D A (kW ct E y r1 q) H → P r1 → G) : G := k r2 rfl hw hp
theorem cqgen {G : Prop} {q2 : zRq} (hw : zPD D A (kW ct E y r q2) H) (k : ∀ q1 : zRq, q1 = q2 → zPD D A (kW ct E y r q1) H → G) : G := k q2 rfl hw
/-- a reference that is a constant of Sort -/
theorem cgenS {x : Int32} {lo hi : Int} (h : zI lo hi x) (k : ∀ v : Int32, zI lo hi v → W p l e R s m args below meth c H locs cells slots Q (F0 m pc ls (.ref (E (zn v)) :: rest))) : W p l e R s m args below meth c H locs cells slots Q (F0 m pc ls (.ref (E (zn x)) :: rest)) := k x h
theorem mcald (hx : p.tables.exec = Jvm.exec) (hb : c.code = cc) (hK : va_K D vwCl (zT ct) s) (hw : zPD D A ws H) (q0 : Nat) {n : Nat} {f : Nat → Int32} (ha : ws[q0]? = some (a, .inl (ct 2, n, .inl f))) {i : Int32} {lo hi : Int} (h : zI lo hi i) (hk : 0 ≤ lo ∧ hi < (n : Int) ∧ n < 2147483648) (hdg : decode cc pc = .ok (.caload, 1))
    (kk : W p l e R s m args below meth c H locs cells slots Q (F0 m (pc + 1) ls (.int (f (zn i)) :: rest))) : W p l e R s m args below meth c H locs cells slots Q (F0 m pc ls (.int i :: .ref a :: rest)) :=
  zcald hx hb hK hw q0 ha (zn i) (h.ix hk).1 (h.ix hk).2 hk.2.2 hdg kk
theorem mcast (hx : p.tables.exec = Jvm.exec) (hb : c.code = cc) (hK : va_K D vwCl (zT ct) s) (hw : zPD D A ws H) (hS : va_S A s.heap H locs) (q0 : Nat) {n : Nat} {f : Nat → Int32} (ha : ws[q0]? = some (a, .inl (ct 2, n, .inl f))) {i x : Int32} {lo hi : Int} (h : zI lo hi i) (hk : 0 ≤ lo ∧ hi < (n : Int) ∧ n < 2147483648) (hdg : decode cc pc = .ok (.castore, 1)) (w2 : va_W) (hw2 : ws.set q0 (a, .inl (ct 2, n, .inl (upd f (zn i) (vp_nar .char x)))) = w2)
    (kk : ∀ (H1 : Heap) (locs1 : List Loc), zPD D A w2 H1 → va_S A s.heap H1 locs1 → W p l e R s m args below meth c H1 locs1 cells slots Q (F0 m (pc + 1) ls rest)) : W p l e R s m args below meth c H locs cells slots Q (F0 m pc ls (.int x :: .int i :: .ref a :: rest)) :=
  zcast hx hb hK hw hS q0 ha (zn i) (h.ix hk).1 (h.ix hk).2 hk.2.2 _ rfl hdg w2 hw2 kk
theorem maald (hx : p.tables.exec = Jvm.exec) (hb : c.code = cc) (hK : va_K D vwCl (zT ct) s) (hw : zPD D A ws H) (q0 t0 : Nat) {cA : ClassId} {C : String} {n : Nat} {f : Nat → Option Nat} (ha : ws[q0]? = some (a, .inl (cA, n, .inr (.inr (.inr (.inr f)))))) (ht : (zT ct)[t0]? = some (cA, .object C)) {i : Int32} {lo hi : Int} (h : zI lo hi i) (hk : 0 ≤ lo ∧ hi < (n : Int) ∧ n < 2147483648) (b : Nat) (hq : f (zn i) = some b) (hdg : decode cc pc = .ok (.aaload, 1))
    (kk : W p l e R s m args below meth c H locs cells slots Q (F0 m (pc + 1) ls (.ref b :: rest))) : W p l e R s m args below meth c H locs cells slots Q (F0 m pc ls (.int i :: .ref a :: rest)) :=
  zaald hx hb hK hw q0 t0 ha ht (zn i) (h.ix hk).1 (h.ix hk).2 hk.2.2 b hq hdg kk
/-- a constant of Sort is fetched -/
theorem cgets (i : Nat) (hi : i < 33) (hx : p.tables.exec = Jvm.exec) (hb : c.code = cc) {own : String} {index : Nat} (hZ : eZ E A s s.heap) (hS : va_S A s.heap H locs) (hown : s.vm.findClass own = some m.cls) (hlink : (Cond.fieldLink own index RX7 (eN.getD i "") "LBeardPass$Sort;").before args s = true) (hdg : decode cc pc = .ok (.getstatic index, 3))
    (kk : W p l e R s m args below meth c H locs cells slots Q (F0 m (pc + 3) ls (.ref (E i) :: rest))) : W p l e R s m args below meth c H locs cells slots Q (F0 m pc ls rest) :=
  va_gets (C := RX7) hx hb (hZ.1 i hi) hS hown hlink (fun _ h => h) hdg kk
theorem cacmp_eq (hx : p.tables.exec = Jvm.exec) (hb : c.code = cc) {x y : Nat} {off : Int} {tgt : Nat} (hdg : decode cc pc = .ok (.if_acmp .eq off, 3)) (ht : (pc : Int) + off = (tgt : Int))
    (kt : W p l e R s m args below meth c H locs cells slots Q (F0 m tgt ls rest)) (kf : W p l e R s m args below meth c H locs cells slots Q (F0 m (pc + 3) ls rest)) : W p l e R s m args below meth c H locs cells slots Q (F0 m pc ls (.ref y :: .ref x :: rest)) :=
  lv_acmp_eq (rx := some x) (ry := some y) hx hb hdg ht (fun _ => kt) (fun _ => kf)
theorem cacmp_ne (hx : p.tables.exec = Jvm.exec) (hb : c.code = cc) {x y : Nat} {off : Int} {tgt : Nat} (hdg : decode cc pc = .ok (.if_acmp .ne off, 3)) (ht : (pc : Int) + off = (tgt : Int))
    (kt : W p l e R s m args below meth c H locs cells slots Q (F0 m tgt ls rest)) (kf : W p l e R s m args below meth c H locs cells slots Q (F0 m (pc + 3) ls rest)) : W p l e R s m args below meth c H locs cells slots Q (F0 m pc ls (.ref y :: .ref x :: rest)) :=
  lv_acmp_ne (rx := some x) (ry := some y) hx hb hdg ht (fun _ => kt) (fun _ => kf)
end CW
end CB
