/-! ===== the walk: rows for a state that is only known by its bounds ===== -/
theorem zofQ {l : Launch} {y : MethodName} {ws ws' : List Cond} {rm : Room} {D : va_G} {ct : Nat → ClassId} {zs : List (String × Nat)} {As : List Value} {w0 : va_W} {S : Type} {rv : S → Option Value} {post : S → Prop} {B : S → va_W} (cc : ByteArray) (maxL : Nat) (ret : Option FieldType) (hy : plainName y.cls = true) (hw : ws = Cond.code y cc maxL ret :: ws') (hlen : (lg_sl As).length ≤ maxL)
    (body : ∀ (p : Program) (e : Env) (s : State) (m : MethodId) (below : List Frame) (meth : Method) (c : Code) (A : Nat → Prop) (a9 : Array Value) (Q : State → Prop), a9 = As.toArray → p.tables.exec = Jvm.exec → c.code = cc → meth.sig.returnType = ret → c.maxLocals = maxL → (∀ w ∈ ws, w.before a9 s = true) → s.vm.findClass y.cls = some m.cls → meth.locks = false → meth.name = y.name → va_K D vwCl (zT ct) s → (∀ q, s.heap.size ≤ q → A q) → zZ zs A s s.heap → zN s → Q = MQ below (zQ D A rv post B) a9 s 0 0 A →
      ∀ (H : Heap) (locs : List Loc), zPD D A w0 H → va_S A s.heap H locs → ∀ ls : Array Slot, lv_has ls maxL (lv_args 0 As) → W p l e rm s m a9 below meth c H locs 0 0 Q (F0 m 0 ls [])) : zC l y ws rm D ct zs As w0 rv post B 0 0 :=
  zofW cc maxL ret hy hw hlen (fun p e s m below meth c A h1 h2 h3 h4 h5 h6 h7 h8 h9 h10 h11 h12 H locs hw hS ls hl => body p e s m below meth c A _ _ rfl h1 h2 h3 h4 h5 h6 h7 h8 h9 h10 h11 h12 rfl H locs hw hS ls hl)
section ZG
variable {p : Program} {l : Launch} {e : Env} {R : Room} {s : State} {m : MethodId} {args : Array Value} {below : List Frame} {meth : Method} {c : Code} {H : Heap} {locs : List Loc} {cells slots : Nat} {Q : State → Prop}
variable {cc : ByteArray} {pc : Nat} {ls : Array Slot} {rest st0 : List Value} {D : va_G} {ct : Nat → ClassId} {zs : List (String × Nat)} {A : Nat → Prop} {a : Nat} {ws w0 wr : va_W}
theorem zgen {lo hi : Int} {x : Int32} (h : zI lo hi x) (k : ∀ v : Int32, zI lo hi v → W p l e R s m args below meth c H locs cells slots Q (F0 m pc ls (.int v :: rest))) : W p l e R s m args below meth c H locs cells slots Q (F0 m pc ls (.int x :: rest)) := k x h
theorem zgenE {lo hi : Int} {x : Int32} (h : zI lo hi x) (k : ∀ v : Int32, v = x → zI lo hi v → W p l e R s m args below meth c H locs cells slots Q (F0 m pc ls (.int v :: rest))) : W p l e R s m args below meth c H locs cells slots Q (F0 m pc ls (.int x :: rest)) := k x rfl h
theorem zgenL {x : Int64} (k : ∀ v : Int64, W p l e R s m args below meth c H locs cells slots Q (F0 m pc ls (.long v :: rest))) : W p l e R s m args below meth c H locs cells slots Q (F0 m pc ls (.long x :: rest)) := k x
section ZR
variable {S : Type} {rv : S → Option Value} {post : S → Prop} {B : S → va_W} {mc ms : Nat}
theorem zvretQ (hQ : Q = MQ below (zQ D A rv post B) args s 0 0 A) (hx : p.tables.exec = Jvm.exec) (hb : c.code = cc) (hr : meth.sig.returnType = none) (hlocks : meth.locks = false) (u : S) (hv : rv u = none) (hp : post u) (hw : zPD D A (B u) H) (hS : va_S A s.heap H locs) (hdg : decode cc pc = .ok (.return_, 1)) :
    W p l e R s m args below meth c H locs 0 0 Q (F0 m pc ls []) := by
  subst hQ
  exact W.vret hx hb hr (fun t ht hW => ⟨⟨u, by rw [hv], hp, by rw [ht]; exact hw⟩, hS.F ht⟩) hS.2.2 hdg hlocks
theorem ziretQ {v : Int32} (hQ : Q = MQ below (zQ D A rv post B) args s 0 0 A) (hx : p.tables.exec = Jvm.exec) (hb : c.code = cc) {ty : FieldType} (hr : meth.sig.returnType = some ty) (hnar : narrow ty (.int v) = .int v) (hlocks : meth.locks = false) (u : S) (hv : rv u = some (.int v)) (hp : post u) (hw : zPD D A (B u) H) (hS : va_S A s.heap H locs) (hdg : decode cc pc = .ok (.ireturn, 1)) :
    W p l e R s m args below meth c H locs 0 0 Q (F0 m pc ls [.int v]) := by
  subst hQ
  exact W.zret hx hb hr hnar (fun t ht hW => ⟨⟨u, by rw [hv], hp, by rw [ht]; exact hw⟩, hS.F ht⟩) hS.2.2 hdg hlocks
end ZR
/-- a call over the whole world -/
theorem zcallW {S : Type} {rv : S → Option Value} {post : S → Prop} {B : S → va_W} {a9 : Array Value} (hr : va_Run p l e R s m args below meth c H locs 0 0 0 0 (F0 m pc ls st0) rest (zQ D (va_A w0 H.size) rv post B a9) (va_A w0 H.size)) (hw : zPD D A w0 H) (hS : va_S A s.heap H locs) (hA : ∀ q, s.heap.size ≤ q → A q) (pc2 : Nat) (h2 : pc + 3 = pc2)
    (kk : ∀ (u : S) (H1 : Heap) (locs1 : List Loc), post u → zPD D A (B u) H1 → va_S A s.heap H1 locs1 → W p l e R s m args below meth c H1 locs1 0 0 Q (F0 m pc2 ls ((rv u).toList ++ rest))) : W p l e R s m args below meth c H locs 0 0 Q (F0 m pc ls st0) := by
  subst h2
  exact zcallF hr hw hS hA kk
theorem zcallE {S : Type} {rv : S → Option Value} {post : S → Prop} {a9 : Array Value} (hr : va_Run p l e R s m args below meth c H locs 0 0 0 0 (F0 m pc ls st0) rest (zQ D (va_A [] H.size) rv post (fun _ => []) a9) (va_A [] H.size)) (hw : zPD D A ws H) (hS : va_S A s.heap H locs) (hA : ∀ q, s.heap.size ≤ q → A q) (hn : va_nd (List.range ws.length) = true) (pc2 : Nat) (h2 : pc + 3 = pc2)
    (kk : ∀ (u : S) (H1 : Heap) (locs1 : List Loc), post u → zPD D A ws H1 → va_S A s.heap H1 locs1 → W p l e R s m args below meth c H1 locs1 0 0 Q (F0 m pc2 ls ((rv u).toList ++ rest))) : W p l e R s m args below meth c H locs 0 0 Q (F0 m pc ls st0) := by
  subst h2
  exact zcall0 hr hw hS hA hn kk
section ZM
variable {h0 : Nat} {y : Nat → Nat} {r : zRr} {q : zRq}
theorem mget (hx : p.tables.exec = Jvm.exec) (hb : c.code = cc) {index : Nat} {Ts : List Cond} (hts : ∀ w ∈ Ts, w.before args s = true) (hin : ∀ w ∈ wsX120, w ∈ Ts) (hown : s.vm.findClass RX12 = some m.cls) (hK : va_K D vwCl (zT ct) s) (hw : zPD D A (mW ct h0 y r q) H) (k : Nat) (hk : k < 57) (hlink : (Cond.fieldLink RX12 index RX12 (TX12 k).2.1 (TX12 k).2.2.1).before args s = true) (h1 : (TX12 k).1 = RX12) {v : Value} (hv : (mF y r q)[k]? = some v) (hdg : decode cc pc = .ok (.getfield index, 3))
    (kk : W p l e R s m args below meth c H locs cells slots Q (F0 m (pc + 3) ls (v :: rest))) : W p l e R s m args below meth c H locs cells slots Q (F0 m pc ls (.ref h0 :: rest)) :=
  va_get (D := D) (ci := 11) hx hb hts hin hown hK hw.1 0 mWo rfl k hk hlink (fun _ h9 => by rw [h1] at h9; exact h9) hv hdg kk
theorem mput (hx : p.tables.exec = Jvm.exec) (hb : c.code = cc) {index : Nat} {Ts : List Cond} (hts : ∀ w ∈ Ts, w.before args s = true) (hin : ∀ w ∈ wsX120, w ∈ Ts) (hown : s.vm.findClass RX12 = some m.cls) (hK : va_K D vwCl (zT ct) s) (hw : zPD D A (mW ct h0 y r q) H) (hS : va_S A s.heap H locs) (k : Nat) (hk : k < 57) (hlink : (Cond.fieldLink RX12 index RX12 (TX12 k).2.1 (TX12 k).2.2.1).before args s = true) (h1 : (TX12 k).1 = RX12) (hfin : (TX12 k).2.2.2 = false) {ty : FieldType} {v : Value} (hd : parseFieldDescriptor (TX12 k).2.2.1 = some ty) (hn : narrow ty v = v) (hfit : fits ty v = true) (hdg : decode cc pc = .ok (.putfield index, 3)) (r1 : zRr) (q1 : zRq) (hw2 : (mW ct h0 y r q).set 0 (h0, .inr (11, (mF y r q).set k v)) = mW ct h0 y r1 q1)
    (kk : ∀ (H1 : Heap) (locs1 : List Loc), zPD D A (mW ct h0 y r1 q1) H1 → va_S A s.heap H1 locs1 → W p l e R s m args below meth c H1 locs1 cells slots Q (F0 m (pc + 3) ls rest)) : W p l e R s m args below meth c H locs cells slots Q (F0 m pc ls (v :: .ref h0 :: rest)) :=
  zput (D := D) (ci := 11) hx hb hts hin tyX12 tyX12_ok nmX12 hown hK hw hS 0 mWo rfl k hk hlink (fun _ h9 => by rw [h1] at h9; exact h9) hfin hd hn hfit hk hdg _ hw2 kk
/-- an int field read -/
theorem miget {lo hi : Int} {x : Int32} (h : zI lo hi x) (k : ∀ v : Int32, zI lo hi v → W p l e R s m args below meth c H locs cells slots Q (F0 m pc ls (.int v :: rest))) : W p l e R s m args below meth c H locs cells slots Q (F0 m pc ls (.int x :: rest)) := k x h
theorem miald (hx : p.tables.exec = Jvm.exec) (hb : c.code = cc) (hK : va_K D vwCl (zT ct) s) (hw : zPD D A ws H) (q0 : Nat) {n : Nat} {f : Nat → Int32} (ha : ws[q0]? = some (a, .inl (ct 0, n, .inl f))) {i : Int32} {lo hi : Int} (h : zI lo hi i) (hk : 0 ≤ lo ∧ hi < (n : Int) ∧ n < 2147483648) (hdg : decode cc pc = .ok (.iaload, 1))
    (kk : W p l e R s m args below meth c H locs cells slots Q (F0 m (pc + 1) ls (.int (f (zn i)) :: rest))) : W p l e R s m args below meth c H locs cells slots Q (F0 m pc ls (.int i :: .ref a :: rest)) :=
  ziald hx hb hK hw q0 ha (zn i) (h.ix hk).1 (h.ix hk).2 hk.2.2 hdg kk
theorem mzald (hx : p.tables.exec = Jvm.exec) (hb : c.code = cc) (hK : va_K D vwCl (zT ct) s) (hw : zPD D A ws H) (q0 : Nat) {n : Nat} {f : Nat → Int32} (ha : ws[q0]? = some (a, .inl (ct 3, n, .inl f))) {i : Int32} {lo hi : Int} (h : zI lo hi i) (hk : 0 ≤ lo ∧ hi < (n : Int) ∧ n < 2147483648) (hdg : decode cc pc = .ok (.baload, 1))
    (kk : W p l e R s m args below meth c H locs cells slots Q (F0 m (pc + 1) ls (.int (f (zn i)) :: rest))) : W p l e R s m args below meth c H locs cells slots Q (F0 m pc ls (.int i :: .ref a :: rest)) :=
  zzald hx hb hK hw q0 ha (zn i) (h.ix hk).1 (h.ix hk).2 hk.2.2 hdg kk
theorem mlald (hx : p.tables.exec = Jvm.exec) (hb : c.code = cc) (hK : va_K D vwCl (zT ct) s) (hw : zPD D A ws H) (q0 : Nat) {n : Nat} {f : Nat → Int64} (ha : ws[q0]? = some (a, .inl (ct 1, n, .inr (.inl f)))) {i : Int32} {lo hi : Int} (h : zI lo hi i) (hk : 0 ≤ lo ∧ hi < (n : Int) ∧ n < 2147483648) (hdg : decode cc pc = .ok (.laload, 1))
    (kk : W p l e R s m args below meth c H locs cells slots Q (F0 m (pc + 1) ls (.long (f (zn i)) :: rest))) : W p l e R s m args below meth c H locs cells slots Q (F0 m pc ls (.int i :: .ref a :: rest)) :=
  zlald hx hb hK hw q0 ha (zn i) (h.ix hk).1 (h.ix hk).2 hk.2.2 hdg kk
theorem miast (hx : p.tables.exec = Jvm.exec) (hb : c.code = cc) (hK : va_K D vwCl (zT ct) s) (hw : zPD D A ws H) (hS : va_S A s.heap H locs) (q0 : Nat) {n : Nat} {f : Nat → Int32} (ha : ws[q0]? = some (a, .inl (ct 0, n, .inl f))) {i x : Int32} {lo hi : Int} (h : zI lo hi i) (hk : 0 ≤ lo ∧ hi < (n : Int) ∧ n < 2147483648) (hdg : decode cc pc = .ok (.iastore, 1)) (w2 : va_W) (hw2 : ws.set q0 (a, .inl (ct 0, n, .inl (upd f (zn i) x))) = w2)
    (kk : ∀ (H1 : Heap) (locs1 : List Loc), zPD D A w2 H1 → va_S A s.heap H1 locs1 → W p l e R s m args below meth c H1 locs1 cells slots Q (F0 m (pc + 1) ls rest)) : W p l e R s m args below meth c H locs cells slots Q (F0 m pc ls (.int x :: .int i :: .ref a :: rest)) :=
  ziast hx hb hK hw hS q0 ha (zn i) (h.ix hk).1 (h.ix hk).2 hk.2.2 hdg w2 hw2 kk
theorem mzast (hx : p.tables.exec = Jvm.exec) (hb : c.code = cc) (hK : va_K D vwCl (zT ct) s) (hw : zPD D A ws H) (hS : va_S A s.heap H locs) (q0 : Nat) {n : Nat} {f : Nat → Int32} (ha : ws[q0]? = some (a, .inl (ct 3, n, .inl f))) {i x : Int32} {lo hi : Int} (h : zI lo hi i) (hk : 0 ≤ lo ∧ hi < (n : Int) ∧ n < 2147483648) (hv : zI 0 1 x) (hdg : decode cc pc = .ok (.bastore, 1)) (w2 : va_W) (hw2 : ws.set q0 (a, .inl (ct 3, n, .inl (upd f (zn i) x))) = w2)
    (kk : ∀ (H1 : Heap) (locs1 : List Loc), zPD D A w2 H1 → va_S A s.heap H1 locs1 → W p l e R s m args below meth c H1 locs1 cells slots Q (F0 m (pc + 1) ls rest)) : W p l e R s m args below meth c H locs cells slots Q (F0 m pc ls (.int x :: .int i :: .ref a :: rest)) :=
  zzast hx hb hK hw hS q0 ha (zn i) (h.ix hk).1 (h.ix hk).2 hk.2.2 x hv.bn hdg w2 hw2 kk
theorem mlast (hx : p.tables.exec = Jvm.exec) (hb : c.code = cc) (hK : va_K D vwCl (zT ct) s) (hw : zPD D A ws H) (hS : va_S A s.heap H locs) (q0 : Nat) {n : Nat} {f : Nat → Int64} (ha : ws[q0]? = some (a, .inl (ct 1, n, .inr (.inl f)))) {i : Int32} {x : Int64} {lo hi : Int} (h : zI lo hi i) (hk : 0 ≤ lo ∧ hi < (n : Int) ∧ n < 2147483648) (hdg : decode cc pc = .ok (.lastore, 1)) (w2 : va_W) (hw2 : ws.set q0 (a, .inl (ct 1, n, .inr (.inl (vp_updL f (zn i) x)))) = w2)
    (kk : ∀ (H1 : Heap) (locs1 : List Loc), zPD D A w2 H1 → va_S A s.heap H1 locs1 → W p l e R s m args below meth c H1 locs1 cells slots Q (F0 m (pc + 1) ls rest)) : W p l e R s m args below meth c H locs cells slots Q (F0 m pc ls (.long x :: .int i :: .ref a :: rest)) :=
  zlast hx hb hK hw hS q0 ha (zn i) (h.ix hk).1 (h.ix hk).2 hk.2.2 hdg w2 hw2 kk
theorem mgen {P : zRr → Prop} {G : Prop} {r2 : zRr} (hw : zPD D A (mW ct h0 y r2 q) H) (hp : P r2) (k : ∀ r1 : zRr, r1 = r2 → zPD D A (mW ct h0 y r1 q) H → P r1 → G) : G := k r2 rfl hw hp
theorem mqgen {G : Prop} {q2 : zRq} (hw : zPD D A (mW ct h0 y r q2) H) (k : ∀ q1 : zRq, q1 = q2 → zPD D A (mW ct h0 y r q1) H → G) : G := k q2 rfl hw
end ZM
end ZG
theorem zI.m0 {a b hi N : Int} {v : Int32} (h : zI a b v) (k : hi - a < N) : hi - v.toInt < N := by have := h.1; omega
theorem zI.m1 {a b lo N : Int} {v : Int32} (h : zI a b v) (k : b - lo < N) : v.toInt - lo < N := by have := h.2; omega
theorem zI.no {a b hi : Int} {v : Int32} {G : Prop} (h : zI a b v) (k : b ≤ hi) (hm : hi - v.toInt < ((0 : Nat) : Int)) : G := absurd hm (by have := h.2; omega)
theorem zI.no1 {a b lo : Int} {v : Int32} {G : Prop} (h : zI a b v) (k : lo ≤ a) (hm : v.toInt - lo < ((0 : Nat) : Int)) : G := absurd hm (by have := h.1; omega)
theorem zI.nlt {x y : Int32} (h : ¬ x < y) : y ≤ x := by
  rw [Int32.le_iff_toInt_le]; rw [Int32.lt_iff_toInt_lt] at h; omega
theorem zI.nle {x y : Int32} (h : ¬ x ≤ y) : y < x := by
  rw [Int32.lt_iff_toInt_lt]; rw [Int32.le_iff_toInt_le] at h; omega
