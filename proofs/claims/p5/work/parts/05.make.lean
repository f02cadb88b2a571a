/-! ===== new cells; the rows of references; array copies: in the words of part 04 ===== -/
theorem zcls {cA cB : ClassId} {U : State} {ty : FieldType} (h : va_RA U cA ty) (h' : va_RA U cB ty) : cA = cB := by
  cases ty with
  | object C =>
    obtain ⟨_, _, -, -, -, h4⟩ := h
    obtain ⟨_, _, -, -, -, h4'⟩ := h'
    exact Option.some.inj (h4.symm.trans h4')
  | _ => exact Option.some.inj (Eq.trans (Eq.symm h) h')
section ZM
variable {p : Program} {l : Launch} {e : Env} {R : Room} {s : State} {m : MethodId} {args : Array Value} {below : List Frame} {meth : Method} {c : Code} {H : Heap} {locs : List Loc} {cells slots : Nat} {Q : State → Prop}
variable {cc : ByteArray} {pc : Nat} {ls : Array Slot} {rest st0 : List Value} {D : va_G} {ct : Nat → ClassId} {zs : List (String × Nat)} {A : Nat → Prop} {a : Nat} {ws w0 wr : va_W}
theorem znew (hexec : p.tables.exec = Jvm.exec) (hb : c.code = cc) {own C : String} {T : u_T} {N ci index : Nat} {Ts : List Cond} (hts : ∀ w ∈ Ts, w.before args s = true) (hin : ∀ w ∈ u_ws C T N, w ∈ Ts) (ty : Nat → FieldType) (hty : ∀ k, k < N → parseFieldDescriptor (T k).2.2.1 = some (ty k)) (hown : s.vm.findClass own = some m.cls) (hcl : (Cond.classLink own index C).before args s = true) (hinst : (Cond.instantiable C N).before args s = true) (hini : (Cond.initialized C).before args s = true)
    (hK : va_K D vwCl (zT ct) s) (hw : zPD D A ws H) (hS : va_S A s.heap H locs) (hA : ∀ q, s.heap.size ≤ q → A q) (hc : vwCl[ci]? = some (C, T, N)) (fs : List Value) (hfs : (List.range N).map (fun j => defaultValue (ty j)) = fs) (hcells : cells + 1 ≤ R.cells) (hslots : slots + N ≤ R.slots) (hdg : decode cc pc = .ok (.new index, 3))
    (kk : ∀ (q : Nat) (H1 : Heap), zPD D A (ws ++ [(q, .inr (ci, fs))]) H1 → va_S A s.heap H1 locs → W p l e R s m args below meth c H1 locs (cells + 1) (slots + N) Q (F0 m (pc + 3) ls (.ref q :: rest))) : W p l e R s m args below meth c H locs cells slots Q (F0 m pc ls rest) := by
  refine va_new hexec hb hts hin ty hty hown hcl hinst hini hK hw.1 hw.2 hS hA hc (fs := fs) (fun j hj => ?_) hcells hslots hdg (fun q H1 h1 h2 h3 => kk q H1 ⟨h1, h2⟩ h3)
  subst hfs
  simp [vp_V, hj]
theorem znewa (hexec : p.tables.exec = Jvm.exec) (hb : c.code = cc) {atype : ArrayType} (harr : (Cond.arrayClass (newarray.typeOf atype)).before args s = true) (t0 : Nat) {cA : ClassId} (ht : (zT ct)[t0]? = some (cA, newarray.typeOf atype)) (hK : va_K D vwCl (zT ct) s) (hw : zPD D A ws H) (hS : va_S A s.heap H locs) (hA : ∀ q, s.heap.size ≤ q → A q)
    {n : Int32} (N' : Nat) (a0 : vp_A) (ha : ∀ cA : ClassId, vp_cell cA a0 = arrV cA N' (fun _ => defaultValue (newarray.typeOf atype))) (hn : n = nI N') (hN : N' < 65536) (hcb : componentBytes (newarray.typeOf atype) ≤ 8) (hcells : cells + 1 ≤ R.cells) (hslots : slots + N' ≤ R.slots) (hdg : decode cc pc = .ok (.newarray atype, 2))
    (kk : ∀ (q : Nat) (H1 : Heap), zPD D A (ws ++ [(q, .inl (cA, a0))]) H1 → va_S A s.heap H1 locs → W p l e R s m args below meth c H1 locs (cells + 1) (slots + N') Q (F0 m (pc + 2) ls (.ref q :: rest))) : W p l e R s m args below meth c H locs cells slots Q (F0 m pc ls (.int n :: rest)) := by
  subst hn
  have hN2 : N' < 2 ^ 31 := Nat.lt_trans hN (by decide)
  refine va_newa hexec hb harr rfl hK hw.1 hw.2 hS hA ha (nI_pos hN2) (nI_clamp hN2) (Nat.le_trans (Nat.mul_le_mul (Nat.le_of_lt hN) hcb) (by decide)) hcells hslots hdg (fun q cB H1 hKn h1 h2 h3 => ?_)
  have e1 : cB = cA := zcls (hKn.2 (zT ct).length (cB, newarray.typeOf atype) (by simp)).2 (hK.2 t0 _ ht).2
  subst e1
  exact kk q H1 ⟨h1, h2⟩ h3
theorem znewq (hexec : p.tables.exec = Jvm.exec) (hb : c.code = cc) {own C : String} {index : Nat} (hown : s.vm.findClass own = some m.cls) (hclink : (Cond.classLink own index C).before args s = true) (hover : (Cond.arrayOver (.object C)).before args s = true) (t0 : Nat) {cA : ClassId} (ht : (zT ct)[t0]? = some (cA, .object C)) (hK : va_K D vwCl (zT ct) s) (hw : zPD D A ws H) (hS : va_S A s.heap H locs) (hA : ∀ q, s.heap.size ≤ q → A q)
    {n : Int32} (N' : Nat) (hn : n = nI N') (hN : N' < 65536) (hcells : cells + 1 ≤ R.cells) (hslots : slots + N' ≤ R.slots) (hdg : decode cc pc = .ok (.anewarray index, 3))
    (kk : ∀ (q : Nat) (H1 : Heap), zPD D A (ws ++ [(q, .inl (cA, N', .inr (.inr (.inr (.inr (fun _ => none))))))]) H1 → va_S A s.heap H1 locs → W p l e R s m args below meth c H1 locs (cells + 1) (slots + N') Q (F0 m (pc + 3) ls (.ref q :: rest))) : W p l e R s m args below meth c H locs cells slots Q (F0 m pc ls (.int n :: rest)) := by
  subst hn
  have hN2 : N' < 2 ^ 31 := Nat.lt_trans hN (by decide)
  refine va_newq hexec hb hown hclink (va_AO.of hover) hK hw.1 hw.2 hS hA (nI_pos hN2) (nI_clamp hN2) (by omega) hcells hslots hdg (fun q cB H1 hKn h1 h2 h3 => ?_)
  have e1 : cB = cA := zcls (hKn.2 (zT ct).length (cB, .object C) (by simp)).2 (hK.2 t0 _ ht).2
  subst e1
  exact kk q H1 ⟨h1, h2⟩ h3
theorem zcast (hexec : p.tables.exec = Jvm.exec) (hb : c.code = cc) (hK : va_K D vwCl (zT ct) s) (hw : zPD D A ws H) (hS : va_S A s.heap H locs) (q0 : Nat) {n : Nat} {f : Nat → Int32} (ha : ws[q0]? = some (a, .inl (ct 2, n, .inl f))) {i x : Int32} (k : Nat) (hi : i = nI k) (hk : k < n) (hn : n < 2 ^ 31) (x2 : Int32) (hx2 : vp_nar .char x = x2) (hdg : decode cc pc = .ok (.castore, 1)) (w2 : va_W) (hw2 : ws.set q0 (a, .inl (ct 2, n, .inl (upd f k x2))) = w2)
    (kk : ∀ (H1 : Heap) (locs1 : List Loc), zPD D A w2 H1 → va_S A s.heap H1 locs1 → W p l e R s m args below meth c H1 locs1 cells slots Q (F0 m (pc + 1) ls rest)) : W p l e R s m args below meth c H locs cells slots Q (F0 m pc ls (.int x :: .int i :: .ref a :: rest)) := by
  obtain ⟨h1, h2⟩ := zix hi hk hn
  subst hw2 hx2
  refine va_cast hexec hb hK hw.1 hw.2 hS q0 2 ha rfl h1 hdg ?_
  rw [h2]
  exact fun H1 l1 g1 g2 g3 => kk H1 l1 ⟨g1, g2⟩ g3
theorem zzast (hexec : p.tables.exec = Jvm.exec) (hb : c.code = cc) (hK : va_K D vwCl (zT ct) s) (hw : zPD D A ws H) (hS : va_S A s.heap H locs) (q0 : Nat) {n : Nat} {f : Nat → Int32} (ha : ws[q0]? = some (a, .inl (ct 3, n, .inl f))) {i x : Int32} (k : Nat) (hi : i = nI k) (hk : k < n) (hn : n < 2 ^ 31) (x2 : Int32) (hx2 : vp_nar .boolean x = x2) (hdg : decode cc pc = .ok (.bastore, 1)) (w2 : va_W) (hw2 : ws.set q0 (a, .inl (ct 3, n, .inl (upd f k x2))) = w2)
    (kk : ∀ (H1 : Heap) (locs1 : List Loc), zPD D A w2 H1 → va_S A s.heap H1 locs1 → W p l e R s m args below meth c H1 locs1 cells slots Q (F0 m (pc + 1) ls rest)) : W p l e R s m args below meth c H locs cells slots Q (F0 m pc ls (.int x :: .int i :: .ref a :: rest)) := by
  obtain ⟨h1, h2⟩ := zix hi hk hn
  subst hw2 hx2
  refine va_zast hexec hb hK hw.1 hw.2 hS q0 3 ha rfl h1 hdg ?_
  rw [h2]
  exact fun H1 l1 g1 g2 g3 => kk H1 l1 ⟨g1, g2⟩ g3
theorem zaald (hexec : p.tables.exec = Jvm.exec) (hb : c.code = cc) (hK : va_K D vwCl (zT ct) s) (hw : zPD D A ws H) (q0 t0 : Nat) {cA : ClassId} {C : String} {n : Nat} {f : Nat → Option Nat} (ha : ws[q0]? = some (a, .inl (cA, n, .inr (.inr (.inr (.inr f)))))) (ht : (zT ct)[t0]? = some (cA, .object C)) {i : Int32} (k : Nat) (hi : i = nI k) (hk : k < n) (hn : n < 2 ^ 31) (q : Nat) (hq : f k = some q) (hdg : decode cc pc = .ok (.aaload, 1))
    (kk : W p l e R s m args below meth c H locs cells slots Q (F0 m (pc + 1) ls (.ref q :: rest))) : W p l e R s m args below meth c H locs cells slots Q (F0 m pc ls (.int i :: .ref a :: rest)) := by
  obtain ⟨h1, h2⟩ := zix hi hk hn
  refine va_aldq hexec hb hK hw.1 q0 t0 ha ht h1 hdg ?_
  rw [h2, hq]; exact kk
theorem zaast (hexec : p.tables.exec = Jvm.exec) (hb : c.code = cc) (hK : va_K D vwCl (zT ct) s) (hw : zPD D A ws H) (hS : va_S A s.heap H locs) (q0 t0 qk ci : Nat) {cA : ClassId} {r : vw_C} {n v : Nat} {vs : List Value} {f : Nat → Option Nat} (ha : ws[q0]? = some (a, .inl (cA, n, .inr (.inr (.inr (.inr f)))))) (ht : (zT ct)[t0]? = some (cA, .object r.1)) (hv : ws[qk]? = some (v, .inr (ci, vs))) (hc : vwCl[ci]? = some r) {i : Int32} (k : Nat) (hi : i = nI k) (hk : k < n) (hn : n < 2 ^ 31) (hdg : decode cc pc = .ok (.aastore, 1)) (w2 : va_W) (hw2 : ws.set q0 (a, .inl (cA, n, .inr (.inr (.inr (.inr (va_up f k (some v))))))) = w2)
    (kk : ∀ (H1 : Heap) (locs1 : List Loc), zPD D A w2 H1 → va_S A s.heap H1 locs1 → W p l e R s m args below meth c H1 locs1 cells slots Q (F0 m (pc + 1) ls rest)) : W p l e R s m args below meth c H locs cells slots Q (F0 m pc ls (.ref v :: .int i :: .ref a :: rest)) := by
  obtain ⟨h1, h2⟩ := zix hi hk hn
  subst hw2
  refine va_astq hexec hb hK hw.1 hw.2 hS q0 t0 qk ci ha ht hv hc h1 hdg ?_
  rw [h2]
  exact fun H1 l1 g1 g2 g3 => kk H1 l1 ⟨g1, g2⟩ g3
theorem zcopyi (hexec : p.tables.exec = Jvm.exec) (hb : c.code = cc) (hml : c.maxLocals = ls.size) {own : String} {index : Nat} (hown : s.vm.findClass own = some m.cls) (hlink : (Cond.methodLink own index arraycopyName).before args s = true) (hnat : (Cond.native arraycopyName).before args s = true) (hstat : (Cond.static arraycopyName).before args s = true) (hini : (Cond.initialized "java/lang/System").before args s = true)
    (hK : va_K D vwCl (zT ct) s) (hw : zPD D A ws H) (hS : va_S A s.heap H locs) (q0 q1 : Nat) {a0 : Nat} {n0 n1 : Nat} {f g : Nat → Int32} (ha0 : ws[q0]? = some (a0, .inl (ct 0, n0, .inl f))) (ha1 : ws[q1]? = some (a, .inl (ct 0, n1, .inl g)))
    {sp dp n : Int32} (n' : Nat) (e1 : sp = 0) (e2 : dp = 0) (e3 : n = nI n') (h3 : n' < 2 ^ 31) (h4 : n' ≤ n0) (h5 : n' ≤ n1)
    (hframes : 1 ≤ R.frames) (hlocals : (rest.map fun v => v.category).sum + (nativeFrameWords "java/lang/System" "arraycopy" 5 + 11) ≤ R.locals) (hdg : decode cc pc = .ok (.invokestatic index, 3)) (w2 : va_W) (hw2 : ws.set q1 (a, .inl (ct 0, n1, .inl (va_cpy f g 0 0 n'))) = w2)
    (kk : ∀ (H1 : Heap) (locs1 : List Loc), zPD D A w2 H1 → va_S A s.heap H1 locs1 → W p l e R s m args below meth c H1 locs1 cells slots Q (F0 m (pc + 3) ls rest)) : W p l e R s m args below meth c H locs cells slots Q (F0 m pc ls (.int n :: .int dp :: .ref a :: .int sp :: .ref a0 :: rest)) := by
  subst e1 e2 e3 hw2
  have z0 : (0 : Int32).toNatClampNeg = 0 := by decide
  refine va_copyi hexec hb hml hown hlink hnat hstat hini hK hw.1 hw.2 hS q0 q1 0 0 ha0 ha1 rfl rfl rfl (by decide) (by decide) (nI_pos h3) (by rw [z0, nI_clamp h3]; omega) (by rw [z0, nI_clamp h3]; omega) (fun _ _ => rfl) hframes hlocals hdg ?_
  rw [z0, nI_clamp h3]
  exact fun H1 l1 g1 g2 g3 => kk H1 l1 ⟨g1, g2⟩ g3
theorem zcopyl (hexec : p.tables.exec = Jvm.exec) (hb : c.code = cc) (hml : c.maxLocals = ls.size) {own : String} {index : Nat} (hown : s.vm.findClass own = some m.cls) (hlink : (Cond.methodLink own index arraycopyName).before args s = true) (hnat : (Cond.native arraycopyName).before args s = true) (hstat : (Cond.static arraycopyName).before args s = true) (hini : (Cond.initialized "java/lang/System").before args s = true)
    (hK : va_K D vwCl (zT ct) s) (hw : zPD D A ws H) (hS : va_S A s.heap H locs) (q0 q1 : Nat) {a0 : Nat} {n0 n1 : Nat} {f g : Nat → Int64} (ha0 : ws[q0]? = some (a0, .inl (ct 1, n0, .inr (.inl f)))) (ha1 : ws[q1]? = some (a, .inl (ct 1, n1, .inr (.inl g))))
    {sp dp n : Int32} (n' : Nat) (e1 : sp = 0) (e2 : dp = 0) (e3 : n = nI n') (h3 : n' < 2 ^ 31) (h4 : n' ≤ n0) (h5 : n' ≤ n1)
    (hframes : 1 ≤ R.frames) (hlocals : (rest.map fun v => v.category).sum + (nativeFrameWords "java/lang/System" "arraycopy" 5 + 11) ≤ R.locals) (hdg : decode cc pc = .ok (.invokestatic index, 3)) (w2 : va_W) (hw2 : ws.set q1 (a, .inl (ct 1, n1, .inr (.inl (va_cpy f g 0 0 n')))) = w2)
    (kk : ∀ (H1 : Heap) (locs1 : List Loc), zPD D A w2 H1 → va_S A s.heap H1 locs1 → W p l e R s m args below meth c H1 locs1 cells slots Q (F0 m (pc + 3) ls rest)) : W p l e R s m args below meth c H locs cells slots Q (F0 m pc ls (.int n :: .int dp :: .ref a :: .int sp :: .ref a0 :: rest)) := by
  subst e1 e2 e3 hw2
  have z0 : (0 : Int32).toNatClampNeg = 0 := by decide
  refine va_copyl hexec hb hml hown hlink hnat hstat hini hK hw.1 hw.2 hS q0 q1 1 1 ha0 ha1 rfl rfl rfl (by decide) (by decide) (nI_pos h3) (by rw [z0, nI_clamp h3]; omega) (by rw [z0, nI_clamp h3]; omega) (fun _ _ => rfl) hframes hlocals hdg ?_
  rw [z0, nI_clamp h3]
  exact fun H1 l1 g1 g2 g3 => kk H1 l1 ⟨g1, g2⟩ g3
/-- a loop with a counter: K i x is 'at its head, in the i-th round' -/
abbrev zK (p : Program) (l : Launch) (e : Env) (R : Room) (s : State) (m : MethodId) (args : Array Value) (below : List Frame) (meth : Method) (c : Code) (Q : State → Prop) (D : va_G) (A : Nat → Prop) (pc nL : Nat) (st : List Value) {σ : Type} (Wd : Nat → σ → va_W) (Lc : Nat → σ → List (Nat × Value)) (nc ns : Nat → Nat) (i : Nat) (x : σ) : Prop :=
  ∀ (H : Heap) (locs : List Loc) (ls : Array Slot), zPD D A (Wd i x) H → va_S A s.heap H locs → lv_has ls nL (Lc i x) → W p l e R s m args below meth c H locs (nc i) (ns i) Q (F0 m pc ls st)
theorem zloop {σ : Type} (I : Nat → σ → Prop) (Wd : Nat → σ → va_W) (Lc : Nat → σ → List (Nat × Value)) (nc ns : Nat → Nat) {nL : Nat} {st : List Value} (N : Nat)
    (hx : ∀ x, I N x → zK p l e R s m args below meth c Q D A pc nL st Wd Lc nc ns N x)
    (hs : ∀ i x, i < N → I i x → (∀ x', I (i + 1) x' → zK p l e R s m args below meth c Q D A pc nL st Wd Lc nc ns (i + 1) x') → zK p l e R s m args below meth c Q D A pc nL st Wd Lc nc ns i x)
    (i0 : Nat) (x0 : σ) (h0 : i0 ≤ N) (hI : I i0 x0) : zK p l e R s m args below meth c Q D A pc nL st Wd Lc nc ns i0 x0 := by
  have key : ∀ (n i : Nat) (x : σ), i + n = N → I i x → zK p l e R s m args below meth c Q D A pc nL st Wd Lc nc ns i x := by
    intro n
    induction n with
    | zero => intro i x h hi; cases (Nat.add_zero i ▸ h); exact hx x hi
    | succ n ih => intro i x h hi; exact hs i x (by omega) hi (fun x' hi' => ih (i + 1) x' (by omega) hi')
  exact key (N - i0) i0 x0 (by omega) hI
end ZM
theorem zcong {D : va_G} {A : Nat → Prop} {w w' : va_W} {H : Heap} (h : w = w') (hw : zPD D A w H) : zPD D A w' H := h ▸ hw
theorem zsw {x : Int32} {lo hi : Int} {k : Nat} (h0 : lo + (k : Int) = hi + 1) (hb : 0 ≤ lo ∧ hi < 100000) (h : ¬ (x.toInt < lo ∨ hi < x.toInt)) : ∃ j : Nat, j < k ∧ x = nI (lo.toNat + j) := by
  have h1 : lo ≤ x.toInt := by omega
  have h2 : x.toInt ≤ hi := by omega
  refine ⟨(x.toInt - lo).toNat, by omega, ?_⟩
  apply Int32.toInt_inj.mp
  rw [nI_toInt (by omega)]
  omega
