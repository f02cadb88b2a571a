section
/-! ===== the throw of NoSuchElementException(String): its constructor calls its super's by entry 13 (so the kit's row for entry 7 doesn't serve); the proof follows the library's own law for entry 7, word by word where it can ===== -/
noncomputable def zsix : ByteArray := ⟨#[0x2a, 0x2b, 0xb7, 0x00, 0x0d, 0xb1]⟩
theorem zsix_0 : decode zsix 0 = .ok (.aload_n 0, 1) := by decide +kernel
theorem zsix_1 : decode zsix 1 = .ok (.aload_n 1, 1) := by decide +kernel
theorem zsix_2 : decode zsix 2 = .ok (.invokespecial 13, 3) := by decide +kernel
theorem zsix_5 : decode zsix 5 = .ok (.return_, 1) := by decide +kernel
noncomputable def zTail : List Cond := [.methodLink RX11 332 (Bundle.initS "java/util/NoSuchElementException"), .instantiable "java/util/NoSuchElementException" 6, .selects "java/util/NoSuchElementException" Bundle.tFill0 Bundle.tFill0, .selects "java/util/NoSuchElementException" Bundle.tFill Bundle.tFill, .lays "java/util/NoSuchElementException" Bundle.tN "cause" "Ljava/lang/Throwable;", .lays "java/util/NoSuchElementException" Bundle.tN "stackTrace" Bundle.steD, .lays "java/util/NoSuchElementException" Bundle.tN "suppressedExceptions" Bundle.listD, .lays "java/util/NoSuchElementException" Bundle.tN "detailMessage" "Ljava/lang/String;", .fieldLink Bundle.tN 198 Bundle.tN "backtrace" "Ljava/lang/Object;", .lays Bundle.tN Bundle.tN "backtrace" "Ljava/lang/Object;", .lays "java/util/NoSuchElementException" Bundle.tN "backtrace" "Ljava/lang/Object;"]
noncomputable def zOwn : List Cond := Bundle.throwableAtoms ++ (Bundle.throwableSAtoms ++ (Bundle.passSAtoms "java/util/NoSuchElementException" "java/lang/RuntimeException" 13 zsix ++ (Bundle.chainSAtoms "java/lang/RuntimeException" ["java/lang/Exception"] ++ zTail)))
/-- the words of it that a method's list may hold -/
noncomputable def zAt : List Cond := [.initialized Bundle.tN, .superclass Bundle.tN "java/lang/Object", .instanceMethod Bundle.tFill, .codeSync Bundle.tFill LibCode.Throwable.Fill.code 1 (some (.object Bundle.tN)), .instanceMethod Bundle.tFill0, .native Bundle.tFill0, .instanceMethod Bundle.tInit0, .code Bundle.tInit0 LibCode.Throwable.Init0.code 1 none, .instanceMethod Bundle.oInit, .code Bundle.oInit ⟨#[0xb1]⟩ 1 none, .methodLink Bundle.tN 1 Bundle.oInit, .methodLink Bundle.tN 27 Bundle.tFill, .methodLink Bundle.tN 202 Bundle.tFill0, .fieldLink Bundle.tN 7 Bundle.tN "cause" "Ljava/lang/Throwable;", .lays Bundle.tN Bundle.tN "cause" "Ljava/lang/Throwable;", .fieldLink Bundle.tN 17 Bundle.tN "stackTrace" Bundle.steD, .lays Bundle.tN Bundle.tN "stackTrace" Bundle.steD, .fieldLink Bundle.tN 24 Bundle.tN "suppressedExceptions" Bundle.listD, .lays Bundle.tN Bundle.tN "suppressedExceptions" Bundle.listD, .fieldLink Bundle.tN 13 Bundle.tN "UNASSIGNED_STACK" Bundle.steD, .fieldLink Bundle.tN 20 Bundle.tN "SUPPRESSED_SENTINEL" Bundle.listD, .lays Bundle.tN Bundle.tN "detailMessage" "Ljava/lang/String;", .instanceMethod (Bundle.initS Bundle.tN), .code (Bundle.initS Bundle.tN) LibCode.Throwable.InitS.code 2 none, .fieldLink Bundle.tN 31 Bundle.tN "detailMessage" "Ljava/lang/String;", .instanceMethod (Bundle.initS "java/util/NoSuchElementException"), .code (Bundle.initS "java/util/NoSuchElementException") zsix 2 none, .methodLink "java/util/NoSuchElementException" 13 (Bundle.initS "java/lang/RuntimeException"), .instanceMethod (Bundle.initS "java/lang/RuntimeException"), .code (Bundle.initS "java/lang/RuntimeException") Bundle.six 2 none, .methodLink "java/lang/RuntimeException" 7 (Bundle.initS "java/lang/Exception"), .instanceMethod (Bundle.initS "java/lang/Exception"), .code (Bundle.initS "java/lang/Exception") Bundle.six 2 none, .methodLink "java/lang/Exception" 7 (Bundle.initS Bundle.tN), .methodLink RX11 332 (Bundle.initS "java/util/NoSuchElementException"), .instantiable "java/util/NoSuchElementException" 6, .selects "java/util/NoSuchElementException" Bundle.tFill0 Bundle.tFill0, .selects "java/util/NoSuchElementException" Bundle.tFill Bundle.tFill, .lays "java/util/NoSuchElementException" Bundle.tN "cause" "Ljava/lang/Throwable;", .lays "java/util/NoSuchElementException" Bundle.tN "stackTrace" Bundle.steD, .lays "java/util/NoSuchElementException" Bundle.tN "suppressedExceptions" Bundle.listD, .lays "java/util/NoSuchElementException" Bundle.tN "detailMessage" "Ljava/lang/String;", .lays "java/util/NoSuchElementException" Bundle.tN "backtrace" "Ljava/lang/Object;", .fieldLink Bundle.tN 198 Bundle.tN "backtrace" "Ljava/lang/Object;", .lays Bundle.tN Bundle.tN "backtrace" "Ljava/lang/Object;"]
theorem zAt_good : ∀ w ∈ zAt, goodWord w = true := List.all_eq_true.mp (by decide +kernel)
theorem zdecl {x : MethodName} {b : ByteArray} {n : Nat} {r : Option FieldType} {args : Array Value} {s : State} (h1 : (Cond.instanceMethod x).before args s = true) (h2 : (Cond.code x b n r).before args s = true) : (Cond.declares x).before args s = true := by
  obtain ⟨m, meth, hn, hm, hst, hab⟩ := Cond.instanceMethod_spec h1
  obtain ⟨meth', cO, hm', -, -, -, -, -, -, hsig⟩ := Cond.code_spec hn h2
  cases Option.some.inj (hm.symm.trans hm')
  show (Cond.declares x).holds args s none s [] = true
  simp [Cond.holds, Cond.value, hn, hm, hst, hsig]
theorem zcastR {C : String} {cid : ClassId} {args : Array Value} {s : State} (h : s.vm.findClass C = some cid) : (Cond.castable C C).before args s = true := by
  show (Cond.castable C C).holds args s none s [] = true
  have ha : s.vm.assignable cid cid = true := by
    show s.vm.assignableAux (255 + 1) cid cid = true
    rw [Vm.assignableAux.eq_2, beq_self_eq_true, Bool.true_or]
  simp [Cond.holds, Cond.value, h, ha]
theorem zfc {P : Cond → Prop} {w : Cond} {a : List Cond} (h : P w) (ha : ∀ w ∈ a, P w) : ∀ w9 ∈ w :: a, P w9 := List.forall_mem_cons.mpr ⟨h, ha⟩
theorem zfa {P : Cond → Prop} {a b : List Cond} (ha : ∀ w ∈ a, P w) (hb : ∀ w ∈ b, P w) : ∀ w ∈ a ++ b, P w := fun w h => (List.mem_append.mp h).elim (ha w) (hb w)
theorem zfn {P : Cond → Prop} : ∀ w ∈ ([] : List Cond), P w := fun _ h => nomatch h
theorem zq {w : Cond} (i : Nat) (h : zAt[i]? = some w) : w ∈ zAt := List.mem_of_getElem? h
set_option maxRecDepth 20000 in
theorem zAt_own {args : Array Value} {s : State} (h : ∀ w ∈ zAt, w.before args s = true)
    (lU : (Cond.laysStatic Bundle.tN "UNASSIGNED_STACK" Bundle.steD).before args s = true) (lN : (Cond.laysStatic Bundle.tN "SUPPRESSED_SENTINEL" Bundle.listD).before args s = true) : ∀ w ∈ zOwn, w.before args s = true :=
  zfa (P := fun w => w.before args s = true) (show ∀ w ∈ Bundle.throwableAtoms, w.before args s = true from (zfc (P := fun w => w.before args s = true) (h _ (zq 0 rfl)) (zfc (P := fun w => w.before args s = true) (h _ (zq 1 rfl)) (zfc (P := fun w => w.before args s = true) (h _ (zq 2 rfl)) (zfc (P := fun w => w.before args s = true) (h _ (zq 3 rfl)) (zfc (P := fun w => w.before args s = true) (h _ (zq 4 rfl)) (zfc (P := fun w => w.before args s = true) (h _ (zq 5 rfl)) (zfc (P := fun w => w.before args s = true) (h _ (zq 6 rfl)) (zfc (P := fun w => w.before args s = true) (h _ (zq 7 rfl)) (zfc (P := fun w => w.before args s = true) (h _ (zq 8 rfl)) (zfc (P := fun w => w.before args s = true) (h _ (zq 9 rfl)) (zfc (P := fun w => w.before args s = true) (h _ (zq 10 rfl)) (zfc (P := fun w => w.before args s = true) (h _ (zq 11 rfl)) (zfc (P := fun w => w.before args s = true) (h _ (zq 12 rfl)) (zfc (P := fun w => w.before args s = true) (h _ (zq 13 rfl)) (zfc (P := fun w => w.before args s = true) (h _ (zq 14 rfl)) (zfc (P := fun w => w.before args s = true) (h _ (zq 15 rfl)) (zfc (P := fun w => w.before args s = true) (h _ (zq 16 rfl)) (zfc (P := fun w => w.before args s = true) (h _ (zq 17 rfl)) (zfc (P := fun w => w.before args s = true) (h _ (zq 18 rfl)) (zfc (P := fun w => w.before args s = true) (h _ (zq 19 rfl)) (zfc (P := fun w => w.before args s = true) lU (zfc (P := fun w => w.before args s = true) (h _ (zq 20 rfl)) (zfc (P := fun w => w.before args s = true) lN (zfc (P := fun w => w.before args s = true) (h _ (zq 21 rfl)) zfn))))))))))))))))))))))))) (zfa (P := fun w => w.before args s = true) (show ∀ w ∈ Bundle.throwableSAtoms, w.before args s = true from (zfc (P := fun w => w.before args s = true) (h _ (zq 22 rfl)) (zfc (P := fun w => w.before args s = true) (h _ (zq 23 rfl)) (zfc (P := fun w => w.before args s = true) (h _ (zq 24 rfl)) (zfc (P := fun w => w.before args s = true) (h _ (zq 21 rfl)) zfn))))) (zfa (P := fun w => w.before args s = true) (show ∀ w ∈ Bundle.passSAtoms "java/util/NoSuchElementException" "java/lang/RuntimeException" 13 zsix, w.before args s = true from (zfc (P := fun w => w.before args s = true) (h _ (zq 25 rfl)) (zfc (P := fun w => w.before args s = true) (h _ (zq 26 rfl)) (zfc (P := fun w => w.before args s = true) (h _ (zq 27 rfl)) (zfc (P := fun w => w.before args s = true) (h _ (zq 28 rfl)) (zfc (P := fun w => w.before args s = true) (zdecl (h _ (zq 28 rfl)) (h _ (zq 29 rfl))) zfn)))))) (zfa (P := fun w => w.before args s = true) (show ∀ w ∈ Bundle.passSAtoms "java/lang/RuntimeException" "java/lang/Exception" 7 Bundle.six ++ Bundle.passSAtoms "java/lang/Exception" Bundle.tN 7 Bundle.six, w.before args s = true from zfa (P := fun w => w.before args s = true) (zfc (P := fun w => w.before args s = true) (h _ (zq 28 rfl)) (zfc (P := fun w => w.before args s = true) (h _ (zq 29 rfl)) (zfc (P := fun w => w.before args s = true) (h _ (zq 30 rfl)) (zfc (P := fun w => w.before args s = true) (h _ (zq 31 rfl)) (zfc (P := fun w => w.before args s = true) (zdecl (h _ (zq 31 rfl)) (h _ (zq 32 rfl))) zfn))))) (zfc (P := fun w => w.before args s = true) (h _ (zq 31 rfl)) (zfc (P := fun w => w.before args s = true) (h _ (zq 32 rfl)) (zfc (P := fun w => w.before args s = true) (h _ (zq 33 rfl)) (zfc (P := fun w => w.before args s = true) (h _ (zq 22 rfl)) (zfc (P := fun w => w.before args s = true) (zdecl (h _ (zq 22 rfl)) (h _ (zq 23 rfl))) zfn)))))) (show ∀ w ∈ zTail, w.before args s = true from (zfc (P := fun w => w.before args s = true) (h _ (zq 34 rfl)) (zfc (P := fun w => w.before args s = true) (h _ (zq 35 rfl)) (zfc (P := fun w => w.before args s = true) (h _ (zq 36 rfl)) (zfc (P := fun w => w.before args s = true) (h _ (zq 37 rfl)) (zfc (P := fun w => w.before args s = true) (h _ (zq 38 rfl)) (zfc (P := fun w => w.before args s = true) (h _ (zq 39 rfl)) (zfc (P := fun w => w.before args s = true) (h _ (zq 40 rfl)) (zfc (P := fun w => w.before args s = true) (h _ (zq 41 rfl)) (zfc (P := fun w => w.before args s = true) (h _ (zq 43 rfl)) (zfc (P := fun w => w.before args s = true) (h _ (zq 44 rfl)) (zfc (P := fun w => w.before args s = true) (h _ (zq 42 rfl)) zfn)))))))))))))))
section ZTH
variable {p : Program} {l : Launch} {e : Env} {R : Room} {s : State} {m : MethodId} {args : Array Value} {below : List Frame} {meth : Method} {c : Code} {V : State} {locs : List Loc} {cells slots : Nat}
theorem zT1 {w : Cond} (h : w ∈ Bundle.throwableAtoms) : w ∈ zOwn := List.mem_append_left _ h
theorem zT2 {w : Cond} (h : w ∈ Bundle.throwableSAtoms) : w ∈ zOwn := List.mem_append_right _ (List.mem_append_left _ h)
theorem zT3 {w : Cond} (h : w ∈ Bundle.passSAtoms "java/util/NoSuchElementException" "java/lang/RuntimeException" 13 zsix) : w ∈ zOwn := List.mem_append_right _ (List.mem_append_right _ (List.mem_append_left _ h))
theorem zT4 {w : Cond} (h : w ∈ Bundle.chainSAtoms "java/lang/RuntimeException" ["java/lang/Exception"]) : w ∈ zOwn := List.mem_append_right _ (List.mem_append_right _ (List.mem_append_right _ (List.mem_append_left _ h)))
theorem zT5 {w : Cond} (h : w ∈ zTail) : w ∈ zOwn := List.mem_append_right _ (List.mem_append_right _ (List.mem_append_right _ (List.mem_append_right _ h)))
set_option maxHeartbeats 1000000 in
theorem zctor (X : Stand p l e R s m args below meth c V locs cells slots) (hexec : p.tables.exec = Jvm.exec) (htr : e.platform.stackTraces = false)
    (hown : s.vm.findClass RX11 = some m.cls) (h : ∀ w ∈ zOwn, w.before args s = true)
    (hU0 : (Cond.isRef (.static Bundle.tN "UNASSIGNED_STACK" Bundle.steD)).before args s = true) (hN0 : (Cond.isRef (.static Bundle.tN "SUPPRESSED_SENTINEL" Bundle.listD)).before args s = true)
    (hUS : ∀ cell, (∃ x ∈ locs, s.heap[x.base]? = some cell) → cell.vm.isStatics = false)
    {a : Addr} {cX : ClassId} {kX : Class} (hfX : s.vm.findClass "java/util/NoSuchElementException" = some cX) (hkX : s.vm.classes[cX]? = some kX) (hcell : V.heap[a]? = some (freshCell cX kX)) (hnew : s.heap.size ≤ a)
    {msg : Value} (hmsg : msg.isRef = true)
    {g : JFrame} (hg : g.method = m) (hsize : g.locals.size = c.maxLocals) (hlocked : g.locked = none) (hentered : g.entered = []) {rest : List Value} (hstack : g.stack = msg :: .ref a :: .ref a :: rest)
    (d0 : decode c.code g.pc = .ok (.invokespecial 332, 3)) (d3 : decode c.code (g.pc + 3) = .ok (.athrow, 1)) (hout : ∀ x ∈ c.exceptionTable.toList, covers x (g.pc + 3) = false)
    (hF : 5 < R.frames) (hL9 : 2 * g.monitorRoom + ((Value.ref a :: rest).map fun v => v.category).sum + 81 ≤ R.locals) (hlocks : meth.locks = false) :
    ∃ U : State, Steps p.tables e below (V.setTop g) U ∧ U.status = .running ∧ Ended U below (.threw a) ∧ s.WarmedH U.vm ∧ s.sameButNew ({ U with vm := s.vm } : State) locs cells slots ∧
      ∃ ce, U.heap[a]? = some ce ∧ ce.vm = .none ∧ s.vm.findClass "java/util/NoSuchElementException" = some ce.cls := by
  have ho : e.platform.frameOwnsMonitors = true := by rw [X.admits.platform]
  have hz : e.platform.finalization = false := by rw [X.admits.platform]
  have hp : e.platform.magicAccessors = ({} : Platform).magicAccessors := by rw [X.admits.platform]
  have ht : ∀ w ∈ zTail, w.holds args s none s [] = true := fun w hw => h w (zT5 hw)
  obtain ⟨T, Z0, L, -, Y⟩ := ThrowableC.of_atoms (args := args) ho hz hp (fun x hx => h x (zT1 hx))
  obtain ⟨Z, M, LZ, LM, hnZ⟩ := Init0T.ofS_atoms (args := args) hp L Y (fun x hx => h x (zT2 hx))
  obtain ⟨P1, L1, n1, s1⟩ := PassC.ofS_atoms (args := args) (s := s) hp (X := "java/util/NoSuchElementException") (Y := "java/lang/RuntimeException") (by decide) (by decide) zsix_0 zsix_1 zsix_2 zsix_5 (fun x hx => h x (zT3 hx))
  obtain ⟨P2, Ps, hlen, L2, hLs, n2, k2, kk⟩ := Bundle.chainS (args := args) hp hnZ ["java/lang/Exception"] "java/lang/RuntimeException" (by decide) (by decide) (fun x hx => h x (zT4 hx))
  have hlen : Ps.length = 1 := hlen
  have hlink : PassesOn (Z.m T.toThrowableT) ((P1 :: P2 :: Ps).map (·.toPassT)) := ⟨Option.some.inj (s1.symm.trans n2), k2, kk⟩
  have hLink : ∀ P, P ∈ P1 :: P2 :: Ps → P.LinksS e.platform s := fun P hP => by
    rcases List.mem_cons.mp hP with rfl | hP
    · exact L1
    · rcases List.mem_cons.mp hP with rfl | hP
      · exact L2
      · exact hLs P hP
  have hf : s.vm.findClass "java/util/NoSuchElementException" = some P1.m.cls := findClass_of_methodNamed n1
  cases Option.some.inj (hfX.symm.trans hf)
  obtain ⟨c1, k', hc1, hk, hord, -, -, hn6⟩ := Cond.instantiable_spec (ht (.instantiable "java/util/NoSuchElementException" 6) (by simp [zTail]))
  cases Option.some.inj (hc1.symm.trans hf)
  cases Option.some.inj (hkX.symm.trans hk)
  have sel0 : selectMethod e.platform s.vm P1.m.cls T.fill0 = .method T.fill0 := by
    obtain ⟨c2, r2, m2, q1, q2, q3, q4, -⟩ := Cond.selects_spec (ht (.selects "java/util/NoSuchElementException" Bundle.tFill0 Bundle.tFill0) (by simp [zTail]))
    cases Option.some.inj (q1.symm.trans hf)
    cases Option.some.inj (q2.symm.trans (State.methodFound?_of_named Y.fill0 (by decide)))
    cases Option.some.inj (q3.symm.trans Y.fill0)
    rw [Launch.admits_selectMethod X.admits]; exact q4
  have selF : selectMethod e.platform s.vm P1.m.cls T.fill = .method T.fill := by
    obtain ⟨c2, r2, m2, q1, q2, q3, q4, -⟩ := Cond.selects_spec (ht (.selects "java/util/NoSuchElementException" Bundle.tFill Bundle.tFill) (by simp [zTail]))
    cases Option.some.inj (q1.symm.trans hf)
    cases Option.some.inj (q2.symm.trans (State.methodFound?_of_named Y.fill (by decide)))
    cases Option.some.inj (q3.symm.trans Y.fill)
    rw [Launch.admits_selectMethod X.admits]; exact q4
  obtain ⟨cS, hcS, hiss⟩ := Y.statics
  obtain ⟨u0, hu0⟩ := Cond.staticRefV Y.unassigned L.unassignedStatic L.statics hcS hiss hU0
  obtain ⟨sen, hsen⟩ := Cond.staticRefV Y.sentinel L.sentinelStatic L.statics hcS hiss hN0
  obtain ⟨ci9, i9, fB, hk9, hg9, ha9, hsB, -, hnB, htB, hfB⟩ := Cond.ownField (t := .object "java/lang/Object") Y.found L.cls (by decide +kernel) (ht (.fieldLink Bundle.tN 198 Bundle.tN "backtrace" "Ljava/lang/Object;") (by simp [zTail])) (ht (.lays Bundle.tN Bundle.tN "backtrace" "Ljava/lang/Object;") (by simp [zTail])) e.platform hp
  obtain ⟨cV, hcV, heV, -, hkeep⟩ := X.same.2.2.2.2.2 T.aS cS hcS
  have hcV : V.heap[T.aS]? = some cV := hcV
  have hfar : ∀ i, (⟨T.aS, i⟩ : Loc) ∉ locs := fun i hm => by
    have := hUS cS ⟨_, hm, hcS⟩
    rw [hiss] at this; cases this
  have hknown : cV.vm ≠ .unknown := by
    rw [heV]; intro hu
    rw [show cS.vm = .unknown from hu] at hiss
    cases hiss
  have hne : T.aS ≠ a := Nat.ne_of_lt (Nat.lt_of_lt_of_le (Array.getElem?_eq_some_iff.mp hcS).1 hnew)
  obtain ⟨iM, hfM⟩ := Y.msg
  obtain ⟨tC, dC, hdC, hnC⟩ := Cond.laysAt hf hk Y.cause (ht (.lays "java/util/NoSuchElementException" Bundle.tN "cause" "Ljava/lang/Throwable;") (by simp [zTail]))
  obtain ⟨tS, dS, hdS, hnS⟩ := Cond.laysAt hf hk Y.stack (ht (.lays "java/util/NoSuchElementException" Bundle.tN "stackTrace" Bundle.steD) (by simp [zTail]))
  obtain ⟨tP, dP, hdP, hnP⟩ := Cond.laysAt hf hk Y.supp (ht (.lays "java/util/NoSuchElementException" Bundle.tN "suppressedExceptions" Bundle.listD) (by simp [zTail]))
  obtain ⟨tM, dM, hdM, hnM⟩ := Cond.laysAt hf hk hfM (ht (.lays "java/util/NoSuchElementException" Bundle.tN "detailMessage" "Ljava/lang/String;") (by simp [zTail]))
  obtain ⟨tB, dB, hdB, hnB'⟩ := Cond.laysAt hf hk hfB (ht (.lays "java/util/NoSuchElementException" Bundle.tN "backtrace" "Ljava/lang/Object;") (by simp [zTail]))
  have bC := Cond.laysApart hdB hdC hnB' hnC (by rw [hnB, Y.causeName]; decide)
  have bS := Cond.laysApart hdB hdS hnB' hnS (by rw [hnB, Y.stackName]; decide)
  have bP := Cond.laysApart hdB hdP hnB' hnP (by rw [hnB, Y.suppName]; decide)
  have hskip : SkipFacts T e.platform s (fun u => u) u0 ((preparedCellV T.toThrowableT (freshCell P1.m.cls kX) a u0 sen).withEntry V.cur) :=
    ⟨{ ci198 := ci9, i198 := i9, fBack := fB }, ⟨hk9, hg9, ha9, hsB⟩, by
      have := fresh_default (c := P1.m.cls) tB
      rw [htB] at this
      simpa [preparedCellV, Cell.setSlot, Cell.withEntry, Array.getElem?_setIfInBounds, bC, bS, bP, bC.symm, bS.symm, bP.symm, defaultValue] using this, fun _ _ => rfl⟩
  obtain ⟨tm, mC, cdC, kC, vm1, hnm, -, -, -, -, -, -, -, hW1, st1⟩ := Steps.initColdS (tb := p.tables) (e := e) (below := below) (s := s) (U := V) X.here hexec X.warmed hp hown (t := Bundle.initS "java/util/NoSuchElementException") rfl rfl (by decide)
    (ht (.methodLink RX11 332 (Bundle.initS "java/util/NoSuchElementException")) (by simp [zTail])) (h (.instanceMethod (Bundle.initS "java/util/NoSuchElementException")) (zT3 (by simp [Bundle.passSAtoms]))) (bytes := zsix) (maxL := 2) (h (.code (Bundle.initS "java/util/NoSuchElementException") zsix 2 none) (zT3 (by simp [Bundle.passSAtoms])))
    (f := g) hg (a := a) (msg := msg) (rest := .ref a :: rest) hstack d0
  cases Option.some.inj (hnm.symm.trans n1)
  obtain ⟨vm2, X2, st2⟩ := (X.noted hW1).ctorMessageOffV hexec (g := { g with stack := .ref a :: rest }) hg hsize T L Z LZ M LM (P1 :: P2 :: Ps)
    hLink hlink (u0 := u0) (sen := sen) (self := a) hmsg (cell := freshCell P1.m.cls kX) (cellS := cV)
    hcell (fun _ => by simp) (by simp) rfl rfl sel0 selF hcV hne hknown (by rw [hkeep _ (hfar _)]; exact hu0) (by rw [hkeep _ (hfar _)]; exact hsen)
    (Takes.of_laid hk hord tC (by rw [Y.causeType]; rfl)) (Takes.of_laid hk hord tS (by rw [Y.stackType]; exact fits_refV_array _ u0)) (Takes.of_laid hk hord tP (by rw [Y.suppType]; exact fits_refV_object _ sen))
    (Takes.of_laid hk hord tM (by rw [Y.msgType]; exact fits_refV_object _ ⟨msg, hmsg⟩)) Y.objLocals hskip htr [] d0
    (by simp only [List.length_cons, hlen]; omega) (by simp only [List.length_cons, hlen]; exact hL9)
  obtain ⟨hwalk, hrun, hended, hWU, hsame⟩ := X2.athrowLeaves hexec (g := { g with stack := .ref a :: rest, pc := g.pc + 3 }) hg hlocked hentered hout (a := a) (rest := rest) rfl d3
  have hlt : a < ((V.setVm vm1).setVm vm2).heap.size := (Array.getElem?_eq_some_iff.mp hcell).1
  have hU := heapAt_setCell_self (s := (V.setVm vm1).setVm vm2) (plainBareV T.toThrowableT (freshCell P1.m.cls kX) a u0 sen msg) hlt
  refine ⟨_, st1 _ (fun acts => ?_), hrun, hended, hWU, hsame.weaken (fun y hy hl => ?_) (Nat.le_refl _) (Nat.le_refl _), _, hU, rfl, hf⟩
  · rw [doInvoke_state]
    exact st2 _ hwalk
  · rcases List.mem_append.mp hy with h1 | h1
    · exact h1
    · exfalso
      have hb : y.base = a := by
        simp only [List.mem_cons, List.not_mem_nil, or_false] at h1
        rcases h1 with rfl | rfl | rfl | rfl | rfl <;> rfl
      rw [hb] at hl
      exact Nat.not_lt.mpr hnew hl
/-- 'throw new NoSuchElementException(text)': new; dup; ldc_w; invokespecial; athrow -/
theorem zthrow {H : Heap} {ls : Array Slot} {rest : List Value} {Qc : Array Value → State → Outcome → State → Prop} {XC : String → State → State → Prop} {free : Addr → Prop} {cc : ByteArray} {pc : Nat} (hexec : p.tables.exec = Jvm.exec) (hb : c.code = cc) (hl : l.stackTraces = false) {text : String} {is mc ms sa : Nat} {A : Nat → Prop}
    (hown : s.vm.findClass RX11 = some m.cls)
    (hk : (Cond.classLink RX11 328 "java/util/NoSuchElementException").before args s = true) (hini : (Cond.initialized "java/util/NoSuchElementException").before args s = true) (hstr : vk_R RX11 is text sa s) (hat : ∀ w ∈ zAt, w.before args s = true)
    (hU : vx_Zq Bundle.tN "UNASSIGNED_STACK" Bundle.steD A s s.heap) (hN : vx_Zq Bundle.tN "SUPPRESSED_SENTINEL" Bundle.listD A s s.heap) (hS : va_S A s.heap H locs) (hsize : ls.size = c.maxLocals)
    (d0 : decode cc pc = .ok (.new 328, 3)) (d3 : decode cc (pc + 3) = .ok (.dup, 1)) (d4 : decode cc (pc + 4) = .ok (.ldc_w is, 3)) (d7 : decode cc (pc + 7) = .ok (.invokespecial 332, 3)) (d10 : decode cc (pc + 10) = .ok (.athrow, 1))
    (hout : ∀ x ∈ c.exceptionTable.toList, covers x (pc + 10) = false)
    (hF : 5 < R.frames) (hL9 : (rest.map fun v => v.category).sum + 82 ≤ R.locals) (hRcells : cells + 1 ≤ R.cells) (hRslots : slots + 6 ≤ R.slots) (hlocks : meth.locks = false)
    (hx : ∀ t : State, s.vm.Alike t.vm → H.size ≤ t.heap.size → (∀ q : Nat, q < H.size → t.heap[q]? = H[q]?) → XC "java/util/NoSuchElementException" s t)
    (hf : ∀ z ∈ locs, free z.base) (hc : cells + 1 ≤ mc) (hs : slots + 6 ≤ ms) :
    W p l e R s m args below meth c H locs cells slots (vx_MQ below Qc XC args s mc ms free) (F0 m pc ls rest) := by
  intro T hT X
  have htr : e.platform.stackTraces = false := (show e.platform.stackTraces = l.stackTraces by rw [X.admits.platform]).trans hl
  have Y := vx_rebase X (R' := { frames := R.frames, locals := R.locals, cells := 1, slots := 6 }) (Nat.le_refl _) (Nat.le_refl _) hRcells hRslots
  obtain ⟨s', hA⟩ : ∃ z, z = (T.setVm s.vm).setFrames (.invoking m args :: below) := ⟨_, rfl⟩
  rw [← hA] at Y
  have hvm : s'.vm = s.vm := by rw [hA]; rfl
  have hhp : s'.heap = H := by rw [hA]; exact hT
  have hW0 : s.WarmedH s'.vm := by rw [hvm]; exact State.WarmedH.refl s
  have go : ∀ w : Cond, goodWord w = true → w.before args s = true → w.before args s' = true := fun w hg h => word_at hW0 (good_of_word hg) h
  have hU' : vx_Zq Bundle.tN "UNASSIGNED_STACK" Bundle.steD A s' s'.heap := by rw [hhp]; exact vx_Zq.moved hW0.alike (hU.kept hS.2.1)
  have hN' : vx_Zq Bundle.tN "SUPPRESSED_SENTINEL" Bundle.listD A s' s'.heap := by rw [hhp]; exact vx_Zq.moved hW0.alike (hN.kept hS.2.1)
  have h : ∀ w ∈ zOwn, w.before args s' = true := zAt_own (fun w hw => go w (zAt_good w hw) (hat w hw)) hU'.2.word hN'.2.word
  have hown' : s'.vm.findClass RX11 = some m.cls := by rw [hvm]; exact hown
  have hins : (Cond.instantiable "java/util/NoSuchElementException" 6).before args s' = true := h _ (zT5 (by simp [zTail]))
  obtain ⟨vm₁, cX, kX, hfX, hkX, -, -, X₁, st1⟩ := Y.newCold hexec (own := RX11) (C := "java/util/NoSuchElementException") (index := 328) (n := 6) hown' (go _ (by decide) hk) hins (go _ (by decide) hini)
    (g := F0 m pc ls rest) rfl (by rw [hb]; exact d0) (Nat.le_refl _) (Nat.le_refl _)
  generalize hT1 : (T.setVm vm₁).pushCell { cls := cX, slots := kX.instanceTypes.map defaultValue, vm := .none } = T1 at X₁ st1
  have hcat : (Value.ref T.heap.size).category = 1 := rfl
  have hcellA : T1.heap[T.heap.size]? = some (freshCell cX kX) := by rw [← hT1]; exact State.heap_pushCell_size _ _
  have d3' : decode c.code (pc + 3) = .ok (.dup, 1) := by rw [hb]; exact d3
  have d4' : decode c.code (pc + 4) = .ok (.ldc_w is, 3) := by rw [hb]; exact d4
  have hstr' : vk_R RX11 is text sa s' := vk_R.warm hW0 hstr
  obtain ⟨U, hsteps, hrun, hend, hW, hsame, ce, hce, hcv, hcl⟩ := zctor X₁ hexec htr hown' h (vx_isRefq hU'.1) (vx_isRefq hN'.1) (fun x hx => by obtain ⟨y, hy, -⟩ := hx; nomatch hy) hfX hkX hcellA (by rw [hhp, hT]; exact Nat.le_refl _) (msg := .ref sa) rfl
    (g := { method := m, pc := pc + 7, locals := ls, stack := .ref sa :: .ref T.heap.size :: .ref T.heap.size :: rest, locked := none }) rfl hsize rfl rfl (rest := rest) rfl
    (by rw [hb]; exact d7) (by rw [hb]; exact d10) hout hF (by simp only [List.map_cons, List.sum_cons, hcat]; omega) hlocks
  obtain ⟨f1, f2⟩ := vx_frame hsame
  rw [hhp] at f1 f2
  have hWs : s.WarmedH U.vm := State.WarmedH.trans hW0 hW
  rw [hvm] at hcl
  have hall : s.sameButNew ({ U with vm := s.vm } : State) locs mc ms := by
    subst hA
    obtain ⟨e1, e2⟩ := hsame
    rw [State.setFrames_setFrames] at e1
    have h2 : (T.setVm s.vm).sameButNew ({ U with vm := s.vm } : State) [] (0 + 1) (0 + 6) := ⟨e1, e2⟩
    have h3 := X.same.trans h2
    rw [List.append_nil] at h3
    exact h3.mono hc hs
  refine ⟨U, ?_, .threw T.heap.size, hrun, hend, Or.inr ⟨T.heap.size, rfl, "java/util/NoSuchElementException", ce, locs, hx U hWs.alike f1 (fun q hq => f2 q hq (fun z hz => nomatch hz)), hce, hcv, hcl, hWs, hall, hf⟩⟩
  refine st1 _ ?_
  show Steps p.tables e below (T1.setTop { method := m, pc := pc + 3, locals := ls, stack := .ref T.heap.size :: rest, locked := none }) _
  jvm_step X₁.here [X₁.here.top, hexec, d3', Value.category]
  exact X₁.ldcStringW hexec (own := RX11) (text := text) (index := is) (a := sa) hown' hstr'.1 hstr'.2
    (g := { method := m, pc := pc + 4, locals := ls, stack := .ref T.heap.size :: .ref T.heap.size :: rest, locked := none }) rfl d4' _ hsteps
end ZTH
end
noncomputable def zwsR : List Cond := .code yX11_rests cX11_rests 6 (some .int) :: ([.classLink RX11 328 "java/util/NoSuchElementException", .initialized "java/util/NoSuchElementException", .methodLink RX11 325 yX11_isStake, .static yX11_isStake, .initialized RX11, .code yX11_isStake cX11_isStake 1 (some .boolean), .methodLink RX11 335 yX11_isAtRest, .static yX11_isAtRest, .code yX11_isAtRest cX11_isAtRest 3 (some .boolean), .methodLink RX11 341 yX11_guardGets, .static yX11_guardGets, .code yX11_guardGets cX11_guardGets 3 (some .int), .methodLink RX11 345 yX11_travellerGets, .static yX11_travellerGets, .code yX11_travellerGets cX11_travellerGets 3 (some .int)] ++ zAt)
noncomputable def zwsRL : List Cond := .codeWith yL_rests cL_rests 6 (some .int) [(0, 12, 15, 13)] :: ([.classLink RL 13 "java/util/NoSuchElementException", .methodLink RL 7 yX11_rests, .instanceMethod yX11_rests, .selects RX11 yX11_rests yX11_rests, .initialized RX11, .code yX11_rests cX11_rests 6 (some .int), .classLink RX11 328 "java/util/NoSuchElementException", .initialized "java/util/NoSuchElementException", .methodLink RX11 325 yX11_isStake, .static yX11_isStake, .code yX11_isStake cX11_isStake 1 (some .boolean), .methodLink RX11 335 yX11_isAtRest, .static yX11_isAtRest, .code yX11_isAtRest cX11_isAtRest 3 (some .boolean), .methodLink RX11 341 yX11_guardGets, .static yX11_guardGets, .code yX11_guardGets cX11_guardGets 3 (some .int), .methodLink RX11 345 yX11_travellerGets, .static yX11_travellerGets, .code yX11_travellerGets cX11_travellerGets 3 (some .int)] ++ zAt)
theorem zwsR_good : ∀ w ∈ zwsR, goodWord w = true := List.all_eq_true.mp (by decide +kernel)
theorem zwsRL_good : ∀ w ∈ zwsRL, goodWord w = true := List.all_eq_true.mp (by decide +kernel)
theorem zRp {w : Cond} (i : Nat) (h : zwsR[i]? = some w) : w ∈ zwsR := List.mem_of_getElem? h
theorem zLp {w : Cond} (i : Nat) (h : zwsRL[i]? = some w) : w ∈ zwsRL := List.mem_of_getElem? h
theorem zRa : ∀ w ∈ zAt, w ∈ zwsR := fun _ h => List.mem_cons_of_mem _ (List.mem_append_right _ h)
theorem zLa : ∀ w ∈ zAt, w ∈ zwsRL := fun _ h => List.mem_cons_of_mem _ (List.mem_append_right _ h)
theorem zgR {ws : List Cond} (h : ∀ w ∈ ws, w ∈ zwsR) : GoodIn zwsR ws := fun w hw => ⟨h w hw, good_of_word (zwsR_good w (h w hw))⟩
theorem zgRL {ws : List Cond} (h : ∀ w ∈ ws, w ∈ zwsRL) : GoodIn zwsRL ws := fun w hw => ⟨h w hw, good_of_word (zwsRL_good w (h w hw))⟩
theorem gX11_rests_X11_isStake : GoodIn zwsR (va_wsS RX11 325 yX11_isStake wsX11_isStake) := zgR (zmem (zcm (zRp 3 rfl) (zcm (zRp 4 rfl) (zcm (zRp 5 rfl) znm))) (zcm (zRp 6 rfl) znm))
theorem gX11_rests_X11_isAtRest : GoodIn zwsR (va_wsS RX11 335 yX11_isAtRest wsX11_isAtRest) := zgR (zmem (zcm (zRp 7 rfl) (zcm (zRp 8 rfl) (zcm (zRp 5 rfl) znm))) (zcm (zRp 9 rfl) (zcm (zRp 10 rfl) (zcm (zRp 11 rfl) (zcm (zRp 5 rfl) (zcm (zRp 12 rfl) (zcm (zRp 13 rfl) (zcm (zRp 14 rfl) (zcm (zRp 15 rfl) znm)))))))))
theorem gL_rests_X11_rests : GoodIn zwsRL (wsV RL 7 RX11 yX11_rests zwsR) := zgRL (zmem (zcm (zLp 2 rfl) (zcm (zLp 3 rfl) (zcm (zLp 4 rfl) (zcm (zLp 5 rfl) znm)))) (zcm (zLp 6 rfl) (zmem (zcm (zLp 7 rfl) (zcm (zLp 8 rfl) (zcm (zLp 9 rfl) (zcm (zLp 10 rfl) (zcm (zLp 5 rfl) (zcm (zLp 11 rfl) (zcm (zLp 12 rfl) (zcm (zLp 13 rfl) (zcm (zLp 14 rfl) (zcm (zLp 15 rfl) (zcm (zLp 16 rfl) (zcm (zLp 17 rfl) (zcm (zLp 18 rfl) (zcm (zLp 19 rfl) (zcm (zLp 20 rfl) znm))))))))))))))) zLa)))
set_option maxRecDepth 20000 in
theorem zAt_in : ∀ w ∈ zAt, w ∈ lw_tbl := (zcm (ztm1 23 (by first | rfl | decide +kernel)) (zcm (ztm5 132 (by first | rfl | decide +kernel)) (zcm (ztm5 141 (by first | rfl | decide +kernel)) (zcm (ztm5 143 (by first | rfl | decide +kernel)) (zcm (ztm5 146 (by first | rfl | decide +kernel)) (zcm (ztm5 148 (by first | rfl | decide +kernel)) (zcm (ztm5 133 (by first | rfl | decide +kernel)) (zcm (ztm5 134 (by first | rfl | decide +kernel)) (zcm (ztm1 33 (by first | rfl | decide +kernel)) (zcm (ztm1 34 (by first | rfl | decide +kernel)) (zcm (ztm5 135 (by first | rfl | decide +kernel)) (zcm (ztm5 140 (by first | rfl | decide +kernel)) (zcm (ztm5 144 (by first | rfl | decide +kernel)) (zcm (ztm5 164 (by first | rfl | decide +kernel)) (zcm (ztm5 122 (by first | rfl | decide +kernel)) (zcm (ztm5 165 (by first | rfl | decide +kernel)) (zcm (ztm5 124 (by first | rfl | decide +kernel)) (zcm (ztm5 166 (by first | rfl | decide +kernel)) (zcm (ztm5 126 (by first | rfl | decide +kernel)) (zcm (ztm5 136 (by first | rfl | decide +kernel)) (zcm (ztm5 138 (by first | rfl | decide +kernel)) (zcm (ztm5 128 (by first | rfl | decide +kernel)) (zcm (ztm5 160 (by first | rfl | decide +kernel)) (zcm (ztm5 161 (by first | rfl | decide +kernel)) (zcm (ztm5 163 (by first | rfl | decide +kernel)) (zcm (ztm5 151 (by first | rfl | decide +kernel)) (zcm (ztm5 152 (by first | rfl | decide +kernel)) (zcm (ztm5 153 (by first | rfl | decide +kernel)) (zcm (ztm5 154 (by first | rfl | decide +kernel)) (zcm (ztm5 155 (by first | rfl | decide +kernel)) (zcm (ztm5 156 (by first | rfl | decide +kernel)) (zcm (ztm5 157 (by first | rfl | decide +kernel)) (zcm (ztm5 158 (by first | rfl | decide +kernel)) (zcm (ztm5 159 (by first | rfl | decide +kernel)) (zcm (ztm5 150 (by first | rfl | decide +kernel)) (zcm (ztm5 111 (by first | rfl | decide +kernel)) (zcm (ztm5 119 (by first | rfl | decide +kernel)) (zcm (ztm5 120 (by first | rfl | decide +kernel)) (zcm (ztm5 121 (by first | rfl | decide +kernel)) (zcm (ztm5 123 (by first | rfl | decide +kernel)) (zcm (ztm5 125 (by first | rfl | decide +kernel)) (zcm (ztm5 127 (by first | rfl | decide +kernel)) (zcm (ztm5 129 (by first | rfl | decide +kernel)) (zcm (ztm5 131 (by first | rfl | decide +kernel)) (zcm (ztm5 130 (by first | rfl | decide +kernel)) znm)))))))))))))))))))))))))))))))))))))))))))))
set_option maxRecDepth 20000 in
theorem zBig_in : ∀ w ∈ va_wsS RL 145 yL_rests zwsRL, w ∈ lw_tbl := zmem (zcm (ztm5 99 (by first | rfl | decide +kernel)) (zcm (ztm5 100 (by first | rfl | decide +kernel)) (zcm (ztm1 0 (by first | rfl | decide +kernel)) znm))) (zcm (ztm5 101 (by first | rfl | decide +kernel)) (zmem (zcm (ztm5 102 (by first | rfl | decide +kernel)) (zcm (ztm5 103 (by first | rfl | decide +kernel)) (zcm (ztm5 104 (by first | rfl | decide +kernel)) (zcm (ztm5 105 (by first | rfl | decide +kernel)) (zcm (ztm1 1 (by first | rfl | decide +kernel)) (zcm (ztm5 106 (by first | rfl | decide +kernel)) (zcm (ztm5 110 (by first | rfl | decide +kernel)) (zcm (ztm1 26 (by first | rfl | decide +kernel)) (zcm (ztm5 107 (by first | rfl | decide +kernel)) (zcm (ztm5 108 (by first | rfl | decide +kernel)) (zcm (ztm5 109 (by first | rfl | decide +kernel)) (zcm (ztm5 175 (by first | rfl | decide +kernel)) (zcm (ztm5 176 (by first | rfl | decide +kernel)) (zcm (ztm5 177 (by first | rfl | decide +kernel)) (zcm (ztm5 178 (by first | rfl | decide +kernel)) (zcm (ztm5 179 (by first | rfl | decide +kernel)) (zcm (ztm5 180 (by first | rfl | decide +kernel)) (zcm (ztm5 181 (by first | rfl | decide +kernel)) (zcm (ztm5 182 (by first | rfl | decide +kernel)) (zcm (ztm5 183 (by first | rfl | decide +kernel)) znm)))))))))))))))))))) zAt_in))
theorem gL_law_L_rests : GoodIn (va_wsS RL 145 yL_rests zwsRL) (va_wsS RL 145 yL_rests zwsRL) := fun w hw => ⟨hw, good_of_word ((List.mem_append.mp hw).elim ((List.all_eq_true (l := [.methodLink RL 145 yL_rests, .static yL_rests, .initialized yL_rests.cls])).mp (by decide +kernel) w) (zwsRL_good w))⟩
section
/-! ===== what a throw needs of the start; a call that may throw ===== -/
noncomputable def zXF (A : Nat → Prop) (U : State) (H : Heap) (sa sb : Nat) : Prop := vx_Zq Bundle.tN "UNASSIGNED_STACK" Bundle.steD A U H ∧ vx_Zq Bundle.tN "SUPPRESSED_SENTINEL" Bundle.listD A U H ∧ vk_R RX11 330 "no such frontier" sa U ∧ vk_R RX11 339 "no such rest" sb U
noncomputable def zPx (D : va_G) (ct : Nat → ClassId) (sa sb : Nat) (As : List Value) (w0 : va_W) (sz : Nat) : Array Value → State → Prop := fun v U => zPc D ct [] As w0 sz v U ∧ zXF (va_A w0 sz) U U.heap sa sb
section ZX
variable {p : Program} {l : Launch} {e : Env} {R : Room} {s : State} {m : MethodId} {args : Array Value} {below : List Frame} {meth : Method} {c : Code} {H : Heap} {locs : List Loc} {cells slots : Nat} {Q : State → Prop}
variable {cc : ByteArray} {pc : Nat} {ls : Array Slot} {rest st0 : List Value} {D : va_G} {ct : Nat → ClassId} {zs : List (String × Nat)} {A : Nat → Prop} {a : Nat} {ws w0 wr : va_W} {sa sb : Nat}
theorem zPx.blind {As : List Value} {sz : Nat} : FrameBlind (zPx D ct sa sb As w0 sz) := fun a U g mk q =>
  ⟨zPc.blind a U g mk q.1, vx_Zq.moved (u := U) (U := U.calling g mk a) (Vm.Alike.refl U.vm) q.2.1, vx_Zq.moved (u := U) (U := U.calling g mk a) (Vm.Alike.refl U.vm) q.2.2.1, vk_R.same (u := U) (U := U.calling g mk a) rfl q.2.2.2.1, vk_R.same (u := U) (U := U.calling g mk a) rfl q.2.2.2.2⟩
theorem zprex {As : List Value} (hK : va_K D vwCl (zT ct) s) (hw : zPD D A ws H) (hS : va_S A s.heap H locs) (hA : ∀ q, s.heap.size ≤ q → A q) (hX : zXF A s s.heap sa sb) (hN : zN s) (isC : List Nat) (hnC : va_nd isC = true) (hC : isC.map (fun i => ws[i]?) = w0.map some) : ∀ U : State, U.heap = H → s.WarmedH U.vm → zPx D ct sa sb As w0 H.size As.toArray U := by
  intro U hU hW
  have hF := va_free (wc := w0) hw.2 hS hA isC hC
  refine ⟨zpre hK hw hS hA zZ.nil hN isC hnC hC U hU hW, ?_, ?_, vk_R.warm hW hX.2.2.1, vk_R.warm hW hX.2.2.2⟩
  · rw [hU]; exact vx_Zq.moved hW.alike ((hX.1.kept hS.2.1).narrow hF)
  · rw [hU]; exact vx_Zq.moved hW.alike ((hX.2.1.kept hS.2.1).narrow hF)
theorem zprexS {As : List Value} (hK : va_K D vwCl (zT ct) s) (hw : zPD D A ws H) (hS : va_S A s.heap H locs) (hA : ∀ q, s.heap.size ≤ q → A q) (hX : zXF A s s.heap sa sb) (hN : zN s) (isC : List Nat) (hnC : va_nd isC = true) (hC : isC.map (fun i => ws[i]?) = w0.map some) : PreS s H (zPx D ct sa sb As w0 H.size) As := ⟨zPx.blind, zprex hK hw hS hA hX hN isC hnC hC⟩
theorem zprexV {As : List Value} {b : Addr} {q : vw_C} {fs : List Value} (hK : va_K D vwCl (zT ct) s) (hw : zPD D A ws H) (hS : va_S A s.heap H locs) (hA : ∀ q, s.heap.size ≤ q → A q) (hX : zXF A s s.heap sa sb) (hN : zN s) (isC : List Nat) (hnC : va_nd isC = true) (hC : isC.map (fun i => ws[i]?) = w0.map some) (ci q0 : Nat) (hc : vwCl[ci]? = some q) (he : ws[q0]? = some (b, .inr (ci, fs))) : PreV s H q.1 b (zPx D ct sa sb (.ref b :: As) w0 H.size) As := ⟨zPx.blind, va_recv hK hw.1 hc he, zprex hK hw hS hA hX hN isC hnC hC⟩
theorem zxcall {S : Type} {rv : S → Option Value} {post : S → Prop} {B : S → va_W} {px : Unit → Prop} {BX : String → Unit → State → Prop} {mc ms : Nat} {a9 : Array Value} (hr : vx_Run p l e R s m args below meth c H locs cells slots mc ms (F0 m pc ls st0) rest (zQ D (va_A w0 H.size) rv post B a9) (vx_X px BX (va_A w0 H.size)) (va_A w0 H.size)) (hw : zPD D A ws H) (hS : va_S A s.heap H locs) (hA : ∀ q, s.heap.size ≤ q → A q)
    (isC isR : List Nat) (hC : isC.map (fun i => ws[i]?) = w0.map some) (hR : isR.map (fun i => ws[i]?) = wr.map some) (hnR : va_nd isR = true) (hdis : ∀ i ∈ isR, i ∉ isC)
    (kx : ∀ (E : String) (ce : Cell) (q9 : Addr) (t : State) (H1 : Heap) (locs1 : List Loc), px () → BX E () t → zPD D A wr H1 → va_S A s.heap H1 locs1 → H1[q9]? = some ce → ce.vm = .none → s.vm.findClass E = some ce.cls → vx_W p l e R s m args below meth c H1 locs1 (cells + mc) (slots + ms) Q (F0 m pc ls rest) q9)
    (kk : ∀ (u : S) (H1 : Heap) (locs1 : List Loc), post u → zPD D A (wr ++ B u) H1 → va_S A s.heap H1 locs1 → W p l e R s m args below meth c H1 locs1 (cells + mc) (slots + ms) Q (F0 m (pc + 3) ls ((rv u).toList ++ rest))) : W p l e R s m args below meth c H locs cells slots Q (F0 m pc ls st0) := by
  have hF := va_free (wc := w0) hw.2 hS hA isC hC
  intro T hT X
  rcases hr T hT X with ⟨v, st₀, t, T', L, h0, X', hL, e1, e2, ⟨⟨u, hv, hp, hb⟩, hF9⟩, st⟩ | ⟨q, st₀, t, T', L, E, ce, h0, X', hL, e1, e2, ⟨u, hp, hb, hF9⟩, hce, hcv, hcl, st⟩
  · cases hv
    obtain ⟨k1, k2, k3⟩ := vx_keep h0 e1 hS (fun q _ z => hF q z) hF hL hF9
    obtain ⟨j1, j2⟩ := va_join (H1 := T'.heap) hw.1 hw.2 isC isR hC hR hnR hdis k2 hF (by rw [e1]; exact hb.1) hb.2
    obtain ⟨t2, a1, b1⟩ := kk u T'.heap (locs ++ L) hp ⟨j1, j2⟩ k3 T' rfl X'
    exact ⟨t2, st t2 a1, b1⟩
  · obtain ⟨k1, k2, k3⟩ := vx_keep h0 e1 hS (fun q _ z => hF q z) hF hL hF9
    obtain ⟨j1, j2⟩ := va_join (w1 := []) (H1 := T'.heap) hw.1 hw.2 isC isR hC hR hnR hdis k2 hF (fun k q h => by simp at h) ⟨fun i j p q h => by simp at h, fun k q h => by simp at h⟩
    obtain ⟨t2, a1, b1⟩ := kx E ce q t T'.heap (locs ++ L) hp hb (by have := (⟨j1, j2⟩ : zPD D A (wr ++ []) T'.heap); rwa [List.append_nil] at this) k3 (by rw [e1]; exact hce) hcv hcl T' rfl X'
    exact ⟨t2, st.trans a1, b1⟩
end ZX
end
set_option maxHeartbeats 4000000 in
set_option maxRecDepth 100000 in
theorem c_rests11 (l : Launch) (hst : l.stackTraces = false) (D : va_G) (ct : Nat → ClassId) (h0 : Nat) (p1 p2 p3 : Int32) (sa sb sz : Nat) : vx_Met l yX11_rests zwsR ({ frames := 9, cells := 1, slots := 6, locals := 400 }) (zPx D ct sa sb [.ref h0, .int p1, .int p2, .int p3] [] sz) (zQ D (va_A [] sz) (S := Int32) (fun v => some (.int v)) (fun v => zrs p1 p2 p3 = some v) (fun _ => [])) (vx_X (S := Unit) (fun _ => zrs p1 p2 p3 = none) (fun E _ _ => E = "java/util/NoSuchElementException") (va_A [] sz)) 1 6 (va_A [] sz) := by
  refine vx_ofW (cc := cX11_rests) (maxL := 6) (ret := some .int) (by decide) rfl ?_
  intro p e s m args below meth c s₁ Bd hml htab hv
  obtain ⟨⟨rfl, hsz, hP, hK, hD0, hZ, hN⟩, hX⟩ := hv
  have hts := atoms_spec (ws := zwsR) Bd.pre
  subst hsz
  have hD := hD0.self (sz := s.heap.size)
  have hl := lv_entry [.ref h0, .int p1, .int p2, .int p3] (n := 6) (Nat.le_of_ble_eq_true rfl)
  rw [lg_entry_eq]
  have hx := Bd.exec
  have hb := Bd.bytes
  have hr := Bd.returns
  have hown : s.vm.findClass RX11 = some m.cls := findClass_of_methodNamed Bd.named
  have hlocks := Bd.notSynchronized
  have hA : ∀ q, s.heap.size ≤ q → va_A [] s.heap.size q := fun q h => Or.inr h
  have hS : va_S (va_A [] s.heap.size) s.heap s.heap [] := va_S.rf
  have hw : zPD D (va_A [] s.heap.size) [] s.heap := ⟨hP, hD⟩
  generalize va_A [] s.heap.size = A at hX hA hS hw ⊢
  have hat : ∀ w ∈ zAt, w.before _ s = true := fun w h => hts w (zRa w h)
  generalize (lg_sl ([.ref h0, .int p1, .int p2, .int p3] : List Value) ++ List.replicate (6 - (lg_sl ([.ref h0, .int p1, .int p2, .int p3] : List Value)).length) Slot.unset).toArray = ls at hl ⊢
  have hl : lv_has ls 6 [(0, .ref h0), (1, .int p1), (2, .int p2), (3, .int p3)] := hl
  generalize hH0 : s.heap = H at hw
  have hS : va_S A s.heap H [] := hH0 ▸ hS
  generalize hlo : ([] : List Loc) = locs at hS
  show W p l e ({ frames := 9, cells := 1, slots := 6, locals := 400 }) s m _ below meth c H locs 0 0 _ _
  refine lv_iload_n hx hb dX11_rests_0 rfl (lv_at hl 1 rfl) ?_
  refine scall0 (As := [.int p1]) (rest := []) ⟨hx, hb, hml, hown, hts⟩ (c_stake l D ct p1) (va_cwS 1 hts gX11_rests_X11_isStake rfl rfl rfl (by decide +kernel) ⟨Nat.le_of_ble_eq_true rfl, Nat.le_of_ble_eq_true rfl⟩) hw hS hA hK hN rfl rfl hl.1 rfl (Nat.le_of_ble_eq_true rfl) dX11_rests_1 (fun _ H locs hp1 hw hS => ?_)
  have hw : zPD D A [] H := hw
  refine zfr 4 [.int (zwi p1 0 9)] rfl rfl ?_
  refine lv_if_eq (tgt := 19) hx hb dX11_rests_4 (by decide) (fun c_2 => ?_) (fun c_2 => ?_)
  · exact zthrow (text := "no such frontier") (is := 330) (A := A) hx hb hst hown (hts (.classLink RX11 328 "java/util/NoSuchElementException") (zRp 1 rfl)) (hts (.initialized "java/util/NoSuchElementException") (zRp 2 rfl)) hX.2.2.1 hat hX.1 hX.2.1 hS (hl.1.trans hml.symm) dX11_rests_19 dX11_rests_22 dX11_rests_23 dX11_rests_26 dX11_rests_29 (fun x hx => (htab x hx).elim) (by decide) (by decide) (Nat.le_of_ble_eq_true rfl) (Nat.le_of_ble_eq_true rfl) hlocks (fun t hvm hz hk => ⟨(), by rw [zrs, if_pos c_2], rfl, Nat.le_trans hS.1 hz, fun q h1 h2 => (hk q (Nat.lt_of_lt_of_le h1 hS.1)).trans (hS.2.1 q h1 h2)⟩) hS.2.2 (Nat.le_of_ble_eq_true rfl) (Nat.le_of_ble_eq_true rfl)
  · refine lv_iload_n hx hb dX11_rests_7 rfl (lv_at hl 2 rfl) ?_
    refine scall0 (As := [.int p2]) (rest := []) ⟨hx, hb, hml, hown, hts⟩ (c_stake l D ct p2) (va_cwS 1 hts gX11_rests_X11_isStake rfl rfl rfl (by decide +kernel) ⟨Nat.le_of_ble_eq_true rfl, Nat.le_of_ble_eq_true rfl⟩) hw hS hA hK hN rfl rfl hl.1 rfl (Nat.le_of_ble_eq_true rfl) dX11_rests_8 (fun _ H locs hp3 hw hS => ?_)
    have hw : zPD D A [] H := hw
    refine zfr 11 [.int (zwi p2 0 9)] rfl rfl ?_
    refine lv_if_eq (tgt := 19) hx hb dX11_rests_11 (by decide) (fun c_4 => ?_) (fun c_4 => ?_)
    · exact zthrow (text := "no such frontier") (is := 330) (A := A) hx hb hst hown (hts (.classLink RX11 328 "java/util/NoSuchElementException") (zRp 1 rfl)) (hts (.initialized "java/util/NoSuchElementException") (zRp 2 rfl)) hX.2.2.1 hat hX.1 hX.2.1 hS (hl.1.trans hml.symm) dX11_rests_19 dX11_rests_22 dX11_rests_23 dX11_rests_26 dX11_rests_29 (fun x hx => (htab x hx).elim) (by decide) (by decide) (Nat.le_of_ble_eq_true rfl) (Nat.le_of_ble_eq_true rfl) hlocks (fun t hvm hz hk => ⟨(), by rw [zrs, if_neg c_2, if_pos c_4], rfl, Nat.le_trans hS.1 hz, fun q h1 h2 => (hk q (Nat.lt_of_lt_of_le h1 hS.1)).trans (hS.2.1 q h1 h2)⟩) hS.2.2 (Nat.le_of_ble_eq_true rfl) (Nat.le_of_ble_eq_true rfl)
    · refine lv_iload_n hx hb dX11_rests_14 rfl (lv_at hl 3 rfl) ?_
      refine lv_iconst (v := (-1)) hx hb dX11_rests_15 (by decide) ?_
      refine lv_icmp_ge (tgt := 30) hx hb dX11_rests_16 (by decide) (fun c_5 => ?_) (fun c_5 => ?_)
      · refine lv_iconst (v := 0) hx hb dX11_rests_30 (by decide) ?_
        refine lv_istore (lv' := [(4, .int 0), (0, .ref h0), (1, .int p1), (2, .int p2), (3, .int p3)]) hx hb dX11_rests_31 hl (by decide) rfl (fun ls hl => ?_)
        refine lv_iconst (v := 0) hx hb dX11_rests_33 (by decide) ?_
        refine lv_istore (lv' := [(5, .int 0), (4, .int 0), (0, .ref h0), (1, .int p1), (2, .int p2), (3, .int p3)]) hx hb dX11_rests_34 hl (by decide) rfl (fun ls hl => ?_)
        refine lv_iload hx hb dX11_rests_36 (lv_at hl 0 rfl) ?_
        refine lv_iconst (v := 4) hx hb dX11_rests_38 (by decide) ?_
        refine lv_icmp_ge (tgt := 70) hx hb dX11_rests_39 (by decide) (fun h => absurd h (by decide)) (fun _ => ?_)
        refine lv_iload_n hx hb dX11_rests_42 rfl (lv_at hl 3 rfl) ?_
        refine lv_iload_n hx hb dX11_rests_43 rfl (lv_at hl 4 rfl) ?_
        refine lv_iload hx hb dX11_rests_44 (lv_at hl 0 rfl) ?_
        refine scall0 (As := [.int p1, .int p2, .int 0]) (rest := []) ⟨hx, hb, hml, hown, hts⟩ (c_ar0 l D ct p1 p2) (va_cwS 3 hts gX11_rests_X11_isAtRest rfl rfl rfl (by decide +kernel) ⟨Nat.le_of_ble_eq_true rfl, Nat.le_of_ble_eq_true rfl⟩) hw hS hA hK hN rfl rfl hl.1 rfl (Nat.le_of_ble_eq_true rfl) dX11_rests_46 (fun _ H locs hp7 hw hS => ?_)
        have hw : zPD D A [] H := hw
        refine zfr 49 [.int (zat0 p2)] rfl rfl ?_
        refine lv_if_eq (tgt := 64) hx hb dX11_rests_49 (by decide) (fun c_8 => ?_) (fun c_8 => ?_)
        · refine lv_iinc (v := 1) (lv' := [(5, .int 1), (4, .int 0), (0, .ref h0), (1, .int p1), (2, .int p2), (3, .int p3)]) hx hb dX11_rests_64 hl (k := 0) rfl (by decide) (by decide) rfl (fun ls hl => ?_)
          refine lv_goto (tgt := 36) hx hb dX11_rests_67 (by decide) ?_
          refine lv_iload hx hb dX11_rests_36 (lv_at hl 0 rfl) ?_
          refine lv_iconst (v := 4) hx hb dX11_rests_38 (by decide) ?_
          refine lv_icmp_ge (tgt := 70) hx hb dX11_rests_39 (by decide) (fun h => absurd h (by decide)) (fun _ => ?_)
          refine lv_iload_n hx hb dX11_rests_42 rfl (lv_at hl 3 rfl) ?_
          refine lv_iload_n hx hb dX11_rests_43 rfl (lv_at hl 4 rfl) ?_
          refine lv_iload hx hb dX11_rests_44 (lv_at hl 0 rfl) ?_
          refine scall0 (As := [.int p1, .int p2, .int 1]) (rest := []) ⟨hx, hb, hml, hown, hts⟩ (c_ar1 l D ct p1 p2) (va_cwS 3 hts gX11_rests_X11_isAtRest rfl rfl rfl (by decide +kernel) ⟨Nat.le_of_ble_eq_true rfl, Nat.le_of_ble_eq_true rfl⟩) hw hS hA hK hN rfl rfl hl.1 rfl (Nat.le_of_ble_eq_true rfl) dX11_rests_46 (fun _ H locs hp10 hw hS => ?_)
          have hw : zPD D A [] H := hw
          refine zfr 49 [.int (zat1 p1 p2)] rfl rfl ?_
          refine lv_if_eq (tgt := 64) hx hb dX11_rests_49 (by decide) (fun c_11 => ?_) (fun c_11 => ?_)
          · refine lv_iinc (v := 2) (lv' := [(5, .int 2), (4, .int 0), (0, .ref h0), (1, .int p1), (2, .int p2), (3, .int p3)]) hx hb dX11_rests_64 hl (k := 0) rfl (by decide) (by decide) rfl (fun ls hl => ?_)
            refine lv_goto (tgt := 36) hx hb dX11_rests_67 (by decide) ?_
            refine lv_iload hx hb dX11_rests_36 (lv_at hl 0 rfl) ?_
            refine lv_iconst (v := 4) hx hb dX11_rests_38 (by decide) ?_
            refine lv_icmp_ge (tgt := 70) hx hb dX11_rests_39 (by decide) (fun h => absurd h (by decide)) (fun _ => ?_)
            refine lv_iload_n hx hb dX11_rests_42 rfl (lv_at hl 3 rfl) ?_
            refine lv_iload_n hx hb dX11_rests_43 rfl (lv_at hl 4 rfl) ?_
            refine lv_iload hx hb dX11_rests_44 (lv_at hl 0 rfl) ?_
            refine scall0 (As := [.int p1, .int p2, .int 2]) (rest := []) ⟨hx, hb, hml, hown, hts⟩ (c_ar2 l D ct p1 p2) (va_cwS 3 hts gX11_rests_X11_isAtRest rfl rfl rfl (by decide +kernel) ⟨Nat.le_of_ble_eq_true rfl, Nat.le_of_ble_eq_true rfl⟩) hw hS hA hK hN rfl rfl hl.1 rfl (Nat.le_of_ble_eq_true rfl) dX11_rests_46 (fun _ H locs hp13 hw hS => ?_)
            have hw : zPD D A [] H := hw
            refine zfr 49 [.int 0] rfl rfl ?_
            refine lv_if_eq (tgt := 64) hx hb dX11_rests_49 (by decide) (fun _ => ?_) (fun h => absurd (by decide) h)
            refine lv_iinc (v := 3) (lv' := [(5, .int 3), (4, .int 0), (0, .ref h0), (1, .int p1), (2, .int p2), (3, .int p3)]) hx hb dX11_rests_64 hl (k := 0) rfl (by decide) (by decide) rfl (fun ls hl => ?_)
            refine lv_goto (tgt := 36) hx hb dX11_rests_67 (by decide) ?_
            refine lv_iload hx hb dX11_rests_36 (lv_at hl 0 rfl) ?_
            refine lv_iconst (v := 4) hx hb dX11_rests_38 (by decide) ?_
            refine lv_icmp_ge (tgt := 70) hx hb dX11_rests_39 (by decide) (fun h => absurd h (by decide)) (fun _ => ?_)
            refine lv_iload_n hx hb dX11_rests_42 rfl (lv_at hl 3 rfl) ?_
            refine lv_iload_n hx hb dX11_rests_43 rfl (lv_at hl 4 rfl) ?_
            refine lv_iload hx hb dX11_rests_44 (lv_at hl 0 rfl) ?_
            refine scall0 (As := [.int p1, .int p2, .int 3]) (rest := []) ⟨hx, hb, hml, hown, hts⟩ (c_ar3 l D ct p1 p2) (va_cwS 3 hts gX11_rests_X11_isAtRest rfl rfl rfl (by decide +kernel) ⟨Nat.le_of_ble_eq_true rfl, Nat.le_of_ble_eq_true rfl⟩) hw hS hA hK hN rfl rfl hl.1 rfl (Nat.le_of_ble_eq_true rfl) dX11_rests_46 (fun _ H locs hp16 hw hS => ?_)
            have hw : zPD D A [] H := hw
            refine zfr 49 [.int (zat3 p1 p2)] rfl rfl ?_
            refine lv_if_eq (tgt := 64) hx hb dX11_rests_49 (by decide) (fun c_17 => ?_) (fun c_17 => ?_)
            · refine lv_iinc (v := 4) (lv' := [(5, .int 4), (4, .int 0), (0, .ref h0), (1, .int p1), (2, .int p2), (3, .int p3)]) hx hb dX11_rests_64 hl (k := 0) rfl (by decide) (by decide) rfl (fun ls hl => ?_)
              refine lv_goto (tgt := 36) hx hb dX11_rests_67 (by decide) ?_
              refine lv_iload hx hb dX11_rests_36 (lv_at hl 0 rfl) ?_
              refine lv_iconst (v := 4) hx hb dX11_rests_38 (by decide) ?_
              refine lv_icmp_ge (tgt := 70) hx hb dX11_rests_39 (by decide) (fun _ => ?_) (fun h => absurd (by decide) h)
              refine lv_iload_n hx hb dX11_rests_70 rfl (lv_at hl 5 rfl) ?_
              refine lv_iconst (v := (-1)) hx hb dX11_rests_71 (by decide) ?_
              refine lv_icmp_eq (tgt := 86) hx hb dX11_rests_72 (by decide) (fun c_19 => ?_) (fun c_19 => ?_)
              · refine lv_iload hx hb dX11_rests_86 (lv_at hl 1 rfl) ?_
                exact vx_ret (ziret hx hb hr rfl hlocks (S := Int32) 0 rfl (by rw [zrs, if_neg c_2, if_neg c_4, if_pos c_5, zrq0, if_pos c_8, zrq1, if_pos c_11, zrq3, if_pos c_17, zrq4, if_pos c_19]) hw [] rfl rfl hS (Nat.le_of_ble_eq_true rfl) (Nat.le_of_ble_eq_true rfl) dX11_rests_88)
              · exact zthrow (text := "no such rest") (is := 339) (A := A) hx hb hst hown (hts (.classLink RX11 328 "java/util/NoSuchElementException") (zRp 1 rfl)) (hts (.initialized "java/util/NoSuchElementException") (zRp 2 rfl)) hX.2.2.2 hat hX.1 hX.2.1 hS (hl.1.trans hml.symm) dX11_rests_75 dX11_rests_78 dX11_rests_79 dX11_rests_82 dX11_rests_85 (fun x hx => (htab x hx).elim) (by decide) (by decide) (Nat.le_of_ble_eq_true rfl) (Nat.le_of_ble_eq_true rfl) hlocks (fun t hvm hz hk => ⟨(), by rw [zrs, if_neg c_2, if_neg c_4, if_pos c_5, zrq0, if_pos c_8, zrq1, if_pos c_11, zrq3, if_pos c_17, zrq4, if_neg c_19], rfl, Nat.le_trans hS.1 hz, fun q h1 h2 => (hk q (Nat.lt_of_lt_of_le h1 hS.1)).trans (hS.2.1 q h1 h2)⟩) hS.2.2 (Nat.le_of_ble_eq_true rfl) (Nat.le_of_ble_eq_true rfl)
            · refine lv_iload hx hb dX11_rests_52 (lv_at hl 1 rfl) ?_
              refine lv_iload_n hx hb dX11_rests_54 rfl (lv_at hl 5 rfl) ?_
              refine lv_icmp_ne (tgt := 61) hx hb dX11_rests_55 (by decide) (fun c_20 => ?_) (fun c_20 => ?_)
              · refine lv_iinc (v := 1) (lv' := [(4, .int 1), (5, .int 3), (0, .ref h0), (1, .int p1), (2, .int p2), (3, .int p3)]) hx hb dX11_rests_61 hl (k := 1) rfl (by decide) (by decide) rfl (fun ls hl => ?_)
                refine lv_iinc (v := 4) (lv' := [(5, .int 4), (4, .int 1), (0, .ref h0), (1, .int p1), (2, .int p2), (3, .int p3)]) hx hb dX11_rests_64 hl (k := 1) rfl (by decide) (by decide) rfl (fun ls hl => ?_)
                refine lv_goto (tgt := 36) hx hb dX11_rests_67 (by decide) ?_
                refine lv_iload hx hb dX11_rests_36 (lv_at hl 0 rfl) ?_
                refine lv_iconst (v := 4) hx hb dX11_rests_38 (by decide) ?_
                refine lv_icmp_ge (tgt := 70) hx hb dX11_rests_39 (by decide) (fun _ => ?_) (fun h => absurd (by decide) h)
                refine lv_iload_n hx hb dX11_rests_70 rfl (lv_at hl 5 rfl) ?_
                refine lv_iconst (v := (-1)) hx hb dX11_rests_71 (by decide) ?_
                refine lv_icmp_eq (tgt := 86) hx hb dX11_rests_72 (by decide) (fun c_22 => ?_) (fun c_22 => ?_)
                · refine lv_iload hx hb dX11_rests_86 (lv_at hl 1 rfl) ?_
                  exact vx_ret (ziret hx hb hr rfl hlocks (S := Int32) 1 rfl (by rw [zrs, if_neg c_2, if_neg c_4, if_pos c_5, zrq0, if_pos c_8, zrq1, if_pos c_11, zrq3, if_neg c_17, if_neg c_20, zrq4, if_pos c_22]) hw [] rfl rfl hS (Nat.le_of_ble_eq_true rfl) (Nat.le_of_ble_eq_true rfl) dX11_rests_88)
                · exact zthrow (text := "no such rest") (is := 339) (A := A) hx hb hst hown (hts (.classLink RX11 328 "java/util/NoSuchElementException") (zRp 1 rfl)) (hts (.initialized "java/util/NoSuchElementException") (zRp 2 rfl)) hX.2.2.2 hat hX.1 hX.2.1 hS (hl.1.trans hml.symm) dX11_rests_75 dX11_rests_78 dX11_rests_79 dX11_rests_82 dX11_rests_85 (fun x hx => (htab x hx).elim) (by decide) (by decide) (Nat.le_of_ble_eq_true rfl) (Nat.le_of_ble_eq_true rfl) hlocks (fun t hvm hz hk => ⟨(), by rw [zrs, if_neg c_2, if_neg c_4, if_pos c_5, zrq0, if_pos c_8, zrq1, if_pos c_11, zrq3, if_neg c_17, if_neg c_20, zrq4, if_neg c_22], rfl, Nat.le_trans hS.1 hz, fun q h1 h2 => (hk q (Nat.lt_of_lt_of_le h1 hS.1)).trans (hS.2.1 q h1 h2)⟩) hS.2.2 (Nat.le_of_ble_eq_true rfl) (Nat.le_of_ble_eq_true rfl)
              · refine lv_iload hx hb dX11_rests_58 (lv_at hl 0 rfl) ?_
                exact vx_ret (ziret hx hb hr rfl hlocks (S := Int32) 3 rfl (by rw [zrs, if_neg c_2, if_neg c_4, if_pos c_5, zrq0, if_pos c_8, zrq1, if_pos c_11, zrq3, if_neg c_17, if_pos c_20]) hw [] rfl rfl hS (Nat.le_of_ble_eq_true rfl) (Nat.le_of_ble_eq_true rfl) dX11_rests_60)
          · refine lv_iload hx hb dX11_rests_52 (lv_at hl 1 rfl) ?_
            refine lv_iload_n hx hb dX11_rests_54 rfl (lv_at hl 5 rfl) ?_
            refine lv_icmp_ne (tgt := 61) hx hb dX11_rests_55 (by decide) (fun c_23 => ?_) (fun c_23 => ?_)
            · refine lv_iinc (v := 1) (lv' := [(4, .int 1), (5, .int 1), (0, .ref h0), (1, .int p1), (2, .int p2), (3, .int p3)]) hx hb dX11_rests_61 hl (k := 1) rfl (by decide) (by decide) rfl (fun ls hl => ?_)
              refine lv_iinc (v := 2) (lv' := [(5, .int 2), (4, .int 1), (0, .ref h0), (1, .int p1), (2, .int p2), (3, .int p3)]) hx hb dX11_rests_64 hl (k := 1) rfl (by decide) (by decide) rfl (fun ls hl => ?_)
              refine lv_goto (tgt := 36) hx hb dX11_rests_67 (by decide) ?_
              refine lv_iload hx hb dX11_rests_36 (lv_at hl 0 rfl) ?_
              refine lv_iconst (v := 4) hx hb dX11_rests_38 (by decide) ?_
              refine lv_icmp_ge (tgt := 70) hx hb dX11_rests_39 (by decide) (fun h => absurd h (by decide)) (fun _ => ?_)
              refine lv_iload_n hx hb dX11_rests_42 rfl (lv_at hl 3 rfl) ?_
              refine lv_iload_n hx hb dX11_rests_43 rfl (lv_at hl 4 rfl) ?_
              refine lv_iload hx hb dX11_rests_44 (lv_at hl 0 rfl) ?_
              refine scall0 (As := [.int p1, .int p2, .int 2]) (rest := []) ⟨hx, hb, hml, hown, hts⟩ (c_ar2 l D ct p1 p2) (va_cwS 3 hts gX11_rests_X11_isAtRest rfl rfl rfl (by decide +kernel) ⟨Nat.le_of_ble_eq_true rfl, Nat.le_of_ble_eq_true rfl⟩) hw hS hA hK hN rfl rfl hl.1 rfl (Nat.le_of_ble_eq_true rfl) dX11_rests_46 (fun _ H locs hp25 hw hS => ?_)
              have hw : zPD D A [] H := hw
              refine zfr 49 [.int 0] rfl rfl ?_
              refine lv_if_eq (tgt := 64) hx hb dX11_rests_49 (by decide) (fun _ => ?_) (fun h => absurd (by decide) h)
              refine lv_iinc (v := 3) (lv' := [(5, .int 3), (4, .int 1), (0, .ref h0), (1, .int p1), (2, .int p2), (3, .int p3)]) hx hb dX11_rests_64 hl (k := 0) rfl (by decide) (by decide) rfl (fun ls hl => ?_)
              refine lv_goto (tgt := 36) hx hb dX11_rests_67 (by decide) ?_
              refine lv_iload hx hb dX11_rests_36 (lv_at hl 0 rfl) ?_
              refine lv_iconst (v := 4) hx hb dX11_rests_38 (by decide) ?_
              refine lv_icmp_ge (tgt := 70) hx hb dX11_rests_39 (by decide) (fun h => absurd h (by decide)) (fun _ => ?_)
              refine lv_iload_n hx hb dX11_rests_42 rfl (lv_at hl 3 rfl) ?_
              refine lv_iload_n hx hb dX11_rests_43 rfl (lv_at hl 4 rfl) ?_
              refine lv_iload hx hb dX11_rests_44 (lv_at hl 0 rfl) ?_
              refine scall0 (As := [.int p1, .int p2, .int 3]) (rest := []) ⟨hx, hb, hml, hown, hts⟩ (c_ar3 l D ct p1 p2) (va_cwS 3 hts gX11_rests_X11_isAtRest rfl rfl rfl (by decide +kernel) ⟨Nat.le_of_ble_eq_true rfl, Nat.le_of_ble_eq_true rfl⟩) hw hS hA hK hN rfl rfl hl.1 rfl (Nat.le_of_ble_eq_true rfl) dX11_rests_46 (fun _ H locs hp28 hw hS => ?_)
              have hw : zPD D A [] H := hw
              refine zfr 49 [.int (zat3 p1 p2)] rfl rfl ?_
              refine lv_if_eq (tgt := 64) hx hb dX11_rests_49 (by decide) (fun c_29 => ?_) (fun c_29 => ?_)
              · refine lv_iinc (v := 4) (lv' := [(5, .int 4), (4, .int 1), (0, .ref h0), (1, .int p1), (2, .int p2), (3, .int p3)]) hx hb dX11_rests_64 hl (k := 0) rfl (by decide) (by decide) rfl (fun ls hl => ?_)
                refine lv_goto (tgt := 36) hx hb dX11_rests_67 (by decide) ?_
                refine lv_iload hx hb dX11_rests_36 (lv_at hl 0 rfl) ?_
                refine lv_iconst (v := 4) hx hb dX11_rests_38 (by decide) ?_
                refine lv_icmp_ge (tgt := 70) hx hb dX11_rests_39 (by decide) (fun _ => ?_) (fun h => absurd (by decide) h)
                refine lv_iload_n hx hb dX11_rests_70 rfl (lv_at hl 5 rfl) ?_
                refine lv_iconst (v := (-1)) hx hb dX11_rests_71 (by decide) ?_
                refine lv_icmp_eq (tgt := 86) hx hb dX11_rests_72 (by decide) (fun c_31 => ?_) (fun c_31 => ?_)
                · refine lv_iload hx hb dX11_rests_86 (lv_at hl 1 rfl) ?_
                  exact vx_ret (ziret hx hb hr rfl hlocks (S := Int32) 1 rfl (by rw [zrs, if_neg c_2, if_neg c_4, if_pos c_5, zrq0, if_pos c_8, zrq1, if_neg c_11, if_neg c_23, zrq3, if_pos c_29, zrq4, if_pos c_31]) hw [] rfl rfl hS (Nat.le_of_ble_eq_true rfl) (Nat.le_of_ble_eq_true rfl) dX11_rests_88)
                · exact zthrow (text := "no such rest") (is := 339) (A := A) hx hb hst hown (hts (.classLink RX11 328 "java/util/NoSuchElementException") (zRp 1 rfl)) (hts (.initialized "java/util/NoSuchElementException") (zRp 2 rfl)) hX.2.2.2 hat hX.1 hX.2.1 hS (hl.1.trans hml.symm) dX11_rests_75 dX11_rests_78 dX11_rests_79 dX11_rests_82 dX11_rests_85 (fun x hx => (htab x hx).elim) (by decide) (by decide) (Nat.le_of_ble_eq_true rfl) (Nat.le_of_ble_eq_true rfl) hlocks (fun t hvm hz hk => ⟨(), by rw [zrs, if_neg c_2, if_neg c_4, if_pos c_5, zrq0, if_pos c_8, zrq1, if_neg c_11, if_neg c_23, zrq3, if_pos c_29, zrq4, if_neg c_31], rfl, Nat.le_trans hS.1 hz, fun q h1 h2 => (hk q (Nat.lt_of_lt_of_le h1 hS.1)).trans (hS.2.1 q h1 h2)⟩) hS.2.2 (Nat.le_of_ble_eq_true rfl) (Nat.le_of_ble_eq_true rfl)
              · refine lv_iload hx hb dX11_rests_52 (lv_at hl 1 rfl) ?_
                refine lv_iload_n hx hb dX11_rests_54 rfl (lv_at hl 5 rfl) ?_
                refine lv_icmp_ne (tgt := 61) hx hb dX11_rests_55 (by decide) (fun c_32 => ?_) (fun c_32 => ?_)
                · refine lv_iinc (v := 2) (lv' := [(4, .int 2), (5, .int 3), (0, .ref h0), (1, .int p1), (2, .int p2), (3, .int p3)]) hx hb dX11_rests_61 hl (k := 1) rfl (by decide) (by decide) rfl (fun ls hl => ?_)
                  refine lv_iinc (v := 4) (lv' := [(5, .int 4), (4, .int 2), (0, .ref h0), (1, .int p1), (2, .int p2), (3, .int p3)]) hx hb dX11_rests_64 hl (k := 1) rfl (by decide) (by decide) rfl (fun ls hl => ?_)
                  refine lv_goto (tgt := 36) hx hb dX11_rests_67 (by decide) ?_
                  refine lv_iload hx hb dX11_rests_36 (lv_at hl 0 rfl) ?_
                  refine lv_iconst (v := 4) hx hb dX11_rests_38 (by decide) ?_
                  refine lv_icmp_ge (tgt := 70) hx hb dX11_rests_39 (by decide) (fun _ => ?_) (fun h => absurd (by decide) h)
                  refine lv_iload_n hx hb dX11_rests_70 rfl (lv_at hl 5 rfl) ?_
                  refine lv_iconst (v := (-1)) hx hb dX11_rests_71 (by decide) ?_
                  refine lv_icmp_eq (tgt := 86) hx hb dX11_rests_72 (by decide) (fun c_34 => ?_) (fun c_34 => ?_)
                  · refine lv_iload hx hb dX11_rests_86 (lv_at hl 1 rfl) ?_
                    exact vx_ret (ziret hx hb hr rfl hlocks (S := Int32) 2 rfl (by rw [zrs, if_neg c_2, if_neg c_4, if_pos c_5, zrq0, if_pos c_8, zrq1, if_neg c_11, if_neg c_23, zrq3, if_neg c_29, if_neg c_32, zrq4, if_pos c_34]) hw [] rfl rfl hS (Nat.le_of_ble_eq_true rfl) (Nat.le_of_ble_eq_true rfl) dX11_rests_88)
                  · exact zthrow (text := "no such rest") (is := 339) (A := A) hx hb hst hown (hts (.classLink RX11 328 "java/util/NoSuchElementException") (zRp 1 rfl)) (hts (.initialized "java/util/NoSuchElementException") (zRp 2 rfl)) hX.2.2.2 hat hX.1 hX.2.1 hS (hl.1.trans hml.symm) dX11_rests_75 dX11_rests_78 dX11_rests_79 dX11_rests_82 dX11_rests_85 (fun x hx => (htab x hx).elim) (by decide) (by decide) (Nat.le_of_ble_eq_true rfl) (Nat.le_of_ble_eq_true rfl) hlocks (fun t hvm hz hk => ⟨(), by rw [zrs, if_neg c_2, if_neg c_4, if_pos c_5, zrq0, if_pos c_8, zrq1, if_neg c_11, if_neg c_23, zrq3, if_neg c_29, if_neg c_32, zrq4, if_neg c_34], rfl, Nat.le_trans hS.1 hz, fun q h1 h2 => (hk q (Nat.lt_of_lt_of_le h1 hS.1)).trans (hS.2.1 q h1 h2)⟩) hS.2.2 (Nat.le_of_ble_eq_true rfl) (Nat.le_of_ble_eq_true rfl)
                · refine lv_iload hx hb dX11_rests_58 (lv_at hl 0 rfl) ?_
                  exact vx_ret (ziret hx hb hr rfl hlocks (S := Int32) 3 rfl (by rw [zrs, if_neg c_2, if_neg c_4, if_pos c_5, zrq0, if_pos c_8, zrq1, if_neg c_11, if_neg c_23, zrq3, if_neg c_29, if_pos c_32]) hw [] rfl rfl hS (Nat.le_of_ble_eq_true rfl) (Nat.le_of_ble_eq_true rfl) dX11_rests_60)
            · refine lv_iload hx hb dX11_rests_58 (lv_at hl 0 rfl) ?_
              exact vx_ret (ziret hx hb hr rfl hlocks (S := Int32) 1 rfl (by rw [zrs, if_neg c_2, if_neg c_4, if_pos c_5, zrq0, if_pos c_8, zrq1, if_neg c_11, if_pos c_23]) hw [] rfl rfl hS (Nat.le_of_ble_eq_true rfl) (Nat.le_of_ble_eq_true rfl) dX11_rests_60)
        · refine lv_iload hx hb dX11_rests_52 (lv_at hl 1 rfl) ?_
          refine lv_iload_n hx hb dX11_rests_54 rfl (lv_at hl 5 rfl) ?_
          refine lv_icmp_ne (tgt := 61) hx hb dX11_rests_55 (by decide) (fun c_35 => ?_) (fun c_35 => ?_)
          · refine lv_iinc (v := 1) (lv' := [(4, .int 1), (5, .int 0), (0, .ref h0), (1, .int p1), (2, .int p2), (3, .int p3)]) hx hb dX11_rests_61 hl (k := 1) rfl (by decide) (by decide) rfl (fun ls hl => ?_)
            refine lv_iinc (v := 1) (lv' := [(5, .int 1), (4, .int 1), (0, .ref h0), (1, .int p1), (2, .int p2), (3, .int p3)]) hx hb dX11_rests_64 hl (k := 1) rfl (by decide) (by decide) rfl (fun ls hl => ?_)
            refine lv_goto (tgt := 36) hx hb dX11_rests_67 (by decide) ?_
            refine lv_iload hx hb dX11_rests_36 (lv_at hl 0 rfl) ?_
            refine lv_iconst (v := 4) hx hb dX11_rests_38 (by decide) ?_
            refine lv_icmp_ge (tgt := 70) hx hb dX11_rests_39 (by decide) (fun h => absurd h (by decide)) (fun _ => ?_)
            refine lv_iload_n hx hb dX11_rests_42 rfl (lv_at hl 3 rfl) ?_
            refine lv_iload_n hx hb dX11_rests_43 rfl (lv_at hl 4 rfl) ?_
            refine lv_iload hx hb dX11_rests_44 (lv_at hl 0 rfl) ?_
            refine scall0 (As := [.int p1, .int p2, .int 1]) (rest := []) ⟨hx, hb, hml, hown, hts⟩ (c_ar1 l D ct p1 p2) (va_cwS 3 hts gX11_rests_X11_isAtRest rfl rfl rfl (by decide +kernel) ⟨Nat.le_of_ble_eq_true rfl, Nat.le_of_ble_eq_true rfl⟩) hw hS hA hK hN rfl rfl hl.1 rfl (Nat.le_of_ble_eq_true rfl) dX11_rests_46 (fun _ H locs hp37 hw hS => ?_)
            have hw : zPD D A [] H := hw
            refine zfr 49 [.int (zat1 p1 p2)] rfl rfl ?_
            refine lv_if_eq (tgt := 64) hx hb dX11_rests_49 (by decide) (fun c_38 => ?_) (fun c_38 => ?_)
            · refine lv_iinc (v := 2) (lv' := [(5, .int 2), (4, .int 1), (0, .ref h0), (1, .int p1), (2, .int p2), (3, .int p3)]) hx hb dX11_rests_64 hl (k := 0) rfl (by decide) (by decide) rfl (fun ls hl => ?_)
              refine lv_goto (tgt := 36) hx hb dX11_rests_67 (by decide) ?_
              refine lv_iload hx hb dX11_rests_36 (lv_at hl 0 rfl) ?_
              refine lv_iconst (v := 4) hx hb dX11_rests_38 (by decide) ?_
              refine lv_icmp_ge (tgt := 70) hx hb dX11_rests_39 (by decide) (fun h => absurd h (by decide)) (fun _ => ?_)
              refine lv_iload_n hx hb dX11_rests_42 rfl (lv_at hl 3 rfl) ?_
              refine lv_iload_n hx hb dX11_rests_43 rfl (lv_at hl 4 rfl) ?_
              refine lv_iload hx hb dX11_rests_44 (lv_at hl 0 rfl) ?_
              refine scall0 (As := [.int p1, .int p2, .int 2]) (rest := []) ⟨hx, hb, hml, hown, hts⟩ (c_ar2 l D ct p1 p2) (va_cwS 3 hts gX11_rests_X11_isAtRest rfl rfl rfl (by decide +kernel) ⟨Nat.le_of_ble_eq_true rfl, Nat.le_of_ble_eq_true rfl⟩) hw hS hA hK hN rfl rfl hl.1 rfl (Nat.le_of_ble_eq_true rfl) dX11_rests_46 (fun _ H locs hp40 hw hS => ?_)
              have hw : zPD D A [] H := hw
              refine zfr 49 [.int 0] rfl rfl ?_
              refine lv_if_eq (tgt := 64) hx hb dX11_rests_49 (by decide) (fun _ => ?_) (fun h => absurd (by decide) h)
              refine lv_iinc (v := 3) (lv' := [(5, .int 3), (4, .int 1), (0, .ref h0), (1, .int p1), (2, .int p2), (3, .int p3)]) hx hb dX11_rests_64 hl (k := 0) rfl (by decide) (by decide) rfl (fun ls hl => ?_)
              refine lv_goto (tgt := 36) hx hb dX11_rests_67 (by decide) ?_
              refine lv_iload hx hb dX11_rests_36 (lv_at hl 0 rfl) ?_
              refine lv_iconst (v := 4) hx hb dX11_rests_38 (by decide) ?_
              refine lv_icmp_ge (tgt := 70) hx hb dX11_rests_39 (by decide) (fun h => absurd h (by decide)) (fun _ => ?_)
              refine lv_iload_n hx hb dX11_rests_42 rfl (lv_at hl 3 rfl) ?_
              refine lv_iload_n hx hb dX11_rests_43 rfl (lv_at hl 4 rfl) ?_
              refine lv_iload hx hb dX11_rests_44 (lv_at hl 0 rfl) ?_
              refine scall0 (As := [.int p1, .int p2, .int 3]) (rest := []) ⟨hx, hb, hml, hown, hts⟩ (c_ar3 l D ct p1 p2) (va_cwS 3 hts gX11_rests_X11_isAtRest rfl rfl rfl (by decide +kernel) ⟨Nat.le_of_ble_eq_true rfl, Nat.le_of_ble_eq_true rfl⟩) hw hS hA hK hN rfl rfl hl.1 rfl (Nat.le_of_ble_eq_true rfl) dX11_rests_46 (fun _ H locs hp43 hw hS => ?_)
              have hw : zPD D A [] H := hw
              refine zfr 49 [.int (zat3 p1 p2)] rfl rfl ?_
              refine lv_if_eq (tgt := 64) hx hb dX11_rests_49 (by decide) (fun c_44 => ?_) (fun c_44 => ?_)
              · refine lv_iinc (v := 4) (lv' := [(5, .int 4), (4, .int 1), (0, .ref h0), (1, .int p1), (2, .int p2), (3, .int p3)]) hx hb dX11_rests_64 hl (k := 0) rfl (by decide) (by decide) rfl (fun ls hl => ?_)
                refine lv_goto (tgt := 36) hx hb dX11_rests_67 (by decide) ?_
                refine lv_iload hx hb dX11_rests_36 (lv_at hl 0 rfl) ?_
                refine lv_iconst (v := 4) hx hb dX11_rests_38 (by decide) ?_
                refine lv_icmp_ge (tgt := 70) hx hb dX11_rests_39 (by decide) (fun _ => ?_) (fun h => absurd (by decide) h)
                refine lv_iload_n hx hb dX11_rests_70 rfl (lv_at hl 5 rfl) ?_
                refine lv_iconst (v := (-1)) hx hb dX11_rests_71 (by decide) ?_
                refine lv_icmp_eq (tgt := 86) hx hb dX11_rests_72 (by decide) (fun c_46 => ?_) (fun c_46 => ?_)
                · refine lv_iload hx hb dX11_rests_86 (lv_at hl 1 rfl) ?_
                  exact vx_ret (ziret hx hb hr rfl hlocks (S := Int32) 1 rfl (by rw [zrs, if_neg c_2, if_neg c_4, if_pos c_5, zrq0, if_neg c_8, if_neg c_35, zrq1, if_pos c_38, zrq3, if_pos c_44, zrq4, if_pos c_46]) hw [] rfl rfl hS (Nat.le_of_ble_eq_true rfl) (Nat.le_of_ble_eq_true rfl) dX11_rests_88)
                · exact zthrow (text := "no such rest") (is := 339) (A := A) hx hb hst hown (hts (.classLink RX11 328 "java/util/NoSuchElementException") (zRp 1 rfl)) (hts (.initialized "java/util/NoSuchElementException") (zRp 2 rfl)) hX.2.2.2 hat hX.1 hX.2.1 hS (hl.1.trans hml.symm) dX11_rests_75 dX11_rests_78 dX11_rests_79 dX11_rests_82 dX11_rests_85 (fun x hx => (htab x hx).elim) (by decide) (by decide) (Nat.le_of_ble_eq_true rfl) (Nat.le_of_ble_eq_true rfl) hlocks (fun t hvm hz hk => ⟨(), by rw [zrs, if_neg c_2, if_neg c_4, if_pos c_5, zrq0, if_neg c_8, if_neg c_35, zrq1, if_pos c_38, zrq3, if_pos c_44, zrq4, if_neg c_46], rfl, Nat.le_trans hS.1 hz, fun q h1 h2 => (hk q (Nat.lt_of_lt_of_le h1 hS.1)).trans (hS.2.1 q h1 h2)⟩) hS.2.2 (Nat.le_of_ble_eq_true rfl) (Nat.le_of_ble_eq_true rfl)
              · refine lv_iload hx hb dX11_rests_52 (lv_at hl 1 rfl) ?_
                refine lv_iload_n hx hb dX11_rests_54 rfl (lv_at hl 5 rfl) ?_
                refine lv_icmp_ne (tgt := 61) hx hb dX11_rests_55 (by decide) (fun c_47 => ?_) (fun c_47 => ?_)
                · refine lv_iinc (v := 2) (lv' := [(4, .int 2), (5, .int 3), (0, .ref h0), (1, .int p1), (2, .int p2), (3, .int p3)]) hx hb dX11_rests_61 hl (k := 1) rfl (by decide) (by decide) rfl (fun ls hl => ?_)
                  refine lv_iinc (v := 4) (lv' := [(5, .int 4), (4, .int 2), (0, .ref h0), (1, .int p1), (2, .int p2), (3, .int p3)]) hx hb dX11_rests_64 hl (k := 1) rfl (by decide) (by decide) rfl (fun ls hl => ?_)
                  refine lv_goto (tgt := 36) hx hb dX11_rests_67 (by decide) ?_
                  refine lv_iload hx hb dX11_rests_36 (lv_at hl 0 rfl) ?_
                  refine lv_iconst (v := 4) hx hb dX11_rests_38 (by decide) ?_
                  refine lv_icmp_ge (tgt := 70) hx hb dX11_rests_39 (by decide) (fun _ => ?_) (fun h => absurd (by decide) h)
                  refine lv_iload_n hx hb dX11_rests_70 rfl (lv_at hl 5 rfl) ?_
                  refine lv_iconst (v := (-1)) hx hb dX11_rests_71 (by decide) ?_
                  refine lv_icmp_eq (tgt := 86) hx hb dX11_rests_72 (by decide) (fun c_49 => ?_) (fun c_49 => ?_)
                  · refine lv_iload hx hb dX11_rests_86 (lv_at hl 1 rfl) ?_
                    exact vx_ret (ziret hx hb hr rfl hlocks (S := Int32) 2 rfl (by rw [zrs, if_neg c_2, if_neg c_4, if_pos c_5, zrq0, if_neg c_8, if_neg c_35, zrq1, if_pos c_38, zrq3, if_neg c_44, if_neg c_47, zrq4, if_pos c_49]) hw [] rfl rfl hS (Nat.le_of_ble_eq_true rfl) (Nat.le_of_ble_eq_true rfl) dX11_rests_88)
                  · exact zthrow (text := "no such rest") (is := 339) (A := A) hx hb hst hown (hts (.classLink RX11 328 "java/util/NoSuchElementException") (zRp 1 rfl)) (hts (.initialized "java/util/NoSuchElementException") (zRp 2 rfl)) hX.2.2.2 hat hX.1 hX.2.1 hS (hl.1.trans hml.symm) dX11_rests_75 dX11_rests_78 dX11_rests_79 dX11_rests_82 dX11_rests_85 (fun x hx => (htab x hx).elim) (by decide) (by decide) (Nat.le_of_ble_eq_true rfl) (Nat.le_of_ble_eq_true rfl) hlocks (fun t hvm hz hk => ⟨(), by rw [zrs, if_neg c_2, if_neg c_4, if_pos c_5, zrq0, if_neg c_8, if_neg c_35, zrq1, if_pos c_38, zrq3, if_neg c_44, if_neg c_47, zrq4, if_neg c_49], rfl, Nat.le_trans hS.1 hz, fun q h1 h2 => (hk q (Nat.lt_of_lt_of_le h1 hS.1)).trans (hS.2.1 q h1 h2)⟩) hS.2.2 (Nat.le_of_ble_eq_true rfl) (Nat.le_of_ble_eq_true rfl)
                · refine lv_iload hx hb dX11_rests_58 (lv_at hl 0 rfl) ?_
                  exact vx_ret (ziret hx hb hr rfl hlocks (S := Int32) 3 rfl (by rw [zrs, if_neg c_2, if_neg c_4, if_pos c_5, zrq0, if_neg c_8, if_neg c_35, zrq1, if_pos c_38, zrq3, if_neg c_44, if_pos c_47]) hw [] rfl rfl hS (Nat.le_of_ble_eq_true rfl) (Nat.le_of_ble_eq_true rfl) dX11_rests_60)
            · refine lv_iload hx hb dX11_rests_52 (lv_at hl 1 rfl) ?_
              refine lv_iload_n hx hb dX11_rests_54 rfl (lv_at hl 5 rfl) ?_
              refine lv_icmp_ne (tgt := 61) hx hb dX11_rests_55 (by decide) (fun c_50 => ?_) (fun c_50 => ?_)
              · refine lv_iinc (v := 2) (lv' := [(4, .int 2), (5, .int 1), (0, .ref h0), (1, .int p1), (2, .int p2), (3, .int p3)]) hx hb dX11_rests_61 hl (k := 1) rfl (by decide) (by decide) rfl (fun ls hl => ?_)
                refine lv_iinc (v := 2) (lv' := [(5, .int 2), (4, .int 2), (0, .ref h0), (1, .int p1), (2, .int p2), (3, .int p3)]) hx hb dX11_rests_64 hl (k := 1) rfl (by decide) (by decide) rfl (fun ls hl => ?_)
                refine lv_goto (tgt := 36) hx hb dX11_rests_67 (by decide) ?_
                refine lv_iload hx hb dX11_rests_36 (lv_at hl 0 rfl) ?_
                refine lv_iconst (v := 4) hx hb dX11_rests_38 (by decide) ?_
                refine lv_icmp_ge (tgt := 70) hx hb dX11_rests_39 (by decide) (fun h => absurd h (by decide)) (fun _ => ?_)
                refine lv_iload_n hx hb dX11_rests_42 rfl (lv_at hl 3 rfl) ?_
                refine lv_iload_n hx hb dX11_rests_43 rfl (lv_at hl 4 rfl) ?_
                refine lv_iload hx hb dX11_rests_44 (lv_at hl 0 rfl) ?_
                refine scall0 (As := [.int p1, .int p2, .int 2]) (rest := []) ⟨hx, hb, hml, hown, hts⟩ (c_ar2 l D ct p1 p2) (va_cwS 3 hts gX11_rests_X11_isAtRest rfl rfl rfl (by decide +kernel) ⟨Nat.le_of_ble_eq_true rfl, Nat.le_of_ble_eq_true rfl⟩) hw hS hA hK hN rfl rfl hl.1 rfl (Nat.le_of_ble_eq_true rfl) dX11_rests_46 (fun _ H locs hp52 hw hS => ?_)
                have hw : zPD D A [] H := hw
                refine zfr 49 [.int 0] rfl rfl ?_
                refine lv_if_eq (tgt := 64) hx hb dX11_rests_49 (by decide) (fun _ => ?_) (fun h => absurd (by decide) h)
                refine lv_iinc (v := 3) (lv' := [(5, .int 3), (4, .int 2), (0, .ref h0), (1, .int p1), (2, .int p2), (3, .int p3)]) hx hb dX11_rests_64 hl (k := 0) rfl (by decide) (by decide) rfl (fun ls hl => ?_)
                refine lv_goto (tgt := 36) hx hb dX11_rests_67 (by decide) ?_
                refine lv_iload hx hb dX11_rests_36 (lv_at hl 0 rfl) ?_
                refine lv_iconst (v := 4) hx hb dX11_rests_38 (by decide) ?_
                refine lv_icmp_ge (tgt := 70) hx hb dX11_rests_39 (by decide) (fun h => absurd h (by decide)) (fun _ => ?_)
                refine lv_iload_n hx hb dX11_rests_42 rfl (lv_at hl 3 rfl) ?_
                refine lv_iload_n hx hb dX11_rests_43 rfl (lv_at hl 4 rfl) ?_
                refine lv_iload hx hb dX11_rests_44 (lv_at hl 0 rfl) ?_
                refine scall0 (As := [.int p1, .int p2, .int 3]) (rest := []) ⟨hx, hb, hml, hown, hts⟩ (c_ar3 l D ct p1 p2) (va_cwS 3 hts gX11_rests_X11_isAtRest rfl rfl rfl (by decide +kernel) ⟨Nat.le_of_ble_eq_true rfl, Nat.le_of_ble_eq_true rfl⟩) hw hS hA hK hN rfl rfl hl.1 rfl (Nat.le_of_ble_eq_true rfl) dX11_rests_46 (fun _ H locs hp55 hw hS => ?_)
                have hw : zPD D A [] H := hw
                refine zfr 49 [.int (zat3 p1 p2)] rfl rfl ?_
                refine lv_if_eq (tgt := 64) hx hb dX11_rests_49 (by decide) (fun c_56 => ?_) (fun c_56 => ?_)
                · refine lv_iinc (v := 4) (lv' := [(5, .int 4), (4, .int 2), (0, .ref h0), (1, .int p1), (2, .int p2), (3, .int p3)]) hx hb dX11_rests_64 hl (k := 0) rfl (by decide) (by decide) rfl (fun ls hl => ?_)
                  refine lv_goto (tgt := 36) hx hb dX11_rests_67 (by decide) ?_
                  refine lv_iload hx hb dX11_rests_36 (lv_at hl 0 rfl) ?_
                  refine lv_iconst (v := 4) hx hb dX11_rests_38 (by decide) ?_
                  refine lv_icmp_ge (tgt := 70) hx hb dX11_rests_39 (by decide) (fun _ => ?_) (fun h => absurd (by decide) h)
                  refine lv_iload_n hx hb dX11_rests_70 rfl (lv_at hl 5 rfl) ?_
                  refine lv_iconst (v := (-1)) hx hb dX11_rests_71 (by decide) ?_
                  refine lv_icmp_eq (tgt := 86) hx hb dX11_rests_72 (by decide) (fun c_58 => ?_) (fun c_58 => ?_)
                  · refine lv_iload hx hb dX11_rests_86 (lv_at hl 1 rfl) ?_
                    exact vx_ret (ziret hx hb hr rfl hlocks (S := Int32) 2 rfl (by rw [zrs, if_neg c_2, if_neg c_4, if_pos c_5, zrq0, if_neg c_8, if_neg c_35, zrq1, if_neg c_38, if_neg c_50, zrq3, if_pos c_56, zrq4, if_pos c_58]) hw [] rfl rfl hS (Nat.le_of_ble_eq_true rfl) (Nat.le_of_ble_eq_true rfl) dX11_rests_88)
                  · exact zthrow (text := "no such rest") (is := 339) (A := A) hx hb hst hown (hts (.classLink RX11 328 "java/util/NoSuchElementException") (zRp 1 rfl)) (hts (.initialized "java/util/NoSuchElementException") (zRp 2 rfl)) hX.2.2.2 hat hX.1 hX.2.1 hS (hl.1.trans hml.symm) dX11_rests_75 dX11_rests_78 dX11_rests_79 dX11_rests_82 dX11_rests_85 (fun x hx => (htab x hx).elim) (by decide) (by decide) (Nat.le_of_ble_eq_true rfl) (Nat.le_of_ble_eq_true rfl) hlocks (fun t hvm hz hk => ⟨(), by rw [zrs, if_neg c_2, if_neg c_4, if_pos c_5, zrq0, if_neg c_8, if_neg c_35, zrq1, if_neg c_38, if_neg c_50, zrq3, if_pos c_56, zrq4, if_neg c_58], rfl, Nat.le_trans hS.1 hz, fun q h1 h2 => (hk q (Nat.lt_of_lt_of_le h1 hS.1)).trans (hS.2.1 q h1 h2)⟩) hS.2.2 (Nat.le_of_ble_eq_true rfl) (Nat.le_of_ble_eq_true rfl)
                · refine lv_iload hx hb dX11_rests_52 (lv_at hl 1 rfl) ?_
                  refine lv_iload_n hx hb dX11_rests_54 rfl (lv_at hl 5 rfl) ?_
                  refine lv_icmp_ne (tgt := 61) hx hb dX11_rests_55 (by decide) (fun c_59 => ?_) (fun c_59 => ?_)
                  · refine lv_iinc (v := 3) (lv' := [(4, .int 3), (5, .int 3), (0, .ref h0), (1, .int p1), (2, .int p2), (3, .int p3)]) hx hb dX11_rests_61 hl (k := 1) rfl (by decide) (by decide) rfl (fun ls hl => ?_)
                    refine lv_iinc (v := 4) (lv' := [(5, .int 4), (4, .int 3), (0, .ref h0), (1, .int p1), (2, .int p2), (3, .int p3)]) hx hb dX11_rests_64 hl (k := 1) rfl (by decide) (by decide) rfl (fun ls hl => ?_)
                    refine lv_goto (tgt := 36) hx hb dX11_rests_67 (by decide) ?_
                    refine lv_iload hx hb dX11_rests_36 (lv_at hl 0 rfl) ?_
                    refine lv_iconst (v := 4) hx hb dX11_rests_38 (by decide) ?_
                    refine lv_icmp_ge (tgt := 70) hx hb dX11_rests_39 (by decide) (fun _ => ?_) (fun h => absurd (by decide) h)
                    refine lv_iload_n hx hb dX11_rests_70 rfl (lv_at hl 5 rfl) ?_
                    refine lv_iconst (v := (-1)) hx hb dX11_rests_71 (by decide) ?_
                    refine lv_icmp_eq (tgt := 86) hx hb dX11_rests_72 (by decide) (fun c_61 => ?_) (fun c_61 => ?_)
                    · refine lv_iload hx hb dX11_rests_86 (lv_at hl 1 rfl) ?_
                      exact vx_ret (ziret hx hb hr rfl hlocks (S := Int32) 3 rfl (by rw [zrs, if_neg c_2, if_neg c_4, if_pos c_5, zrq0, if_neg c_8, if_neg c_35, zrq1, if_neg c_38, if_neg c_50, zrq3, if_neg c_56, if_neg c_59, zrq4, if_pos c_61]) hw [] rfl rfl hS (Nat.le_of_ble_eq_true rfl) (Nat.le_of_ble_eq_true rfl) dX11_rests_88)
                    · exact zthrow (text := "no such rest") (is := 339) (A := A) hx hb hst hown (hts (.classLink RX11 328 "java/util/NoSuchElementException") (zRp 1 rfl)) (hts (.initialized "java/util/NoSuchElementException") (zRp 2 rfl)) hX.2.2.2 hat hX.1 hX.2.1 hS (hl.1.trans hml.symm) dX11_rests_75 dX11_rests_78 dX11_rests_79 dX11_rests_82 dX11_rests_85 (fun x hx => (htab x hx).elim) (by decide) (by decide) (Nat.le_of_ble_eq_true rfl) (Nat.le_of_ble_eq_true rfl) hlocks (fun t hvm hz hk => ⟨(), by rw [zrs, if_neg c_2, if_neg c_4, if_pos c_5, zrq0, if_neg c_8, if_neg c_35, zrq1, if_neg c_38, if_neg c_50, zrq3, if_neg c_56, if_neg c_59, zrq4, if_neg c_61], rfl, Nat.le_trans hS.1 hz, fun q h1 h2 => (hk q (Nat.lt_of_lt_of_le h1 hS.1)).trans (hS.2.1 q h1 h2)⟩) hS.2.2 (Nat.le_of_ble_eq_true rfl) (Nat.le_of_ble_eq_true rfl)
                  · refine lv_iload hx hb dX11_rests_58 (lv_at hl 0 rfl) ?_
                    exact vx_ret (ziret hx hb hr rfl hlocks (S := Int32) 3 rfl (by rw [zrs, if_neg c_2, if_neg c_4, if_pos c_5, zrq0, if_neg c_8, if_neg c_35, zrq1, if_neg c_38, if_neg c_50, zrq3, if_neg c_56, if_pos c_59]) hw [] rfl rfl hS (Nat.le_of_ble_eq_true rfl) (Nat.le_of_ble_eq_true rfl) dX11_rests_60)
              · refine lv_iload hx hb dX11_rests_58 (lv_at hl 0 rfl) ?_
                exact vx_ret (ziret hx hb hr rfl hlocks (S := Int32) 1 rfl (by rw [zrs, if_neg c_2, if_neg c_4, if_pos c_5, zrq0, if_neg c_8, if_neg c_35, zrq1, if_neg c_38, if_pos c_50]) hw [] rfl rfl hS (Nat.le_of_ble_eq_true rfl) (Nat.le_of_ble_eq_true rfl) dX11_rests_60)
          · refine lv_iload hx hb dX11_rests_58 (lv_at hl 0 rfl) ?_
            exact vx_ret (ziret hx hb hr rfl hlocks (S := Int32) 0 rfl (by rw [zrs, if_neg c_2, if_neg c_4, if_pos c_5, zrq0, if_neg c_8, if_pos c_35]) hw [] rfl rfl hS (Nat.le_of_ble_eq_true rfl) (Nat.le_of_ble_eq_true rfl) dX11_rests_60)
      · exact zthrow (text := "no such frontier") (is := 330) (A := A) hx hb hst hown (hts (.classLink RX11 328 "java/util/NoSuchElementException") (zRp 1 rfl)) (hts (.initialized "java/util/NoSuchElementException") (zRp 2 rfl)) hX.2.2.1 hat hX.1 hX.2.1 hS (hl.1.trans hml.symm) dX11_rests_19 dX11_rests_22 dX11_rests_23 dX11_rests_26 dX11_rests_29 (fun x hx => (htab x hx).elim) (by decide) (by decide) (Nat.le_of_ble_eq_true rfl) (Nat.le_of_ble_eq_true rfl) hlocks (fun t hvm hz hk => ⟨(), by rw [zrs, if_neg c_2, if_neg c_4, if_neg c_5], rfl, Nat.le_trans hS.1 hz, fun q h1 h2 => (hk q (Nat.lt_of_lt_of_le h1 hS.1)).trans (hS.2.1 q h1 h2)⟩) hS.2.2 (Nat.le_of_ble_eq_true rfl) (Nat.le_of_ble_eq_true rfl)

set_option maxHeartbeats 4000000 in
set_option maxRecDepth 100000 in
theorem c_restsL (l : Launch) (hst : l.stackTraces = false) (D : va_G) (ct : Nat → ClassId) (h1 h3 : Nat) (fs : List Value) (fo : Nat → Int64) (p1 p2 p3 : Int32) (sa sb sz : Nat) : vx_Met l yL_rests zwsRL ({ frames := 12, cells := 1, slots := 6, locals := 500 }) (zPx D ct sa sb [.ref h1, .int p1, .int p2, .int p3, .ref h3] [(h1, .inr (10, fs)), (h3, .inl (ct 1, 1, .inr (.inl fo)))] sz) (zQ D (va_A [(h1, .inr (10, fs)), (h3, .inl (ct 1, 1, .inr (.inl fo)))] sz) (S := Unit) (fun _ => some (.int (zth p1 p2 p3))) (fun _ => True) (fun _ => [(h1, .inr (10, fs)), (h3, .inl (ct 1, 1, .inr (.inl (zou fo p1 p2 p3))))])) (vx_X (S := Unit) (fun _ => False) (fun _ _ _ => True) (va_A [(h1, .inr (10, fs)), (h3, .inl (ct 1, 1, .inr (.inl fo)))] sz)) 1 6 (va_A [(h1, .inr (10, fs)), (h3, .inl (ct 1, 1, .inr (.inl fo)))] sz) := by
  refine vx_ofWH (cc := cL_rests) (maxL := 6) (ret := some .int) (hh := [(0, 12, 15, 13)]) (by decide) rfl ?_
  intro p e s m args below meth c s₁ Bd hml hv
  obtain ⟨⟨rfl, hsz, hP, hK, hD0, hZ, hN⟩, hX⟩ := hv
  have hts := atoms_spec (ws := zwsRL) Bd.pre
  have htab := vx_table (x := yL_rests) Bd (hts _ List.mem_cons_self)
  subst hsz
  have hD := hD0.self (sz := s.heap.size)
  have hl := lv_entry [.ref h1, .int p1, .int p2, .int p3, .ref h3] (n := 6) (Nat.le_of_ble_eq_true rfl)
  rw [lg_entry_eq]
  have hx := Bd.exec
  have hb := Bd.bytes
  have hr := Bd.returns
  have hown : s.vm.findClass RL = some m.cls := findClass_of_methodNamed Bd.named
  have hlocks := Bd.notSynchronized
  have hA : ∀ q, s.heap.size ≤ q → va_A [(h1, .inr (10, fs)), (h3, .inl (ct 1, 1, .inr (.inl fo)))] s.heap.size q := fun q h => Or.inr h
  have hS : va_S (va_A [(h1, .inr (10, fs)), (h3, .inl (ct 1, 1, .inr (.inl fo)))] s.heap.size) s.heap s.heap [] := va_S.rf
  have hw : zPD D (va_A [(h1, .inr (10, fs)), (h3, .inl (ct 1, 1, .inr (.inl fo)))] s.heap.size) [(h1, .inr (10, fs)), (h3, .inl (ct 1, 1, .inr (.inl fo)))] s.heap := ⟨hP, hD⟩
  generalize va_A [(h1, .inr (10, fs)), (h3, .inl (ct 1, 1, .inr (.inl fo)))] s.heap.size = A at hX hA hS hw ⊢
  generalize (lg_sl ([.ref h1, .int p1, .int p2, .int p3, .ref h3] : List Value) ++ List.replicate (6 - (lg_sl ([.ref h1, .int p1, .int p2, .int p3, .ref h3] : List Value)).length) Slot.unset).toArray = ls at hl ⊢
  have hl : lv_has ls 6 [(0, .ref h1), (1, .int p1), (2, .int p2), (3, .int p3), (4, .ref h3)] := hl
  generalize hH0 : s.heap = H at hw
  have hS : va_S A s.heap H [] := hH0 ▸ hS
  generalize hlo : ([] : List Loc) = locs at hS
  show W p l e ({ frames := 12, cells := 1, slots := 6, locals := 500 }) s m _ below meth c H locs 0 0 _ _
  refine lv_aload hx hb dL_rests_0 (lv_at hl 4 rfl) ?_
  refine lv_iconst (v := 0) hx hb dL_rests_2 (by decide) ?_
  refine lv_aload_n hx hb dL_rests_3 rfl (lv_at hl 0 rfl) ?_
  refine lv_iload_n hx hb dL_rests_4 rfl (lv_at hl 1 rfl) ?_
  refine lv_iload_n hx hb dL_rests_5 rfl (lv_at hl 2 rfl) ?_
  refine lv_iload_n hx hb dL_rests_6 rfl (lv_at hl 3 rfl) ?_
  refine zxcall (w0 := []) (wr := [(h1, .inr (10, fs)), (h3, .inl (ct 1, 1, .inr (.inl fo)))]) (vx_runV (As := [.int p1, .int p2, .int p3]) (rest := [.int 0, .ref h3]) ⟨hx, hb, hml, hown, hts⟩ (c_rests11 l hst D ct h1 p1 p2 p3 sa sb H.size) (cwV 3 hts gL_rests_X11_rests rfl rfl rfl (by decide +kernel) ⟨Nat.le_of_ble_eq_true rfl, Nat.le_of_ble_eq_true rfl⟩) (zprexV hK hw hS hA hX hN [] rfl rfl 10 0 rfl rfl) rfl rfl hl.1 rfl (lv_room (Nat.le_of_ble_eq_true rfl)) dL_rests_7 ⟨Nat.le_of_ble_eq_true rfl, Nat.le_of_ble_eq_true rfl⟩) hw hS hA [] [0, 1] rfl rfl rfl (by decide) (fun E ce q9 t H locs hp hE hw hS hce hcv hcl => ?_) (fun v H locs hp hw hS => ?_)
  · subst hE
    refine vx_catch (name := "java/util/NoSuchElementException") hown [] ⟨0, 12, 15, 13⟩ [] htab (fun z hz => nomatch hz) (by decide) (by decide) (hts (.classLink RL 13 "java/util/NoSuchElementException") (zLp 1 rfl)) (zcastR hcl) hce hcv hcl ?_
    refine lv_astore (lv' := [(5, .ref q9), (0, .ref h1), (1, .int p1), (2, .int p2), (3, .int p3), (4, .ref h3)]) hx hb dL_rests_15 hl (by decide) rfl (fun ls hl => ?_)
    refine lv_iconst (v := 1) hx hb dL_rests_17 (by decide) ?_
    exact vx_ret (ziret hx hb hr rfl hlocks (S := Unit) () (congrArg (fun z => some (Value.int z)) (zth_none hp)) trivial hw [0, 1] rfl (by rw [zou_none hp]; rfl) hS (Nat.le_of_ble_eq_true rfl) (Nat.le_of_ble_eq_true rfl) dL_rests_18)
  · refine zfr 10 [.int v, .int 0, .ref h3] rfl rfl ?_
    have hw : zPD D A [(h1, .inr (10, fs)), (h3, .inl (ct 1, 1, .inr (.inl fo)))] H := hw
    refine lv_i2l (v := v.toInt64) hx hb dL_rests_10 rfl ?_
    refine zlast hx hb hK hw hS 1 rfl 0 (by decide) (by decide) (by decide) dL_rests_11 [(h1, .inr (10, fs)), (h3, .inl (ct 1, 1, .inr (.inl (vp_updL fo 0 v.toInt64))))] rfl (fun H locs hw hS => ?_)
    refine lv_goto (tgt := 19) hx hb dL_rests_12 (by decide) ?_
    refine lv_iconst (v := 0) hx hb dL_rests_19 (by decide) ?_
    exact vx_ret (ziret hx hb hr rfl hlocks (S := Unit) () (congrArg (fun z => some (Value.int z)) (zth_some hp)) trivial hw [0, 1] rfl (by rw [zou_some hp]; rfl) hS (Nat.le_of_ble_eq_true rfl) (Nat.le_of_ble_eq_true rfl) dL_rests_20)
set_option maxHeartbeats 4000000 in
set_option maxRecDepth 100000 in
theorem zknow {s : State} {args : Array Value} (hts : ∀ w ∈ lw_tbl, w.before args s = true) : ∃ (D : va_G) (ct : Nat → ClassId), va_K D vwCl (zT ct) s := by
  obtain ⟨c0, i0, k0⟩ := u_known (C := RX0) (T := TX0) (N := 1) (n := 1) hts in_wsX00 (hts (.instantiable RX0 1) (ztm1 223 (by decide +kernel)))
  obtain ⟨c1, i1, k1⟩ := u_known (C := RX1) (T := TX1) (N := 4) (n := 4) hts in_wsX10 (hts (.instantiable RX1 4) (ztm1 203 (by decide +kernel)))
  obtain ⟨c2, i2, k2⟩ := u_known (C := RX2) (T := TX2) (N := 13) (n := 13) hts in_wsX20 (hts (.instantiable RX2 13) (ztm1 77 (by decide +kernel)))
  obtain ⟨c3, i3, k3⟩ := u_known (C := RX3) (T := TX3) (N := 3) (n := 3) hts in_wsX30 (hts (.instantiable RX3 3) (ztm1 187 (by decide +kernel)))
  obtain ⟨c4, i4, k4⟩ := u_known (C := RX4) (T := TX4) (N := 3) (n := 3) hts in_wsX40 (hts (.instantiable RX4 3) (ztm1 83 (by decide +kernel)))
  obtain ⟨c5, i5, k5⟩ := u_known (C := RX5) (T := TX5) (N := 4) (n := 4) hts in_wsX50 (hts (.instantiable RX5 4) (ztm2 82 (by decide +kernel)))
  obtain ⟨c6, i6, k6⟩ := u_known (C := RX6) (T := TX6) (N := 2) (n := 2) hts in_wsX60 (hts (.instantiable RX6 2) (ztm2 64 (by decide +kernel)))
  obtain ⟨c7, i7, k7⟩ := u_known (C := RX8) (T := TX8) (N := 6) (n := 6) hts in_wsX80 (hts (.instantiable RX8 6) (ztm1 239 (by decide +kernel)))
  obtain ⟨c8, i8, k8⟩ := u_known (C := RX9) (T := TX9) (N := 8) (n := 8) hts in_wsX90 (hts (.instantiable RX9 8) (ztm1 36 (by decide +kernel)))
  obtain ⟨c9, i9, k9⟩ := u_known (C := RX10) (T := TX10) (N := 7) (n := 7) hts in_wsX100 (hts (.instantiable RX10 7) (ztm1 233 (by decide +kernel)))
  obtain ⟨c10, i10, k10⟩ := u_known (C := RX11) (T := TX11) (N := 15) (n := 15) hts in_wsX110 (hts (.instantiable RX11 15) (ztm1 28 (by decide +kernel)))
  obtain ⟨c11, i11, k11⟩ := u_known (C := RX12) (T := TX12) (N := 57) (n := 57) hts in_wsX120 (hts (.instantiable RX12 57) (ztm5 186 (by decide +kernel)))
  obtain ⟨aI, kaI, cmI, faI, hkI, hdI⟩ := Cond.arrayClass_spec (hts (.arrayClass .int) (ztm1 99 (by decide +kernel)))
  obtain ⟨aJ, kaJ, cmJ, faJ, hkJ, hdJ⟩ := Cond.arrayClass_spec (hts (.arrayClass .long) (ztm1 100 (by decide +kernel)))
  obtain ⟨aC, kaC, cmC, faC, hkC, hdC⟩ := Cond.arrayClass_spec (hts (.arrayClass .char) (ztm1 75 (by decide +kernel)))
  obtain ⟨aZ, kaZ, cmZ, faZ, hkZ, hdZ⟩ := Cond.arrayClass_spec (hts (.arrayClass .boolean) (ztm6 123 (by decide +kernel)))
  obtain ⟨cmS, aS, kaS, fcS, ixS, hkS, hdS, faS⟩ := Cond.arrayOver_spec (hts (.arrayOver (.object RX8)) (ztm2 79 (by decide +kernel)))
  obtain ⟨cmM, aM, kaM, fcM, ixM, hkM, hdM, faM⟩ := Cond.arrayOver_spec (hts (.arrayOver (.object RX5)) (ztm2 81 (by decide +kernel)))
  refine ⟨(fun k => ([c0, c1, c2, c3, c4, c5, c6, c7, c8, c9, c10, c11] : List ClassId).getD k c0, fun k => ([i0, i1, i2, i3, i4, i5, i6, i7, i8, i9, i10, i11] : List (Nat → Nat)).getD k i0), fun k => ([aI, aJ, aC, aZ, aS, aM] : List ClassId).getD k aI, ?_, ?_⟩
  · intro k q hq
    match k, hq with
    | 0, hq => cases hq; exact k0
    | 1, hq => cases hq; exact k1
    | 2, hq => cases hq; exact k2
    | 3, hq => cases hq; exact k3
    | 4, hq => cases hq; exact k4
    | 5, hq => cases hq; exact k5
    | 6, hq => cases hq; exact k6
    | 7, hq => cases hq; exact k7
    | 8, hq => cases hq; exact k8
    | 9, hq => cases hq; exact k9
    | 10, hq => cases hq; exact k10
    | 11, hq => cases hq; exact k11
    | k + 12, hq => simp [vwCl] at hq
  · intro k q hq
    match k, hq with
    | 0, hq => cases hq; exact ⟨fun n z => ⟨fun k h => (by cases h), kaI, hkI, cmI, hdI⟩, faI⟩
    | 1, hq => cases hq; exact ⟨fun n z => ⟨fun k h => (by cases h), kaJ, hkJ, cmJ, hdJ⟩, faJ⟩
    | 2, hq => cases hq; exact ⟨fun n z => ⟨fun k h => (by cases h), kaC, hkC, cmC, hdC⟩, faC⟩
    | 3, hq => cases hq; exact ⟨fun n z => ⟨fun k h => (by cases h), kaZ, hkZ, cmZ, hdZ⟩, faZ⟩
    | 4, hq => cases hq; exact ⟨fun n z => ⟨fun k h => (by cases h), kaS, hkS, cmS, hdS⟩, kaS, cmS, hkS, hdS, fcS, faS⟩
    | 5, hq => cases hq; exact ⟨fun n z => ⟨fun k h => (by cases h), kaM, hkM, cmM, hdM⟩, kaM, cmM, hkM, hdM, fcM, faM⟩
    | k + 6, hq => simp [zT] at hq

theorem zNc {q : String × Nat × MethodName × String} {l : List (String × Nat × MethodName × String)} {U : State} (h : va_Nw (.methodLinkNest q.1 q.2.1 q.2.2.1 q.2.2.2) U) (hl : ∀ q ∈ l, va_Nw (.methodLinkNest q.1 q.2.1 q.2.2.1 q.2.2.2) U) : ∀ q9 ∈ q :: l, va_Nw (.methodLinkNest q9.1 q9.2.1 q9.2.2.1 q9.2.2.2) U := List.forall_mem_cons.mpr ⟨h, hl⟩
set_option maxRecDepth 100000 in
theorem zNof {s : State} {args : Array Value} (hts : ∀ w ∈ lw_tbl, w.before args s = true) : zN s := ⟨zNc (va_Nw.of rfl (hts (.methodLinkNest RX11 9 yX9_init RX11) (ztm1 37 (by decide +kernel)))) (zNc (va_Nw.of rfl (hts (.methodLinkNest RX2 39 yX4_init RX11) (ztm1 84 (by decide +kernel)))) (zNc (va_Nw.of rfl (hts (.methodLinkNest RX11 28 yX3_init RX11) (ztm1 188 (by decide +kernel)))) (zNc (va_Nw.of rfl (hts (.methodLinkNest RX11 35 yX1_init RX11) (ztm1 204 (by decide +kernel)))) (zNc (va_Nw.of rfl (hts (.methodLinkNest RX10 11 yX8_init RX11) (ztm2 0 (by decide +kernel)))) (zNc (va_Nw.of rfl (hts (.methodLinkNest RX11 63 yX8_init RX11) (ztm2 62 (by decide +kernel)))) (zNc (va_Nw.of rfl (hts (.methodLinkNest RX11 73 yX6_init RX11) (ztm2 65 (by decide +kernel)))) (zNc (va_Nw.of rfl (hts (.methodLinkNest RX11 95 yX5_init RX11) (ztm2 83 (by decide +kernel)))) (zNc (va_Nw.of rfl (hts (.methodLinkNest RX5 9 yX8_init RX11) (ztm2 88 (by decide +kernel)))) (zNc (va_Nw.of rfl (hts (.methodLinkNest RX5 18 yX1_init RX11) (ztm2 90 (by decide +kernel)))) (zNc (va_Nw.of rfl (hts (.methodLinkNest RX5 25 yX6_init RX11) (ztm2 92 (by decide +kernel)))) (zNc (va_Nw.of rfl (hts (.methodLinkNest RX3 144 yX11_has RX11) (ztm3 76 (by decide +kernel)))) (zNc (va_Nw.of rfl (hts (.methodLinkNest RX3 99 yX4_readWhole RX11) (ztm3 124 (by decide +kernel)))) (zNc (va_Nw.of rfl (hts (.methodLinkNest RX0 70 yX11_has RX11) (ztm4 72 (by decide +kernel)))) (zNc (va_Nw.of rfl (hts (.methodLinkNest RX10 69 yX11_has RX11) (ztm4 187 (by decide +kernel)))) (fun _ h => nomatch h))))))))))))))), va_AO.of (hts (.arrayOver (.object RX8)) (ztm2 79 (by decide +kernel))), va_AO.of (hts (.arrayOver (.object RX5)) (ztm2 81 (by decide +kernel)))⟩
set_option maxRecDepth 100000 in
theorem zXof {s : State} {args : Array Value} (hts : ∀ w ∈ lw_tbl, w.before args s = true) (hgv : (Jvm.Cond.and given_1 narrow_1).before args s = true) : ∃ sa sb : Nat, zXF (fun q : Nat => s.heap.size ≤ q) s s.heap sa sb := by
  have hs := flat_of_before _ hgv
  obtain ⟨sa, _, _, _, q1, -⟩ := Cond.exactly_spec (hs (.exactly (.string "BeardPass" 330) "java/lang/String") (by decide +kernel))
  obtain ⟨sb, _, _, _, q2, -⟩ := Cond.exactly_spec (hs (.exactly (.string "BeardPass" 339) "java/lang/String") (by decide +kernel))
  refine ⟨sa, sb, vx_Zqof (hts (.laysStatic "java/lang/Throwable" "UNASSIGNED_STACK" "[Ljava/lang/StackTraceElement;") (ztm5 137 (by decide +kernel))) (hts (.initialized "java/lang/Throwable") (ztm1 23 (by decide +kernel))) (hs (.isRef (.static "java/lang/Throwable" "UNASSIGNED_STACK" "[Ljava/lang/StackTraceElement;")) (by decide +kernel)) (fun a h => Nat.not_le.mpr h), vx_Zqof (hts (.laysStatic "java/lang/Throwable" "SUPPRESSED_SENTINEL" "Ljava/util/List;") (ztm5 139 (by decide +kernel))) (hts (.initialized "java/lang/Throwable") (ztm1 23 (by decide +kernel))) (hs (.isRef (.static "java/lang/Throwable" "SUPPRESSED_SENTINEL" "Ljava/util/List;")) (by decide +kernel)) (fun a h => Nat.not_le.mpr h), vk_R.of (hts (.stringRef RX11 330 "no such frontier") (ztm5 149 (by decide +kernel))) q1, vk_R.of (hts (.stringRef RX11 339 "no such rest") (ztm5 184 (by decide +kernel))) q2⟩
