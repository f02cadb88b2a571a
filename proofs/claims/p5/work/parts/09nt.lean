/-! ===== the throw of NoSuchElementException(String): its constructor calls its super's by entry 13 (so the kit's row for entry 7 doesn't serve); the proof follows the library's own law for entry 7, word by word where it can ===== -/
def zsix : ByteArray := ⟨#[0x2a, 0x2b, 0xb7, 0x00, 0x0d, 0xb1]⟩
theorem zsix_0 : decode zsix 0 = .ok (.aload_n 0, 1) := by decide +kernel
theorem zsix_1 : decode zsix 1 = .ok (.aload_n 1, 1) := by decide +kernel
theorem zsix_2 : decode zsix 2 = .ok (.invokespecial 13, 3) := by decide +kernel
theorem zsix_5 : decode zsix 5 = .ok (.return_, 1) := by decide +kernel
def zTail : List Cond := [.methodLink RX11 332 (Bundle.initS "java/util/NoSuchElementException"), .instantiable "java/util/NoSuchElementException" 6, .selects "java/util/NoSuchElementException" Bundle.tFill0 Bundle.tFill0, .selects "java/util/NoSuchElementException" Bundle.tFill Bundle.tFill, .lays "java/util/NoSuchElementException" Bundle.tN "cause" "Ljava/lang/Throwable;", .lays "java/util/NoSuchElementException" Bundle.tN "stackTrace" Bundle.steD, .lays "java/util/NoSuchElementException" Bundle.tN "suppressedExceptions" Bundle.listD, .lays "java/util/NoSuchElementException" Bundle.tN "detailMessage" "Ljava/lang/String;", .fieldLink Bundle.tN 198 Bundle.tN "backtrace" "Ljava/lang/Object;", .lays Bundle.tN Bundle.tN "backtrace" "Ljava/lang/Object;", .lays "java/util/NoSuchElementException" Bundle.tN "backtrace" "Ljava/lang/Object;"]
def zOwn : List Cond := Bundle.throwableAtoms ++ (Bundle.throwableSAtoms ++ (Bundle.passSAtoms "java/util/NoSuchElementException" "java/lang/RuntimeException" 13 zsix ++ (Bundle.chainSAtoms "java/lang/RuntimeException" ["java/lang/Exception"] ++ zTail)))
/-- the words of it that a method's list may hold -/
def zAt : List Cond := [.initialized Bundle.tN, .superclass Bundle.tN "java/lang/Object", .instanceMethod Bundle.tFill, .codeSync Bundle.tFill LibCode.Throwable.Fill.code 1 (some (.object Bundle.tN)), .instanceMethod Bundle.tFill0, .native Bundle.tFill0, .instanceMethod Bundle.tInit0, .code Bundle.tInit0 LibCode.Throwable.Init0.code 1 none, .instanceMethod Bundle.oInit, .code Bundle.oInit ⟨#[0xb1]⟩ 1 none, .methodLink Bundle.tN 1 Bundle.oInit, .methodLink Bundle.tN 27 Bundle.tFill, .methodLink Bundle.tN 202 Bundle.tFill0, .fieldLink Bundle.tN 7 Bundle.tN "cause" "Ljava/lang/Throwable;", .lays Bundle.tN Bundle.tN "cause" "Ljava/lang/Throwable;", .fieldLink Bundle.tN 17 Bundle.tN "stackTrace" Bundle.steD, .lays Bundle.tN Bundle.tN "stackTrace" Bundle.steD, .fieldLink Bundle.tN 24 Bundle.tN "suppressedExceptions" Bundle.listD, .lays Bundle.tN Bundle.tN "suppressedExceptions" Bundle.listD, .fieldLink Bundle.tN 13 Bundle.tN "UNASSIGNED_STACK" Bundle.steD, .fieldLink Bundle.tN 20 Bundle.tN "SUPPRESSED_SENTINEL" Bundle.listD, .lays Bundle.tN Bundle.tN "detailMessage" "Ljava/lang/String;", .instanceMethod (Bundle.initS Bundle.tN), .code (Bundle.initS Bundle.tN) LibCode.Throwable.InitS.code 2 none, .fieldLink Bundle.tN 31 Bundle.tN "detailMessage" "Ljava/lang/String;", .instanceMethod (Bundle.initS "java/util/NoSuchElementException"), .code (Bundle.initS "java/util/NoSuchElementException") zsix 2 none, .methodLink "java/util/NoSuchElementException" 13 (Bundle.initS "java/lang/RuntimeException"), .instanceMethod (Bundle.initS "java/lang/RuntimeException"), .code (Bundle.initS "java/lang/RuntimeException") Bundle.six 2 none, .methodLink "java/lang/RuntimeException" 7 (Bundle.initS "java/lang/Exception"), .instanceMethod (Bundle.initS "java/lang/Exception"), .code (Bundle.initS "java/lang/Exception") Bundle.six 2 none, .methodLink "java/lang/Exception" 7 (Bundle.initS Bundle.tN), .methodLink RX11 332 (Bundle.initS "java/util/NoSuchElementException"), .instantiable "java/util/NoSuchElementException" 6, .selects "java/util/NoSuchElementException" Bundle.tFill0 Bundle.tFill0, .selects "java/util/NoSuchElementException" Bundle.tFill Bundle.tFill, .lays "java/util/NoSuchElementException" Bundle.tN "cause" "Ljava/lang/Throwable;", .lays "java/util/NoSuchElementException" Bundle.tN "stackTrace" Bundle.steD, .lays "java/util/NoSuchElementException" Bundle.tN "suppressedExceptions" Bundle.listD, .lays "java/util/NoSuchElementException" Bundle.tN "detailMessage" "Ljava/lang/String;", .lays "java/util/NoSuchElementException" Bundle.tN "backtrace" "Ljava/lang/Object;", .fieldLink Bundle.tN 198 Bundle.tN "backtrace" "Ljava/lang/Object;", .lays Bundle.tN Bundle.tN "backtrace" "Ljava/lang/Object;"]
theorem zAt_good : ∀ w ∈ zAt, goodWord w = true := List.all_eq_true.mp (by decide +kernel)
theorem zdecl {x : MethodName} {b : ByteArray} {n : Nat} {r : Option FieldType} {args : Array Value} {s : State} (h1 : (Cond.instanceMethod x).before args s = true) (h2 : (Cond.code x b n r).before args s = true) : (Cond.declares x).before args s = true := by
  obtain ⟨m, meth, hn, hm, hst, hab⟩ := Cond.instanceMethod_spec h1
  obtain ⟨meth', cO, hm', -, -, -, -, -, -, hsig⟩ := Cond.code_spec hn h2
  cases Option.some.inj (hm.symm.trans hm')
  show (Cond.declares x).holds args s none s [] = true
  simp [Cond.holds, Cond.value, hn, hm, hst, hsig]
theorem zcastR {C : String} {cid : ClassId} {args : Array Value} {s : State} (h : s.vm.findClass C = some cid) : (Cond.castable C C).before args s = true := by
  show (Cond.castable C C).holds args s none s [] = true
  have ha : s.vm.assignable cid cid = true := by
    show s.vm.assignableAux (255 + 1) cid cid = true
    rw [Vm.assignableAux.eq_2, beq_self_eq_true, Bool.true_or]
  simp [Cond.holds, Cond.value, h, ha]
theorem zfc {P : Cond → Prop} {w : Cond} {a : List Cond} (h : P w) (ha : ∀ w ∈ a, P w) : ∀ w9 ∈ w :: a, P w9 := List.forall_mem_cons.mpr ⟨h, ha⟩
theorem zfa {P : Cond → Prop} {a b : List Cond} (ha : ∀ w ∈ a, P w) (hb : ∀ w ∈ b, P w) : ∀ w ∈ a ++ b, P w := fun w h => (List.mem_append.mp h).elim (ha w) (hb w)
theorem zfn {P : Cond → Prop} : ∀ w ∈ ([] : List Cond), P w := fun _ h => nomatch h
theorem zq {w : Cond} (i : Nat) (h : zAt[i]? = some w) : w ∈ zAt := List.mem_of_getElem? h
set_option maxRecDepth 20000 in
theorem zAt_own {args : Array Value} {s : State} (h : ∀ w ∈ zAt, w.before args s = true)
    (lU : (Cond.laysStatic Bundle.tN "UNASSIGNED_STACK" Bundle.steD).before args s = true) (lN : (Cond.laysStatic Bundle.tN "SUPPRESSED_SENTINEL" Bundle.listD).before args s = true) : ∀ w ∈ zOwn, w.before args s = true :=
  zfa (P := fun w => w.before args s = true) (show ∀ w ∈ Bundle.throwableAtoms, w.before args s = true from (zfc (P := fun w => w.before args s = true) (h _ (zq 0 rfl)) (zfc (P := fun w => w.before args s = true) (h _ (zq 1 rfl)) (zfc (P := fun w => w.before args s = true) (h _ (zq 2 rfl)) (zfc (P := fun w => w.before args s = true) (h _ (zq 3 rfl)) (zfc (P := fun w => w.before args s = true) (h _ (zq 4 rfl)) (zfc (P := fun w => w.before args s = true) (h _ (zq 5 rfl)) (zfc (P := fun w => w.before args s = true) (h _ (zq 6 rfl)) (zfc (P := fun w => w.before args s = true) (h _ (zq 7 rfl)) (zfc (P := fun w => w.before args s = true) (h _ (zq 8 rfl)) (zfc (P := fun w => w.before args s = true) (h _ (zq 9 rfl)) (zfc (P := fun w => w.before args s = true) (h _ (zq 10 rfl)) (zfc (P := fun w => w.before args s = true) (h _ (zq 11 rfl)) (zfc (P := fun w => w.before args s = true) (h _ (zq 12 rfl)) (zfc (P := fun w => w.before args s = true) (h _ (zq 13 rfl)) (zfc (P := fun w => w.before args s = true) (h _ (zq 14 rfl)) (zfc (P := fun w => w.before args s = true) (h _ (zq 15 rfl)) (zfc (P := fun w => w.before args s = true) (h _ (zq 16 rfl)) (zfc (P := fun w => w.before args s = true) (h _ (zq 17 rfl)) (zfc (P := fun w => w.before args s = true) (h _ (zq 18 rfl)) (zfc (P := fun w => w.before args s = true) (h _ (zq 19 rfl)) (zfc (P := fun w => w.before args s = true) lU (zfc (P := fun w => w.before args s = true) (h _ (zq 20 rfl)) (zfc (P := fun w => w.before args s = true) lN (zfc (P := fun w => w.before args s = true) (h _ (zq 21 rfl)) zfn))))))))))))))))))))))))) (zfa (P := fun w => w.before args s = true) (show ∀ w ∈ Bundle.throwableSAtoms, w.before args s = true from (zfc (P := fun w => w.before args s = true) (h _ (zq 22 rfl)) (zfc (P := fun w => w.before args s = true) (h _ (zq 23 rfl)) (zfc (P := fun w => w.before args s = true) (h _ (zq 24 rfl)) (zfc (P := fun w => w.before args s = true) (h _ (zq 21 rfl)) zfn))))) (zfa (P := fun w => w.before args s = true) (show ∀ w ∈ Bundle.passSAtoms "java/util/NoSuchElementException" "java/lang/RuntimeException" 13 zsix, w.before args s = true from (zfc (P := fun w => w.before args s = true) (h _ (zq 25 rfl)) (zfc (P := fun w => w.before args s = true) (h _ (zq 26 rfl)) (zfc (P := fun w => w.before args s = true) (h _ (zq 27 rfl)) (zfc (P := fun w => w.before args s = true) (h _ (zq 28 rfl)) (zfc (P := fun w => w.before args s = true) (zdecl (h _ (zq 28 rfl)) (h _ (zq 29 rfl))) zfn)))))) (zfa (P := fun w => w.before args s = true) (show ∀ w ∈ Bundle.passSAtoms "java/lang/RuntimeException" "java/lang/Exception" 7 Bundle.six ++ Bundle.passSAtoms "java/lang/Exception" Bundle.tN 7 Bundle.six, w.before args s = true from zfa (P := fun w => w.before args s = true) (zfc (P := fun w => w.before args s = true) (h _ (zq 28 rfl)) (zfc (P := fun w => w.before args s = true) (h _ (zq 29 rfl)) (zfc (P := fun w => w.before args s = true) (h _ (zq 30 rfl)) (zfc (P := fun w => w.before args s = true) (h _ (zq 31 rfl)) (zfc (P := fun w => w.before args s = true) (zdecl (h _ (zq 31 rfl)) (h _ (zq 32 rfl))) zfn))))) (zfc (P := fun w => w.before args s = true) (h _ (zq 31 rfl)) (zfc (P := fun w => w.before args s = true) (h _ (zq 32 rfl)) (zfc (P := fun w => w.before args s = true) (h _ (zq 33 rfl)) (zfc (P := fun w => w.before args s = true) (h _ (zq 22 rfl)) (zfc (P := fun w => w.before args s = true) (zdecl (h _ (zq 22 rfl)) (h _ (zq 23 rfl))) zfn)))))) (show ∀ w ∈ zTail, w.before args s = true from (zfc (P := fun w => w.before args s = true) (h _ (zq 34 rfl)) (zfc (P := fun w => w.before args s = true) (h _ (zq 35 rfl)) (zfc (P := fun w => w.before args s = true) (h _ (zq 36 rfl)) (zfc (P := fun w => w.before args s = true) (h _ (zq 37 rfl)) (zfc (P := fun w => w.before args s = true) (h _ (zq 38 rfl)) (zfc (P := fun w => w.before args s = true) (h _ (zq 39 rfl)) (zfc (P := fun w => w.before args s = true) (h _ (zq 40 rfl)) (zfc (P := fun w => w.before args s = true) (h _ (zq 41 rfl)) (zfc (P := fun w => w.before args s = true) (h _ (zq 43 rfl)) (zfc (P := fun w => w.before args s = true) (h _ (zq 44 rfl)) (zfc (P := fun w => w.before args s = true) (h _ (zq 42 rfl)) zfn)))))))))))))))
section ZTH
variable {p : Program} {l : Launch} {e : Env} {R : Room} {s : State} {m : MethodId} {args : Array Value} {below : List Frame} {meth : Method} {c : Code} {V : State} {locs : List Loc} {cells slots : Nat}
theorem zT1 {w : Cond} (h : w ∈ Bundle.throwableAtoms) : w ∈ zOwn := List.mem_append_left _ h
theorem zT2 {w : Cond} (h : w ∈ Bundle.throwableSAtoms) : w ∈ zOwn := List.mem_append_right _ (List.mem_append_left _ h)
theorem zT3 {w : Cond} (h : w ∈ Bundle.passSAtoms "java/util/NoSuchElementException" "java/lang/RuntimeException" 13 zsix) : w ∈ zOwn := List.mem_append_right _ (List.mem_append_right _ (List.mem_append_left _ h))
theorem zT4 {w : Cond} (h : w ∈ Bundle.chainSAtoms "java/lang/RuntimeException" ["java/lang/Exception"]) : w ∈ zOwn := List.mem_append_right _ (List.mem_append_right _ (List.mem_append_right _ (List.mem_append_left _ h)))
theorem zT5 {w : Cond} (h : w ∈ zTail) : w ∈ zOwn := List.mem_append_right _ (List.mem_append_right _ (List.mem_append_right _ (List.mem_append_right _ h)))
set_option maxHeartbeats 1000000 in
theorem zctor (X : Stand p l e R s m args below meth c V locs cells slots) (hexec : p.tables.exec = Jvm.exec) (htr : e.platform.stackTraces = false)
    (hown : s.vm.findClass RX11 = some m.cls) (h : ∀ w ∈ zOwn, w.before args s = true)
    (hU0 : (Cond.isRef (.static Bundle.tN "UNASSIGNED_STACK" Bundle.steD)).before args s = true) (hN0 : (Cond.isRef (.static Bundle.tN "SUPPRESSED_SENTINEL" Bundle.listD)).before args s = true)
    (hUS : ∀ cell, (∃ x ∈ locs, s.heap[x.base]? = some cell) → cell.vm.isStatics = false)
    {a : Addr} {cX : ClassId} {kX : Class} (hfX : s.vm.findClass "java/util/NoSuchElementException" = some cX) (hkX : s.vm.classes[cX]? = some kX) (hcell : V.heap[a]? = some (freshCell cX kX)) (hnew : s.heap.size ≤ a)
    {msg : Value} (hmsg : msg.isRef = true)
    {g : JFrame} (hg : g.method = m) (hsize : g.locals.size = c.maxLocals) (hlocked : g.locked = none) (hentered : g.entered = []) {rest : List Value} (hstack : g.stack = msg :: .ref a :: .ref a :: rest)
    (d0 : decode c.code g.pc = .ok (.invokespecial 332, 3)) (d3 : decode c.code (g.pc + 3) = .ok (.athrow, 1)) (hout : ∀ x ∈ c.exceptionTable.toList, covers x (g.pc + 3) = false)
    (hF : 5 < R.frames) (hL9 : 2 * g.monitorRoom + ((Value.ref a :: rest).map fun v => v.category).sum + 81 ≤ R.locals) (hlocks : meth.locks = false) :
    ∃ U : State, Steps p.tables e below (V.setTop g) U ∧ U.status = .running ∧ Ended U below (.threw a) ∧ s.WarmedH U.vm ∧ s.sameButNew ({ U with vm := s.vm } : State) locs cells slots ∧
      ∃ ce, U.heap[a]? = some ce ∧ ce.vm = .none ∧ s.vm.findClass "java/util/NoSuchElementException" = some ce.cls := by
  have ho : e.platform.frameOwnsMonitors = true := by rw [X.admits.platform]
  have hz : e.platform.finalization = false := by rw [X.admits.platform]
  have hp : e.platform.magicAccessors = ({} : Platform).magicAccessors := by rw [X.admits.platform]
  have ht : ∀ w ∈ zTail, w.holds args s none s [] = true := fun w hw => h w (zT5 hw)
  obtain ⟨T, Z0, L, -, Y⟩ := ThrowableC.of_atoms (args := args) ho hz hp (fun x hx => h x (zT1 hx))
  obtain ⟨Z, M, LZ, LM, hnZ⟩ := Init0T.ofS_atoms (args := args) hp L Y (fun x hx => h x (zT2 hx))
  obtain ⟨P1, L1, n1, s1⟩ := PassC.ofS_atoms (args := args) (s := s) hp (X := "java/util/NoSuchElementException") (Y := "java/lang/RuntimeException") (by decide) (by decide) zsix_0 zsix_1 zsix_2 zsix_5 (fun x hx => h x (zT3 hx))
  obtain ⟨P2, Ps, hlen, L2, hLs, n2, k2, kk⟩ := Bundle.chainS (args := args) hp hnZ ["java/lang/Exception"] "java/lang/RuntimeException" (by decide) (by decide) (fun x hx => h x (zT4 hx))
  have hlen : Ps.length = 1 := hlen
  have hlink : PassesOn (Z.m T.toThrowableT) ((P1 :: P2 :: Ps).map (·.toPassT)) := ⟨Option.some.inj (s1.symm.trans n2), k2, kk⟩
  have hLink : ∀ P, P ∈ P1 :: P2 :: Ps → P.LinksS e.platform s := fun P hP => by
    rcases List.mem_cons.mp hP with rfl | hP
    · exact L1
    · rcases List.mem_cons.mp hP with rfl | hP
      · exact L2
      · exact hLs P hP
  have hf : s.vm.findClass "java/util/NoSuchElementException" = some P1.m.cls := findClass_of_methodNamed n1
  cases Option.some.inj (hfX.symm.trans hf)
  obtain ⟨c1, k', hc1, hk, hord, -, -, hn6⟩ := Cond.instantiable_spec (ht (.instantiable "java/util/NoSuchElementException" 6) (by simp [zTail]))
  cases Option.some.inj (hc1.symm.trans hf)
  cases Option.some.inj (hkX.symm.trans hk)
  have sel0 : selectMethod e.platform s.vm P1.m.cls T.fill0 = .method T.fill0 := by
    obtain ⟨c2, r2, m2, q1, q2, q3, q4, -⟩ := Cond.selects_spec (ht (.selects "java/util/NoSuchElementException" Bundle.tFill0 Bundle.tFill0) (by simp [zTail]))
    cases Option.some.inj (q1.symm.trans hf)
    cases Option.some.inj (q2.symm.trans (State.methodFound?_of_named Y.fill0 (by decide)))
    cases Option.some.inj (q3.symm.trans Y.fill0)
    rw [Launch.admits_selectMethod X.admits]; exact q4
  have selF : selectMethod e.platform s.vm P1.m.cls T.fill = .method T.fill := by
    obtain ⟨c2, r2, m2, q1, q2, q3, q4, -⟩ := Cond.selects_spec (ht (.selects "java/util/NoSuchElementException" Bundle.tFill Bundle.tFill) (by simp [zTail]))
    cases Option.some.inj (q1.symm.trans hf)
    cases Option.some.inj (q2.symm.trans (State.methodFound?_of_named Y.fill (by decide)))
    cases Option.some.inj (q3.symm.trans Y.fill)
    rw [Launch.admits_selectMethod X.admits]; exact q4
  obtain ⟨cS, hcS, hiss⟩ := Y.statics
  obtain ⟨u0, hu0⟩ := Cond.staticRefV Y.unassigned L.unassignedStatic L.statics hcS hiss hU0
  obtain ⟨sen, hsen⟩ := Cond.staticRefV Y.sentinel L.sentinelStatic L.statics hcS hiss hN0
  obtain ⟨ci9, i9, fB, hk9, hg9, ha9, hsB, -, hnB, htB, hfB⟩ := Cond.ownField (t := .object "java/lang/Object") Y.found L.cls (by decide +kernel) (ht (.fieldLink Bundle.tN 198 Bundle.tN "backtrace" "Ljava/lang/Object;") (by simp [zTail])) (ht (.lays Bundle.tN Bundle.tN "backtrace" "Ljava/lang/Object;") (by simp [zTail])) e.platform hp
  obtain ⟨cV, hcV, heV, -, hkeep⟩ := X.same.2.2.2.2.2 T.aS cS hcS
  have hcV : V.heap[T.aS]? = some cV := hcV
  have hfar : ∀ i, (⟨T.aS, i⟩ : Loc) ∉ locs := fun i hm => by
    have := hUS cS ⟨_, hm, hcS⟩
    rw [hiss] at this; cases this
  have hknown : cV.vm ≠ .unknown := by
    rw [heV]; intro hu
    rw [show cS.vm = .unknown from hu] at hiss
    cases hiss
  have hne : T.aS ≠ a := Nat.ne_of_lt (Nat.lt_of_lt_of_le (Array.getElem?_eq_some_iff.mp hcS).1 hnew)
  obtain ⟨iM, hfM⟩ := Y.msg
  obtain ⟨tC, dC, hdC, hnC⟩ := Cond.laysAt hf hk Y.cause (ht (.lays "java/util/NoSuchElementException" Bundle.tN "cause" "Ljava/lang/Throwable;") (by simp [zTail]))
  obtain ⟨tS, dS, hdS, hnS⟩ := Cond.laysAt hf hk Y.stack (ht (.lays "java/util/NoSuchElementException" Bundle.tN "stackTrace" Bundle.steD) (by simp [zTail]))
  obtain ⟨tP, dP, hdP, hnP⟩ := Cond.laysAt hf hk Y.supp (ht (.lays "java/util/NoSuchElementException" Bundle.tN "suppressedExceptions" Bundle.listD) (by simp [zTail]))
  obtain ⟨tM, dM, hdM, hnM⟩ := Cond.laysAt hf hk hfM (ht (.lays "java/util/NoSuchElementException" Bundle.tN "detailMessage" "Ljava/lang/String;") (by simp [zTail]))
  obtain ⟨tB, dB, hdB, hnB'⟩ := Cond.laysAt hf hk hfB (ht (.lays "java/util/NoSuchElementException" Bundle.tN "backtrace" "Ljava/lang/Object;") (by simp [zTail]))
  have bC := Cond.laysApart hdB hdC hnB' hnC (by rw [hnB, Y.causeName]; decide)
  have bS := Cond.laysApart hdB hdS hnB' hnS (by rw [hnB, Y.stackName]; decide)
  have bP := Cond.laysApart hdB hdP hnB' hnP (by rw [hnB, Y.suppName]; decide)
  have hskip : SkipFacts T e.platform s (fun u => u) u0 ((preparedCellV T.toThrowableT (freshCell P1.m.cls kX) a u0 sen).withEntry V.cur) :=
    ⟨{ ci198 := ci9, i198 := i9, fBack := fB }, ⟨hk9, hg9, ha9, hsB⟩, by
      have := fresh_default (c := P1.m.cls) tB
      rw [htB] at this
      simpa [preparedCellV, Cell.setSlot, Cell.withEntry, Array.getElem?_setIfInBounds, bC, bS, bP, bC.symm, bS.symm, bP.symm, defaultValue] using this, fun _ _ => rfl⟩
  obtain ⟨tm, mC, cdC, kC, vm1, hnm, -, -, -, -, -, -, -, hW1, st1⟩ := Steps.initColdS (tb := p.tables) (e := e) (below := below) (s := s) (U := V) X.here hexec X.warmed hp hown (t := Bundle.initS "java/util/NoSuchElementException") rfl rfl (by decide)
    (ht (.methodLink RX11 332 (Bundle.initS "java/util/NoSuchElementException")) (by simp [zTail])) (h (.instanceMethod (Bundle.initS "java/util/NoSuchElementException")) (zT3 (by simp [Bundle.passSAtoms]))) (bytes := zsix) (maxL := 2) (h (.code (Bundle.initS "java/util/NoSuchElementException") zsix 2 none) (zT3 (by simp [Bundle.passSAtoms])))
    (f := g) hg (a := a) (msg := msg) (rest := .ref a :: rest) hstack d0
  cases Option.some.inj (hnm.symm.trans n1)
  obtain ⟨vm2, X2, st2⟩ := (X.noted hW1).ctorMessageOffV hexec (g := { g with stack := .ref a :: rest }) hg hsize T L Z LZ M LM (P1 :: P2 :: Ps)
    hLink hlink (u0 := u0) (sen := sen) (self := a) hmsg (cell := freshCell P1.m.cls kX) (cellS := cV)
    hcell (fun _ => by simp) (by simp) rfl rfl sel0 selF hcV hne hknown (by rw [hkeep _ (hfar _)]; exact hu0) (by rw [hkeep _ (hfar _)]; exact hsen)
    (Takes.of_laid hk hord tC (by rw [Y.causeType]; rfl)) (Takes.of_laid hk hord tS (by rw [Y.stackType]; exact fits_refV_array _ u0)) (Takes.of_laid hk hord tP (by rw [Y.suppType]; exact fits_refV_object _ sen))
    (Takes.of_laid hk hord tM (by rw [Y.msgType]; exact fits_refV_object _ ⟨msg, hmsg⟩)) Y.objLocals hskip htr [] d0
    (by simp only [List.length_cons, hlen]; omega) (by simp only [List.length_cons, hlen]; exact hL9)
  obtain ⟨hwalk, hrun, hended, hWU, hsame⟩ := X2.athrowLeaves hexec (g := { g with stack := .ref a :: rest, pc := g.pc + 3 }) hg hlocked hentered hout (a := a) (rest := rest) rfl d3
  have hlt : a < ((V.setVm vm1).setVm vm2).heap.size := (Array.getElem?_eq_some_iff.mp hcell).1
  have hU := heapAt_setCell_self (s := (V.setVm vm1).setVm vm2) (plainBareV T.toThrowableT (freshCell P1.m.cls kX) a u0 sen msg) hlt
  refine ⟨_, st1 _ (fun acts => ?_), hrun, hended, hWU, hsame.weaken (fun y hy hl => ?_) (Nat.le_refl _) (Nat.le_refl _), _, hU, rfl, hf⟩
  · rw [doInvoke_state]
    exact st2 _ hwalk
  · rcases List.mem_append.mp hy with h1 | h1
    · exact h1
    · exfalso
      have hb : y.base = a := by
        simp only [List.mem_cons, List.not_mem_nil, or_false] at h1
        rcases h1 with rfl | rfl | rfl | rfl | rfl <;> rfl
      rw [hb] at hl
      exact Nat.not_lt.mpr hnew hl
/-- 'throw new NoSuchElementException(text)': new; dup; ldc_w; invokespecial; athrow -/
theorem zthrow {H : Heap} {ls : Array Slot} {rest : List Value} {Qc : Array Value → State → Outcome → State → Prop} {XC : String → State → State → Prop} {free : Addr → Prop} {cc : ByteArray} {pc : Nat} (hexec : p.tables.exec = Jvm.exec) (hb : c.code = cc) (hl : l.stackTraces = false) {text : String} {is mc ms sa : Nat} {A : Nat → Prop}
    (hown : s.vm.findClass RX11 = some m.cls)
    (hk : (Cond.classLink RX11 328 "java/util/NoSuchElementException").before args s = true) (hini : (Cond.initialized "java/util/NoSuchElementException").before args s = true) (hstr : vk_R RX11 is text sa s) (hat : ∀ w ∈ zAt, w.before args s = true)
    (hU : vx_Zq Bundle.tN "UNASSIGNED_STACK" Bundle.steD A s s.heap) (hN : vx_Zq Bundle.tN "SUPPRESSED_SENTINEL" Bundle.listD A s s.heap) (hS : va_S A s.heap H locs) (hsize : ls.size = c.maxLocals)
    (d0 : decode cc pc = .ok (.new 328, 3)) (d3 : decode cc (pc + 3) = .ok (.dup, 1)) (d4 : decode cc (pc + 4) = .ok (.ldc_w is, 3)) (d7 : decode cc (pc + 7) = .ok (.invokespecial 332, 3)) (d10 : decode cc (pc + 10) = .ok (.athrow, 1))
    (hout : ∀ x ∈ c.exceptionTable.toList, covers x (pc + 10) = false)
    (hF : 5 < R.frames) (hL9 : (rest.map fun v => v.category).sum + 82 ≤ R.locals) (hRcells : cells + 1 ≤ R.cells) (hRslots : slots + 6 ≤ R.slots) (hlocks : meth.locks = false)
    (hx : ∀ t : State, s.vm.Alike t.vm → H.size ≤ t.heap.size → (∀ q : Nat, q < H.size → t.heap[q]? = H[q]?) → XC "java/util/NoSuchElementException" s t)
    (hf : ∀ z ∈ locs, free z.base) (hc : cells + 1 ≤ mc) (hs : slots + 6 ≤ ms) :
    W p l e R s m args below meth c H locs cells slots (vx_MQ below Qc XC args s mc ms free) (F0 m pc ls rest) := by
  intro T hT X
  have htr : e.platform.stackTraces = false := (show e.platform.stackTraces = l.stackTraces by rw [X.admits.platform]).trans hl
  have Y := vx_rebase X (R' := { frames := R.frames, locals := R.locals, cells := 1, slots := 6 }) (Nat.le_refl _) (Nat.le_refl _) hRcells hRslots
  obtain ⟨s', hA⟩ : ∃ z, z = (T.setVm s.vm).setFrames (.invoking m args :: below) := ⟨_, rfl⟩
  rw [← hA] at Y
  have hvm : s'.vm = s.vm := by rw [hA]; rfl
  have hhp : s'.heap = H := by rw [hA]; exact hT
  have hW0 : s.WarmedH s'.vm := by rw [hvm]; exact State.WarmedH.refl s
  have go : ∀ w : Cond, goodWord w = true → w.before args s = true → w.before args s' = true := fun w hg h => word_at hW0 (good_of_word hg) h
  have hU' : vx_Zq Bundle.tN "UNASSIGNED_STACK" Bundle.steD A s' s'.heap := by rw [hhp]; exact vx_Zq.moved hW0.alike (hU.kept hS.2.1)
  have hN' : vx_Zq Bundle.tN "SUPPRESSED_SENTINEL" Bundle.listD A s' s'.heap := by rw [hhp]; exact vx_Zq.moved hW0.alike (hN.kept hS.2.1)
  have h : ∀ w ∈ zOwn, w.before args s' = true := zAt_own (fun w hw => go w (zAt_good w hw) (hat w hw)) hU'.2.word hN'.2.word
  have hown' : s'.vm.findClass RX11 = some m.cls := by rw [hvm]; exact hown
  have hins : (Cond.instantiable "java/util/NoSuchElementException" 6).before args s' = true := h _ (zT5 (by simp [zTail]))
  obtain ⟨vm₁, cX, kX, hfX, hkX, -, -, X₁, st1⟩ := Y.newCold hexec (own := RX11) (C := "java/util/NoSuchElementException") (index := 328) (n := 6) hown' (go _ (by decide) hk) hins (go _ (by decide) hini)
    (g := F0 m pc ls rest) rfl (by rw [hb]; exact d0) (Nat.le_refl _) (Nat.le_refl _)
  generalize hT1 : (T.setVm vm₁).pushCell { cls := cX, slots := kX.instanceTypes.map defaultValue, vm := .none } = T1 at X₁ st1
  have hcat : (Value.ref T.heap.size).category = 1 := rfl
  have hcellA : T1.heap[T.heap.size]? = some (freshCell cX kX) := by rw [← hT1]; exact State.heap_pushCell_size _ _
  have d3' : decode c.code (pc + 3) = .ok (.dup, 1) := by rw [hb]; exact d3
  have d4' : decode c.code (pc + 4) = .ok (.ldc_w is, 3) := by rw [hb]; exact d4
  have hstr' : vk_R RX11 is text sa s' := vk_R.warm hW0 hstr
  obtain ⟨U, hsteps, hrun, hend, hW, hsame, ce, hce, hcv, hcl⟩ := zctor X₁ hexec htr hown' h (vx_isRefq hU'.1) (vx_isRefq hN'.1) (fun x hx => by obtain ⟨y, hy, -⟩ := hx; nomatch hy) hfX hkX hcellA (by rw [hhp, hT]; exact Nat.le_refl _) (msg := .ref sa) rfl
    (g := { method := m, pc := pc + 7, locals := ls, stack := .ref sa :: .ref T.heap.size :: .ref T.heap.size :: rest, locked := none }) rfl hsize rfl rfl (rest := rest) rfl
    (by rw [hb]; exact d7) (by rw [hb]; exact d10) hout hF (by simp only [List.map_cons, List.sum_cons, hcat]; omega) hlocks
  obtain ⟨f1, f2⟩ := vx_frame hsame
  rw [hhp] at f1 f2
  have hWs : s.WarmedH U.vm := State.WarmedH.trans hW0 hW
  rw [hvm] at hcl
  have hall : s.sameButNew ({ U with vm := s.vm } : State) locs mc ms := by
    subst hA
    obtain ⟨e1, e2⟩ := hsame
    rw [State.setFrames_setFrames] at e1
    have h2 : (T.setVm s.vm).sameButNew ({ U with vm := s.vm } : State) [] (0 + 1) (0 + 6) := ⟨e1, e2⟩
    have h3 := X.same.trans h2
    rw [List.append_nil] at h3
    exact h3.mono hc hs
  refine ⟨U, ?_, .threw T.heap.size, hrun, hend, Or.inr ⟨T.heap.size, rfl, "java/util/NoSuchElementException", ce, locs, hx U hWs.alike f1 (fun q hq => f2 q hq (fun z hz => nomatch hz)), hce, hcv, hcl, hWs, hall, hf⟩⟩
  refine st1 _ ?_
  show Steps p.tables e below (T1.setTop { method := m, pc := pc + 3, locals := ls, stack := .ref T.heap.size :: rest, locked := none }) _
  jvm_step X₁.here [X₁.here.top, hexec, d3', Value.category]
  exact X₁.ldcStringW hexec (own := RX11) (text := text) (index := is) (a := sa) hown' hstr'.1 hstr'.2
    (g := { method := m, pc := pc + 4, locals := ls, stack := .ref T.heap.size :: .ref T.heap.size :: rest, locked := none }) rfl d4' _ hsteps
end ZTH
