set_option maxHeartbeats 4000000 in
set_option maxRecDepth 100000 in
theorem zknow {s : State} {args : Array Value} (hts : ∀ w ∈ lw_tbl, w.before args s = true) : ∃ (D : va_G) (ct : Nat → ClassId), va_K D vwCl (zT ct) s := by
  obtain ⟨c0, i0, k0⟩ := u_known (C := RX0) (T := TX0) (N := 1) (n := 1) hts in_wsX00 (hts (.instantiable RX0 1) (ztm1 223 (by decide +kernel)))
  obtain ⟨c1, i1, k1⟩ := u_known (C := RX1) (T := TX1) (N := 4) (n := 4) hts in_wsX10 (hts (.instantiable RX1 4) (ztm1 203 (by decide +kernel)))
  obtain ⟨c2, i2, k2⟩ := u_known (C := RX2) (T := TX2) (N := 13) (n := 13) hts in_wsX20 (hts (.instantiable RX2 13) (ztm1 77 (by decide +kernel)))
  obtain ⟨c3, i3, k3⟩ := u_known (C := RX3) (T := TX3) (N := 3) (n := 3) hts in_wsX30 (hts (.instantiable RX3 3) (ztm1 187 (by decide +kernel)))
  obtain ⟨c4, i4, k4⟩ := u_known (C := RX4) (T := TX4) (N := 3) (n := 3) hts in_wsX40 (hts (.instantiable RX4 3) (ztm1 83 (by decide +kernel)))
  obtain ⟨c5, i5, k5⟩ := u_known (C := RX5) (T := TX5) (N := 4) (n := 4) hts in_wsX50 (hts (.instantiable RX5 4) (ztm2 82 (by decide +kernel)))
  obtain ⟨c6, i6, k6⟩ := u_known (C := RX6) (T := TX6) (N := 2) (n := 2) hts in_wsX60 (hts (.instantiable RX6 2) (ztm2 64 (by decide +kernel)))
  obtain ⟨c7, i7, k7⟩ := u_known (C := RX8) (T := TX8) (N := 6) (n := 6) hts in_wsX80 (hts (.instantiable RX8 6) (ztm1 239 (by decide +kernel)))
  obtain ⟨c8, i8, k8⟩ := u_known (C := RX9) (T := TX9) (N := 8) (n := 8) hts in_wsX90 (hts (.instantiable RX9 8) (ztm1 36 (by decide +kernel)))
  obtain ⟨c9, i9, k9⟩ := u_known (C := RX10) (T := TX10) (N := 7) (n := 7) hts in_wsX100 (hts (.instantiable RX10 7) (ztm1 233 (by decide +kernel)))
  obtain ⟨c10, i10, k10⟩ := u_known (C := RX11) (T := TX11) (N := 15) (n := 15) hts in_wsX110 (hts (.instantiable RX11 15) (ztm1 28 (by decide +kernel)))
  obtain ⟨c11, i11, k11⟩ := u_known (C := RX12) (T := TX12) (N := 57) (n := 57) hts in_wsX120 (hts (.instantiable RX12 57) (ztm5 186 (by decide +kernel)))
  obtain ⟨aI, kaI, cmI, faI, hkI, hdI⟩ := Cond.arrayClass_spec (hts (.arrayClass .int) (ztm1 99 (by decide +kernel)))
  obtain ⟨aJ, kaJ, cmJ, faJ, hkJ, hdJ⟩ := Cond.arrayClass_spec (hts (.arrayClass .long) (ztm1 100 (by decide +kernel)))
  obtain ⟨aC, kaC, cmC, faC, hkC, hdC⟩ := Cond.arrayClass_spec (hts (.arrayClass .char) (ztm1 75 (by decide +kernel)))
  obtain ⟨aZ, kaZ, cmZ, faZ, hkZ, hdZ⟩ := Cond.arrayClass_spec (hts (.arrayClass .boolean) (ztm6 123 (by decide +kernel)))
  obtain ⟨cmS, aS, kaS, fcS, ixS, hkS, hdS, faS⟩ := Cond.arrayOver_spec (hts (.arrayOver (.object RX8)) (ztm2 79 (by decide +kernel)))
  obtain ⟨cmM, aM, kaM, fcM, ixM, hkM, hdM, faM⟩ := Cond.arrayOver_spec (hts (.arrayOver (.object RX5)) (ztm2 81 (by decide +kernel)))
  refine ⟨(fun k => ([c0, c1, c2, c3, c4, c5, c6, c7, c8, c9, c10, c11] : List ClassId).getD k c0, fun k => ([i0, i1, i2, i3, i4, i5, i6, i7, i8, i9, i10, i11] : List (Nat → Nat)).getD k i0), fun k => ([aI, aJ, aC, aZ, aS, aM] : List ClassId).getD k aI, ?_, ?_⟩
  · intro k q hq
    match k, hq with
    | 0, hq => cases hq; exact k0
    | 1, hq => cases hq; exact k1
    | 2, hq => cases hq; exact k2
    | 3, hq => cases hq; exact k3
    | 4, hq => cases hq; exact k4
    | 5, hq => cases hq; exact k5
    | 6, hq => cases hq; exact k6
    | 7, hq => cases hq; exact k7
    | 8, hq => cases hq; exact k8
    | 9, hq => cases hq; exact k9
    | 10, hq => cases hq; exact k10
    | 11, hq => cases hq; exact k11
    | k + 12, hq => simp [vwCl] at hq
  · intro k q hq
    match k, hq with
    | 0, hq => cases hq; exact ⟨fun n z => ⟨fun k h => (by cases h), kaI, hkI, cmI, hdI⟩, faI⟩
    | 1, hq => cases hq; exact ⟨fun n z => ⟨fun k h => (by cases h), kaJ, hkJ, cmJ, hdJ⟩, faJ⟩
    | 2, hq => cases hq; exact ⟨fun n z => ⟨fun k h => (by cases h), kaC, hkC, cmC, hdC⟩, faC⟩
    | 3, hq => cases hq; exact ⟨fun n z => ⟨fun k h => (by cases h), kaZ, hkZ, cmZ, hdZ⟩, faZ⟩
    | 4, hq => cases hq; exact ⟨fun n z => ⟨fun k h => (by cases h), kaS, hkS, cmS, hdS⟩, kaS, cmS, hkS, hdS, fcS, faS⟩
    | 5, hq => cases hq; exact ⟨fun n z => ⟨fun k h => (by cases h), kaM, hkM, cmM, hdM⟩, kaM, cmM, hkM, hdM, fcM, faM⟩
    | k + 6, hq => simp [zT] at hq

theorem zNc {q : String × Nat × MethodName × String} {l : List (String × Nat × MethodName × String)} {U : State} (h : va_Nw (.methodLinkNest q.1 q.2.1 q.2.2.1 q.2.2.2) U) (hl : ∀ q ∈ l, va_Nw (.methodLinkNest q.1 q.2.1 q.2.2.1 q.2.2.2) U) : ∀ q9 ∈ q :: l, va_Nw (.methodLinkNest q9.1 q9.2.1 q9.2.2.1 q9.2.2.2) U := List.forall_mem_cons.mpr ⟨h, hl⟩
set_option maxRecDepth 100000 in
theorem zNof {s : State} {args : Array Value} (hts : ∀ w ∈ lw_tbl, w.before args s = true) : zN s := ⟨zNc (va_Nw.of rfl (hts (.methodLinkNest RX11 9 yX9_init RX11) (ztm1 37 (by decide +kernel)))) (zNc (va_Nw.of rfl (hts (.methodLinkNest RX2 39 yX4_init RX11) (ztm1 84 (by decide +kernel)))) (zNc (va_Nw.of rfl (hts (.methodLinkNest RX11 28 yX3_init RX11) (ztm1 188 (by decide +kernel)))) (zNc (va_Nw.of rfl (hts (.methodLinkNest RX11 35 yX1_init RX11) (ztm1 204 (by decide +kernel)))) (zNc (va_Nw.of rfl (hts (.methodLinkNest RX10 11 yX8_init RX11) (ztm2 0 (by decide +kernel)))) (zNc (va_Nw.of rfl (hts (.methodLinkNest RX11 63 yX8_init RX11) (ztm2 62 (by decide +kernel)))) (zNc (va_Nw.of rfl (hts (.methodLinkNest RX11 73 yX6_init RX11) (ztm2 65 (by decide +kernel)))) (zNc (va_Nw.of rfl (hts (.methodLinkNest RX11 95 yX5_init RX11) (ztm2 83 (by decide +kernel)))) (zNc (va_Nw.of rfl (hts (.methodLinkNest RX5 9 yX8_init RX11) (ztm2 88 (by decide +kernel)))) (zNc (va_Nw.of rfl (hts (.methodLinkNest RX5 18 yX1_init RX11) (ztm2 90 (by decide +kernel)))) (zNc (va_Nw.of rfl (hts (.methodLinkNest RX5 25 yX6_init RX11) (ztm2 92 (by decide +kernel)))) (zNc (va_Nw.of rfl (hts (.methodLinkNest RX3 144 yX11_has RX11) (ztm3 76 (by decide +kernel)))) (zNc (va_Nw.of rfl (hts (.methodLinkNest RX3 99 yX4_readWhole RX11) (ztm3 124 (by decide +kernel)))) (zNc (va_Nw.of rfl (hts (.methodLinkNest RX0 70 yX11_has RX11) (ztm4 72 (by decide +kernel)))) (zNc (va_Nw.of rfl (hts (.methodLinkNest RX10 69 yX11_has RX11) (ztm4 187 (by decide +kernel)))) (fun _ h => nomatch h))))))))))))))), va_AO.of (hts (.arrayOver (.object RX8)) (ztm2 79 (by decide +kernel))), va_AO.of (hts (.arrayOver (.object RX5)) (ztm2 81 (by decide +kernel)))⟩

set_option maxRecDepth 100000 in
theorem zEnd {s : State} {args : Array Value} (hts : ∀ w ∈ lw_tbl, w.before args s = true) (hgv : (Jvm.Cond.and given_1 narrow_1).before args s = true) : ∃ eE : Nat, zZ [("END", eE)] (fun q : Nat => s.heap.size ≤ q) s s.heap := by
  have hs := flat_of_before _ hgv
  obtain ⟨a, c, cell, k, q1, -⟩ := Cond.exactly_spec (hs (.exactly (.static "BeardPass$Sort" "END" "LBeardPass$Sort;") "BeardPass$Sort") (by decide +kernel))
  refine ⟨a, fun q hq => ?_⟩
  obtain rfl : q = ("END", a) := by simpa using hq
  exact va_Zref (hts (.laysStatic "BeardPass$Sort" "END" "LBeardPass$Sort;") (ztm1 42 (by decide +kernel))) (hts (.initialized "BeardPass$Sort") (ztm1 4 (by decide +kernel))) q1 (fun a h => Nat.not_le.mpr h)
