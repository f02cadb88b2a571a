theorem zlcmp0 {r w q : Int32} (h : zth r w q = 0) : lg_cmp (zou (fun _ => 0) r w q 0) (zrv r w q).toInt64 = 0 := by
  obtain ⟨v, hv⟩ := zth_0 h
  rw [zou_some hv, zrv_some hv, pk_uLs]
  simp [lg_cmp]
set_option maxRecDepth 100000 in
theorem zXof {s : State} {args : Array Value} (hts : ∀ w ∈ lw_tbl, w.before args s = true) (hgv : (Jvm.Cond.and given_1 narrow_1).before args s = true) : ∃ sa sb : Nat, zXF (fun q : Nat => s.heap.size ≤ q) s s.heap sa sb := by
  have hs := flat_of_before _ hgv
  obtain ⟨sa, _, _, _, q1, -⟩ := Cond.exactly_spec (hs (.exactly (.string "BeardPass" 330) "java/lang/String") (by decide +kernel))
  obtain ⟨sb, _, _, _, q2, -⟩ := Cond.exactly_spec (hs (.exactly (.string "BeardPass" 339) "java/lang/String") (by decide +kernel))
  refine ⟨sa, sb, vx_Zqof (hts (.laysStatic "java/lang/Throwable" "UNASSIGNED_STACK" "[Ljava/lang/StackTraceElement;") (ztm5 137 (by decide +kernel))) (hts (.initialized "java/lang/Throwable") (ztm1 23 (by decide +kernel))) (hs (.isRef (.static "java/lang/Throwable" "UNASSIGNED_STACK" "[Ljava/lang/StackTraceElement;")) (by decide +kernel)) (fun a h => Nat.not_le.mpr h), vx_Zqof (hts (.laysStatic "java/lang/Throwable" "SUPPRESSED_SENTINEL" "Ljava/util/List;") (ztm5 139 (by decide +kernel))) (hts (.initialized "java/lang/Throwable") (ztm1 23 (by decide +kernel))) (hs (.isRef (.static "java/lang/Throwable" "SUPPRESSED_SENTINEL" "Ljava/util/List;")) (by decide +kernel)) (fun a h => Nat.not_le.mpr h), vk_R.of (hts (.stringRef RX11 330 "no such frontier") (ztm5 149 (by decide +kernel))) q1, vk_R.of (hts (.stringRef RX11 339 "no such rest") (ztm5 184 (by decide +kernel))) q2⟩
