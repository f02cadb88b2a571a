/-! ===== the constants of Sort and their texts, as the Statement gives them ===== -/
def eSt (i : Nat) : Term := .static RX7 (eN.getD i "") "LBeardPass$Sort;"
def eEnt : List Nat := [127, 133, 136, 139, 142, 145, 148, 151, 154, 157, 160, 163, 166, 169, 172, 175, 178, 181, 184, 187, 190, 193, 196, 199, 202, 205, 208, 211, 214, 217, 217, 217, 217, 110, 116, 118, 120]
def eSr (i : Nat) : Term := if i < 33 then .string RX7 (eEnt.getD i 0) else .string RX4 (eEnt.getD i 0)
def eAl : Term := .static RX7 "ALL" "[LBeardPass$Sort;"
def eFl : List Cond := flatC (Jvm.Cond.and given_1 narrow_1)
set_option maxRecDepth 100000 in
theorem em1 : ∀ i, i < 33 → Cond.exactly (eSt i) RX7 ∈ eFl := by decide +kernel
set_option maxRecDepth 100000 in
theorem em2 : ∀ i, i < 33 → Cond.eq (.field (eSt i) RX7 "text" "Ljava/lang/String;") (eSr i) ∈ eFl := by decide +kernel
set_option maxRecDepth 100000 in
theorem em3 : ∀ i, i < 33 → Cond.eq (.elem eAl (.int (Int32.ofNat i))) (eSt i) ∈ eFl := by decide +kernel
set_option maxRecDepth 100000 in
theorem em4 : ∀ i, i < 37 → Cond.exactly (eSr i) RJ0 ∈ eFl := by decide +kernel
set_option maxRecDepth 100000 in
theorem em5 : ∀ i, i < 37 → Cond.eq (.field (eSr i) RJ0 "coder" "B") (.int 0) ∈ eFl := by decide +kernel
set_option maxRecDepth 100000 in
theorem em6 : ∀ i, i < 37 → Cond.arrayOf (.field (eSr i) RJ0 "value" "[B") .byte ∈ eFl := by decide +kernel
set_option maxRecDepth 100000 in
theorem em7 : ∀ i, i < 37 → Cond.eq (.length (.field (eSr i) RJ0 "value" "[B")) (.int (Int32.ofNat (eL.getD i 0))) ∈ eFl := by decide +kernel
set_option maxRecDepth 100000 in
theorem em8_0 : ∀ i, i < 37 → 0 < eL.getD i 0 → Cond.eq (.elem (.field (eSr i) RJ0 "value" "[B") (.int (Int32.ofNat 0))) (.int ((eB.getD i []).getD 0 0)) ∈ eFl := by decide +kernel
set_option maxRecDepth 100000 in
theorem em8_1 : ∀ i, i < 37 → 1 < eL.getD i 0 → Cond.eq (.elem (.field (eSr i) RJ0 "value" "[B") (.int (Int32.ofNat 1))) (.int ((eB.getD i []).getD 1 0)) ∈ eFl := by decide +kernel
set_option maxRecDepth 100000 in
theorem em8_2 : ∀ i, i < 37 → 2 < eL.getD i 0 → Cond.eq (.elem (.field (eSr i) RJ0 "value" "[B") (.int (Int32.ofNat 2))) (.int ((eB.getD i []).getD 2 0)) ∈ eFl := by decide +kernel
set_option maxRecDepth 100000 in
theorem em8_3 : ∀ i, i < 37 → 3 < eL.getD i 0 → Cond.eq (.elem (.field (eSr i) RJ0 "value" "[B") (.int (Int32.ofNat 3))) (.int ((eB.getD i []).getD 3 0)) ∈ eFl := by decide +kernel
set_option maxRecDepth 100000 in
theorem em8_4 : ∀ i, i < 37 → 4 < eL.getD i 0 → Cond.eq (.elem (.field (eSr i) RJ0 "value" "[B") (.int (Int32.ofNat 4))) (.int ((eB.getD i []).getD 4 0)) ∈ eFl := by decide +kernel
set_option maxRecDepth 100000 in
theorem em8_5 : ∀ i, i < 37 → 5 < eL.getD i 0 → Cond.eq (.elem (.field (eSr i) RJ0 "value" "[B") (.int (Int32.ofNat 5))) (.int ((eB.getD i []).getD 5 0)) ∈ eFl := by decide +kernel
set_option maxRecDepth 100000 in
theorem em8_6 : ∀ i, i < 37 → 6 < eL.getD i 0 → Cond.eq (.elem (.field (eSr i) RJ0 "value" "[B") (.int (Int32.ofNat 6))) (.int ((eB.getD i []).getD 6 0)) ∈ eFl := by decide +kernel
set_option maxRecDepth 100000 in
theorem em8_7 : ∀ i, i < 37 → 7 < eL.getD i 0 → Cond.eq (.elem (.field (eSr i) RJ0 "value" "[B") (.int (Int32.ofNat 7))) (.int ((eB.getD i []).getD 7 0)) ∈ eFl := by decide +kernel
theorem em8 : ∀ i, i < 37 → ∀ j, j < 8 → j < eL.getD i 0 → Cond.eq (.elem (.field (eSr i) RJ0 "value" "[B") (.int (Int32.ofNat j))) (.int ((eB.getD i []).getD j 0)) ∈ eFl := by
  intro i hi j hj h
  match j, hj, h with
  | 0, _, h => exact em8_0 i hi h
  | 1, _, h => exact em8_1 i hi h
  | 2, _, h => exact em8_2 i hi h
  | 3, _, h => exact em8_3 i hi h
  | 4, _, h => exact em8_4 i hi h
  | 5, _, h => exact em8_5 i hi h
  | 6, _, h => exact em8_6 i hi h
  | 7, _, h => exact em8_7 i hi h
  | k + 8, hj, _ => omega
set_option maxRecDepth 100000 in
theorem em9 : Cond.arrayOf eAl (.object RX7) ∈ eFl ∧ Cond.eq (.length eAl) (.int (Int32.ofNat 33)) ∈ eFl ∧ Cond.eq (.static RJ0 "COMPACT_STRINGS" "Z") (.int 1) ∈ eFl ∧ Cond.isRef (.static RJ3 "SIOOBE_FORMATTER" "Ljava/util/function/BiFunction;") ∈ eFl := by decide +kernel
set_option maxRecDepth 100000 in
theorem em0 : ∀ i, i < 33 → Cond.laysStatic RX7 (eN.getD i "") "LBeardPass$Sort;" ∈ lw_tbl := by
  intro i hi
  match i, hi with
  | 0, _ => exact (ztm3 32 (by decide +kernel))
  | 1, _ => exact (ztm3 55 (by decide +kernel))
  | 2, _ => exact (ztm3 66 (by decide +kernel))
  | 3, _ => exact (ztm3 80 (by decide +kernel))
  | 4, _ => exact (ztm3 97 (by decide +kernel))
  | 5, _ => exact (ztm3 103 (by decide +kernel))
  | 6, _ => exact (ztm3 105 (by decide +kernel))
  | 7, _ => exact (ztm3 107 (by decide +kernel))
  | 8, _ => exact (ztm3 113 (by decide +kernel))
  | 9, _ => exact (ztm3 119 (by decide +kernel))
  | 10, _ => exact (ztm3 223 (by decide +kernel))
  | 11, _ => exact (ztm3 225 (by decide +kernel))
  | 12, _ => exact (ztm3 227 (by decide +kernel))
  | 13, _ => exact (ztm3 229 (by decide +kernel))
  | 14, _ => exact (ztm3 89 (by decide +kernel))
  | 15, _ => exact (ztm3 91 (by decide +kernel))
  | 16, _ => exact (ztm3 93 (by decide +kernel))
  | 17, _ => exact (ztm3 95 (by decide +kernel))
  | 18, _ => exact (ztm3 147 (by decide +kernel))
  | 19, _ => exact (ztm3 175 (by decide +kernel))
  | 20, _ => exact (ztm3 177 (by decide +kernel))
  | 21, _ => exact (ztm3 145 (by decide +kernel))
  | 22, _ => exact (ztm3 162 (by decide +kernel))
  | 23, _ => exact (ztm3 171 (by decide +kernel))
  | 24, _ => exact (ztm3 173 (by decide +kernel))
  | 25, _ => exact (ztm3 167 (by decide +kernel))
  | 26, _ => exact (ztm3 169 (by decide +kernel))
  | 27, _ => exact (ztm3 165 (by decide +kernel))
  | 28, _ => exact (ztm3 179 (by decide +kernel))
  | 29, _ => exact (ztm2 198 (by decide +kernel))
  | 30, _ => exact (ztm3 25 (by decide +kernel))
  | 31, _ => exact (ztm1 42 (by decide +kernel))
  | 32, _ => exact (ztm2 196 (by decide +kernel))
  | k + 33, hi => omega
set_option maxRecDepth 100000 in
theorem em10 : ∀ i, i < 33 → Cond.eq (.field (eSt i) "java/lang/Enum" "ordinal" "I") (.int (Int32.ofNat i)) ∈ eFl := by decide +kernel
theorem eFe {s : State} {args : Array Value} {t u : Term} {c n d : String} {x : Nat} (h1 : t.eval args s none [] s = some (.ref x)) (h2 : u.eval args s none [] s = some (.ref x)) : (Term.field t c n d).eval args s none [] s = (Term.field u c n d).eval args s none [] s := by
  simp only [Term.eval, h1, h2]
set_option maxHeartbeats 4000000 in
set_option maxRecDepth 100000 in
theorem eZof {s : State} {args : Array Value} (hts : ∀ w ∈ lw_tbl, w.before args s = true) (hgv : (Jvm.Cond.and given_1 narrow_1).before args s = true) : ∃ E : Nat → Nat, eZ E (fun q : Nat => s.heap.size ≤ q) s s.heap ∧ kEi E := by
  have hs : ∀ c ∈ eFl, c.before args s = true := flat_of_before _ hgv
  have hA : ∀ a : Nat, a < s.heap.size → ¬ (fun q : Nat => s.heap.size ≤ q) a := fun a h => Nat.not_le.mpr h
  have k1 : ∀ i : Nat, ∃ a : Nat, i < 33 → (eSt i).eval args s none [] s = some (.ref a) := by
    intro i
    by_cases hi : i < 33
    · obtain ⟨a, c, cell, k, q1, -⟩ := Cond.exactly_spec (hs _ (em1 i hi))
      exact ⟨a, fun _ => q1⟩
    · exact ⟨0, fun h => absurd h hi⟩
  obtain ⟨a, ha⟩ := Classical.axiomOfChoice k1
  have k2 : ∀ i : Nat, ∃ q : Nat × Nat, i < 37 → (eSr i).eval args s none [] s = some (.ref q.1) ∧ va_O RJ0 q.1 (fun q : Nat => s.heap.size ≤ q) s s.heap ∧ va_OF RJ0 "coder" "B" (.int 0) q.1 (fun q : Nat => s.heap.size ≤ q) s s.heap ∧ va_OF RJ0 "value" "[B" (.ref q.2) q.1 (fun q : Nat => s.heap.size ≤ q) s s.heap ∧ va_T .byte q.2 (eL.getD i 0) (fun j => .int ((eB.getD i []).getD j 0)) (fun q : Nat => s.heap.size ≤ q) s s.heap := by
    intro i
    by_cases hi : i < 37
    · obtain ⟨b, c, cA, kA, q1, -⟩ := Cond.exactly_spec (hs _ (em4 i hi))
      have hl8 := eLn hi
      obtain ⟨t, ht, hT⟩ := va_Tof (f := fun j => .int ((eB.getD i []).getD j 0)) (A := fun q : Nat => s.heap.size ≤ q) (N := eL.getD i 0) (by omega) (hs _ (em6 i hi)) (va_eqt (hs _ (em7 i hi))) (fun j hj => va_eqt (hs _ (em8 i hi j (by omega) hj))) hA
      exact ⟨(b, t), fun _ => ⟨q1, va_Oof (hs _ (em4 i hi)) q1 hA, vk_OFof q1 (va_eqt (hs _ (em5 i hi))) hA, vk_OFof q1 ht hA, hT⟩⟩
    · exact ⟨(0, 0), fun h => absurd h hi⟩
  obtain ⟨b, hb⟩ := Classical.axiomOfChoice k2
  obtain ⟨t, ht, hT⟩ := va_Tof (tm := eAl) (ty := .object RX7) (N := 33) (f := fun j => .ref (a j)) (A := fun q : Nat => s.heap.size ≤ q) (by decide) (hs _ em9.1) (va_eqt (hs _ em9.2.1)) (fun j hj => va_eqv (hs _ (em3 j hj)) (ha j hj)) hA
  obtain ⟨o9, ho9⟩ := vx_Zqof (hts (.laysStatic RJ3 "SIOOBE_FORMATTER" "Ljava/util/function/BiFunction;") (ztm2 234 (by decide +kernel))) (hts (.initialized RJ3) (ztm1 18 (by decide +kernel))) (hs _ em9.2.2.2) hA
  have e33 : ∀ i, i < 33 → (fun n : Nat => if n < 33 then a n else if n = 33 then t else if n < 80 then (b (n - 40)).1 else (b (n - 80)).2) i = a i := fun i hi => if_pos hi
  have e40 : ∀ i, i < 37 → (fun n : Nat => if n < 33 then a n else if n = 33 then t else if n < 80 then (b (n - 40)).1 else (b (n - 80)).2) (40 + i) = (b i).1 := fun i hi => by
    show (if 40 + i < 33 then _ else if 40 + i = 33 then _ else if 40 + i < 80 then _ else _) = _
    rw [if_neg (by omega), if_neg (by omega), if_pos (by omega), show 40 + i - 40 = i by omega]
  have e80 : ∀ i, i < 37 → (fun n : Nat => if n < 33 then a n else if n = 33 then t else if n < 80 then (b (n - 40)).1 else (b (n - 80)).2) (80 + i) = (b i).2 := fun i hi => by
    show (if 80 + i < 33 then _ else if 80 + i = 33 then _ else if 80 + i < 80 then _ else _) = _
    rw [if_neg (by omega), if_neg (by omega), if_neg (by omega), show 80 + i - 80 = i by omega]
  refine ⟨fun n => if n < 33 then a n else if n = 33 then t else if n < 80 then (b (n - 40)).1 else (b (n - 80)).2, ⟨?_, ?_, ?_, ?_, ?_, ?_, ?_, ?_, ?_⟩, ?_⟩
  · intro i hi
    rw [e33 i hi]
    exact va_Zref (hts _ (em0 i hi)) (hts (.initialized RX7) (ztm1 4 (by decide +kernel))) (ha i hi) hA
  · exact va_Zref (hts (.laysStatic RX7 "ALL" "[LBeardPass$Sort;") (ztm2 204 (by decide +kernel))) (hts (.initialized RX7) (ztm1 4 (by decide +kernel))) ht hA
  · obtain ⟨cell, h1, h2, h3, h4, h5, h6, h7⟩ := hT
    refine ⟨cell, h1, h2, h3, h4, h5, fun j hj => ?_, h7⟩
    rw [h6 j hj]
    exact congrArg (fun a9 : Nat => some (Value.ref a9)) (e33 j hj).symm
  · intro i hi
    rw [e33 i hi, e40 i (by omega)]
    exact vk_OFof (ha i hi) (va_eqv (hs _ (em2 i hi)) (hb i (by omega)).1) hA
  · intro i hi
    unfold eT
    rw [e40 i hi, e80 i hi]
    exact (hb i hi).2
  · intro k hk
    simp only [eR, List.mem_cons, List.not_mem_nil, or_false] at hk
    rcases hk with rfl | rfl | rfl | rfl
    · exact vk_R.of (hts (.stringRef RX4 110 "long") (ztm3 153 (by decide +kernel))) (by have h9 := (hb 33 (by decide)).1; exact h9)
    · exact vk_R.of (hts (.stringRef RX4 116 "false") (ztm3 155 (by decide +kernel))) (by have h9 := (hb 34 (by decide)).1; exact h9)
    · exact vk_R.of (hts (.stringRef RX4 118 "asked") (ztm3 156 (by decide +kernel))) (by have h9 := (hb 35 (by decide)).1; exact h9)
    · exact vk_R.of (hts (.stringRef RX4 120 "weeks") (ztm3 157 (by decide +kernel))) (by have h9 := (hb 36 (by decide)).1; exact h9)
  · exact va_Zof (hts (.laysStatic RJ0 "COMPACT_STRINGS" "Z") (ztm2 218 (by decide +kernel))) (hts (.initialized RJ0) (ztm1 16 (by decide +kernel))) (va_eqt (hs _ em9.2.2.1)) hA
  · rcases o9 with o9 | ⟨t9, o9⟩
    · exact ⟨none, o9⟩
    · exact ⟨some t9, o9⟩
  · exact va_Nw.of rfl (hts (.fieldLinkNest RX9 75 RX7 "ALL" "[LBeardPass$Sort;" RX11) (ztm2 203 (by decide +kernel)))
  · intro i j hi hj hij
    rw [e33 i hi, e33 j hj] at hij
    have e1 := va_eqt (hs _ (em10 i hi))
    have e2 := va_eqt (hs _ (em10 j hj))
    have h2 := ha j hj
    rw [← hij] at h2
    rw [eFe (ha i hi) h2, e2] at e1
    have e3 : nI j = nI i := Value.int.inj (Option.some.inj e1)
    exact ((nI_eq (by omega) (by omega)).mp e3).symm
