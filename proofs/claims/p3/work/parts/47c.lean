section
/-! ===== BeardPass(): its cells, all ===== -/
noncomputable def kR0 : zRr := fun n => if n = 171 ∨ n = 183 then (fun j => if j = 11 then 1 else if j = 12 then 2 else 0) else if n = 180 ∨ n = 192 then (fun j => if j = 2 then nI (0 + 1 + 1 + 1 + 1) else 0) else if n = 181 ∨ n = 193 then (upd (upd (upd (upd (fun _ => 0) 0 (-1)) (0 + 1) (-3)) (0 + 1 + 1) (-8)) (0 + 1 + 1 + 1) (-5)) else if 162 ≤ n ∧ n < 167 then (fun j => if j = 0 then 2147483647 else 0) else if n = 196 then (fun j => if j = 4 then 31 else 0) else (fun _ => 0)
noncomputable def kQ0 : zRq := fun _ _ => 0
noncomputable def knS (ct : Nat → ClassId) (y : Nat → Nat) (n : Nat) : Nat × va_E := (y n, if n % 6 = 0 then .inr (7, [.ref (y (n + 1)), .ref (y (n + 2)), .ref (y (n + 3)), .ref (y (n + 4)), .ref (y (n + 5)), .int 0]) else .inl (ct 0, 6, .inl (fun _ => 0)))
noncomputable abbrev knF (ct : Nat → ClassId) (a : Nat) (f : Nat → Option Nat) : Nat × va_E := (a, .inl (ct 4, 16, .inr (.inr (.inr (.inr f)))))
noncomputable abbrev knG (ct : Nat → ClassId) (a : Nat) (f : Nat → Option Nat) : Nat × va_E := (a, .inl (ct 5, 4, .inr (.inr (.inr (.inr f)))))
noncomputable def knYp (yp : Nat → Nat) (i q : Nat) (u : Nat → Nat) : Nat → Nat := fun n => if n < 18 + 6 * i then yp n else if n = 18 + 6 * i then q else u (n - (19 + 6 * i))
theorem knYp_lo {yp : Nat → Nat} {i q : Nat} {u : Nat → Nat} {n : Nat} (h : n < 18 + 6 * i) : knYp yp i q u n = yp n := if_pos h
theorem knYp_q {yp : Nat → Nat} {i q : Nat} {u : Nat → Nat} : knYp yp i q u (18 + 6 * i) = q := by unfold knYp; rw [if_neg (by omega), if_pos rfl]
theorem knYp_u {yp : Nat → Nat} {i q : Nat} {u : Nat → Nat} (k n : Nat) (h : n = 19 + 6 * i + k) : knYp yp i q u n = u k := by unfold knYp; rw [if_neg (by omega), if_neg (by omega)]; congr 1; omega
theorem kn_app {ct : Nat → ClassId} {yp : Nat → Nat} {i q : Nat} {u : Nat → Nat} : (List.range' 18 (6 * i)).map (knS ct yp) ++ knStd ct q u = (List.range' 18 (6 * (i + 1))).map (knS ct (knYp yp i q u)) := by
  have e1 : List.range' 18 (6 * (i + 1)) = List.range' 18 (6 * i) ++ List.range' (18 + 6 * i) 6 := by
    rw [show 6 * (i + 1) = 6 * i + 6 by omega, ← List.range'_append_1]
  rw [e1, List.map_append]
  congr 1
  · refine List.map_congr_left (fun n hn => ?_)
    have h3 := List.mem_range'_1.mp hn
    unfold knS
    by_cases h6 : n % 6 = 0
    · rw [if_pos h6, if_pos h6, knYp_lo (by omega), knYp_lo (by omega), knYp_lo (by omega), knYp_lo (by omega), knYp_lo (by omega), knYp_lo (by omega)]
    · rw [if_neg h6, if_neg h6, knYp_lo (by omega)]
  · have e2 : List.range' (18 + 6 * i) 6 = [18 + 6 * i, 18 + 6 * i + 1, 18 + 6 * i + 2, 18 + 6 * i + 3, 18 + 6 * i + 4, 18 + 6 * i + 5] := rfl
    rw [e2]
    simp only [List.map_cons, List.map_nil, knS]
    rw [if_pos (by omega), if_neg (by omega), if_neg (by omega), if_neg (by omega), if_neg (by omega), if_neg (by omega), knYp_q, knYp_u 0 (18 + 6 * i + 1) (by omega), knYp_u 1 (18 + 6 * i + 2) (by omega), knYp_u 2 (18 + 6 * i + 3) (by omega), knYp_u 3 (18 + 6 * i + 4) (by omega), knYp_u 4 (18 + 6 * i + 5) (by omega)]
    rfl
section KM
variable {p : Program} {l : Launch} {e : Env} {s : State} {m : MethodId} {args : Array Value} {below : List Frame} {meth : Method} {c : Code} {Q : State → Prop} {D : va_G} {ct : Nat → ClassId} {A : Nat → Prop} {wsB : va_W} {h0 aP : Nat} {fs : List Value} {x0 : Nat × va_E}
theorem kn_pasts (hx : p.tables.exec = Jvm.exec) (hb : c.code = cX11_init) (hml : c.maxLocals = 2) (hown : s.vm.findClass RX11 = some m.cls) (hts : ∀ w ∈ wsX11_init, w.before args s = true) (hK : va_K D vwCl (zT ct) s) (hA : ∀ q, s.heap.size ≤ q → A q) (hN : zN s) (ip : Nat) (hip : ip ≠ 0) (h0w : wsB[0]? = some (h0, .inr (10, fs))) (hfs : fs[11]? = some (.ref aP)) (hpw : wsB[ip]? = some x0)
    (kk : ∀ (f : Nat → Option Nat) (yp : Nat → Nat) (H : Heap) (locs : List Loc) (ls : Array Slot), (∀ j, j < 16 → f j = some (yp (6 * j + 18))) → zPD D A (wsB.set ip (knF ct aP f) ++ (List.range' 18 96).map (knS ct yp)) H → va_S A s.heap H locs → lv_has ls 2 [(1, .int (nI 16)), (0, .ref h0)] → W p l e knR s m args below meth c H locs 158 4247 Q (F0 m 166 ls [])) :
    ∀ (n i : Nat), i + n = 16 → ∀ (f : Nat → Option Nat) (yp : Nat → Nat) (H : Heap) (locs : List Loc) (ls : Array Slot), (∀ j, j < i → f j = some (yp (6 * j + 18))) → zPD D A (wsB.set ip (knF ct aP f) ++ (List.range' 18 (6 * i)).map (knS ct yp)) H → va_S A s.heap H locs → lv_has ls 2 [(1, .int (nI i)), (0, .ref h0)] → W p l e knR s m args below meth c H locs (62 + 6 * i) (3671 + 36 * i) Q (F0 m 166 ls []) := by
  have hl0 : ip < wsB.length := (List.getElem?_eq_some_iff.mp hpw).1
  intro n
  induction n with
  | zero =>
    intro i hi f yp H locs ls hf hw hS hl
    obtain rfl : i = 16 := by omega
    exact kk f yp H locs ls hf hw hS hl
  | succ n ih =>
    intro i hi f yp H locs ls hf hw hS hl
    refine kn_past hx hb hml hown hts hK hA hN i ip (by omega) (fs := fs) (aP := aP) (f := f) ?_ hfs ?_ (by omega) (by omega) hw hS hl ?_
    · rw [List.getElem?_append_left (by rw [List.length_set]; omega), List.getElem?_set_ne (by omega)]; exact h0w
    · rw [List.getElem?_append_left (by rw [List.length_set]; exact hl0), List.getElem?_set_self hl0]
    · intro q u H1 locs1 ls1 hw hS hl
      refine W.widen (k := 62 + 6 * (i + 1)) (n := 3671 + 36 * (i + 1)) (by omega) (by omega) (ih (i + 1) (by omega) (va_up f i (some q)) (knYp yp i q u) H1 locs1 ls1 ?_ ?_ hS hl)
      · intro j hj
        by_cases e : j = i
        · subst e
          rw [va_up_self, show 6 * j + 18 = 18 + 6 * j by omega, knYp_q]
        · rw [va_up_ne _ _ e, hf j (by omega), knYp_lo (by omega)]
      · rw [← kn_app, ← List.append_assoc]
        rw [List.append_assoc, List.set_append_left _ _ (by rw [List.length_set]; exact hl0), List.set_set, ← List.append_assoc] at hw
        exact hw
end KM
noncomputable def knY (yb yp : Nat → Nat) (qk : Nat → Nat) (uk : Nat → Nat → Nat) : Nat → Nat := fun n => if 18 ≤ n ∧ n < 114 then yp n else if 114 ≤ n ∧ n < 138 then uk ((n - 114) / 6) ((n - 114) % 6) else if 146 ≤ n ∧ n < 162 then uk ((n - 146) / 4) (6 + (n - 146) % 4) else if 163 ≤ n ∧ n < 167 then uk (n - 163) 10 else if 167 ≤ n ∧ n < 171 then qk (n - 167) else yb n
theorem zlc {α : Type} {a b : α} {as bs : List α} (h : a = b) (hs : as = bs) : a :: as = b :: bs := by rw [h, hs]
noncomputable def knE (ct : Nat → ClassId) (eE : Nat) (yb yp qk : Nat → Nat) (uk : Nat → Nat → Nat) (f g : Nat → Option Nat) : va_W := (knB ct eE (yb 195) yb f g) ++ ((List.range' 18 96).map (knS ct yp) ++ (knMrk ct (qk 0) (uk 0) ++ (knMrk ct (qk 1) (uk 1) ++ (knMrk ct (qk 2) (uk 2) ++ knMrk ct (qk 3) (uk 3)))))
noncomputable def knIx : List Nat := [38, 39, 40, 41, 42, 43, 48, 49, 50, 51, 52, 53, 54, 55, 56, 57, 58, 59, 63, 64, 65, 66, 67, 68, 69, 70, 71, 72, 73, 74, 75, 76, 77, 78, 79, 80, 81, 82, 83, 84, 85, 86, 87, 88, 89, 90, 91, 92, 93, 94, 95, 96, 97, 98, 99, 100, 101, 102, 103, 104, 105, 106, 107, 108, 109, 110, 111, 112, 113, 114, 115, 116, 117, 118, 119, 120, 121, 122, 123, 124, 125, 126, 127, 128, 129, 130, 131, 132, 133, 134, 135, 136, 137, 138, 139, 140, 141, 142, 143, 144, 145, 146, 147, 148, 149, 150, 151, 152, 153, 154, 155, 156, 157, 158, 160, 161, 162, 163, 164, 165, 172, 173, 174, 175, 176, 177, 184, 185, 186, 187, 188, 189, 196, 197, 198, 199, 200, 201, 28, 29, 30, 31, 32, 33, 34, 35, 166, 167, 168, 169, 178, 179, 180, 181, 190, 191, 192, 193, 202, 203, 204, 205, 60, 170, 182, 194, 206, 159, 171, 183, 195, 3, 4, 5, 6, 7, 8, 9, 10, 11, 12, 13, 14, 15, 16, 17, 18, 19, 20, 21, 22, 23, 24, 25, 26, 0, 1, 2, 27, 36, 37, 44, 45, 46, 47, 61, 62]
set_option maxHeartbeats 40000000 in
set_option maxRecDepth 200000 in
theorem knIx_C {ct : Nat → ClassId} {E : Nat → Nat} {yb yp qk : Nat → Nat} {uk : Nat → Nat → Nat} {f g : Nat → Option Nat} : knIx.map (fun i => (knE ct (E 31) yb yp qk uk f g)[i]?) = (((kW ct E (knY yb yp qk uk) kR0 kQ0).set 205 (knF ct (yb 205) f)).set 206 (knG ct (yb 206) g)).map some := by
  show _ = _
  exact (zlc rfl (zlc rfl (zlc rfl (zlc rfl (zlc rfl (zlc rfl (zlc rfl (zlc rfl (zlc rfl (zlc rfl (zlc rfl (zlc rfl (zlc rfl (zlc rfl (zlc rfl (zlc rfl (zlc rfl (zlc rfl (zlc rfl (zlc rfl (zlc rfl (zlc rfl (zlc rfl (zlc rfl (zlc rfl (zlc rfl (zlc rfl (zlc rfl (zlc rfl (zlc rfl (zlc rfl (zlc rfl (zlc rfl (zlc rfl (zlc rfl (zlc rfl (zlc rfl (zlc rfl (zlc rfl (zlc rfl (zlc rfl (zlc rfl (zlc rfl (zlc rfl (zlc rfl (zlc rfl (zlc rfl (zlc rfl (zlc rfl (zlc rfl (zlc rfl (zlc rfl (zlc rfl (zlc rfl (zlc rfl (zlc rfl (zlc rfl (zlc rfl (zlc rfl (zlc rfl (zlc rfl (zlc rfl (zlc rfl (zlc rfl (zlc rfl (zlc rfl (zlc rfl (zlc rfl (zlc rfl (zlc rfl (zlc rfl (zlc rfl (zlc rfl (zlc rfl (zlc rfl (zlc rfl (zlc rfl (zlc rfl (zlc rfl (zlc rfl (zlc rfl (zlc rfl (zlc rfl (zlc rfl (zlc rfl (zlc rfl (zlc rfl (zlc rfl (zlc rfl (zlc rfl (zlc rfl (zlc rfl (zlc rfl (zlc rfl (zlc rfl (zlc rfl (zlc rfl (zlc rfl (zlc rfl (zlc rfl (zlc rfl (zlc rfl (zlc rfl (zlc rfl (zlc rfl (zlc rfl (zlc rfl (zlc rfl (zlc rfl (zlc rfl (zlc rfl (zlc rfl (zlc rfl (zlc rfl (zlc rfl (zlc rfl (zlc rfl (zlc rfl (zlc rfl (zlc rfl (zlc rfl (zlc rfl (zlc rfl (zlc rfl (zlc rfl (zlc rfl (zlc rfl (zlc rfl (zlc rfl (zlc rfl (zlc rfl (zlc rfl (zlc rfl (zlc rfl (zlc rfl (zlc rfl (zlc rfl (zlc rfl (zlc rfl (zlc rfl (zlc rfl (zlc rfl (zlc rfl (zlc rfl (zlc rfl (zlc rfl (zlc rfl (zlc rfl (zlc rfl (zlc rfl (zlc rfl (zlc rfl (zlc rfl (zlc rfl (zlc rfl (zlc rfl (zlc rfl (zlc rfl (zlc rfl (zlc rfl (zlc rfl (zlc rfl (zlc rfl (zlc rfl (zlc rfl (zlc rfl (zlc rfl (zlc rfl (zlc rfl (zlc rfl (zlc rfl (zlc rfl (zlc rfl (zlc rfl (zlc rfl (zlc rfl (zlc rfl (zlc rfl (zlc rfl (zlc rfl (zlc rfl (zlc rfl (zlc rfl (zlc rfl (zlc rfl (zlc rfl (zlc rfl (zlc rfl (zlc rfl (zlc rfl (zlc rfl (zlc rfl (zlc rfl (zlc rfl (zlc rfl (zlc rfl (zlc rfl (zlc rfl (zlc rfl (zlc rfl (zlc rfl (zlc rfl (zlc rfl (zlc rfl (zlc rfl (zlc rfl (zlc rfl rfl)))))))))))))))))))))))))))))))))))))))))))))))))))))))))))))))))))))))))))))))))))))))))))))))))))))))))))))))))))))))))))))))))))))))))))))))))))))))))))))))))))))))))))))))))))))))))))))))))))))))))))))))
end
