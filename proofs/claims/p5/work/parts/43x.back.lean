/-! ===== calls that know one cell or two of a world; the world behind them ===== -/
section LB
variable {p : Program} {l : Launch} {e : Env} {R : Room} {s : State} {m : MethodId} {args : Array Value} {below : List Frame} {meth : Method} {c : Code} {H H1 : Heap} {locs : List Loc} {cells slots : Nat} {Q : State → Prop}
variable {cc : ByteArray} {pc : Nat} {ls : Array Slot} {rest st0 : List Value} {D : va_G} {A : Nat → Prop} {ws ws' wz : va_W} {k : Nat} {x x0 c' : Nat × va_E}
theorem zback (hw : zPD D A ws H) (hz : zPD D A wz H1) (hf : ws'.map Prod.fst = ws.map Prod.fst) (hm : ∀ x ∈ ws', x ∈ wz) : zPD D A ws' H1 := by
  have get : ∀ (k : Nat) (x : Nat × va_E), ws'[k]? = some x → ∃ x', ws[k]? = some x' ∧ x'.1 = x.1 := by
    intro k x hx
    have h9 := congrArg (fun l : List Nat => l[k]?) hf
    simp only [List.getElem?_map, hx, Option.map_some] at h9
    cases h8 : ws[k]? with
    | none => rw [h8] at h9; cases h9
    | some x' => rw [h8] at h9; exact ⟨x', rfl, (Option.some.inj h9).symm⟩
  refine ⟨fun k x hx => ?_, fun i j a b ha hb e9 => ?_, fun k x hx => ?_⟩
  · obtain ⟨j, hj⟩ := List.getElem?_of_mem (hm x (List.mem_of_getElem? hx))
    exact hz.1 j x hj
  · obtain ⟨a', h1, h3⟩ := get i a ha
    obtain ⟨b', h4, h5⟩ := get j b hb
    exact hw.2.1 i j a' b' h1 h4 (by rw [h3, h5]; exact e9)
  · obtain ⟨x', h1, h3⟩ := get k x hx
    rw [← h3]
    exact hw.2.2 k x' h1
theorem zmset (h : x ∈ ws.set k c') : x = c' ∨ ∃ i, i ≠ k ∧ ws[i]? = some x := by
  obtain ⟨i, hi⟩ := List.getElem?_of_mem h
  rw [List.getElem?_set] at hi
  by_cases e : k = i
  · rw [if_pos e] at hi
    split at hi
    · exact Or.inl (Option.some.inj hi).symm
    · cases hi
  · rw [if_neg e] at hi
    exact Or.inr ⟨i, fun h => e h.symm, hi⟩
theorem zfset (hk : ws[k]? = some x) (hc : c'.1 = x.1) : (ws.set k c').map Prod.fst = ws.map Prod.fst := by
  apply List.ext_getElem?
  intro i
  rw [List.getElem?_map, List.getElem?_map, List.getElem?_set]
  by_cases e : k = i
  · subst e
    rw [if_pos rfl, if_pos (List.getElem?_eq_some_iff.mp hk).1, hk]
    show some c'.1 = some x.1
    rw [hc]
  · rw [if_neg e]
def lrs (n : Nat) (isC : List Nat) : List Nat := (List.range n).filter (fun i => !isC.contains i)
theorem lrs_nd {n : Nat} {isC : List Nat} : va_nd (lrs n isC) = true := va_nd_of (List.nodup_range.filter _)
theorem lrs_all {isC : List Nat} : (lrs ws.length isC).all (fun i => decide (i < ws.length)) = true := List.all_eq_true.mpr (fun i hi => decide_eq_true (List.mem_range.mp (List.mem_filter.mp hi).1))
theorem lrs_dis {n : Nat} {isC : List Nat} : ∀ i ∈ lrs n isC, i ∉ isC := by
  intro i hi hc
  have h1 := (List.mem_filter.mp hi).2
  rw [List.contains_iff_mem.mpr hc] at h1
  cases h1
theorem lrs_mem {isC : List Nat} {i : Nat} (hi : ws[i]? = some x) (hc : i ∉ isC) : x ∈ (lrs ws.length isC).filterMap (fun i => ws[i]?) := List.mem_filterMap.mpr ⟨i, List.mem_filter.mpr ⟨List.mem_range.mpr (List.getElem?_eq_some_iff.mp hi).1, by simp [hc]⟩, hi⟩
/-- a call that knows the k-th cell alone -/
theorem lcell {S : Type} {rv : S → Option Value} {post : S → Prop} {mc ms : Nat} {a9 : Array Value} (k : Nat) (hk : ws[k]? = some x) (hc : c'.1 = x.1) (hr : va_Run p l e R s m args below meth c H locs cells slots mc ms (F0 m pc ls st0) rest (zQ D (va_A [x] H.size) rv post (fun _ => [c']) a9) (va_A [x] H.size)) (hw : zPD D A ws H) (hS : va_S A s.heap H locs) (hA : ∀ q, s.heap.size ≤ q → A q) (pc2 : Nat) (h9 : pc + 3 = pc2)
    (kk : ∀ (u : S) (H1 : Heap) (locs1 : List Loc), post u → zPD D A (ws.set k c') H1 → va_S A s.heap H1 locs1 → W p l e R s m args below meth c H1 locs1 (cells + mc) (slots + ms) Q (F0 m pc2 ls ((rv u).toList ++ rest))) : W p l e R s m args below meth c H locs cells slots Q (F0 m pc ls st0) := by
  subst h9
  refine zcall hr hw hS hA [k] (lrs ws.length [k]) (kone hk) (zval _ lrs_all) lrs_nd lrs_dis (fun u H1 l1 hp hz hs => kk u H1 l1 hp (zback hw hz (zfset hk hc) (fun z hz9 => ?_)) hs)
  rcases zmset hz9 with rfl | ⟨i, hi, hi2⟩
  · exact List.mem_append_right _ (List.mem_singleton.mpr rfl)
  · exact List.mem_append_left _ (lrs_mem hi2 (fun h => hi (List.mem_singleton.mp h)))
/-- a call that may throw, and knows two cells: the second changes -/
theorem lxcell {S : Type} {rv : S → Option Value} {post : S → Prop} {px : Unit → Prop} {BX : String → Unit → State → Prop} {mc ms : Nat} {a9 : Array Value} (k0 k : Nat) (hk0 : ws[k0]? = some x0) (hk : ws[k]? = some x) (hne : k0 ≠ k) (hc : c'.1 = x.1) (hr : vx_Run p l e R s m args below meth c H locs cells slots mc ms (F0 m pc ls st0) rest (zQ D (va_A [x0, x] H.size) rv post (fun _ => [x0, c']) a9) (vx_X px BX (va_A [x0, x] H.size)) (va_A [x0, x] H.size)) (hw : zPD D A ws H) (hS : va_S A s.heap H locs) (hA : ∀ q, s.heap.size ≤ q → A q) (pc2 : Nat) (h9 : pc + 3 = pc2) (hpx : ∀ u, ¬ px u)
    (kk : ∀ (u : S) (H1 : Heap) (locs1 : List Loc), post u → zPD D A (ws.set k c') H1 → va_S A s.heap H1 locs1 → W p l e R s m args below meth c H1 locs1 (cells + mc) (slots + ms) Q (F0 m pc2 ls ((rv u).toList ++ rest))) : W p l e R s m args below meth c H locs cells slots Q (F0 m pc ls st0) := by
  subst h9
  refine zxcall hr hw hS hA [k0, k] (lrs ws.length [k0, k]) (ktwo hk0 hk) (zval _ lrs_all) lrs_nd lrs_dis (fun E ce q9 t H locs hp hE hw hS hce hcv hcl => absurd hp (hpx _)) (fun u H1 l1 hp hz hs => kk u H1 l1 hp (zback hw hz (zfset hk hc) (fun z hz9 => ?_)) hs)
  rcases zmset hz9 with rfl | ⟨i, hi, hi2⟩
  · exact List.mem_append_right _ (List.mem_cons_of_mem _ (List.mem_singleton.mpr rfl))
  · by_cases h0 : i = k0
    · subst h0
      rw [hk0] at hi2
      cases hi2
      exact List.mem_append_right _ List.mem_cons_self
    · exact List.mem_append_left _ (lrs_mem hi2 (by
        intro h
        rcases List.mem_cons.mp h with h | h
        · exact h0 h
        · exact hi (List.mem_singleton.mp h)))
end LB
section LC
variable {D : va_G} {ct : Nat → ClassId} {E y ym : Nat → Nat} {A : Nat → Prop} {r rm : zRr} {q qm : zRq} {h2 h3 : Nat} {fo fo' : Nat → Int64} {v : Int32}
theorem l195 : (lW ct E y r q h2 ym rm qm h3 fo)[195]? = some (y 195, .inr (10, [.ref (y 196), .ref (y 171), .ref (y 183), .ref (y 198), .ref (y 138), .ref (y 142), .ref (y 199), .ref (y 200), .ref (y 6), .ref (y 12), .ref (y 162), .ref (y 205), .ref (y 206), .int (r 195 13), .int (r 195 14)])) := by
  unfold lW
  rw [List.getElem?_append_left (by rw [kWlen]; decide)]; exact kg195
theorem l207 : (lW ct E y r q h2 ym rm qm h3 fo)[207]? = some (h2, .inr (11, mF ym rm qm)) := by
  unfold lW
  rw [List.getElem?_append_right (by rw [kWlen]; decide), kWlen]; rfl
theorem l247 : (lW ct E y r q h2 ym rm qm h3 fo)[247]? = some (h3, .inl (ct 1, 1, .inr (.inl fo))) := by
  unfold lW
  rw [List.getElem?_append_right (by rw [kWlen]; decide), kWlen]; rfl
theorem ls247 : (lW ct E y r q h2 ym rm qm h3 fo).set 247 (h3, .inl (ct 1, 1, .inr (.inl fo'))) = lW ct E y r q h2 ym rm qm h3 fo' := by
  unfold lW
  rw [List.set_append_right _ _ (by rw [kWlen]; decide), kWlen]; rfl
theorem ls207 : (lW ct E y r q h2 ym rm qm h3 fo).set 207 (h2, .inr (11, (mF ym rm qm).set 0 (.int v))) = lW ct E y r q h2 ym (zset rm 100 (fun _ => v)) qm h3 fo := by
  unfold lW
  rw [List.set_append_right _ _ (by rw [kWlen]; decide), kWlen]; rfl
end LC
theorem lroom1 {cells slots : Nat} (h : cells ≤ 600000 ∧ slots ≤ 7290000) : cells + 1 ≤ room_1.cells ∧ slots + 6 ≤ room_1.slots := ⟨Nat.le_trans (Nat.succ_le_succ h.1) (Nat.le_of_ble_eq_true rfl), Nat.le_trans (Nat.add_le_add_right h.2 6) (Nat.le_of_ble_eq_true rfl)⟩
theorem lroom2 {cells slots : Nat} (h : cells ≤ 600000 ∧ slots ≤ 7290000) : cells + 1 + 0 ≤ room_1.cells ∧ slots + 6 + 0 ≤ room_1.slots := lroom1 h
theorem zlcmpF {f : Nat → Int64} {r w q : Int32} (h : zth r w q = 0) : lg_cmp (zou f r w q 0) (zrv r w q).toInt64 = 0 := by
  obtain ⟨v, hv⟩ := zth_0 h
  rw [zou_some hv, zrv_some hv, pk_uLs]
  simp [lg_cmp]
