/-! ===== the law: the world of both objects and of the row of answers ===== -/
def lW (ct : Nat → ClassId) (E y : Nat → Nat) (r : zRr) (q : zRq) (h2 : Nat) (ym : Nat → Nat) (rm : zRr) (qm : zRq) (h3 : Nat) (fo : Nat → Int64) : va_W := kW ct E y r q ++ (mW ct h2 ym rm qm ++ [(h3, .inl (ct 1, 1, .inr (.inl fo)))])
theorem mWl {ct : Nat → ClassId} {h2 : Nat} {ym : Nat → Nat} {rm : zRr} {qm : zRq} : (mW ct h2 ym rm qm).length = 40 := rfl
theorem lroom {cells slots : Nat} (h : cells ≤ 600000 ∧ slots ≤ 7290000) : cells + 0 ≤ room_1.cells ∧ slots + 0 ≤ room_1.slots := ⟨Nat.le_trans h.1 (Nat.le_of_ble_eq_true rfl), Nat.le_trans h.2 (Nat.le_of_ble_eq_true rfl)⟩
theorem lnd1 : va_nd (List.range' 207 41) = true := by decide +kernel
theorem lnd2 : va_nd (List.range' 41 207 ++ List.range' 0 41) = true := by decide +kernel
theorem lnd3 : va_nd (List.range' 40 208) = true := by decide +kernel
theorem lnd4 : va_nd (List.range' 208 40 ++ List.range' 0 208) = true := by decide +kernel
theorem lnd5 : va_nd (List.range' 207 40 ++ (List.range' 0 207 ++ List.range' (207 + 40) 1)) = true := by decide +kernel
theorem lnd6 : va_nd (List.range' 40 207 ++ (List.range' 0 40 ++ List.range' (40 + 207) 1)) = true := by decide +kernel
section LW
variable {p : Program} {l : Launch} {e : Env} {R : Room} {s : State} {m : MethodId} {args : Array Value} {below : List Frame} {meth : Method} {c : Code} {H : Heap} {locs : List Loc} {cells slots : Nat} {Q : State → Prop}
variable {cc : ByteArray} {pc : Nat} {ls : Array Slot} {rest st0 : List Value} {D : va_G} {ct : Nat → ClassId} {E y ym : Nat → Nat} {A : Nat → Prop} {r rm : zRr} {q qm : zRq} {h2 h3 : Nat} {fo : Nat → Int64}
theorem lrot (hw : zPD D A (lW ct E y r q h2 ym rm qm h3 fo) H) : zPD D A (mW ct h2 ym rm qm ++ (kW ct E y r q ++ [(h3, .inl (ct 1, 1, .inr (.inl fo)))])) H := zPD.rot (na := 207) (nb := 40) (nd := 1) kWlen mWl rfl lnd5 hw
theorem lcallX {S : Type} {rv : S → Option Value} {post : S → Prop} {r1 : S → zRr} {q1 : S → zRq} {a9 : Array Value} (hr : va_Run p l e R s m args below meth c H locs cells slots 0 0 (F0 m pc ls st0) rest (zQ D (va_A (kW ct E y r q) H.size) rv post (fun u => kW ct E y (r1 u) (q1 u)) a9) (va_A (kW ct E y r q) H.size)) (hw : zPD D A (lW ct E y r q h2 ym rm qm h3 fo) H) (hS : va_S A s.heap H locs) (hA : ∀ q, s.heap.size ≤ q → A q) (pc2 : Nat) (h9 : pc + 3 = pc2)
    (kk : ∀ (u : S) (H1 : Heap) (locs1 : List Loc), post u → zPD D A (lW ct E y (r1 u) (q1 u) h2 ym rm qm h3 fo) H1 → va_S A s.heap H1 locs1 → W p l e R s m args below meth c H1 locs1 cells slots Q (F0 m pc2 ls ((rv u).toList ++ rest))) : W p l e R s m args below meth c H locs cells slots Q (F0 m pc ls st0) :=
  lcall (na := 207) (nb := 41) kWlen rfl (fun _ => kWlen) lnd1 lnd2 hr hw hS hA pc2 h9 kk
theorem lcallM {S : Type} {rv : S → Option Value} {post : S → Prop} {r1 : S → zRr} {q1 : S → zRq} {a9 : Array Value} (hr : va_Run p l e R s m args below meth c H locs cells slots 0 0 (F0 m pc ls st0) rest (zQ D (va_A (mW ct h2 ym rm qm) H.size) rv post (fun u => mW ct h2 ym (r1 u) (q1 u)) a9) (va_A (mW ct h2 ym rm qm) H.size)) (hw : zPD D A (mW ct h2 ym rm qm ++ (kW ct E y r q ++ [(h3, .inl (ct 1, 1, .inr (.inl fo)))])) H) (hS : va_S A s.heap H locs) (hA : ∀ q, s.heap.size ≤ q → A q) (pc2 : Nat) (h9 : pc + 3 = pc2)
    (kk : ∀ (u : S) (H1 : Heap) (locs1 : List Loc), post u → zPD D A (lW ct E y r q h2 ym (r1 u) (q1 u) h3 fo) H1 → va_S A s.heap H1 locs1 → W p l e R s m args below meth c H1 locs1 cells slots Q (F0 m pc2 ls ((rv u).toList ++ rest))) : W p l e R s m args below meth c H locs cells slots Q (F0 m pc ls st0) :=
  lcall (na := 40) (nb := 208) mWl (by rw [List.length_append, kWlen]; rfl) (fun _ => mWl) lnd3 lnd4 hr hw hS hA pc2 h9 (fun u H1 l1 hp hz hs => kk u H1 l1 hp (zPD.rot (na := 40) (nb := 207) (nd := 1) mWl kWlen rfl lnd6 hz) hs)
end LW
/-- how it goes on behind the two calls -/
def kEnd (p : Program) (l : Launch) (e : Env) (s : State) (m : MethodId) (below : List Frame) (meth : Method) (c : Code) (b : Nat) (D : va_G) (ct : Nat → ClassId) (E y ym : Nat → Nat) (h2 h3 t cells slots : Nat) : Prop :=
  ∀ (r : zRr) (q : zRq) (rm : zRr) (qm : zRq) (fo : Nat → Int64) (cells1 slots1 : Nat), kJ r → mJ 20 rm → lR r q rm qm → cells1 ≤ cells + 1 → slots1 ≤ slots + 6 → ∀ (H : Heap) (locs : List Loc) (ls : Array Slot), zPD D (fun q : Nat => s.heap.size ≤ q) (lW ct E y r q h2 ym rm qm h3 fo) H → va_S (fun q : Nat => s.heap.size ≤ q) s.heap H locs → lv_has ls 7 [(4, .int (nI (7 * t))), (3, .ref h3), (2, .ref h2), (1, .ref (y 195)), (0, .ref b)] → W p l e room_1 s m #[Value.ref b] below meth c H locs cells1 slots1 (lw_Z below #[Value.ref b] s) (F0 m 1278 ls [])
