/-! ===== worlds side by side: a call that knows the first of them ===== -/
theorem zseg {u w v : va_W} {k n : Nat} (hk : u.length = k) (hn : w.length = n) : (List.range' k n).map (fun i => (u ++ (w ++ v))[i]?) = w.map some := by
  subst hk hn
  apply List.ext_getElem?
  intro j
  rw [List.getElem?_map, List.getElem?_map]
  by_cases h : j < w.length
  · rw [List.getElem?_range' h, List.getElem?_eq_getElem h]
    show some ((u ++ (w ++ v))[u.length + 1 * j]?) = _
    rw [Nat.one_mul, List.getElem?_append_right (Nat.le_add_right _ _), Nat.add_sub_cancel_left, List.getElem?_append_left h, List.getElem?_eq_getElem h]; rfl
  · rw [List.getElem?_eq_none (by simpa using h), List.getElem?_eq_none (by omega)]; rfl
theorem zseg0 {w v : va_W} {n : Nat} (hn : w.length = n) : (List.range' 0 n).map (fun i => (w ++ v)[i]?) = w.map some := zseg (u := []) rfl hn
theorem zseg1 {u w : va_W} {k n : Nat} (hk : u.length = k) (hn : w.length = n) : (List.range' k n).map (fun i => (u ++ w)[i]?) = w.map some := by
  have h := zseg (u := u) (w := w) (v := []) hk hn
  rw [List.append_nil] at h; exact h
theorem zseg2 {u w v : va_W} {a b n : Nat} (ha : u.length = a) (hb : w.length = b) (hn : v.length = n) : (List.range' (a + b) n).map (fun i => (u ++ (w ++ v))[i]?) = v.map some := by
  have h := zseg1 (u := u ++ w) (w := v) (k := a + b) (by rw [List.length_append, ha, hb]) hn
  rw [List.append_assoc] at h; exact h
section ZSD
variable {p : Program} {l : Launch} {e : Env} {R : Room} {s : State} {m : MethodId} {args : Array Value} {below : List Frame} {meth : Method} {c : Code} {H : Heap} {locs : List Loc} {cells slots : Nat} {Q : State → Prop}
variable {cc : ByteArray} {pc : Nat} {ls : Array Slot} {rest st0 : List Value} {D : va_G} {ct : Nat → ClassId} {E : Nat → Nat} {A : Nat → Prop} {w0 wr a b d : va_W} {na nb nd : Nat}
theorem zPD.swap (ha : a.length = na) (hb : b.length = nb) (hn : va_nd (List.range' na nb ++ List.range' 0 na) = true) (hw : zPD D A (a ++ b) H) : zPD D A (b ++ a) H :=
  hw.sub _ hn (by rw [List.map_append, List.map_append, zseg1 ha hb, zseg0 ha])
theorem zPD.rot (ha : a.length = na) (hb : b.length = nb) (hd : d.length = nd) (hn : va_nd (List.range' na nb ++ (List.range' 0 na ++ List.range' (na + nb) nd)) = true) (hw : zPD D A (a ++ (b ++ d)) H) : zPD D A (b ++ (a ++ d)) H :=
  hw.sub _ hn (by rw [List.map_append, List.map_append, List.map_append, List.map_append, zseg ha hb, zseg0 ha, zseg2 ha hb hd])
theorem lcall {S : Type} {rv : S → Option Value} {post : S → Prop} {B : S → va_W} {mc ms : Nat} {a9 : Array Value} (h0 : w0.length = na) (h1 : wr.length = nb) (hB : ∀ u, (B u).length = na) (hn1 : va_nd (List.range' na nb) = true) (hn2 : va_nd (List.range' nb na ++ List.range' 0 nb) = true)
    (hr : va_Run p l e R s m args below meth c H locs cells slots mc ms (F0 m pc ls st0) rest (zQ D (va_A w0 H.size) rv post B a9) (va_A w0 H.size)) (hw : zPD D A (w0 ++ wr) H) (hS : va_S A s.heap H locs) (hA : ∀ q, s.heap.size ≤ q → A q) (pc2 : Nat) (h2 : pc + 3 = pc2)
    (kk : ∀ (u : S) (H1 : Heap) (locs1 : List Loc), post u → zPD D A (B u ++ wr) H1 → va_S A s.heap H1 locs1 → W p l e R s m args below meth c H1 locs1 (cells + mc) (slots + ms) Q (F0 m pc2 ls ((rv u).toList ++ rest))) : W p l e R s m args below meth c H locs cells slots Q (F0 m pc ls st0) := by
  subst h2
  refine zcall (wr := wr) hr hw hS hA (List.range' 0 na) (List.range' na nb) (zseg0 h0) (zseg1 h0 h1) hn1 (fun i hi hc => ?_) (fun u H1 l1 hp hz hs => kk u H1 l1 hp (hz.swap h1 (hB u) hn2) hs)
  have h3 := List.mem_range'_1.mp hi
  have h4 := List.mem_range'_1.mp hc
  omega
/-- what a callee wants of the first world -/
theorem lpreC {As : List Value} {ad : Addr} {q : vw_C} {fs : List Value} (hK : va_K D vwCl (zT ct) s) (hw : zPD D A (w0 ++ wr) H) (hS : va_S A s.heap H locs) (hA : ∀ q, s.heap.size ≤ q → A q) (hZ : eZ E A s s.heap) (hN : zN s) (h0 : w0.length = na) (hn : va_nd (List.range' 0 na) = true) (ci q0 : Nat) (hc : vwCl[ci]? = some q) (he : w0[q0]? = some (ad, .inr (ci, fs))) : PreV s H q.1 ad (cPc D ct E (.ref ad :: As) w0 H.size) As :=
  cpreV hK hw hS hA hZ hN (List.range' 0 na) hn (zseg0 h0) ci q0 hc (by rw [List.getElem?_append_left (List.getElem?_eq_some_iff.mp he).1]; exact he)
theorem lpreZ {As : List Value} {ad : Addr} {q : vw_C} {fs : List Value} (hK : va_K D vwCl (zT ct) s) (hw : zPD D A (w0 ++ wr) H) (hS : va_S A s.heap H locs) (hA : ∀ q, s.heap.size ≤ q → A q) (hN : zN s) (h0 : w0.length = na) (hn : va_nd (List.range' 0 na) = true) (ci q0 : Nat) (hc : vwCl[ci]? = some q) (he : w0[q0]? = some (ad, .inr (ci, fs))) : PreV s H q.1 ad (zPc D ct [] (.ref ad :: As) w0 H.size) As :=
  zpreV hK hw hS hA zZ.nil hN (List.range' 0 na) hn (zseg0 h0) ci q0 hc (by rw [List.getElem?_append_left (List.getElem?_eq_some_iff.mp he).1]; exact he)
end ZSD
