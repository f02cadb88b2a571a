/-! ===== feed on both sides: the tapes are as long ===== -/
theorem zstep_len {x : Int32} {t t' : Nat × (Nat → Int32)} (h : t.1 = t'.1) : (zstep x t).1 = (zstep x t').1 := by
  unfold zstep
  by_cases h1 : x = 10 ∨ (32 ≤ x ∧ x ≤ 126)
  · by_cases h2 : t.1 < 1000
    · rw [if_pos h1, if_pos h2, if_pos h1, if_pos (h ▸ h2)]; exact congrArg (· + 1) h
    · rw [if_pos h1, if_neg h2, if_pos h1, if_neg (h ▸ h2)]; exact h
  · rw [if_neg h1, if_neg h1]; exact h
theorem ztp3_len {a b c : Int64} {j : Nat} {t t' : Nat × (Nat → Int32)} (h : t.1 = t'.1) : (ztp3 a b c j t).1 = (ztp3 a b c j t').1 := by
  induction j with
  | zero => exact h
  | succ j ih => exact zstep_len ih
/-- the tape of the reference: how long, its signs -/
def mTp (r : zRr) : Nat × (Nat → Int32) := (zn (r 101 0), r 0)
def mfd (r : zRr) (a b c : Int64) : zRr := zset (zset (zset r 100 (fun _ => 0)) 101 (fun _ => nI (ztp3 a b c 24 (mTp r)).1)) 0 (ztp3 a b c 24 (mTp r)).2
def mW2 (ct : Nat → ClassId) (h0 : Nat) (y : Nat → Nat) (r : zRr) (q : zRq) : va_W := [(h0, .inr (11, mF y r q)), (y 0, .inl (ct 0, 1000, .inl (r 0)))]
def mWt (ct : Nat → ClassId) (y : Nat → Nat) (r : zRr) (q : zRq) : va_W := (mW ct 0 y r q).drop 2
theorem mTp_ix {B : Int} {r : zRr} (h : mJ B r) : r 101 0 = nI (mTp r).1 ∧ (mTp r).1 ≤ 1000 := by
  have h9 := (show zI 0 1000 (r 101 0) from h.i 101 0).ix (n := 1001) (by decide)
  exact ⟨h9.1, Nat.le_of_lt_succ h9.2⟩
theorem mfdJ {B : Int} {r : zRr} {a b c : Int64} (h : mJ B r) : mJ B (mfd r a b c) :=
  ((h.setc (k := 100) rfl (fun _ => zI.top _)).setc (k := 101) rfl (fun _ => show zI 0 1000 (nI (ztp3 a b c 24 (mTp r)).1) from zI.ofN (ztp3_le (mTp_ix h).2))).setr (k := 0) rfl (fun _ => zI.top _)
set_option maxHeartbeats 4000000 in
theorem r_feedM (l : Launch) (D : va_G) (ct : Nat → ClassId) (h0 : Nat) (y : Nat → Nat) (a b c : Int64) (r : zRr) (q : zRq) {B : Int} (h : mJ B r) : zC l yX12_feed wsX12_feed ({ frames := 1, cells := 0, slots := 0, locals := 80 }) D ct [] [.ref h0, .long a, .long b, .long c] (mW2 ct h0 y r q) (S := Unit) (fun _ => some (.int (nI (ztp3 a b c 24 (mTp r)).1))) (fun _ => True) (fun _ => mW2 ct h0 y (mfd r a b c) q) 0 0 := by
  have h1 := r_feedG l D ct h0 y a b c r q (mTp r).1 (mTp_ix h).2
  rw [← (mTp_ix h).1] at h1
  exact h1
theorem lnd7 : va_nd (List.range' 2 246) = true := by decide +kernel
theorem lnd8 : va_nd (List.range' 246 2 ++ List.range' 0 246) = true := by decide +kernel
section LF
variable {p : Program} {l : Launch} {e : Env} {R : Room} {s : State} {m : MethodId} {args : Array Value} {below : List Frame} {meth : Method} {c : Code} {H : Heap} {locs : List Loc} {cells slots : Nat} {Q : State → Prop}
variable {cc : ByteArray} {pc : Nat} {ls : Array Slot} {rest st0 : List Value} {D : va_G} {ct : Nat → ClassId} {E y ym : Nat → Nat} {A : Nat → Prop} {r rm : zRr} {q qm : zRq} {h2 h3 : Nat} {fo : Nat → Int64}
theorem lrot2 (hw : zPD D A (lW ct E y r q h2 ym rm qm h3 fo) H) : zPD D A (mW2 ct h2 ym rm qm ++ (mWt ct ym rm qm ++ (kW ct E y r q ++ [(h3, .inl (ct 1, 1, .inr (.inl fo)))]))) H := lrot hw
theorem lcallF {S : Type} {rv : S → Option Value} {post : S → Prop} {a9 : Array Value} {u1 u2 u3 : Int64} (hr : va_Run p l e R s m args below meth c H locs cells slots 0 0 (F0 m pc ls st0) rest (zQ D (va_A (mW2 ct h2 ym rm qm) H.size) rv post (fun _ => mW2 ct h2 ym (mfd rm u1 u2 u3) qm) a9) (va_A (mW2 ct h2 ym rm qm) H.size)) (hw : zPD D A (mW2 ct h2 ym rm qm ++ (mWt ct ym rm qm ++ (kW ct E y r q ++ [(h3, .inl (ct 1, 1, .inr (.inl fo)))]))) H) (hS : va_S A s.heap H locs) (hA : ∀ q, s.heap.size ≤ q → A q) (pc2 : Nat) (h9 : pc + 3 = pc2)
    (kk : ∀ (u : S) (H1 : Heap) (locs1 : List Loc), post u → zPD D A (lW ct E y r q h2 ym (mfd rm u1 u2 u3) qm h3 fo) H1 → va_S A s.heap H1 locs1 → W p l e R s m args below meth c H1 locs1 cells slots Q (F0 m pc2 ls ((rv u).toList ++ rest))) : W p l e R s m args below meth c H locs cells slots Q (F0 m pc ls st0) := by
  refine lcall (na := 2) (nb := 246) rfl (by rw [List.length_append, List.length_append, kWlen]; rfl) (fun _ => rfl) lnd7 lnd8 hr hw hS hA pc2 h9 (fun u H1 l1 hp hz hs => kk u H1 l1 hp ?_ hs)
  have hz : zPD D A (mW ct h2 ym (mfd rm u1 u2 u3) qm ++ (kW ct E y r q ++ [(h3, .inl (ct 1, 1, .inr (.inl fo)))])) H1 := hz
  exact zPD.rot (na := 40) (nb := 207) (nd := 1) mWl kWlen rfl lnd6 hz
end LF
/-- a long of two numbers of a script -/
def lLg (x y : Int32) : Int64 := (x.toInt64 <<< ((32 : Int32).toInt64 &&& 63)) ||| (y.toInt64 &&& 4294967295)
theorem lfeed {r r1 rm : zRr} {v : Int32} {a b c : Int64} (hJ : kJ r1) (hT : r 196 1 = rm 101 0) (h1 : v = r1 196 1) (h2 : kTp r1 = ztp c 8 (ztp b 8 (ztp a 8 (kTp r)))) : v = nI (ztp3 a b c 24 (mTp rm)).1 ∧ r1 196 1 = mfd rm a b c 101 0 := by
  have e : r1 196 1 = nI (ztp3 a b c 24 (mTp rm)).1 := by
    rw [(kTp_ix hJ).1, h2, ← ztp3_24]
    exact congrArg nI (ztp3_len (show zn (r 196 1) = zn (rm 101 0) by rw [hT]))
  exact ⟨h1.trans e, e⟩
