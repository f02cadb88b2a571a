/-! ===== the class: small rows of numbers; copies ===== -/
theorem ksw {x : Int32} {lo hi : Int} {k : Nat} (h0 : lo + (k : Int) = hi + 1) (h : ¬ (x.toInt < lo ∨ hi < x.toInt)) : ∃ j : Nat, j < k ∧ x.toInt = lo + (j : Int) :=
  ⟨(x.toInt - lo).toNat, by omega, by omega⟩
theorem zI.vin {a b : Int} {v : Int32} {n : Nat} (h : zI a b v) (k : 0 ≤ a ∧ b < (n : Int) ∧ n < 2147483648) : vp_in v n := by
  obtain ⟨e, hk⟩ := h.ix k
  rw [e]
  exact vp_in_nI hk k.2.2
theorem zI.t37 {a b : Int} {v : Int32} (h : zI a b v) (k : 0 ≤ a ∧ b < 37) : zn v < 37 := by
  have h1 := h.nn k.1
  omega
theorem zI.t33 {a b : Int} {v : Int32} (h : zI a b v) (k : 0 ≤ a ∧ b < 33) : zn v < 33 := by
  have h1 := h.nn k.1
  omega
theorem eLb {i : Nat} (hi : i < 37) : zI 0 8 (nI (eL.getD i 0)) := by
  have h : ∀ i : Nat, i < 37 → eL.getD i 0 ≤ 8 := by decide
  have h2 := h i hi
  unfold zI
  rw [nI_toInt (by omega)]
  constructor <;> omega
theorem kcpy {f g : Nat → Int32} {lo hi : Nat → Int} {n : Nat} (hf : ∀ j, zI (lo j) (hi j) (f j)) (hg : ∀ j, zI (lo j) (hi j) (g j)) (j : Nat) : zI (lo j) (hi j) (va_cpy f g 0 0 n j) := by
  unfold va_cpy
  split
  · rw [show 0 + (j - 0) = j by omega]; exact hf j
  · exact hg j
theorem va_cpy_in {α : Type} {f g : Nat → α} {n j : Nat} (h : j < n) : va_cpy f g 0 0 n j = f j := by
  unfold va_cpy
  rw [if_pos ⟨Nat.zero_le _, by omega⟩, show 0 + (j - 0) = j by omega]
theorem va_cpy_out {α : Type} {f g : Nat → α} {n j : Nat} (h : n ≤ j) : va_cpy f g 0 0 n j = g j := by
  unfold va_cpy
  rw [if_neg (by omega)]
theorem kJ.setl {r : zRr} (h : kJ r) {n j : Nat} {v : Int32} (hn : n = 171 ∨ n = 183) (hj : ¬ j = 10) (hv : zI (klo n j) (khi n j) v) : kJ (zset r n (upd (r n) j v)) := by
  have e : ∀ a, a ≠ n → zset r n (upd (r n) j v) a = r a := fun a ha => zset_ne ha
  refine ⟨h.i.set hv, ?_, ?_, h.2.2.2.row (fun k hk => e k (fun e2 => by subst e2; rcases hn with rfl | rfl <;> cases hk))⟩
  · intro i hi
    rcases hn with rfl | rfl
    · rw [zset_eq, pk_un (by omega)] at hi
      rw [e _ (by decide)]; exact h.2.1 i hi
    · rw [e _ (by decide)] at hi
      rw [e _ (by decide)]; exact h.2.1 i hi
  · intro i hi
    rcases hn with rfl | rfl
    · rw [e _ (by decide)] at hi
      rw [e _ (by decide)]; exact h.2.2.1 i hi
    · rw [zset_eq, pk_un (by omega)] at hi
      rw [e _ (by decide)]; exact h.2.2.1 i hi
/-- nobody is told yet -/
theorem kJ.pers0 {r : zRr} (h : kJ r) {v : Int32} (hv : v = 0) : kJ (zset r 183 (upd (r 183) 10 v)) := by
  have e : ∀ a, a ≠ 183 → zset r 183 (upd (r 183) 10 v) a = r a := fun a ha => zset_ne ha
  refine ⟨h.i.set (by rw [hv]; exact (show zI 0 6 (0 : Int32) from ⟨by decide, by decide⟩)), h.2.1.row (e _ (by decide)) (e _ (by decide)), ?_, h.2.2.2.row (fun k hk => e k (fun e2 => by subst e2; cases hk))⟩
  intro i hi
  rw [zset_eq, pk_us, hv] at hi
  have e0 : (0 : Int32).toInt = 0 := by decide
  omega
/-- one more is told: his home is a town -/
theorem kJ.pers1 {r : zRr} (h : kJ r) {p : Int32} (hp : r 183 10 = p) (hb : zI 0 5 p) (hh : zI 0 5 (r 188 (zn p))) : kJ (zset r 183 (upd (r 183) 10 (r 183 10 + 1))) := by
  have e : ∀ a, a ≠ 183 → zset r 183 (upd (r 183) 10 (r 183 10 + 1)) a = r a := fun a ha => zset_ne ha
  have e1 : (r 183 10 + 1).toInt = p.toInt + 1 := by rw [hp]; exact i32_s hb (by decide)
  refine ⟨h.i.set (show zI 0 6 (r 183 10 + 1) by obtain ⟨q1, q2⟩ := hb; constructor <;> omega), h.2.1.row (e _ (by decide)) (e _ (by decide)), ?_, h.2.2.2.row (fun k hk => e k (fun e2 => by subst e2; cases hk))⟩
  intro i hi
  rw [zset_eq, pk_us, e1] at hi
  rw [e _ (by decide)]
  by_cases e2 : i = zn p
  · rw [e2]; exact hh
  · refine h.2.2.1 i ?_
    rw [hp]
    have := hb.1
    unfold zn at e2
    omega
/-- a home that is only being read -/
theorem kJ.home {r : zRr} (h : kJ r) {p v : Int32} (hp : (r 183 10).toInt ≤ p.toInt) (hb : zI 0 5 p) (hv : zI (-1) 5 v) : kJ (zset r 188 (upd (r 188) (zn p) v)) := by
  have e : ∀ a, a ≠ 188 → zset r 188 (upd (r 188) (zn p) v) a = r a := fun a ha => zset_ne ha
  refine ⟨h.i.set hv, h.2.1.row (e _ (by decide)) (e _ (by decide)), ?_, h.2.2.2.row (fun k hk => e k (fun e2 => by subst e2; cases hk))⟩
  intro i hi
  rw [e _ (by decide)] at hi
  have h2 := hb.1
  rw [show (183 : Nat) + 5 = 188 from rfl, zset_eq, pk_un (by unfold zn; omega)]
  exact h.2.2.1 i hi
theorem va_nd_of : ∀ {l : List Nat}, l.Nodup → va_nd l = true
  | [], _ => rfl
  | a :: l, h => by
    obtain ⟨h1, h2⟩ := List.nodup_cons.mp h
    simp only [va_nd, Bool.and_eq_true, decide_eq_true_eq]
    exact ⟨h1, va_nd_of h2⟩
/-! a call that knows of some cells alone -/
section KS
variable {p : Program} {l : Launch} {e : Env} {R : Room} {s : State} {m : MethodId} {args : Array Value} {below : List Frame} {meth : Method} {c : Code} {H : Heap} {locs : List Loc} {cells slots : Nat} {Q : State → Prop}
variable {cc : ByteArray} {pc : Nat} {ls : Array Slot} {rest st0 : List Value} {D : va_G} {ct : Nat → ClassId} {E y : Nat → Nat} {A : Nat → Prop} {a : Nat} {w0 : va_W} {r : zRr} {q : zRq}
def kcl (ct : Nat → ClassId) (E y : Nat → Nat) (r : zRr) (q : zRq) (n : Nat) : Nat × va_E := (y n, kc ct E y n (r n) (q n))
theorem kget1 {n : Nat} (h : n < 207) : (kW ct E y r q)[n]? = some (kcl ct E y r q n) := kWat h rfl
theorem kmap {isC : List Nat} (hlt : ∀ n ∈ isC, n < 207) : isC.map (fun i => (kW ct E y r q)[i]?) = (isC.map (kcl ct E y r q)).map some := by
  rw [List.map_map]
  exact List.map_congr_left (fun n hn => kget1 (hlt n hn))
theorem kcall {S : Type} {rv : S → Option Value} {post : S → Prop} {B : S → va_W} {a9 : Array Value} (isC : List Nat) (hlt : ∀ n ∈ isC, n < 207) (hC : isC.map (kcl ct E y r q) = w0)
    (hr : va_Run p l e R s m args below meth c H locs 0 0 0 0 (F0 m pc ls st0) rest (zQ D (va_A w0 H.size) rv post B a9) (va_A w0 H.size)) (hw : zPD D A (kW ct E y r q) H) (hS : va_S A s.heap H locs) (hA : ∀ q, s.heap.size ≤ q → A q) (pc2 : Nat) (h2 : pc + 3 = pc2)
    (r1 : zRr) (q1 : zRq) (hB : ∀ u, isC.map (kcl ct E y r1 q1) = B u) (ho : ∀ n, n ∉ isC → r1 n = r n ∧ q1 n = q n)
    (kk : ∀ (u : S) (H1 : Heap) (locs1 : List Loc), post u → zPD D A (kW ct E y r1 q1) H1 → va_S A s.heap H1 locs1 → W p l e R s m args below meth c H1 locs1 0 0 Q (F0 m pc2 ls ((rv u).toList ++ rest))) : W p l e R s m args below meth c H locs 0 0 Q (F0 m pc ls st0) := by
  subst h2
  have hlR : ∀ n ∈ (List.range 207).filter (fun i => !isC.contains i), n < 207 := fun n hn => List.mem_range.mp (List.mem_filter.mp hn).1
  refine zcall (wr := ((List.range 207).filter (fun i => !isC.contains i)).map (kcl ct E y r q)) hr hw hS hA isC ((List.range 207).filter (fun i => !isC.contains i)) (by rw [← hC]; exact kmap hlt) (kmap hlR) ?_ ?_ ?_
  · exact va_nd_of (List.nodup_range.filter _)
  · intro i hi hc
    have h1 := (List.mem_filter.mp hi).2
    rw [List.contains_iff_mem.mpr hc] at h1
    cases h1
  · intro u H1 locs1 hp hz hs
    refine kk u H1 locs1 hp ⟨?_, ?_⟩ hs
    · intro k q9 hk
      have hk2 : k < 207 := by
        have := (List.getElem?_eq_some_iff.mp hk).1
        rw [kWlen] at this; exact this
      rw [kget1 hk2] at hk
      cases hk
      have hm : kcl ct E y r1 q1 k ∈ ((List.range 207).filter (fun i => !isC.contains i)).map (kcl ct E y r q) ++ B u := by
        by_cases hc : k ∈ isC
        · rw [← hB u]
          exact List.mem_append_right _ (List.mem_map_of_mem hc)
        · refine List.mem_append_left _ ?_
          obtain ⟨o1, o2⟩ := ho k hc
          have e9 : kcl ct E y r1 q1 k = kcl ct E y r q k := by unfold kcl; rw [o1, o2]
          rw [e9]
          exact List.mem_map_of_mem (List.mem_filter.mpr ⟨List.mem_range.mpr hk2, by simp [hc]⟩)
      obtain ⟨j, hj⟩ := List.getElem?_of_mem hm
      exact hz.1 j _ hj
    · have had : ∀ k : Nat, ((kW ct E y r1 q1)[k]?).map Prod.fst = ((kW ct E y r q)[k]?).map Prod.fst := by
        intro k
        by_cases hk : k < 207
        · rw [kget1 hk, kget1 hk]
          show some (y k) = some (y k)
          rfl
        · rw [List.getElem?_eq_none (by rw [kWlen]; omega), List.getElem?_eq_none (by rw [kWlen]; omega)]
      have get : ∀ (k : Nat) (x : Nat × va_E), (kW ct E y r1 q1)[k]? = some x → ∃ x', (kW ct E y r q)[k]? = some x' ∧ x'.1 = x.1 := by
        intro k x hx
        have h9 := had k
        rw [hx] at h9
        cases h8 : (kW ct E y r q)[k]? with
        | none => rw [h8] at h9; cases h9
        | some x' => rw [h8] at h9; exact ⟨x', rfl, (Option.some.inj h9).symm⟩
      refine ⟨fun i j x z hx hz e9 => ?_, fun k x hx => ?_⟩
      · obtain ⟨x', h1, h3⟩ := get i x hx
        obtain ⟨z', h4, h5⟩ := get j z hz
        exact hw.2.1 i j x' z' h1 h4 (by rw [h3, h5]; exact e9)
      · obtain ⟨x', h1, h3⟩ := get k x hx
        rw [← h3]
        exact hw.2.2 k x' h1
end KS
theorem eLn {i : Nat} (hi : i < 37) : eL.getD i 0 ≤ 8 := by
  have h : ∀ i : Nat, i < 37 → eL.getD i 0 ≤ 8 := by decide
  exact h i hi
theorem eLin {i : Nat} {k : Int32} {b : Int} (hi : i < 37) (hk : zI 0 b k) (h : k < nI (eL.getD i 0)) : vp_in k (eL.getD i 0) := by
  have h1 := eLn hi
  have h2 := Int32.lt_iff_toInt_lt.mp h
  rw [nI_toInt (by omega)] at h2
  have h3 := hk.1
  have e : k = nI (zn k) := Int32.toInt_inj.mp (by rw [nI_toInt (by unfold zn; omega)]; unfold zn; omega)
  rw [e]
  exact vp_in_nI (by unfold zn; omega) (by omega)
theorem zI.dn8 {a b : Int} {v : Int32} {n : Nat} (h : zI a b v) (k : 0 ≤ a) (hm : v.toInt + 8 < ((n + 1 : Nat) : Int)) : (v + (-8)).toInt + 8 < (n : Int) := by
  obtain ⟨h1, h2⟩ := h
  have e1 : (-8 : Int32).toInt = -8 := by decide
  have h3 := Int32.toInt_lt v
  rw [Jvm.Kit.i32_add (by rw [e1]; omega) (by rw [e1]; omega), e1]
  omega
