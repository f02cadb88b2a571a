/-! ===== the lines of a journey as it is read ===== -/
def kGd (r : zRr) (j : Nat) : Prop := (r 143 j = 0 → zI 0 5 (r 145 j)) ∧ zI 0 5 (r 144 j)
def kLb (r : zRr) (n : Int) : Prop := ∀ j : Nat, (j : Int) < n → kGd r j
theorem kLb.L {r : zRr} (h : kLb r (r 142 3).toInt) : kL r 142 := h
theorem kLb.row {r r1 : zRr} {n : Int} (h : kLb r n) (e1 : r1 143 = r 143) (e2 : r1 144 = r 144) (e3 : r1 145 = r 145) : kLb r1 n := by
  intro j hj
  unfold kGd
  rw [e1, e2, e3]; exact h j hj
theorem kLb.set {r r1 : zRr} {n : Int} (h : kLb r n) {k : Nat} {i v : Int32} (hi : n ≤ i.toInt) (e : r1 = zset r k (upd (r k) (zn i) v)) : kLb r1 n := by
  intro j hj
  have hne : j ≠ zn i := by unfold zn; omega
  have h9 : ∀ a, r1 a j = r a j := by
    intro a
    rw [e]
    by_cases hk : a = k
    · subst hk; rw [zset_eq, pk_un hne]
    · rw [zset_ne hk]
  unfold kGd
  rw [h9, h9, h9]; exact h j hj
theorem kLb.up {r : zRr} {n m : Int} (h : kLb r n) (hm : m = n + 1) {i : Int32} (hi : i.toInt = n) (hg : kGd r (zn i)) : kLb r m := by
  intro j hj
  by_cases hn : (j : Int) < n
  · exact h j hn
  · have e : j = zn i := by unfold zn; omega
    rw [e]; exact hg
theorem kLb.zero {r : zRr} {n : Int} (h : n ≤ 0) : kLb r n := fun j hj => absurd hj (by omega)
theorem kGd.row {r r1 : zRr} {j : Nat} (h : kGd r j) (e1 : r1 143 = r 143) (e2 : r1 144 = r 144) (e3 : r1 145 = r 145) : kGd r1 j := by
  unfold kGd
  rw [e1, e2, e3]; exact h
theorem kforge {f v : Int32} (hf : zI 0 20 f) (h1 : (1 : Int32) ≤ v) (h2 : v ≤ 20 - f) : zI 0 20 (f + v) := by
  have c1 : (1 : Int32).toInt = 1 := by decide
  have c20 : (20 : Int32).toInt = 20 := by decide
  have h3 := leI h1
  have h4 := leI h2
  rw [i32_d (zI.lit (a := 20) (b := 20) (c := 20) (by decide)) hf (by decide)] at h4
  obtain ⟨q1, q2⟩ := hf
  have hv : zI 1 20 v := ⟨by omega, by omega⟩
  have e := i32_a (show zI 0 20 f from ⟨q1, q2⟩) hv (by decide)
  constructor <;> omega
theorem kfew {f i m : Int32} (hf : zI 0 20 f) (h1 : zI 0 20 i) (h2 : i ≤ m) (h3 : m.toInt ≤ 20 - f.toInt) : zI 0 20 (f + i) := by
  have h4 := leI h2
  have e := i32_a hf h1 (by decide)
  obtain ⟨q1, q2⟩ := hf
  obtain ⟨q3, q4⟩ := h1
  constructor <;> omega
theorem kcp8_15 {r : zRr} {i : Int32} (hi : zI 0 5 i) : kcp8 r 12 6 15 (zn i) = r 9 (zn i) := by
  have h9 := hi.nn (by decide)
  show va_cpy (r 9) (r 15) 0 0 6 (zn i) = _
  rw [va_cpy_in (by omega)]
theorem kJ.hm {r : zRr} (h : kJ r) {i : Int32} {a b : Int} (hi : zI a b i) (hlt : i < r 171 10) (k : 0 ≤ a) : zI 0 5 (r 176 (zn i)) := by
  have h1 := ltI hlt
  have h2 := hi.1
  exact h.2.1 (zn i) (by unfold zn; omega)
def kgt (r : zRr) (k : Int32) : Int32 := if r 139 (zn k) = 0 then r 141 (zn k) else -1
theorem kgt_0 {r : zRr} {k : Int32} (h : r 139 (zn k) = 0) : r 141 (zn k) = kgt r k := (if_pos h).symm
theorem kgt_1 {r : zRr} {k : Int32} (h : ¬ r 139 (zn k) = 0) : -1 = kgt r k := (if_neg h).symm
